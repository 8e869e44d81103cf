theorem dr_cX17_colours_0 : decode cX17_colours 0 = .ok (.iconst 0, 1) := by decide +kernel
theorem dr_cX17_colours_1 : decode cX17_colours 1 = .ok (.istore_n 2, 1) := by decide +kernel
theorem dr_cX17_colours_2 : decode cX17_colours 2 = .ok (.iload_n 2, 1) := by decide +kernel
theorem dr_cX17_colours_3 : decode cX17_colours 3 = .ok (.sipush 2000, 3) := by decide +kernel
theorem dr_cX17_colours_6 : decode cX17_colours 6 = .ok (.if_icmp .ge 56, 3) := by decide +kernel
theorem dr_cX17_colours_62 : decode cX17_colours 62 = .ok (.iconst 0, 1) := by decide +kernel
theorem dr_cX17_colours_63 : decode cX17_colours 63 = .ok (.istore_n 2, 1) := by decide +kernel
theorem dr_cX17_colours_64 : decode cX17_colours 64 = .ok (.aload_n 0, 1) := by decide +kernel
theorem dr_cX17_colours_65 : decode cX17_colours 65 = .ok (.iload_n 1, 1) := by decide +kernel
theorem dr_cX17_colours_66 : decode cX17_colours 66 = .ok (.invokevirtual 215, 3) := by decide +kernel
theorem wr_11_51 : (Jvm.Cond.methodLink "SpillForgeModel" (215 : Nat) ({ cls := "SpillForgeModel", name := "next", desc := "(I)I" } : Jvm.MethodName)) ∈ gw := gw_11 51 rfl rfl
theorem wr_11_54 : (Jvm.Cond.code ({ cls := "SpillForgeModel", name := "next", desc := "(I)I" } : Jvm.MethodName) prog_14_method_20_code (7 : Nat) (Option.some Jvm.ClassFile.FieldType.int)) ∈ gw := gw_11 54 rfl rfl
theorem wr_11_53 : (Jvm.Cond.instanceMethod ({ cls := "SpillForgeModel", name := "next", desc := "(I)I" } : Jvm.MethodName)) ∈ gw := gw_11 53 rfl rfl
theorem wr_p_107 : Cond.selects "SpillForgeModel" ⟨"SpillForgeModel", "next", "(I)I"⟩ ⟨"SpillForgeModel", "next", "(I)I"⟩ ∈ gw := gw_p _ 107 rfl rfl rfl
theorem dr_cX17_colours_69 : decode cX17_colours 69 = .ok (.istore_n 3, 1) := by decide +kernel
theorem dr_cX17_colours_70 : decode cX17_colours 70 = .ok (.iload_n 3, 1) := by decide +kernel
theorem dr_cX17_colours_71 : decode cX17_colours 71 = .ok (.ifCond .lt 71, 3) := by decide +kernel
theorem dr_cX17_colours_142 : decode cX17_colours 142 = .ok (.iconst 0, 1) := by decide +kernel
theorem dr_cX17_colours_143 : decode cX17_colours 143 = .ok (.istore_n 3, 1) := by decide +kernel
theorem dr_cX17_colours_144 : decode cX17_colours 144 = .ok (.iload_n 2, 1) := by decide +kernel
theorem dr_cX17_colours_145 : decode cX17_colours 145 = .ok (.ifCond .le 108, 3) := by decide +kernel
theorem dr_cX17_colours_253 : decode cX17_colours 253 = .ok (.iload_n 3, 1) := by decide +kernel
theorem dr_cX17_colours_254 : decode cX17_colours 254 = .ok (.ireturn, 1) := by decide +kernel
theorem dr_cX17_colours_148 : decode cX17_colours 148 = .ok (.iinc 2 (-1), 3) := by decide +kernel
theorem dr_cX17_colours_151 : decode cX17_colours 151 = .ok (.aload_n 0, 1) := by decide +kernel
theorem dr_cX17_colours_152 : decode cX17_colours 152 = .ok (.getfield 218, 3) := by decide +kernel
theorem wr_7_89 : (Jvm.Cond.fieldLink "SpillForgeModel" (218 : Nat) "SpillForgeModel" "pile" "[I") ∈ gw := gw_7 89 rfl rfl
theorem dr_cX17_colours_155 : decode cX17_colours 155 = .ok (.iload_n 2, 1) := by decide +kernel
theorem dr_cX17_colours_156 : decode cX17_colours 156 = .ok (.iaload, 1) := by decide +kernel
theorem dr_cX17_colours_157 : decode cX17_colours 157 = .ok (.istore 4, 2) := by decide +kernel
theorem dr_cX17_colours_159 : decode cX17_colours 159 = .ok (.lconst 0, 1) := by decide +kernel
theorem dr_cX17_colours_160 : decode cX17_colours 160 = .ok (.lstore 5, 2) := by decide +kernel
theorem dr_cX17_colours_162 : decode cX17_colours 162 = .ok (.iconst 0, 1) := by decide +kernel
theorem dr_cX17_colours_163 : decode cX17_colours 163 = .ok (.istore 7, 2) := by decide +kernel
theorem dr_cX17_colours_165 : decode cX17_colours 165 = .ok (.iload 7, 2) := by decide +kernel
theorem dr_cX17_colours_167 : decode cX17_colours 167 = .ok (.sipush 2000, 3) := by decide +kernel
theorem dr_cX17_colours_170 : decode cX17_colours 170 = .ok (.if_icmp .ge 48, 3) := by decide +kernel
theorem dr_cX17_colours_218 : decode cX17_colours 218 = .ok (.lload 5, 2) := by decide +kernel
theorem dr_cX17_colours_220 : decode cX17_colours 220 = .ok (.ldc2_w 31, 3) := by decide +kernel
theorem dr_cX17_colours_223 : decode cX17_colours 223 = .ok (.lxor, 1) := by decide +kernel
theorem dr_cX17_colours_224 : decode cX17_colours 224 = .ok (.invokestatic 149, 3) := by decide +kernel
theorem dr_cX17_colours_227 : decode cX17_colours 227 = .ok (.istore 7, 2) := by decide +kernel
theorem dr_cX17_colours_229 : decode cX17_colours 229 = .ok (.iload 7, 2) := by decide +kernel
theorem dr_cX17_colours_231 : decode cX17_colours 231 = .ok (.iload_n 1, 1) := by decide +kernel
theorem dr_cX17_colours_232 : decode cX17_colours 232 = .ok (.if_icmp .ge 15, 3) := by decide +kernel
theorem dr_cX17_colours_247 : decode cX17_colours 247 = .ok (.iinc 3 1, 3) := by decide +kernel
theorem dr_cX17_colours_250 : decode cX17_colours 250 = .ok (.goto (-106), 3) := by decide +kernel
theorem dr_cX17_colours_235 : decode cX17_colours 235 = .ok (.aload_n 0, 1) := by decide +kernel
theorem dr_cX17_colours_236 : decode cX17_colours 236 = .ok (.getfield 212, 3) := by decide +kernel
theorem wr_7_91 : (Jvm.Cond.fieldLink "SpillForgeModel" (212 : Nat) "SpillForgeModel" "colour" "[I") ∈ gw := gw_7 91 rfl rfl
theorem dr_cX17_colours_239 : decode cX17_colours 239 = .ok (.iload 4, 2) := by decide +kernel
theorem dr_cX17_colours_241 : decode cX17_colours 241 = .ok (.iload 7, 2) := by decide +kernel
theorem dr_cX17_colours_243 : decode cX17_colours 243 = .ok (.iastore, 1) := by decide +kernel
theorem dr_cX17_colours_244 : decode cX17_colours 244 = .ok (.goto 6, 3) := by decide +kernel
theorem dr_cX17_colours_173 : decode cX17_colours 173 = .ok (.aload_n 0, 1) := by decide +kernel
theorem dr_cX17_colours_174 : decode cX17_colours 174 = .ok (.getfield 212, 3) := by decide +kernel
theorem dr_cX17_colours_177 : decode cX17_colours 177 = .ok (.iload 7, 2) := by decide +kernel
theorem dr_cX17_colours_179 : decode cX17_colours 179 = .ok (.iaload, 1) := by decide +kernel
theorem dr_cX17_colours_180 : decode cX17_colours 180 = .ok (.ifCond .lt 32, 3) := by decide +kernel
theorem dr_cX17_colours_212 : decode cX17_colours 212 = .ok (.iinc 7 1, 3) := by decide +kernel
theorem dr_cX17_colours_215 : decode cX17_colours 215 = .ok (.goto (-50), 3) := by decide +kernel
theorem dr_cX17_colours_183 : decode cX17_colours 183 = .ok (.aload_n 0, 1) := by decide +kernel
theorem dr_cX17_colours_184 : decode cX17_colours 184 = .ok (.getfield 135, 3) := by decide +kernel
theorem dr_cX17_colours_187 : decode cX17_colours 187 = .ok (.iload 4, 2) := by decide +kernel
theorem dr_cX17_colours_189 : decode cX17_colours 189 = .ok (.aaload, 1) := by decide +kernel
theorem dr_cX17_colours_190 : decode cX17_colours 190 = .ok (.iload 7, 2) := by decide +kernel
theorem dr_cX17_colours_192 : decode cX17_colours 192 = .ok (.invokestatic 145, 3) := by decide +kernel
theorem dr_cX17_colours_195 : decode cX17_colours 195 = .ok (.ifCond .eq 17, 3) := by decide +kernel
theorem dr_cX17_colours_198 : decode cX17_colours 198 = .ok (.lload 5, 2) := by decide +kernel
theorem dr_cX17_colours_200 : decode cX17_colours 200 = .ok (.lconst 1, 1) := by decide +kernel
theorem dr_cX17_colours_201 : decode cX17_colours 201 = .ok (.aload_n 0, 1) := by decide +kernel
theorem dr_cX17_colours_202 : decode cX17_colours 202 = .ok (.getfield 212, 3) := by decide +kernel
theorem dr_cX17_colours_205 : decode cX17_colours 205 = .ok (.iload 7, 2) := by decide +kernel
theorem dr_cX17_colours_207 : decode cX17_colours 207 = .ok (.iaload, 1) := by decide +kernel
theorem dr_cX17_colours_208 : decode cX17_colours 208 = .ok (.lshl, 1) := by decide +kernel
theorem dr_cX17_colours_209 : decode cX17_colours 209 = .ok (.lor, 1) := by decide +kernel
theorem dr_cX17_colours_210 : decode cX17_colours 210 = .ok (.lstore 5, 2) := by decide +kernel
theorem dr_cX17_colours_74 : decode cX17_colours 74 = .ok (.aload_n 0, 1) := by decide +kernel
theorem dr_cX17_colours_75 : decode cX17_colours 75 = .ok (.getfield 218, 3) := by decide +kernel
theorem dr_cX17_colours_78 : decode cX17_colours 78 = .ok (.iload_n 2, 1) := by decide +kernel
theorem dr_cX17_colours_79 : decode cX17_colours 79 = .ok (.iload_n 3, 1) := by decide +kernel
theorem dr_cX17_colours_80 : decode cX17_colours 80 = .ok (.iastore, 1) := by decide +kernel
theorem dr_cX17_colours_81 : decode cX17_colours 81 = .ok (.iinc 2 1, 3) := by decide +kernel
theorem dr_cX17_colours_84 : decode cX17_colours 84 = .ok (.aload_n 0, 1) := by decide +kernel
theorem dr_cX17_colours_85 : decode cX17_colours 85 = .ok (.getfield 206, 3) := by decide +kernel
theorem dr_cX17_colours_88 : decode cX17_colours 88 = .ok (.iload_n 3, 1) := by decide +kernel
theorem dr_cX17_colours_89 : decode cX17_colours 89 = .ok (.iconst 0, 1) := by decide +kernel
theorem dr_cX17_colours_90 : decode cX17_colours 90 = .ok (.bastore, 1) := by decide +kernel
theorem dr_cX17_colours_91 : decode cX17_colours 91 = .ok (.iconst 0, 1) := by decide +kernel
theorem dr_cX17_colours_92 : decode cX17_colours 92 = .ok (.istore 4, 2) := by decide +kernel
theorem dr_cX17_colours_94 : decode cX17_colours 94 = .ok (.iload 4, 2) := by decide +kernel
theorem dr_cX17_colours_96 : decode cX17_colours 96 = .ok (.sipush 2000, 3) := by decide +kernel
theorem dr_cX17_colours_99 : decode cX17_colours 99 = .ok (.if_icmp .ge 34, 3) := by decide +kernel
theorem dr_cX17_colours_133 : decode cX17_colours 133 = .ok (.aload_n 0, 1) := by decide +kernel
theorem dr_cX17_colours_134 : decode cX17_colours 134 = .ok (.iload_n 1, 1) := by decide +kernel
theorem dr_cX17_colours_135 : decode cX17_colours 135 = .ok (.invokevirtual 215, 3) := by decide +kernel
theorem dr_cX17_colours_138 : decode cX17_colours 138 = .ok (.istore_n 3, 1) := by decide +kernel
theorem dr_cX17_colours_139 : decode cX17_colours 139 = .ok (.goto (-69), 3) := by decide +kernel
theorem dr_cX17_colours_102 : decode cX17_colours 102 = .ok (.aload_n 0, 1) := by decide +kernel
theorem dr_cX17_colours_103 : decode cX17_colours 103 = .ok (.getfield 135, 3) := by decide +kernel
theorem dr_cX17_colours_106 : decode cX17_colours 106 = .ok (.iload_n 3, 1) := by decide +kernel
theorem dr_cX17_colours_107 : decode cX17_colours 107 = .ok (.aaload, 1) := by decide +kernel
theorem dr_cX17_colours_108 : decode cX17_colours 108 = .ok (.iload 4, 2) := by decide +kernel
theorem dr_cX17_colours_110 : decode cX17_colours 110 = .ok (.invokestatic 145, 3) := by decide +kernel
theorem dr_cX17_colours_113 : decode cX17_colours 113 = .ok (.ifCond .eq 14, 3) := by decide +kernel
theorem dr_cX17_colours_127 : decode cX17_colours 127 = .ok (.iinc 4 1, 3) := by decide +kernel
theorem dr_cX17_colours_130 : decode cX17_colours 130 = .ok (.goto (-36), 3) := by decide +kernel
theorem dr_cX17_colours_116 : decode cX17_colours 116 = .ok (.aload_n 0, 1) := by decide +kernel
theorem dr_cX17_colours_117 : decode cX17_colours 117 = .ok (.getfield 209, 3) := by decide +kernel
theorem dr_cX17_colours_120 : decode cX17_colours 120 = .ok (.iload 4, 2) := by decide +kernel
theorem dr_cX17_colours_122 : decode cX17_colours 122 = .ok (.dup2, 1) := by decide +kernel
theorem dr_cX17_colours_123 : decode cX17_colours 123 = .ok (.iaload, 1) := by decide +kernel
theorem dr_cX17_colours_124 : decode cX17_colours 124 = .ok (.iconst 1, 1) := by decide +kernel
theorem dr_cX17_colours_125 : decode cX17_colours 125 = .ok (.isub, 1) := by decide +kernel
theorem dr_cX17_colours_126 : decode cX17_colours 126 = .ok (.iastore, 1) := by decide +kernel
theorem dr_cX17_colours_9 : decode cX17_colours 9 = .ok (.aload_n 0, 1) := by decide +kernel
theorem dr_cX17_colours_10 : decode cX17_colours 10 = .ok (.getfield 206, 3) := by decide +kernel
theorem dr_cX17_colours_13 : decode cX17_colours 13 = .ok (.iload_n 2, 1) := by decide +kernel
theorem dr_cX17_colours_14 : decode cX17_colours 14 = .ok (.aload_n 0, 1) := by decide +kernel
theorem dr_cX17_colours_15 : decode cX17_colours 15 = .ok (.getfield 131, 3) := by decide +kernel
theorem dr_cX17_colours_18 : decode cX17_colours 18 = .ok (.iload_n 2, 1) := by decide +kernel
theorem dr_cX17_colours_19 : decode cX17_colours 19 = .ok (.baload, 1) := by decide +kernel
theorem dr_cX17_colours_20 : decode cX17_colours 20 = .ok (.bastore, 1) := by decide +kernel
theorem dr_cX17_colours_21 : decode cX17_colours 21 = .ok (.aload_n 0, 1) := by decide +kernel
theorem dr_cX17_colours_22 : decode cX17_colours 22 = .ok (.getfield 209, 3) := by decide +kernel
theorem dr_cX17_colours_25 : decode cX17_colours 25 = .ok (.iload_n 2, 1) := by decide +kernel
theorem dr_cX17_colours_26 : decode cX17_colours 26 = .ok (.aload_n 0, 1) := by decide +kernel
theorem dr_cX17_colours_27 : decode cX17_colours 27 = .ok (.getfield 131, 3) := by decide +kernel
theorem dr_cX17_colours_30 : decode cX17_colours 30 = .ok (.iload_n 2, 1) := by decide +kernel
theorem dr_cX17_colours_31 : decode cX17_colours 31 = .ok (.baload, 1) := by decide +kernel
theorem dr_cX17_colours_32 : decode cX17_colours 32 = .ok (.ifCond .eq 15, 3) := by decide +kernel
theorem dr_cX17_colours_47 : decode cX17_colours 47 = .ok (.iconst 0, 1) := by decide +kernel
theorem dr_cX17_colours_48 : decode cX17_colours 48 = .ok (.iastore, 1) := by decide +kernel
theorem dr_cX17_colours_49 : decode cX17_colours 49 = .ok (.aload_n 0, 1) := by decide +kernel
theorem dr_cX17_colours_50 : decode cX17_colours 50 = .ok (.getfield 212, 3) := by decide +kernel
theorem dr_cX17_colours_53 : decode cX17_colours 53 = .ok (.iload_n 2, 1) := by decide +kernel
theorem dr_cX17_colours_54 : decode cX17_colours 54 = .ok (.iconst (-1), 1) := by decide +kernel
theorem dr_cX17_colours_55 : decode cX17_colours 55 = .ok (.iastore, 1) := by decide +kernel
theorem dr_cX17_colours_56 : decode cX17_colours 56 = .ok (.iinc 2 1, 3) := by decide +kernel
theorem dr_cX17_colours_59 : decode cX17_colours 59 = .ok (.goto (-57), 3) := by decide +kernel
theorem dr_cX17_colours_35 : decode cX17_colours 35 = .ok (.aload_n 0, 1) := by decide +kernel
theorem dr_cX17_colours_36 : decode cX17_colours 36 = .ok (.getfield 135, 3) := by decide +kernel
theorem dr_cX17_colours_39 : decode cX17_colours 39 = .ok (.iload_n 2, 1) := by decide +kernel
theorem dr_cX17_colours_40 : decode cX17_colours 40 = .ok (.aaload, 1) := by decide +kernel
theorem dr_cX17_colours_41 : decode cX17_colours 41 = .ok (.invokestatic 202, 3) := by decide +kernel
theorem dr_cX17_colours_44 : decode cX17_colours 44 = .ok (.goto 4, 3) := by decide +kernel
abbrev ky_328209_SpillForgeModel_next : gKey := (cX17_next, 7, "SpillForgeModel", (some FieldType.int), [], "next", fun _ _ => True)
def pt_328209_SpillForgeModel_next (D : va_G) (I : FieldType → ClassId) (γ el : Nat → Nat → Nat) (P328205 : List Nat) (F328206 : Nat → va_E) (q328207 : Nat) (p328208 : Int32) : Option Value → va_W → Nat → Nat → Prop := fun r w dc ds => ∃ (o328915 : Int32), r = some (.int o328915) ∧ w = va_pl P328205 F328206 ∧ dc ≤ 0 ∧ ds ≤ 0 ∧ gB o328915 (-1) 1999 ∧ (gIp (0 ≤ o328915.toInt) (rSd (cB (F328206 (γ 9 18))) (o328915.toInt : Int).toNat)) ∧ (gIp (o328915.toInt < 0) (∀ m : Nat, ¬ rSd (cB (F328206 (γ 9 18))) m))
set_option maxRecDepth 100000 in
set_option maxHeartbeats 4000000 in
theorem ct_328209_SpillForgeModel_next (l : Launch) (hl0 : l.stackTraces = false) (D : va_G) (I : FieldType → ClassId) (γ el : Nat → Nat → Nat) (P328205 : List Nat) (F328206 : Nat → va_E) (q328207 : Nat) (p328208 : Int32) (hT : RS D I P328205 F328206 γ el) (htq328207 : rKd γ q328207 10) : CtA (gV D I) l yX17_next cX17_next 7 (some FieldType.int) 0 0 0 0 [.ref q328207, .int p328208] (va_pl P328205 F328206) (pt_328209_SpillForgeModel_next D I γ el P328205 F328206 q328207 p328208) gNA := by
  refine CtA_of hl0 (by decide) (Nat.le_of_ble_eq_true rfl) ?_
  have bp328208 := gB_any p328208
  have hm328210 : q328207 ∈ P328205 := RS_m hT htq328207 (by decide)
  obtain ⟨q328212, q328213, p328214, p328215, p328216, p328217, p328218, p328219, p328220, p328221, p328222, p328223, p328224, p328225, p328226, p328227, p328228, he328211, hB328255, ht328229, ht328230, ht328231, ht328232, ht328233, ht328234, ht328235, ht328236, ht328237, ht328238, ht328239, ht328240, ht328241, ht328242, ht328243, ht328244, ht328245, ht328246, ht328247, ht328248, ht328249, ht328250, ht328251, ht328252, hB328256⟩ := show rk_10 γ (F328206 q328207) from RS_o hT htq328207
  have hm328257 : (γ 9 18) ∈ P328205 := RS_m hT ht328243 (by decide)
  obtain ⟨f328259, he328258, bf328259⟩ := show rk_15 I (F328206 (γ 9 18)) from RS_o hT ht328243
  refine G_iconst 0 dr_cX17_next_0 (by decide +kernel) ?_
  refine G_istore_n (L' := [(2, .int 0), (0, .ref q328207), (1, .int p328208)]) dr_cX17_next_1 (Nat.le_of_ble_eq_true rfl) rfl ?_
  have hlp2_328714 : ∀ (n2_328714 : Nat) (g328714 : Int32), gB g328714 0 2000 → ((2001 : Int) - g328714.toInt).toNat < n2_328714 → G (gV D I) l (gRm 0 0 0 0) (gMA (gV D I) (pt_328209_SpillForgeModel_next D I γ el P328205 F328206 q328207 p328208) gNA 0 0) ky_328209_SpillForgeModel_next 2 [(2, .int g328714), (0, .ref q328207), (1, .int p328208)] [] (va_pl P328205 F328206) 0 0 := by
    intro n2_328714
    induction n2_328714 with
    | zero => intro g328714 bg328714 hm2_328714; exact absurd hm2_328714 (Nat.not_lt_zero _)
    | succ n2_328714 ih2_328714 =>
      intro g328714 bg328714 hm2_328714
      refine G_iload_n 0 dr_cX17_next_2 rfl ?_
      refine G_sipush 2000 dr_cX17_next_3 (by decide +kernel) ?_
      refine G_icmp_ge 36 dr_cX17_next_6 (by decide +kernel) (fun hc328716 => ?_) (fun hc328716 => ?_)
      · have r328717 : 2000 ≤ g328714.toInt := gj_leL hc328716 (show Int32.toInt 2000 = 2000 by decide)
        have bg328714' : gB g328714 2000 2000 := ⟨by omega, by omega⟩
        refine G_iconst (-1) dr_cX17_next_36 (by decide +kernel) ?_
        refine G_istore_n (L' := [(2, .int (-1)), (0, .ref q328207), (1, .int p328208)]) dr_cX17_next_37 (Nat.le_of_ble_eq_true rfl) rfl ?_
        refine G_iconst 0 dr_cX17_next_38 (by decide +kernel) ?_
        refine G_istore_n (L' := [(3, .int 0), (2, .int (-1)), (0, .ref q328207), (1, .int p328208)]) dr_cX17_next_39 (Nat.le_of_ble_eq_true rfl) rfl ?_
        have hlp40_328811 : ∀ (n40_328811 : Nat) (g328808 : Int32) (g328809 : Int32), gB g328808 0 2000 → gB g328809 (-1) 1999 → (gIp (g328809.toInt < 0) (∀ m : Nat, (m : Int) < g328808.toInt → ¬ rSd (cB (F328206 (γ 9 18))) m)) → (gIp (0 ≤ g328809.toInt) (rSd (cB (F328206 (γ 9 18))) (g328809.toInt : Int).toNat)) → ((2001 : Int) - g328808.toInt).toNat < n40_328811 → G (gV D I) l (gRm 0 0 0 0) (gMA (gV D I) (pt_328209_SpillForgeModel_next D I γ el P328205 F328206 q328207 p328208) gNA 0 0) ky_328209_SpillForgeModel_next 40 [(3, .int g328808), (2, .int g328809), (0, .ref q328207), (1, .int p328208)] [] (va_pl P328205 F328206) 0 0 := by
          intro n40_328811
          induction n40_328811 with
          | zero => intro g328808 g328809 bg328808 bg328809 x328810 x328811 hm40_328811; exact absurd hm40_328811 (Nat.not_lt_zero _)
          | succ n40_328811 ih40_328811 =>
            intro g328808 g328809 bg328808 bg328809 x328810 x328811 hm40_328811
            refine G_iload_n 0 dr_cX17_next_40 rfl ?_
            refine G_sipush 2000 dr_cX17_next_41 (by decide +kernel) ?_
            refine G_icmp_ge 171 dr_cX17_next_44 (by decide +kernel) (fun hc328813 => ?_) (fun hc328813 => ?_)
            · have r328814 : 2000 ≤ g328808.toInt := gj_leL hc328813 (show Int32.toInt 2000 = 2000 by decide)
              have bg328808' : gB g328808 2000 2000 := ⟨by omega, by omega⟩
              refine G_iload_n 1 dr_cX17_next_171 rfl ?_
              exact G_iretA dr_cX17_next_172 rfl (Nat.le_of_ble_eq_true rfl) (Nat.le_of_ble_eq_true rfl) ⟨g328809, rfl, rfl, (Nat.le_of_ble_eq_true rfl), (Nat.le_of_ble_eq_true rfl), bg328809, x328811, (fun h m hm => x328810 h m (by have := hm.1; omega) hm)⟩
            · have r328815 : g328808.toInt < 2000 := gj_nleL hc328813 (show Int32.toInt 2000 = 2000 by decide)
              have bg328808' : gB g328808 0 1999 := ⟨by omega, by omega⟩
              refine G_aload_n 2 dr_cX17_next_47 rfl ?_
              refine Gp_get 18 hm328210 he328211 dr_cX17_next_48 (gk_X17 D I) (Nat.le_of_ble_eq_true rfl) wr_7_92 rfl ?_
              refine G_iload_n 0 dr_cX17_next_51 rfl ?_
              refine Gp_zald 3 hm328257 he328258 dr_cX17_next_52 rfl (gB_in bg328808' (by decide) (by decide)) (G_nam fun z328816 hz328816 => ?_)
              have bz328816 : gB z328816 0 1 := by rw [hz328816]; exact bf328259 _
              refine G_if_ne 59 dr_cX17_next_53 (by decide +kernel) (fun hc328817 => ?_) (fun hc328817 => ?_)
              · have r328818 : z328816.toInt ≠ 0 := gj_neq hc328817 (show Int32.toInt 0 = 0 by decide)
                have bz328816' : gB z328816 1 1 := ⟨by omega, by omega⟩
                refine G_iload_n 1 dr_cX17_next_59 rfl ?_
                refine G_if_ge 68 dr_cX17_next_60 (by decide +kernel) (fun hc328819 => ?_) (fun hc328819 => ?_)
                · have r328820 : 0 ≤ g328809.toInt := gj_leL hc328819 (show Int32.toInt 0 = 0 by decide)
                  have bg328809' : gB g328809 0 1999 := ⟨by omega, by omega⟩
                  refine G_iload_n 0 dr_cX17_next_68 rfl ?_
                  refine G_bipush 100 dr_cX17_next_69 (by decide +kernel) ?_
                  refine G_icmp_lt 78 dr_cX17_next_71 (by decide +kernel) (fun hc328821 => ?_) (fun hc328821 => ?_)
                  · have r328822 : g328808.toInt < 100 := gj_lt hc328821 (show Int32.toInt 100 = 100 by decide)
                    have bg328808'' : gB g328808 0 99 := ⟨by omega, by omega⟩
                    refine G_iconst 0 dr_cX17_next_78 (by decide +kernel) ?_
                    refine G_istore (L' := [(4, .int 0), (3, .int g328808), (2, .int g328809), (0, .ref q328207), (1, .int p328208)]) dr_cX17_next_79 (Nat.le_of_ble_eq_true rfl) rfl ?_
                    refine G_iload_n 2 dr_cX17_next_81 rfl ?_
                    refine G_bipush 100 dr_cX17_next_82 (by decide +kernel) ?_
                    refine G_icmp_lt 91 dr_cX17_next_84 (by decide +kernel) (fun hc328823 => ?_) (fun hc328823 => ?_)
                    · have r328824 : g328809.toInt < 100 := gj_lt hc328823 (show Int32.toInt 100 = 100 by decide)
                      have bg328809'' : gB g328809 0 99 := ⟨by omega, by omega⟩
                      refine G_iconst 0 dr_cX17_next_91 (by decide +kernel) ?_
                      refine G_istore (L' := [(5, .int 0), (4, .int 0), (3, .int g328808), (2, .int g328809), (0, .ref q328207), (1, .int p328208)]) dr_cX17_next_92 (Nat.le_of_ble_eq_true rfl) rfl ?_
                      refine G_iload 1 dr_cX17_next_94 rfl ?_
                      refine G_if_eq 107 dr_cX17_next_96 (by decide +kernel) (fun _ => ?_) (fun hc => absurd hc (by decide))
                      refine G_aload_n 4 dr_cX17_next_107 rfl ?_
                      refine Gp_get 5 hm328210 he328211 dr_cX17_next_108 (gk_X17 D I) (Nat.le_of_ble_eq_true rfl) wr_7_79 rfl ?_
                      refine G_iload_n 2 dr_cX17_next_111 rfl ?_
                      have hm328825 : (γ 9 5) ∈ P328205 := RS_m hT ht328236 (by decide)
                      obtain ⟨f328827, he328826⟩ := show rk_17 I (F328206 (γ 9 5)) from RS_o hT ht328236
                      refine Gp_iald 0 hm328825 he328826 dr_cX17_next_112 rfl (gB_in bg328808'' (by decide) (by decide)) (G_nam fun z328828 hz328828 => ?_)
                      have bz328828 : gB z328828 (-2147483648) 2147483647 := gB_any z328828
                      refine G_i2l dr_cX17_next_113 (G_namL fun u328829 hu328829 => ?_)
                      refine G_aload_n 4 dr_cX17_next_114 rfl ?_
                      refine Gp_get 16 hm328210 he328211 dr_cX17_next_115 (gk_X17 D I) (Nat.le_of_ble_eq_true rfl) wr_7_90 rfl ?_
                      refine G_iload_n 3 dr_cX17_next_118 rfl ?_
                      have hm328830 : (γ 9 16) ∈ P328205 := RS_m hT ht328241 (by decide)
                      obtain ⟨f328832, he328831⟩ := show rk_19 I (F328206 (γ 9 16)) from RS_o hT ht328241
                      refine Gp_iald 0 hm328830 he328831 dr_cX17_next_119 rfl (gB_in bg328809'' (by decide) (by decide)) (G_nam fun z328833 hz328833 => ?_)
                      have bz328833 : gB z328833 (-2147483648) 2147483647 := gB_any z328833
                      refine G_i2l dr_cX17_next_120 (G_namL fun u328834 hu328834 => ?_)
                      refine G_lmul dr_cX17_next_121 (G_namL fun u328835 hu328835 => ?_)
                      refine G_aload_n 4 dr_cX17_next_122 rfl ?_
                      refine Gp_get 5 hm328210 he328211 dr_cX17_next_123 (gk_X17 D I) (Nat.le_of_ble_eq_true rfl) wr_7_79 rfl ?_
                      refine G_iload_n 3 dr_cX17_next_126 rfl ?_
                      refine Gp_iald 0 hm328825 he328826 dr_cX17_next_127 rfl (gB_in bg328809'' (by decide) (by decide)) (G_nam fun z328836 hz328836 => ?_)
                      have bz328836 : gB z328836 (-2147483648) 2147483647 := gB_any z328836
                      refine G_i2l dr_cX17_next_128 (G_namL fun u328837 hu328837 => ?_)
                      refine G_aload_n 4 dr_cX17_next_129 rfl ?_
                      refine Gp_get 16 hm328210 he328211 dr_cX17_next_130 (gk_X17 D I) (Nat.le_of_ble_eq_true rfl) wr_7_90 rfl ?_
                      refine G_iload_n 2 dr_cX17_next_133 rfl ?_
                      refine Gp_iald 0 hm328830 he328831 dr_cX17_next_134 rfl (gB_in bg328808'' (by decide) (by decide)) (G_nam fun z328838 hz328838 => ?_)
                      have bz328838 : gB z328838 (-2147483648) 2147483647 := gB_any z328838
                      refine G_i2l dr_cX17_next_135 (G_namL fun u328839 hu328839 => ?_)
                      refine G_lmul dr_cX17_next_136 (G_namL fun u328840 hu328840 => ?_)
                      refine G_lcmp dr_cX17_next_137 (G_nam fun z328841 hz328841 => ?_)
                      have bz328841 : gB z328841 (-1) 1 := gB_cmp hz328841
                      refine G_if_ge 145 dr_cX17_next_138 (by decide +kernel) (fun hc328842 => ?_) (fun hc328842 => ?_)
                      · have r328843 : 0 ≤ z328841.toInt := gj_leL hc328842 (show Int32.toInt 0 = 0 by decide)
                        have bz328841' : gB z328841 0 1 := ⟨by omega, by omega⟩
                        refine G_iconst 0 dr_cX17_next_145 (by decide +kernel) ?_
                        refine G_istore (L' := [(6, .int 0), (5, .int 0), (4, .int 0), (3, .int g328808), (2, .int g328809), (0, .ref q328207), (1, .int p328208)]) dr_cX17_next_146 (Nat.le_of_ble_eq_true rfl) rfl ?_
                        refine G_iload 2 dr_cX17_next_148 rfl ?_
                        refine G_if_ne 158 dr_cX17_next_150 (by decide +kernel) (fun hc => absurd hc (by decide)) (fun _ => ?_)
                        refine G_iload 1 dr_cX17_next_153 rfl ?_
                        refine G_if_ne 163 dr_cX17_next_155 (by decide +kernel) (fun hc => absurd hc (by decide)) (fun _ => ?_)
                        refine G_iload 0 dr_cX17_next_158 rfl ?_
                        refine G_if_eq 165 dr_cX17_next_160 (by decide +kernel) (fun _ => ?_) (fun hc => absurd hc (by decide))
                        obtain ⟨z328844, hz328844⟩ : ∃ z : Int32, z = g328808 + Int32.ofInt 1 := ⟨_, rfl⟩
                        have ez328844 : z328844.toInt = g328808.toInt + 1 := gI_inc hz328844 (by decide) bg328808'' (by decide) (by decide)
                        have bz328844 : gB z328844 1 100 := ⟨by omega, by omega⟩
                        refine G_iinc (L' := [(3, .int z328844), (6, .int 0), (5, .int 0), (4, .int 0), (2, .int g328809), (0, .ref q328207), (1, .int p328208)]) z328844 3 dr_cX17_next_165 rfl hz328844.symm (Nat.le_of_ble_eq_true rfl) rfl ?_
                        refine G_goto 40 dr_cX17_next_168 (by decide +kernel) ?_
                        refine G_lv (L' := [(3, .int z328844), (2, .int g328809), (0, .ref q328207), (1, .int p328208)]) [0, 4, 5, 6] rfl ?_
                        exact ih40_328811 z328844 g328809 (gB_w bz328844 (by decide) (by decide)) (gB_w bg328809'' (by decide) (by decide)) (by first | exact fun h => absurd h (by omega) | exact fun h => (by rw [ez328844]; rw [cB_of he328258]; have q := x328810; rw [cB_of he328258] at q; exact nx_0 (q h) hz328816 (by omega) rfl)) x328811 (by omega)
                      · have r328845 : z328841.toInt < 0 := gj_nleL hc328842 (show Int32.toInt 0 = 0 by decide)
                        have bz328841' : gB z328841 (-1) (-1) := ⟨by omega, by omega⟩
                        have lhc328842 := gC_cmpS hz328841 (by omega)
                        refine G_iconst 1 dr_cX17_next_141 (by decide +kernel) ?_
                        refine G_goto 146 dr_cX17_next_142 (by decide +kernel) ?_
                        refine G_istore (L' := [(6, .int 1), (5, .int 0), (4, .int 0), (3, .int g328808), (2, .int g328809), (0, .ref q328207), (1, .int p328208)]) dr_cX17_next_146 (Nat.le_of_ble_eq_true rfl) rfl ?_
                        refine G_iload 2 dr_cX17_next_148 rfl ?_
                        refine G_if_ne 158 dr_cX17_next_150 (by decide +kernel) (fun hc => absurd hc (by decide)) (fun _ => ?_)
                        refine G_iload 1 dr_cX17_next_153 rfl ?_
                        refine G_if_ne 163 dr_cX17_next_155 (by decide +kernel) (fun hc => absurd hc (by decide)) (fun _ => ?_)
                        refine G_iload 0 dr_cX17_next_158 rfl ?_
                        refine G_if_eq 165 dr_cX17_next_160 (by decide +kernel) (fun hc => absurd hc (by decide)) (fun _ => ?_)
                        refine G_iload_n 3 dr_cX17_next_163 rfl ?_
                        refine G_istore_n (L' := [(2, .int g328808), (6, .int 1), (5, .int 0), (4, .int 0), (3, .int g328808), (0, .ref q328207), (1, .int p328208)]) dr_cX17_next_164 (Nat.le_of_ble_eq_true rfl) rfl ?_
                        obtain ⟨z328846, hz328846⟩ : ∃ z : Int32, z = g328808 + Int32.ofInt 1 := ⟨_, rfl⟩
                        have ez328846 : z328846.toInt = g328808.toInt + 1 := gI_inc hz328846 (by decide) bg328808'' (by decide) (by decide)
                        have bz328846 : gB z328846 1 100 := ⟨by omega, by omega⟩
                        refine G_iinc (L' := [(3, .int z328846), (2, .int g328808), (6, .int 1), (5, .int 0), (4, .int 0), (0, .ref q328207), (1, .int p328208)]) z328846 4 dr_cX17_next_165 rfl hz328846.symm (Nat.le_of_ble_eq_true rfl) rfl ?_
                        refine G_goto 40 dr_cX17_next_168 (by decide +kernel) ?_
                        refine G_lv (L' := [(3, .int z328846), (2, .int g328808), (0, .ref q328207), (1, .int p328208)]) [0, 1, 5, 6] rfl ?_
                        exact ih40_328811 z328846 g328808 (gB_w bz328846 (by decide) (by decide)) (gB_w bg328808'' (by decide) (by decide)) (by first | exact fun h => absurd h (by omega) | exact fun h => (by rw [ez328846]; rw [cB_of he328258]; have q := x328810; rw [cB_of he328258] at q; exact nx_0 (q h) hz328816 (by omega) rfl)) (fun _ => by rw [cB_of he328258]; exact sd_of hz328816 (by omega) (by omega) (by omega)) (by omega)
                    · have r328847 : 100 ≤ g328809.toInt := gj_nlt hc328823 (show Int32.toInt 100 = 100 by decide)
                      have bg328809'' : gB g328809 100 1999 := ⟨by omega, by omega⟩
                      refine G_iconst 1 dr_cX17_next_87 (by decide +kernel) ?_
                      refine G_goto 92 dr_cX17_next_88 (by decide +kernel) ?_
                      refine G_istore (L' := [(5, .int 1), (4, .int 0), (3, .int g328808), (2, .int g328809), (0, .ref q328207), (1, .int p328208)]) dr_cX17_next_92 (Nat.le_of_ble_eq_true rfl) rfl ?_
                      refine G_iload 1 dr_cX17_next_94 rfl ?_
                      refine G_if_eq 107 dr_cX17_next_96 (by decide +kernel) (fun _ => ?_) (fun hc => absurd hc (by decide))
                      refine G_aload_n 4 dr_cX17_next_107 rfl ?_
                      refine Gp_get 5 hm328210 he328211 dr_cX17_next_108 (gk_X17 D I) (Nat.le_of_ble_eq_true rfl) wr_7_79 rfl ?_
                      refine G_iload_n 2 dr_cX17_next_111 rfl ?_
                      have hm328848 : (γ 9 5) ∈ P328205 := RS_m hT ht328236 (by decide)
                      obtain ⟨f328850, he328849⟩ := show rk_17 I (F328206 (γ 9 5)) from RS_o hT ht328236
                      refine Gp_iald 0 hm328848 he328849 dr_cX17_next_112 rfl (gB_in bg328808'' (by decide) (by decide)) (G_nam fun z328851 hz328851 => ?_)
                      have bz328851 : gB z328851 (-2147483648) 2147483647 := gB_any z328851
                      refine G_i2l dr_cX17_next_113 (G_namL fun u328852 hu328852 => ?_)
                      refine G_aload_n 4 dr_cX17_next_114 rfl ?_
                      refine Gp_get 16 hm328210 he328211 dr_cX17_next_115 (gk_X17 D I) (Nat.le_of_ble_eq_true rfl) wr_7_90 rfl ?_
                      refine G_iload_n 3 dr_cX17_next_118 rfl ?_
                      have hm328853 : (γ 9 16) ∈ P328205 := RS_m hT ht328241 (by decide)
                      obtain ⟨f328855, he328854⟩ := show rk_19 I (F328206 (γ 9 16)) from RS_o hT ht328241
                      refine Gp_iald 0 hm328853 he328854 dr_cX17_next_119 rfl (gB_in bg328809'' (by decide) (by decide)) (G_nam fun z328856 hz328856 => ?_)
                      have bz328856 : gB z328856 (-2147483648) 2147483647 := gB_any z328856
                      refine G_i2l dr_cX17_next_120 (G_namL fun u328857 hu328857 => ?_)
                      refine G_lmul dr_cX17_next_121 (G_namL fun u328858 hu328858 => ?_)
                      refine G_aload_n 4 dr_cX17_next_122 rfl ?_
                      refine Gp_get 5 hm328210 he328211 dr_cX17_next_123 (gk_X17 D I) (Nat.le_of_ble_eq_true rfl) wr_7_79 rfl ?_
                      refine G_iload_n 3 dr_cX17_next_126 rfl ?_
                      refine Gp_iald 0 hm328848 he328849 dr_cX17_next_127 rfl (gB_in bg328809'' (by decide) (by decide)) (G_nam fun z328859 hz328859 => ?_)
                      have bz328859 : gB z328859 (-2147483648) 2147483647 := gB_any z328859
                      refine G_i2l dr_cX17_next_128 (G_namL fun u328860 hu328860 => ?_)
                      refine G_aload_n 4 dr_cX17_next_129 rfl ?_
                      refine Gp_get 16 hm328210 he328211 dr_cX17_next_130 (gk_X17 D I) (Nat.le_of_ble_eq_true rfl) wr_7_90 rfl ?_
                      refine G_iload_n 2 dr_cX17_next_133 rfl ?_
                      refine Gp_iald 0 hm328853 he328854 dr_cX17_next_134 rfl (gB_in bg328808'' (by decide) (by decide)) (G_nam fun z328861 hz328861 => ?_)
                      have bz328861 : gB z328861 (-2147483648) 2147483647 := gB_any z328861
                      refine G_i2l dr_cX17_next_135 (G_namL fun u328862 hu328862 => ?_)
                      refine G_lmul dr_cX17_next_136 (G_namL fun u328863 hu328863 => ?_)
                      refine G_lcmp dr_cX17_next_137 (G_nam fun z328864 hz328864 => ?_)
                      have bz328864 : gB z328864 (-1) 1 := gB_cmp hz328864
                      refine G_if_ge 145 dr_cX17_next_138 (by decide +kernel) (fun hc328865 => ?_) (fun hc328865 => ?_)
                      · have r328866 : 0 ≤ z328864.toInt := gj_leL hc328865 (show Int32.toInt 0 = 0 by decide)
                        have bz328864' : gB z328864 0 1 := ⟨by omega, by omega⟩
                        refine G_iconst 0 dr_cX17_next_145 (by decide +kernel) ?_
                        refine G_istore (L' := [(6, .int 0), (5, .int 1), (4, .int 0), (3, .int g328808), (2, .int g328809), (0, .ref q328207), (1, .int p328208)]) dr_cX17_next_146 (Nat.le_of_ble_eq_true rfl) rfl ?_
                        refine G_iload 2 dr_cX17_next_148 rfl ?_
                        refine G_if_ne 158 dr_cX17_next_150 (by decide +kernel) (fun hc => absurd hc (by decide)) (fun _ => ?_)
                        refine G_iload 1 dr_cX17_next_153 rfl ?_
                        refine G_if_ne 163 dr_cX17_next_155 (by decide +kernel) (fun _ => ?_) (fun hc => absurd hc (by decide))
                        refine G_iload_n 3 dr_cX17_next_163 rfl ?_
                        refine G_istore_n (L' := [(2, .int g328808), (6, .int 0), (5, .int 1), (4, .int 0), (3, .int g328808), (0, .ref q328207), (1, .int p328208)]) dr_cX17_next_164 (Nat.le_of_ble_eq_true rfl) rfl ?_
                        obtain ⟨z328867, hz328867⟩ : ∃ z : Int32, z = g328808 + Int32.ofInt 1 := ⟨_, rfl⟩
                        have ez328867 : z328867.toInt = g328808.toInt + 1 := gI_inc hz328867 (by decide) bg328808'' (by decide) (by decide)
                        have bz328867 : gB z328867 1 100 := ⟨by omega, by omega⟩
                        refine G_iinc (L' := [(3, .int z328867), (2, .int g328808), (6, .int 0), (5, .int 1), (4, .int 0), (0, .ref q328207), (1, .int p328208)]) z328867 4 dr_cX17_next_165 rfl hz328867.symm (Nat.le_of_ble_eq_true rfl) rfl ?_
                        refine G_goto 40 dr_cX17_next_168 (by decide +kernel) ?_
                        refine G_lv (L' := [(3, .int z328867), (2, .int g328808), (0, .ref q328207), (1, .int p328208)]) [0, 1, 5, 6] rfl ?_
                        exact ih40_328811 z328867 g328808 (gB_w bz328867 (by decide) (by decide)) (gB_w bg328808'' (by decide) (by decide)) (by first | exact fun h => absurd h (by omega) | exact fun h => (by rw [ez328867]; rw [cB_of he328258]; have q := x328810; rw [cB_of he328258] at q; exact nx_0 (q h) hz328816 (by omega) rfl)) (fun _ => by rw [cB_of he328258]; exact sd_of hz328816 (by omega) (by omega) (by omega)) (by omega)
                      · have r328868 : z328864.toInt < 0 := gj_nleL hc328865 (show Int32.toInt 0 = 0 by decide)
                        have bz328864' : gB z328864 (-1) (-1) := ⟨by omega, by omega⟩
                        have lhc328865 := gC_cmpS hz328864 (by omega)
                        refine G_iconst 1 dr_cX17_next_141 (by decide +kernel) ?_
                        refine G_goto 146 dr_cX17_next_142 (by decide +kernel) ?_
                        refine G_istore (L' := [(6, .int 1), (5, .int 1), (4, .int 0), (3, .int g328808), (2, .int g328809), (0, .ref q328207), (1, .int p328208)]) dr_cX17_next_146 (Nat.le_of_ble_eq_true rfl) rfl ?_
                        refine G_iload 2 dr_cX17_next_148 rfl ?_
                        refine G_if_ne 158 dr_cX17_next_150 (by decide +kernel) (fun hc => absurd hc (by decide)) (fun _ => ?_)
                        refine G_iload 1 dr_cX17_next_153 rfl ?_
                        refine G_if_ne 163 dr_cX17_next_155 (by decide +kernel) (fun _ => ?_) (fun hc => absurd hc (by decide))
                        refine G_iload_n 3 dr_cX17_next_163 rfl ?_
                        refine G_istore_n (L' := [(2, .int g328808), (6, .int 1), (5, .int 1), (4, .int 0), (3, .int g328808), (0, .ref q328207), (1, .int p328208)]) dr_cX17_next_164 (Nat.le_of_ble_eq_true rfl) rfl ?_
                        obtain ⟨z328869, hz328869⟩ : ∃ z : Int32, z = g328808 + Int32.ofInt 1 := ⟨_, rfl⟩
                        have ez328869 : z328869.toInt = g328808.toInt + 1 := gI_inc hz328869 (by decide) bg328808'' (by decide) (by decide)
                        have bz328869 : gB z328869 1 100 := ⟨by omega, by omega⟩
                        refine G_iinc (L' := [(3, .int z328869), (2, .int g328808), (6, .int 1), (5, .int 1), (4, .int 0), (0, .ref q328207), (1, .int p328208)]) z328869 4 dr_cX17_next_165 rfl hz328869.symm (Nat.le_of_ble_eq_true rfl) rfl ?_
                        refine G_goto 40 dr_cX17_next_168 (by decide +kernel) ?_
                        refine G_lv (L' := [(3, .int z328869), (2, .int g328808), (0, .ref q328207), (1, .int p328208)]) [0, 1, 5, 6] rfl ?_
                        exact ih40_328811 z328869 g328808 (gB_w bz328869 (by decide) (by decide)) (gB_w bg328808'' (by decide) (by decide)) (by first | exact fun h => absurd h (by omega) | exact fun h => (by rw [ez328869]; rw [cB_of he328258]; have q := x328810; rw [cB_of he328258] at q; exact nx_0 (q h) hz328816 (by omega) rfl)) (fun _ => by rw [cB_of he328258]; exact sd_of hz328816 (by omega) (by omega) (by omega)) (by omega)
                  · have r328870 : 100 ≤ g328808.toInt := gj_nlt hc328821 (show Int32.toInt 100 = 100 by decide)
                    have bg328808'' : gB g328808 100 1999 := ⟨by omega, by omega⟩
                    refine G_iconst 1 dr_cX17_next_74 (by decide +kernel) ?_
                    refine G_goto 79 dr_cX17_next_75 (by decide +kernel) ?_
                    refine G_istore (L' := [(4, .int 1), (3, .int g328808), (2, .int g328809), (0, .ref q328207), (1, .int p328208)]) dr_cX17_next_79 (Nat.le_of_ble_eq_true rfl) rfl ?_
                    refine G_iload_n 2 dr_cX17_next_81 rfl ?_
                    refine G_bipush 100 dr_cX17_next_82 (by decide +kernel) ?_
                    refine G_icmp_lt 91 dr_cX17_next_84 (by decide +kernel) (fun hc328871 => ?_) (fun hc328871 => ?_)
                    · have r328872 : g328809.toInt < 100 := gj_lt hc328871 (show Int32.toInt 100 = 100 by decide)
                      have bg328809'' : gB g328809 0 99 := ⟨by omega, by omega⟩
                      refine G_iconst 0 dr_cX17_next_91 (by decide +kernel) ?_
                      refine G_istore (L' := [(5, .int 0), (4, .int 1), (3, .int g328808), (2, .int g328809), (0, .ref q328207), (1, .int p328208)]) dr_cX17_next_92 (Nat.le_of_ble_eq_true rfl) rfl ?_
                      refine G_iload 1 dr_cX17_next_94 rfl ?_
                      refine G_if_eq 107 dr_cX17_next_96 (by decide +kernel) (fun hc => absurd hc (by decide)) (fun _ => ?_)
                      refine G_iload 0 dr_cX17_next_99 rfl ?_
                      refine G_if_ne 107 dr_cX17_next_101 (by decide +kernel) (fun hc => absurd hc (by decide)) (fun _ => ?_)
                      refine G_goto 165 dr_cX17_next_104 (by decide +kernel) ?_
                      obtain ⟨z328873, hz328873⟩ : ∃ z : Int32, z = g328808 + Int32.ofInt 1 := ⟨_, rfl⟩
                      have ez328873 : z328873.toInt = g328808.toInt + 1 := gI_inc hz328873 (by decide) bg328808'' (by decide) (by decide)
                      have bz328873 : gB z328873 101 2000 := ⟨by omega, by omega⟩
                      refine G_iinc (L' := [(3, .int z328873), (5, .int 0), (4, .int 1), (2, .int g328809), (0, .ref q328207), (1, .int p328208)]) z328873 2 dr_cX17_next_165 rfl hz328873.symm (Nat.le_of_ble_eq_true rfl) rfl ?_
                      refine G_goto 40 dr_cX17_next_168 (by decide +kernel) ?_
                      refine G_lv (L' := [(3, .int z328873), (2, .int g328809), (0, .ref q328207), (1, .int p328208)]) [0, 3, 4, 5] rfl ?_
                      exact ih40_328811 z328873 g328809 (gB_w bz328873 (by decide) (by decide)) (gB_w bg328809'' (by decide) (by decide)) (by first | exact fun h => absurd h (by omega) | exact fun h => (by rw [ez328873]; rw [cB_of he328258]; have q := x328810; rw [cB_of he328258] at q; exact nx_0 (q h) hz328816 (by omega) rfl)) x328811 (by omega)
                    · have r328874 : 100 ≤ g328809.toInt := gj_nlt hc328871 (show Int32.toInt 100 = 100 by decide)
                      have bg328809'' : gB g328809 100 1999 := ⟨by omega, by omega⟩
                      refine G_iconst 1 dr_cX17_next_87 (by decide +kernel) ?_
                      refine G_goto 92 dr_cX17_next_88 (by decide +kernel) ?_
                      refine G_istore (L' := [(5, .int 1), (4, .int 1), (3, .int g328808), (2, .int g328809), (0, .ref q328207), (1, .int p328208)]) dr_cX17_next_92 (Nat.le_of_ble_eq_true rfl) rfl ?_
                      refine G_iload 1 dr_cX17_next_94 rfl ?_
                      refine G_if_eq 107 dr_cX17_next_96 (by decide +kernel) (fun hc => absurd hc (by decide)) (fun _ => ?_)
                      refine G_iload 0 dr_cX17_next_99 rfl ?_
                      refine G_if_ne 107 dr_cX17_next_101 (by decide +kernel) (fun _ => ?_) (fun hc => absurd hc (by decide))
                      refine G_aload_n 4 dr_cX17_next_107 rfl ?_
                      refine Gp_get 5 hm328210 he328211 dr_cX17_next_108 (gk_X17 D I) (Nat.le_of_ble_eq_true rfl) wr_7_79 rfl ?_
                      refine G_iload_n 2 dr_cX17_next_111 rfl ?_
                      have hm328875 : (γ 9 5) ∈ P328205 := RS_m hT ht328236 (by decide)
                      obtain ⟨f328877, he328876⟩ := show rk_17 I (F328206 (γ 9 5)) from RS_o hT ht328236
                      refine Gp_iald 0 hm328875 he328876 dr_cX17_next_112 rfl (gB_in bg328808'' (by decide) (by decide)) (G_nam fun z328878 hz328878 => ?_)
                      have bz328878 : gB z328878 (-2147483648) 2147483647 := gB_any z328878
                      refine G_i2l dr_cX17_next_113 (G_namL fun u328879 hu328879 => ?_)
                      refine G_aload_n 4 dr_cX17_next_114 rfl ?_
                      refine Gp_get 16 hm328210 he328211 dr_cX17_next_115 (gk_X17 D I) (Nat.le_of_ble_eq_true rfl) wr_7_90 rfl ?_
                      refine G_iload_n 3 dr_cX17_next_118 rfl ?_
                      have hm328880 : (γ 9 16) ∈ P328205 := RS_m hT ht328241 (by decide)
                      obtain ⟨f328882, he328881⟩ := show rk_19 I (F328206 (γ 9 16)) from RS_o hT ht328241
                      refine Gp_iald 0 hm328880 he328881 dr_cX17_next_119 rfl (gB_in bg328809'' (by decide) (by decide)) (G_nam fun z328883 hz328883 => ?_)
                      have bz328883 : gB z328883 (-2147483648) 2147483647 := gB_any z328883
                      refine G_i2l dr_cX17_next_120 (G_namL fun u328884 hu328884 => ?_)
                      refine G_lmul dr_cX17_next_121 (G_namL fun u328885 hu328885 => ?_)
                      refine G_aload_n 4 dr_cX17_next_122 rfl ?_
                      refine Gp_get 5 hm328210 he328211 dr_cX17_next_123 (gk_X17 D I) (Nat.le_of_ble_eq_true rfl) wr_7_79 rfl ?_
                      refine G_iload_n 3 dr_cX17_next_126 rfl ?_
                      refine Gp_iald 0 hm328875 he328876 dr_cX17_next_127 rfl (gB_in bg328809'' (by decide) (by decide)) (G_nam fun z328886 hz328886 => ?_)
                      have bz328886 : gB z328886 (-2147483648) 2147483647 := gB_any z328886
                      refine G_i2l dr_cX17_next_128 (G_namL fun u328887 hu328887 => ?_)
                      refine G_aload_n 4 dr_cX17_next_129 rfl ?_
                      refine Gp_get 16 hm328210 he328211 dr_cX17_next_130 (gk_X17 D I) (Nat.le_of_ble_eq_true rfl) wr_7_90 rfl ?_
                      refine G_iload_n 2 dr_cX17_next_133 rfl ?_
                      refine Gp_iald 0 hm328880 he328881 dr_cX17_next_134 rfl (gB_in bg328808'' (by decide) (by decide)) (G_nam fun z328888 hz328888 => ?_)
                      have bz328888 : gB z328888 (-2147483648) 2147483647 := gB_any z328888
                      refine G_i2l dr_cX17_next_135 (G_namL fun u328889 hu328889 => ?_)
                      refine G_lmul dr_cX17_next_136 (G_namL fun u328890 hu328890 => ?_)
                      refine G_lcmp dr_cX17_next_137 (G_nam fun z328891 hz328891 => ?_)
                      have bz328891 : gB z328891 (-1) 1 := gB_cmp hz328891
                      refine G_if_ge 145 dr_cX17_next_138 (by decide +kernel) (fun hc328892 => ?_) (fun hc328892 => ?_)
                      · have r328893 : 0 ≤ z328891.toInt := gj_leL hc328892 (show Int32.toInt 0 = 0 by decide)
                        have bz328891' : gB z328891 0 1 := ⟨by omega, by omega⟩
                        refine G_iconst 0 dr_cX17_next_145 (by decide +kernel) ?_
                        refine G_istore (L' := [(6, .int 0), (5, .int 1), (4, .int 1), (3, .int g328808), (2, .int g328809), (0, .ref q328207), (1, .int p328208)]) dr_cX17_next_146 (Nat.le_of_ble_eq_true rfl) rfl ?_
                        refine G_iload 2 dr_cX17_next_148 rfl ?_
                        refine G_if_ne 158 dr_cX17_next_150 (by decide +kernel) (fun _ => ?_) (fun hc => absurd hc (by decide))
                        refine G_iload 0 dr_cX17_next_158 rfl ?_
                        refine G_if_eq 165 dr_cX17_next_160 (by decide +kernel) (fun _ => ?_) (fun hc => absurd hc (by decide))
                        obtain ⟨z328894, hz328894⟩ : ∃ z : Int32, z = g328808 + Int32.ofInt 1 := ⟨_, rfl⟩
                        have ez328894 : z328894.toInt = g328808.toInt + 1 := gI_inc hz328894 (by decide) bg328808'' (by decide) (by decide)
                        have bz328894 : gB z328894 101 2000 := ⟨by omega, by omega⟩
                        refine G_iinc (L' := [(3, .int z328894), (6, .int 0), (5, .int 1), (4, .int 1), (2, .int g328809), (0, .ref q328207), (1, .int p328208)]) z328894 3 dr_cX17_next_165 rfl hz328894.symm (Nat.le_of_ble_eq_true rfl) rfl ?_
                        refine G_goto 40 dr_cX17_next_168 (by decide +kernel) ?_
                        refine G_lv (L' := [(3, .int z328894), (2, .int g328809), (0, .ref q328207), (1, .int p328208)]) [0, 4, 5, 6] rfl ?_
                        exact ih40_328811 z328894 g328809 (gB_w bz328894 (by decide) (by decide)) (gB_w bg328809'' (by decide) (by decide)) (by first | exact fun h => absurd h (by omega) | exact fun h => (by rw [ez328894]; rw [cB_of he328258]; have q := x328810; rw [cB_of he328258] at q; exact nx_0 (q h) hz328816 (by omega) rfl)) x328811 (by omega)
                      · have r328895 : z328891.toInt < 0 := gj_nleL hc328892 (show Int32.toInt 0 = 0 by decide)
                        have bz328891' : gB z328891 (-1) (-1) := ⟨by omega, by omega⟩
                        have lhc328892 := gC_cmpS hz328891 (by omega)
                        refine G_iconst 1 dr_cX17_next_141 (by decide +kernel) ?_
                        refine G_goto 146 dr_cX17_next_142 (by decide +kernel) ?_
                        refine G_istore (L' := [(6, .int 1), (5, .int 1), (4, .int 1), (3, .int g328808), (2, .int g328809), (0, .ref q328207), (1, .int p328208)]) dr_cX17_next_146 (Nat.le_of_ble_eq_true rfl) rfl ?_
                        refine G_iload 2 dr_cX17_next_148 rfl ?_
                        refine G_if_ne 158 dr_cX17_next_150 (by decide +kernel) (fun _ => ?_) (fun hc => absurd hc (by decide))
                        refine G_iload 0 dr_cX17_next_158 rfl ?_
                        refine G_if_eq 165 dr_cX17_next_160 (by decide +kernel) (fun hc => absurd hc (by decide)) (fun _ => ?_)
                        refine G_iload_n 3 dr_cX17_next_163 rfl ?_
                        refine G_istore_n (L' := [(2, .int g328808), (6, .int 1), (5, .int 1), (4, .int 1), (3, .int g328808), (0, .ref q328207), (1, .int p328208)]) dr_cX17_next_164 (Nat.le_of_ble_eq_true rfl) rfl ?_
                        obtain ⟨z328896, hz328896⟩ : ∃ z : Int32, z = g328808 + Int32.ofInt 1 := ⟨_, rfl⟩
                        have ez328896 : z328896.toInt = g328808.toInt + 1 := gI_inc hz328896 (by decide) bg328808'' (by decide) (by decide)
                        have bz328896 : gB z328896 101 2000 := ⟨by omega, by omega⟩
                        refine G_iinc (L' := [(3, .int z328896), (2, .int g328808), (6, .int 1), (5, .int 1), (4, .int 1), (0, .ref q328207), (1, .int p328208)]) z328896 4 dr_cX17_next_165 rfl hz328896.symm (Nat.le_of_ble_eq_true rfl) rfl ?_
                        refine G_goto 40 dr_cX17_next_168 (by decide +kernel) ?_
                        refine G_lv (L' := [(3, .int z328896), (2, .int g328808), (0, .ref q328207), (1, .int p328208)]) [0, 1, 5, 6] rfl ?_
                        exact ih40_328811 z328896 g328808 (gB_w bz328896 (by decide) (by decide)) (gB_w bg328808'' (by decide) (by decide)) (by first | exact fun h => absurd h (by omega) | exact fun h => (by rw [ez328896]; rw [cB_of he328258]; have q := x328810; rw [cB_of he328258] at q; exact nx_0 (q h) hz328816 (by omega) rfl)) (fun _ => by rw [cB_of he328258]; exact sd_of hz328816 (by omega) (by omega) (by omega)) (by omega)
                · have r328897 : g328809.toInt < 0 := gj_nleL hc328819 (show Int32.toInt 0 = 0 by decide)
                  have bg328809' : gB g328809 (-1) (-1) := ⟨by omega, by omega⟩
                  refine G_iload_n 0 dr_cX17_next_63 rfl ?_
                  refine G_istore_n (L' := [(2, .int g328808), (3, .int g328808), (0, .ref q328207), (1, .int p328208)]) dr_cX17_next_64 (Nat.le_of_ble_eq_true rfl) rfl ?_
                  refine G_goto 165 dr_cX17_next_65 (by decide +kernel) ?_
                  obtain ⟨z328898, hz328898⟩ : ∃ z : Int32, z = g328808 + Int32.ofInt 1 := ⟨_, rfl⟩
                  have ez328898 : z328898.toInt = g328808.toInt + 1 := gI_inc hz328898 (by decide) bg328808' (by decide) (by decide)
                  have bz328898 : gB z328898 1 2000 := ⟨by omega, by omega⟩
                  refine G_iinc (L' := [(3, .int z328898), (2, .int g328808), (0, .ref q328207), (1, .int p328208)]) z328898 1 dr_cX17_next_165 rfl hz328898.symm (Nat.le_of_ble_eq_true rfl) rfl ?_
                  refine G_goto 40 dr_cX17_next_168 (by decide +kernel) ?_
                  exact ih40_328811 z328898 g328808 (gB_w bz328898 (by decide) (by decide)) (gB_w bg328808' (by decide) (by decide)) (by first | exact fun h => absurd h (by omega) | exact fun h => (by rw [ez328898]; rw [cB_of he328258]; have q := x328810; rw [cB_of he328258] at q; exact nx_0 (q h) hz328816 (by omega) rfl)) (fun _ => by rw [cB_of he328258]; exact sd_of hz328816 (by omega) (by omega) (by omega)) (by omega)
              · have r328899 : z328816.toInt = 0 := gj_eq hc328817 (show Int32.toInt 0 = 0 by decide)
                have bz328816' : gB z328816 0 0 := ⟨by omega, by omega⟩
                refine G_goto 165 dr_cX17_next_56 (by decide +kernel) ?_
                obtain ⟨z328900, hz328900⟩ : ∃ z : Int32, z = g328808 + Int32.ofInt 1 := ⟨_, rfl⟩
                have ez328900 : z328900.toInt = g328808.toInt + 1 := gI_inc hz328900 (by decide) bg328808' (by decide) (by decide)
                have bz328900 : gB z328900 1 2000 := ⟨by omega, by omega⟩
                refine G_iinc (L' := [(3, .int z328900), (2, .int g328809), (0, .ref q328207), (1, .int p328208)]) z328900 0 dr_cX17_next_165 rfl hz328900.symm (Nat.le_of_ble_eq_true rfl) rfl ?_
                refine G_goto 40 dr_cX17_next_168 (by decide +kernel) ?_
                exact ih40_328811 z328900 g328809 (gB_w bz328900 (by decide) (by decide)) bg328809 (by first | exact fun h => absurd h (by omega) | exact fun h => (by rw [ez328900]; rw [cB_of he328258]; have q := x328810; rw [cB_of he328258] at q; exact nx_0 (q h) hz328816 (by omega) rfl)) x328811 (by omega)
        exact hlp40_328811 (((2001 : Int) - 0).toNat + 1) 0 (-1) (gB_w (gBl (show Int32.toInt 0 = 0 by decide)) (by decide) (by decide)) (gB_w (gBl (show Int32.toInt (-1) = (-1) by decide)) (by decide) (by decide)) (fun _ m hm => absurd hm (by have qa : Int32.toInt 0 = 0 := (by decide); omega)) (fun h => absurd h (by decide)) (Nat.lt_succ_self _)
      · have r328901 : g328714.toInt < 2000 := gj_nleL hc328716 (show Int32.toInt 2000 = 2000 by decide)
        have bg328714' : gB g328714 0 1999 := ⟨by omega, by omega⟩
        refine G_aload_n 1 dr_cX17_next_9 rfl ?_
        refine Gp_get 18 hm328210 he328211 dr_cX17_next_10 (gk_X17 D I) (Nat.le_of_ble_eq_true rfl) wr_7_92 rfl ?_
        refine G_iload_n 0 dr_cX17_next_13 rfl ?_
        refine Gp_zald 3 hm328257 he328258 dr_cX17_next_14 rfl (gB_in bg328714' (by decide) (by decide)) (G_nam fun z328902 hz328902 => ?_)
        have bz328902 : gB z328902 0 1 := by rw [hz328902]; exact bf328259 _
        refine G_if_eq 30 dr_cX17_next_15 (by decide +kernel) (fun hc328903 => ?_) (fun hc328903 => ?_)
        · have r328904 : z328902.toInt = 0 := gj_eq hc328903 (show Int32.toInt 0 = 0 by decide)
          have bz328902' : gB z328902 0 0 := ⟨by omega, by omega⟩
          obtain ⟨z328905, hz328905⟩ : ∃ z : Int32, z = g328714 + Int32.ofInt 1 := ⟨_, rfl⟩
          have ez328905 : z328905.toInt = g328714.toInt + 1 := gI_inc hz328905 (by decide) bg328714' (by decide) (by decide)
          have bz328905 : gB z328905 1 2000 := ⟨by omega, by omega⟩
          refine G_iinc (L' := [(2, .int z328905), (0, .ref q328207), (1, .int p328208)]) z328905 0 dr_cX17_next_30 rfl hz328905.symm (Nat.le_of_ble_eq_true rfl) rfl ?_
          refine G_goto 2 dr_cX17_next_33 (by decide +kernel) ?_
          exact ih2_328714 z328905 (gB_w bz328905 (by decide) (by decide)) (by omega)
        · have r328906 : z328902.toInt ≠ 0 := gj_neq hc328903 (show Int32.toInt 0 = 0 by decide)
          have bz328902' : gB z328902 1 1 := ⟨by omega, by omega⟩
          refine G_aload_n 1 dr_cX17_next_18 rfl ?_
          refine Gp_get 16 hm328210 he328211 dr_cX17_next_19 (gk_X17 D I) (Nat.le_of_ble_eq_true rfl) wr_7_90 rfl ?_
          refine G_iload_n 0 dr_cX17_next_22 rfl ?_
          have hm328907 : (γ 9 16) ∈ P328205 := RS_m hT ht328241 (by decide)
          obtain ⟨f328909, he328908⟩ := show rk_19 I (F328206 (γ 9 16)) from RS_o hT ht328241
          refine Gp_iald 0 hm328907 he328908 dr_cX17_next_23 rfl (gB_in bg328714' (by decide) (by decide)) (G_nam fun z328910 hz328910 => ?_)
          have bz328910 : gB z328910 (-2147483648) 2147483647 := gB_any z328910
          refine G_iload_n 2 dr_cX17_next_24 rfl ?_
          refine G_icmp_ge 30 dr_cX17_next_25 (by decide +kernel) (fun hc328911 => ?_) (fun hc328911 => ?_)
          · have r328912 : p328208.toInt ≤ z328910.toInt := gC_le hc328911
            obtain ⟨z328913, hz328913⟩ : ∃ z : Int32, z = g328714 + Int32.ofInt 1 := ⟨_, rfl⟩
            have ez328913 : z328913.toInt = g328714.toInt + 1 := gI_inc hz328913 (by decide) bg328714' (by decide) (by decide)
            have bz328913 : gB z328913 1 2000 := ⟨by omega, by omega⟩
            refine G_iinc (L' := [(2, .int z328913), (0, .ref q328207), (1, .int p328208)]) z328913 0 dr_cX17_next_30 rfl hz328913.symm (Nat.le_of_ble_eq_true rfl) rfl ?_
            refine G_goto 2 dr_cX17_next_33 (by decide +kernel) ?_
            exact ih2_328714 z328913 (gB_w bz328913 (by decide) (by decide)) (by omega)
          · have r328914 : z328910.toInt < p328208.toInt := gC_nle hc328911
            have bz328910' : gB z328910 (-2147483648) 2147483646 := ⟨by omega, by omega⟩
            have bp328208' : gB p328208 (-2147483647) 2147483647 := ⟨by omega, by omega⟩
            refine G_iload_n 0 dr_cX17_next_28 rfl ?_
            exact G_iretA dr_cX17_next_29 rfl (Nat.le_of_ble_eq_true rfl) (Nat.le_of_ble_eq_true rfl) ⟨g328714, rfl, rfl, (Nat.le_of_ble_eq_true rfl), (Nat.le_of_ble_eq_true rfl), (gB_w bg328714' (by decide) (by decide)), (fun _ => by rw [cB_of he328258]; exact sd_of hz328902 (by omega) (by omega) (by omega)), (fun h => absurd h (by omega))⟩
  exact hlp2_328714 (((2001 : Int) - 0).toNat + 1) 0 (gB_w (gBl (show Int32.toInt 0 = 0 by decide)) (by decide) (by decide)) (Nat.lt_succ_self _)
abbrev ky_327419_SpillForgeModel_colours : gKey := (cX17_colours, 8, "SpillForgeModel", (some FieldType.int), [], "colours", fun _ _ => True)
def pt_327419_SpillForgeModel_colours (D : va_G) (I : FieldType → ClassId) (γ el : Nat → Nat → Nat) (P327415 : List Nat) (F327416 : Nat → va_E) (q327417 : Nat) (p327418 : Int32) : Option Value → va_W → Nat → Nat → Prop := fun r w dc ds => ∃ (F335886 : Nat → va_E) (o335885 : Int32), r = some (.int o335885) ∧ w = va_pl P327415 F335886 ∧ RS D I P327415 F335886 γ el ∧ rStr γ [] F327416 F335886 ∧ dc ≤ 0 ∧ ds ≤ 0 ∧ gB o335885 0 2000 ∧ (gIp (o335885.toInt = 0) (∀ m : Nat, rSd (cB (F335886 (γ 9 3))) m → 0 ≤ (cB (F335886 (γ 9 17)) m).toInt)) ∧ (F335886 q327417 = F327416 q327417) ∧ (F335886 (γ 9 3) = F327416 (γ 9 3))
set_option maxRecDepth 100000 in
set_option maxHeartbeats 4000000 in
theorem ct_327419_SpillForgeModel_colours (l : Launch) (hl0 : l.stackTraces = false) (D : va_G) (I : FieldType → ClassId) (γ el : Nat → Nat → Nat) (P327415 : List Nat) (F327416 : Nat → va_E) (q327417 : Nat) (p327418 : Int32) (hT : RS D I P327415 F327416 γ el) (htq327417 : rKd γ q327417 10) (bp327418 : gB p327418 1 32) : CtA (gV D I) l yX17_colours cX17_colours 8 (some FieldType.int) 2 43 0 0 [.ref q327417, .int p327418] (va_pl P327415 F327416) (pt_327419_SpillForgeModel_colours D I γ el P327415 F327416 q327417 p327418) gNA := by
  refine CtA_of hl0 (by decide) (Nat.le_of_ble_eq_true rfl) ?_
  have hm327420 : q327417 ∈ P327415 := RS_m hT htq327417 (by decide)
  refine rk10_e (show rk_10 γ (F327416 q327417) from RS_o hT htq327417) (fun q327422 q327423 p327424 p327425 p327426 p327427 p327428 p327429 p327430 p327431 p327432 p327433 p327434 p327435 p327436 p327437 p327438 he327421 hB327465 ht327439 ht327440 ht327441 ht327442 ht327443 ht327444 ht327445 ht327446 ht327447 ht327448 ht327449 ht327450 ht327451 ht327452 ht327453 ht327454 ht327455 ht327456 ht327457 ht327458 ht327459 ht327460 ht327461 ht327462 hB327466 => ?_)
  have hm327467 : (γ 9 3) ∈ P327415 := RS_m hT ht327444 (by decide)
  obtain ⟨f327469, he327468, bf327469⟩ := show rk_14 I (F327416 (γ 9 3)) from RS_o hT ht327444
  have hm327470 : (γ 9 18) ∈ P327415 := RS_m hT ht327453 (by decide)
  obtain ⟨f327472, he327471, bf327472⟩ := show rk_15 I (F327416 (γ 9 18)) from RS_o hT ht327453
  have hm327473 : (γ 9 15) ∈ P327415 := RS_m hT ht327450 (by decide)
  obtain ⟨f327475, he327474, bf327475⟩ := show rk_18 I (F327416 (γ 9 15)) from RS_o hT ht327450
  have hm327476 : (γ 9 17) ∈ P327415 := RS_m hT ht327452 (by decide)
  obtain ⟨f327478, he327477, bf327478⟩ := show rk_20 I (F327416 (γ 9 17)) from RS_o hT ht327452
  refine G_iconst 0 dr_cX17_colours_0 (by decide +kernel) ?_
  refine G_istore_n (L' := [(2, .int 0), (0, .ref q327417), (1, .int p327418)]) dr_cX17_colours_1 (Nat.le_of_ble_eq_true rfl) rfl ?_
  have hlp2_334644 : ∀ (n2_334644 : Nat) (F334639 : Nat → va_E) (g334638 : Int32), gB g334638 0 2000 → RS D I P327415 F334639 γ el → rStr γ [] F327416 F334639 → (∀ m : Nat, (m : Int) < g334638.toInt → rSd (cB (F334639 (γ 9 3))) m → rSd (cB (F334639 (γ 9 18))) m) → (F334639 q327417 = F327416 q327417) → (F334639 (γ 9 3) = F327416 (γ 9 3)) → ((2001 : Int) - g334638.toInt).toNat < n2_334644 → G (gV D I) l (gRm 2 43 0 0) (gMA (gV D I) (pt_327419_SpillForgeModel_colours D I γ el P327415 F327416 q327417 p327418) gNA 0 0) ky_327419_SpillForgeModel_colours 2 [(2, .int g334638), (0, .ref q327417), (1, .int p327418)] [] (va_pl P327415 F334639) 0 0 := by
    intro n2_334644
    induction n2_334644 with
    | zero => intro F334639 g334638 bg334638 hT334640 hs334641 x334642 x334643 x334644 hm2_334644; exact absurd hm2_334644 (Nat.not_lt_zero _)
    | succ n2_334644 ih2_334644 =>
      intro F334639 g334638 bg334638 hT334640 hs334641 x334642 x334643 x334644 hm2_334644
      have hs334646 : rStr γ [] F327416 F334639 := fun b h0 hb hw => (hs334641 b h0 hb hw).trans ((rStr_rf (γ := γ) (W := []) (F := F327416)) b h0 hb hw).symm
      have hs334647 : rStr γ [] F327416 F334639 := rStr_tr (rStr_rf (γ := γ) (W := []) (F := F327416)) hs334646
      have he334648 : F334639 q327417 = .inr (22, [.ref (γ 9 0), .ref (γ 9 1), .ref (γ 9 2), .ref (γ 9 3), .ref (γ 9 4), .ref (γ 9 5), .ref (γ 9 6), .ref (γ 9 7), .ref (γ 9 8), .int p327424, .int p327425, .int p327426, .int p327427, .int p327428, .int p327429, .ref (γ 9 15), .ref (γ 9 16), .ref (γ 9 17), .ref (γ 9 18), .ref (γ 9 19), .ref (γ 9 20), .ref (γ 9 21), .ref (γ 9 22), .int p327430, .int p327431, .int p327432, .int p327433, .int p327434, .ref q327422, .ref (γ 9 29), .int p327435, .ref (γ 9 31), .int p327436, .int p327437, .int p327438, .ref q327423]) := x334643.trans he327421
      have hm334649 : q327417 ∈ P327415 := RS_m hT334640 htq327417 (by decide)
      have he334650 : F334639 (γ 9 3) = .inl (I .boolean, 2000, .inl f327469) := x334644.trans he327468
      have hm334651 : (γ 9 3) ∈ P327415 := RS_m hT334640 ht327444 (by decide)
      have hm334652 : (γ 9 18) ∈ P327415 := RS_m hT334640 ht327453 (by decide)
      obtain ⟨f334654, he334653, bf334654⟩ := show rk_15 I (F334639 (γ 9 18)) from RS_o hT334640 ht327453
      have hm334655 : (γ 9 15) ∈ P327415 := RS_m hT334640 ht327450 (by decide)
      obtain ⟨f334657, he334656, bf334657⟩ := show rk_18 I (F334639 (γ 9 15)) from RS_o hT334640 ht327450
      have hm334658 : (γ 9 17) ∈ P327415 := RS_m hT334640 ht327452 (by decide)
      obtain ⟨f334660, he334659, bf334660⟩ := show rk_20 I (F334639 (γ 9 17)) from RS_o hT334640 ht327452
      have cq334661 := x334642
      rw [cB_of he334650, cB_of he334653] at cq334661
      refine G_iload_n 0 dr_cX17_colours_2 rfl ?_
      refine G_sipush 2000 dr_cX17_colours_3 (by decide +kernel) ?_
      refine G_icmp_ge 62 dr_cX17_colours_6 (by decide +kernel) (fun hc334662 => ?_) (fun hc334662 => ?_)
      · have r334663 : 2000 ≤ g334638.toInt := gj_leL hc334662 (show Int32.toInt 2000 = 2000 by decide)
        have bg334638' : gB g334638 2000 2000 := ⟨by omega, by omega⟩
        refine G_iconst 0 dr_cX17_colours_62 (by decide +kernel) ?_
        refine G_istore_n (L' := [(2, .int 0), (0, .ref q327417), (1, .int p327418)]) dr_cX17_colours_63 (Nat.le_of_ble_eq_true rfl) rfl ?_
        refine G_aload_n 1 dr_cX17_colours_64 rfl ?_
        refine G_iload_n 2 dr_cX17_colours_65 rfl ?_
        refine Gw_callV (As := [.int p327418]) (gV_ok D I) (ct_328209_SpillForgeModel_next l hl0 D I γ el P327415 F334639 q327417 p327418 hT334640 htq327417) dr_cX17_colours_66 ⟨wr_11_51, wr_1_14, wr_11_54, by decide, rfl, (Nat.le_of_ble_eq_true rfl), (Nat.le_of_ble_eq_true rfl)⟩ wr_11_53 wr_p_107 hm334649 he334648 rfl (show 0 + 0 ≤ 0 by first | omega | decide) (show 0 + 0 ≤ 0 by first | omega | decide) (Nat.le_of_ble_eq_true rfl) (fun r334667 w334668 dc334664 ds334665 hp334666 => ?_) (fun _ _ _ _ _ z => z.elim)
        obtain ⟨o334669, rfl, rfl, hdc, hds, bo334669, x334670, x334671⟩ := hp334666
        change G _ _ _ _ _ _ _ (.int o334669 :: _) _ _ _
        refine G_widen (cs' := 0) (sl' := 0) (by omega) (by omega) ?_
        refine G_istore_n (L' := [(3, .int o334669), (2, .int 0), (0, .ref q327417), (1, .int p327418)]) dr_cX17_colours_69 (Nat.le_of_ble_eq_true rfl) rfl ?_
        have hlp70_335229 : ∀ (n70_335229 : Nat) (F335221 : Nat → va_E) (g335219 : Int32) (g335220 : Int32), gB g335219 (-1) 1999 → gB g335220 0 2000 → RS D I P327415 F335221 γ el → rStr γ [] F327416 F335221 → (∀ m : Nat, rSd (cB (F335221 (γ 9 3))) m → rSd (cB (F335221 (γ 9 18))) m ∨ ∃ i : Nat, (i : Int) < g335220.toInt ∧ (cB (F335221 (γ 9 15)) i).toInt = m) → (rcn (cB (F335221 (γ 9 18))) 2000 + (g335220.toInt : Int).toNat ≤ 2000) → (gIp (0 ≤ g335219.toInt) (rSd (cB (F335221 (γ 9 18))) (g335219.toInt : Int).toNat)) → (gIp (g335219.toInt < 0) (∀ m : Nat, ¬ rSd (cB (F335221 (γ 9 18))) m)) → (F335221 q327417 = F327416 q327417) → (F335221 (γ 9 3) = F327416 (γ 9 3)) → (rcn (cB (F335221 (γ 9 18))) 2000) < n70_335229 → G (gV D I) l (gRm 2 43 0 0) (gMA (gV D I) (pt_327419_SpillForgeModel_colours D I γ el P327415 F327416 q327417 p327418) gNA 0 0) ky_327419_SpillForgeModel_colours 70 [(3, .int g335219), (2, .int g335220), (0, .ref q327417), (1, .int p327418)] [] (va_pl P327415 F335221) 0 0 := by
          intro n70_335229
          induction n70_335229 with
          | zero => intro F335221 g335219 g335220 bg335219 bg335220 hT335222 hs335223 x335224 x335225 x335226 x335227 x335228 x335229 hm70_335229; exact absurd hm70_335229 (Nat.not_lt_zero _)
          | succ n70_335229 ih70_335229 =>
            intro F335221 g335219 g335220 bg335219 bg335220 hT335222 hs335223 x335224 x335225 x335226 x335227 x335228 x335229 hm70_335229
            have hs335231 : rStr γ [] F334639 F335221 := fun b h0 hb hw => (hs335223 b h0 hb hw).trans (hs334641 b h0 hb hw).symm
            have hs335232 : rStr γ [] F327416 F335221 := rStr_tr hs334641 hs335231
            have he335233 : F335221 q327417 = .inr (22, [.ref (γ 9 0), .ref (γ 9 1), .ref (γ 9 2), .ref (γ 9 3), .ref (γ 9 4), .ref (γ 9 5), .ref (γ 9 6), .ref (γ 9 7), .ref (γ 9 8), .int p327424, .int p327425, .int p327426, .int p327427, .int p327428, .int p327429, .ref (γ 9 15), .ref (γ 9 16), .ref (γ 9 17), .ref (γ 9 18), .ref (γ 9 19), .ref (γ 9 20), .ref (γ 9 21), .ref (γ 9 22), .int p327430, .int p327431, .int p327432, .int p327433, .int p327434, .ref q327422, .ref (γ 9 29), .int p327435, .ref (γ 9 31), .int p327436, .int p327437, .int p327438, .ref q327423]) := x335228.trans he327421
            have hm335234 : q327417 ∈ P327415 := RS_m hT335222 htq327417 (by decide)
            have he335235 : F335221 (γ 9 3) = .inl (I .boolean, 2000, .inl f327469) := x335229.trans he327468
            have hm335236 : (γ 9 3) ∈ P327415 := RS_m hT335222 ht327444 (by decide)
            have hm335237 : (γ 9 18) ∈ P327415 := RS_m hT335222 ht327453 (by decide)
            obtain ⟨f335239, he335238, bf335239⟩ := show rk_15 I (F335221 (γ 9 18)) from RS_o hT335222 ht327453
            have hm335240 : (γ 9 15) ∈ P327415 := RS_m hT335222 ht327450 (by decide)
            obtain ⟨f335242, he335241, bf335242⟩ := show rk_18 I (F335221 (γ 9 15)) from RS_o hT335222 ht327450
            have hm335243 : (γ 9 17) ∈ P327415 := RS_m hT335222 ht327452 (by decide)
            obtain ⟨f335245, he335244, bf335245⟩ := show rk_20 I (F335221 (γ 9 17)) from RS_o hT335222 ht327452
            have cq335246 := x335224
            rw [cB_of he335235, cB_of he335238, cB_of he335241] at cq335246
            have cq335247 := x335225
            rw [cB_of he335238] at cq335247
            have cq335248 := x335226
            rw [cB_of he335238] at cq335248
            have cq335249 := x335227
            rw [cB_of he335238] at cq335249
            refine G_iload_n 0 dr_cX17_colours_70 rfl ?_
            refine G_if_lt 142 dr_cX17_colours_71 (by decide +kernel) (fun hc335250 => ?_) (fun hc335250 => ?_)
            · have r335251 : g335219.toInt < 0 := gj_lt hc335250 (show Int32.toInt 0 = 0 by decide)
              have bg335219' : gB g335219 (-1) (-1) := ⟨by omega, by omega⟩
              refine G_iconst 0 dr_cX17_colours_142 (by decide +kernel) ?_
              refine G_istore_n (L' := [(3, .int 0), (2, .int g335220), (0, .ref q327417), (1, .int p327418)]) dr_cX17_colours_143 (Nat.le_of_ble_eq_true rfl) rfl ?_
              have hlp144_335421 : ∀ (n144_335421 : Nat) (F335415 : Nat → va_E) (g335413 : Int32) (g335414 : Int32), gB g335413 0 2000 → gB g335414 0 2000 → RS D I P327415 F335415 γ el → rStr γ [] F327416 F335415 → (gIp (g335413.toInt = 0) (∀ m : Nat, rSd (cB (F335415 (γ 9 3))) m → (∃ i : Nat, (i : Int) < g335414.toInt ∧ (cB (F335415 (γ 9 15)) i).toInt = m) ∨ 0 ≤ (cB (F335415 (γ 9 17)) m).toInt)) → (g335413.toInt + g335414.toInt ≤ 2000) → (F335415 q327417 = F327416 q327417) → (F335415 (γ 9 3) = F327416 (γ 9 3)) → ((g335414.toInt : Int) - (-1)).toNat < n144_335421 → G (gV D I) l (gRm 2 43 0 0) (gMA (gV D I) (pt_327419_SpillForgeModel_colours D I γ el P327415 F327416 q327417 p327418) gNA 0 0) ky_327419_SpillForgeModel_colours 144 [(3, .int g335413), (2, .int g335414), (0, .ref q327417), (1, .int p327418)] [] (va_pl P327415 F335415) 0 0 := by
                intro n144_335421
                induction n144_335421 with
                | zero => intro F335415 g335413 g335414 bg335413 bg335414 hT335416 hs335417 x335418 x335419 x335420 x335421 hm144_335421; exact absurd hm144_335421 (Nat.not_lt_zero _)
                | succ n144_335421 ih144_335421 =>
                  intro F335415 g335413 g335414 bg335413 bg335414 hT335416 hs335417 x335418 x335419 x335420 x335421 hm144_335421
                  have hs335423 : rStr γ [] F335221 F335415 := fun b h0 hb hw => (hs335417 b h0 hb hw).trans (hs335223 b h0 hb hw).symm
                  have hs335424 : rStr γ [] F327416 F335415 := rStr_tr hs335223 hs335423
                  have he335425 : F335415 q327417 = .inr (22, [.ref (γ 9 0), .ref (γ 9 1), .ref (γ 9 2), .ref (γ 9 3), .ref (γ 9 4), .ref (γ 9 5), .ref (γ 9 6), .ref (γ 9 7), .ref (γ 9 8), .int p327424, .int p327425, .int p327426, .int p327427, .int p327428, .int p327429, .ref (γ 9 15), .ref (γ 9 16), .ref (γ 9 17), .ref (γ 9 18), .ref (γ 9 19), .ref (γ 9 20), .ref (γ 9 21), .ref (γ 9 22), .int p327430, .int p327431, .int p327432, .int p327433, .int p327434, .ref q327422, .ref (γ 9 29), .int p327435, .ref (γ 9 31), .int p327436, .int p327437, .int p327438, .ref q327423]) := x335420.trans he327421
                  have hm335426 : q327417 ∈ P327415 := RS_m hT335416 htq327417 (by decide)
                  have he335427 : F335415 (γ 9 3) = .inl (I .boolean, 2000, .inl f327469) := x335421.trans he327468
                  have hm335428 : (γ 9 3) ∈ P327415 := RS_m hT335416 ht327444 (by decide)
                  have hm335429 : (γ 9 18) ∈ P327415 := RS_m hT335416 ht327453 (by decide)
                  obtain ⟨f335431, he335430, bf335431⟩ := show rk_15 I (F335415 (γ 9 18)) from RS_o hT335416 ht327453
                  have hm335432 : (γ 9 15) ∈ P327415 := RS_m hT335416 ht327450 (by decide)
                  obtain ⟨f335434, he335433, bf335434⟩ := show rk_18 I (F335415 (γ 9 15)) from RS_o hT335416 ht327450
                  have hm335435 : (γ 9 17) ∈ P327415 := RS_m hT335416 ht327452 (by decide)
                  obtain ⟨f335437, he335436, bf335437⟩ := show rk_20 I (F335415 (γ 9 17)) from RS_o hT335416 ht327452
                  have cq335438 := x335418
                  rw [cB_of he335427, cB_of he335433, cB_of he335436] at cq335438
                  refine G_iload_n 1 dr_cX17_colours_144 rfl ?_
                  refine G_if_le 253 dr_cX17_colours_145 (by decide +kernel) (fun hc335439 => ?_) (fun hc335439 => ?_)
                  · have r335440 : g335414.toInt ≤ 0 := gj_le hc335439 (show Int32.toInt 0 = 0 by decide)
                    have bg335414' : gB g335414 0 0 := ⟨by omega, by omega⟩
                    refine G_iload_n 0 dr_cX17_colours_253 rfl ?_
                    exact G_iretA dr_cX17_colours_254 rfl (Nat.le_of_ble_eq_true rfl) (Nat.le_of_ble_eq_true rfl) ⟨F335415, g335413, rfl, rfl, hT335416, hs335417, (Nat.le_of_ble_eq_true rfl), (Nat.le_of_ble_eq_true rfl), bg335413, (fun h0 m s => by rw [cB_of he335436]; rw [cB_of he335427] at s; exact (cq335438 h0 m s).resolve_left (fun ⟨i, hi, _⟩ => absurd hi (by omega))), x335420, x335421⟩
                  · have r335441 : 0 < g335414.toInt := gj_nle hc335439 (show Int32.toInt 0 = 0 by decide)
                    have bg335414' : gB g335414 1 2000 := ⟨by omega, by omega⟩
                    obtain ⟨z335442, hz335442⟩ : ∃ z : Int32, z = g335414 + Int32.ofInt (-1) := ⟨_, rfl⟩
                    have ez335442 : z335442.toInt = g335414.toInt + (-1) := gI_inc hz335442 (by decide) bg335414' (by decide) (by decide)
                    have bz335442 : gB z335442 0 1999 := ⟨by omega, by omega⟩
                    refine G_iinc (L' := [(2, .int z335442), (3, .int g335413), (0, .ref q327417), (1, .int p327418)]) z335442 1 dr_cX17_colours_148 rfl hz335442.symm (Nat.le_of_ble_eq_true rfl) rfl ?_
                    refine G_aload_n 2 dr_cX17_colours_151 rfl ?_
                    refine Gp_get 15 hm335426 he335425 dr_cX17_colours_152 (gk_X17 D I) (Nat.le_of_ble_eq_true rfl) wr_7_89 rfl ?_
                    refine G_iload_n 0 dr_cX17_colours_155 rfl ?_
                    refine Gp_iald 0 hm335432 he335433 dr_cX17_colours_156 rfl (gB_in bz335442 (by decide) (by decide)) (G_nam fun z335443 hz335443 => ?_)
                    have bz335443 : gB z335443 0 1999 := by rw [hz335443]; exact bf335434 _
                    refine G_istore (L' := [(4, .int z335443), (2, .int z335442), (3, .int g335413), (0, .ref q327417), (1, .int p327418)]) dr_cX17_colours_157 (Nat.le_of_ble_eq_true rfl) rfl ?_
                    refine G_lconst 0 dr_cX17_colours_159 rfl ?_
                    refine G_lstore (L' := [(5, .long 0), (4, .int z335443), (2, .int z335442), (3, .int g335413), (0, .ref q327417), (1, .int p327418)]) dr_cX17_colours_160 (Nat.le_of_ble_eq_true rfl) rfl ?_
                    refine G_iconst 0 dr_cX17_colours_162 (by decide +kernel) ?_
                    refine G_istore (L' := [(7, .int 0), (5, .long 0), (4, .int z335443), (2, .int z335442), (3, .int g335413), (0, .ref q327417), (1, .int p327418)]) dr_cX17_colours_163 (Nat.le_of_ble_eq_true rfl) rfl ?_
                    have hlp165_335513 : ∀ (n165_335513 : Nat) (g335511 : Int32) (gl335512 : Int64), gB g335511 0 2000 → lb_Q gl335512 (32) → ((2001 : Int) - g335511.toInt).toNat < n165_335513 → G (gV D I) l (gRm 2 43 0 0) (gMA (gV D I) (pt_327419_SpillForgeModel_colours D I γ el P327415 F327416 q327417 p327418) gNA 0 0) ky_327419_SpillForgeModel_colours 165 [(7, .int g335511), (5, .long gl335512), (4, .int z335443), (2, .int z335442), (3, .int g335413), (0, .ref q327417), (1, .int p327418)] [] (va_pl P327415 F335415) 0 0 := by
                      intro n165_335513
                      induction n165_335513 with
                      | zero => intro g335511 gl335512 bg335511 x335513 hm165_335513; exact absurd hm165_335513 (Nat.not_lt_zero _)
                      | succ n165_335513 ih165_335513 =>
                        intro g335511 gl335512 bg335511 x335513 hm165_335513
                        refine G_iload 0 dr_cX17_colours_165 rfl ?_
                        refine G_sipush 2000 dr_cX17_colours_167 (by decide +kernel) ?_
                        refine G_icmp_ge 218 dr_cX17_colours_170 (by decide +kernel) (fun hc335515 => ?_) (fun hc335515 => ?_)
                        · have r335516 : 2000 ≤ g335511.toInt := gj_leL hc335515 (show Int32.toInt 2000 = 2000 by decide)
                          have bg335511' : gB g335511 2000 2000 := ⟨by omega, by omega⟩
                          refine G_lload 1 dr_cX17_colours_218 rfl ?_
                          refine G_ldc2 (-1) dr_cX17_colours_220 wr_10_188 ?_
                          refine G_lxor dr_cX17_colours_223 (G_namL fun u335517 hu335517 => ?_)
                          refine Gw_callS (As := [.long u335517]) (gV_ok D I) (nzc_Long_numberOfTrailingZeros l hl0 D I P327415 F335415 u335517) dr_cX17_colours_224 ⟨wr_11_1, wr_1_31, wr_11_3, by decide, rfl, (Nat.le_of_ble_eq_true rfl), (Nat.le_of_ble_eq_true rfl)⟩ wr_11_2 (show 0 + 0 ≤ 0 by first | omega | decide) (show 0 + 0 ≤ 0 by first | omega | decide) (Nat.le_of_ble_eq_true rfl) (fun r335521 w335522 dc335518 ds335519 hp335520 => ?_) (fun _ _ _ _ _ z => z.elim)
                          obtain ⟨o335524, rfl, rfl, hdc, hds, hO335523⟩ := hp335520
                          have hO335523 := hO335523 (nz_x hu335517 x335513)
                          have bo335524 : gB o335524 0 63 := ⟨hO335523.1, hO335523.2.1⟩
                          change G _ _ _ _ _ _ _ (.int o335524 :: _) _ _ _
                          refine G_widen (cs' := 0) (sl' := 0) (by omega) (by omega) ?_
                          refine G_istore (L' := [(7, .int o335524), (5, .long gl335512), (4, .int z335443), (2, .int z335442), (3, .int g335413), (0, .ref q327417), (1, .int p327418)]) dr_cX17_colours_227 (Nat.le_of_ble_eq_true rfl) rfl ?_
                          refine G_iload 0 dr_cX17_colours_229 rfl ?_
                          refine G_iload_n 6 dr_cX17_colours_231 rfl ?_
                          refine G_icmp_ge 247 dr_cX17_colours_232 (by decide +kernel) (fun hc335525 => ?_) (fun hc335525 => ?_)
                          · have r335526 : p327418.toInt ≤ o335524.toInt := gC_le hc335525
                            have bo335524' : gB o335524 1 63 := ⟨by omega, by omega⟩
                            have bg335413' : gB g335413 0 1999 := ⟨by omega, by omega⟩
                            obtain ⟨z335527, hz335527⟩ : ∃ z : Int32, z = g335413 + Int32.ofInt 1 := ⟨_, rfl⟩
                            have ez335527 : z335527.toInt = g335413.toInt + 1 := gI_inc hz335527 (by decide) bg335413' (by decide) (by decide)
                            have bz335527 : gB z335527 1 2000 := ⟨by omega, by omega⟩
                            refine G_iinc (L' := [(3, .int z335527), (7, .int o335524), (5, .long gl335512), (4, .int z335443), (2, .int z335442), (0, .ref q327417), (1, .int p327418)]) z335527 4 dr_cX17_colours_247 rfl hz335527.symm (Nat.le_of_ble_eq_true rfl) rfl ?_
                            refine G_goto 144 dr_cX17_colours_250 (by decide +kernel) ?_
                            refine G_lv (L' := [(3, .int z335527), (2, .int z335442), (0, .ref q327417), (1, .int p327418)]) [0, 4, 5, 6] rfl ?_
                            exact ih144_335421 F335415 z335527 z335442 (gB_w bz335527 (by decide) (by decide)) (gB_w bz335442 (by decide) (by decide)) hT335416 hs335417 (fun h0 => absurd h0 (by omega)) (by omega) x335420 x335421 (mz_dn ez335442 (Int.le_trans (by decide) bg335414'.1) hm144_335421)
                          · have r335528 : o335524.toInt < p327418.toInt := gC_nle hc335525
                            have bo335524' : gB o335524 0 31 := ⟨by omega, by omega⟩
                            refine G_aload_n 5 dr_cX17_colours_235 rfl ?_
                            refine Gp_get 17 hm335426 he335425 dr_cX17_colours_236 (gk_X17 D I) (Nat.le_of_ble_eq_true rfl) wr_7_91 rfl ?_
                            refine G_iload 2 dr_cX17_colours_239 rfl ?_
                            refine G_iload 0 dr_cX17_colours_241 rfl ?_
                            refine Gp_iast 0 hm335435 he335436 dr_cX17_colours_243 rfl (gB_in bz335443 (by decide) (by decide)) (fun F335529 e335530 n335531 => ?_)
                            obtain ⟨f335532, hf335532⟩ : ∃ z, z = upd f335437 z335443.toNatClampNeg o335524 := ⟨_, rfl⟩
                            rw [← hf335532] at e335530
                            have he335533 : F335529 q327417 = .inr (22, [.ref (γ 9 0), .ref (γ 9 1), .ref (γ 9 2), .ref (γ 9 3), .ref (γ 9 4), .ref (γ 9 5), .ref (γ 9 6), .ref (γ 9 7), .ref (γ 9 8), .int p327424, .int p327425, .int p327426, .int p327427, .int p327428, .int p327429, .ref (γ 9 15), .ref (γ 9 16), .ref (γ 9 17), .ref (γ 9 18), .ref (γ 9 19), .ref (γ 9 20), .ref (γ 9 21), .ref (γ 9 22), .int p327430, .int p327431, .int p327432, .int p327433, .int p327434, .ref q327422, .ref (γ 9 29), .int p327435, .ref (γ 9 31), .int p327436, .int p327437, .int p327438, .ref q327423]) := (n335531 q327417 (rn_oa he335425 he335436)).trans he335425
                            have he335534 : F335529 (γ 9 3) = .inl (I .boolean, 2000, .inl f327469) := (n335531 (γ 9 3) (rn_ty ht327444 ht327452 (by decide))).trans he335427
                            have he335535 : F335529 (γ 9 18) = .inl (I .boolean, 2000, .inl f335431) := (n335531 (γ 9 18) (rn_ty ht327453 ht327452 (by decide))).trans he335430
                            have he335536 : F335529 (γ 9 15) = .inl (I .int, 2000, .inl f335434) := (n335531 (γ 9 15) (rn_ty ht327450 ht327452 (by decide))).trans he335433
                            have he335537 : F335529 (γ 9 17) = .inl (I .int, 2000, .inl f335532) := e335530
                            have hs335538 : rStr γ [] F327416 F335529 := rStr_put hs335417 n335531 ht327452 (by decide)
                            have kp335539 : F335529 q327417 = F327416 q327417 := (n335531 q327417 (rn_ty htq327417 ht327452 (by decide))).trans x335420
                            have kp335540 : F335529 (γ 9 3) = F327416 (γ 9 3) := (n335531 (γ 9 3) (rn_ty ht327444 ht327452 (by decide))).trans x335421
                            have bf335532 : gF f335532 (-1) 31 := gF_upd hf335532 bf335437 (gB_w bo335524' (by decide) (by decide))
                            refine G_goto 250 dr_cX17_colours_244 (by decide +kernel) ?_
                            refine G_goto 144 dr_cX17_colours_250 (by decide +kernel) ?_
                            have hT335541 : RS D I P327415 F335529 γ el := RS_set hT335416 n335531 ht327452 (by decide) ⟨f335532, he335537, bf335532⟩
                            refine G_lv (L' := [(3, .int g335413), (2, .int z335442), (0, .ref q327417), (1, .int p327418)]) [4, 3, 5, 6] rfl ?_
                            exact ih144_335421 F335529 g335413 z335442 bg335413 (gB_w bz335442 (by decide) (by decide)) hT335541 hs335538 (by rw [cB_of he335534, cB_of he335536, cB_of he335537]; exact fun h0 => co_u hz335443 hf335532 (by omega) (by omega) (by omega) (cq335438 h0)) (by omega) kp335539 kp335540 (mz_dn ez335442 (Int.le_trans (by decide) bg335414'.1) hm144_335421)
                        · have r335542 : g335511.toInt < 2000 := gj_nleL hc335515 (show Int32.toInt 2000 = 2000 by decide)
                          have bg335511' : gB g335511 0 1999 := ⟨by omega, by omega⟩
                          refine G_aload_n 5 dr_cX17_colours_173 rfl ?_
                          refine Gp_get 17 hm335426 he335425 dr_cX17_colours_174 (gk_X17 D I) (Nat.le_of_ble_eq_true rfl) wr_7_91 rfl ?_
                          refine G_iload 0 dr_cX17_colours_177 rfl ?_
                          refine Gp_iald 0 hm335435 he335436 dr_cX17_colours_179 rfl (gB_in bg335511' (by decide) (by decide)) (G_nam fun z335543 hz335543 => ?_)
                          have bz335543 : gB z335543 (-1) 31 := by rw [hz335543]; exact bf335437 _
                          refine G_if_lt 212 dr_cX17_colours_180 (by decide +kernel) (fun hc335544 => ?_) (fun hc335544 => ?_)
                          · have r335545 : z335543.toInt < 0 := gj_lt hc335544 (show Int32.toInt 0 = 0 by decide)
                            have bz335543' : gB z335543 (-1) (-1) := ⟨by omega, by omega⟩
                            obtain ⟨z335546, hz335546⟩ : ∃ z : Int32, z = g335511 + Int32.ofInt 1 := ⟨_, rfl⟩
                            have ez335546 : z335546.toInt = g335511.toInt + 1 := gI_inc hz335546 (by decide) bg335511' (by decide) (by decide)
                            have bz335546 : gB z335546 1 2000 := ⟨by omega, by omega⟩
                            refine G_iinc (L' := [(7, .int z335546), (5, .long gl335512), (4, .int z335443), (2, .int z335442), (3, .int g335413), (0, .ref q327417), (1, .int p327418)]) z335546 0 dr_cX17_colours_212 rfl hz335546.symm (Nat.le_of_ble_eq_true rfl) rfl ?_
                            refine G_goto 165 dr_cX17_colours_215 (by decide +kernel) ?_
                            exact ih165_335513 z335546 gl335512 (gB_w bz335546 (by decide) (by decide)) x335513 (mz_up ez335546 (Int.le_trans bg335511'.2 (by decide)) hm165_335513)
                          · have r335547 : 0 ≤ z335543.toInt := gj_nlt hc335544 (show Int32.toInt 0 = 0 by decide)
                            have bz335543' : gB z335543 0 31 := ⟨by omega, by omega⟩
                            refine G_aload_n 5 dr_cX17_colours_183 rfl ?_
                            refine Gp_get 1 hm335426 he335425 dr_cX17_colours_184 (gk_X17 D I) (Nat.le_of_ble_eq_true rfl) wr_7_75 rfl ?_
                            refine G_iload 2 dr_cX17_colours_187 rfl ?_
                            have hm335548 : (γ 9 1) ∈ P327415 := RS_m hT335416 ht327442 (by decide)
                            obtain ⟨f335550, he335549, hg335551⟩ := show rk_13 I γ (F335415 (γ 9 1)) from RS_o hT335416 ht327442
                            obtain ⟨q335552, hx335554⟩ : ∃ x, x = γ 11 z335443.toInt.toNat := ⟨_, rfl⟩
                            have ht335553 : rKd γ q335552 36 := by rw [hx335554]; exact (hg335551 _ (show z335443.toInt.toNat < 2000 by omega)).2.1
                            refine Gp_aald 5 hm335548 he335549 dr_cX17_colours_189 rfl rfl (gB_in bz335443 (by decide) (by decide)) ?_
                            rw [show f335550 z335443.toNatClampNeg = some q335552 from (hg335551 _ (show z335443.toInt.toNat < 2000 by omega)).1.trans (by rw [hx335554])]
                            change G _ _ _ _ _ _ _ (.ref q335552 :: _) _ _ _
                            refine G_iload 0 dr_cX17_colours_190 rfl ?_
                            have hm335555 : q335552 ∈ P327415 := RS_m hT335416 ht335553 (by decide)
                            obtain ⟨f335557, he335556, wf335557⟩ := show rk_36 I (F335415 q335552) from RS_o hT335416 ht335553
                            refine Gw_callS (As := [.ref q335552, .int g335511]) (gV_ok D I) (cp_1838_SpillForgeModel_has l hl0 D I P327415 F335415 q335552 g335511 f335557 hm335555 he335556 (gB_w bg335511' (by decide) (by decide))) dr_cX17_colours_192 ⟨wr_10_203, wr_1_14, wr_10_205, by decide, rfl, (Nat.le_of_ble_eq_true rfl), (Nat.le_of_ble_eq_true rfl)⟩ wr_10_204 (show 0 + 0 ≤ 0 by first | omega | decide) (show 0 + 0 ≤ 0 by first | omega | decide) (Nat.le_of_ble_eq_true rfl) (fun r335561 w335562 dc335558 ds335559 hp335560 => ?_) (fun _ _ _ _ _ z => z.elim)
                            rcases hp335560 with ⟨z335563, z335564, rfl, rfl, hdc, hds, r335565, r335566, r335567, r335568⟩ | ⟨z335569, z335570, rfl, rfl, hdc, hds, r335571, r335572, r335573, r335574⟩
                            · change G _ _ _ _ _ _ _ (.int 0 :: _) _ _ _
                              refine G_widen (cs' := 0) (sl' := 0) (by omega) (by omega) ?_
                              refine G_if_eq 212 dr_cX17_colours_195 (by decide +kernel) (fun _ => ?_) (fun hc => absurd hc (by decide))
                              obtain ⟨z335576, hz335576⟩ : ∃ z : Int32, z = g335511 + Int32.ofInt 1 := ⟨_, rfl⟩
                              have ez335576 : z335576.toInt = g335511.toInt + 1 := gI_inc hz335576 (by decide) bg335511' (by decide) (by decide)
                              have bz335576 : gB z335576 1 2000 := ⟨by omega, by omega⟩
                              refine G_iinc (L' := [(7, .int z335576), (5, .long gl335512), (4, .int z335443), (2, .int z335442), (3, .int g335413), (0, .ref q327417), (1, .int p327418)]) z335576 0 dr_cX17_colours_212 rfl hz335576.symm (Nat.le_of_ble_eq_true rfl) rfl ?_
                              refine G_goto 165 dr_cX17_colours_215 (by decide +kernel) ?_
                              exact ih165_335513 z335576 gl335512 (gB_w bz335576 (by decide) (by decide)) x335513 (mz_up ez335576 (Int.le_trans bg335511'.2 (by decide)) hm165_335513)
                            · change G _ _ _ _ _ _ _ (.int 1 :: _) _ _ _
                              refine G_widen (cs' := 0) (sl' := 0) (by omega) (by omega) ?_
                              refine G_if_eq 212 dr_cX17_colours_195 (by decide +kernel) (fun hc => absurd hc (by decide)) (fun _ => ?_)
                              refine G_lload 1 dr_cX17_colours_198 rfl ?_
                              refine G_lconst 1 dr_cX17_colours_200 rfl ?_
                              refine G_aload_n 5 dr_cX17_colours_201 rfl ?_
                              refine Gp_get 17 hm335426 he335425 dr_cX17_colours_202 (gk_X17 D I) (Nat.le_of_ble_eq_true rfl) wr_7_91 rfl ?_
                              refine G_iload 0 dr_cX17_colours_205 rfl ?_
                              refine Gp_iald 0 hm335435 he335436 dr_cX17_colours_207 rfl (gB_in bg335511' (by decide) (by decide)) (G_eqi (y := z335543) hz335543.symm ?_)
                              refine G_lshl dr_cX17_colours_208 (G_namL fun u335577 hu335577 => ?_)
                              have qu335577 : lb_Q u335577 (z335543.toInt % 64 + 1) := lb_Qshl hu335577 (by omega)
                              refine G_lor dr_cX17_colours_209 (G_namL fun u335578 hu335578 => ?_)
                              have qu335578 : lb_Q u335578 (32) := lb_Qor hu335578 x335513 (lb_Qw qu335577 (by omega))
                              refine G_lstore (L' := [(5, .long u335578), (7, .int g335511), (4, .int z335443), (2, .int z335442), (3, .int g335413), (0, .ref q327417), (1, .int p327418)]) dr_cX17_colours_210 (Nat.le_of_ble_eq_true rfl) rfl ?_
                              obtain ⟨z335579, hz335579⟩ : ∃ z : Int32, z = g335511 + Int32.ofInt 1 := ⟨_, rfl⟩
                              have ez335579 : z335579.toInt = g335511.toInt + 1 := gI_inc hz335579 (by decide) bg335511' (by decide) (by decide)
                              have bz335579 : gB z335579 1 2000 := ⟨by omega, by omega⟩
                              refine G_iinc (L' := [(7, .int z335579), (5, .long u335578), (4, .int z335443), (2, .int z335442), (3, .int g335413), (0, .ref q327417), (1, .int p327418)]) z335579 1 dr_cX17_colours_212 rfl hz335579.symm (Nat.le_of_ble_eq_true rfl) rfl ?_
                              refine G_goto 165 dr_cX17_colours_215 (by decide +kernel) ?_
                              exact ih165_335513 z335579 u335578 (gB_w bz335579 (by decide) (by decide)) qu335578 (mz_up ez335579 (Int.le_trans bg335511'.2 (by decide)) hm165_335513)
                    exact hlp165_335513 (((2001 : Int) - 0).toNat + 1) 0 0 (gB_w (gBl (show Int32.toInt 0 = 0 by decide)) (by decide) (by decide)) lb_Q0 (Nat.lt_succ_self _)
              exact hlp144_335421 (((g335220.toInt : Int) - (-1)).toNat + 1) F335221 0 g335220 (gB_w (gBl (show Int32.toInt 0 = 0 by decide)) (by decide) (by decide)) bg335220 hT335222 hs335223 (by rw [cB_of he335235, cB_of he335241, cB_of he335244]; exact fun _ m s => Or.inl ((cq335246 m s).resolve_left (cq335249 (by omega) m))) (by have qa0 : Int32.toInt 0 = 0 := (by decide); omega) x335228 x335229 (Nat.lt_succ_self _)
            · have r335580 : 0 ≤ g335219.toInt := gj_nlt hc335250 (show Int32.toInt 0 = 0 by decide)
              have bg335219' : gB g335219 0 1999 := ⟨by omega, by omega⟩
              have r335581 := rcn_pos (cq335248 (by omega))
              have r335582 := cq335247
              have bg335220' : gB g335220 0 1999 := ⟨by omega, by omega⟩
              refine G_aload_n 2 dr_cX17_colours_74 rfl ?_
              refine Gp_get 15 hm335234 he335233 dr_cX17_colours_75 (gk_X17 D I) (Nat.le_of_ble_eq_true rfl) wr_7_89 rfl ?_
              refine G_iload_n 1 dr_cX17_colours_78 rfl ?_
              refine G_iload_n 0 dr_cX17_colours_79 rfl ?_
              refine Gp_iast 0 hm335240 he335241 dr_cX17_colours_80 rfl (gB_in bg335220' (by decide) (by decide)) (fun F335583 e335584 n335585 => ?_)
              obtain ⟨f335586, hf335586⟩ : ∃ z, z = upd f335242 g335220.toNatClampNeg g335219 := ⟨_, rfl⟩
              rw [← hf335586] at e335584
              have he335587 : F335583 q327417 = .inr (22, [.ref (γ 9 0), .ref (γ 9 1), .ref (γ 9 2), .ref (γ 9 3), .ref (γ 9 4), .ref (γ 9 5), .ref (γ 9 6), .ref (γ 9 7), .ref (γ 9 8), .int p327424, .int p327425, .int p327426, .int p327427, .int p327428, .int p327429, .ref (γ 9 15), .ref (γ 9 16), .ref (γ 9 17), .ref (γ 9 18), .ref (γ 9 19), .ref (γ 9 20), .ref (γ 9 21), .ref (γ 9 22), .int p327430, .int p327431, .int p327432, .int p327433, .int p327434, .ref q327422, .ref (γ 9 29), .int p327435, .ref (γ 9 31), .int p327436, .int p327437, .int p327438, .ref q327423]) := (n335585 q327417 (rn_oa he335233 he335241)).trans he335233
              have he335588 : F335583 (γ 9 3) = .inl (I .boolean, 2000, .inl f327469) := (n335585 (γ 9 3) (rn_ty ht327444 ht327450 (by decide))).trans he335235
              have he335589 : F335583 (γ 9 18) = .inl (I .boolean, 2000, .inl f335239) := (n335585 (γ 9 18) (rn_ty ht327453 ht327450 (by decide))).trans he335238
              have he335590 : F335583 (γ 9 17) = .inl (I .int, 2000, .inl f335245) := (n335585 (γ 9 17) (rn_ty ht327452 ht327450 (by decide))).trans he335244
              have he335591 : F335583 (γ 9 15) = .inl (I .int, 2000, .inl f335586) := e335584
              have hs335592 : rStr γ [] F327416 F335583 := rStr_put hs335223 n335585 ht327450 (by decide)
              have kp335593 : F335583 q327417 = F327416 q327417 := (n335585 q327417 (rn_ty htq327417 ht327450 (by decide))).trans x335228
              have kp335594 : F335583 (γ 9 3) = F327416 (γ 9 3) := (n335585 (γ 9 3) (rn_ty ht327444 ht327450 (by decide))).trans x335229
              have bf335586 : gF f335586 0 1999 := gF_upd hf335586 bf335242 bg335219'
              obtain ⟨z335595, hz335595⟩ : ∃ z : Int32, z = g335220 + Int32.ofInt 1 := ⟨_, rfl⟩
              have ez335595 : z335595.toInt = g335220.toInt + 1 := gI_inc hz335595 (by decide) bg335220' (by decide) (by decide)
              have bz335595 : gB z335595 1 2000 := ⟨by omega, by omega⟩
              refine G_iinc (L' := [(2, .int z335595), (3, .int g335219), (0, .ref q327417), (1, .int p327418)]) z335595 1 dr_cX17_colours_81 rfl hz335595.symm (Nat.le_of_ble_eq_true rfl) rfl ?_
              refine G_aload_n 2 dr_cX17_colours_84 rfl ?_
              refine Gp_get 18 hm335234 he335587 dr_cX17_colours_85 (gk_X17 D I) (Nat.le_of_ble_eq_true rfl) wr_7_92 rfl ?_
              refine G_iload_n 1 dr_cX17_colours_88 rfl ?_
              refine G_iconst 0 dr_cX17_colours_89 (by decide +kernel) ?_
              have hT335596 : RS D I P327415 F335583 γ el := RS_set hT335222 n335585 ht327450 (by decide) ⟨f335586, he335591, bf335586⟩
              refine Gp_zast 3 hm335237 he335589 dr_cX17_colours_90 rfl (gB_in bg335219' (by decide) (by decide)) (fun F335597 e335598 n335599 => ?_)
              obtain ⟨f335600, hf335600⟩ : ∃ z, z = upd f335239 g335219.toNatClampNeg (vp_nar .boolean 0) := ⟨_, rfl⟩
              rw [← hf335600] at e335598
              have he335601 : F335597 q327417 = .inr (22, [.ref (γ 9 0), .ref (γ 9 1), .ref (γ 9 2), .ref (γ 9 3), .ref (γ 9 4), .ref (γ 9 5), .ref (γ 9 6), .ref (γ 9 7), .ref (γ 9 8), .int p327424, .int p327425, .int p327426, .int p327427, .int p327428, .int p327429, .ref (γ 9 15), .ref (γ 9 16), .ref (γ 9 17), .ref (γ 9 18), .ref (γ 9 19), .ref (γ 9 20), .ref (γ 9 21), .ref (γ 9 22), .int p327430, .int p327431, .int p327432, .int p327433, .int p327434, .ref q327422, .ref (γ 9 29), .int p327435, .ref (γ 9 31), .int p327436, .int p327437, .int p327438, .ref q327423]) := (n335599 q327417 (rn_oa he335587 he335589)).trans he335587
              have he335602 : F335597 (γ 9 3) = .inl (I .boolean, 2000, .inl f327469) := (n335599 (γ 9 3) (rn_ty ht327444 ht327453 (by decide))).trans he335588
              have he335603 : F335597 (γ 9 15) = .inl (I .int, 2000, .inl f335586) := (n335599 (γ 9 15) (rn_ty ht327450 ht327453 (by decide))).trans he335591
              have he335604 : F335597 (γ 9 17) = .inl (I .int, 2000, .inl f335245) := (n335599 (γ 9 17) (rn_ty ht327452 ht327453 (by decide))).trans he335590
              have he335605 : F335597 (γ 9 18) = .inl (I .boolean, 2000, .inl f335600) := e335598
              have hs335606 : rStr γ [] F327416 F335597 := rStr_put hs335592 n335599 ht327453 (by decide)
              have kp335607 : F335597 q327417 = F327416 q327417 := (n335599 q327417 (rn_ty htq327417 ht327453 (by decide))).trans kp335593
              have kp335608 : F335597 (γ 9 3) = F327416 (γ 9 3) := (n335599 (γ 9 3) (rn_ty ht327444 ht327453 (by decide))).trans kp335594
              have bf335600 : gF f335600 0 1 := gF_upd hf335600 bf335239 (gB_w (gBl (show Int32.toInt 0 = 0 by decide)) (by decide) (by decide))
              have hT335610 : RS D I P327415 F335597 γ el := RS_set hT335596 n335599 ht327453 (by decide) ⟨f335600, he335605, bf335600⟩
              have td335609 := th_d hf335600 (by omega) (cq335248 (by omega))
              refine G_iconst 0 dr_cX17_colours_91 (by decide +kernel) ?_
              refine G_istore (L' := [(4, .int 0), (2, .int z335595), (3, .int g335219), (0, .ref q327417), (1, .int p327418)]) dr_cX17_colours_92 (Nat.le_of_ble_eq_true rfl) rfl ?_
              have hlp94_335700 : ∀ (n94_335700 : Nat) (F335693 : Nat → va_E) (g335692 : Int32), gB g335692 0 2000 → RS D I P327415 F335693 γ el → rStr γ [] F327416 F335693 → (∀ m : Nat, rSd (cB (F335693 (γ 9 3))) m → rSd (cB (F335693 (γ 9 18))) m ∨ ∃ i : Nat, (i : Int) < z335595.toInt ∧ (cB (F335693 (γ 9 15)) i).toInt = m) → (rcn (cB (F335693 (γ 9 18))) 2000 + (z335595.toInt : Int).toNat ≤ 2000) → (rcn (cB (F335693 (γ 9 18))) 2000 + 1 ≤ rcn (cB (F335221 (γ 9 18))) 2000) → (F335693 q327417 = F327416 q327417) → (F335693 (γ 9 3) = F327416 (γ 9 3)) → ((2001 : Int) - g335692.toInt).toNat < n94_335700 → G (gV D I) l (gRm 2 43 0 0) (gMA (gV D I) (pt_327419_SpillForgeModel_colours D I γ el P327415 F327416 q327417 p327418) gNA 0 0) ky_327419_SpillForgeModel_colours 94 [(4, .int g335692), (2, .int z335595), (3, .int g335219), (0, .ref q327417), (1, .int p327418)] [] (va_pl P327415 F335693) 0 0 := by
                intro n94_335700
                induction n94_335700 with
                | zero => intro F335693 g335692 bg335692 hT335694 hs335695 x335696 x335697 x335698 x335699 x335700 hm94_335700; exact absurd hm94_335700 (Nat.not_lt_zero _)
                | succ n94_335700 ih94_335700 =>
                  intro F335693 g335692 bg335692 hT335694 hs335695 x335696 x335697 x335698 x335699 x335700 hm94_335700
                  have hs335702 : rStr γ [] F335597 F335693 := fun b h0 hb hw => (hs335695 b h0 hb hw).trans (hs335606 b h0 hb hw).symm
                  have hs335703 : rStr γ [] F327416 F335693 := rStr_tr hs335606 hs335702
                  have he335704 : F335693 q327417 = .inr (22, [.ref (γ 9 0), .ref (γ 9 1), .ref (γ 9 2), .ref (γ 9 3), .ref (γ 9 4), .ref (γ 9 5), .ref (γ 9 6), .ref (γ 9 7), .ref (γ 9 8), .int p327424, .int p327425, .int p327426, .int p327427, .int p327428, .int p327429, .ref (γ 9 15), .ref (γ 9 16), .ref (γ 9 17), .ref (γ 9 18), .ref (γ 9 19), .ref (γ 9 20), .ref (γ 9 21), .ref (γ 9 22), .int p327430, .int p327431, .int p327432, .int p327433, .int p327434, .ref q327422, .ref (γ 9 29), .int p327435, .ref (γ 9 31), .int p327436, .int p327437, .int p327438, .ref q327423]) := x335699.trans he327421
                  have hm335705 : q327417 ∈ P327415 := RS_m hT335694 htq327417 (by decide)
                  have he335706 : F335693 (γ 9 3) = .inl (I .boolean, 2000, .inl f327469) := x335700.trans he327468
                  have hm335707 : (γ 9 3) ∈ P327415 := RS_m hT335694 ht327444 (by decide)
                  have hm335708 : (γ 9 18) ∈ P327415 := RS_m hT335694 ht327453 (by decide)
                  obtain ⟨f335710, he335709, bf335710⟩ := show rk_15 I (F335693 (γ 9 18)) from RS_o hT335694 ht327453
                  have hm335711 : (γ 9 15) ∈ P327415 := RS_m hT335694 ht327450 (by decide)
                  obtain ⟨f335713, he335712, bf335713⟩ := show rk_18 I (F335693 (γ 9 15)) from RS_o hT335694 ht327450
                  have hm335714 : (γ 9 17) ∈ P327415 := RS_m hT335694 ht327452 (by decide)
                  obtain ⟨f335716, he335715, bf335716⟩ := show rk_20 I (F335693 (γ 9 17)) from RS_o hT335694 ht327452
                  have cq335717 := x335696
                  rw [cB_of he335706, cB_of he335709, cB_of he335712] at cq335717
                  have cq335718 := x335697
                  rw [cB_of he335709] at cq335718
                  have cq335719 := x335698
                  rw [cB_of he335709] at cq335719
                  refine G_iload 0 dr_cX17_colours_94 rfl ?_
                  refine G_sipush 2000 dr_cX17_colours_96 (by decide +kernel) ?_
                  refine G_icmp_ge 133 dr_cX17_colours_99 (by decide +kernel) (fun hc335720 => ?_) (fun hc335720 => ?_)
                  · have r335721 : 2000 ≤ g335692.toInt := gj_leL hc335720 (show Int32.toInt 2000 = 2000 by decide)
                    have bg335692' : gB g335692 2000 2000 := ⟨by omega, by omega⟩
                    refine G_aload_n 3 dr_cX17_colours_133 rfl ?_
                    refine G_iload_n 4 dr_cX17_colours_134 rfl ?_
                    refine Gw_callV (As := [.int p327418]) (gV_ok D I) (ct_328209_SpillForgeModel_next l hl0 D I γ el P327415 F335693 q327417 p327418 hT335694 htq327417) dr_cX17_colours_135 ⟨wr_11_51, wr_1_14, wr_11_54, by decide, rfl, (Nat.le_of_ble_eq_true rfl), (Nat.le_of_ble_eq_true rfl)⟩ wr_11_53 wr_p_107 hm335705 he335704 rfl (show 0 + 0 ≤ 0 by first | omega | decide) (show 0 + 0 ≤ 0 by first | omega | decide) (Nat.le_of_ble_eq_true rfl) (fun r335725 w335726 dc335722 ds335723 hp335724 => ?_) (fun _ _ _ _ _ z => z.elim)
                    obtain ⟨o335727, rfl, rfl, hdc, hds, bo335727, x335728, x335729⟩ := hp335724
                    change G _ _ _ _ _ _ _ (.int o335727 :: _) _ _ _
                    refine G_widen (cs' := 0) (sl' := 0) (by omega) (by omega) ?_
                    refine G_istore_n (L' := [(3, .int o335727), (4, .int g335692), (2, .int z335595), (0, .ref q327417), (1, .int p327418)]) dr_cX17_colours_138 (Nat.le_of_ble_eq_true rfl) rfl ?_
                    refine G_goto 70 dr_cX17_colours_139 (by decide +kernel) ?_
                    refine G_lv (L' := [(3, .int o335727), (2, .int z335595), (0, .ref q327417), (1, .int p327418)]) [0, 2, 3, 4] rfl ?_
                    exact ih70_335229 F335693 o335727 z335595 bo335727 (gB_w bz335595 (by decide) (by decide)) hT335694 hs335695 (by rw [cB_of he335706, cB_of he335709, cB_of he335712]; exact cq335717) (by rw [cB_of he335709]; exact cq335718) x335728 x335729 x335699 x335700 (by have q := cq335719; rw [cB_of he335238] at q; rw [cB_of he335709]; rw [cB_of he335238] at hm70_335229; omega)
                  · have r335730 : g335692.toInt < 2000 := gj_nleL hc335720 (show Int32.toInt 2000 = 2000 by decide)
                    have bg335692' : gB g335692 0 1999 := ⟨by omega, by omega⟩
                    refine G_aload_n 3 dr_cX17_colours_102 rfl ?_
                    refine Gp_get 1 hm335705 he335704 dr_cX17_colours_103 (gk_X17 D I) (Nat.le_of_ble_eq_true rfl) wr_7_75 rfl ?_
                    refine G_iload_n 2 dr_cX17_colours_106 rfl ?_
                    have hm335731 : (γ 9 1) ∈ P327415 := RS_m hT335694 ht327442 (by decide)
                    obtain ⟨f335733, he335732, hg335734⟩ := show rk_13 I γ (F335693 (γ 9 1)) from RS_o hT335694 ht327442
                    obtain ⟨q335735, hx335737⟩ : ∃ x, x = γ 11 g335219.toInt.toNat := ⟨_, rfl⟩
                    have ht335736 : rKd γ q335735 36 := by rw [hx335737]; exact (hg335734 _ (show g335219.toInt.toNat < 2000 by omega)).2.1
                    refine Gp_aald 5 hm335731 he335732 dr_cX17_colours_107 rfl rfl (gB_in bg335219' (by decide) (by decide)) ?_
                    rw [show f335733 g335219.toNatClampNeg = some q335735 from (hg335734 _ (show g335219.toInt.toNat < 2000 by omega)).1.trans (by rw [hx335737])]
                    change G _ _ _ _ _ _ _ (.ref q335735 :: _) _ _ _
                    refine G_iload 0 dr_cX17_colours_108 rfl ?_
                    have hm335738 : q335735 ∈ P327415 := RS_m hT335694 ht335736 (by decide)
                    obtain ⟨f335740, he335739, wf335740⟩ := show rk_36 I (F335693 q335735) from RS_o hT335694 ht335736
                    refine Gw_callS (As := [.ref q335735, .int g335692]) (gV_ok D I) (cp_1838_SpillForgeModel_has l hl0 D I P327415 F335693 q335735 g335692 f335740 hm335738 he335739 (gB_w bg335692' (by decide) (by decide))) dr_cX17_colours_110 ⟨wr_10_203, wr_1_14, wr_10_205, by decide, rfl, (Nat.le_of_ble_eq_true rfl), (Nat.le_of_ble_eq_true rfl)⟩ wr_10_204 (show 0 + 0 ≤ 0 by first | omega | decide) (show 0 + 0 ≤ 0 by first | omega | decide) (Nat.le_of_ble_eq_true rfl) (fun r335744 w335745 dc335741 ds335742 hp335743 => ?_) (fun _ _ _ _ _ z => z.elim)
                    rcases hp335743 with ⟨z335746, z335747, rfl, rfl, hdc, hds, r335748, r335749, r335750, r335751⟩ | ⟨z335752, z335753, rfl, rfl, hdc, hds, r335754, r335755, r335756, r335757⟩
                    · change G _ _ _ _ _ _ _ (.int 0 :: _) _ _ _
                      refine G_widen (cs' := 0) (sl' := 0) (by omega) (by omega) ?_
                      refine G_if_eq 127 dr_cX17_colours_113 (by decide +kernel) (fun _ => ?_) (fun hc => absurd hc (by decide))
                      obtain ⟨z335759, hz335759⟩ : ∃ z : Int32, z = g335692 + Int32.ofInt 1 := ⟨_, rfl⟩
                      have ez335759 : z335759.toInt = g335692.toInt + 1 := gI_inc hz335759 (by decide) bg335692' (by decide) (by decide)
                      have bz335759 : gB z335759 1 2000 := ⟨by omega, by omega⟩
                      refine G_iinc (L' := [(4, .int z335759), (2, .int z335595), (3, .int g335219), (0, .ref q327417), (1, .int p327418)]) z335759 0 dr_cX17_colours_127 rfl hz335759.symm (Nat.le_of_ble_eq_true rfl) rfl ?_
                      refine G_goto 94 dr_cX17_colours_130 (by decide +kernel) ?_
                      exact ih94_335700 F335693 z335759 (gB_w bz335759 (by decide) (by decide)) hT335694 hs335695 (by rw [cB_of he335706, cB_of he335709, cB_of he335712]; exact cq335717) (by rw [cB_of he335709]; exact cq335718) (by rw [cB_of he335709]; exact cq335719) x335699 x335700 (mz_up ez335759 (Int.le_trans bg335692'.2 (by decide)) hm94_335700)
                    · change G _ _ _ _ _ _ _ (.int 1 :: _) _ _ _
                      refine G_widen (cs' := 0) (sl' := 0) (by omega) (by omega) ?_
                      refine G_if_eq 127 dr_cX17_colours_113 (by decide +kernel) (fun hc => absurd hc (by decide)) (fun _ => ?_)
                      refine G_aload_n 3 dr_cX17_colours_116 rfl ?_
                      refine Gp_get 16 hm335705 he335704 dr_cX17_colours_117 (gk_X17 D I) (Nat.le_of_ble_eq_true rfl) wr_7_90 rfl ?_
                      refine G_iload 0 dr_cX17_colours_120 rfl ?_
                      refine G_dup2_11 dr_cX17_colours_122 rfl rfl ?_
                      have hm335760 : (γ 9 16) ∈ P327415 := RS_m hT335694 ht327451 (by decide)
                      obtain ⟨f335762, he335761⟩ := show rk_19 I (F335693 (γ 9 16)) from RS_o hT335694 ht327451
                      refine Gp_iald 0 hm335760 he335761 dr_cX17_colours_123 rfl (gB_in bg335692' (by decide) (by decide)) (G_nam fun z335763 hz335763 => ?_)
                      have bz335763 : gB z335763 (-2147483648) 2147483647 := gB_any z335763
                      refine G_iconst 1 dr_cX17_colours_124 (by decide +kernel) ?_
                      refine G_isub dr_cX17_colours_125 (G_nam fun z335764 hz335764 => ?_)
                      have bz335764 : gB z335764 (-2147483648) 2147483647 := gB_any z335764
                      refine Gp_iast 0 hm335760 he335761 dr_cX17_colours_126 rfl (gB_in bg335692' (by decide) (by decide)) (fun F335765 e335766 n335767 => ?_)
                      obtain ⟨f335768, hf335768⟩ : ∃ z, z = upd f335762 g335692.toNatClampNeg z335764 := ⟨_, rfl⟩
                      rw [← hf335768] at e335766
                      have he335769 : F335765 q327417 = .inr (22, [.ref (γ 9 0), .ref (γ 9 1), .ref (γ 9 2), .ref (γ 9 3), .ref (γ 9 4), .ref (γ 9 5), .ref (γ 9 6), .ref (γ 9 7), .ref (γ 9 8), .int p327424, .int p327425, .int p327426, .int p327427, .int p327428, .int p327429, .ref (γ 9 15), .ref (γ 9 16), .ref (γ 9 17), .ref (γ 9 18), .ref (γ 9 19), .ref (γ 9 20), .ref (γ 9 21), .ref (γ 9 22), .int p327430, .int p327431, .int p327432, .int p327433, .int p327434, .ref q327422, .ref (γ 9 29), .int p327435, .ref (γ 9 31), .int p327436, .int p327437, .int p327438, .ref q327423]) := (n335767 q327417 (rn_oa he335704 he335761)).trans he335704
                      have he335770 : F335765 (γ 9 3) = .inl (I .boolean, 2000, .inl f327469) := (n335767 (γ 9 3) (rn_ty ht327444 ht327451 (by decide))).trans he335706
                      have he335771 : F335765 (γ 9 18) = .inl (I .boolean, 2000, .inl f335710) := (n335767 (γ 9 18) (rn_ty ht327453 ht327451 (by decide))).trans he335709
                      have he335772 : F335765 (γ 9 15) = .inl (I .int, 2000, .inl f335713) := (n335767 (γ 9 15) (rn_ty ht327450 ht327451 (by decide))).trans he335712
                      have he335773 : F335765 (γ 9 17) = .inl (I .int, 2000, .inl f335716) := (n335767 (γ 9 17) (rn_ty ht327452 ht327451 (by decide))).trans he335715
                      have he335774 : F335765 (γ 9 1) = .inl (I (.array .long), 2000, .inr (.inr (.inr (.inr f335733)))) := (n335767 (γ 9 1) (rn_ref_num he335732 he335761)).trans he335732
                      have he335775 : F335765 q335735 = .inl (I .long, 32, .inr (.inl f335740)) := (n335767 q335735 (rn_long_num he335739 he335761)).trans he335739
                      have he335776 : F335765 (γ 9 16) = .inl (I .int, 2000, .inl f335768) := e335766
                      have hs335777 : rStr γ [] F327416 F335765 := rStr_put hs335695 n335767 ht327451 (by decide)
                      have kp335778 : F335765 q327417 = F327416 q327417 := (n335767 q327417 (rn_ty htq327417 ht327451 (by decide))).trans x335699
                      have kp335779 : F335765 (γ 9 3) = F327416 (γ 9 3) := (n335767 (γ 9 3) (rn_ty ht327444 ht327451 (by decide))).trans x335700
                      obtain ⟨z335780, hz335780⟩ : ∃ z : Int32, z = g335692 + Int32.ofInt 1 := ⟨_, rfl⟩
                      have ez335780 : z335780.toInt = g335692.toInt + 1 := gI_inc hz335780 (by decide) bg335692' (by decide) (by decide)
                      have bz335780 : gB z335780 1 2000 := ⟨by omega, by omega⟩
                      refine G_iinc (L' := [(4, .int z335780), (2, .int z335595), (3, .int g335219), (0, .ref q327417), (1, .int p327418)]) z335780 0 dr_cX17_colours_127 rfl hz335780.symm (Nat.le_of_ble_eq_true rfl) rfl ?_
                      refine G_goto 94 dr_cX17_colours_130 (by decide +kernel) ?_
                      have hT335781 : RS D I P327415 F335765 γ el := RS_set hT335694 n335767 ht327451 (by decide) ⟨f335768, he335776⟩
                      exact ih94_335700 F335765 z335780 (gB_w bz335780 (by decide) (by decide)) hT335781 hs335777 (by rw [cB_of he335770, cB_of he335771, cB_of he335772]; exact cq335717) (by rw [cB_of he335771]; exact cq335718) (by rw [cB_of he335771]; exact cq335719) kp335778 kp335779 (mz_up ez335780 (Int.le_trans bg335692'.2 (by decide)) hm94_335700)
              exact hlp94_335700 (((2001 : Int) - 0).toNat + 1) F335597 0 (gB_w (gBl (show Int32.toInt 0 = 0 by decide)) (by decide) (by decide)) hT335610 hs335606 (by rw [ez335595]; rw [cB_of he335602, cB_of he335605, cB_of he335603]; exact pi_u hf335600 hf335586 (by omega) (by omega) cq335246) (by rw [cB_of he335605]; have q := td335609; have q2 := cq335247; omega) (by rw [cB_of he335605]; rw [cB_of he335238]; have q := td335609; omega) kp335607 kp335608 (Nat.lt_succ_self _)
        exact hlp70_335229 ((rcn (cB (F334639 (γ 9 18))) 2000) + 1) F334639 o334669 0 bo334669 (gB_w (gBl (show Int32.toInt 0 = 0 by decide)) (by decide) (by decide)) hT334640 hs334641 (by rw [cB_of he334650, cB_of he334653, cB_of he334656]; exact fun m s => Or.inl (cq334661 m (by have := s.1; omega) s)) (by have q := rcn_le (g := cB (F334639 (γ 9 18))) 2000; have qa : Int32.toInt 0 = 0 := (by decide); omega) x334670 x334671 x334643 x334644 (Nat.lt_succ_self _)
      · have r335782 : g334638.toInt < 2000 := gj_nleL hc334662 (show Int32.toInt 2000 = 2000 by decide)
        have bg334638' : gB g334638 0 1999 := ⟨by omega, by omega⟩
        refine G_aload_n 1 dr_cX17_colours_9 rfl ?_
        refine Gp_get 18 hm334649 he334648 dr_cX17_colours_10 (gk_X17 D I) (Nat.le_of_ble_eq_true rfl) wr_7_92 rfl ?_
        refine G_iload_n 0 dr_cX17_colours_13 rfl ?_
        refine G_aload_n 1 dr_cX17_colours_14 rfl ?_
        refine Gp_get 3 hm334649 he334648 dr_cX17_colours_15 (gk_X17 D I) (Nat.le_of_ble_eq_true rfl) wr_7_77 rfl ?_
        refine G_iload_n 0 dr_cX17_colours_18 rfl ?_
        refine Gp_zald 3 hm334651 he334650 dr_cX17_colours_19 rfl (gB_in bg334638' (by decide) (by decide)) (G_nam fun z335783 hz335783 => ?_)
        have bz335783 : gB z335783 0 1 := by rw [hz335783]; exact bf327469 _
        refine Gp_zast 3 hm334652 he334653 dr_cX17_colours_20 rfl (gB_in bg334638' (by decide) (by decide)) (fun F335784 e335785 n335786 => ?_)
        obtain ⟨f335787, hf335787⟩ : ∃ z, z = upd f334654 g334638.toNatClampNeg (vp_nar .boolean z335783) := ⟨_, rfl⟩
        rw [← hf335787] at e335785
        have he335788 : F335784 q327417 = .inr (22, [.ref (γ 9 0), .ref (γ 9 1), .ref (γ 9 2), .ref (γ 9 3), .ref (γ 9 4), .ref (γ 9 5), .ref (γ 9 6), .ref (γ 9 7), .ref (γ 9 8), .int p327424, .int p327425, .int p327426, .int p327427, .int p327428, .int p327429, .ref (γ 9 15), .ref (γ 9 16), .ref (γ 9 17), .ref (γ 9 18), .ref (γ 9 19), .ref (γ 9 20), .ref (γ 9 21), .ref (γ 9 22), .int p327430, .int p327431, .int p327432, .int p327433, .int p327434, .ref q327422, .ref (γ 9 29), .int p327435, .ref (γ 9 31), .int p327436, .int p327437, .int p327438, .ref q327423]) := (n335786 q327417 (rn_oa he334648 he334653)).trans he334648
        have he335789 : F335784 (γ 9 3) = .inl (I .boolean, 2000, .inl f327469) := (n335786 (γ 9 3) (rn_ty ht327444 ht327453 (by decide))).trans he334650
        have he335790 : F335784 (γ 9 15) = .inl (I .int, 2000, .inl f334657) := (n335786 (γ 9 15) (rn_ty ht327450 ht327453 (by decide))).trans he334656
        have he335791 : F335784 (γ 9 17) = .inl (I .int, 2000, .inl f334660) := (n335786 (γ 9 17) (rn_ty ht327452 ht327453 (by decide))).trans he334659
        have he335792 : F335784 (γ 9 18) = .inl (I .boolean, 2000, .inl f335787) := e335785
        have hs335793 : rStr γ [] F327416 F335784 := rStr_put hs334641 n335786 ht327453 (by decide)
        have kp335794 : F335784 q327417 = F327416 q327417 := (n335786 q327417 (rn_ty htq327417 ht327453 (by decide))).trans x334643
        have kp335795 : F335784 (γ 9 3) = F327416 (γ 9 3) := (n335786 (γ 9 3) (rn_ty ht327444 ht327453 (by decide))).trans x334644
        have bf335787 : gF f335787 0 1 := gF_upd hf335787 bf334654 (gB_nb bz335783)
        refine G_aload_n 1 dr_cX17_colours_21 rfl ?_
        refine Gp_get 16 hm334649 he335788 dr_cX17_colours_22 (gk_X17 D I) (Nat.le_of_ble_eq_true rfl) wr_7_90 rfl ?_
        refine G_iload_n 0 dr_cX17_colours_25 rfl ?_
        refine G_aload_n 1 dr_cX17_colours_26 rfl ?_
        refine Gp_get 3 hm334649 he335788 dr_cX17_colours_27 (gk_X17 D I) (Nat.le_of_ble_eq_true rfl) wr_7_77 rfl ?_
        refine G_iload_n 0 dr_cX17_colours_30 rfl ?_
        refine Gp_zald 3 hm334651 he335789 dr_cX17_colours_31 rfl (gB_in bg334638' (by decide) (by decide)) (G_eqi (y := z335783) hz335783.symm ?_)
        refine G_if_eq 47 dr_cX17_colours_32 (by decide +kernel) (fun hc335796 => ?_) (fun hc335796 => ?_)
        · have r335797 : z335783.toInt = 0 := gj_eq hc335796 (show Int32.toInt 0 = 0 by decide)
          have bz335783' : gB z335783 0 0 := gB_t0 r335797
          refine G_iconst 0 dr_cX17_colours_47 (by decide +kernel) ?_
          have hT335798 : RS D I P327415 F335784 γ el := RS_set hT334640 n335786 ht327453 (by decide) ⟨f335787, he335792, bf335787⟩
          have hm335799 : (γ 9 16) ∈ P327415 := RS_m hT335798 ht327451 (by decide)
          obtain ⟨f335801, he335800⟩ := show rk_19 I (F335784 (γ 9 16)) from RS_o hT335798 ht327451
          refine Gp_iast 0 hm335799 he335800 dr_cX17_colours_48 rfl (gB_in bg334638' (by decide) (by decide)) (fun F335802 e335803 n335804 => ?_)
          obtain ⟨f335805, hf335805⟩ : ∃ z, z = upd f335801 g334638.toNatClampNeg 0 := ⟨_, rfl⟩
          rw [← hf335805] at e335803
          have he335806 : F335802 q327417 = .inr (22, [.ref (γ 9 0), .ref (γ 9 1), .ref (γ 9 2), .ref (γ 9 3), .ref (γ 9 4), .ref (γ 9 5), .ref (γ 9 6), .ref (γ 9 7), .ref (γ 9 8), .int p327424, .int p327425, .int p327426, .int p327427, .int p327428, .int p327429, .ref (γ 9 15), .ref (γ 9 16), .ref (γ 9 17), .ref (γ 9 18), .ref (γ 9 19), .ref (γ 9 20), .ref (γ 9 21), .ref (γ 9 22), .int p327430, .int p327431, .int p327432, .int p327433, .int p327434, .ref q327422, .ref (γ 9 29), .int p327435, .ref (γ 9 31), .int p327436, .int p327437, .int p327438, .ref q327423]) := (n335804 q327417 (rn_oa he335788 he335800)).trans he335788
          have he335807 : F335802 (γ 9 3) = .inl (I .boolean, 2000, .inl f327469) := (n335804 (γ 9 3) (rn_ty ht327444 ht327451 (by decide))).trans he335789
          have he335808 : F335802 (γ 9 18) = .inl (I .boolean, 2000, .inl f335787) := (n335804 (γ 9 18) (rn_ty ht327453 ht327451 (by decide))).trans he335792
          have he335809 : F335802 (γ 9 15) = .inl (I .int, 2000, .inl f334657) := (n335804 (γ 9 15) (rn_ty ht327450 ht327451 (by decide))).trans he335790
          have he335810 : F335802 (γ 9 17) = .inl (I .int, 2000, .inl f334660) := (n335804 (γ 9 17) (rn_ty ht327452 ht327451 (by decide))).trans he335791
          have he335811 : F335802 (γ 9 16) = .inl (I .int, 2000, .inl f335805) := e335803
          have hs335812 : rStr γ [] F327416 F335802 := rStr_put hs335793 n335804 ht327451 (by decide)
          have kp335813 : F335802 q327417 = F327416 q327417 := (n335804 q327417 (rn_ty htq327417 ht327451 (by decide))).trans kp335794
          have kp335814 : F335802 (γ 9 3) = F327416 (γ 9 3) := (n335804 (γ 9 3) (rn_ty ht327444 ht327451 (by decide))).trans kp335795
          refine G_aload_n 1 dr_cX17_colours_49 rfl ?_
          refine Gp_get 17 hm334649 he335806 dr_cX17_colours_50 (gk_X17 D I) (Nat.le_of_ble_eq_true rfl) wr_7_91 rfl ?_
          refine G_iload_n 0 dr_cX17_colours_53 rfl ?_
          refine G_iconst (-1) dr_cX17_colours_54 (by decide +kernel) ?_
          have hT335815 : RS D I P327415 F335802 γ el := RS_set hT335798 n335804 ht327451 (by decide) ⟨f335805, he335811⟩
          refine Gp_iast 0 hm334658 he335810 dr_cX17_colours_55 rfl (gB_in bg334638' (by decide) (by decide)) (fun F335816 e335817 n335818 => ?_)
          obtain ⟨f335819, hf335819⟩ : ∃ z, z = upd f334660 g334638.toNatClampNeg (-1) := ⟨_, rfl⟩
          rw [← hf335819] at e335817
          have he335820 : F335816 q327417 = .inr (22, [.ref (γ 9 0), .ref (γ 9 1), .ref (γ 9 2), .ref (γ 9 3), .ref (γ 9 4), .ref (γ 9 5), .ref (γ 9 6), .ref (γ 9 7), .ref (γ 9 8), .int p327424, .int p327425, .int p327426, .int p327427, .int p327428, .int p327429, .ref (γ 9 15), .ref (γ 9 16), .ref (γ 9 17), .ref (γ 9 18), .ref (γ 9 19), .ref (γ 9 20), .ref (γ 9 21), .ref (γ 9 22), .int p327430, .int p327431, .int p327432, .int p327433, .int p327434, .ref q327422, .ref (γ 9 29), .int p327435, .ref (γ 9 31), .int p327436, .int p327437, .int p327438, .ref q327423]) := (n335818 q327417 (rn_oa he335806 he335810)).trans he335806
          have he335821 : F335816 (γ 9 3) = .inl (I .boolean, 2000, .inl f327469) := (n335818 (γ 9 3) (rn_ty ht327444 ht327452 (by decide))).trans he335807
          have he335822 : F335816 (γ 9 18) = .inl (I .boolean, 2000, .inl f335787) := (n335818 (γ 9 18) (rn_ty ht327453 ht327452 (by decide))).trans he335808
          have he335823 : F335816 (γ 9 15) = .inl (I .int, 2000, .inl f334657) := (n335818 (γ 9 15) (rn_ty ht327450 ht327452 (by decide))).trans he335809
          have he335824 : F335816 (γ 9 16) = .inl (I .int, 2000, .inl f335805) := (n335818 (γ 9 16) (rn_ty ht327451 ht327452 (by decide))).trans he335811
          have he335825 : F335816 (γ 9 17) = .inl (I .int, 2000, .inl f335819) := e335817
          have hs335826 : rStr γ [] F327416 F335816 := rStr_put hs335812 n335818 ht327452 (by decide)
          have kp335827 : F335816 q327417 = F327416 q327417 := (n335818 q327417 (rn_ty htq327417 ht327452 (by decide))).trans kp335813
          have kp335828 : F335816 (γ 9 3) = F327416 (γ 9 3) := (n335818 (γ 9 3) (rn_ty ht327444 ht327452 (by decide))).trans kp335814
          have bf335819 : gF f335819 (-1) 31 := gF_upd hf335819 bf334660 (gB_w (gBl (show Int32.toInt (-1) = (-1) by decide)) (by decide) (by decide))
          obtain ⟨z335829, hz335829⟩ : ∃ z : Int32, z = g334638 + Int32.ofInt 1 := ⟨_, rfl⟩
          have ez335829 : z335829.toInt = g334638.toInt + 1 := gI_inc hz335829 (by decide) bg334638' (by decide) (by decide)
          have bz335829 : gB z335829 1 2000 := ⟨by omega, by omega⟩
          refine G_iinc (L' := [(2, .int z335829), (0, .ref q327417), (1, .int p327418)]) z335829 0 dr_cX17_colours_56 rfl hz335829.symm (Nat.le_of_ble_eq_true rfl) rfl ?_
          refine G_goto 2 dr_cX17_colours_59 (by decide +kernel) ?_
          have hT335830 : RS D I P327415 F335816 γ el := RS_set hT335815 n335818 ht327452 (by decide) ⟨f335819, he335825, bf335819⟩
          exact ih2_334644 F335816 z335829 (gB_w bz335829 (by decide) (by decide)) hT335830 hs335826 (by rw [ez335829]; rw [cB_of he335821, cB_of he335822]; exact th_u hf335787 hz335783 (by assumption) (by omega) cq334661) kp335827 kp335828 (mz_up ez335829 (Int.le_trans bg334638'.2 (by decide)) hm2_334644)
        · have r335831 : z335783.toInt ≠ 0 := gj_neq hc335796 (show Int32.toInt 0 = 0 by decide)
          have bz335783' : gB z335783 1 1 := gB_t1 bz335783 r335831
          refine G_aload_n 1 dr_cX17_colours_35 rfl ?_
          refine Gp_get 1 hm334649 he335788 dr_cX17_colours_36 (gk_X17 D I) (Nat.le_of_ble_eq_true rfl) wr_7_75 rfl ?_
          refine G_iload_n 0 dr_cX17_colours_39 rfl ?_
          have hT335832 : RS D I P327415 F335784 γ el := RS_set hT334640 n335786 ht327453 (by decide) ⟨f335787, he335792, bf335787⟩
          have hm335833 : (γ 9 1) ∈ P327415 := RS_m hT335832 ht327442 (by decide)
          obtain ⟨f335835, he335834, hg335836⟩ := show rk_13 I γ (F335784 (γ 9 1)) from RS_o hT335832 ht327442
          obtain ⟨q335837, hx335839⟩ : ∃ x, x = γ 11 g334638.toInt.toNat := ⟨_, rfl⟩
          have ht335838 : rKd γ q335837 36 := by rw [hx335839]; exact (hg335836 _ (show g334638.toInt.toNat < 2000 by omega)).2.1
          refine Gp_aald 5 hm335833 he335834 dr_cX17_colours_40 rfl rfl (gB_in bg334638' (by decide) (by decide)) ?_
          rw [show f335835 g334638.toNatClampNeg = some q335837 from (hg335836 _ (show g334638.toInt.toNat < 2000 by omega)).1.trans (by rw [hx335839])]
          change G _ _ _ _ _ _ _ (.ref q335837 :: _) _ _ _
          have hm335840 : q335837 ∈ P327415 := RS_m hT335832 ht335838 (by decide)
          obtain ⟨f335842, he335841, wf335842⟩ := show rk_36 I (F335784 q335837) from RS_o hT335832 ht335838
          refine Gw_callS (As := [.ref q335837]) (gV_ok D I) (cp_1892_SpillForgeModel_count l hl0 D I P327415 F335784 q335837 f335842 hm335840 he335841) dr_cX17_colours_41 ⟨wr_11_16, wr_1_14, wr_11_18, by decide, rfl, (Nat.le_of_ble_eq_true rfl), (Nat.le_of_ble_eq_true rfl)⟩ wr_11_17 (show 0 + 0 ≤ 0 by first | omega | decide) (show 0 + 0 ≤ 0 by first | omega | decide) (Nat.le_of_ble_eq_true rfl) (fun r335846 w335847 dc335843 ds335844 hp335845 => ?_) (fun _ _ _ _ _ z => z.elim)
          obtain ⟨o335848, rfl, rfl, hdc, hds⟩ := hp335845
          have bo335848 := gB_any o335848
          change G _ _ _ _ _ _ _ (.int o335848 :: _) _ _ _
          refine G_widen (cs' := 0) (sl' := 0) (by omega) (by omega) ?_
          refine G_goto 48 dr_cX17_colours_44 (by decide +kernel) ?_
          have hm335849 : (γ 9 16) ∈ P327415 := RS_m hT335832 ht327451 (by decide)
          obtain ⟨f335851, he335850⟩ := show rk_19 I (F335784 (γ 9 16)) from RS_o hT335832 ht327451
          refine Gp_iast 0 hm335849 he335850 dr_cX17_colours_48 rfl (gB_in bg334638' (by decide) (by decide)) (fun F335852 e335853 n335854 => ?_)
          obtain ⟨f335855, hf335855⟩ : ∃ z, z = upd f335851 g334638.toNatClampNeg o335848 := ⟨_, rfl⟩
          rw [← hf335855] at e335853
          have he335856 : F335852 q327417 = .inr (22, [.ref (γ 9 0), .ref (γ 9 1), .ref (γ 9 2), .ref (γ 9 3), .ref (γ 9 4), .ref (γ 9 5), .ref (γ 9 6), .ref (γ 9 7), .ref (γ 9 8), .int p327424, .int p327425, .int p327426, .int p327427, .int p327428, .int p327429, .ref (γ 9 15), .ref (γ 9 16), .ref (γ 9 17), .ref (γ 9 18), .ref (γ 9 19), .ref (γ 9 20), .ref (γ 9 21), .ref (γ 9 22), .int p327430, .int p327431, .int p327432, .int p327433, .int p327434, .ref q327422, .ref (γ 9 29), .int p327435, .ref (γ 9 31), .int p327436, .int p327437, .int p327438, .ref q327423]) := (n335854 q327417 (rn_oa he335788 he335850)).trans he335788
          have he335857 : F335852 (γ 9 3) = .inl (I .boolean, 2000, .inl f327469) := (n335854 (γ 9 3) (rn_ty ht327444 ht327451 (by decide))).trans he335789
          have he335858 : F335852 (γ 9 18) = .inl (I .boolean, 2000, .inl f335787) := (n335854 (γ 9 18) (rn_ty ht327453 ht327451 (by decide))).trans he335792
          have he335859 : F335852 (γ 9 15) = .inl (I .int, 2000, .inl f334657) := (n335854 (γ 9 15) (rn_ty ht327450 ht327451 (by decide))).trans he335790
          have he335860 : F335852 (γ 9 17) = .inl (I .int, 2000, .inl f334660) := (n335854 (γ 9 17) (rn_ty ht327452 ht327451 (by decide))).trans he335791
          have he335861 : F335852 (γ 9 1) = .inl (I (.array .long), 2000, .inr (.inr (.inr (.inr f335835)))) := (n335854 (γ 9 1) (rn_ref_num he335834 he335850)).trans he335834
          have he335862 : F335852 q335837 = .inl (I .long, 32, .inr (.inl f335842)) := (n335854 q335837 (rn_long_num he335841 he335850)).trans he335841
          have he335863 : F335852 (γ 9 16) = .inl (I .int, 2000, .inl f335855) := e335853
          have hs335864 : rStr γ [] F327416 F335852 := rStr_put hs335793 n335854 ht327451 (by decide)
          have kp335865 : F335852 q327417 = F327416 q327417 := (n335854 q327417 (rn_ty htq327417 ht327451 (by decide))).trans kp335794
          have kp335866 : F335852 (γ 9 3) = F327416 (γ 9 3) := (n335854 (γ 9 3) (rn_ty ht327444 ht327451 (by decide))).trans kp335795
          refine G_aload_n 1 dr_cX17_colours_49 rfl ?_
          refine Gp_get 17 hm334649 he335856 dr_cX17_colours_50 (gk_X17 D I) (Nat.le_of_ble_eq_true rfl) wr_7_91 rfl ?_
          refine G_iload_n 0 dr_cX17_colours_53 rfl ?_
          refine G_iconst (-1) dr_cX17_colours_54 (by decide +kernel) ?_
          have hT335867 : RS D I P327415 F335852 γ el := RS_set hT335832 n335854 ht327451 (by decide) ⟨f335855, he335863⟩
          refine Gp_iast 0 hm334658 he335860 dr_cX17_colours_55 rfl (gB_in bg334638' (by decide) (by decide)) (fun F335868 e335869 n335870 => ?_)
          obtain ⟨f335871, hf335871⟩ : ∃ z, z = upd f334660 g334638.toNatClampNeg (-1) := ⟨_, rfl⟩
          rw [← hf335871] at e335869
          have he335872 : F335868 q327417 = .inr (22, [.ref (γ 9 0), .ref (γ 9 1), .ref (γ 9 2), .ref (γ 9 3), .ref (γ 9 4), .ref (γ 9 5), .ref (γ 9 6), .ref (γ 9 7), .ref (γ 9 8), .int p327424, .int p327425, .int p327426, .int p327427, .int p327428, .int p327429, .ref (γ 9 15), .ref (γ 9 16), .ref (γ 9 17), .ref (γ 9 18), .ref (γ 9 19), .ref (γ 9 20), .ref (γ 9 21), .ref (γ 9 22), .int p327430, .int p327431, .int p327432, .int p327433, .int p327434, .ref q327422, .ref (γ 9 29), .int p327435, .ref (γ 9 31), .int p327436, .int p327437, .int p327438, .ref q327423]) := (n335870 q327417 (rn_oa he335856 he335860)).trans he335856
          have he335873 : F335868 (γ 9 3) = .inl (I .boolean, 2000, .inl f327469) := (n335870 (γ 9 3) (rn_ty ht327444 ht327452 (by decide))).trans he335857
          have he335874 : F335868 (γ 9 18) = .inl (I .boolean, 2000, .inl f335787) := (n335870 (γ 9 18) (rn_ty ht327453 ht327452 (by decide))).trans he335858
          have he335875 : F335868 (γ 9 15) = .inl (I .int, 2000, .inl f334657) := (n335870 (γ 9 15) (rn_ty ht327450 ht327452 (by decide))).trans he335859
          have he335876 : F335868 (γ 9 1) = .inl (I (.array .long), 2000, .inr (.inr (.inr (.inr f335835)))) := (n335870 (γ 9 1) (rn_ref_num he335861 he335860)).trans he335861
          have he335877 : F335868 q335837 = .inl (I .long, 32, .inr (.inl f335842)) := (n335870 q335837 (rn_long_num he335862 he335860)).trans he335862
          have he335878 : F335868 (γ 9 16) = .inl (I .int, 2000, .inl f335855) := (n335870 (γ 9 16) (rn_ty ht327451 ht327452 (by decide))).trans he335863
          have he335879 : F335868 (γ 9 17) = .inl (I .int, 2000, .inl f335871) := e335869
          have hs335880 : rStr γ [] F327416 F335868 := rStr_put hs335864 n335870 ht327452 (by decide)
          have kp335881 : F335868 q327417 = F327416 q327417 := (n335870 q327417 (rn_ty htq327417 ht327452 (by decide))).trans kp335865
          have kp335882 : F335868 (γ 9 3) = F327416 (γ 9 3) := (n335870 (γ 9 3) (rn_ty ht327444 ht327452 (by decide))).trans kp335866
          have bf335871 : gF f335871 (-1) 31 := gF_upd hf335871 bf334660 (gB_w (gBl (show Int32.toInt (-1) = (-1) by decide)) (by decide) (by decide))
          obtain ⟨z335883, hz335883⟩ : ∃ z : Int32, z = g334638 + Int32.ofInt 1 := ⟨_, rfl⟩
          have ez335883 : z335883.toInt = g334638.toInt + 1 := gI_inc hz335883 (by decide) bg334638' (by decide) (by decide)
          have bz335883 : gB z335883 1 2000 := ⟨by omega, by omega⟩
          refine G_iinc (L' := [(2, .int z335883), (0, .ref q327417), (1, .int p327418)]) z335883 0 dr_cX17_colours_56 rfl hz335883.symm (Nat.le_of_ble_eq_true rfl) rfl ?_
          refine G_goto 2 dr_cX17_colours_59 (by decide +kernel) ?_
          have hT335884 : RS D I P327415 F335868 γ el := RS_set hT335867 n335870 ht327452 (by decide) ⟨f335871, he335879, bf335871⟩
          exact ih2_334644 F335868 z335883 (gB_w bz335883 (by decide) (by decide)) hT335884 hs335880 (by rw [ez335883]; rw [cB_of he335873, cB_of he335874]; exact th_u hf335787 hz335783 (by assumption) (by omega) cq334661) kp335881 kp335882 (mz_up ez335883 (Int.le_trans bg334638'.2 (by decide)) hm2_334644)
  exact hlp2_334644 (((2001 : Int) - 0).toNat + 1) F327416 0 (gB_w (gBl (show Int32.toInt 0 = 0 by decide)) (by decide) (by decide)) hT (rStr_rf (γ := γ) (W := []) (F := F327416)) (fun m hm => absurd hm (by have qa : Int32.toInt 0 = 0 := (by decide); omega)) rfl rfl (Nat.lt_succ_self _)
