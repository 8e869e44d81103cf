theorem dr_cX17_colours_0 : decode cX17_colours 0 = .ok (.iconst 0, 1) := by decide +kernel
theorem dr_cX17_colours_1 : decode cX17_colours 1 = .ok (.istore_n 2, 1) := by decide +kernel
theorem dr_cX17_colours_2 : decode cX17_colours 2 = .ok (.iload_n 2, 1) := by decide +kernel
theorem dr_cX17_colours_3 : decode cX17_colours 3 = .ok (.sipush 2000, 3) := by decide +kernel
theorem dr_cX17_colours_6 : decode cX17_colours 6 = .ok (.if_icmp .ge 56, 3) := by decide +kernel
theorem dr_cX17_colours_62 : decode cX17_colours 62 = .ok (.iconst 0, 1) := by decide +kernel
theorem dr_cX17_colours_63 : decode cX17_colours 63 = .ok (.istore_n 2, 1) := by decide +kernel
theorem dr_cX17_colours_64 : decode cX17_colours 64 = .ok (.aload_n 0, 1) := by decide +kernel
theorem dr_cX17_colours_65 : decode cX17_colours 65 = .ok (.iload_n 1, 1) := by decide +kernel
theorem dr_cX17_colours_66 : decode cX17_colours 66 = .ok (.invokevirtual 215, 3) := by decide +kernel
theorem wr_11_51 : (Jvm.Cond.methodLink "SpillForgeModel" (215 : Nat) ({ cls := "SpillForgeModel", name := "next", desc := "(I)I" } : Jvm.MethodName)) ∈ gw := gw_11 51 rfl rfl
theorem wr_11_54 : (Jvm.Cond.code ({ cls := "SpillForgeModel", name := "next", desc := "(I)I" } : Jvm.MethodName) prog_14_method_20_code (7 : Nat) (Option.some Jvm.ClassFile.FieldType.int)) ∈ gw := gw_11 54 rfl rfl
theorem wr_11_53 : (Jvm.Cond.instanceMethod ({ cls := "SpillForgeModel", name := "next", desc := "(I)I" } : Jvm.MethodName)) ∈ gw := gw_11 53 rfl rfl
theorem wr_p_107 : Cond.selects "SpillForgeModel" ⟨"SpillForgeModel", "next", "(I)I"⟩ ⟨"SpillForgeModel", "next", "(I)I"⟩ ∈ gw := gw_p _ 107 rfl rfl rfl
theorem dr_cX17_colours_69 : decode cX17_colours 69 = .ok (.istore_n 3, 1) := by decide +kernel
theorem dr_cX17_colours_70 : decode cX17_colours 70 = .ok (.iload_n 3, 1) := by decide +kernel
theorem dr_cX17_colours_71 : decode cX17_colours 71 = .ok (.ifCond .lt 71, 3) := by decide +kernel
theorem dr_cX17_colours_142 : decode cX17_colours 142 = .ok (.iconst 0, 1) := by decide +kernel
theorem dr_cX17_colours_143 : decode cX17_colours 143 = .ok (.istore_n 3, 1) := by decide +kernel
theorem dr_cX17_colours_144 : decode cX17_colours 144 = .ok (.iload_n 2, 1) := by decide +kernel
theorem dr_cX17_colours_145 : decode cX17_colours 145 = .ok (.ifCond .le 108, 3) := by decide +kernel
theorem dr_cX17_colours_253 : decode cX17_colours 253 = .ok (.iload_n 3, 1) := by decide +kernel
theorem dr_cX17_colours_254 : decode cX17_colours 254 = .ok (.ireturn, 1) := by decide +kernel
theorem dr_cX17_colours_148 : decode cX17_colours 148 = .ok (.iinc 2 (-1), 3) := by decide +kernel
theorem dr_cX17_colours_151 : decode cX17_colours 151 = .ok (.aload_n 0, 1) := by decide +kernel
theorem dr_cX17_colours_152 : decode cX17_colours 152 = .ok (.getfield 218, 3) := by decide +kernel
theorem wr_7_89 : (Jvm.Cond.fieldLink "SpillForgeModel" (218 : Nat) "SpillForgeModel" "pile" "[I") ∈ gw := gw_7 89 rfl rfl
theorem dr_cX17_colours_155 : decode cX17_colours 155 = .ok (.iload_n 2, 1) := by decide +kernel
theorem dr_cX17_colours_156 : decode cX17_colours 156 = .ok (.iaload, 1) := by decide +kernel
theorem dr_cX17_colours_157 : decode cX17_colours 157 = .ok (.istore 4, 2) := by decide +kernel
theorem dr_cX17_colours_159 : decode cX17_colours 159 = .ok (.lconst 0, 1) := by decide +kernel
theorem dr_cX17_colours_160 : decode cX17_colours 160 = .ok (.lstore 5, 2) := by decide +kernel
theorem dr_cX17_colours_162 : decode cX17_colours 162 = .ok (.iconst 0, 1) := by decide +kernel
theorem dr_cX17_colours_163 : decode cX17_colours 163 = .ok (.istore 7, 2) := by decide +kernel
theorem dr_cX17_colours_165 : decode cX17_colours 165 = .ok (.iload 7, 2) := by decide +kernel
theorem dr_cX17_colours_167 : decode cX17_colours 167 = .ok (.sipush 2000, 3) := by decide +kernel
theorem dr_cX17_colours_170 : decode cX17_colours 170 = .ok (.if_icmp .ge 48, 3) := by decide +kernel
theorem dr_cX17_colours_218 : decode cX17_colours 218 = .ok (.lload 5, 2) := by decide +kernel
theorem dr_cX17_colours_220 : decode cX17_colours 220 = .ok (.ldc2_w 31, 3) := by decide +kernel
theorem dr_cX17_colours_223 : decode cX17_colours 223 = .ok (.lxor, 1) := by decide +kernel
theorem dr_cX17_colours_224 : decode cX17_colours 224 = .ok (.invokestatic 149, 3) := by decide +kernel
theorem dr_cX17_colours_227 : decode cX17_colours 227 = .ok (.istore 7, 2) := by decide +kernel
theorem dr_cX17_colours_229 : decode cX17_colours 229 = .ok (.iload 7, 2) := by decide +kernel
theorem dr_cX17_colours_231 : decode cX17_colours 231 = .ok (.iload_n 1, 1) := by decide +kernel
theorem dr_cX17_colours_232 : decode cX17_colours 232 = .ok (.if_icmp .ge 15, 3) := by decide +kernel
theorem dr_cX17_colours_247 : decode cX17_colours 247 = .ok (.iinc 3 1, 3) := by decide +kernel
theorem dr_cX17_colours_250 : decode cX17_colours 250 = .ok (.goto (-106), 3) := by decide +kernel
theorem dr_cX17_colours_235 : decode cX17_colours 235 = .ok (.aload_n 0, 1) := by decide +kernel
theorem dr_cX17_colours_236 : decode cX17_colours 236 = .ok (.getfield 212, 3) := by decide +kernel
theorem wr_7_91 : (Jvm.Cond.fieldLink "SpillForgeModel" (212 : Nat) "SpillForgeModel" "colour" "[I") ∈ gw := gw_7 91 rfl rfl
theorem dr_cX17_colours_239 : decode cX17_colours 239 = .ok (.iload 4, 2) := by decide +kernel
theorem dr_cX17_colours_241 : decode cX17_colours 241 = .ok (.iload 7, 2) := by decide +kernel
theorem dr_cX17_colours_243 : decode cX17_colours 243 = .ok (.iastore, 1) := by decide +kernel
theorem dr_cX17_colours_244 : decode cX17_colours 244 = .ok (.goto 6, 3) := by decide +kernel
theorem dr_cX17_colours_173 : decode cX17_colours 173 = .ok (.aload_n 0, 1) := by decide +kernel
theorem dr_cX17_colours_174 : decode cX17_colours 174 = .ok (.getfield 212, 3) := by decide +kernel
theorem dr_cX17_colours_177 : decode cX17_colours 177 = .ok (.iload 7, 2) := by decide +kernel
theorem dr_cX17_colours_179 : decode cX17_colours 179 = .ok (.iaload, 1) := by decide +kernel
theorem dr_cX17_colours_180 : decode cX17_colours 180 = .ok (.ifCond .lt 32, 3) := by decide +kernel
theorem dr_cX17_colours_212 : decode cX17_colours 212 = .ok (.iinc 7 1, 3) := by decide +kernel
theorem dr_cX17_colours_215 : decode cX17_colours 215 = .ok (.goto (-50), 3) := by decide +kernel
theorem dr_cX17_colours_183 : decode cX17_colours 183 = .ok (.aload_n 0, 1) := by decide +kernel
theorem dr_cX17_colours_184 : decode cX17_colours 184 = .ok (.getfield 135, 3) := by decide +kernel
theorem dr_cX17_colours_187 : decode cX17_colours 187 = .ok (.iload 4, 2) := by decide +kernel
theorem dr_cX17_colours_189 : decode cX17_colours 189 = .ok (.aaload, 1) := by decide +kernel
theorem dr_cX17_colours_190 : decode cX17_colours 190 = .ok (.iload 7, 2) := by decide +kernel
theorem dr_cX17_colours_192 : decode cX17_colours 192 = .ok (.invokestatic 145, 3) := by decide +kernel
theorem dr_cX17_colours_195 : decode cX17_colours 195 = .ok (.ifCond .eq 17, 3) := by decide +kernel
theorem dr_cX17_colours_198 : decode cX17_colours 198 = .ok (.lload 5, 2) := by decide +kernel
theorem dr_cX17_colours_200 : decode cX17_colours 200 = .ok (.lconst 1, 1) := by decide +kernel
theorem dr_cX17_colours_201 : decode cX17_colours 201 = .ok (.aload_n 0, 1) := by decide +kernel
theorem dr_cX17_colours_202 : decode cX17_colours 202 = .ok (.getfield 212, 3) := by decide +kernel
theorem dr_cX17_colours_205 : decode cX17_colours 205 = .ok (.iload 7, 2) := by decide +kernel
theorem dr_cX17_colours_207 : decode cX17_colours 207 = .ok (.iaload, 1) := by decide +kernel
theorem dr_cX17_colours_208 : decode cX17_colours 208 = .ok (.lshl, 1) := by decide +kernel
theorem dr_cX17_colours_209 : decode cX17_colours 209 = .ok (.lor, 1) := by decide +kernel
theorem dr_cX17_colours_210 : decode cX17_colours 210 = .ok (.lstore 5, 2) := by decide +kernel
theorem dr_cX17_colours_74 : decode cX17_colours 74 = .ok (.aload_n 0, 1) := by decide +kernel
theorem dr_cX17_colours_75 : decode cX17_colours 75 = .ok (.getfield 218, 3) := by decide +kernel
theorem dr_cX17_colours_78 : decode cX17_colours 78 = .ok (.iload_n 2, 1) := by decide +kernel
theorem dr_cX17_colours_79 : decode cX17_colours 79 = .ok (.iload_n 3, 1) := by decide +kernel
theorem dr_cX17_colours_80 : decode cX17_colours 80 = .ok (.iastore, 1) := by decide +kernel
theorem dr_cX17_colours_81 : decode cX17_colours 81 = .ok (.iinc 2 1, 3) := by decide +kernel
theorem dr_cX17_colours_84 : decode cX17_colours 84 = .ok (.aload_n 0, 1) := by decide +kernel
theorem dr_cX17_colours_85 : decode cX17_colours 85 = .ok (.getfield 206, 3) := by decide +kernel
theorem dr_cX17_colours_88 : decode cX17_colours 88 = .ok (.iload_n 3, 1) := by decide +kernel
theorem dr_cX17_colours_89 : decode cX17_colours 89 = .ok (.iconst 0, 1) := by decide +kernel
theorem dr_cX17_colours_90 : decode cX17_colours 90 = .ok (.bastore, 1) := by decide +kernel
theorem dr_cX17_colours_91 : decode cX17_colours 91 = .ok (.iconst 0, 1) := by decide +kernel
theorem dr_cX17_colours_92 : decode cX17_colours 92 = .ok (.istore 4, 2) := by decide +kernel
theorem dr_cX17_colours_94 : decode cX17_colours 94 = .ok (.iload 4, 2) := by decide +kernel
theorem dr_cX17_colours_96 : decode cX17_colours 96 = .ok (.sipush 2000, 3) := by decide +kernel
theorem dr_cX17_colours_99 : decode cX17_colours 99 = .ok (.if_icmp .ge 34, 3) := by decide +kernel
theorem dr_cX17_colours_133 : decode cX17_colours 133 = .ok (.aload_n 0, 1) := by decide +kernel
theorem dr_cX17_colours_134 : decode cX17_colours 134 = .ok (.iload_n 1, 1) := by decide +kernel
theorem dr_cX17_colours_135 : decode cX17_colours 135 = .ok (.invokevirtual 215, 3) := by decide +kernel
theorem dr_cX17_colours_138 : decode cX17_colours 138 = .ok (.istore_n 3, 1) := by decide +kernel
theorem dr_cX17_colours_139 : decode cX17_colours 139 = .ok (.goto (-69), 3) := by decide +kernel
theorem dr_cX17_colours_102 : decode cX17_colours 102 = .ok (.aload_n 0, 1) := by decide +kernel
theorem dr_cX17_colours_103 : decode cX17_colours 103 = .ok (.getfield 135, 3) := by decide +kernel
theorem dr_cX17_colours_106 : decode cX17_colours 106 = .ok (.iload_n 3, 1) := by decide +kernel
theorem dr_cX17_colours_107 : decode cX17_colours 107 = .ok (.aaload, 1) := by decide +kernel
theorem dr_cX17_colours_108 : decode cX17_colours 108 = .ok (.iload 4, 2) := by decide +kernel
theorem dr_cX17_colours_110 : decode cX17_colours 110 = .ok (.invokestatic 145, 3) := by decide +kernel
theorem dr_cX17_colours_113 : decode cX17_colours 113 = .ok (.ifCond .eq 14, 3) := by decide +kernel
theorem dr_cX17_colours_127 : decode cX17_colours 127 = .ok (.iinc 4 1, 3) := by decide +kernel
theorem dr_cX17_colours_130 : decode cX17_colours 130 = .ok (.goto (-36), 3) := by decide +kernel
theorem dr_cX17_colours_116 : decode cX17_colours 116 = .ok (.aload_n 0, 1) := by decide +kernel
theorem dr_cX17_colours_117 : decode cX17_colours 117 = .ok (.getfield 209, 3) := by decide +kernel
theorem dr_cX17_colours_120 : decode cX17_colours 120 = .ok (.iload 4, 2) := by decide +kernel
theorem dr_cX17_colours_122 : decode cX17_colours 122 = .ok (.dup2, 1) := by decide +kernel
theorem dr_cX17_colours_123 : decode cX17_colours 123 = .ok (.iaload, 1) := by decide +kernel
theorem dr_cX17_colours_124 : decode cX17_colours 124 = .ok (.iconst 1, 1) := by decide +kernel
theorem dr_cX17_colours_125 : decode cX17_colours 125 = .ok (.isub, 1) := by decide +kernel
theorem dr_cX17_colours_126 : decode cX17_colours 126 = .ok (.iastore, 1) := by decide +kernel
theorem dr_cX17_colours_9 : decode cX17_colours 9 = .ok (.aload_n 0, 1) := by decide +kernel
theorem dr_cX17_colours_10 : decode cX17_colours 10 = .ok (.getfield 206, 3) := by decide +kernel
theorem dr_cX17_colours_13 : decode cX17_colours 13 = .ok (.iload_n 2, 1) := by decide +kernel
theorem dr_cX17_colours_14 : decode cX17_colours 14 = .ok (.aload_n 0, 1) := by decide +kernel
theorem dr_cX17_colours_15 : decode cX17_colours 15 = .ok (.getfield 131, 3) := by decide +kernel
theorem dr_cX17_colours_18 : decode cX17_colours 18 = .ok (.iload_n 2, 1) := by decide +kernel
theorem dr_cX17_colours_19 : decode cX17_colours 19 = .ok (.baload, 1) := by decide +kernel
theorem dr_cX17_colours_20 : decode cX17_colours 20 = .ok (.bastore, 1) := by decide +kernel
theorem dr_cX17_colours_21 : decode cX17_colours 21 = .ok (.aload_n 0, 1) := by decide +kernel
theorem dr_cX17_colours_22 : decode cX17_colours 22 = .ok (.getfield 209, 3) := by decide +kernel
theorem dr_cX17_colours_25 : decode cX17_colours 25 = .ok (.iload_n 2, 1) := by decide +kernel
theorem dr_cX17_colours_26 : decode cX17_colours 26 = .ok (.aload_n 0, 1) := by decide +kernel
theorem dr_cX17_colours_27 : decode cX17_colours 27 = .ok (.getfield 131, 3) := by decide +kernel
theorem dr_cX17_colours_30 : decode cX17_colours 30 = .ok (.iload_n 2, 1) := by decide +kernel
theorem dr_cX17_colours_31 : decode cX17_colours 31 = .ok (.baload, 1) := by decide +kernel
theorem dr_cX17_colours_32 : decode cX17_colours 32 = .ok (.ifCond .eq 15, 3) := by decide +kernel
theorem dr_cX17_colours_47 : decode cX17_colours 47 = .ok (.iconst 0, 1) := by decide +kernel
theorem dr_cX17_colours_48 : decode cX17_colours 48 = .ok (.iastore, 1) := by decide +kernel
theorem dr_cX17_colours_49 : decode cX17_colours 49 = .ok (.aload_n 0, 1) := by decide +kernel
theorem dr_cX17_colours_50 : decode cX17_colours 50 = .ok (.getfield 212, 3) := by decide +kernel
theorem dr_cX17_colours_53 : decode cX17_colours 53 = .ok (.iload_n 2, 1) := by decide +kernel
theorem dr_cX17_colours_54 : decode cX17_colours 54 = .ok (.iconst (-1), 1) := by decide +kernel
theorem dr_cX17_colours_55 : decode cX17_colours 55 = .ok (.iastore, 1) := by decide +kernel
theorem dr_cX17_colours_56 : decode cX17_colours 56 = .ok (.iinc 2 1, 3) := by decide +kernel
theorem dr_cX17_colours_59 : decode cX17_colours 59 = .ok (.goto (-57), 3) := by decide +kernel
theorem dr_cX17_colours_35 : decode cX17_colours 35 = .ok (.aload_n 0, 1) := by decide +kernel
theorem dr_cX17_colours_36 : decode cX17_colours 36 = .ok (.getfield 135, 3) := by decide +kernel
theorem dr_cX17_colours_39 : decode cX17_colours 39 = .ok (.iload_n 2, 1) := by decide +kernel
theorem dr_cX17_colours_40 : decode cX17_colours 40 = .ok (.aaload, 1) := by decide +kernel
theorem dr_cX17_colours_41 : decode cX17_colours 41 = .ok (.invokestatic 202, 3) := by decide +kernel
theorem dr_cX17_colours_44 : decode cX17_colours 44 = .ok (.goto 4, 3) := by decide +kernel
abbrev ky_336739_SpillForgeModel_next : gKey := (cX17_next, 7, "SpillForgeModel", (some FieldType.int), [], "next", fun _ _ => True)
def pt_336739_SpillForgeModel_next (D : va_G) (I : FieldType → ClassId) (γ el : Nat → Nat → Nat) (P336735 : List Nat) (F336736 : Nat → va_E) (q336737 : Nat) (p336738 : Int32) : Option Value → va_W → Nat → Nat → Prop := fun r w dc ds => ∃ (o337445 : Int32), r = some (.int o337445) ∧ w = va_pl P336735 F336736 ∧ dc ≤ 0 ∧ ds ≤ 0 ∧ gB o337445 (-1) 1999 ∧ (gIp (0 ≤ o337445.toInt) (rSd (cB (F336736 (γ 9 18))) (o337445.toInt : Int).toNat)) ∧ (gIp (o337445.toInt < 0) (∀ m : Nat, ¬ rSd (cB (F336736 (γ 9 18))) m))
set_option maxRecDepth 100000 in
set_option maxHeartbeats 4000000 in
theorem ct_336739_SpillForgeModel_next (l : Launch) (hl0 : l.stackTraces = false) (D : va_G) (I : FieldType → ClassId) (γ el : Nat → Nat → Nat) (P336735 : List Nat) (F336736 : Nat → va_E) (q336737 : Nat) (p336738 : Int32) (hT : RS D I P336735 F336736 γ el) (htq336737 : rKd γ q336737 10) : CtA (gV D I) l yX17_next cX17_next 7 (some FieldType.int) 0 0 0 0 [.ref q336737, .int p336738] (va_pl P336735 F336736) (pt_336739_SpillForgeModel_next D I γ el P336735 F336736 q336737 p336738) gNA := by
  refine CtA_of hl0 (by decide) (Nat.le_of_ble_eq_true rfl) ?_
  have bp336738 := gB_any p336738
  have hm336740 : q336737 ∈ P336735 := RS_m hT htq336737 (by decide)
  obtain ⟨q336742, q336743, p336744, p336745, p336746, p336747, p336748, p336749, p336750, p336751, p336752, p336753, p336754, p336755, p336756, p336757, p336758, he336741, hB336785, ht336759, ht336760, ht336761, ht336762, ht336763, ht336764, ht336765, ht336766, ht336767, ht336768, ht336769, ht336770, ht336771, ht336772, ht336773, ht336774, ht336775, ht336776, ht336777, ht336778, ht336779, ht336780, ht336781, ht336782, hB336786⟩ := show rk_10 γ (F336736 q336737) from RS_o hT htq336737
  have hm336787 : (γ 9 18) ∈ P336735 := RS_m hT ht336773 (by decide)
  obtain ⟨f336789, he336788, bf336789⟩ := show rk_15 I (F336736 (γ 9 18)) from RS_o hT ht336773
  refine G_iconst 0 dr_cX17_next_0 (by decide +kernel) ?_
  refine G_istore_n (L' := [(2, .int 0), (0, .ref q336737), (1, .int p336738)]) dr_cX17_next_1 (Nat.le_of_ble_eq_true rfl) rfl ?_
  have hlp2_337244 : ∀ (n2_337244 : Nat) (g337244 : Int32), gB g337244 0 2000 → ((2001 : Int) - g337244.toInt).toNat < n2_337244 → G (gV D I) l (gRm 0 0 0 0) (gMA (gV D I) (pt_336739_SpillForgeModel_next D I γ el P336735 F336736 q336737 p336738) gNA 0 0) ky_336739_SpillForgeModel_next 2 [(2, .int g337244), (0, .ref q336737), (1, .int p336738)] [] (va_pl P336735 F336736) 0 0 := by
    intro n2_337244
    induction n2_337244 with
    | zero => intro g337244 bg337244 hm2_337244; exact absurd hm2_337244 (Nat.not_lt_zero _)
    | succ n2_337244 ih2_337244 =>
      intro g337244 bg337244 hm2_337244
      refine G_iload_n 0 dr_cX17_next_2 rfl ?_
      refine G_sipush 2000 dr_cX17_next_3 (by decide +kernel) ?_
      refine G_icmp_ge 36 dr_cX17_next_6 (by decide +kernel) (fun hc337246 => ?_) (fun hc337246 => ?_)
      · have r337247 : 2000 ≤ g337244.toInt := gj_leL hc337246 (show Int32.toInt 2000 = 2000 by decide)
        have bg337244' : gB g337244 2000 2000 := ⟨by omega, by omega⟩
        refine G_iconst (-1) dr_cX17_next_36 (by decide +kernel) ?_
        refine G_istore_n (L' := [(2, .int (-1)), (0, .ref q336737), (1, .int p336738)]) dr_cX17_next_37 (Nat.le_of_ble_eq_true rfl) rfl ?_
        refine G_iconst 0 dr_cX17_next_38 (by decide +kernel) ?_
        refine G_istore_n (L' := [(3, .int 0), (2, .int (-1)), (0, .ref q336737), (1, .int p336738)]) dr_cX17_next_39 (Nat.le_of_ble_eq_true rfl) rfl ?_
        have hlp40_337341 : ∀ (n40_337341 : Nat) (g337338 : Int32) (g337339 : Int32), gB g337338 0 2000 → gB g337339 (-1) 1999 → (gIp (g337339.toInt < 0) (∀ m : Nat, (m : Int) < g337338.toInt → ¬ rSd (cB (F336736 (γ 9 18))) m)) → (gIp (0 ≤ g337339.toInt) (rSd (cB (F336736 (γ 9 18))) (g337339.toInt : Int).toNat)) → ((2001 : Int) - g337338.toInt).toNat < n40_337341 → G (gV D I) l (gRm 0 0 0 0) (gMA (gV D I) (pt_336739_SpillForgeModel_next D I γ el P336735 F336736 q336737 p336738) gNA 0 0) ky_336739_SpillForgeModel_next 40 [(3, .int g337338), (2, .int g337339), (0, .ref q336737), (1, .int p336738)] [] (va_pl P336735 F336736) 0 0 := by
          intro n40_337341
          induction n40_337341 with
          | zero => intro g337338 g337339 bg337338 bg337339 x337340 x337341 hm40_337341; exact absurd hm40_337341 (Nat.not_lt_zero _)
          | succ n40_337341 ih40_337341 =>
            intro g337338 g337339 bg337338 bg337339 x337340 x337341 hm40_337341
            refine G_iload_n 0 dr_cX17_next_40 rfl ?_
            refine G_sipush 2000 dr_cX17_next_41 (by decide +kernel) ?_
            refine G_icmp_ge 171 dr_cX17_next_44 (by decide +kernel) (fun hc337343 => ?_) (fun hc337343 => ?_)
            · have r337344 : 2000 ≤ g337338.toInt := gj_leL hc337343 (show Int32.toInt 2000 = 2000 by decide)
              have bg337338' : gB g337338 2000 2000 := ⟨by omega, by omega⟩
              refine G_iload_n 1 dr_cX17_next_171 rfl ?_
              exact G_iretA dr_cX17_next_172 rfl (Nat.le_of_ble_eq_true rfl) (Nat.le_of_ble_eq_true rfl) ⟨g337339, rfl, rfl, (Nat.le_of_ble_eq_true rfl), (Nat.le_of_ble_eq_true rfl), bg337339, x337341, (fun h m hm => x337340 h m (by have := hm.1; omega) hm)⟩
            · have r337345 : g337338.toInt < 2000 := gj_nleL hc337343 (show Int32.toInt 2000 = 2000 by decide)
              have bg337338' : gB g337338 0 1999 := ⟨by omega, by omega⟩
              refine G_aload_n 2 dr_cX17_next_47 rfl ?_
              refine Gp_get 18 hm336740 he336741 dr_cX17_next_48 (gk_X17 D I) (Nat.le_of_ble_eq_true rfl) wr_7_92 rfl ?_
              refine G_iload_n 0 dr_cX17_next_51 rfl ?_
              refine Gp_zald 3 hm336787 he336788 dr_cX17_next_52 rfl (gB_in bg337338' (by decide) (by decide)) (G_nam fun z337346 hz337346 => ?_)
              have bz337346 : gB z337346 0 1 := by rw [hz337346]; exact bf336789 _
              refine G_if_ne 59 dr_cX17_next_53 (by decide +kernel) (fun hc337347 => ?_) (fun hc337347 => ?_)
              · have r337348 : z337346.toInt ≠ 0 := gj_neq hc337347 (show Int32.toInt 0 = 0 by decide)
                have bz337346' : gB z337346 1 1 := ⟨by omega, by omega⟩
                refine G_iload_n 1 dr_cX17_next_59 rfl ?_
                refine G_if_ge 68 dr_cX17_next_60 (by decide +kernel) (fun hc337349 => ?_) (fun hc337349 => ?_)
                · have r337350 : 0 ≤ g337339.toInt := gj_leL hc337349 (show Int32.toInt 0 = 0 by decide)
                  have bg337339' : gB g337339 0 1999 := ⟨by omega, by omega⟩
                  refine G_iload_n 0 dr_cX17_next_68 rfl ?_
                  refine G_bipush 100 dr_cX17_next_69 (by decide +kernel) ?_
                  refine G_icmp_lt 78 dr_cX17_next_71 (by decide +kernel) (fun hc337351 => ?_) (fun hc337351 => ?_)
                  · have r337352 : g337338.toInt < 100 := gj_lt hc337351 (show Int32.toInt 100 = 100 by decide)
                    have bg337338'' : gB g337338 0 99 := ⟨by omega, by omega⟩
                    refine G_iconst 0 dr_cX17_next_78 (by decide +kernel) ?_
                    refine G_istore (L' := [(4, .int 0), (3, .int g337338), (2, .int g337339), (0, .ref q336737), (1, .int p336738)]) dr_cX17_next_79 (Nat.le_of_ble_eq_true rfl) rfl ?_
                    refine G_iload_n 2 dr_cX17_next_81 rfl ?_
                    refine G_bipush 100 dr_cX17_next_82 (by decide +kernel) ?_
                    refine G_icmp_lt 91 dr_cX17_next_84 (by decide +kernel) (fun hc337353 => ?_) (fun hc337353 => ?_)
                    · have r337354 : g337339.toInt < 100 := gj_lt hc337353 (show Int32.toInt 100 = 100 by decide)
                      have bg337339'' : gB g337339 0 99 := ⟨by omega, by omega⟩
                      refine G_iconst 0 dr_cX17_next_91 (by decide +kernel) ?_
                      refine G_istore (L' := [(5, .int 0), (4, .int 0), (3, .int g337338), (2, .int g337339), (0, .ref q336737), (1, .int p336738)]) dr_cX17_next_92 (Nat.le_of_ble_eq_true rfl) rfl ?_
                      refine G_iload 1 dr_cX17_next_94 rfl ?_
                      refine G_if_eq 107 dr_cX17_next_96 (by decide +kernel) (fun _ => ?_) (fun hc => absurd hc (by decide))
                      refine G_aload_n 4 dr_cX17_next_107 rfl ?_
                      refine Gp_get 5 hm336740 he336741 dr_cX17_next_108 (gk_X17 D I) (Nat.le_of_ble_eq_true rfl) wr_7_79 rfl ?_
                      refine G_iload_n 2 dr_cX17_next_111 rfl ?_
                      have hm337355 : (γ 9 5) ∈ P336735 := RS_m hT ht336766 (by decide)
                      obtain ⟨f337357, he337356⟩ := show rk_17 I (F336736 (γ 9 5)) from RS_o hT ht336766
                      refine Gp_iald 0 hm337355 he337356 dr_cX17_next_112 rfl (gB_in bg337338'' (by decide) (by decide)) (G_nam fun z337358 hz337358 => ?_)
                      have bz337358 : gB z337358 (-2147483648) 2147483647 := gB_any z337358
                      refine G_i2l dr_cX17_next_113 (G_namL fun u337359 hu337359 => ?_)
                      refine G_aload_n 4 dr_cX17_next_114 rfl ?_
                      refine Gp_get 16 hm336740 he336741 dr_cX17_next_115 (gk_X17 D I) (Nat.le_of_ble_eq_true rfl) wr_7_90 rfl ?_
                      refine G_iload_n 3 dr_cX17_next_118 rfl ?_
                      have hm337360 : (γ 9 16) ∈ P336735 := RS_m hT ht336771 (by decide)
                      obtain ⟨f337362, he337361⟩ := show rk_19 I (F336736 (γ 9 16)) from RS_o hT ht336771
                      refine Gp_iald 0 hm337360 he337361 dr_cX17_next_119 rfl (gB_in bg337339'' (by decide) (by decide)) (G_nam fun z337363 hz337363 => ?_)
                      have bz337363 : gB z337363 (-2147483648) 2147483647 := gB_any z337363
                      refine G_i2l dr_cX17_next_120 (G_namL fun u337364 hu337364 => ?_)
                      refine G_lmul dr_cX17_next_121 (G_namL fun u337365 hu337365 => ?_)
                      refine G_aload_n 4 dr_cX17_next_122 rfl ?_
                      refine Gp_get 5 hm336740 he336741 dr_cX17_next_123 (gk_X17 D I) (Nat.le_of_ble_eq_true rfl) wr_7_79 rfl ?_
                      refine G_iload_n 3 dr_cX17_next_126 rfl ?_
                      refine Gp_iald 0 hm337355 he337356 dr_cX17_next_127 rfl (gB_in bg337339'' (by decide) (by decide)) (G_nam fun z337366 hz337366 => ?_)
                      have bz337366 : gB z337366 (-2147483648) 2147483647 := gB_any z337366
                      refine G_i2l dr_cX17_next_128 (G_namL fun u337367 hu337367 => ?_)
                      refine G_aload_n 4 dr_cX17_next_129 rfl ?_
                      refine Gp_get 16 hm336740 he336741 dr_cX17_next_130 (gk_X17 D I) (Nat.le_of_ble_eq_true rfl) wr_7_90 rfl ?_
                      refine G_iload_n 2 dr_cX17_next_133 rfl ?_
                      refine Gp_iald 0 hm337360 he337361 dr_cX17_next_134 rfl (gB_in bg337338'' (by decide) (by decide)) (G_nam fun z337368 hz337368 => ?_)
                      have bz337368 : gB z337368 (-2147483648) 2147483647 := gB_any z337368
                      refine G_i2l dr_cX17_next_135 (G_namL fun u337369 hu337369 => ?_)
                      refine G_lmul dr_cX17_next_136 (G_namL fun u337370 hu337370 => ?_)
                      refine G_lcmp dr_cX17_next_137 (G_nam fun z337371 hz337371 => ?_)
                      have bz337371 : gB z337371 (-1) 1 := gB_cmp hz337371
                      refine G_if_ge 145 dr_cX17_next_138 (by decide +kernel) (fun hc337372 => ?_) (fun hc337372 => ?_)
                      · have r337373 : 0 ≤ z337371.toInt := gj_leL hc337372 (show Int32.toInt 0 = 0 by decide)
                        have bz337371' : gB z337371 0 1 := ⟨by omega, by omega⟩
                        refine G_iconst 0 dr_cX17_next_145 (by decide +kernel) ?_
                        refine G_istore (L' := [(6, .int 0), (5, .int 0), (4, .int 0), (3, .int g337338), (2, .int g337339), (0, .ref q336737), (1, .int p336738)]) dr_cX17_next_146 (Nat.le_of_ble_eq_true rfl) rfl ?_
                        refine G_iload 2 dr_cX17_next_148 rfl ?_
                        refine G_if_ne 158 dr_cX17_next_150 (by decide +kernel) (fun hc => absurd hc (by decide)) (fun _ => ?_)
                        refine G_iload 1 dr_cX17_next_153 rfl ?_
                        refine G_if_ne 163 dr_cX17_next_155 (by decide +kernel) (fun hc => absurd hc (by decide)) (fun _ => ?_)
                        refine G_iload 0 dr_cX17_next_158 rfl ?_
                        refine G_if_eq 165 dr_cX17_next_160 (by decide +kernel) (fun _ => ?_) (fun hc => absurd hc (by decide))
                        obtain ⟨z337374, hz337374⟩ : ∃ z : Int32, z = g337338 + Int32.ofInt 1 := ⟨_, rfl⟩
                        have ez337374 : z337374.toInt = g337338.toInt + 1 := gI_inc hz337374 (by decide) bg337338'' (by decide) (by decide)
                        have bz337374 : gB z337374 1 100 := ⟨by omega, by omega⟩
                        refine G_iinc (L' := [(3, .int z337374), (6, .int 0), (5, .int 0), (4, .int 0), (2, .int g337339), (0, .ref q336737), (1, .int p336738)]) z337374 3 dr_cX17_next_165 rfl hz337374.symm (Nat.le_of_ble_eq_true rfl) rfl ?_
                        refine G_goto 40 dr_cX17_next_168 (by decide +kernel) ?_
                        refine G_lv (L' := [(3, .int z337374), (2, .int g337339), (0, .ref q336737), (1, .int p336738)]) [0, 4, 5, 6] rfl ?_
                        exact ih40_337341 z337374 g337339 (gB_w bz337374 (by decide) (by decide)) (gB_w bg337339'' (by decide) (by decide)) (by first | exact fun h => absurd h (by omega) | exact fun h => (by rw [ez337374]; rw [cB_of he336788]; have q := x337340; rw [cB_of he336788] at q; exact nx_0 (q h) hz337346 (by omega) rfl)) x337341 (by omega)
                      · have r337375 : z337371.toInt < 0 := gj_nleL hc337372 (show Int32.toInt 0 = 0 by decide)
                        have bz337371' : gB z337371 (-1) (-1) := ⟨by omega, by omega⟩
                        have lhc337372 := gC_cmpS hz337371 (by omega)
                        refine G_iconst 1 dr_cX17_next_141 (by decide +kernel) ?_
                        refine G_goto 146 dr_cX17_next_142 (by decide +kernel) ?_
                        refine G_istore (L' := [(6, .int 1), (5, .int 0), (4, .int 0), (3, .int g337338), (2, .int g337339), (0, .ref q336737), (1, .int p336738)]) dr_cX17_next_146 (Nat.le_of_ble_eq_true rfl) rfl ?_
                        refine G_iload 2 dr_cX17_next_148 rfl ?_
                        refine G_if_ne 158 dr_cX17_next_150 (by decide +kernel) (fun hc => absurd hc (by decide)) (fun _ => ?_)
                        refine G_iload 1 dr_cX17_next_153 rfl ?_
                        refine G_if_ne 163 dr_cX17_next_155 (by decide +kernel) (fun hc => absurd hc (by decide)) (fun _ => ?_)
                        refine G_iload 0 dr_cX17_next_158 rfl ?_
                        refine G_if_eq 165 dr_cX17_next_160 (by decide +kernel) (fun hc => absurd hc (by decide)) (fun _ => ?_)
                        refine G_iload_n 3 dr_cX17_next_163 rfl ?_
                        refine G_istore_n (L' := [(2, .int g337338), (6, .int 1), (5, .int 0), (4, .int 0), (3, .int g337338), (0, .ref q336737), (1, .int p336738)]) dr_cX17_next_164 (Nat.le_of_ble_eq_true rfl) rfl ?_
                        obtain ⟨z337376, hz337376⟩ : ∃ z : Int32, z = g337338 + Int32.ofInt 1 := ⟨_, rfl⟩
                        have ez337376 : z337376.toInt = g337338.toInt + 1 := gI_inc hz337376 (by decide) bg337338'' (by decide) (by decide)
                        have bz337376 : gB z337376 1 100 := ⟨by omega, by omega⟩
                        refine G_iinc (L' := [(3, .int z337376), (2, .int g337338), (6, .int 1), (5, .int 0), (4, .int 0), (0, .ref q336737), (1, .int p336738)]) z337376 4 dr_cX17_next_165 rfl hz337376.symm (Nat.le_of_ble_eq_true rfl) rfl ?_
                        refine G_goto 40 dr_cX17_next_168 (by decide +kernel) ?_
                        refine G_lv (L' := [(3, .int z337376), (2, .int g337338), (0, .ref q336737), (1, .int p336738)]) [0, 1, 5, 6] rfl ?_
                        exact ih40_337341 z337376 g337338 (gB_w bz337376 (by decide) (by decide)) (gB_w bg337338'' (by decide) (by decide)) (by first | exact fun h => absurd h (by omega) | exact fun h => (by rw [ez337376]; rw [cB_of he336788]; have q := x337340; rw [cB_of he336788] at q; exact nx_0 (q h) hz337346 (by omega) rfl)) (fun _ => by rw [cB_of he336788]; exact sd_of hz337346 (by omega) (by omega) (by omega)) (by omega)
                    · have r337377 : 100 ≤ g337339.toInt := gj_nlt hc337353 (show Int32.toInt 100 = 100 by decide)
                      have bg337339'' : gB g337339 100 1999 := ⟨by omega, by omega⟩
                      refine G_iconst 1 dr_cX17_next_87 (by decide +kernel) ?_
                      refine G_goto 92 dr_cX17_next_88 (by decide +kernel) ?_
                      refine G_istore (L' := [(5, .int 1), (4, .int 0), (3, .int g337338), (2, .int g337339), (0, .ref q336737), (1, .int p336738)]) dr_cX17_next_92 (Nat.le_of_ble_eq_true rfl) rfl ?_
                      refine G_iload 1 dr_cX17_next_94 rfl ?_
                      refine G_if_eq 107 dr_cX17_next_96 (by decide +kernel) (fun _ => ?_) (fun hc => absurd hc (by decide))
                      refine G_aload_n 4 dr_cX17_next_107 rfl ?_
                      refine Gp_get 5 hm336740 he336741 dr_cX17_next_108 (gk_X17 D I) (Nat.le_of_ble_eq_true rfl) wr_7_79 rfl ?_
                      refine G_iload_n 2 dr_cX17_next_111 rfl ?_
                      have hm337378 : (γ 9 5) ∈ P336735 := RS_m hT ht336766 (by decide)
                      obtain ⟨f337380, he337379⟩ := show rk_17 I (F336736 (γ 9 5)) from RS_o hT ht336766
                      refine Gp_iald 0 hm337378 he337379 dr_cX17_next_112 rfl (gB_in bg337338'' (by decide) (by decide)) (G_nam fun z337381 hz337381 => ?_)
                      have bz337381 : gB z337381 (-2147483648) 2147483647 := gB_any z337381
                      refine G_i2l dr_cX17_next_113 (G_namL fun u337382 hu337382 => ?_)
                      refine G_aload_n 4 dr_cX17_next_114 rfl ?_
                      refine Gp_get 16 hm336740 he336741 dr_cX17_next_115 (gk_X17 D I) (Nat.le_of_ble_eq_true rfl) wr_7_90 rfl ?_
                      refine G_iload_n 3 dr_cX17_next_118 rfl ?_
                      have hm337383 : (γ 9 16) ∈ P336735 := RS_m hT ht336771 (by decide)
                      obtain ⟨f337385, he337384⟩ := show rk_19 I (F336736 (γ 9 16)) from RS_o hT ht336771
                      refine Gp_iald 0 hm337383 he337384 dr_cX17_next_119 rfl (gB_in bg337339'' (by decide) (by decide)) (G_nam fun z337386 hz337386 => ?_)
                      have bz337386 : gB z337386 (-2147483648) 2147483647 := gB_any z337386
                      refine G_i2l dr_cX17_next_120 (G_namL fun u337387 hu337387 => ?_)
                      refine G_lmul dr_cX17_next_121 (G_namL fun u337388 hu337388 => ?_)
                      refine G_aload_n 4 dr_cX17_next_122 rfl ?_
                      refine Gp_get 5 hm336740 he336741 dr_cX17_next_123 (gk_X17 D I) (Nat.le_of_ble_eq_true rfl) wr_7_79 rfl ?_
                      refine G_iload_n 3 dr_cX17_next_126 rfl ?_
                      refine Gp_iald 0 hm337378 he337379 dr_cX17_next_127 rfl (gB_in bg337339'' (by decide) (by decide)) (G_nam fun z337389 hz337389 => ?_)
                      have bz337389 : gB z337389 (-2147483648) 2147483647 := gB_any z337389
                      refine G_i2l dr_cX17_next_128 (G_namL fun u337390 hu337390 => ?_)
                      refine G_aload_n 4 dr_cX17_next_129 rfl ?_
                      refine Gp_get 16 hm336740 he336741 dr_cX17_next_130 (gk_X17 D I) (Nat.le_of_ble_eq_true rfl) wr_7_90 rfl ?_
                      refine G_iload_n 2 dr_cX17_next_133 rfl ?_
                      refine Gp_iald 0 hm337383 he337384 dr_cX17_next_134 rfl (gB_in bg337338'' (by decide) (by decide)) (G_nam fun z337391 hz337391 => ?_)
                      have bz337391 : gB z337391 (-2147483648) 2147483647 := gB_any z337391
                      refine G_i2l dr_cX17_next_135 (G_namL fun u337392 hu337392 => ?_)
                      refine G_lmul dr_cX17_next_136 (G_namL fun u337393 hu337393 => ?_)
                      refine G_lcmp dr_cX17_next_137 (G_nam fun z337394 hz337394 => ?_)
                      have bz337394 : gB z337394 (-1) 1 := gB_cmp hz337394
                      refine G_if_ge 145 dr_cX17_next_138 (by decide +kernel) (fun hc337395 => ?_) (fun hc337395 => ?_)
                      · have r337396 : 0 ≤ z337394.toInt := gj_leL hc337395 (show Int32.toInt 0 = 0 by decide)
                        have bz337394' : gB z337394 0 1 := ⟨by omega, by omega⟩
                        refine G_iconst 0 dr_cX17_next_145 (by decide +kernel) ?_
                        refine G_istore (L' := [(6, .int 0), (5, .int 1), (4, .int 0), (3, .int g337338), (2, .int g337339), (0, .ref q336737), (1, .int p336738)]) dr_cX17_next_146 (Nat.le_of_ble_eq_true rfl) rfl ?_
                        refine G_iload 2 dr_cX17_next_148 rfl ?_
                        refine G_if_ne 158 dr_cX17_next_150 (by decide +kernel) (fun hc => absurd hc (by decide)) (fun _ => ?_)
                        refine G_iload 1 dr_cX17_next_153 rfl ?_
                        refine G_if_ne 163 dr_cX17_next_155 (by decide +kernel) (fun _ => ?_) (fun hc => absurd hc (by decide))
                        refine G_iload_n 3 dr_cX17_next_163 rfl ?_
                        refine G_istore_n (L' := [(2, .int g337338), (6, .int 0), (5, .int 1), (4, .int 0), (3, .int g337338), (0, .ref q336737), (1, .int p336738)]) dr_cX17_next_164 (Nat.le_of_ble_eq_true rfl) rfl ?_
                        obtain ⟨z337397, hz337397⟩ : ∃ z : Int32, z = g337338 + Int32.ofInt 1 := ⟨_, rfl⟩
                        have ez337397 : z337397.toInt = g337338.toInt + 1 := gI_inc hz337397 (by decide) bg337338'' (by decide) (by decide)
                        have bz337397 : gB z337397 1 100 := ⟨by omega, by omega⟩
                        refine G_iinc (L' := [(3, .int z337397), (2, .int g337338), (6, .int 0), (5, .int 1), (4, .int 0), (0, .ref q336737), (1, .int p336738)]) z337397 4 dr_cX17_next_165 rfl hz337397.symm (Nat.le_of_ble_eq_true rfl) rfl ?_
                        refine G_goto 40 dr_cX17_next_168 (by decide +kernel) ?_
                        refine G_lv (L' := [(3, .int z337397), (2, .int g337338), (0, .ref q336737), (1, .int p336738)]) [0, 1, 5, 6] rfl ?_
                        exact ih40_337341 z337397 g337338 (gB_w bz337397 (by decide) (by decide)) (gB_w bg337338'' (by decide) (by decide)) (by first | exact fun h => absurd h (by omega) | exact fun h => (by rw [ez337397]; rw [cB_of he336788]; have q := x337340; rw [cB_of he336788] at q; exact nx_0 (q h) hz337346 (by omega) rfl)) (fun _ => by rw [cB_of he336788]; exact sd_of hz337346 (by omega) (by omega) (by omega)) (by omega)
                      · have r337398 : z337394.toInt < 0 := gj_nleL hc337395 (show Int32.toInt 0 = 0 by decide)
                        have bz337394' : gB z337394 (-1) (-1) := ⟨by omega, by omega⟩
                        have lhc337395 := gC_cmpS hz337394 (by omega)
                        refine G_iconst 1 dr_cX17_next_141 (by decide +kernel) ?_
                        refine G_goto 146 dr_cX17_next_142 (by decide +kernel) ?_
                        refine G_istore (L' := [(6, .int 1), (5, .int 1), (4, .int 0), (3, .int g337338), (2, .int g337339), (0, .ref q336737), (1, .int p336738)]) dr_cX17_next_146 (Nat.le_of_ble_eq_true rfl) rfl ?_
                        refine G_iload 2 dr_cX17_next_148 rfl ?_
                        refine G_if_ne 158 dr_cX17_next_150 (by decide +kernel) (fun hc => absurd hc (by decide)) (fun _ => ?_)
                        refine G_iload 1 dr_cX17_next_153 rfl ?_
                        refine G_if_ne 163 dr_cX17_next_155 (by decide +kernel) (fun _ => ?_) (fun hc => absurd hc (by decide))
                        refine G_iload_n 3 dr_cX17_next_163 rfl ?_
                        refine G_istore_n (L' := [(2, .int g337338), (6, .int 1), (5, .int 1), (4, .int 0), (3, .int g337338), (0, .ref q336737), (1, .int p336738)]) dr_cX17_next_164 (Nat.le_of_ble_eq_true rfl) rfl ?_
                        obtain ⟨z337399, hz337399⟩ : ∃ z : Int32, z = g337338 + Int32.ofInt 1 := ⟨_, rfl⟩
                        have ez337399 : z337399.toInt = g337338.toInt + 1 := gI_inc hz337399 (by decide) bg337338'' (by decide) (by decide)
                        have bz337399 : gB z337399 1 100 := ⟨by omega, by omega⟩
                        refine G_iinc (L' := [(3, .int z337399), (2, .int g337338), (6, .int 1), (5, .int 1), (4, .int 0), (0, .ref q336737), (1, .int p336738)]) z337399 4 dr_cX17_next_165 rfl hz337399.symm (Nat.le_of_ble_eq_true rfl) rfl ?_
                        refine G_goto 40 dr_cX17_next_168 (by decide +kernel) ?_
                        refine G_lv (L' := [(3, .int z337399), (2, .int g337338), (0, .ref q336737), (1, .int p336738)]) [0, 1, 5, 6] rfl ?_
                        exact ih40_337341 z337399 g337338 (gB_w bz337399 (by decide) (by decide)) (gB_w bg337338'' (by decide) (by decide)) (by first | exact fun h => absurd h (by omega) | exact fun h => (by rw [ez337399]; rw [cB_of he336788]; have q := x337340; rw [cB_of he336788] at q; exact nx_0 (q h) hz337346 (by omega) rfl)) (fun _ => by rw [cB_of he336788]; exact sd_of hz337346 (by omega) (by omega) (by omega)) (by omega)
                  · have r337400 : 100 ≤ g337338.toInt := gj_nlt hc337351 (show Int32.toInt 100 = 100 by decide)
                    have bg337338'' : gB g337338 100 1999 := ⟨by omega, by omega⟩
                    refine G_iconst 1 dr_cX17_next_74 (by decide +kernel) ?_
                    refine G_goto 79 dr_cX17_next_75 (by decide +kernel) ?_
                    refine G_istore (L' := [(4, .int 1), (3, .int g337338), (2, .int g337339), (0, .ref q336737), (1, .int p336738)]) dr_cX17_next_79 (Nat.le_of_ble_eq_true rfl) rfl ?_
                    refine G_iload_n 2 dr_cX17_next_81 rfl ?_
                    refine G_bipush 100 dr_cX17_next_82 (by decide +kernel) ?_
                    refine G_icmp_lt 91 dr_cX17_next_84 (by decide +kernel) (fun hc337401 => ?_) (fun hc337401 => ?_)
                    · have r337402 : g337339.toInt < 100 := gj_lt hc337401 (show Int32.toInt 100 = 100 by decide)
                      have bg337339'' : gB g337339 0 99 := ⟨by omega, by omega⟩
                      refine G_iconst 0 dr_cX17_next_91 (by decide +kernel) ?_
                      refine G_istore (L' := [(5, .int 0), (4, .int 1), (3, .int g337338), (2, .int g337339), (0, .ref q336737), (1, .int p336738)]) dr_cX17_next_92 (Nat.le_of_ble_eq_true rfl) rfl ?_
                      refine G_iload 1 dr_cX17_next_94 rfl ?_
                      refine G_if_eq 107 dr_cX17_next_96 (by decide +kernel) (fun hc => absurd hc (by decide)) (fun _ => ?_)
                      refine G_iload 0 dr_cX17_next_99 rfl ?_
                      refine G_if_ne 107 dr_cX17_next_101 (by decide +kernel) (fun hc => absurd hc (by decide)) (fun _ => ?_)
                      refine G_goto 165 dr_cX17_next_104 (by decide +kernel) ?_
                      obtain ⟨z337403, hz337403⟩ : ∃ z : Int32, z = g337338 + Int32.ofInt 1 := ⟨_, rfl⟩
                      have ez337403 : z337403.toInt = g337338.toInt + 1 := gI_inc hz337403 (by decide) bg337338'' (by decide) (by decide)
                      have bz337403 : gB z337403 101 2000 := ⟨by omega, by omega⟩
                      refine G_iinc (L' := [(3, .int z337403), (5, .int 0), (4, .int 1), (2, .int g337339), (0, .ref q336737), (1, .int p336738)]) z337403 2 dr_cX17_next_165 rfl hz337403.symm (Nat.le_of_ble_eq_true rfl) rfl ?_
                      refine G_goto 40 dr_cX17_next_168 (by decide +kernel) ?_
                      refine G_lv (L' := [(3, .int z337403), (2, .int g337339), (0, .ref q336737), (1, .int p336738)]) [0, 3, 4, 5] rfl ?_
                      exact ih40_337341 z337403 g337339 (gB_w bz337403 (by decide) (by decide)) (gB_w bg337339'' (by decide) (by decide)) (by first | exact fun h => absurd h (by omega) | exact fun h => (by rw [ez337403]; rw [cB_of he336788]; have q := x337340; rw [cB_of he336788] at q; exact nx_0 (q h) hz337346 (by omega) rfl)) x337341 (by omega)
                    · have r337404 : 100 ≤ g337339.toInt := gj_nlt hc337401 (show Int32.toInt 100 = 100 by decide)
                      have bg337339'' : gB g337339 100 1999 := ⟨by omega, by omega⟩
                      refine G_iconst 1 dr_cX17_next_87 (by decide +kernel) ?_
                      refine G_goto 92 dr_cX17_next_88 (by decide +kernel) ?_
                      refine G_istore (L' := [(5, .int 1), (4, .int 1), (3, .int g337338), (2, .int g337339), (0, .ref q336737), (1, .int p336738)]) dr_cX17_next_92 (Nat.le_of_ble_eq_true rfl) rfl ?_
                      refine G_iload 1 dr_cX17_next_94 rfl ?_
                      refine G_if_eq 107 dr_cX17_next_96 (by decide +kernel) (fun hc => absurd hc (by decide)) (fun _ => ?_)
                      refine G_iload 0 dr_cX17_next_99 rfl ?_
                      refine G_if_ne 107 dr_cX17_next_101 (by decide +kernel) (fun _ => ?_) (fun hc => absurd hc (by decide))
                      refine G_aload_n 4 dr_cX17_next_107 rfl ?_
                      refine Gp_get 5 hm336740 he336741 dr_cX17_next_108 (gk_X17 D I) (Nat.le_of_ble_eq_true rfl) wr_7_79 rfl ?_
                      refine G_iload_n 2 dr_cX17_next_111 rfl ?_
                      have hm337405 : (γ 9 5) ∈ P336735 := RS_m hT ht336766 (by decide)
                      obtain ⟨f337407, he337406⟩ := show rk_17 I (F336736 (γ 9 5)) from RS_o hT ht336766
                      refine Gp_iald 0 hm337405 he337406 dr_cX17_next_112 rfl (gB_in bg337338'' (by decide) (by decide)) (G_nam fun z337408 hz337408 => ?_)
                      have bz337408 : gB z337408 (-2147483648) 2147483647 := gB_any z337408
                      refine G_i2l dr_cX17_next_113 (G_namL fun u337409 hu337409 => ?_)
                      refine G_aload_n 4 dr_cX17_next_114 rfl ?_
                      refine Gp_get 16 hm336740 he336741 dr_cX17_next_115 (gk_X17 D I) (Nat.le_of_ble_eq_true rfl) wr_7_90 rfl ?_
                      refine G_iload_n 3 dr_cX17_next_118 rfl ?_
                      have hm337410 : (γ 9 16) ∈ P336735 := RS_m hT ht336771 (by decide)
                      obtain ⟨f337412, he337411⟩ := show rk_19 I (F336736 (γ 9 16)) from RS_o hT ht336771
                      refine Gp_iald 0 hm337410 he337411 dr_cX17_next_119 rfl (gB_in bg337339'' (by decide) (by decide)) (G_nam fun z337413 hz337413 => ?_)
                      have bz337413 : gB z337413 (-2147483648) 2147483647 := gB_any z337413
                      refine G_i2l dr_cX17_next_120 (G_namL fun u337414 hu337414 => ?_)
                      refine G_lmul dr_cX17_next_121 (G_namL fun u337415 hu337415 => ?_)
                      refine G_aload_n 4 dr_cX17_next_122 rfl ?_
                      refine Gp_get 5 hm336740 he336741 dr_cX17_next_123 (gk_X17 D I) (Nat.le_of_ble_eq_true rfl) wr_7_79 rfl ?_
                      refine G_iload_n 3 dr_cX17_next_126 rfl ?_
                      refine Gp_iald 0 hm337405 he337406 dr_cX17_next_127 rfl (gB_in bg337339'' (by decide) (by decide)) (G_nam fun z337416 hz337416 => ?_)
                      have bz337416 : gB z337416 (-2147483648) 2147483647 := gB_any z337416
                      refine G_i2l dr_cX17_next_128 (G_namL fun u337417 hu337417 => ?_)
                      refine G_aload_n 4 dr_cX17_next_129 rfl ?_
                      refine Gp_get 16 hm336740 he336741 dr_cX17_next_130 (gk_X17 D I) (Nat.le_of_ble_eq_true rfl) wr_7_90 rfl ?_
                      refine G_iload_n 2 dr_cX17_next_133 rfl ?_
                      refine Gp_iald 0 hm337410 he337411 dr_cX17_next_134 rfl (gB_in bg337338'' (by decide) (by decide)) (G_nam fun z337418 hz337418 => ?_)
                      have bz337418 : gB z337418 (-2147483648) 2147483647 := gB_any z337418
                      refine G_i2l dr_cX17_next_135 (G_namL fun u337419 hu337419 => ?_)
                      refine G_lmul dr_cX17_next_136 (G_namL fun u337420 hu337420 => ?_)
                      refine G_lcmp dr_cX17_next_137 (G_nam fun z337421 hz337421 => ?_)
                      have bz337421 : gB z337421 (-1) 1 := gB_cmp hz337421
                      refine G_if_ge 145 dr_cX17_next_138 (by decide +kernel) (fun hc337422 => ?_) (fun hc337422 => ?_)
                      · have r337423 : 0 ≤ z337421.toInt := gj_leL hc337422 (show Int32.toInt 0 = 0 by decide)
                        have bz337421' : gB z337421 0 1 := ⟨by omega, by omega⟩
                        refine G_iconst 0 dr_cX17_next_145 (by decide +kernel) ?_
                        refine G_istore (L' := [(6, .int 0), (5, .int 1), (4, .int 1), (3, .int g337338), (2, .int g337339), (0, .ref q336737), (1, .int p336738)]) dr_cX17_next_146 (Nat.le_of_ble_eq_true rfl) rfl ?_
                        refine G_iload 2 dr_cX17_next_148 rfl ?_
                        refine G_if_ne 158 dr_cX17_next_150 (by decide +kernel) (fun _ => ?_) (fun hc => absurd hc (by decide))
                        refine G_iload 0 dr_cX17_next_158 rfl ?_
                        refine G_if_eq 165 dr_cX17_next_160 (by decide +kernel) (fun _ => ?_) (fun hc => absurd hc (by decide))
                        obtain ⟨z337424, hz337424⟩ : ∃ z : Int32, z = g337338 + Int32.ofInt 1 := ⟨_, rfl⟩
                        have ez337424 : z337424.toInt = g337338.toInt + 1 := gI_inc hz337424 (by decide) bg337338'' (by decide) (by decide)
                        have bz337424 : gB z337424 101 2000 := ⟨by omega, by omega⟩
                        refine G_iinc (L' := [(3, .int z337424), (6, .int 0), (5, .int 1), (4, .int 1), (2, .int g337339), (0, .ref q336737), (1, .int p336738)]) z337424 3 dr_cX17_next_165 rfl hz337424.symm (Nat.le_of_ble_eq_true rfl) rfl ?_
                        refine G_goto 40 dr_cX17_next_168 (by decide +kernel) ?_
                        refine G_lv (L' := [(3, .int z337424), (2, .int g337339), (0, .ref q336737), (1, .int p336738)]) [0, 4, 5, 6] rfl ?_
                        exact ih40_337341 z337424 g337339 (gB_w bz337424 (by decide) (by decide)) (gB_w bg337339'' (by decide) (by decide)) (by first | exact fun h => absurd h (by omega) | exact fun h => (by rw [ez337424]; rw [cB_of he336788]; have q := x337340; rw [cB_of he336788] at q; exact nx_0 (q h) hz337346 (by omega) rfl)) x337341 (by omega)
                      · have r337425 : z337421.toInt < 0 := gj_nleL hc337422 (show Int32.toInt 0 = 0 by decide)
                        have bz337421' : gB z337421 (-1) (-1) := ⟨by omega, by omega⟩
                        have lhc337422 := gC_cmpS hz337421 (by omega)
                        refine G_iconst 1 dr_cX17_next_141 (by decide +kernel) ?_
                        refine G_goto 146 dr_cX17_next_142 (by decide +kernel) ?_
                        refine G_istore (L' := [(6, .int 1), (5, .int 1), (4, .int 1), (3, .int g337338), (2, .int g337339), (0, .ref q336737), (1, .int p336738)]) dr_cX17_next_146 (Nat.le_of_ble_eq_true rfl) rfl ?_
                        refine G_iload 2 dr_cX17_next_148 rfl ?_
                        refine G_if_ne 158 dr_cX17_next_150 (by decide +kernel) (fun _ => ?_) (fun hc => absurd hc (by decide))
                        refine G_iload 0 dr_cX17_next_158 rfl ?_
                        refine G_if_eq 165 dr_cX17_next_160 (by decide +kernel) (fun hc => absurd hc (by decide)) (fun _ => ?_)
                        refine G_iload_n 3 dr_cX17_next_163 rfl ?_
                        refine G_istore_n (L' := [(2, .int g337338), (6, .int 1), (5, .int 1), (4, .int 1), (3, .int g337338), (0, .ref q336737), (1, .int p336738)]) dr_cX17_next_164 (Nat.le_of_ble_eq_true rfl) rfl ?_
                        obtain ⟨z337426, hz337426⟩ : ∃ z : Int32, z = g337338 + Int32.ofInt 1 := ⟨_, rfl⟩
                        have ez337426 : z337426.toInt = g337338.toInt + 1 := gI_inc hz337426 (by decide) bg337338'' (by decide) (by decide)
                        have bz337426 : gB z337426 101 2000 := ⟨by omega, by omega⟩
                        refine G_iinc (L' := [(3, .int z337426), (2, .int g337338), (6, .int 1), (5, .int 1), (4, .int 1), (0, .ref q336737), (1, .int p336738)]) z337426 4 dr_cX17_next_165 rfl hz337426.symm (Nat.le_of_ble_eq_true rfl) rfl ?_
                        refine G_goto 40 dr_cX17_next_168 (by decide +kernel) ?_
                        refine G_lv (L' := [(3, .int z337426), (2, .int g337338), (0, .ref q336737), (1, .int p336738)]) [0, 1, 5, 6] rfl ?_
                        exact ih40_337341 z337426 g337338 (gB_w bz337426 (by decide) (by decide)) (gB_w bg337338'' (by decide) (by decide)) (by first | exact fun h => absurd h (by omega) | exact fun h => (by rw [ez337426]; rw [cB_of he336788]; have q := x337340; rw [cB_of he336788] at q; exact nx_0 (q h) hz337346 (by omega) rfl)) (fun _ => by rw [cB_of he336788]; exact sd_of hz337346 (by omega) (by omega) (by omega)) (by omega)
                · have r337427 : g337339.toInt < 0 := gj_nleL hc337349 (show Int32.toInt 0 = 0 by decide)
                  have bg337339' : gB g337339 (-1) (-1) := ⟨by omega, by omega⟩
                  refine G_iload_n 0 dr_cX17_next_63 rfl ?_
                  refine G_istore_n (L' := [(2, .int g337338), (3, .int g337338), (0, .ref q336737), (1, .int p336738)]) dr_cX17_next_64 (Nat.le_of_ble_eq_true rfl) rfl ?_
                  refine G_goto 165 dr_cX17_next_65 (by decide +kernel) ?_
                  obtain ⟨z337428, hz337428⟩ : ∃ z : Int32, z = g337338 + Int32.ofInt 1 := ⟨_, rfl⟩
                  have ez337428 : z337428.toInt = g337338.toInt + 1 := gI_inc hz337428 (by decide) bg337338' (by decide) (by decide)
                  have bz337428 : gB z337428 1 2000 := ⟨by omega, by omega⟩
                  refine G_iinc (L' := [(3, .int z337428), (2, .int g337338), (0, .ref q336737), (1, .int p336738)]) z337428 1 dr_cX17_next_165 rfl hz337428.symm (Nat.le_of_ble_eq_true rfl) rfl ?_
                  refine G_goto 40 dr_cX17_next_168 (by decide +kernel) ?_
                  exact ih40_337341 z337428 g337338 (gB_w bz337428 (by decide) (by decide)) (gB_w bg337338' (by decide) (by decide)) (by first | exact fun h => absurd h (by omega) | exact fun h => (by rw [ez337428]; rw [cB_of he336788]; have q := x337340; rw [cB_of he336788] at q; exact nx_0 (q h) hz337346 (by omega) rfl)) (fun _ => by rw [cB_of he336788]; exact sd_of hz337346 (by omega) (by omega) (by omega)) (by omega)
              · have r337429 : z337346.toInt = 0 := gj_eq hc337347 (show Int32.toInt 0 = 0 by decide)
                have bz337346' : gB z337346 0 0 := ⟨by omega, by omega⟩
                refine G_goto 165 dr_cX17_next_56 (by decide +kernel) ?_
                obtain ⟨z337430, hz337430⟩ : ∃ z : Int32, z = g337338 + Int32.ofInt 1 := ⟨_, rfl⟩
                have ez337430 : z337430.toInt = g337338.toInt + 1 := gI_inc hz337430 (by decide) bg337338' (by decide) (by decide)
                have bz337430 : gB z337430 1 2000 := ⟨by omega, by omega⟩
                refine G_iinc (L' := [(3, .int z337430), (2, .int g337339), (0, .ref q336737), (1, .int p336738)]) z337430 0 dr_cX17_next_165 rfl hz337430.symm (Nat.le_of_ble_eq_true rfl) rfl ?_
                refine G_goto 40 dr_cX17_next_168 (by decide +kernel) ?_
                exact ih40_337341 z337430 g337339 (gB_w bz337430 (by decide) (by decide)) bg337339 (by first | exact fun h => absurd h (by omega) | exact fun h => (by rw [ez337430]; rw [cB_of he336788]; have q := x337340; rw [cB_of he336788] at q; exact nx_0 (q h) hz337346 (by omega) rfl)) x337341 (by omega)
        exact hlp40_337341 (((2001 : Int) - 0).toNat + 1) 0 (-1) (gB_w (gBl (show Int32.toInt 0 = 0 by decide)) (by decide) (by decide)) (gB_w (gBl (show Int32.toInt (-1) = (-1) by decide)) (by decide) (by decide)) (fun _ m hm => absurd hm (by have qa : Int32.toInt 0 = 0 := (by decide); omega)) (fun h => absurd h (by decide)) (Nat.lt_succ_self _)
      · have r337431 : g337244.toInt < 2000 := gj_nleL hc337246 (show Int32.toInt 2000 = 2000 by decide)
        have bg337244' : gB g337244 0 1999 := ⟨by omega, by omega⟩
        refine G_aload_n 1 dr_cX17_next_9 rfl ?_
        refine Gp_get 18 hm336740 he336741 dr_cX17_next_10 (gk_X17 D I) (Nat.le_of_ble_eq_true rfl) wr_7_92 rfl ?_
        refine G_iload_n 0 dr_cX17_next_13 rfl ?_
        refine Gp_zald 3 hm336787 he336788 dr_cX17_next_14 rfl (gB_in bg337244' (by decide) (by decide)) (G_nam fun z337432 hz337432 => ?_)
        have bz337432 : gB z337432 0 1 := by rw [hz337432]; exact bf336789 _
        refine G_if_eq 30 dr_cX17_next_15 (by decide +kernel) (fun hc337433 => ?_) (fun hc337433 => ?_)
        · have r337434 : z337432.toInt = 0 := gj_eq hc337433 (show Int32.toInt 0 = 0 by decide)
          have bz337432' : gB z337432 0 0 := ⟨by omega, by omega⟩
          obtain ⟨z337435, hz337435⟩ : ∃ z : Int32, z = g337244 + Int32.ofInt 1 := ⟨_, rfl⟩
          have ez337435 : z337435.toInt = g337244.toInt + 1 := gI_inc hz337435 (by decide) bg337244' (by decide) (by decide)
          have bz337435 : gB z337435 1 2000 := ⟨by omega, by omega⟩
          refine G_iinc (L' := [(2, .int z337435), (0, .ref q336737), (1, .int p336738)]) z337435 0 dr_cX17_next_30 rfl hz337435.symm (Nat.le_of_ble_eq_true rfl) rfl ?_
          refine G_goto 2 dr_cX17_next_33 (by decide +kernel) ?_
          exact ih2_337244 z337435 (gB_w bz337435 (by decide) (by decide)) (by omega)
        · have r337436 : z337432.toInt ≠ 0 := gj_neq hc337433 (show Int32.toInt 0 = 0 by decide)
          have bz337432' : gB z337432 1 1 := ⟨by omega, by omega⟩
          refine G_aload_n 1 dr_cX17_next_18 rfl ?_
          refine Gp_get 16 hm336740 he336741 dr_cX17_next_19 (gk_X17 D I) (Nat.le_of_ble_eq_true rfl) wr_7_90 rfl ?_
          refine G_iload_n 0 dr_cX17_next_22 rfl ?_
          have hm337437 : (γ 9 16) ∈ P336735 := RS_m hT ht336771 (by decide)
          obtain ⟨f337439, he337438⟩ := show rk_19 I (F336736 (γ 9 16)) from RS_o hT ht336771
          refine Gp_iald 0 hm337437 he337438 dr_cX17_next_23 rfl (gB_in bg337244' (by decide) (by decide)) (G_nam fun z337440 hz337440 => ?_)
          have bz337440 : gB z337440 (-2147483648) 2147483647 := gB_any z337440
          refine G_iload_n 2 dr_cX17_next_24 rfl ?_
          refine G_icmp_ge 30 dr_cX17_next_25 (by decide +kernel) (fun hc337441 => ?_) (fun hc337441 => ?_)
          · have r337442 : p336738.toInt ≤ z337440.toInt := gC_le hc337441
            obtain ⟨z337443, hz337443⟩ : ∃ z : Int32, z = g337244 + Int32.ofInt 1 := ⟨_, rfl⟩
            have ez337443 : z337443.toInt = g337244.toInt + 1 := gI_inc hz337443 (by decide) bg337244' (by decide) (by decide)
            have bz337443 : gB z337443 1 2000 := ⟨by omega, by omega⟩
            refine G_iinc (L' := [(2, .int z337443), (0, .ref q336737), (1, .int p336738)]) z337443 0 dr_cX17_next_30 rfl hz337443.symm (Nat.le_of_ble_eq_true rfl) rfl ?_
            refine G_goto 2 dr_cX17_next_33 (by decide +kernel) ?_
            exact ih2_337244 z337443 (gB_w bz337443 (by decide) (by decide)) (by omega)
          · have r337444 : z337440.toInt < p336738.toInt := gC_nle hc337441
            have bz337440' : gB z337440 (-2147483648) 2147483646 := ⟨by omega, by omega⟩
            have bp336738' : gB p336738 (-2147483647) 2147483647 := ⟨by omega, by omega⟩
            refine G_iload_n 0 dr_cX17_next_28 rfl ?_
            exact G_iretA dr_cX17_next_29 rfl (Nat.le_of_ble_eq_true rfl) (Nat.le_of_ble_eq_true rfl) ⟨g337244, rfl, rfl, (Nat.le_of_ble_eq_true rfl), (Nat.le_of_ble_eq_true rfl), (gB_w bg337244' (by decide) (by decide)), (fun _ => by rw [cB_of he336788]; exact sd_of hz337432 (by omega) (by omega) (by omega)), (fun h => absurd h (by omega))⟩
  exact hlp2_337244 (((2001 : Int) - 0).toNat + 1) 0 (gB_w (gBl (show Int32.toInt 0 = 0 by decide)) (by decide) (by decide)) (Nat.lt_succ_self _)
abbrev ky_335943_SpillForgeModel_colours : gKey := (cX17_colours, 8, "SpillForgeModel", (some FieldType.int), [], "colours", fun _ _ => True)
def pt_335943_SpillForgeModel_colours (D : va_G) (I : FieldType → ClassId) (γ el : Nat → Nat → Nat) (P335939 : List Nat) (F335940 : Nat → va_E) (q335941 : Nat) (p335942 : Int32) : Option Value → va_W → Nat → Nat → Prop := fun r w dc ds => ∃ (F344578 : Nat → va_E) (o344577 : Int32), r = some (.int o344577) ∧ w = va_pl P335939 F344578 ∧ RS D I P335939 F344578 γ el ∧ rStr γ [] F335940 F344578 ∧ dc ≤ 0 ∧ ds ≤ 0 ∧ gB o344577 0 2000 ∧ (gIp (o344577.toInt = 0) (∀ m : Nat, rSd (cB (F344578 (γ 9 3))) m → 0 ≤ (cB (F344578 (γ 9 17)) m).toInt)) ∧ (F344578 q335941 = F335940 q335941) ∧ (F344578 (γ 9 3) = F335940 (γ 9 3))
set_option maxRecDepth 100000 in
set_option maxHeartbeats 4000000 in
theorem ct_335943_SpillForgeModel_colours (l : Launch) (hl0 : l.stackTraces = false) (D : va_G) (I : FieldType → ClassId) (γ el : Nat → Nat → Nat) (P335939 : List Nat) (F335940 : Nat → va_E) (q335941 : Nat) (p335942 : Int32) (hT : RS D I P335939 F335940 γ el) (htq335941 : rKd γ q335941 10) (bp335942 : gB p335942 1 32) : CtA (gV D I) l yX17_colours cX17_colours 8 (some FieldType.int) 2 43 0 0 [.ref q335941, .int p335942] (va_pl P335939 F335940) (pt_335943_SpillForgeModel_colours D I γ el P335939 F335940 q335941 p335942) gNA := by
  refine CtA_of hl0 (by decide) (Nat.le_of_ble_eq_true rfl) ?_
  have hm335944 : q335941 ∈ P335939 := RS_m hT htq335941 (by decide)
  refine rk10_e (show rk_10 γ (F335940 q335941) from RS_o hT htq335941) (fun q335946 q335947 p335948 p335949 p335950 p335951 p335952 p335953 p335954 p335955 p335956 p335957 p335958 p335959 p335960 p335961 p335962 he335945 hB335989 ht335963 ht335964 ht335965 ht335966 ht335967 ht335968 ht335969 ht335970 ht335971 ht335972 ht335973 ht335974 ht335975 ht335976 ht335977 ht335978 ht335979 ht335980 ht335981 ht335982 ht335983 ht335984 ht335985 ht335986 hB335990 => ?_)
  have hm335991 : (γ 9 3) ∈ P335939 := RS_m hT ht335968 (by decide)
  obtain ⟨f335993, he335992, bf335993⟩ := show rk_14 I (F335940 (γ 9 3)) from RS_o hT ht335968
  have hm335994 : (γ 9 18) ∈ P335939 := RS_m hT ht335977 (by decide)
  obtain ⟨f335996, he335995, bf335996⟩ := show rk_15 I (F335940 (γ 9 18)) from RS_o hT ht335977
  have hm335997 : (γ 9 15) ∈ P335939 := RS_m hT ht335974 (by decide)
  obtain ⟨f335999, he335998, bf335999⟩ := show rk_18 I (F335940 (γ 9 15)) from RS_o hT ht335974
  have hm336000 : (γ 9 17) ∈ P335939 := RS_m hT ht335976 (by decide)
  obtain ⟨f336002, he336001, bf336002⟩ := show rk_20 I (F335940 (γ 9 17)) from RS_o hT ht335976
  refine G_iconst 0 dr_cX17_colours_0 (by decide +kernel) ?_
  refine G_istore_n (L' := [(2, .int 0), (0, .ref q335941), (1, .int p335942)]) dr_cX17_colours_1 (Nat.le_of_ble_eq_true rfl) rfl ?_
  have hlp2_343311 : ∀ (n2_343311 : Nat) (F343306 : Nat → va_E) (g343305 : Int32), gB g343305 0 2000 → RS D I P335939 F343306 γ el → rStr γ [] F335940 F343306 → (∀ m : Nat, (m : Int) < g343305.toInt → rSd (cB (F343306 (γ 9 3))) m → rSd (cB (F343306 (γ 9 18))) m) → (F343306 q335941 = F335940 q335941) → (F343306 (γ 9 3) = F335940 (γ 9 3)) → ((2001 : Int) - g343305.toInt).toNat < n2_343311 → G (gV D I) l (gRm 2 43 0 0) (gMA (gV D I) (pt_335943_SpillForgeModel_colours D I γ el P335939 F335940 q335941 p335942) gNA 0 0) ky_335943_SpillForgeModel_colours 2 [(2, .int g343305), (0, .ref q335941), (1, .int p335942)] [] (va_pl P335939 F343306) 0 0 := by
    intro n2_343311
    induction n2_343311 with
    | zero => intro F343306 g343305 bg343305 hT343307 hs343308 x343309 x343310 x343311 hm2_343311; exact absurd hm2_343311 (Nat.not_lt_zero _)
    | succ n2_343311 ih2_343311 =>
      intro F343306 g343305 bg343305 hT343307 hs343308 x343309 x343310 x343311 hm2_343311
      have hs343313 : rStr γ [] F335940 F343306 := fun b h0 hb hw => (hs343308 b h0 hb hw).trans ((rStr_rf (γ := γ) (W := []) (F := F335940)) b h0 hb hw).symm
      have hs343314 : rStr γ [] F335940 F343306 := rStr_tr (rStr_rf (γ := γ) (W := []) (F := F335940)) hs343313
      have he343315 : F343306 q335941 = .inr (22, [.ref (γ 9 0), .ref (γ 9 1), .ref (γ 9 2), .ref (γ 9 3), .ref (γ 9 4), .ref (γ 9 5), .ref (γ 9 6), .ref (γ 9 7), .ref (γ 9 8), .int p335948, .int p335949, .int p335950, .int p335951, .int p335952, .int p335953, .ref (γ 9 15), .ref (γ 9 16), .ref (γ 9 17), .ref (γ 9 18), .ref (γ 9 19), .ref (γ 9 20), .ref (γ 9 21), .ref (γ 9 22), .int p335954, .int p335955, .int p335956, .int p335957, .int p335958, .ref q335946, .ref (γ 9 29), .int p335959, .ref (γ 9 31), .int p335960, .int p335961, .int p335962, .ref q335947]) := x343310.trans he335945
      have hm343316 : q335941 ∈ P335939 := RS_m hT343307 htq335941 (by decide)
      have he343317 : F343306 (γ 9 3) = .inl (I .boolean, 2000, .inl f335993) := x343311.trans he335992
      have hm343318 : (γ 9 3) ∈ P335939 := RS_m hT343307 ht335968 (by decide)
      have hm343319 : (γ 9 18) ∈ P335939 := RS_m hT343307 ht335977 (by decide)
      obtain ⟨f343321, he343320, bf343321⟩ := show rk_15 I (F343306 (γ 9 18)) from RS_o hT343307 ht335977
      have hm343322 : (γ 9 15) ∈ P335939 := RS_m hT343307 ht335974 (by decide)
      obtain ⟨f343324, he343323, bf343324⟩ := show rk_18 I (F343306 (γ 9 15)) from RS_o hT343307 ht335974
      have hm343325 : (γ 9 17) ∈ P335939 := RS_m hT343307 ht335976 (by decide)
      obtain ⟨f343327, he343326, bf343327⟩ := show rk_20 I (F343306 (γ 9 17)) from RS_o hT343307 ht335976
      have cq343328 := x343309
      rw [cB_of he343317, cB_of he343320] at cq343328
      refine G_iload_n 0 dr_cX17_colours_2 rfl ?_
      refine G_sipush 2000 dr_cX17_colours_3 (by decide +kernel) ?_
      refine G_icmp_ge 62 dr_cX17_colours_6 (by decide +kernel) (fun hc343329 => ?_) (fun hc343329 => ?_)
      · have r343330 : 2000 ≤ g343305.toInt := gj_leL hc343329 (show Int32.toInt 2000 = 2000 by decide)
        have bg343305' : gB g343305 2000 2000 := ⟨by omega, by omega⟩
        refine G_iconst 0 dr_cX17_colours_62 (by decide +kernel) ?_
        refine G_istore_n (L' := [(2, .int 0), (0, .ref q335941), (1, .int p335942)]) dr_cX17_colours_63 (Nat.le_of_ble_eq_true rfl) rfl ?_
        refine G_aload_n 1 dr_cX17_colours_64 rfl ?_
        refine G_iload_n 2 dr_cX17_colours_65 rfl ?_
        refine Gw_callV (As := [.int p335942]) (gV_ok D I) (ct_336739_SpillForgeModel_next l hl0 D I γ el P335939 F343306 q335941 p335942 hT343307 htq335941) dr_cX17_colours_66 ⟨wr_11_51, wr_1_14, wr_11_54, by decide, rfl, (Nat.le_of_ble_eq_true rfl), (Nat.le_of_ble_eq_true rfl)⟩ wr_11_53 wr_p_107 hm343316 he343315 rfl (show 0 + 0 ≤ 0 by first | omega | decide) (show 0 + 0 ≤ 0 by first | omega | decide) (Nat.le_of_ble_eq_true rfl) (fun r343334 w343335 dc343331 ds343332 hp343333 => ?_) (fun _ _ _ _ _ z => z.elim)
        obtain ⟨o343336, rfl, rfl, hdc, hds, bo343336, x343337, x343338⟩ := hp343333
        change G _ _ _ _ _ _ _ (.int o343336 :: _) _ _ _
        refine G_widen (cs' := 0) (sl' := 0) (by omega) (by omega) ?_
        refine G_istore_n (L' := [(3, .int o343336), (2, .int 0), (0, .ref q335941), (1, .int p335942)]) dr_cX17_colours_69 (Nat.le_of_ble_eq_true rfl) rfl ?_
        have hlp70_343908 : ∀ (n70_343908 : Nat) (F343900 : Nat → va_E) (g343898 : Int32) (g343899 : Int32), gB g343898 (-1) 1999 → gB g343899 0 2000 → RS D I P335939 F343900 γ el → rStr γ [] F335940 F343900 → (∀ m : Nat, rSd (cB (F343900 (γ 9 3))) m → rSd (cB (F343900 (γ 9 18))) m ∨ ∃ i : Nat, (i : Int) < g343899.toInt ∧ (cB (F343900 (γ 9 15)) i).toInt = m) → (rcn (cB (F343900 (γ 9 18))) 2000 + (g343899.toInt : Int).toNat ≤ 2000) → (gIp (0 ≤ g343898.toInt) (rSd (cB (F343900 (γ 9 18))) (g343898.toInt : Int).toNat)) → (gIp (g343898.toInt < 0) (∀ m : Nat, ¬ rSd (cB (F343900 (γ 9 18))) m)) → (F343900 q335941 = F335940 q335941) → (F343900 (γ 9 3) = F335940 (γ 9 3)) → (rcn (cB (F343900 (γ 9 18))) 2000) < n70_343908 → G (gV D I) l (gRm 2 43 0 0) (gMA (gV D I) (pt_335943_SpillForgeModel_colours D I γ el P335939 F335940 q335941 p335942) gNA 0 0) ky_335943_SpillForgeModel_colours 70 [(3, .int g343898), (2, .int g343899), (0, .ref q335941), (1, .int p335942)] [] (va_pl P335939 F343900) 0 0 := by
          intro n70_343908
          induction n70_343908 with
          | zero => intro F343900 g343898 g343899 bg343898 bg343899 hT343901 hs343902 x343903 x343904 x343905 x343906 x343907 x343908 hm70_343908; exact absurd hm70_343908 (Nat.not_lt_zero _)
          | succ n70_343908 ih70_343908 =>
            intro F343900 g343898 g343899 bg343898 bg343899 hT343901 hs343902 x343903 x343904 x343905 x343906 x343907 x343908 hm70_343908
            have hs343910 : rStr γ [] F343306 F343900 := fun b h0 hb hw => (hs343902 b h0 hb hw).trans (hs343308 b h0 hb hw).symm
            have hs343911 : rStr γ [] F335940 F343900 := rStr_tr hs343308 hs343910
            have he343912 : F343900 q335941 = .inr (22, [.ref (γ 9 0), .ref (γ 9 1), .ref (γ 9 2), .ref (γ 9 3), .ref (γ 9 4), .ref (γ 9 5), .ref (γ 9 6), .ref (γ 9 7), .ref (γ 9 8), .int p335948, .int p335949, .int p335950, .int p335951, .int p335952, .int p335953, .ref (γ 9 15), .ref (γ 9 16), .ref (γ 9 17), .ref (γ 9 18), .ref (γ 9 19), .ref (γ 9 20), .ref (γ 9 21), .ref (γ 9 22), .int p335954, .int p335955, .int p335956, .int p335957, .int p335958, .ref q335946, .ref (γ 9 29), .int p335959, .ref (γ 9 31), .int p335960, .int p335961, .int p335962, .ref q335947]) := x343907.trans he335945
            have hm343913 : q335941 ∈ P335939 := RS_m hT343901 htq335941 (by decide)
            have he343914 : F343900 (γ 9 3) = .inl (I .boolean, 2000, .inl f335993) := x343908.trans he335992
            have hm343915 : (γ 9 3) ∈ P335939 := RS_m hT343901 ht335968 (by decide)
            have hm343916 : (γ 9 18) ∈ P335939 := RS_m hT343901 ht335977 (by decide)
            obtain ⟨f343918, he343917, bf343918⟩ := show rk_15 I (F343900 (γ 9 18)) from RS_o hT343901 ht335977
            have hm343919 : (γ 9 15) ∈ P335939 := RS_m hT343901 ht335974 (by decide)
            obtain ⟨f343921, he343920, bf343921⟩ := show rk_18 I (F343900 (γ 9 15)) from RS_o hT343901 ht335974
            have hm343922 : (γ 9 17) ∈ P335939 := RS_m hT343901 ht335976 (by decide)
            obtain ⟨f343924, he343923, bf343924⟩ := show rk_20 I (F343900 (γ 9 17)) from RS_o hT343901 ht335976
            have cq343925 := x343903
            rw [cB_of he343914, cB_of he343917, cB_of he343920] at cq343925
            have cq343926 := x343904
            rw [cB_of he343917] at cq343926
            have cq343927 := x343905
            rw [cB_of he343917] at cq343927
            have cq343928 := x343906
            rw [cB_of he343917] at cq343928
            refine G_iload_n 0 dr_cX17_colours_70 rfl ?_
            refine G_if_lt 142 dr_cX17_colours_71 (by decide +kernel) (fun hc343929 => ?_) (fun hc343929 => ?_)
            · have r343930 : g343898.toInt < 0 := gj_lt hc343929 (show Int32.toInt 0 = 0 by decide)
              have bg343898' : gB g343898 (-1) (-1) := ⟨by omega, by omega⟩
              refine G_iconst 0 dr_cX17_colours_142 (by decide +kernel) ?_
              refine G_istore_n (L' := [(3, .int 0), (2, .int g343899), (0, .ref q335941), (1, .int p335942)]) dr_cX17_colours_143 (Nat.le_of_ble_eq_true rfl) rfl ?_
              have hlp144_344104 : ∀ (n144_344104 : Nat) (F344098 : Nat → va_E) (g344096 : Int32) (g344097 : Int32), gB g344096 0 2000 → gB g344097 0 2000 → RS D I P335939 F344098 γ el → rStr γ [] F335940 F344098 → (gIp (g344096.toInt = 0) (∀ m : Nat, rSd (cB (F344098 (γ 9 3))) m → (∃ i : Nat, (i : Int) < g344097.toInt ∧ (cB (F344098 (γ 9 15)) i).toInt = m) ∨ 0 ≤ (cB (F344098 (γ 9 17)) m).toInt)) → (g344096.toInt + g344097.toInt ≤ 2000) → (F344098 q335941 = F335940 q335941) → (F344098 (γ 9 3) = F335940 (γ 9 3)) → ((g344097.toInt : Int) - (-1)).toNat < n144_344104 → G (gV D I) l (gRm 2 43 0 0) (gMA (gV D I) (pt_335943_SpillForgeModel_colours D I γ el P335939 F335940 q335941 p335942) gNA 0 0) ky_335943_SpillForgeModel_colours 144 [(3, .int g344096), (2, .int g344097), (0, .ref q335941), (1, .int p335942)] [] (va_pl P335939 F344098) 0 0 := by
                intro n144_344104
                induction n144_344104 with
                | zero => intro F344098 g344096 g344097 bg344096 bg344097 hT344099 hs344100 x344101 x344102 x344103 x344104 hm144_344104; exact absurd hm144_344104 (Nat.not_lt_zero _)
                | succ n144_344104 ih144_344104 =>
                  intro F344098 g344096 g344097 bg344096 bg344097 hT344099 hs344100 x344101 x344102 x344103 x344104 hm144_344104
                  have hs344106 : rStr γ [] F343900 F344098 := fun b h0 hb hw => (hs344100 b h0 hb hw).trans (hs343902 b h0 hb hw).symm
                  have hs344107 : rStr γ [] F335940 F344098 := rStr_tr hs343902 hs344106
                  have he344108 : F344098 q335941 = .inr (22, [.ref (γ 9 0), .ref (γ 9 1), .ref (γ 9 2), .ref (γ 9 3), .ref (γ 9 4), .ref (γ 9 5), .ref (γ 9 6), .ref (γ 9 7), .ref (γ 9 8), .int p335948, .int p335949, .int p335950, .int p335951, .int p335952, .int p335953, .ref (γ 9 15), .ref (γ 9 16), .ref (γ 9 17), .ref (γ 9 18), .ref (γ 9 19), .ref (γ 9 20), .ref (γ 9 21), .ref (γ 9 22), .int p335954, .int p335955, .int p335956, .int p335957, .int p335958, .ref q335946, .ref (γ 9 29), .int p335959, .ref (γ 9 31), .int p335960, .int p335961, .int p335962, .ref q335947]) := x344103.trans he335945
                  have hm344109 : q335941 ∈ P335939 := RS_m hT344099 htq335941 (by decide)
                  have he344110 : F344098 (γ 9 3) = .inl (I .boolean, 2000, .inl f335993) := x344104.trans he335992
                  have hm344111 : (γ 9 3) ∈ P335939 := RS_m hT344099 ht335968 (by decide)
                  have hm344112 : (γ 9 18) ∈ P335939 := RS_m hT344099 ht335977 (by decide)
                  obtain ⟨f344114, he344113, bf344114⟩ := show rk_15 I (F344098 (γ 9 18)) from RS_o hT344099 ht335977
                  have hm344115 : (γ 9 15) ∈ P335939 := RS_m hT344099 ht335974 (by decide)
                  obtain ⟨f344117, he344116, bf344117⟩ := show rk_18 I (F344098 (γ 9 15)) from RS_o hT344099 ht335974
                  have hm344118 : (γ 9 17) ∈ P335939 := RS_m hT344099 ht335976 (by decide)
                  obtain ⟨f344120, he344119, bf344120⟩ := show rk_20 I (F344098 (γ 9 17)) from RS_o hT344099 ht335976
                  have cq344121 := x344101
                  rw [cB_of he344110, cB_of he344116, cB_of he344119] at cq344121
                  refine G_iload_n 1 dr_cX17_colours_144 rfl ?_
                  refine G_if_le 253 dr_cX17_colours_145 (by decide +kernel) (fun hc344122 => ?_) (fun hc344122 => ?_)
                  · have r344123 : g344097.toInt ≤ 0 := gj_le hc344122 (show Int32.toInt 0 = 0 by decide)
                    have bg344097' : gB g344097 0 0 := ⟨by omega, by omega⟩
                    refine G_iload_n 0 dr_cX17_colours_253 rfl ?_
                    exact G_iretA dr_cX17_colours_254 rfl (Nat.le_of_ble_eq_true rfl) (Nat.le_of_ble_eq_true rfl) ⟨F344098, g344096, rfl, rfl, hT344099, hs344100, (Nat.le_of_ble_eq_true rfl), (Nat.le_of_ble_eq_true rfl), bg344096, (fun h0 m s => by rw [cB_of he344119]; rw [cB_of he344110] at s; exact (cq344121 h0 m s).resolve_left (fun ⟨i, hi, _⟩ => absurd hi (by omega))), x344103, x344104⟩
                  · have r344124 : 0 < g344097.toInt := gj_nle hc344122 (show Int32.toInt 0 = 0 by decide)
                    have bg344097' : gB g344097 1 2000 := ⟨by omega, by omega⟩
                    obtain ⟨z344125, hz344125⟩ : ∃ z : Int32, z = g344097 + Int32.ofInt (-1) := ⟨_, rfl⟩
                    have ez344125 : z344125.toInt = g344097.toInt + (-1) := gI_inc hz344125 (by decide) bg344097' (by decide) (by decide)
                    have bz344125 : gB z344125 0 1999 := ⟨by omega, by omega⟩
                    refine G_iinc (L' := [(2, .int z344125), (3, .int g344096), (0, .ref q335941), (1, .int p335942)]) z344125 1 dr_cX17_colours_148 rfl hz344125.symm (Nat.le_of_ble_eq_true rfl) rfl ?_
                    refine G_aload_n 2 dr_cX17_colours_151 rfl ?_
                    refine Gp_get 15 hm344109 he344108 dr_cX17_colours_152 (gk_X17 D I) (Nat.le_of_ble_eq_true rfl) wr_7_89 rfl ?_
                    refine G_iload_n 0 dr_cX17_colours_155 rfl ?_
                    refine Gp_iald 0 hm344115 he344116 dr_cX17_colours_156 rfl (gB_in bz344125 (by decide) (by decide)) (G_nam fun z344126 hz344126 => ?_)
                    have bz344126 : gB z344126 0 1999 := by rw [hz344126]; exact bf344117 _
                    refine G_istore (L' := [(4, .int z344126), (2, .int z344125), (3, .int g344096), (0, .ref q335941), (1, .int p335942)]) dr_cX17_colours_157 (Nat.le_of_ble_eq_true rfl) rfl ?_
                    refine G_lconst 0 dr_cX17_colours_159 rfl ?_
                    refine G_lstore (L' := [(5, .long 0), (4, .int z344126), (2, .int z344125), (3, .int g344096), (0, .ref q335941), (1, .int p335942)]) dr_cX17_colours_160 (Nat.le_of_ble_eq_true rfl) rfl ?_
                    refine G_iconst 0 dr_cX17_colours_162 (by decide +kernel) ?_
                    refine G_istore (L' := [(7, .int 0), (5, .long 0), (4, .int z344126), (2, .int z344125), (3, .int g344096), (0, .ref q335941), (1, .int p335942)]) dr_cX17_colours_163 (Nat.le_of_ble_eq_true rfl) rfl ?_
                    have hlp165_344198 : ∀ (n165_344198 : Nat) (g344196 : Int32) (gl344197 : Int64), gB g344196 0 2000 → lb_Q gl344197 (32) → ((2001 : Int) - g344196.toInt).toNat < n165_344198 → G (gV D I) l (gRm 2 43 0 0) (gMA (gV D I) (pt_335943_SpillForgeModel_colours D I γ el P335939 F335940 q335941 p335942) gNA 0 0) ky_335943_SpillForgeModel_colours 165 [(7, .int g344196), (5, .long gl344197), (4, .int z344126), (2, .int z344125), (3, .int g344096), (0, .ref q335941), (1, .int p335942)] [] (va_pl P335939 F344098) 0 0 := by
                      intro n165_344198
                      induction n165_344198 with
                      | zero => intro g344196 gl344197 bg344196 x344198 hm165_344198; exact absurd hm165_344198 (Nat.not_lt_zero _)
                      | succ n165_344198 ih165_344198 =>
                        intro g344196 gl344197 bg344196 x344198 hm165_344198
                        refine G_iload 0 dr_cX17_colours_165 rfl ?_
                        refine G_sipush 2000 dr_cX17_colours_167 (by decide +kernel) ?_
                        refine G_icmp_ge 218 dr_cX17_colours_170 (by decide +kernel) (fun hc344200 => ?_) (fun hc344200 => ?_)
                        · have r344201 : 2000 ≤ g344196.toInt := gj_leL hc344200 (show Int32.toInt 2000 = 2000 by decide)
                          have bg344196' : gB g344196 2000 2000 := ⟨by omega, by omega⟩
                          refine G_lload 1 dr_cX17_colours_218 rfl ?_
                          refine G_ldc2 (-1) dr_cX17_colours_220 wr_10_188 ?_
                          refine G_lxor dr_cX17_colours_223 (G_namL fun u344202 hu344202 => ?_)
                          refine Gw_callS (As := [.long u344202]) (gV_ok D I) (nzc_Long_numberOfTrailingZeros l hl0 D I P335939 F344098 u344202) dr_cX17_colours_224 ⟨wr_11_1, wr_1_31, wr_11_3, by decide, rfl, (Nat.le_of_ble_eq_true rfl), (Nat.le_of_ble_eq_true rfl)⟩ wr_11_2 (show 0 + 0 ≤ 0 by first | omega | decide) (show 0 + 0 ≤ 0 by first | omega | decide) (Nat.le_of_ble_eq_true rfl) (fun r344206 w344207 dc344203 ds344204 hp344205 => ?_) (fun _ _ _ _ _ z => z.elim)
                          obtain ⟨o344209, rfl, rfl, hdc, hds, hO344208⟩ := hp344205
                          have hO344208 := hO344208 (nz_x hu344202 x344198)
                          have bo344209 : gB o344209 0 63 := ⟨hO344208.1, hO344208.2.1⟩
                          change G _ _ _ _ _ _ _ (.int o344209 :: _) _ _ _
                          refine G_widen (cs' := 0) (sl' := 0) (by omega) (by omega) ?_
                          refine G_istore (L' := [(7, .int o344209), (5, .long gl344197), (4, .int z344126), (2, .int z344125), (3, .int g344096), (0, .ref q335941), (1, .int p335942)]) dr_cX17_colours_227 (Nat.le_of_ble_eq_true rfl) rfl ?_
                          refine G_iload 0 dr_cX17_colours_229 rfl ?_
                          refine G_iload_n 6 dr_cX17_colours_231 rfl ?_
                          refine G_icmp_ge 247 dr_cX17_colours_232 (by decide +kernel) (fun hc344210 => ?_) (fun hc344210 => ?_)
                          · have r344211 : p335942.toInt ≤ o344209.toInt := gC_le hc344210
                            have bo344209' : gB o344209 1 63 := ⟨by omega, by omega⟩
                            have bg344096' : gB g344096 0 1999 := ⟨by omega, by omega⟩
                            obtain ⟨z344212, hz344212⟩ : ∃ z : Int32, z = g344096 + Int32.ofInt 1 := ⟨_, rfl⟩
                            have ez344212 : z344212.toInt = g344096.toInt + 1 := gI_inc hz344212 (by decide) bg344096' (by decide) (by decide)
                            have bz344212 : gB z344212 1 2000 := ⟨by omega, by omega⟩
                            refine G_iinc (L' := [(3, .int z344212), (7, .int o344209), (5, .long gl344197), (4, .int z344126), (2, .int z344125), (0, .ref q335941), (1, .int p335942)]) z344212 4 dr_cX17_colours_247 rfl hz344212.symm (Nat.le_of_ble_eq_true rfl) rfl ?_
                            refine G_goto 144 dr_cX17_colours_250 (by decide +kernel) ?_
                            refine G_lv (L' := [(3, .int z344212), (2, .int z344125), (0, .ref q335941), (1, .int p335942)]) [0, 4, 5, 6] rfl ?_
                            exact ih144_344104 F344098 z344212 z344125 (gB_w bz344212 (by decide) (by decide)) (gB_w bz344125 (by decide) (by decide)) hT344099 hs344100 (fun h0 => absurd h0 (by omega)) (by omega) x344103 x344104 (mz_dn ez344125 (Int.le_trans (by decide) bg344097'.1) hm144_344104)
                          · have r344213 : o344209.toInt < p335942.toInt := gC_nle hc344210
                            have bo344209' : gB o344209 0 31 := ⟨by omega, by omega⟩
                            refine G_aload_n 5 dr_cX17_colours_235 rfl ?_
                            refine Gp_get 17 hm344109 he344108 dr_cX17_colours_236 (gk_X17 D I) (Nat.le_of_ble_eq_true rfl) wr_7_91 rfl ?_
                            refine G_iload 2 dr_cX17_colours_239 rfl ?_
                            refine G_iload 0 dr_cX17_colours_241 rfl ?_
                            refine Gp_iast 0 hm344118 he344119 dr_cX17_colours_243 rfl (gB_in bz344126 (by decide) (by decide)) (fun F344214 e344215 n344216 => ?_)
                            obtain ⟨f344217, hf344217⟩ : ∃ z, z = upd f344120 z344126.toNatClampNeg o344209 := ⟨_, rfl⟩
                            rw [← hf344217] at e344215
                            have he344218 : F344214 q335941 = .inr (22, [.ref (γ 9 0), .ref (γ 9 1), .ref (γ 9 2), .ref (γ 9 3), .ref (γ 9 4), .ref (γ 9 5), .ref (γ 9 6), .ref (γ 9 7), .ref (γ 9 8), .int p335948, .int p335949, .int p335950, .int p335951, .int p335952, .int p335953, .ref (γ 9 15), .ref (γ 9 16), .ref (γ 9 17), .ref (γ 9 18), .ref (γ 9 19), .ref (γ 9 20), .ref (γ 9 21), .ref (γ 9 22), .int p335954, .int p335955, .int p335956, .int p335957, .int p335958, .ref q335946, .ref (γ 9 29), .int p335959, .ref (γ 9 31), .int p335960, .int p335961, .int p335962, .ref q335947]) := (n344216 q335941 (rn_oa he344108 he344119)).trans he344108
                            have he344219 : F344214 (γ 9 3) = .inl (I .boolean, 2000, .inl f335993) := (n344216 (γ 9 3) (rn_ty ht335968 ht335976 (by decide))).trans he344110
                            have he344220 : F344214 (γ 9 18) = .inl (I .boolean, 2000, .inl f344114) := (n344216 (γ 9 18) (rn_ty ht335977 ht335976 (by decide))).trans he344113
                            have he344221 : F344214 (γ 9 15) = .inl (I .int, 2000, .inl f344117) := (n344216 (γ 9 15) (rn_ty ht335974 ht335976 (by decide))).trans he344116
                            have he344222 : F344214 (γ 9 17) = .inl (I .int, 2000, .inl f344217) := e344215
                            have hs344223 : rStr γ [] F335940 F344214 := rStr_put hs344100 n344216 ht335976 (by decide)
                            have kp344224 : F344214 q335941 = F335940 q335941 := (n344216 q335941 (rn_ty htq335941 ht335976 (by decide))).trans x344103
                            have kp344225 : F344214 (γ 9 3) = F335940 (γ 9 3) := (n344216 (γ 9 3) (rn_ty ht335968 ht335976 (by decide))).trans x344104
                            have bf344217 : gF f344217 (-1) 31 := gF_upd hf344217 bf344120 (gB_w bo344209' (by decide) (by decide))
                            refine G_goto 250 dr_cX17_colours_244 (by decide +kernel) ?_
                            refine G_goto 144 dr_cX17_colours_250 (by decide +kernel) ?_
                            have hT344226 : RS D I P335939 F344214 γ el := RS_set hT344099 n344216 ht335976 (by decide) ⟨f344217, he344222, bf344217⟩
                            refine G_lv (L' := [(3, .int g344096), (2, .int z344125), (0, .ref q335941), (1, .int p335942)]) [4, 3, 5, 6] rfl ?_
                            exact ih144_344104 F344214 g344096 z344125 bg344096 (gB_w bz344125 (by decide) (by decide)) hT344226 hs344223 (by rw [cB_of he344219, cB_of he344221, cB_of he344222]; exact fun h0 => co_u hz344126 hf344217 (by omega) (by omega) (by omega) (cq344121 h0)) (by omega) kp344224 kp344225 (mz_dn ez344125 (Int.le_trans (by decide) bg344097'.1) hm144_344104)
                        · have r344227 : g344196.toInt < 2000 := gj_nleL hc344200 (show Int32.toInt 2000 = 2000 by decide)
                          have bg344196' : gB g344196 0 1999 := ⟨by omega, by omega⟩
                          refine G_aload_n 5 dr_cX17_colours_173 rfl ?_
                          refine Gp_get 17 hm344109 he344108 dr_cX17_colours_174 (gk_X17 D I) (Nat.le_of_ble_eq_true rfl) wr_7_91 rfl ?_
                          refine G_iload 0 dr_cX17_colours_177 rfl ?_
                          refine Gp_iald 0 hm344118 he344119 dr_cX17_colours_179 rfl (gB_in bg344196' (by decide) (by decide)) (G_nam fun z344228 hz344228 => ?_)
                          have bz344228 : gB z344228 (-1) 31 := by rw [hz344228]; exact bf344120 _
                          refine G_if_lt 212 dr_cX17_colours_180 (by decide +kernel) (fun hc344229 => ?_) (fun hc344229 => ?_)
                          · have r344230 : z344228.toInt < 0 := gj_lt hc344229 (show Int32.toInt 0 = 0 by decide)
                            have bz344228' : gB z344228 (-1) (-1) := ⟨by omega, by omega⟩
                            obtain ⟨z344231, hz344231⟩ : ∃ z : Int32, z = g344196 + Int32.ofInt 1 := ⟨_, rfl⟩
                            have ez344231 : z344231.toInt = g344196.toInt + 1 := gI_inc hz344231 (by decide) bg344196' (by decide) (by decide)
                            have bz344231 : gB z344231 1 2000 := ⟨by omega, by omega⟩
                            refine G_iinc (L' := [(7, .int z344231), (5, .long gl344197), (4, .int z344126), (2, .int z344125), (3, .int g344096), (0, .ref q335941), (1, .int p335942)]) z344231 0 dr_cX17_colours_212 rfl hz344231.symm (Nat.le_of_ble_eq_true rfl) rfl ?_
                            refine G_goto 165 dr_cX17_colours_215 (by decide +kernel) ?_
                            exact ih165_344198 z344231 gl344197 (gB_w bz344231 (by decide) (by decide)) x344198 (mz_up ez344231 (Int.le_trans bg344196'.2 (by decide)) hm165_344198)
                          · have r344232 : 0 ≤ z344228.toInt := gj_nlt hc344229 (show Int32.toInt 0 = 0 by decide)
                            have bz344228' : gB z344228 0 31 := ⟨by omega, by omega⟩
                            refine G_aload_n 5 dr_cX17_colours_183 rfl ?_
                            refine Gp_get 1 hm344109 he344108 dr_cX17_colours_184 (gk_X17 D I) (Nat.le_of_ble_eq_true rfl) wr_7_75 rfl ?_
                            refine G_iload 2 dr_cX17_colours_187 rfl ?_
                            have hm344233 : (γ 9 1) ∈ P335939 := RS_m hT344099 ht335966 (by decide)
                            obtain ⟨f344235, he344234, hg344236⟩ := show rk_13 I γ (F344098 (γ 9 1)) from RS_o hT344099 ht335966
                            obtain ⟨q344237, hx344239⟩ : ∃ x, x = γ 11 z344126.toInt.toNat := ⟨_, rfl⟩
                            have ht344238 : rKd γ q344237 36 := by rw [hx344239]; exact (hg344236 _ (show z344126.toInt.toNat < 2000 by omega)).2.1
                            refine Gp_aald 5 hm344233 he344234 dr_cX17_colours_189 rfl rfl (gB_in bz344126 (by decide) (by decide)) ?_
                            rw [show f344235 z344126.toNatClampNeg = some q344237 from (hg344236 _ (show z344126.toInt.toNat < 2000 by omega)).1.trans (by rw [hx344239])]
                            change G _ _ _ _ _ _ _ (.ref q344237 :: _) _ _ _
                            refine G_iload 0 dr_cX17_colours_190 rfl ?_
                            have hm344240 : q344237 ∈ P335939 := RS_m hT344099 ht344238 (by decide)
                            obtain ⟨f344242, he344241, wf344242⟩ := show rk_36 I (F344098 q344237) from RS_o hT344099 ht344238
                            refine Gw_callS (As := [.ref q344237, .int g344196]) (gV_ok D I) (cp_1845_SpillForgeModel_has l hl0 D I P335939 F344098 q344237 g344196 f344242 hm344240 he344241 (gB_w bg344196' (by decide) (by decide))) dr_cX17_colours_192 ⟨wr_10_203, wr_1_14, wr_10_205, by decide, rfl, (Nat.le_of_ble_eq_true rfl), (Nat.le_of_ble_eq_true rfl)⟩ wr_10_204 (show 0 + 0 ≤ 0 by first | omega | decide) (show 0 + 0 ≤ 0 by first | omega | decide) (Nat.le_of_ble_eq_true rfl) (fun r344246 w344247 dc344243 ds344244 hp344245 => ?_) (fun _ _ _ _ _ z => z.elim)
                            rcases hp344245 with ⟨z344248, z344249, rfl, rfl, hdc, hds, r344250, r344251, r344252, r344253, r344254⟩ | ⟨z344255, z344256, rfl, rfl, hdc, hds, r344257, r344258, r344259, r344260, r344261⟩
                            · change G _ _ _ _ _ _ _ (.int 0 :: _) _ _ _
                              refine G_widen (cs' := 0) (sl' := 0) (by omega) (by omega) ?_
                              refine G_if_eq 212 dr_cX17_colours_195 (by decide +kernel) (fun _ => ?_) (fun hc => absurd hc (by decide))
                              obtain ⟨z344263, hz344263⟩ : ∃ z : Int32, z = g344196 + Int32.ofInt 1 := ⟨_, rfl⟩
                              have ez344263 : z344263.toInt = g344196.toInt + 1 := gI_inc hz344263 (by decide) bg344196' (by decide) (by decide)
                              have bz344263 : gB z344263 1 2000 := ⟨by omega, by omega⟩
                              refine G_iinc (L' := [(7, .int z344263), (5, .long gl344197), (4, .int z344126), (2, .int z344125), (3, .int g344096), (0, .ref q335941), (1, .int p335942)]) z344263 0 dr_cX17_colours_212 rfl hz344263.symm (Nat.le_of_ble_eq_true rfl) rfl ?_
                              refine G_goto 165 dr_cX17_colours_215 (by decide +kernel) ?_
                              exact ih165_344198 z344263 gl344197 (gB_w bz344263 (by decide) (by decide)) x344198 (mz_up ez344263 (Int.le_trans bg344196'.2 (by decide)) hm165_344198)
                            · change G _ _ _ _ _ _ _ (.int 1 :: _) _ _ _
                              refine G_widen (cs' := 0) (sl' := 0) (by omega) (by omega) ?_
                              refine G_if_eq 212 dr_cX17_colours_195 (by decide +kernel) (fun hc => absurd hc (by decide)) (fun _ => ?_)
                              refine G_lload 1 dr_cX17_colours_198 rfl ?_
                              refine G_lconst 1 dr_cX17_colours_200 rfl ?_
                              refine G_aload_n 5 dr_cX17_colours_201 rfl ?_
                              refine Gp_get 17 hm344109 he344108 dr_cX17_colours_202 (gk_X17 D I) (Nat.le_of_ble_eq_true rfl) wr_7_91 rfl ?_
                              refine G_iload 0 dr_cX17_colours_205 rfl ?_
                              refine Gp_iald 0 hm344118 he344119 dr_cX17_colours_207 rfl (gB_in bg344196' (by decide) (by decide)) (G_eqi (y := z344228) hz344228.symm ?_)
                              refine G_lshl dr_cX17_colours_208 (G_namL fun u344264 hu344264 => ?_)
                              have qu344264 : lb_Q u344264 (z344228.toInt % 64 + 1) := lb_Qshl hu344264 (by omega)
                              refine G_lor dr_cX17_colours_209 (G_namL fun u344265 hu344265 => ?_)
                              have qu344265 : lb_Q u344265 (32) := lb_Qor hu344265 x344198 (lb_Qw qu344264 (by omega))
                              refine G_lstore (L' := [(5, .long u344265), (7, .int g344196), (4, .int z344126), (2, .int z344125), (3, .int g344096), (0, .ref q335941), (1, .int p335942)]) dr_cX17_colours_210 (Nat.le_of_ble_eq_true rfl) rfl ?_
                              obtain ⟨z344266, hz344266⟩ : ∃ z : Int32, z = g344196 + Int32.ofInt 1 := ⟨_, rfl⟩
                              have ez344266 : z344266.toInt = g344196.toInt + 1 := gI_inc hz344266 (by decide) bg344196' (by decide) (by decide)
                              have bz344266 : gB z344266 1 2000 := ⟨by omega, by omega⟩
                              refine G_iinc (L' := [(7, .int z344266), (5, .long u344265), (4, .int z344126), (2, .int z344125), (3, .int g344096), (0, .ref q335941), (1, .int p335942)]) z344266 1 dr_cX17_colours_212 rfl hz344266.symm (Nat.le_of_ble_eq_true rfl) rfl ?_
                              refine G_goto 165 dr_cX17_colours_215 (by decide +kernel) ?_
                              exact ih165_344198 z344266 u344265 (gB_w bz344266 (by decide) (by decide)) qu344265 (mz_up ez344266 (Int.le_trans bg344196'.2 (by decide)) hm165_344198)
                    exact hlp165_344198 (((2001 : Int) - 0).toNat + 1) 0 0 (gB_w (gBl (show Int32.toInt 0 = 0 by decide)) (by decide) (by decide)) lb_Q0 (Nat.lt_succ_self _)
              exact hlp144_344104 (((g343899.toInt : Int) - (-1)).toNat + 1) F343900 0 g343899 (gB_w (gBl (show Int32.toInt 0 = 0 by decide)) (by decide) (by decide)) bg343899 hT343901 hs343902 (by rw [cB_of he343914, cB_of he343920, cB_of he343923]; exact fun _ m s => Or.inl ((cq343925 m s).resolve_left (cq343928 (by omega) m))) (by have qa0 : Int32.toInt 0 = 0 := (by decide); omega) x343907 x343908 (Nat.lt_succ_self _)
            · have r344267 : 0 ≤ g343898.toInt := gj_nlt hc343929 (show Int32.toInt 0 = 0 by decide)
              have bg343898' : gB g343898 0 1999 := ⟨by omega, by omega⟩
              have r344268 := rcn_pos (cq343927 (by omega))
              have r344269 := cq343926
              have bg343899' : gB g343899 0 1999 := ⟨by omega, by omega⟩
              refine G_aload_n 2 dr_cX17_colours_74 rfl ?_
              refine Gp_get 15 hm343913 he343912 dr_cX17_colours_75 (gk_X17 D I) (Nat.le_of_ble_eq_true rfl) wr_7_89 rfl ?_
              refine G_iload_n 1 dr_cX17_colours_78 rfl ?_
              refine G_iload_n 0 dr_cX17_colours_79 rfl ?_
              refine Gp_iast 0 hm343919 he343920 dr_cX17_colours_80 rfl (gB_in bg343899' (by decide) (by decide)) (fun F344270 e344271 n344272 => ?_)
              obtain ⟨f344273, hf344273⟩ : ∃ z, z = upd f343921 g343899.toNatClampNeg g343898 := ⟨_, rfl⟩
              rw [← hf344273] at e344271
              have he344274 : F344270 q335941 = .inr (22, [.ref (γ 9 0), .ref (γ 9 1), .ref (γ 9 2), .ref (γ 9 3), .ref (γ 9 4), .ref (γ 9 5), .ref (γ 9 6), .ref (γ 9 7), .ref (γ 9 8), .int p335948, .int p335949, .int p335950, .int p335951, .int p335952, .int p335953, .ref (γ 9 15), .ref (γ 9 16), .ref (γ 9 17), .ref (γ 9 18), .ref (γ 9 19), .ref (γ 9 20), .ref (γ 9 21), .ref (γ 9 22), .int p335954, .int p335955, .int p335956, .int p335957, .int p335958, .ref q335946, .ref (γ 9 29), .int p335959, .ref (γ 9 31), .int p335960, .int p335961, .int p335962, .ref q335947]) := (n344272 q335941 (rn_oa he343912 he343920)).trans he343912
              have he344275 : F344270 (γ 9 3) = .inl (I .boolean, 2000, .inl f335993) := (n344272 (γ 9 3) (rn_ty ht335968 ht335974 (by decide))).trans he343914
              have he344276 : F344270 (γ 9 18) = .inl (I .boolean, 2000, .inl f343918) := (n344272 (γ 9 18) (rn_ty ht335977 ht335974 (by decide))).trans he343917
              have he344277 : F344270 (γ 9 17) = .inl (I .int, 2000, .inl f343924) := (n344272 (γ 9 17) (rn_ty ht335976 ht335974 (by decide))).trans he343923
              have he344278 : F344270 (γ 9 15) = .inl (I .int, 2000, .inl f344273) := e344271
              have hs344279 : rStr γ [] F335940 F344270 := rStr_put hs343902 n344272 ht335974 (by decide)
              have kp344280 : F344270 q335941 = F335940 q335941 := (n344272 q335941 (rn_ty htq335941 ht335974 (by decide))).trans x343907
              have kp344281 : F344270 (γ 9 3) = F335940 (γ 9 3) := (n344272 (γ 9 3) (rn_ty ht335968 ht335974 (by decide))).trans x343908
              have bf344273 : gF f344273 0 1999 := gF_upd hf344273 bf343921 bg343898'
              obtain ⟨z344282, hz344282⟩ : ∃ z : Int32, z = g343899 + Int32.ofInt 1 := ⟨_, rfl⟩
              have ez344282 : z344282.toInt = g343899.toInt + 1 := gI_inc hz344282 (by decide) bg343899' (by decide) (by decide)
              have bz344282 : gB z344282 1 2000 := ⟨by omega, by omega⟩
              refine G_iinc (L' := [(2, .int z344282), (3, .int g343898), (0, .ref q335941), (1, .int p335942)]) z344282 1 dr_cX17_colours_81 rfl hz344282.symm (Nat.le_of_ble_eq_true rfl) rfl ?_
              refine G_aload_n 2 dr_cX17_colours_84 rfl ?_
              refine Gp_get 18 hm343913 he344274 dr_cX17_colours_85 (gk_X17 D I) (Nat.le_of_ble_eq_true rfl) wr_7_92 rfl ?_
              refine G_iload_n 1 dr_cX17_colours_88 rfl ?_
              refine G_iconst 0 dr_cX17_colours_89 (by decide +kernel) ?_
              have hT344283 : RS D I P335939 F344270 γ el := RS_set hT343901 n344272 ht335974 (by decide) ⟨f344273, he344278, bf344273⟩
              refine Gp_zast 3 hm343916 he344276 dr_cX17_colours_90 rfl (gB_in bg343898' (by decide) (by decide)) (fun F344284 e344285 n344286 => ?_)
              obtain ⟨f344287, hf344287⟩ : ∃ z, z = upd f343918 g343898.toNatClampNeg (vp_nar .boolean 0) := ⟨_, rfl⟩
              rw [← hf344287] at e344285
              have he344288 : F344284 q335941 = .inr (22, [.ref (γ 9 0), .ref (γ 9 1), .ref (γ 9 2), .ref (γ 9 3), .ref (γ 9 4), .ref (γ 9 5), .ref (γ 9 6), .ref (γ 9 7), .ref (γ 9 8), .int p335948, .int p335949, .int p335950, .int p335951, .int p335952, .int p335953, .ref (γ 9 15), .ref (γ 9 16), .ref (γ 9 17), .ref (γ 9 18), .ref (γ 9 19), .ref (γ 9 20), .ref (γ 9 21), .ref (γ 9 22), .int p335954, .int p335955, .int p335956, .int p335957, .int p335958, .ref q335946, .ref (γ 9 29), .int p335959, .ref (γ 9 31), .int p335960, .int p335961, .int p335962, .ref q335947]) := (n344286 q335941 (rn_oa he344274 he344276)).trans he344274
              have he344289 : F344284 (γ 9 3) = .inl (I .boolean, 2000, .inl f335993) := (n344286 (γ 9 3) (rn_ty ht335968 ht335977 (by decide))).trans he344275
              have he344290 : F344284 (γ 9 15) = .inl (I .int, 2000, .inl f344273) := (n344286 (γ 9 15) (rn_ty ht335974 ht335977 (by decide))).trans he344278
              have he344291 : F344284 (γ 9 17) = .inl (I .int, 2000, .inl f343924) := (n344286 (γ 9 17) (rn_ty ht335976 ht335977 (by decide))).trans he344277
              have he344292 : F344284 (γ 9 18) = .inl (I .boolean, 2000, .inl f344287) := e344285
              have hs344293 : rStr γ [] F335940 F344284 := rStr_put hs344279 n344286 ht335977 (by decide)
              have kp344294 : F344284 q335941 = F335940 q335941 := (n344286 q335941 (rn_ty htq335941 ht335977 (by decide))).trans kp344280
              have kp344295 : F344284 (γ 9 3) = F335940 (γ 9 3) := (n344286 (γ 9 3) (rn_ty ht335968 ht335977 (by decide))).trans kp344281
              have bf344287 : gF f344287 0 1 := gF_upd hf344287 bf343918 (gB_w (gBl (show Int32.toInt 0 = 0 by decide)) (by decide) (by decide))
              have hT344297 : RS D I P335939 F344284 γ el := RS_set hT344283 n344286 ht335977 (by decide) ⟨f344287, he344292, bf344287⟩
              have td344296 := th_d hf344287 (by omega) (cq343927 (by omega))
              refine G_iconst 0 dr_cX17_colours_91 (by decide +kernel) ?_
              refine G_istore (L' := [(4, .int 0), (2, .int z344282), (3, .int g343898), (0, .ref q335941), (1, .int p335942)]) dr_cX17_colours_92 (Nat.le_of_ble_eq_true rfl) rfl ?_
              have hlp94_344389 : ∀ (n94_344389 : Nat) (F344382 : Nat → va_E) (g344381 : Int32), gB g344381 0 2000 → RS D I P335939 F344382 γ el → rStr γ [] F335940 F344382 → (∀ m : Nat, rSd (cB (F344382 (γ 9 3))) m → rSd (cB (F344382 (γ 9 18))) m ∨ ∃ i : Nat, (i : Int) < z344282.toInt ∧ (cB (F344382 (γ 9 15)) i).toInt = m) → (rcn (cB (F344382 (γ 9 18))) 2000 + (z344282.toInt : Int).toNat ≤ 2000) → (rcn (cB (F344382 (γ 9 18))) 2000 + 1 ≤ rcn (cB (F343900 (γ 9 18))) 2000) → (F344382 q335941 = F335940 q335941) → (F344382 (γ 9 3) = F335940 (γ 9 3)) → ((2001 : Int) - g344381.toInt).toNat < n94_344389 → G (gV D I) l (gRm 2 43 0 0) (gMA (gV D I) (pt_335943_SpillForgeModel_colours D I γ el P335939 F335940 q335941 p335942) gNA 0 0) ky_335943_SpillForgeModel_colours 94 [(4, .int g344381), (2, .int z344282), (3, .int g343898), (0, .ref q335941), (1, .int p335942)] [] (va_pl P335939 F344382) 0 0 := by
                intro n94_344389
                induction n94_344389 with
                | zero => intro F344382 g344381 bg344381 hT344383 hs344384 x344385 x344386 x344387 x344388 x344389 hm94_344389; exact absurd hm94_344389 (Nat.not_lt_zero _)
                | succ n94_344389 ih94_344389 =>
                  intro F344382 g344381 bg344381 hT344383 hs344384 x344385 x344386 x344387 x344388 x344389 hm94_344389
                  have hs344391 : rStr γ [] F344284 F344382 := fun b h0 hb hw => (hs344384 b h0 hb hw).trans (hs344293 b h0 hb hw).symm
                  have hs344392 : rStr γ [] F335940 F344382 := rStr_tr hs344293 hs344391
                  have he344393 : F344382 q335941 = .inr (22, [.ref (γ 9 0), .ref (γ 9 1), .ref (γ 9 2), .ref (γ 9 3), .ref (γ 9 4), .ref (γ 9 5), .ref (γ 9 6), .ref (γ 9 7), .ref (γ 9 8), .int p335948, .int p335949, .int p335950, .int p335951, .int p335952, .int p335953, .ref (γ 9 15), .ref (γ 9 16), .ref (γ 9 17), .ref (γ 9 18), .ref (γ 9 19), .ref (γ 9 20), .ref (γ 9 21), .ref (γ 9 22), .int p335954, .int p335955, .int p335956, .int p335957, .int p335958, .ref q335946, .ref (γ 9 29), .int p335959, .ref (γ 9 31), .int p335960, .int p335961, .int p335962, .ref q335947]) := x344388.trans he335945
                  have hm344394 : q335941 ∈ P335939 := RS_m hT344383 htq335941 (by decide)
                  have he344395 : F344382 (γ 9 3) = .inl (I .boolean, 2000, .inl f335993) := x344389.trans he335992
                  have hm344396 : (γ 9 3) ∈ P335939 := RS_m hT344383 ht335968 (by decide)
                  have hm344397 : (γ 9 18) ∈ P335939 := RS_m hT344383 ht335977 (by decide)
                  obtain ⟨f344399, he344398, bf344399⟩ := show rk_15 I (F344382 (γ 9 18)) from RS_o hT344383 ht335977
                  have hm344400 : (γ 9 15) ∈ P335939 := RS_m hT344383 ht335974 (by decide)
                  obtain ⟨f344402, he344401, bf344402⟩ := show rk_18 I (F344382 (γ 9 15)) from RS_o hT344383 ht335974
                  have hm344403 : (γ 9 17) ∈ P335939 := RS_m hT344383 ht335976 (by decide)
                  obtain ⟨f344405, he344404, bf344405⟩ := show rk_20 I (F344382 (γ 9 17)) from RS_o hT344383 ht335976
                  have cq344406 := x344385
                  rw [cB_of he344395, cB_of he344398, cB_of he344401] at cq344406
                  have cq344407 := x344386
                  rw [cB_of he344398] at cq344407
                  have cq344408 := x344387
                  rw [cB_of he344398] at cq344408
                  refine G_iload 0 dr_cX17_colours_94 rfl ?_
                  refine G_sipush 2000 dr_cX17_colours_96 (by decide +kernel) ?_
                  refine G_icmp_ge 133 dr_cX17_colours_99 (by decide +kernel) (fun hc344409 => ?_) (fun hc344409 => ?_)
                  · have r344410 : 2000 ≤ g344381.toInt := gj_leL hc344409 (show Int32.toInt 2000 = 2000 by decide)
                    have bg344381' : gB g344381 2000 2000 := ⟨by omega, by omega⟩
                    refine G_aload_n 3 dr_cX17_colours_133 rfl ?_
                    refine G_iload_n 4 dr_cX17_colours_134 rfl ?_
                    refine Gw_callV (As := [.int p335942]) (gV_ok D I) (ct_336739_SpillForgeModel_next l hl0 D I γ el P335939 F344382 q335941 p335942 hT344383 htq335941) dr_cX17_colours_135 ⟨wr_11_51, wr_1_14, wr_11_54, by decide, rfl, (Nat.le_of_ble_eq_true rfl), (Nat.le_of_ble_eq_true rfl)⟩ wr_11_53 wr_p_107 hm344394 he344393 rfl (show 0 + 0 ≤ 0 by first | omega | decide) (show 0 + 0 ≤ 0 by first | omega | decide) (Nat.le_of_ble_eq_true rfl) (fun r344414 w344415 dc344411 ds344412 hp344413 => ?_) (fun _ _ _ _ _ z => z.elim)
                    obtain ⟨o344416, rfl, rfl, hdc, hds, bo344416, x344417, x344418⟩ := hp344413
                    change G _ _ _ _ _ _ _ (.int o344416 :: _) _ _ _
                    refine G_widen (cs' := 0) (sl' := 0) (by omega) (by omega) ?_
                    refine G_istore_n (L' := [(3, .int o344416), (4, .int g344381), (2, .int z344282), (0, .ref q335941), (1, .int p335942)]) dr_cX17_colours_138 (Nat.le_of_ble_eq_true rfl) rfl ?_
                    refine G_goto 70 dr_cX17_colours_139 (by decide +kernel) ?_
                    refine G_lv (L' := [(3, .int o344416), (2, .int z344282), (0, .ref q335941), (1, .int p335942)]) [0, 2, 3, 4] rfl ?_
                    exact ih70_343908 F344382 o344416 z344282 bo344416 (gB_w bz344282 (by decide) (by decide)) hT344383 hs344384 (by rw [cB_of he344395, cB_of he344398, cB_of he344401]; exact cq344406) (by rw [cB_of he344398]; exact cq344407) x344417 x344418 x344388 x344389 (by have q := cq344408; rw [cB_of he343917] at q; rw [cB_of he344398]; rw [cB_of he343917] at hm70_343908; omega)
                  · have r344419 : g344381.toInt < 2000 := gj_nleL hc344409 (show Int32.toInt 2000 = 2000 by decide)
                    have bg344381' : gB g344381 0 1999 := ⟨by omega, by omega⟩
                    refine G_aload_n 3 dr_cX17_colours_102 rfl ?_
                    refine Gp_get 1 hm344394 he344393 dr_cX17_colours_103 (gk_X17 D I) (Nat.le_of_ble_eq_true rfl) wr_7_75 rfl ?_
                    refine G_iload_n 2 dr_cX17_colours_106 rfl ?_
                    have hm344420 : (γ 9 1) ∈ P335939 := RS_m hT344383 ht335966 (by decide)
                    obtain ⟨f344422, he344421, hg344423⟩ := show rk_13 I γ (F344382 (γ 9 1)) from RS_o hT344383 ht335966
                    obtain ⟨q344424, hx344426⟩ : ∃ x, x = γ 11 g343898.toInt.toNat := ⟨_, rfl⟩
                    have ht344425 : rKd γ q344424 36 := by rw [hx344426]; exact (hg344423 _ (show g343898.toInt.toNat < 2000 by omega)).2.1
                    refine Gp_aald 5 hm344420 he344421 dr_cX17_colours_107 rfl rfl (gB_in bg343898' (by decide) (by decide)) ?_
                    rw [show f344422 g343898.toNatClampNeg = some q344424 from (hg344423 _ (show g343898.toInt.toNat < 2000 by omega)).1.trans (by rw [hx344426])]
                    change G _ _ _ _ _ _ _ (.ref q344424 :: _) _ _ _
                    refine G_iload 0 dr_cX17_colours_108 rfl ?_
                    have hm344427 : q344424 ∈ P335939 := RS_m hT344383 ht344425 (by decide)
                    obtain ⟨f344429, he344428, wf344429⟩ := show rk_36 I (F344382 q344424) from RS_o hT344383 ht344425
                    refine Gw_callS (As := [.ref q344424, .int g344381]) (gV_ok D I) (cp_1845_SpillForgeModel_has l hl0 D I P335939 F344382 q344424 g344381 f344429 hm344427 he344428 (gB_w bg344381' (by decide) (by decide))) dr_cX17_colours_110 ⟨wr_10_203, wr_1_14, wr_10_205, by decide, rfl, (Nat.le_of_ble_eq_true rfl), (Nat.le_of_ble_eq_true rfl)⟩ wr_10_204 (show 0 + 0 ≤ 0 by first | omega | decide) (show 0 + 0 ≤ 0 by first | omega | decide) (Nat.le_of_ble_eq_true rfl) (fun r344433 w344434 dc344430 ds344431 hp344432 => ?_) (fun _ _ _ _ _ z => z.elim)
                    rcases hp344432 with ⟨z344435, z344436, rfl, rfl, hdc, hds, r344437, r344438, r344439, r344440, r344441⟩ | ⟨z344442, z344443, rfl, rfl, hdc, hds, r344444, r344445, r344446, r344447, r344448⟩
                    · change G _ _ _ _ _ _ _ (.int 0 :: _) _ _ _
                      refine G_widen (cs' := 0) (sl' := 0) (by omega) (by omega) ?_
                      refine G_if_eq 127 dr_cX17_colours_113 (by decide +kernel) (fun _ => ?_) (fun hc => absurd hc (by decide))
                      obtain ⟨z344450, hz344450⟩ : ∃ z : Int32, z = g344381 + Int32.ofInt 1 := ⟨_, rfl⟩
                      have ez344450 : z344450.toInt = g344381.toInt + 1 := gI_inc hz344450 (by decide) bg344381' (by decide) (by decide)
                      have bz344450 : gB z344450 1 2000 := ⟨by omega, by omega⟩
                      refine G_iinc (L' := [(4, .int z344450), (2, .int z344282), (3, .int g343898), (0, .ref q335941), (1, .int p335942)]) z344450 0 dr_cX17_colours_127 rfl hz344450.symm (Nat.le_of_ble_eq_true rfl) rfl ?_
                      refine G_goto 94 dr_cX17_colours_130 (by decide +kernel) ?_
                      exact ih94_344389 F344382 z344450 (gB_w bz344450 (by decide) (by decide)) hT344383 hs344384 (by rw [cB_of he344395, cB_of he344398, cB_of he344401]; exact cq344406) (by rw [cB_of he344398]; exact cq344407) (by rw [cB_of he344398]; exact cq344408) x344388 x344389 (mz_up ez344450 (Int.le_trans bg344381'.2 (by decide)) hm94_344389)
                    · change G _ _ _ _ _ _ _ (.int 1 :: _) _ _ _
                      refine G_widen (cs' := 0) (sl' := 0) (by omega) (by omega) ?_
                      refine G_if_eq 127 dr_cX17_colours_113 (by decide +kernel) (fun hc => absurd hc (by decide)) (fun _ => ?_)
                      refine G_aload_n 3 dr_cX17_colours_116 rfl ?_
                      refine Gp_get 16 hm344394 he344393 dr_cX17_colours_117 (gk_X17 D I) (Nat.le_of_ble_eq_true rfl) wr_7_90 rfl ?_
                      refine G_iload 0 dr_cX17_colours_120 rfl ?_
                      refine G_dup2_11 dr_cX17_colours_122 rfl rfl ?_
                      have hm344451 : (γ 9 16) ∈ P335939 := RS_m hT344383 ht335975 (by decide)
                      obtain ⟨f344453, he344452⟩ := show rk_19 I (F344382 (γ 9 16)) from RS_o hT344383 ht335975
                      refine Gp_iald 0 hm344451 he344452 dr_cX17_colours_123 rfl (gB_in bg344381' (by decide) (by decide)) (G_nam fun z344454 hz344454 => ?_)
                      have bz344454 : gB z344454 (-2147483648) 2147483647 := gB_any z344454
                      refine G_iconst 1 dr_cX17_colours_124 (by decide +kernel) ?_
                      refine G_isub dr_cX17_colours_125 (G_nam fun z344455 hz344455 => ?_)
                      have bz344455 : gB z344455 (-2147483648) 2147483647 := gB_any z344455
                      refine Gp_iast 0 hm344451 he344452 dr_cX17_colours_126 rfl (gB_in bg344381' (by decide) (by decide)) (fun F344456 e344457 n344458 => ?_)
                      obtain ⟨f344459, hf344459⟩ : ∃ z, z = upd f344453 g344381.toNatClampNeg z344455 := ⟨_, rfl⟩
                      rw [← hf344459] at e344457
                      have he344460 : F344456 q335941 = .inr (22, [.ref (γ 9 0), .ref (γ 9 1), .ref (γ 9 2), .ref (γ 9 3), .ref (γ 9 4), .ref (γ 9 5), .ref (γ 9 6), .ref (γ 9 7), .ref (γ 9 8), .int p335948, .int p335949, .int p335950, .int p335951, .int p335952, .int p335953, .ref (γ 9 15), .ref (γ 9 16), .ref (γ 9 17), .ref (γ 9 18), .ref (γ 9 19), .ref (γ 9 20), .ref (γ 9 21), .ref (γ 9 22), .int p335954, .int p335955, .int p335956, .int p335957, .int p335958, .ref q335946, .ref (γ 9 29), .int p335959, .ref (γ 9 31), .int p335960, .int p335961, .int p335962, .ref q335947]) := (n344458 q335941 (rn_oa he344393 he344452)).trans he344393
                      have he344461 : F344456 (γ 9 3) = .inl (I .boolean, 2000, .inl f335993) := (n344458 (γ 9 3) (rn_ty ht335968 ht335975 (by decide))).trans he344395
                      have he344462 : F344456 (γ 9 18) = .inl (I .boolean, 2000, .inl f344399) := (n344458 (γ 9 18) (rn_ty ht335977 ht335975 (by decide))).trans he344398
                      have he344463 : F344456 (γ 9 15) = .inl (I .int, 2000, .inl f344402) := (n344458 (γ 9 15) (rn_ty ht335974 ht335975 (by decide))).trans he344401
                      have he344464 : F344456 (γ 9 17) = .inl (I .int, 2000, .inl f344405) := (n344458 (γ 9 17) (rn_ty ht335976 ht335975 (by decide))).trans he344404
                      have he344465 : F344456 (γ 9 1) = .inl (I (.array .long), 2000, .inr (.inr (.inr (.inr f344422)))) := (n344458 (γ 9 1) (rn_ref_num he344421 he344452)).trans he344421
                      have he344466 : F344456 q344424 = .inl (I .long, 32, .inr (.inl f344429)) := (n344458 q344424 (rn_long_num he344428 he344452)).trans he344428
                      have he344467 : F344456 (γ 9 16) = .inl (I .int, 2000, .inl f344459) := e344457
                      have hs344468 : rStr γ [] F335940 F344456 := rStr_put hs344384 n344458 ht335975 (by decide)
                      have kp344469 : F344456 q335941 = F335940 q335941 := (n344458 q335941 (rn_ty htq335941 ht335975 (by decide))).trans x344388
                      have kp344470 : F344456 (γ 9 3) = F335940 (γ 9 3) := (n344458 (γ 9 3) (rn_ty ht335968 ht335975 (by decide))).trans x344389
                      obtain ⟨z344471, hz344471⟩ : ∃ z : Int32, z = g344381 + Int32.ofInt 1 := ⟨_, rfl⟩
                      have ez344471 : z344471.toInt = g344381.toInt + 1 := gI_inc hz344471 (by decide) bg344381' (by decide) (by decide)
                      have bz344471 : gB z344471 1 2000 := ⟨by omega, by omega⟩
                      refine G_iinc (L' := [(4, .int z344471), (2, .int z344282), (3, .int g343898), (0, .ref q335941), (1, .int p335942)]) z344471 0 dr_cX17_colours_127 rfl hz344471.symm (Nat.le_of_ble_eq_true rfl) rfl ?_
                      refine G_goto 94 dr_cX17_colours_130 (by decide +kernel) ?_
                      have hT344472 : RS D I P335939 F344456 γ el := RS_set hT344383 n344458 ht335975 (by decide) ⟨f344459, he344467⟩
                      exact ih94_344389 F344456 z344471 (gB_w bz344471 (by decide) (by decide)) hT344472 hs344468 (by rw [cB_of he344461, cB_of he344462, cB_of he344463]; exact cq344406) (by rw [cB_of he344462]; exact cq344407) (by rw [cB_of he344462]; exact cq344408) kp344469 kp344470 (mz_up ez344471 (Int.le_trans bg344381'.2 (by decide)) hm94_344389)
              exact hlp94_344389 (((2001 : Int) - 0).toNat + 1) F344284 0 (gB_w (gBl (show Int32.toInt 0 = 0 by decide)) (by decide) (by decide)) hT344297 hs344293 (by rw [ez344282]; rw [cB_of he344289, cB_of he344292, cB_of he344290]; exact pi_u hf344287 hf344273 (by omega) (by omega) cq343925) (by rw [cB_of he344292]; have q := td344296; have q2 := cq343926; omega) (by rw [cB_of he344292]; rw [cB_of he343917]; have q := td344296; omega) kp344294 kp344295 (Nat.lt_succ_self _)
        exact hlp70_343908 ((rcn (cB (F343306 (γ 9 18))) 2000) + 1) F343306 o343336 0 bo343336 (gB_w (gBl (show Int32.toInt 0 = 0 by decide)) (by decide) (by decide)) hT343307 hs343308 (by rw [cB_of he343317, cB_of he343320, cB_of he343323]; exact fun m s => Or.inl (cq343328 m (by have := s.1; omega) s)) (by have q := rcn_le (g := cB (F343306 (γ 9 18))) 2000; have qa : Int32.toInt 0 = 0 := (by decide); omega) x343337 x343338 x343310 x343311 (Nat.lt_succ_self _)
      · have r344473 : g343305.toInt < 2000 := gj_nleL hc343329 (show Int32.toInt 2000 = 2000 by decide)
        have bg343305' : gB g343305 0 1999 := ⟨by omega, by omega⟩
        refine G_aload_n 1 dr_cX17_colours_9 rfl ?_
        refine Gp_get 18 hm343316 he343315 dr_cX17_colours_10 (gk_X17 D I) (Nat.le_of_ble_eq_true rfl) wr_7_92 rfl ?_
        refine G_iload_n 0 dr_cX17_colours_13 rfl ?_
        refine G_aload_n 1 dr_cX17_colours_14 rfl ?_
        refine Gp_get 3 hm343316 he343315 dr_cX17_colours_15 (gk_X17 D I) (Nat.le_of_ble_eq_true rfl) wr_7_77 rfl ?_
        refine G_iload_n 0 dr_cX17_colours_18 rfl ?_
        refine Gp_zald 3 hm343318 he343317 dr_cX17_colours_19 rfl (gB_in bg343305' (by decide) (by decide)) (G_nam fun z344474 hz344474 => ?_)
        have bz344474 : gB z344474 0 1 := by rw [hz344474]; exact bf335993 _
        refine Gp_zast 3 hm343319 he343320 dr_cX17_colours_20 rfl (gB_in bg343305' (by decide) (by decide)) (fun F344475 e344476 n344477 => ?_)
        obtain ⟨f344478, hf344478⟩ : ∃ z, z = upd f343321 g343305.toNatClampNeg (vp_nar .boolean z344474) := ⟨_, rfl⟩
        rw [← hf344478] at e344476
        have he344479 : F344475 q335941 = .inr (22, [.ref (γ 9 0), .ref (γ 9 1), .ref (γ 9 2), .ref (γ 9 3), .ref (γ 9 4), .ref (γ 9 5), .ref (γ 9 6), .ref (γ 9 7), .ref (γ 9 8), .int p335948, .int p335949, .int p335950, .int p335951, .int p335952, .int p335953, .ref (γ 9 15), .ref (γ 9 16), .ref (γ 9 17), .ref (γ 9 18), .ref (γ 9 19), .ref (γ 9 20), .ref (γ 9 21), .ref (γ 9 22), .int p335954, .int p335955, .int p335956, .int p335957, .int p335958, .ref q335946, .ref (γ 9 29), .int p335959, .ref (γ 9 31), .int p335960, .int p335961, .int p335962, .ref q335947]) := (n344477 q335941 (rn_oa he343315 he343320)).trans he343315
        have he344480 : F344475 (γ 9 3) = .inl (I .boolean, 2000, .inl f335993) := (n344477 (γ 9 3) (rn_ty ht335968 ht335977 (by decide))).trans he343317
        have he344481 : F344475 (γ 9 15) = .inl (I .int, 2000, .inl f343324) := (n344477 (γ 9 15) (rn_ty ht335974 ht335977 (by decide))).trans he343323
        have he344482 : F344475 (γ 9 17) = .inl (I .int, 2000, .inl f343327) := (n344477 (γ 9 17) (rn_ty ht335976 ht335977 (by decide))).trans he343326
        have he344483 : F344475 (γ 9 18) = .inl (I .boolean, 2000, .inl f344478) := e344476
        have hs344484 : rStr γ [] F335940 F344475 := rStr_put hs343308 n344477 ht335977 (by decide)
        have kp344485 : F344475 q335941 = F335940 q335941 := (n344477 q335941 (rn_ty htq335941 ht335977 (by decide))).trans x343310
        have kp344486 : F344475 (γ 9 3) = F335940 (γ 9 3) := (n344477 (γ 9 3) (rn_ty ht335968 ht335977 (by decide))).trans x343311
        have bf344478 : gF f344478 0 1 := gF_upd hf344478 bf343321 (gB_nb bz344474)
        refine G_aload_n 1 dr_cX17_colours_21 rfl ?_
        refine Gp_get 16 hm343316 he344479 dr_cX17_colours_22 (gk_X17 D I) (Nat.le_of_ble_eq_true rfl) wr_7_90 rfl ?_
        refine G_iload_n 0 dr_cX17_colours_25 rfl ?_
        refine G_aload_n 1 dr_cX17_colours_26 rfl ?_
        refine Gp_get 3 hm343316 he344479 dr_cX17_colours_27 (gk_X17 D I) (Nat.le_of_ble_eq_true rfl) wr_7_77 rfl ?_
        refine G_iload_n 0 dr_cX17_colours_30 rfl ?_
        refine Gp_zald 3 hm343318 he344480 dr_cX17_colours_31 rfl (gB_in bg343305' (by decide) (by decide)) (G_eqi (y := z344474) hz344474.symm ?_)
        refine G_if_eq 47 dr_cX17_colours_32 (by decide +kernel) (fun hc344487 => ?_) (fun hc344487 => ?_)
        · have r344488 : z344474.toInt = 0 := gj_eq hc344487 (show Int32.toInt 0 = 0 by decide)
          have bz344474' : gB z344474 0 0 := gB_t0 r344488
          refine G_iconst 0 dr_cX17_colours_47 (by decide +kernel) ?_
          have hT344489 : RS D I P335939 F344475 γ el := RS_set hT343307 n344477 ht335977 (by decide) ⟨f344478, he344483, bf344478⟩
          have hm344490 : (γ 9 16) ∈ P335939 := RS_m hT344489 ht335975 (by decide)
          obtain ⟨f344492, he344491⟩ := show rk_19 I (F344475 (γ 9 16)) from RS_o hT344489 ht335975
          refine Gp_iast 0 hm344490 he344491 dr_cX17_colours_48 rfl (gB_in bg343305' (by decide) (by decide)) (fun F344493 e344494 n344495 => ?_)
          obtain ⟨f344496, hf344496⟩ : ∃ z, z = upd f344492 g343305.toNatClampNeg 0 := ⟨_, rfl⟩
          rw [← hf344496] at e344494
          have he344497 : F344493 q335941 = .inr (22, [.ref (γ 9 0), .ref (γ 9 1), .ref (γ 9 2), .ref (γ 9 3), .ref (γ 9 4), .ref (γ 9 5), .ref (γ 9 6), .ref (γ 9 7), .ref (γ 9 8), .int p335948, .int p335949, .int p335950, .int p335951, .int p335952, .int p335953, .ref (γ 9 15), .ref (γ 9 16), .ref (γ 9 17), .ref (γ 9 18), .ref (γ 9 19), .ref (γ 9 20), .ref (γ 9 21), .ref (γ 9 22), .int p335954, .int p335955, .int p335956, .int p335957, .int p335958, .ref q335946, .ref (γ 9 29), .int p335959, .ref (γ 9 31), .int p335960, .int p335961, .int p335962, .ref q335947]) := (n344495 q335941 (rn_oa he344479 he344491)).trans he344479
          have he344498 : F344493 (γ 9 3) = .inl (I .boolean, 2000, .inl f335993) := (n344495 (γ 9 3) (rn_ty ht335968 ht335975 (by decide))).trans he344480
          have he344499 : F344493 (γ 9 18) = .inl (I .boolean, 2000, .inl f344478) := (n344495 (γ 9 18) (rn_ty ht335977 ht335975 (by decide))).trans he344483
          have he344500 : F344493 (γ 9 15) = .inl (I .int, 2000, .inl f343324) := (n344495 (γ 9 15) (rn_ty ht335974 ht335975 (by decide))).trans he344481
          have he344501 : F344493 (γ 9 17) = .inl (I .int, 2000, .inl f343327) := (n344495 (γ 9 17) (rn_ty ht335976 ht335975 (by decide))).trans he344482
          have he344502 : F344493 (γ 9 16) = .inl (I .int, 2000, .inl f344496) := e344494
          have hs344503 : rStr γ [] F335940 F344493 := rStr_put hs344484 n344495 ht335975 (by decide)
          have kp344504 : F344493 q335941 = F335940 q335941 := (n344495 q335941 (rn_ty htq335941 ht335975 (by decide))).trans kp344485
          have kp344505 : F344493 (γ 9 3) = F335940 (γ 9 3) := (n344495 (γ 9 3) (rn_ty ht335968 ht335975 (by decide))).trans kp344486
          refine G_aload_n 1 dr_cX17_colours_49 rfl ?_
          refine Gp_get 17 hm343316 he344497 dr_cX17_colours_50 (gk_X17 D I) (Nat.le_of_ble_eq_true rfl) wr_7_91 rfl ?_
          refine G_iload_n 0 dr_cX17_colours_53 rfl ?_
          refine G_iconst (-1) dr_cX17_colours_54 (by decide +kernel) ?_
          have hT344506 : RS D I P335939 F344493 γ el := RS_set hT344489 n344495 ht335975 (by decide) ⟨f344496, he344502⟩
          refine Gp_iast 0 hm343325 he344501 dr_cX17_colours_55 rfl (gB_in bg343305' (by decide) (by decide)) (fun F344507 e344508 n344509 => ?_)
          obtain ⟨f344510, hf344510⟩ : ∃ z, z = upd f343327 g343305.toNatClampNeg (-1) := ⟨_, rfl⟩
          rw [← hf344510] at e344508
          have he344511 : F344507 q335941 = .inr (22, [.ref (γ 9 0), .ref (γ 9 1), .ref (γ 9 2), .ref (γ 9 3), .ref (γ 9 4), .ref (γ 9 5), .ref (γ 9 6), .ref (γ 9 7), .ref (γ 9 8), .int p335948, .int p335949, .int p335950, .int p335951, .int p335952, .int p335953, .ref (γ 9 15), .ref (γ 9 16), .ref (γ 9 17), .ref (γ 9 18), .ref (γ 9 19), .ref (γ 9 20), .ref (γ 9 21), .ref (γ 9 22), .int p335954, .int p335955, .int p335956, .int p335957, .int p335958, .ref q335946, .ref (γ 9 29), .int p335959, .ref (γ 9 31), .int p335960, .int p335961, .int p335962, .ref q335947]) := (n344509 q335941 (rn_oa he344497 he344501)).trans he344497
          have he344512 : F344507 (γ 9 3) = .inl (I .boolean, 2000, .inl f335993) := (n344509 (γ 9 3) (rn_ty ht335968 ht335976 (by decide))).trans he344498
          have he344513 : F344507 (γ 9 18) = .inl (I .boolean, 2000, .inl f344478) := (n344509 (γ 9 18) (rn_ty ht335977 ht335976 (by decide))).trans he344499
          have he344514 : F344507 (γ 9 15) = .inl (I .int, 2000, .inl f343324) := (n344509 (γ 9 15) (rn_ty ht335974 ht335976 (by decide))).trans he344500
          have he344515 : F344507 (γ 9 16) = .inl (I .int, 2000, .inl f344496) := (n344509 (γ 9 16) (rn_ty ht335975 ht335976 (by decide))).trans he344502
          have he344516 : F344507 (γ 9 17) = .inl (I .int, 2000, .inl f344510) := e344508
          have hs344517 : rStr γ [] F335940 F344507 := rStr_put hs344503 n344509 ht335976 (by decide)
          have kp344518 : F344507 q335941 = F335940 q335941 := (n344509 q335941 (rn_ty htq335941 ht335976 (by decide))).trans kp344504
          have kp344519 : F344507 (γ 9 3) = F335940 (γ 9 3) := (n344509 (γ 9 3) (rn_ty ht335968 ht335976 (by decide))).trans kp344505
          have bf344510 : gF f344510 (-1) 31 := gF_upd hf344510 bf343327 (gB_w (gBl (show Int32.toInt (-1) = (-1) by decide)) (by decide) (by decide))
          obtain ⟨z344520, hz344520⟩ : ∃ z : Int32, z = g343305 + Int32.ofInt 1 := ⟨_, rfl⟩
          have ez344520 : z344520.toInt = g343305.toInt + 1 := gI_inc hz344520 (by decide) bg343305' (by decide) (by decide)
          have bz344520 : gB z344520 1 2000 := ⟨by omega, by omega⟩
          refine G_iinc (L' := [(2, .int z344520), (0, .ref q335941), (1, .int p335942)]) z344520 0 dr_cX17_colours_56 rfl hz344520.symm (Nat.le_of_ble_eq_true rfl) rfl ?_
          refine G_goto 2 dr_cX17_colours_59 (by decide +kernel) ?_
          have hT344521 : RS D I P335939 F344507 γ el := RS_set hT344506 n344509 ht335976 (by decide) ⟨f344510, he344516, bf344510⟩
          exact ih2_343311 F344507 z344520 (gB_w bz344520 (by decide) (by decide)) hT344521 hs344517 (by rw [ez344520]; rw [cB_of he344512, cB_of he344513]; exact th_u hf344478 hz344474 (by assumption) (by omega) cq343328) kp344518 kp344519 (mz_up ez344520 (Int.le_trans bg343305'.2 (by decide)) hm2_343311)
        · have r344522 : z344474.toInt ≠ 0 := gj_neq hc344487 (show Int32.toInt 0 = 0 by decide)
          have bz344474' : gB z344474 1 1 := gB_t1 bz344474 r344522
          refine G_aload_n 1 dr_cX17_colours_35 rfl ?_
          refine Gp_get 1 hm343316 he344479 dr_cX17_colours_36 (gk_X17 D I) (Nat.le_of_ble_eq_true rfl) wr_7_75 rfl ?_
          refine G_iload_n 0 dr_cX17_colours_39 rfl ?_
          have hT344523 : RS D I P335939 F344475 γ el := RS_set hT343307 n344477 ht335977 (by decide) ⟨f344478, he344483, bf344478⟩
          have hm344524 : (γ 9 1) ∈ P335939 := RS_m hT344523 ht335966 (by decide)
          obtain ⟨f344526, he344525, hg344527⟩ := show rk_13 I γ (F344475 (γ 9 1)) from RS_o hT344523 ht335966
          obtain ⟨q344528, hx344530⟩ : ∃ x, x = γ 11 g343305.toInt.toNat := ⟨_, rfl⟩
          have ht344529 : rKd γ q344528 36 := by rw [hx344530]; exact (hg344527 _ (show g343305.toInt.toNat < 2000 by omega)).2.1
          refine Gp_aald 5 hm344524 he344525 dr_cX17_colours_40 rfl rfl (gB_in bg343305' (by decide) (by decide)) ?_
          rw [show f344526 g343305.toNatClampNeg = some q344528 from (hg344527 _ (show g343305.toInt.toNat < 2000 by omega)).1.trans (by rw [hx344530])]
          change G _ _ _ _ _ _ _ (.ref q344528 :: _) _ _ _
          have hm344531 : q344528 ∈ P335939 := RS_m hT344523 ht344529 (by decide)
          obtain ⟨f344533, he344532, wf344533⟩ := show rk_36 I (F344475 q344528) from RS_o hT344523 ht344529
          refine Gw_callS (As := [.ref q344528]) (gV_ok D I) (cp_1899_SpillForgeModel_count l hl0 D I P335939 F344475 q344528 f344533 hm344531 he344532) dr_cX17_colours_41 ⟨wr_11_16, wr_1_14, wr_11_18, by decide, rfl, (Nat.le_of_ble_eq_true rfl), (Nat.le_of_ble_eq_true rfl)⟩ wr_11_17 (show 0 + 0 ≤ 0 by first | omega | decide) (show 0 + 0 ≤ 0 by first | omega | decide) (Nat.le_of_ble_eq_true rfl) (fun r344537 w344538 dc344534 ds344535 hp344536 => ?_) (fun _ _ _ _ _ z => z.elim)
          obtain ⟨o344539, rfl, rfl, hdc, hds, ht344540⟩ := hp344536
          have bo344539 := gB_any o344539
          change G _ _ _ _ _ _ _ (.int o344539 :: _) _ _ _
          refine G_widen (cs' := 0) (sl' := 0) (by omega) (by omega) ?_
          refine G_goto 48 dr_cX17_colours_44 (by decide +kernel) ?_
          have hm344541 : (γ 9 16) ∈ P335939 := RS_m hT344523 ht335975 (by decide)
          obtain ⟨f344543, he344542⟩ := show rk_19 I (F344475 (γ 9 16)) from RS_o hT344523 ht335975
          refine Gp_iast 0 hm344541 he344542 dr_cX17_colours_48 rfl (gB_in bg343305' (by decide) (by decide)) (fun F344544 e344545 n344546 => ?_)
          obtain ⟨f344547, hf344547⟩ : ∃ z, z = upd f344543 g343305.toNatClampNeg o344539 := ⟨_, rfl⟩
          rw [← hf344547] at e344545
          have he344548 : F344544 q335941 = .inr (22, [.ref (γ 9 0), .ref (γ 9 1), .ref (γ 9 2), .ref (γ 9 3), .ref (γ 9 4), .ref (γ 9 5), .ref (γ 9 6), .ref (γ 9 7), .ref (γ 9 8), .int p335948, .int p335949, .int p335950, .int p335951, .int p335952, .int p335953, .ref (γ 9 15), .ref (γ 9 16), .ref (γ 9 17), .ref (γ 9 18), .ref (γ 9 19), .ref (γ 9 20), .ref (γ 9 21), .ref (γ 9 22), .int p335954, .int p335955, .int p335956, .int p335957, .int p335958, .ref q335946, .ref (γ 9 29), .int p335959, .ref (γ 9 31), .int p335960, .int p335961, .int p335962, .ref q335947]) := (n344546 q335941 (rn_oa he344479 he344542)).trans he344479
          have he344549 : F344544 (γ 9 3) = .inl (I .boolean, 2000, .inl f335993) := (n344546 (γ 9 3) (rn_ty ht335968 ht335975 (by decide))).trans he344480
          have he344550 : F344544 (γ 9 18) = .inl (I .boolean, 2000, .inl f344478) := (n344546 (γ 9 18) (rn_ty ht335977 ht335975 (by decide))).trans he344483
          have he344551 : F344544 (γ 9 15) = .inl (I .int, 2000, .inl f343324) := (n344546 (γ 9 15) (rn_ty ht335974 ht335975 (by decide))).trans he344481
          have he344552 : F344544 (γ 9 17) = .inl (I .int, 2000, .inl f343327) := (n344546 (γ 9 17) (rn_ty ht335976 ht335975 (by decide))).trans he344482
          have he344553 : F344544 (γ 9 1) = .inl (I (.array .long), 2000, .inr (.inr (.inr (.inr f344526)))) := (n344546 (γ 9 1) (rn_ref_num he344525 he344542)).trans he344525
          have he344554 : F344544 q344528 = .inl (I .long, 32, .inr (.inl f344533)) := (n344546 q344528 (rn_long_num he344532 he344542)).trans he344532
          have he344555 : F344544 (γ 9 16) = .inl (I .int, 2000, .inl f344547) := e344545
          have hs344556 : rStr γ [] F335940 F344544 := rStr_put hs344484 n344546 ht335975 (by decide)
          have kp344557 : F344544 q335941 = F335940 q335941 := (n344546 q335941 (rn_ty htq335941 ht335975 (by decide))).trans kp344485
          have kp344558 : F344544 (γ 9 3) = F335940 (γ 9 3) := (n344546 (γ 9 3) (rn_ty ht335968 ht335975 (by decide))).trans kp344486
          refine G_aload_n 1 dr_cX17_colours_49 rfl ?_
          refine Gp_get 17 hm343316 he344548 dr_cX17_colours_50 (gk_X17 D I) (Nat.le_of_ble_eq_true rfl) wr_7_91 rfl ?_
          refine G_iload_n 0 dr_cX17_colours_53 rfl ?_
          refine G_iconst (-1) dr_cX17_colours_54 (by decide +kernel) ?_
          have hT344559 : RS D I P335939 F344544 γ el := RS_set hT344523 n344546 ht335975 (by decide) ⟨f344547, he344555⟩
          refine Gp_iast 0 hm343325 he344552 dr_cX17_colours_55 rfl (gB_in bg343305' (by decide) (by decide)) (fun F344560 e344561 n344562 => ?_)
          obtain ⟨f344563, hf344563⟩ : ∃ z, z = upd f343327 g343305.toNatClampNeg (-1) := ⟨_, rfl⟩
          rw [← hf344563] at e344561
          have he344564 : F344560 q335941 = .inr (22, [.ref (γ 9 0), .ref (γ 9 1), .ref (γ 9 2), .ref (γ 9 3), .ref (γ 9 4), .ref (γ 9 5), .ref (γ 9 6), .ref (γ 9 7), .ref (γ 9 8), .int p335948, .int p335949, .int p335950, .int p335951, .int p335952, .int p335953, .ref (γ 9 15), .ref (γ 9 16), .ref (γ 9 17), .ref (γ 9 18), .ref (γ 9 19), .ref (γ 9 20), .ref (γ 9 21), .ref (γ 9 22), .int p335954, .int p335955, .int p335956, .int p335957, .int p335958, .ref q335946, .ref (γ 9 29), .int p335959, .ref (γ 9 31), .int p335960, .int p335961, .int p335962, .ref q335947]) := (n344562 q335941 (rn_oa he344548 he344552)).trans he344548
          have he344565 : F344560 (γ 9 3) = .inl (I .boolean, 2000, .inl f335993) := (n344562 (γ 9 3) (rn_ty ht335968 ht335976 (by decide))).trans he344549
          have he344566 : F344560 (γ 9 18) = .inl (I .boolean, 2000, .inl f344478) := (n344562 (γ 9 18) (rn_ty ht335977 ht335976 (by decide))).trans he344550
          have he344567 : F344560 (γ 9 15) = .inl (I .int, 2000, .inl f343324) := (n344562 (γ 9 15) (rn_ty ht335974 ht335976 (by decide))).trans he344551
          have he344568 : F344560 (γ 9 1) = .inl (I (.array .long), 2000, .inr (.inr (.inr (.inr f344526)))) := (n344562 (γ 9 1) (rn_ref_num he344553 he344552)).trans he344553
          have he344569 : F344560 q344528 = .inl (I .long, 32, .inr (.inl f344533)) := (n344562 q344528 (rn_long_num he344554 he344552)).trans he344554
          have he344570 : F344560 (γ 9 16) = .inl (I .int, 2000, .inl f344547) := (n344562 (γ 9 16) (rn_ty ht335975 ht335976 (by decide))).trans he344555
          have he344571 : F344560 (γ 9 17) = .inl (I .int, 2000, .inl f344563) := e344561
          have hs344572 : rStr γ [] F335940 F344560 := rStr_put hs344556 n344562 ht335976 (by decide)
          have kp344573 : F344560 q335941 = F335940 q335941 := (n344562 q335941 (rn_ty htq335941 ht335976 (by decide))).trans kp344557
          have kp344574 : F344560 (γ 9 3) = F335940 (γ 9 3) := (n344562 (γ 9 3) (rn_ty ht335968 ht335976 (by decide))).trans kp344558
          have bf344563 : gF f344563 (-1) 31 := gF_upd hf344563 bf343327 (gB_w (gBl (show Int32.toInt (-1) = (-1) by decide)) (by decide) (by decide))
          obtain ⟨z344575, hz344575⟩ : ∃ z : Int32, z = g343305 + Int32.ofInt 1 := ⟨_, rfl⟩
          have ez344575 : z344575.toInt = g343305.toInt + 1 := gI_inc hz344575 (by decide) bg343305' (by decide) (by decide)
          have bz344575 : gB z344575 1 2000 := ⟨by omega, by omega⟩
          refine G_iinc (L' := [(2, .int z344575), (0, .ref q335941), (1, .int p335942)]) z344575 0 dr_cX17_colours_56 rfl hz344575.symm (Nat.le_of_ble_eq_true rfl) rfl ?_
          refine G_goto 2 dr_cX17_colours_59 (by decide +kernel) ?_
          have hT344576 : RS D I P335939 F344560 γ el := RS_set hT344559 n344562 ht335976 (by decide) ⟨f344563, he344571, bf344563⟩
          exact ih2_343311 F344560 z344575 (gB_w bz344575 (by decide) (by decide)) hT344576 hs344572 (by rw [ez344575]; rw [cB_of he344565, cB_of he344566]; exact th_u hf344478 hz344474 (by assumption) (by omega) cq343328) kp344573 kp344574 (mz_up ez344575 (Int.le_trans bg343305'.2 (by decide)) hm2_343311)
  exact hlp2_343311 (((2001 : Int) - 0).toNat + 1) F335940 0 (gB_w (gBl (show Int32.toInt 0 = 0 by decide)) (by decide) (by decide)) hT (rStr_rf (γ := γ) (W := []) (F := F335940)) (fun m hm => absurd hm (by have qa : Int32.toInt 0 = 0 := (by decide); omega)) rfl rfl (Nat.lt_succ_self _)
