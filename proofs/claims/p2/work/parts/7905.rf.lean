theorem dr_cX17_colours_0 : decode cX17_colours 0 = .ok (.iconst 0, 1) := by decide +kernel
theorem dr_cX17_colours_1 : decode cX17_colours 1 = .ok (.istore_n 2, 1) := by decide +kernel
theorem dr_cX17_colours_2 : decode cX17_colours 2 = .ok (.iload_n 2, 1) := by decide +kernel
theorem dr_cX17_colours_3 : decode cX17_colours 3 = .ok (.sipush 2000, 3) := by decide +kernel
theorem dr_cX17_colours_6 : decode cX17_colours 6 = .ok (.if_icmp .ge 56, 3) := by decide +kernel
theorem dr_cX17_colours_62 : decode cX17_colours 62 = .ok (.iconst 0, 1) := by decide +kernel
theorem dr_cX17_colours_63 : decode cX17_colours 63 = .ok (.istore_n 2, 1) := by decide +kernel
theorem dr_cX17_colours_64 : decode cX17_colours 64 = .ok (.aload_n 0, 1) := by decide +kernel
theorem dr_cX17_colours_65 : decode cX17_colours 65 = .ok (.iload_n 1, 1) := by decide +kernel
theorem dr_cX17_colours_66 : decode cX17_colours 66 = .ok (.invokevirtual 215, 3) := by decide +kernel
theorem wr_11_51 : (Jvm.Cond.methodLink "SpillForgeModel" (215 : Nat) ({ cls := "SpillForgeModel", name := "next", desc := "(I)I" } : Jvm.MethodName)) ∈ gw := gw_11 51 rfl rfl
theorem wr_11_54 : (Jvm.Cond.code ({ cls := "SpillForgeModel", name := "next", desc := "(I)I" } : Jvm.MethodName) prog_14_method_20_code (7 : Nat) (Option.some Jvm.ClassFile.FieldType.int)) ∈ gw := gw_11 54 rfl rfl
theorem wr_11_53 : (Jvm.Cond.instanceMethod ({ cls := "SpillForgeModel", name := "next", desc := "(I)I" } : Jvm.MethodName)) ∈ gw := gw_11 53 rfl rfl
theorem wr_p_107 : Cond.selects "SpillForgeModel" ⟨"SpillForgeModel", "next", "(I)I"⟩ ⟨"SpillForgeModel", "next", "(I)I"⟩ ∈ gw := gw_p _ 107 rfl rfl rfl
theorem dr_cX17_colours_69 : decode cX17_colours 69 = .ok (.istore_n 3, 1) := by decide +kernel
theorem dr_cX17_colours_70 : decode cX17_colours 70 = .ok (.iload_n 3, 1) := by decide +kernel
theorem dr_cX17_colours_71 : decode cX17_colours 71 = .ok (.ifCond .lt 71, 3) := by decide +kernel
theorem dr_cX17_colours_142 : decode cX17_colours 142 = .ok (.iconst 0, 1) := by decide +kernel
theorem dr_cX17_colours_143 : decode cX17_colours 143 = .ok (.istore_n 3, 1) := by decide +kernel
theorem dr_cX17_colours_144 : decode cX17_colours 144 = .ok (.iload_n 2, 1) := by decide +kernel
theorem dr_cX17_colours_145 : decode cX17_colours 145 = .ok (.ifCond .le 108, 3) := by decide +kernel
theorem dr_cX17_colours_253 : decode cX17_colours 253 = .ok (.iload_n 3, 1) := by decide +kernel
theorem dr_cX17_colours_254 : decode cX17_colours 254 = .ok (.ireturn, 1) := by decide +kernel
theorem dr_cX17_colours_148 : decode cX17_colours 148 = .ok (.iinc 2 (-1), 3) := by decide +kernel
theorem dr_cX17_colours_151 : decode cX17_colours 151 = .ok (.aload_n 0, 1) := by decide +kernel
theorem dr_cX17_colours_152 : decode cX17_colours 152 = .ok (.getfield 218, 3) := by decide +kernel
theorem wr_7_89 : (Jvm.Cond.fieldLink "SpillForgeModel" (218 : Nat) "SpillForgeModel" "pile" "[I") ∈ gw := gw_7 89 rfl rfl
theorem dr_cX17_colours_155 : decode cX17_colours 155 = .ok (.iload_n 2, 1) := by decide +kernel
theorem dr_cX17_colours_156 : decode cX17_colours 156 = .ok (.iaload, 1) := by decide +kernel
theorem dr_cX17_colours_157 : decode cX17_colours 157 = .ok (.istore 4, 2) := by decide +kernel
theorem dr_cX17_colours_159 : decode cX17_colours 159 = .ok (.lconst 0, 1) := by decide +kernel
theorem dr_cX17_colours_160 : decode cX17_colours 160 = .ok (.lstore 5, 2) := by decide +kernel
theorem dr_cX17_colours_162 : decode cX17_colours 162 = .ok (.iconst 0, 1) := by decide +kernel
theorem dr_cX17_colours_163 : decode cX17_colours 163 = .ok (.istore 7, 2) := by decide +kernel
theorem dr_cX17_colours_165 : decode cX17_colours 165 = .ok (.iload 7, 2) := by decide +kernel
theorem dr_cX17_colours_167 : decode cX17_colours 167 = .ok (.sipush 2000, 3) := by decide +kernel
theorem dr_cX17_colours_170 : decode cX17_colours 170 = .ok (.if_icmp .ge 48, 3) := by decide +kernel
theorem dr_cX17_colours_218 : decode cX17_colours 218 = .ok (.lload 5, 2) := by decide +kernel
theorem dr_cX17_colours_220 : decode cX17_colours 220 = .ok (.ldc2_w 31, 3) := by decide +kernel
theorem dr_cX17_colours_223 : decode cX17_colours 223 = .ok (.lxor, 1) := by decide +kernel
theorem dr_cX17_colours_224 : decode cX17_colours 224 = .ok (.invokestatic 149, 3) := by decide +kernel
theorem dr_cX17_colours_227 : decode cX17_colours 227 = .ok (.istore 7, 2) := by decide +kernel
theorem dr_cX17_colours_229 : decode cX17_colours 229 = .ok (.iload 7, 2) := by decide +kernel
theorem dr_cX17_colours_231 : decode cX17_colours 231 = .ok (.iload_n 1, 1) := by decide +kernel
theorem dr_cX17_colours_232 : decode cX17_colours 232 = .ok (.if_icmp .ge 15, 3) := by decide +kernel
theorem dr_cX17_colours_247 : decode cX17_colours 247 = .ok (.iinc 3 1, 3) := by decide +kernel
theorem dr_cX17_colours_250 : decode cX17_colours 250 = .ok (.goto (-106), 3) := by decide +kernel
theorem dr_cX17_colours_235 : decode cX17_colours 235 = .ok (.aload_n 0, 1) := by decide +kernel
theorem dr_cX17_colours_236 : decode cX17_colours 236 = .ok (.getfield 212, 3) := by decide +kernel
theorem wr_7_91 : (Jvm.Cond.fieldLink "SpillForgeModel" (212 : Nat) "SpillForgeModel" "colour" "[I") ∈ gw := gw_7 91 rfl rfl
theorem dr_cX17_colours_239 : decode cX17_colours 239 = .ok (.iload 4, 2) := by decide +kernel
theorem dr_cX17_colours_241 : decode cX17_colours 241 = .ok (.iload 7, 2) := by decide +kernel
theorem dr_cX17_colours_243 : decode cX17_colours 243 = .ok (.iastore, 1) := by decide +kernel
theorem dr_cX17_colours_244 : decode cX17_colours 244 = .ok (.goto 6, 3) := by decide +kernel
theorem dr_cX17_colours_173 : decode cX17_colours 173 = .ok (.aload_n 0, 1) := by decide +kernel
theorem dr_cX17_colours_174 : decode cX17_colours 174 = .ok (.getfield 212, 3) := by decide +kernel
theorem dr_cX17_colours_177 : decode cX17_colours 177 = .ok (.iload 7, 2) := by decide +kernel
theorem dr_cX17_colours_179 : decode cX17_colours 179 = .ok (.iaload, 1) := by decide +kernel
theorem dr_cX17_colours_180 : decode cX17_colours 180 = .ok (.ifCond .lt 32, 3) := by decide +kernel
theorem dr_cX17_colours_212 : decode cX17_colours 212 = .ok (.iinc 7 1, 3) := by decide +kernel
theorem dr_cX17_colours_215 : decode cX17_colours 215 = .ok (.goto (-50), 3) := by decide +kernel
theorem dr_cX17_colours_183 : decode cX17_colours 183 = .ok (.aload_n 0, 1) := by decide +kernel
theorem dr_cX17_colours_184 : decode cX17_colours 184 = .ok (.getfield 135, 3) := by decide +kernel
theorem dr_cX17_colours_187 : decode cX17_colours 187 = .ok (.iload 4, 2) := by decide +kernel
theorem dr_cX17_colours_189 : decode cX17_colours 189 = .ok (.aaload, 1) := by decide +kernel
theorem dr_cX17_colours_190 : decode cX17_colours 190 = .ok (.iload 7, 2) := by decide +kernel
theorem dr_cX17_colours_192 : decode cX17_colours 192 = .ok (.invokestatic 145, 3) := by decide +kernel
theorem dr_cX17_colours_195 : decode cX17_colours 195 = .ok (.ifCond .eq 17, 3) := by decide +kernel
theorem dr_cX17_colours_198 : decode cX17_colours 198 = .ok (.lload 5, 2) := by decide +kernel
theorem dr_cX17_colours_200 : decode cX17_colours 200 = .ok (.lconst 1, 1) := by decide +kernel
theorem dr_cX17_colours_201 : decode cX17_colours 201 = .ok (.aload_n 0, 1) := by decide +kernel
theorem dr_cX17_colours_202 : decode cX17_colours 202 = .ok (.getfield 212, 3) := by decide +kernel
theorem dr_cX17_colours_205 : decode cX17_colours 205 = .ok (.iload 7, 2) := by decide +kernel
theorem dr_cX17_colours_207 : decode cX17_colours 207 = .ok (.iaload, 1) := by decide +kernel
theorem dr_cX17_colours_208 : decode cX17_colours 208 = .ok (.lshl, 1) := by decide +kernel
theorem dr_cX17_colours_209 : decode cX17_colours 209 = .ok (.lor, 1) := by decide +kernel
theorem dr_cX17_colours_210 : decode cX17_colours 210 = .ok (.lstore 5, 2) := by decide +kernel
theorem dr_cX17_colours_74 : decode cX17_colours 74 = .ok (.aload_n 0, 1) := by decide +kernel
theorem dr_cX17_colours_75 : decode cX17_colours 75 = .ok (.getfield 218, 3) := by decide +kernel
theorem dr_cX17_colours_78 : decode cX17_colours 78 = .ok (.iload_n 2, 1) := by decide +kernel
theorem dr_cX17_colours_79 : decode cX17_colours 79 = .ok (.iload_n 3, 1) := by decide +kernel
theorem dr_cX17_colours_80 : decode cX17_colours 80 = .ok (.iastore, 1) := by decide +kernel
theorem dr_cX17_colours_81 : decode cX17_colours 81 = .ok (.iinc 2 1, 3) := by decide +kernel
theorem dr_cX17_colours_84 : decode cX17_colours 84 = .ok (.aload_n 0, 1) := by decide +kernel
theorem dr_cX17_colours_85 : decode cX17_colours 85 = .ok (.getfield 206, 3) := by decide +kernel
theorem dr_cX17_colours_88 : decode cX17_colours 88 = .ok (.iload_n 3, 1) := by decide +kernel
theorem dr_cX17_colours_89 : decode cX17_colours 89 = .ok (.iconst 0, 1) := by decide +kernel
theorem dr_cX17_colours_90 : decode cX17_colours 90 = .ok (.bastore, 1) := by decide +kernel
theorem dr_cX17_colours_91 : decode cX17_colours 91 = .ok (.iconst 0, 1) := by decide +kernel
theorem dr_cX17_colours_92 : decode cX17_colours 92 = .ok (.istore 4, 2) := by decide +kernel
theorem dr_cX17_colours_94 : decode cX17_colours 94 = .ok (.iload 4, 2) := by decide +kernel
theorem dr_cX17_colours_96 : decode cX17_colours 96 = .ok (.sipush 2000, 3) := by decide +kernel
theorem dr_cX17_colours_99 : decode cX17_colours 99 = .ok (.if_icmp .ge 34, 3) := by decide +kernel
theorem dr_cX17_colours_133 : decode cX17_colours 133 = .ok (.aload_n 0, 1) := by decide +kernel
theorem dr_cX17_colours_134 : decode cX17_colours 134 = .ok (.iload_n 1, 1) := by decide +kernel
theorem dr_cX17_colours_135 : decode cX17_colours 135 = .ok (.invokevirtual 215, 3) := by decide +kernel
theorem dr_cX17_colours_138 : decode cX17_colours 138 = .ok (.istore_n 3, 1) := by decide +kernel
theorem dr_cX17_colours_139 : decode cX17_colours 139 = .ok (.goto (-69), 3) := by decide +kernel
theorem dr_cX17_colours_102 : decode cX17_colours 102 = .ok (.aload_n 0, 1) := by decide +kernel
theorem dr_cX17_colours_103 : decode cX17_colours 103 = .ok (.getfield 135, 3) := by decide +kernel
theorem dr_cX17_colours_106 : decode cX17_colours 106 = .ok (.iload_n 3, 1) := by decide +kernel
theorem dr_cX17_colours_107 : decode cX17_colours 107 = .ok (.aaload, 1) := by decide +kernel
theorem dr_cX17_colours_108 : decode cX17_colours 108 = .ok (.iload 4, 2) := by decide +kernel
theorem dr_cX17_colours_110 : decode cX17_colours 110 = .ok (.invokestatic 145, 3) := by decide +kernel
theorem dr_cX17_colours_113 : decode cX17_colours 113 = .ok (.ifCond .eq 14, 3) := by decide +kernel
theorem dr_cX17_colours_127 : decode cX17_colours 127 = .ok (.iinc 4 1, 3) := by decide +kernel
theorem dr_cX17_colours_130 : decode cX17_colours 130 = .ok (.goto (-36), 3) := by decide +kernel
theorem dr_cX17_colours_116 : decode cX17_colours 116 = .ok (.aload_n 0, 1) := by decide +kernel
theorem dr_cX17_colours_117 : decode cX17_colours 117 = .ok (.getfield 209, 3) := by decide +kernel
theorem dr_cX17_colours_120 : decode cX17_colours 120 = .ok (.iload 4, 2) := by decide +kernel
theorem dr_cX17_colours_122 : decode cX17_colours 122 = .ok (.dup2, 1) := by decide +kernel
theorem dr_cX17_colours_123 : decode cX17_colours 123 = .ok (.iaload, 1) := by decide +kernel
theorem dr_cX17_colours_124 : decode cX17_colours 124 = .ok (.iconst 1, 1) := by decide +kernel
theorem dr_cX17_colours_125 : decode cX17_colours 125 = .ok (.isub, 1) := by decide +kernel
theorem dr_cX17_colours_126 : decode cX17_colours 126 = .ok (.iastore, 1) := by decide +kernel
theorem dr_cX17_colours_9 : decode cX17_colours 9 = .ok (.aload_n 0, 1) := by decide +kernel
theorem dr_cX17_colours_10 : decode cX17_colours 10 = .ok (.getfield 206, 3) := by decide +kernel
theorem dr_cX17_colours_13 : decode cX17_colours 13 = .ok (.iload_n 2, 1) := by decide +kernel
theorem dr_cX17_colours_14 : decode cX17_colours 14 = .ok (.aload_n 0, 1) := by decide +kernel
theorem dr_cX17_colours_15 : decode cX17_colours 15 = .ok (.getfield 131, 3) := by decide +kernel
theorem dr_cX17_colours_18 : decode cX17_colours 18 = .ok (.iload_n 2, 1) := by decide +kernel
theorem dr_cX17_colours_19 : decode cX17_colours 19 = .ok (.baload, 1) := by decide +kernel
theorem dr_cX17_colours_20 : decode cX17_colours 20 = .ok (.bastore, 1) := by decide +kernel
theorem dr_cX17_colours_21 : decode cX17_colours 21 = .ok (.aload_n 0, 1) := by decide +kernel
theorem dr_cX17_colours_22 : decode cX17_colours 22 = .ok (.getfield 209, 3) := by decide +kernel
theorem dr_cX17_colours_25 : decode cX17_colours 25 = .ok (.iload_n 2, 1) := by decide +kernel
theorem dr_cX17_colours_26 : decode cX17_colours 26 = .ok (.aload_n 0, 1) := by decide +kernel
theorem dr_cX17_colours_27 : decode cX17_colours 27 = .ok (.getfield 131, 3) := by decide +kernel
theorem dr_cX17_colours_30 : decode cX17_colours 30 = .ok (.iload_n 2, 1) := by decide +kernel
theorem dr_cX17_colours_31 : decode cX17_colours 31 = .ok (.baload, 1) := by decide +kernel
theorem dr_cX17_colours_32 : decode cX17_colours 32 = .ok (.ifCond .eq 15, 3) := by decide +kernel
theorem dr_cX17_colours_47 : decode cX17_colours 47 = .ok (.iconst 0, 1) := by decide +kernel
theorem dr_cX17_colours_48 : decode cX17_colours 48 = .ok (.iastore, 1) := by decide +kernel
theorem dr_cX17_colours_49 : decode cX17_colours 49 = .ok (.aload_n 0, 1) := by decide +kernel
theorem dr_cX17_colours_50 : decode cX17_colours 50 = .ok (.getfield 212, 3) := by decide +kernel
theorem dr_cX17_colours_53 : decode cX17_colours 53 = .ok (.iload_n 2, 1) := by decide +kernel
theorem dr_cX17_colours_54 : decode cX17_colours 54 = .ok (.iconst (-1), 1) := by decide +kernel
theorem dr_cX17_colours_55 : decode cX17_colours 55 = .ok (.iastore, 1) := by decide +kernel
theorem dr_cX17_colours_56 : decode cX17_colours 56 = .ok (.iinc 2 1, 3) := by decide +kernel
theorem dr_cX17_colours_59 : decode cX17_colours 59 = .ok (.goto (-57), 3) := by decide +kernel
theorem dr_cX17_colours_35 : decode cX17_colours 35 = .ok (.aload_n 0, 1) := by decide +kernel
theorem dr_cX17_colours_36 : decode cX17_colours 36 = .ok (.getfield 135, 3) := by decide +kernel
theorem dr_cX17_colours_39 : decode cX17_colours 39 = .ok (.iload_n 2, 1) := by decide +kernel
theorem dr_cX17_colours_40 : decode cX17_colours 40 = .ok (.aaload, 1) := by decide +kernel
theorem dr_cX17_colours_41 : decode cX17_colours 41 = .ok (.invokestatic 202, 3) := by decide +kernel
theorem dr_cX17_colours_44 : decode cX17_colours 44 = .ok (.goto 4, 3) := by decide +kernel
abbrev ky_327130_SpillForgeModel_next : gKey := (cX17_next, 7, "SpillForgeModel", (some FieldType.int), [], "next", fun _ _ => True)
def pt_327130_SpillForgeModel_next (D : va_G) (I : FieldType → ClassId) (γ el : Nat → Nat → Nat) (P327126 : List Nat) (F327127 : Nat → va_E) (q327128 : Nat) (p327129 : Int32) : Option Value → va_W → Nat → Nat → Prop := fun r w dc ds => ∃ (o327836 : Int32), r = some (.int o327836) ∧ w = va_pl P327126 F327127 ∧ dc ≤ 0 ∧ ds ≤ 0 ∧ gB o327836 (-1) 1999 ∧ (gIp (0 ≤ o327836.toInt) (rSd (cB (F327127 (γ 9 18))) (o327836.toInt : Int).toNat)) ∧ (gIp (o327836.toInt < 0) (∀ m : Nat, ¬ rSd (cB (F327127 (γ 9 18))) m))
set_option maxRecDepth 100000 in
set_option maxHeartbeats 4000000 in
theorem ct_327130_SpillForgeModel_next (l : Launch) (hl0 : l.stackTraces = false) (D : va_G) (I : FieldType → ClassId) (γ el : Nat → Nat → Nat) (P327126 : List Nat) (F327127 : Nat → va_E) (q327128 : Nat) (p327129 : Int32) (hT : RS D I P327126 F327127 γ el) (htq327128 : rKd γ q327128 10) : CtA (gV D I) l yX17_next cX17_next 7 (some FieldType.int) 0 0 0 0 [.ref q327128, .int p327129] (va_pl P327126 F327127) (pt_327130_SpillForgeModel_next D I γ el P327126 F327127 q327128 p327129) gNA := by
  refine CtA_of hl0 (by decide) (Nat.le_of_ble_eq_true rfl) ?_
  have bp327129 := gB_any p327129
  have hm327131 : q327128 ∈ P327126 := RS_m hT htq327128 (by decide)
  obtain ⟨q327133, q327134, p327135, p327136, p327137, p327138, p327139, p327140, p327141, p327142, p327143, p327144, p327145, p327146, p327147, p327148, p327149, he327132, hB327176, ht327150, ht327151, ht327152, ht327153, ht327154, ht327155, ht327156, ht327157, ht327158, ht327159, ht327160, ht327161, ht327162, ht327163, ht327164, ht327165, ht327166, ht327167, ht327168, ht327169, ht327170, ht327171, ht327172, ht327173, hB327177⟩ := show rk_10 γ (F327127 q327128) from RS_o hT htq327128
  have hm327178 : (γ 9 18) ∈ P327126 := RS_m hT ht327164 (by decide)
  obtain ⟨f327180, he327179, bf327180⟩ := show rk_15 I (F327127 (γ 9 18)) from RS_o hT ht327164
  refine G_iconst 0 dr_cX17_next_0 (by decide +kernel) ?_
  refine G_istore_n (L' := [(2, .int 0), (0, .ref q327128), (1, .int p327129)]) dr_cX17_next_1 (Nat.le_of_ble_eq_true rfl) rfl ?_
  have hlp2_327635 : ∀ (n2_327635 : Nat) (g327635 : Int32), gB g327635 0 2000 → ((2001 : Int) - g327635.toInt).toNat < n2_327635 → G (gV D I) l (gRm 0 0 0 0) (gMA (gV D I) (pt_327130_SpillForgeModel_next D I γ el P327126 F327127 q327128 p327129) gNA 0 0) ky_327130_SpillForgeModel_next 2 [(2, .int g327635), (0, .ref q327128), (1, .int p327129)] [] (va_pl P327126 F327127) 0 0 := by
    intro n2_327635
    induction n2_327635 with
    | zero => intro g327635 bg327635 hm2_327635; exact absurd hm2_327635 (Nat.not_lt_zero _)
    | succ n2_327635 ih2_327635 =>
      intro g327635 bg327635 hm2_327635
      refine G_iload_n 0 dr_cX17_next_2 rfl ?_
      refine G_sipush 2000 dr_cX17_next_3 (by decide +kernel) ?_
      refine G_icmp_ge 36 dr_cX17_next_6 (by decide +kernel) (fun hc327637 => ?_) (fun hc327637 => ?_)
      · have r327638 : 2000 ≤ g327635.toInt := gj_leL hc327637 (show Int32.toInt 2000 = 2000 by decide)
        have bg327635' : gB g327635 2000 2000 := ⟨by omega, by omega⟩
        refine G_iconst (-1) dr_cX17_next_36 (by decide +kernel) ?_
        refine G_istore_n (L' := [(2, .int (-1)), (0, .ref q327128), (1, .int p327129)]) dr_cX17_next_37 (Nat.le_of_ble_eq_true rfl) rfl ?_
        refine G_iconst 0 dr_cX17_next_38 (by decide +kernel) ?_
        refine G_istore_n (L' := [(3, .int 0), (2, .int (-1)), (0, .ref q327128), (1, .int p327129)]) dr_cX17_next_39 (Nat.le_of_ble_eq_true rfl) rfl ?_
        have hlp40_327732 : ∀ (n40_327732 : Nat) (g327729 : Int32) (g327730 : Int32), gB g327729 0 2000 → gB g327730 (-1) 1999 → (gIp (g327730.toInt < 0) (∀ m : Nat, (m : Int) < g327729.toInt → ¬ rSd (cB (F327127 (γ 9 18))) m)) → (gIp (0 ≤ g327730.toInt) (rSd (cB (F327127 (γ 9 18))) (g327730.toInt : Int).toNat)) → ((2001 : Int) - g327729.toInt).toNat < n40_327732 → G (gV D I) l (gRm 0 0 0 0) (gMA (gV D I) (pt_327130_SpillForgeModel_next D I γ el P327126 F327127 q327128 p327129) gNA 0 0) ky_327130_SpillForgeModel_next 40 [(3, .int g327729), (2, .int g327730), (0, .ref q327128), (1, .int p327129)] [] (va_pl P327126 F327127) 0 0 := by
          intro n40_327732
          induction n40_327732 with
          | zero => intro g327729 g327730 bg327729 bg327730 x327731 x327732 hm40_327732; exact absurd hm40_327732 (Nat.not_lt_zero _)
          | succ n40_327732 ih40_327732 =>
            intro g327729 g327730 bg327729 bg327730 x327731 x327732 hm40_327732
            refine G_iload_n 0 dr_cX17_next_40 rfl ?_
            refine G_sipush 2000 dr_cX17_next_41 (by decide +kernel) ?_
            refine G_icmp_ge 171 dr_cX17_next_44 (by decide +kernel) (fun hc327734 => ?_) (fun hc327734 => ?_)
            · have r327735 : 2000 ≤ g327729.toInt := gj_leL hc327734 (show Int32.toInt 2000 = 2000 by decide)
              have bg327729' : gB g327729 2000 2000 := ⟨by omega, by omega⟩
              refine G_iload_n 1 dr_cX17_next_171 rfl ?_
              exact G_iretA dr_cX17_next_172 rfl (Nat.le_of_ble_eq_true rfl) (Nat.le_of_ble_eq_true rfl) ⟨g327730, rfl, rfl, (Nat.le_of_ble_eq_true rfl), (Nat.le_of_ble_eq_true rfl), bg327730, x327732, (fun h m hm => x327731 h m (by have := hm.1; omega) hm)⟩
            · have r327736 : g327729.toInt < 2000 := gj_nleL hc327734 (show Int32.toInt 2000 = 2000 by decide)
              have bg327729' : gB g327729 0 1999 := ⟨by omega, by omega⟩
              refine G_aload_n 2 dr_cX17_next_47 rfl ?_
              refine Gp_get 18 hm327131 he327132 dr_cX17_next_48 (gk_X17 D I) (Nat.le_of_ble_eq_true rfl) wr_7_92 rfl ?_
              refine G_iload_n 0 dr_cX17_next_51 rfl ?_
              refine Gp_zald 3 hm327178 he327179 dr_cX17_next_52 rfl (gB_in bg327729' (by decide) (by decide)) (G_nam fun z327737 hz327737 => ?_)
              have bz327737 : gB z327737 0 1 := by rw [hz327737]; exact bf327180 _
              refine G_if_ne 59 dr_cX17_next_53 (by decide +kernel) (fun hc327738 => ?_) (fun hc327738 => ?_)
              · have r327739 : z327737.toInt ≠ 0 := gj_neq hc327738 (show Int32.toInt 0 = 0 by decide)
                have bz327737' : gB z327737 1 1 := ⟨by omega, by omega⟩
                refine G_iload_n 1 dr_cX17_next_59 rfl ?_
                refine G_if_ge 68 dr_cX17_next_60 (by decide +kernel) (fun hc327740 => ?_) (fun hc327740 => ?_)
                · have r327741 : 0 ≤ g327730.toInt := gj_leL hc327740 (show Int32.toInt 0 = 0 by decide)
                  have bg327730' : gB g327730 0 1999 := ⟨by omega, by omega⟩
                  refine G_iload_n 0 dr_cX17_next_68 rfl ?_
                  refine G_bipush 100 dr_cX17_next_69 (by decide +kernel) ?_
                  refine G_icmp_lt 78 dr_cX17_next_71 (by decide +kernel) (fun hc327742 => ?_) (fun hc327742 => ?_)
                  · have r327743 : g327729.toInt < 100 := gj_lt hc327742 (show Int32.toInt 100 = 100 by decide)
                    have bg327729'' : gB g327729 0 99 := ⟨by omega, by omega⟩
                    refine G_iconst 0 dr_cX17_next_78 (by decide +kernel) ?_
                    refine G_istore (L' := [(4, .int 0), (3, .int g327729), (2, .int g327730), (0, .ref q327128), (1, .int p327129)]) dr_cX17_next_79 (Nat.le_of_ble_eq_true rfl) rfl ?_
                    refine G_iload_n 2 dr_cX17_next_81 rfl ?_
                    refine G_bipush 100 dr_cX17_next_82 (by decide +kernel) ?_
                    refine G_icmp_lt 91 dr_cX17_next_84 (by decide +kernel) (fun hc327744 => ?_) (fun hc327744 => ?_)
                    · have r327745 : g327730.toInt < 100 := gj_lt hc327744 (show Int32.toInt 100 = 100 by decide)
                      have bg327730'' : gB g327730 0 99 := ⟨by omega, by omega⟩
                      refine G_iconst 0 dr_cX17_next_91 (by decide +kernel) ?_
                      refine G_istore (L' := [(5, .int 0), (4, .int 0), (3, .int g327729), (2, .int g327730), (0, .ref q327128), (1, .int p327129)]) dr_cX17_next_92 (Nat.le_of_ble_eq_true rfl) rfl ?_
                      refine G_iload 1 dr_cX17_next_94 rfl ?_
                      refine G_if_eq 107 dr_cX17_next_96 (by decide +kernel) (fun _ => ?_) (fun hc => absurd hc (by decide))
                      refine G_aload_n 4 dr_cX17_next_107 rfl ?_
                      refine Gp_get 5 hm327131 he327132 dr_cX17_next_108 (gk_X17 D I) (Nat.le_of_ble_eq_true rfl) wr_7_79 rfl ?_
                      refine G_iload_n 2 dr_cX17_next_111 rfl ?_
                      have hm327746 : (γ 9 5) ∈ P327126 := RS_m hT ht327157 (by decide)
                      obtain ⟨f327748, he327747⟩ := show rk_17 I (F327127 (γ 9 5)) from RS_o hT ht327157
                      refine Gp_iald 0 hm327746 he327747 dr_cX17_next_112 rfl (gB_in bg327729'' (by decide) (by decide)) (G_nam fun z327749 hz327749 => ?_)
                      have bz327749 : gB z327749 (-2147483648) 2147483647 := gB_any z327749
                      refine G_i2l dr_cX17_next_113 (G_namL fun u327750 hu327750 => ?_)
                      refine G_aload_n 4 dr_cX17_next_114 rfl ?_
                      refine Gp_get 16 hm327131 he327132 dr_cX17_next_115 (gk_X17 D I) (Nat.le_of_ble_eq_true rfl) wr_7_90 rfl ?_
                      refine G_iload_n 3 dr_cX17_next_118 rfl ?_
                      have hm327751 : (γ 9 16) ∈ P327126 := RS_m hT ht327162 (by decide)
                      obtain ⟨f327753, he327752⟩ := show rk_19 I (F327127 (γ 9 16)) from RS_o hT ht327162
                      refine Gp_iald 0 hm327751 he327752 dr_cX17_next_119 rfl (gB_in bg327730'' (by decide) (by decide)) (G_nam fun z327754 hz327754 => ?_)
                      have bz327754 : gB z327754 (-2147483648) 2147483647 := gB_any z327754
                      refine G_i2l dr_cX17_next_120 (G_namL fun u327755 hu327755 => ?_)
                      refine G_lmul dr_cX17_next_121 (G_namL fun u327756 hu327756 => ?_)
                      refine G_aload_n 4 dr_cX17_next_122 rfl ?_
                      refine Gp_get 5 hm327131 he327132 dr_cX17_next_123 (gk_X17 D I) (Nat.le_of_ble_eq_true rfl) wr_7_79 rfl ?_
                      refine G_iload_n 3 dr_cX17_next_126 rfl ?_
                      refine Gp_iald 0 hm327746 he327747 dr_cX17_next_127 rfl (gB_in bg327730'' (by decide) (by decide)) (G_nam fun z327757 hz327757 => ?_)
                      have bz327757 : gB z327757 (-2147483648) 2147483647 := gB_any z327757
                      refine G_i2l dr_cX17_next_128 (G_namL fun u327758 hu327758 => ?_)
                      refine G_aload_n 4 dr_cX17_next_129 rfl ?_
                      refine Gp_get 16 hm327131 he327132 dr_cX17_next_130 (gk_X17 D I) (Nat.le_of_ble_eq_true rfl) wr_7_90 rfl ?_
                      refine G_iload_n 2 dr_cX17_next_133 rfl ?_
                      refine Gp_iald 0 hm327751 he327752 dr_cX17_next_134 rfl (gB_in bg327729'' (by decide) (by decide)) (G_nam fun z327759 hz327759 => ?_)
                      have bz327759 : gB z327759 (-2147483648) 2147483647 := gB_any z327759
                      refine G_i2l dr_cX17_next_135 (G_namL fun u327760 hu327760 => ?_)
                      refine G_lmul dr_cX17_next_136 (G_namL fun u327761 hu327761 => ?_)
                      refine G_lcmp dr_cX17_next_137 (G_nam fun z327762 hz327762 => ?_)
                      have bz327762 : gB z327762 (-1) 1 := gB_cmp hz327762
                      refine G_if_ge 145 dr_cX17_next_138 (by decide +kernel) (fun hc327763 => ?_) (fun hc327763 => ?_)
                      · have r327764 : 0 ≤ z327762.toInt := gj_leL hc327763 (show Int32.toInt 0 = 0 by decide)
                        have bz327762' : gB z327762 0 1 := ⟨by omega, by omega⟩
                        refine G_iconst 0 dr_cX17_next_145 (by decide +kernel) ?_
                        refine G_istore (L' := [(6, .int 0), (5, .int 0), (4, .int 0), (3, .int g327729), (2, .int g327730), (0, .ref q327128), (1, .int p327129)]) dr_cX17_next_146 (Nat.le_of_ble_eq_true rfl) rfl ?_
                        refine G_iload 2 dr_cX17_next_148 rfl ?_
                        refine G_if_ne 158 dr_cX17_next_150 (by decide +kernel) (fun hc => absurd hc (by decide)) (fun _ => ?_)
                        refine G_iload 1 dr_cX17_next_153 rfl ?_
                        refine G_if_ne 163 dr_cX17_next_155 (by decide +kernel) (fun hc => absurd hc (by decide)) (fun _ => ?_)
                        refine G_iload 0 dr_cX17_next_158 rfl ?_
                        refine G_if_eq 165 dr_cX17_next_160 (by decide +kernel) (fun _ => ?_) (fun hc => absurd hc (by decide))
                        obtain ⟨z327765, hz327765⟩ : ∃ z : Int32, z = g327729 + Int32.ofInt 1 := ⟨_, rfl⟩
                        have ez327765 : z327765.toInt = g327729.toInt + 1 := gI_inc hz327765 (by decide) bg327729'' (by decide) (by decide)
                        have bz327765 : gB z327765 1 100 := ⟨by omega, by omega⟩
                        refine G_iinc (L' := [(3, .int z327765), (6, .int 0), (5, .int 0), (4, .int 0), (2, .int g327730), (0, .ref q327128), (1, .int p327129)]) z327765 3 dr_cX17_next_165 rfl hz327765.symm (Nat.le_of_ble_eq_true rfl) rfl ?_
                        refine G_goto 40 dr_cX17_next_168 (by decide +kernel) ?_
                        refine G_lv (L' := [(3, .int z327765), (2, .int g327730), (0, .ref q327128), (1, .int p327129)]) [0, 4, 5, 6] rfl ?_
                        exact ih40_327732 z327765 g327730 (gB_w bz327765 (by decide) (by decide)) (gB_w bg327730'' (by decide) (by decide)) (by first | exact fun h => absurd h (by omega) | exact fun h => (by rw [ez327765]; rw [cB_of he327179]; have q := x327731; rw [cB_of he327179] at q; exact nx_0 (q h) hz327737 (by omega) rfl)) x327732 (by omega)
                      · have r327766 : z327762.toInt < 0 := gj_nleL hc327763 (show Int32.toInt 0 = 0 by decide)
                        have bz327762' : gB z327762 (-1) (-1) := ⟨by omega, by omega⟩
                        have lhc327763 := gC_cmpS hz327762 (by omega)
                        refine G_iconst 1 dr_cX17_next_141 (by decide +kernel) ?_
                        refine G_goto 146 dr_cX17_next_142 (by decide +kernel) ?_
                        refine G_istore (L' := [(6, .int 1), (5, .int 0), (4, .int 0), (3, .int g327729), (2, .int g327730), (0, .ref q327128), (1, .int p327129)]) dr_cX17_next_146 (Nat.le_of_ble_eq_true rfl) rfl ?_
                        refine G_iload 2 dr_cX17_next_148 rfl ?_
                        refine G_if_ne 158 dr_cX17_next_150 (by decide +kernel) (fun hc => absurd hc (by decide)) (fun _ => ?_)
                        refine G_iload 1 dr_cX17_next_153 rfl ?_
                        refine G_if_ne 163 dr_cX17_next_155 (by decide +kernel) (fun hc => absurd hc (by decide)) (fun _ => ?_)
                        refine G_iload 0 dr_cX17_next_158 rfl ?_
                        refine G_if_eq 165 dr_cX17_next_160 (by decide +kernel) (fun hc => absurd hc (by decide)) (fun _ => ?_)
                        refine G_iload_n 3 dr_cX17_next_163 rfl ?_
                        refine G_istore_n (L' := [(2, .int g327729), (6, .int 1), (5, .int 0), (4, .int 0), (3, .int g327729), (0, .ref q327128), (1, .int p327129)]) dr_cX17_next_164 (Nat.le_of_ble_eq_true rfl) rfl ?_
                        obtain ⟨z327767, hz327767⟩ : ∃ z : Int32, z = g327729 + Int32.ofInt 1 := ⟨_, rfl⟩
                        have ez327767 : z327767.toInt = g327729.toInt + 1 := gI_inc hz327767 (by decide) bg327729'' (by decide) (by decide)
                        have bz327767 : gB z327767 1 100 := ⟨by omega, by omega⟩
                        refine G_iinc (L' := [(3, .int z327767), (2, .int g327729), (6, .int 1), (5, .int 0), (4, .int 0), (0, .ref q327128), (1, .int p327129)]) z327767 4 dr_cX17_next_165 rfl hz327767.symm (Nat.le_of_ble_eq_true rfl) rfl ?_
                        refine G_goto 40 dr_cX17_next_168 (by decide +kernel) ?_
                        refine G_lv (L' := [(3, .int z327767), (2, .int g327729), (0, .ref q327128), (1, .int p327129)]) [0, 1, 5, 6] rfl ?_
                        exact ih40_327732 z327767 g327729 (gB_w bz327767 (by decide) (by decide)) (gB_w bg327729'' (by decide) (by decide)) (by first | exact fun h => absurd h (by omega) | exact fun h => (by rw [ez327767]; rw [cB_of he327179]; have q := x327731; rw [cB_of he327179] at q; exact nx_0 (q h) hz327737 (by omega) rfl)) (fun _ => by rw [cB_of he327179]; exact sd_of hz327737 (by omega) (by omega) (by omega)) (by omega)
                    · have r327768 : 100 ≤ g327730.toInt := gj_nlt hc327744 (show Int32.toInt 100 = 100 by decide)
                      have bg327730'' : gB g327730 100 1999 := ⟨by omega, by omega⟩
                      refine G_iconst 1 dr_cX17_next_87 (by decide +kernel) ?_
                      refine G_goto 92 dr_cX17_next_88 (by decide +kernel) ?_
                      refine G_istore (L' := [(5, .int 1), (4, .int 0), (3, .int g327729), (2, .int g327730), (0, .ref q327128), (1, .int p327129)]) dr_cX17_next_92 (Nat.le_of_ble_eq_true rfl) rfl ?_
                      refine G_iload 1 dr_cX17_next_94 rfl ?_
                      refine G_if_eq 107 dr_cX17_next_96 (by decide +kernel) (fun _ => ?_) (fun hc => absurd hc (by decide))
                      refine G_aload_n 4 dr_cX17_next_107 rfl ?_
                      refine Gp_get 5 hm327131 he327132 dr_cX17_next_108 (gk_X17 D I) (Nat.le_of_ble_eq_true rfl) wr_7_79 rfl ?_
                      refine G_iload_n 2 dr_cX17_next_111 rfl ?_
                      have hm327769 : (γ 9 5) ∈ P327126 := RS_m hT ht327157 (by decide)
                      obtain ⟨f327771, he327770⟩ := show rk_17 I (F327127 (γ 9 5)) from RS_o hT ht327157
                      refine Gp_iald 0 hm327769 he327770 dr_cX17_next_112 rfl (gB_in bg327729'' (by decide) (by decide)) (G_nam fun z327772 hz327772 => ?_)
                      have bz327772 : gB z327772 (-2147483648) 2147483647 := gB_any z327772
                      refine G_i2l dr_cX17_next_113 (G_namL fun u327773 hu327773 => ?_)
                      refine G_aload_n 4 dr_cX17_next_114 rfl ?_
                      refine Gp_get 16 hm327131 he327132 dr_cX17_next_115 (gk_X17 D I) (Nat.le_of_ble_eq_true rfl) wr_7_90 rfl ?_
                      refine G_iload_n 3 dr_cX17_next_118 rfl ?_
                      have hm327774 : (γ 9 16) ∈ P327126 := RS_m hT ht327162 (by decide)
                      obtain ⟨f327776, he327775⟩ := show rk_19 I (F327127 (γ 9 16)) from RS_o hT ht327162
                      refine Gp_iald 0 hm327774 he327775 dr_cX17_next_119 rfl (gB_in bg327730'' (by decide) (by decide)) (G_nam fun z327777 hz327777 => ?_)
                      have bz327777 : gB z327777 (-2147483648) 2147483647 := gB_any z327777
                      refine G_i2l dr_cX17_next_120 (G_namL fun u327778 hu327778 => ?_)
                      refine G_lmul dr_cX17_next_121 (G_namL fun u327779 hu327779 => ?_)
                      refine G_aload_n 4 dr_cX17_next_122 rfl ?_
                      refine Gp_get 5 hm327131 he327132 dr_cX17_next_123 (gk_X17 D I) (Nat.le_of_ble_eq_true rfl) wr_7_79 rfl ?_
                      refine G_iload_n 3 dr_cX17_next_126 rfl ?_
                      refine Gp_iald 0 hm327769 he327770 dr_cX17_next_127 rfl (gB_in bg327730'' (by decide) (by decide)) (G_nam fun z327780 hz327780 => ?_)
                      have bz327780 : gB z327780 (-2147483648) 2147483647 := gB_any z327780
                      refine G_i2l dr_cX17_next_128 (G_namL fun u327781 hu327781 => ?_)
                      refine G_aload_n 4 dr_cX17_next_129 rfl ?_
                      refine Gp_get 16 hm327131 he327132 dr_cX17_next_130 (gk_X17 D I) (Nat.le_of_ble_eq_true rfl) wr_7_90 rfl ?_
                      refine G_iload_n 2 dr_cX17_next_133 rfl ?_
                      refine Gp_iald 0 hm327774 he327775 dr_cX17_next_134 rfl (gB_in bg327729'' (by decide) (by decide)) (G_nam fun z327782 hz327782 => ?_)
                      have bz327782 : gB z327782 (-2147483648) 2147483647 := gB_any z327782
                      refine G_i2l dr_cX17_next_135 (G_namL fun u327783 hu327783 => ?_)
                      refine G_lmul dr_cX17_next_136 (G_namL fun u327784 hu327784 => ?_)
                      refine G_lcmp dr_cX17_next_137 (G_nam fun z327785 hz327785 => ?_)
                      have bz327785 : gB z327785 (-1) 1 := gB_cmp hz327785
                      refine G_if_ge 145 dr_cX17_next_138 (by decide +kernel) (fun hc327786 => ?_) (fun hc327786 => ?_)
                      · have r327787 : 0 ≤ z327785.toInt := gj_leL hc327786 (show Int32.toInt 0 = 0 by decide)
                        have bz327785' : gB z327785 0 1 := ⟨by omega, by omega⟩
                        refine G_iconst 0 dr_cX17_next_145 (by decide +kernel) ?_
                        refine G_istore (L' := [(6, .int 0), (5, .int 1), (4, .int 0), (3, .int g327729), (2, .int g327730), (0, .ref q327128), (1, .int p327129)]) dr_cX17_next_146 (Nat.le_of_ble_eq_true rfl) rfl ?_
                        refine G_iload 2 dr_cX17_next_148 rfl ?_
                        refine G_if_ne 158 dr_cX17_next_150 (by decide +kernel) (fun hc => absurd hc (by decide)) (fun _ => ?_)
                        refine G_iload 1 dr_cX17_next_153 rfl ?_
                        refine G_if_ne 163 dr_cX17_next_155 (by decide +kernel) (fun _ => ?_) (fun hc => absurd hc (by decide))
                        refine G_iload_n 3 dr_cX17_next_163 rfl ?_
                        refine G_istore_n (L' := [(2, .int g327729), (6, .int 0), (5, .int 1), (4, .int 0), (3, .int g327729), (0, .ref q327128), (1, .int p327129)]) dr_cX17_next_164 (Nat.le_of_ble_eq_true rfl) rfl ?_
                        obtain ⟨z327788, hz327788⟩ : ∃ z : Int32, z = g327729 + Int32.ofInt 1 := ⟨_, rfl⟩
                        have ez327788 : z327788.toInt = g327729.toInt + 1 := gI_inc hz327788 (by decide) bg327729'' (by decide) (by decide)
                        have bz327788 : gB z327788 1 100 := ⟨by omega, by omega⟩
                        refine G_iinc (L' := [(3, .int z327788), (2, .int g327729), (6, .int 0), (5, .int 1), (4, .int 0), (0, .ref q327128), (1, .int p327129)]) z327788 4 dr_cX17_next_165 rfl hz327788.symm (Nat.le_of_ble_eq_true rfl) rfl ?_
                        refine G_goto 40 dr_cX17_next_168 (by decide +kernel) ?_
                        refine G_lv (L' := [(3, .int z327788), (2, .int g327729), (0, .ref q327128), (1, .int p327129)]) [0, 1, 5, 6] rfl ?_
                        exact ih40_327732 z327788 g327729 (gB_w bz327788 (by decide) (by decide)) (gB_w bg327729'' (by decide) (by decide)) (by first | exact fun h => absurd h (by omega) | exact fun h => (by rw [ez327788]; rw [cB_of he327179]; have q := x327731; rw [cB_of he327179] at q; exact nx_0 (q h) hz327737 (by omega) rfl)) (fun _ => by rw [cB_of he327179]; exact sd_of hz327737 (by omega) (by omega) (by omega)) (by omega)
                      · have r327789 : z327785.toInt < 0 := gj_nleL hc327786 (show Int32.toInt 0 = 0 by decide)
                        have bz327785' : gB z327785 (-1) (-1) := ⟨by omega, by omega⟩
                        have lhc327786 := gC_cmpS hz327785 (by omega)
                        refine G_iconst 1 dr_cX17_next_141 (by decide +kernel) ?_
                        refine G_goto 146 dr_cX17_next_142 (by decide +kernel) ?_
                        refine G_istore (L' := [(6, .int 1), (5, .int 1), (4, .int 0), (3, .int g327729), (2, .int g327730), (0, .ref q327128), (1, .int p327129)]) dr_cX17_next_146 (Nat.le_of_ble_eq_true rfl) rfl ?_
                        refine G_iload 2 dr_cX17_next_148 rfl ?_
                        refine G_if_ne 158 dr_cX17_next_150 (by decide +kernel) (fun hc => absurd hc (by decide)) (fun _ => ?_)
                        refine G_iload 1 dr_cX17_next_153 rfl ?_
                        refine G_if_ne 163 dr_cX17_next_155 (by decide +kernel) (fun _ => ?_) (fun hc => absurd hc (by decide))
                        refine G_iload_n 3 dr_cX17_next_163 rfl ?_
                        refine G_istore_n (L' := [(2, .int g327729), (6, .int 1), (5, .int 1), (4, .int 0), (3, .int g327729), (0, .ref q327128), (1, .int p327129)]) dr_cX17_next_164 (Nat.le_of_ble_eq_true rfl) rfl ?_
                        obtain ⟨z327790, hz327790⟩ : ∃ z : Int32, z = g327729 + Int32.ofInt 1 := ⟨_, rfl⟩
                        have ez327790 : z327790.toInt = g327729.toInt + 1 := gI_inc hz327790 (by decide) bg327729'' (by decide) (by decide)
                        have bz327790 : gB z327790 1 100 := ⟨by omega, by omega⟩
                        refine G_iinc (L' := [(3, .int z327790), (2, .int g327729), (6, .int 1), (5, .int 1), (4, .int 0), (0, .ref q327128), (1, .int p327129)]) z327790 4 dr_cX17_next_165 rfl hz327790.symm (Nat.le_of_ble_eq_true rfl) rfl ?_
                        refine G_goto 40 dr_cX17_next_168 (by decide +kernel) ?_
                        refine G_lv (L' := [(3, .int z327790), (2, .int g327729), (0, .ref q327128), (1, .int p327129)]) [0, 1, 5, 6] rfl ?_
                        exact ih40_327732 z327790 g327729 (gB_w bz327790 (by decide) (by decide)) (gB_w bg327729'' (by decide) (by decide)) (by first | exact fun h => absurd h (by omega) | exact fun h => (by rw [ez327790]; rw [cB_of he327179]; have q := x327731; rw [cB_of he327179] at q; exact nx_0 (q h) hz327737 (by omega) rfl)) (fun _ => by rw [cB_of he327179]; exact sd_of hz327737 (by omega) (by omega) (by omega)) (by omega)
                  · have r327791 : 100 ≤ g327729.toInt := gj_nlt hc327742 (show Int32.toInt 100 = 100 by decide)
                    have bg327729'' : gB g327729 100 1999 := ⟨by omega, by omega⟩
                    refine G_iconst 1 dr_cX17_next_74 (by decide +kernel) ?_
                    refine G_goto 79 dr_cX17_next_75 (by decide +kernel) ?_
                    refine G_istore (L' := [(4, .int 1), (3, .int g327729), (2, .int g327730), (0, .ref q327128), (1, .int p327129)]) dr_cX17_next_79 (Nat.le_of_ble_eq_true rfl) rfl ?_
                    refine G_iload_n 2 dr_cX17_next_81 rfl ?_
                    refine G_bipush 100 dr_cX17_next_82 (by decide +kernel) ?_
                    refine G_icmp_lt 91 dr_cX17_next_84 (by decide +kernel) (fun hc327792 => ?_) (fun hc327792 => ?_)
                    · have r327793 : g327730.toInt < 100 := gj_lt hc327792 (show Int32.toInt 100 = 100 by decide)
                      have bg327730'' : gB g327730 0 99 := ⟨by omega, by omega⟩
                      refine G_iconst 0 dr_cX17_next_91 (by decide +kernel) ?_
                      refine G_istore (L' := [(5, .int 0), (4, .int 1), (3, .int g327729), (2, .int g327730), (0, .ref q327128), (1, .int p327129)]) dr_cX17_next_92 (Nat.le_of_ble_eq_true rfl) rfl ?_
                      refine G_iload 1 dr_cX17_next_94 rfl ?_
                      refine G_if_eq 107 dr_cX17_next_96 (by decide +kernel) (fun hc => absurd hc (by decide)) (fun _ => ?_)
                      refine G_iload 0 dr_cX17_next_99 rfl ?_
                      refine G_if_ne 107 dr_cX17_next_101 (by decide +kernel) (fun hc => absurd hc (by decide)) (fun _ => ?_)
                      refine G_goto 165 dr_cX17_next_104 (by decide +kernel) ?_
                      obtain ⟨z327794, hz327794⟩ : ∃ z : Int32, z = g327729 + Int32.ofInt 1 := ⟨_, rfl⟩
                      have ez327794 : z327794.toInt = g327729.toInt + 1 := gI_inc hz327794 (by decide) bg327729'' (by decide) (by decide)
                      have bz327794 : gB z327794 101 2000 := ⟨by omega, by omega⟩
                      refine G_iinc (L' := [(3, .int z327794), (5, .int 0), (4, .int 1), (2, .int g327730), (0, .ref q327128), (1, .int p327129)]) z327794 2 dr_cX17_next_165 rfl hz327794.symm (Nat.le_of_ble_eq_true rfl) rfl ?_
                      refine G_goto 40 dr_cX17_next_168 (by decide +kernel) ?_
                      refine G_lv (L' := [(3, .int z327794), (2, .int g327730), (0, .ref q327128), (1, .int p327129)]) [0, 3, 4, 5] rfl ?_
                      exact ih40_327732 z327794 g327730 (gB_w bz327794 (by decide) (by decide)) (gB_w bg327730'' (by decide) (by decide)) (by first | exact fun h => absurd h (by omega) | exact fun h => (by rw [ez327794]; rw [cB_of he327179]; have q := x327731; rw [cB_of he327179] at q; exact nx_0 (q h) hz327737 (by omega) rfl)) x327732 (by omega)
                    · have r327795 : 100 ≤ g327730.toInt := gj_nlt hc327792 (show Int32.toInt 100 = 100 by decide)
                      have bg327730'' : gB g327730 100 1999 := ⟨by omega, by omega⟩
                      refine G_iconst 1 dr_cX17_next_87 (by decide +kernel) ?_
                      refine G_goto 92 dr_cX17_next_88 (by decide +kernel) ?_
                      refine G_istore (L' := [(5, .int 1), (4, .int 1), (3, .int g327729), (2, .int g327730), (0, .ref q327128), (1, .int p327129)]) dr_cX17_next_92 (Nat.le_of_ble_eq_true rfl) rfl ?_
                      refine G_iload 1 dr_cX17_next_94 rfl ?_
                      refine G_if_eq 107 dr_cX17_next_96 (by decide +kernel) (fun hc => absurd hc (by decide)) (fun _ => ?_)
                      refine G_iload 0 dr_cX17_next_99 rfl ?_
                      refine G_if_ne 107 dr_cX17_next_101 (by decide +kernel) (fun _ => ?_) (fun hc => absurd hc (by decide))
                      refine G_aload_n 4 dr_cX17_next_107 rfl ?_
                      refine Gp_get 5 hm327131 he327132 dr_cX17_next_108 (gk_X17 D I) (Nat.le_of_ble_eq_true rfl) wr_7_79 rfl ?_
                      refine G_iload_n 2 dr_cX17_next_111 rfl ?_
                      have hm327796 : (γ 9 5) ∈ P327126 := RS_m hT ht327157 (by decide)
                      obtain ⟨f327798, he327797⟩ := show rk_17 I (F327127 (γ 9 5)) from RS_o hT ht327157
                      refine Gp_iald 0 hm327796 he327797 dr_cX17_next_112 rfl (gB_in bg327729'' (by decide) (by decide)) (G_nam fun z327799 hz327799 => ?_)
                      have bz327799 : gB z327799 (-2147483648) 2147483647 := gB_any z327799
                      refine G_i2l dr_cX17_next_113 (G_namL fun u327800 hu327800 => ?_)
                      refine G_aload_n 4 dr_cX17_next_114 rfl ?_
                      refine Gp_get 16 hm327131 he327132 dr_cX17_next_115 (gk_X17 D I) (Nat.le_of_ble_eq_true rfl) wr_7_90 rfl ?_
                      refine G_iload_n 3 dr_cX17_next_118 rfl ?_
                      have hm327801 : (γ 9 16) ∈ P327126 := RS_m hT ht327162 (by decide)
                      obtain ⟨f327803, he327802⟩ := show rk_19 I (F327127 (γ 9 16)) from RS_o hT ht327162
                      refine Gp_iald 0 hm327801 he327802 dr_cX17_next_119 rfl (gB_in bg327730'' (by decide) (by decide)) (G_nam fun z327804 hz327804 => ?_)
                      have bz327804 : gB z327804 (-2147483648) 2147483647 := gB_any z327804
                      refine G_i2l dr_cX17_next_120 (G_namL fun u327805 hu327805 => ?_)
                      refine G_lmul dr_cX17_next_121 (G_namL fun u327806 hu327806 => ?_)
                      refine G_aload_n 4 dr_cX17_next_122 rfl ?_
                      refine Gp_get 5 hm327131 he327132 dr_cX17_next_123 (gk_X17 D I) (Nat.le_of_ble_eq_true rfl) wr_7_79 rfl ?_
                      refine G_iload_n 3 dr_cX17_next_126 rfl ?_
                      refine Gp_iald 0 hm327796 he327797 dr_cX17_next_127 rfl (gB_in bg327730'' (by decide) (by decide)) (G_nam fun z327807 hz327807 => ?_)
                      have bz327807 : gB z327807 (-2147483648) 2147483647 := gB_any z327807
                      refine G_i2l dr_cX17_next_128 (G_namL fun u327808 hu327808 => ?_)
                      refine G_aload_n 4 dr_cX17_next_129 rfl ?_
                      refine Gp_get 16 hm327131 he327132 dr_cX17_next_130 (gk_X17 D I) (Nat.le_of_ble_eq_true rfl) wr_7_90 rfl ?_
                      refine G_iload_n 2 dr_cX17_next_133 rfl ?_
                      refine Gp_iald 0 hm327801 he327802 dr_cX17_next_134 rfl (gB_in bg327729'' (by decide) (by decide)) (G_nam fun z327809 hz327809 => ?_)
                      have bz327809 : gB z327809 (-2147483648) 2147483647 := gB_any z327809
                      refine G_i2l dr_cX17_next_135 (G_namL fun u327810 hu327810 => ?_)
                      refine G_lmul dr_cX17_next_136 (G_namL fun u327811 hu327811 => ?_)
                      refine G_lcmp dr_cX17_next_137 (G_nam fun z327812 hz327812 => ?_)
                      have bz327812 : gB z327812 (-1) 1 := gB_cmp hz327812
                      refine G_if_ge 145 dr_cX17_next_138 (by decide +kernel) (fun hc327813 => ?_) (fun hc327813 => ?_)
                      · have r327814 : 0 ≤ z327812.toInt := gj_leL hc327813 (show Int32.toInt 0 = 0 by decide)
                        have bz327812' : gB z327812 0 1 := ⟨by omega, by omega⟩
                        refine G_iconst 0 dr_cX17_next_145 (by decide +kernel) ?_
                        refine G_istore (L' := [(6, .int 0), (5, .int 1), (4, .int 1), (3, .int g327729), (2, .int g327730), (0, .ref q327128), (1, .int p327129)]) dr_cX17_next_146 (Nat.le_of_ble_eq_true rfl) rfl ?_
                        refine G_iload 2 dr_cX17_next_148 rfl ?_
                        refine G_if_ne 158 dr_cX17_next_150 (by decide +kernel) (fun _ => ?_) (fun hc => absurd hc (by decide))
                        refine G_iload 0 dr_cX17_next_158 rfl ?_
                        refine G_if_eq 165 dr_cX17_next_160 (by decide +kernel) (fun _ => ?_) (fun hc => absurd hc (by decide))
                        obtain ⟨z327815, hz327815⟩ : ∃ z : Int32, z = g327729 + Int32.ofInt 1 := ⟨_, rfl⟩
                        have ez327815 : z327815.toInt = g327729.toInt + 1 := gI_inc hz327815 (by decide) bg327729'' (by decide) (by decide)
                        have bz327815 : gB z327815 101 2000 := ⟨by omega, by omega⟩
                        refine G_iinc (L' := [(3, .int z327815), (6, .int 0), (5, .int 1), (4, .int 1), (2, .int g327730), (0, .ref q327128), (1, .int p327129)]) z327815 3 dr_cX17_next_165 rfl hz327815.symm (Nat.le_of_ble_eq_true rfl) rfl ?_
                        refine G_goto 40 dr_cX17_next_168 (by decide +kernel) ?_
                        refine G_lv (L' := [(3, .int z327815), (2, .int g327730), (0, .ref q327128), (1, .int p327129)]) [0, 4, 5, 6] rfl ?_
                        exact ih40_327732 z327815 g327730 (gB_w bz327815 (by decide) (by decide)) (gB_w bg327730'' (by decide) (by decide)) (by first | exact fun h => absurd h (by omega) | exact fun h => (by rw [ez327815]; rw [cB_of he327179]; have q := x327731; rw [cB_of he327179] at q; exact nx_0 (q h) hz327737 (by omega) rfl)) x327732 (by omega)
                      · have r327816 : z327812.toInt < 0 := gj_nleL hc327813 (show Int32.toInt 0 = 0 by decide)
                        have bz327812' : gB z327812 (-1) (-1) := ⟨by omega, by omega⟩
                        have lhc327813 := gC_cmpS hz327812 (by omega)
                        refine G_iconst 1 dr_cX17_next_141 (by decide +kernel) ?_
                        refine G_goto 146 dr_cX17_next_142 (by decide +kernel) ?_
                        refine G_istore (L' := [(6, .int 1), (5, .int 1), (4, .int 1), (3, .int g327729), (2, .int g327730), (0, .ref q327128), (1, .int p327129)]) dr_cX17_next_146 (Nat.le_of_ble_eq_true rfl) rfl ?_
                        refine G_iload 2 dr_cX17_next_148 rfl ?_
                        refine G_if_ne 158 dr_cX17_next_150 (by decide +kernel) (fun _ => ?_) (fun hc => absurd hc (by decide))
                        refine G_iload 0 dr_cX17_next_158 rfl ?_
                        refine G_if_eq 165 dr_cX17_next_160 (by decide +kernel) (fun hc => absurd hc (by decide)) (fun _ => ?_)
                        refine G_iload_n 3 dr_cX17_next_163 rfl ?_
                        refine G_istore_n (L' := [(2, .int g327729), (6, .int 1), (5, .int 1), (4, .int 1), (3, .int g327729), (0, .ref q327128), (1, .int p327129)]) dr_cX17_next_164 (Nat.le_of_ble_eq_true rfl) rfl ?_
                        obtain ⟨z327817, hz327817⟩ : ∃ z : Int32, z = g327729 + Int32.ofInt 1 := ⟨_, rfl⟩
                        have ez327817 : z327817.toInt = g327729.toInt + 1 := gI_inc hz327817 (by decide) bg327729'' (by decide) (by decide)
                        have bz327817 : gB z327817 101 2000 := ⟨by omega, by omega⟩
                        refine G_iinc (L' := [(3, .int z327817), (2, .int g327729), (6, .int 1), (5, .int 1), (4, .int 1), (0, .ref q327128), (1, .int p327129)]) z327817 4 dr_cX17_next_165 rfl hz327817.symm (Nat.le_of_ble_eq_true rfl) rfl ?_
                        refine G_goto 40 dr_cX17_next_168 (by decide +kernel) ?_
                        refine G_lv (L' := [(3, .int z327817), (2, .int g327729), (0, .ref q327128), (1, .int p327129)]) [0, 1, 5, 6] rfl ?_
                        exact ih40_327732 z327817 g327729 (gB_w bz327817 (by decide) (by decide)) (gB_w bg327729'' (by decide) (by decide)) (by first | exact fun h => absurd h (by omega) | exact fun h => (by rw [ez327817]; rw [cB_of he327179]; have q := x327731; rw [cB_of he327179] at q; exact nx_0 (q h) hz327737 (by omega) rfl)) (fun _ => by rw [cB_of he327179]; exact sd_of hz327737 (by omega) (by omega) (by omega)) (by omega)
                · have r327818 : g327730.toInt < 0 := gj_nleL hc327740 (show Int32.toInt 0 = 0 by decide)
                  have bg327730' : gB g327730 (-1) (-1) := ⟨by omega, by omega⟩
                  refine G_iload_n 0 dr_cX17_next_63 rfl ?_
                  refine G_istore_n (L' := [(2, .int g327729), (3, .int g327729), (0, .ref q327128), (1, .int p327129)]) dr_cX17_next_64 (Nat.le_of_ble_eq_true rfl) rfl ?_
                  refine G_goto 165 dr_cX17_next_65 (by decide +kernel) ?_
                  obtain ⟨z327819, hz327819⟩ : ∃ z : Int32, z = g327729 + Int32.ofInt 1 := ⟨_, rfl⟩
                  have ez327819 : z327819.toInt = g327729.toInt + 1 := gI_inc hz327819 (by decide) bg327729' (by decide) (by decide)
                  have bz327819 : gB z327819 1 2000 := ⟨by omega, by omega⟩
                  refine G_iinc (L' := [(3, .int z327819), (2, .int g327729), (0, .ref q327128), (1, .int p327129)]) z327819 1 dr_cX17_next_165 rfl hz327819.symm (Nat.le_of_ble_eq_true rfl) rfl ?_
                  refine G_goto 40 dr_cX17_next_168 (by decide +kernel) ?_
                  exact ih40_327732 z327819 g327729 (gB_w bz327819 (by decide) (by decide)) (gB_w bg327729' (by decide) (by decide)) (by first | exact fun h => absurd h (by omega) | exact fun h => (by rw [ez327819]; rw [cB_of he327179]; have q := x327731; rw [cB_of he327179] at q; exact nx_0 (q h) hz327737 (by omega) rfl)) (fun _ => by rw [cB_of he327179]; exact sd_of hz327737 (by omega) (by omega) (by omega)) (by omega)
              · have r327820 : z327737.toInt = 0 := gj_eq hc327738 (show Int32.toInt 0 = 0 by decide)
                have bz327737' : gB z327737 0 0 := ⟨by omega, by omega⟩
                refine G_goto 165 dr_cX17_next_56 (by decide +kernel) ?_
                obtain ⟨z327821, hz327821⟩ : ∃ z : Int32, z = g327729 + Int32.ofInt 1 := ⟨_, rfl⟩
                have ez327821 : z327821.toInt = g327729.toInt + 1 := gI_inc hz327821 (by decide) bg327729' (by decide) (by decide)
                have bz327821 : gB z327821 1 2000 := ⟨by omega, by omega⟩
                refine G_iinc (L' := [(3, .int z327821), (2, .int g327730), (0, .ref q327128), (1, .int p327129)]) z327821 0 dr_cX17_next_165 rfl hz327821.symm (Nat.le_of_ble_eq_true rfl) rfl ?_
                refine G_goto 40 dr_cX17_next_168 (by decide +kernel) ?_
                exact ih40_327732 z327821 g327730 (gB_w bz327821 (by decide) (by decide)) bg327730 (by first | exact fun h => absurd h (by omega) | exact fun h => (by rw [ez327821]; rw [cB_of he327179]; have q := x327731; rw [cB_of he327179] at q; exact nx_0 (q h) hz327737 (by omega) rfl)) x327732 (by omega)
        exact hlp40_327732 (((2001 : Int) - 0).toNat + 1) 0 (-1) (gB_w (gBl (show Int32.toInt 0 = 0 by decide)) (by decide) (by decide)) (gB_w (gBl (show Int32.toInt (-1) = (-1) by decide)) (by decide) (by decide)) (fun _ m hm => absurd hm (by have qa : Int32.toInt 0 = 0 := (by decide); omega)) (fun h => absurd h (by decide)) (Nat.lt_succ_self _)
      · have r327822 : g327635.toInt < 2000 := gj_nleL hc327637 (show Int32.toInt 2000 = 2000 by decide)
        have bg327635' : gB g327635 0 1999 := ⟨by omega, by omega⟩
        refine G_aload_n 1 dr_cX17_next_9 rfl ?_
        refine Gp_get 18 hm327131 he327132 dr_cX17_next_10 (gk_X17 D I) (Nat.le_of_ble_eq_true rfl) wr_7_92 rfl ?_
        refine G_iload_n 0 dr_cX17_next_13 rfl ?_
        refine Gp_zald 3 hm327178 he327179 dr_cX17_next_14 rfl (gB_in bg327635' (by decide) (by decide)) (G_nam fun z327823 hz327823 => ?_)
        have bz327823 : gB z327823 0 1 := by rw [hz327823]; exact bf327180 _
        refine G_if_eq 30 dr_cX17_next_15 (by decide +kernel) (fun hc327824 => ?_) (fun hc327824 => ?_)
        · have r327825 : z327823.toInt = 0 := gj_eq hc327824 (show Int32.toInt 0 = 0 by decide)
          have bz327823' : gB z327823 0 0 := ⟨by omega, by omega⟩
          obtain ⟨z327826, hz327826⟩ : ∃ z : Int32, z = g327635 + Int32.ofInt 1 := ⟨_, rfl⟩
          have ez327826 : z327826.toInt = g327635.toInt + 1 := gI_inc hz327826 (by decide) bg327635' (by decide) (by decide)
          have bz327826 : gB z327826 1 2000 := ⟨by omega, by omega⟩
          refine G_iinc (L' := [(2, .int z327826), (0, .ref q327128), (1, .int p327129)]) z327826 0 dr_cX17_next_30 rfl hz327826.symm (Nat.le_of_ble_eq_true rfl) rfl ?_
          refine G_goto 2 dr_cX17_next_33 (by decide +kernel) ?_
          exact ih2_327635 z327826 (gB_w bz327826 (by decide) (by decide)) (by omega)
        · have r327827 : z327823.toInt ≠ 0 := gj_neq hc327824 (show Int32.toInt 0 = 0 by decide)
          have bz327823' : gB z327823 1 1 := ⟨by omega, by omega⟩
          refine G_aload_n 1 dr_cX17_next_18 rfl ?_
          refine Gp_get 16 hm327131 he327132 dr_cX17_next_19 (gk_X17 D I) (Nat.le_of_ble_eq_true rfl) wr_7_90 rfl ?_
          refine G_iload_n 0 dr_cX17_next_22 rfl ?_
          have hm327828 : (γ 9 16) ∈ P327126 := RS_m hT ht327162 (by decide)
          obtain ⟨f327830, he327829⟩ := show rk_19 I (F327127 (γ 9 16)) from RS_o hT ht327162
          refine Gp_iald 0 hm327828 he327829 dr_cX17_next_23 rfl (gB_in bg327635' (by decide) (by decide)) (G_nam fun z327831 hz327831 => ?_)
          have bz327831 : gB z327831 (-2147483648) 2147483647 := gB_any z327831
          refine G_iload_n 2 dr_cX17_next_24 rfl ?_
          refine G_icmp_ge 30 dr_cX17_next_25 (by decide +kernel) (fun hc327832 => ?_) (fun hc327832 => ?_)
          · have r327833 : p327129.toInt ≤ z327831.toInt := gC_le hc327832
            obtain ⟨z327834, hz327834⟩ : ∃ z : Int32, z = g327635 + Int32.ofInt 1 := ⟨_, rfl⟩
            have ez327834 : z327834.toInt = g327635.toInt + 1 := gI_inc hz327834 (by decide) bg327635' (by decide) (by decide)
            have bz327834 : gB z327834 1 2000 := ⟨by omega, by omega⟩
            refine G_iinc (L' := [(2, .int z327834), (0, .ref q327128), (1, .int p327129)]) z327834 0 dr_cX17_next_30 rfl hz327834.symm (Nat.le_of_ble_eq_true rfl) rfl ?_
            refine G_goto 2 dr_cX17_next_33 (by decide +kernel) ?_
            exact ih2_327635 z327834 (gB_w bz327834 (by decide) (by decide)) (by omega)
          · have r327835 : z327831.toInt < p327129.toInt := gC_nle hc327832
            have bz327831' : gB z327831 (-2147483648) 2147483646 := ⟨by omega, by omega⟩
            have bp327129' : gB p327129 (-2147483647) 2147483647 := ⟨by omega, by omega⟩
            refine G_iload_n 0 dr_cX17_next_28 rfl ?_
            exact G_iretA dr_cX17_next_29 rfl (Nat.le_of_ble_eq_true rfl) (Nat.le_of_ble_eq_true rfl) ⟨g327635, rfl, rfl, (Nat.le_of_ble_eq_true rfl), (Nat.le_of_ble_eq_true rfl), (gB_w bg327635' (by decide) (by decide)), (fun _ => by rw [cB_of he327179]; exact sd_of hz327823 (by omega) (by omega) (by omega)), (fun h => absurd h (by omega))⟩
  exact hlp2_327635 (((2001 : Int) - 0).toNat + 1) 0 (gB_w (gBl (show Int32.toInt 0 = 0 by decide)) (by decide) (by decide)) (Nat.lt_succ_self _)
abbrev ky_326340_SpillForgeModel_colours : gKey := (cX17_colours, 8, "SpillForgeModel", (some FieldType.int), [], "colours", fun _ _ => True)
def pt_326340_SpillForgeModel_colours (D : va_G) (I : FieldType → ClassId) (γ el : Nat → Nat → Nat) (P326336 : List Nat) (F326337 : Nat → va_E) (q326338 : Nat) (p326339 : Int32) : Option Value → va_W → Nat → Nat → Prop := fun r w dc ds => ∃ (F334807 : Nat → va_E) (o334806 : Int32), r = some (.int o334806) ∧ w = va_pl P326336 F334807 ∧ RS D I P326336 F334807 γ el ∧ rStr γ [] F326337 F334807 ∧ dc ≤ 0 ∧ ds ≤ 0 ∧ gB o334806 0 2000 ∧ (gIp (o334806.toInt = 0) (∀ m : Nat, rSd (cB (F334807 (γ 9 3))) m → 0 ≤ (cB (F334807 (γ 9 17)) m).toInt)) ∧ (F334807 q326338 = F326337 q326338) ∧ (F334807 (γ 9 3) = F326337 (γ 9 3))
set_option maxRecDepth 100000 in
set_option maxHeartbeats 4000000 in
theorem ct_326340_SpillForgeModel_colours (l : Launch) (hl0 : l.stackTraces = false) (D : va_G) (I : FieldType → ClassId) (γ el : Nat → Nat → Nat) (P326336 : List Nat) (F326337 : Nat → va_E) (q326338 : Nat) (p326339 : Int32) (hT : RS D I P326336 F326337 γ el) (htq326338 : rKd γ q326338 10) (bp326339 : gB p326339 1 32) : CtA (gV D I) l yX17_colours cX17_colours 8 (some FieldType.int) 2 43 0 0 [.ref q326338, .int p326339] (va_pl P326336 F326337) (pt_326340_SpillForgeModel_colours D I γ el P326336 F326337 q326338 p326339) gNA := by
  refine CtA_of hl0 (by decide) (Nat.le_of_ble_eq_true rfl) ?_
  have hm326341 : q326338 ∈ P326336 := RS_m hT htq326338 (by decide)
  refine rk10_e (show rk_10 γ (F326337 q326338) from RS_o hT htq326338) (fun q326343 q326344 p326345 p326346 p326347 p326348 p326349 p326350 p326351 p326352 p326353 p326354 p326355 p326356 p326357 p326358 p326359 he326342 hB326386 ht326360 ht326361 ht326362 ht326363 ht326364 ht326365 ht326366 ht326367 ht326368 ht326369 ht326370 ht326371 ht326372 ht326373 ht326374 ht326375 ht326376 ht326377 ht326378 ht326379 ht326380 ht326381 ht326382 ht326383 hB326387 => ?_)
  have hm326388 : (γ 9 3) ∈ P326336 := RS_m hT ht326365 (by decide)
  obtain ⟨f326390, he326389, bf326390⟩ := show rk_14 I (F326337 (γ 9 3)) from RS_o hT ht326365
  have hm326391 : (γ 9 18) ∈ P326336 := RS_m hT ht326374 (by decide)
  obtain ⟨f326393, he326392, bf326393⟩ := show rk_15 I (F326337 (γ 9 18)) from RS_o hT ht326374
  have hm326394 : (γ 9 15) ∈ P326336 := RS_m hT ht326371 (by decide)
  obtain ⟨f326396, he326395, bf326396⟩ := show rk_18 I (F326337 (γ 9 15)) from RS_o hT ht326371
  have hm326397 : (γ 9 17) ∈ P326336 := RS_m hT ht326373 (by decide)
  obtain ⟨f326399, he326398, bf326399⟩ := show rk_20 I (F326337 (γ 9 17)) from RS_o hT ht326373
  refine G_iconst 0 dr_cX17_colours_0 (by decide +kernel) ?_
  refine G_istore_n (L' := [(2, .int 0), (0, .ref q326338), (1, .int p326339)]) dr_cX17_colours_1 (Nat.le_of_ble_eq_true rfl) rfl ?_
  have hlp2_333565 : ∀ (n2_333565 : Nat) (F333560 : Nat → va_E) (g333559 : Int32), gB g333559 0 2000 → RS D I P326336 F333560 γ el → rStr γ [] F326337 F333560 → (∀ m : Nat, (m : Int) < g333559.toInt → rSd (cB (F333560 (γ 9 3))) m → rSd (cB (F333560 (γ 9 18))) m) → (F333560 q326338 = F326337 q326338) → (F333560 (γ 9 3) = F326337 (γ 9 3)) → ((2001 : Int) - g333559.toInt).toNat < n2_333565 → G (gV D I) l (gRm 2 43 0 0) (gMA (gV D I) (pt_326340_SpillForgeModel_colours D I γ el P326336 F326337 q326338 p326339) gNA 0 0) ky_326340_SpillForgeModel_colours 2 [(2, .int g333559), (0, .ref q326338), (1, .int p326339)] [] (va_pl P326336 F333560) 0 0 := by
    intro n2_333565
    induction n2_333565 with
    | zero => intro F333560 g333559 bg333559 hT333561 hs333562 x333563 x333564 x333565 hm2_333565; exact absurd hm2_333565 (Nat.not_lt_zero _)
    | succ n2_333565 ih2_333565 =>
      intro F333560 g333559 bg333559 hT333561 hs333562 x333563 x333564 x333565 hm2_333565
      have hs333567 : rStr γ [] F326337 F333560 := fun b h0 hb hw => (hs333562 b h0 hb hw).trans ((rStr_rf (γ := γ) (W := []) (F := F326337)) b h0 hb hw).symm
      have hs333568 : rStr γ [] F326337 F333560 := rStr_tr (rStr_rf (γ := γ) (W := []) (F := F326337)) hs333567
      have he333569 : F333560 q326338 = .inr (22, [.ref (γ 9 0), .ref (γ 9 1), .ref (γ 9 2), .ref (γ 9 3), .ref (γ 9 4), .ref (γ 9 5), .ref (γ 9 6), .ref (γ 9 7), .ref (γ 9 8), .int p326345, .int p326346, .int p326347, .int p326348, .int p326349, .int p326350, .ref (γ 9 15), .ref (γ 9 16), .ref (γ 9 17), .ref (γ 9 18), .ref (γ 9 19), .ref (γ 9 20), .ref (γ 9 21), .ref (γ 9 22), .int p326351, .int p326352, .int p326353, .int p326354, .int p326355, .ref q326343, .ref (γ 9 29), .int p326356, .ref (γ 9 31), .int p326357, .int p326358, .int p326359, .ref q326344]) := x333564.trans he326342
      have hm333570 : q326338 ∈ P326336 := RS_m hT333561 htq326338 (by decide)
      have he333571 : F333560 (γ 9 3) = .inl (I .boolean, 2000, .inl f326390) := x333565.trans he326389
      have hm333572 : (γ 9 3) ∈ P326336 := RS_m hT333561 ht326365 (by decide)
      have hm333573 : (γ 9 18) ∈ P326336 := RS_m hT333561 ht326374 (by decide)
      obtain ⟨f333575, he333574, bf333575⟩ := show rk_15 I (F333560 (γ 9 18)) from RS_o hT333561 ht326374
      have hm333576 : (γ 9 15) ∈ P326336 := RS_m hT333561 ht326371 (by decide)
      obtain ⟨f333578, he333577, bf333578⟩ := show rk_18 I (F333560 (γ 9 15)) from RS_o hT333561 ht326371
      have hm333579 : (γ 9 17) ∈ P326336 := RS_m hT333561 ht326373 (by decide)
      obtain ⟨f333581, he333580, bf333581⟩ := show rk_20 I (F333560 (γ 9 17)) from RS_o hT333561 ht326373
      have cq333582 := x333563
      rw [cB_of he333571, cB_of he333574] at cq333582
      refine G_iload_n 0 dr_cX17_colours_2 rfl ?_
      refine G_sipush 2000 dr_cX17_colours_3 (by decide +kernel) ?_
      refine G_icmp_ge 62 dr_cX17_colours_6 (by decide +kernel) (fun hc333583 => ?_) (fun hc333583 => ?_)
      · have r333584 : 2000 ≤ g333559.toInt := gj_leL hc333583 (show Int32.toInt 2000 = 2000 by decide)
        have bg333559' : gB g333559 2000 2000 := ⟨by omega, by omega⟩
        refine G_iconst 0 dr_cX17_colours_62 (by decide +kernel) ?_
        refine G_istore_n (L' := [(2, .int 0), (0, .ref q326338), (1, .int p326339)]) dr_cX17_colours_63 (Nat.le_of_ble_eq_true rfl) rfl ?_
        refine G_aload_n 1 dr_cX17_colours_64 rfl ?_
        refine G_iload_n 2 dr_cX17_colours_65 rfl ?_
        refine Gw_callV (As := [.int p326339]) (gV_ok D I) (ct_327130_SpillForgeModel_next l hl0 D I γ el P326336 F333560 q326338 p326339 hT333561 htq326338) dr_cX17_colours_66 ⟨wr_11_51, wr_1_14, wr_11_54, by decide, rfl, (Nat.le_of_ble_eq_true rfl), (Nat.le_of_ble_eq_true rfl)⟩ wr_11_53 wr_p_107 hm333570 he333569 rfl (show 0 + 0 ≤ 0 by first | omega | decide) (show 0 + 0 ≤ 0 by first | omega | decide) (Nat.le_of_ble_eq_true rfl) (fun r333588 w333589 dc333585 ds333586 hp333587 => ?_) (fun _ _ _ _ _ z => z.elim)
        obtain ⟨o333590, rfl, rfl, hdc, hds, bo333590, x333591, x333592⟩ := hp333587
        change G _ _ _ _ _ _ _ (.int o333590 :: _) _ _ _
        refine G_widen (cs' := 0) (sl' := 0) (by omega) (by omega) ?_
        refine G_istore_n (L' := [(3, .int o333590), (2, .int 0), (0, .ref q326338), (1, .int p326339)]) dr_cX17_colours_69 (Nat.le_of_ble_eq_true rfl) rfl ?_
        have hlp70_334150 : ∀ (n70_334150 : Nat) (F334142 : Nat → va_E) (g334140 : Int32) (g334141 : Int32), gB g334140 (-1) 1999 → gB g334141 0 2000 → RS D I P326336 F334142 γ el → rStr γ [] F326337 F334142 → (∀ m : Nat, rSd (cB (F334142 (γ 9 3))) m → rSd (cB (F334142 (γ 9 18))) m ∨ ∃ i : Nat, (i : Int) < g334141.toInt ∧ (cB (F334142 (γ 9 15)) i).toInt = m) → (rcn (cB (F334142 (γ 9 18))) 2000 + (g334141.toInt : Int).toNat ≤ 2000) → (gIp (0 ≤ g334140.toInt) (rSd (cB (F334142 (γ 9 18))) (g334140.toInt : Int).toNat)) → (gIp (g334140.toInt < 0) (∀ m : Nat, ¬ rSd (cB (F334142 (γ 9 18))) m)) → (F334142 q326338 = F326337 q326338) → (F334142 (γ 9 3) = F326337 (γ 9 3)) → (rcn (cB (F334142 (γ 9 18))) 2000) < n70_334150 → G (gV D I) l (gRm 2 43 0 0) (gMA (gV D I) (pt_326340_SpillForgeModel_colours D I γ el P326336 F326337 q326338 p326339) gNA 0 0) ky_326340_SpillForgeModel_colours 70 [(3, .int g334140), (2, .int g334141), (0, .ref q326338), (1, .int p326339)] [] (va_pl P326336 F334142) 0 0 := by
          intro n70_334150
          induction n70_334150 with
          | zero => intro F334142 g334140 g334141 bg334140 bg334141 hT334143 hs334144 x334145 x334146 x334147 x334148 x334149 x334150 hm70_334150; exact absurd hm70_334150 (Nat.not_lt_zero _)
          | succ n70_334150 ih70_334150 =>
            intro F334142 g334140 g334141 bg334140 bg334141 hT334143 hs334144 x334145 x334146 x334147 x334148 x334149 x334150 hm70_334150
            have hs334152 : rStr γ [] F333560 F334142 := fun b h0 hb hw => (hs334144 b h0 hb hw).trans (hs333562 b h0 hb hw).symm
            have hs334153 : rStr γ [] F326337 F334142 := rStr_tr hs333562 hs334152
            have he334154 : F334142 q326338 = .inr (22, [.ref (γ 9 0), .ref (γ 9 1), .ref (γ 9 2), .ref (γ 9 3), .ref (γ 9 4), .ref (γ 9 5), .ref (γ 9 6), .ref (γ 9 7), .ref (γ 9 8), .int p326345, .int p326346, .int p326347, .int p326348, .int p326349, .int p326350, .ref (γ 9 15), .ref (γ 9 16), .ref (γ 9 17), .ref (γ 9 18), .ref (γ 9 19), .ref (γ 9 20), .ref (γ 9 21), .ref (γ 9 22), .int p326351, .int p326352, .int p326353, .int p326354, .int p326355, .ref q326343, .ref (γ 9 29), .int p326356, .ref (γ 9 31), .int p326357, .int p326358, .int p326359, .ref q326344]) := x334149.trans he326342
            have hm334155 : q326338 ∈ P326336 := RS_m hT334143 htq326338 (by decide)
            have he334156 : F334142 (γ 9 3) = .inl (I .boolean, 2000, .inl f326390) := x334150.trans he326389
            have hm334157 : (γ 9 3) ∈ P326336 := RS_m hT334143 ht326365 (by decide)
            have hm334158 : (γ 9 18) ∈ P326336 := RS_m hT334143 ht326374 (by decide)
            obtain ⟨f334160, he334159, bf334160⟩ := show rk_15 I (F334142 (γ 9 18)) from RS_o hT334143 ht326374
            have hm334161 : (γ 9 15) ∈ P326336 := RS_m hT334143 ht326371 (by decide)
            obtain ⟨f334163, he334162, bf334163⟩ := show rk_18 I (F334142 (γ 9 15)) from RS_o hT334143 ht326371
            have hm334164 : (γ 9 17) ∈ P326336 := RS_m hT334143 ht326373 (by decide)
            obtain ⟨f334166, he334165, bf334166⟩ := show rk_20 I (F334142 (γ 9 17)) from RS_o hT334143 ht326373
            have cq334167 := x334145
            rw [cB_of he334156, cB_of he334159, cB_of he334162] at cq334167
            have cq334168 := x334146
            rw [cB_of he334159] at cq334168
            have cq334169 := x334147
            rw [cB_of he334159] at cq334169
            have cq334170 := x334148
            rw [cB_of he334159] at cq334170
            refine G_iload_n 0 dr_cX17_colours_70 rfl ?_
            refine G_if_lt 142 dr_cX17_colours_71 (by decide +kernel) (fun hc334171 => ?_) (fun hc334171 => ?_)
            · have r334172 : g334140.toInt < 0 := gj_lt hc334171 (show Int32.toInt 0 = 0 by decide)
              have bg334140' : gB g334140 (-1) (-1) := ⟨by omega, by omega⟩
              refine G_iconst 0 dr_cX17_colours_142 (by decide +kernel) ?_
              refine G_istore_n (L' := [(3, .int 0), (2, .int g334141), (0, .ref q326338), (1, .int p326339)]) dr_cX17_colours_143 (Nat.le_of_ble_eq_true rfl) rfl ?_
              have hlp144_334342 : ∀ (n144_334342 : Nat) (F334336 : Nat → va_E) (g334334 : Int32) (g334335 : Int32), gB g334334 0 2000 → gB g334335 0 2000 → RS D I P326336 F334336 γ el → rStr γ [] F326337 F334336 → (gIp (g334334.toInt = 0) (∀ m : Nat, rSd (cB (F334336 (γ 9 3))) m → (∃ i : Nat, (i : Int) < g334335.toInt ∧ (cB (F334336 (γ 9 15)) i).toInt = m) ∨ 0 ≤ (cB (F334336 (γ 9 17)) m).toInt)) → (g334334.toInt + g334335.toInt ≤ 2000) → (F334336 q326338 = F326337 q326338) → (F334336 (γ 9 3) = F326337 (γ 9 3)) → ((g334335.toInt : Int) - (-1)).toNat < n144_334342 → G (gV D I) l (gRm 2 43 0 0) (gMA (gV D I) (pt_326340_SpillForgeModel_colours D I γ el P326336 F326337 q326338 p326339) gNA 0 0) ky_326340_SpillForgeModel_colours 144 [(3, .int g334334), (2, .int g334335), (0, .ref q326338), (1, .int p326339)] [] (va_pl P326336 F334336) 0 0 := by
                intro n144_334342
                induction n144_334342 with
                | zero => intro F334336 g334334 g334335 bg334334 bg334335 hT334337 hs334338 x334339 x334340 x334341 x334342 hm144_334342; exact absurd hm144_334342 (Nat.not_lt_zero _)
                | succ n144_334342 ih144_334342 =>
                  intro F334336 g334334 g334335 bg334334 bg334335 hT334337 hs334338 x334339 x334340 x334341 x334342 hm144_334342
                  have hs334344 : rStr γ [] F334142 F334336 := fun b h0 hb hw => (hs334338 b h0 hb hw).trans (hs334144 b h0 hb hw).symm
                  have hs334345 : rStr γ [] F326337 F334336 := rStr_tr hs334144 hs334344
                  have he334346 : F334336 q326338 = .inr (22, [.ref (γ 9 0), .ref (γ 9 1), .ref (γ 9 2), .ref (γ 9 3), .ref (γ 9 4), .ref (γ 9 5), .ref (γ 9 6), .ref (γ 9 7), .ref (γ 9 8), .int p326345, .int p326346, .int p326347, .int p326348, .int p326349, .int p326350, .ref (γ 9 15), .ref (γ 9 16), .ref (γ 9 17), .ref (γ 9 18), .ref (γ 9 19), .ref (γ 9 20), .ref (γ 9 21), .ref (γ 9 22), .int p326351, .int p326352, .int p326353, .int p326354, .int p326355, .ref q326343, .ref (γ 9 29), .int p326356, .ref (γ 9 31), .int p326357, .int p326358, .int p326359, .ref q326344]) := x334341.trans he326342
                  have hm334347 : q326338 ∈ P326336 := RS_m hT334337 htq326338 (by decide)
                  have he334348 : F334336 (γ 9 3) = .inl (I .boolean, 2000, .inl f326390) := x334342.trans he326389
                  have hm334349 : (γ 9 3) ∈ P326336 := RS_m hT334337 ht326365 (by decide)
                  have hm334350 : (γ 9 18) ∈ P326336 := RS_m hT334337 ht326374 (by decide)
                  obtain ⟨f334352, he334351, bf334352⟩ := show rk_15 I (F334336 (γ 9 18)) from RS_o hT334337 ht326374
                  have hm334353 : (γ 9 15) ∈ P326336 := RS_m hT334337 ht326371 (by decide)
                  obtain ⟨f334355, he334354, bf334355⟩ := show rk_18 I (F334336 (γ 9 15)) from RS_o hT334337 ht326371
                  have hm334356 : (γ 9 17) ∈ P326336 := RS_m hT334337 ht326373 (by decide)
                  obtain ⟨f334358, he334357, bf334358⟩ := show rk_20 I (F334336 (γ 9 17)) from RS_o hT334337 ht326373
                  have cq334359 := x334339
                  rw [cB_of he334348, cB_of he334354, cB_of he334357] at cq334359
                  refine G_iload_n 1 dr_cX17_colours_144 rfl ?_
                  refine G_if_le 253 dr_cX17_colours_145 (by decide +kernel) (fun hc334360 => ?_) (fun hc334360 => ?_)
                  · have r334361 : g334335.toInt ≤ 0 := gj_le hc334360 (show Int32.toInt 0 = 0 by decide)
                    have bg334335' : gB g334335 0 0 := ⟨by omega, by omega⟩
                    refine G_iload_n 0 dr_cX17_colours_253 rfl ?_
                    exact G_iretA dr_cX17_colours_254 rfl (Nat.le_of_ble_eq_true rfl) (Nat.le_of_ble_eq_true rfl) ⟨F334336, g334334, rfl, rfl, hT334337, hs334338, (Nat.le_of_ble_eq_true rfl), (Nat.le_of_ble_eq_true rfl), bg334334, (fun h0 m s => by rw [cB_of he334357]; rw [cB_of he334348] at s; exact (cq334359 h0 m s).resolve_left (fun ⟨i, hi, _⟩ => absurd hi (by omega))), x334341, x334342⟩
                  · have r334362 : 0 < g334335.toInt := gj_nle hc334360 (show Int32.toInt 0 = 0 by decide)
                    have bg334335' : gB g334335 1 2000 := ⟨by omega, by omega⟩
                    obtain ⟨z334363, hz334363⟩ : ∃ z : Int32, z = g334335 + Int32.ofInt (-1) := ⟨_, rfl⟩
                    have ez334363 : z334363.toInt = g334335.toInt + (-1) := gI_inc hz334363 (by decide) bg334335' (by decide) (by decide)
                    have bz334363 : gB z334363 0 1999 := ⟨by omega, by omega⟩
                    refine G_iinc (L' := [(2, .int z334363), (3, .int g334334), (0, .ref q326338), (1, .int p326339)]) z334363 1 dr_cX17_colours_148 rfl hz334363.symm (Nat.le_of_ble_eq_true rfl) rfl ?_
                    refine G_aload_n 2 dr_cX17_colours_151 rfl ?_
                    refine Gp_get 15 hm334347 he334346 dr_cX17_colours_152 (gk_X17 D I) (Nat.le_of_ble_eq_true rfl) wr_7_89 rfl ?_
                    refine G_iload_n 0 dr_cX17_colours_155 rfl ?_
                    refine Gp_iald 0 hm334353 he334354 dr_cX17_colours_156 rfl (gB_in bz334363 (by decide) (by decide)) (G_nam fun z334364 hz334364 => ?_)
                    have bz334364 : gB z334364 0 1999 := by rw [hz334364]; exact bf334355 _
                    refine G_istore (L' := [(4, .int z334364), (2, .int z334363), (3, .int g334334), (0, .ref q326338), (1, .int p326339)]) dr_cX17_colours_157 (Nat.le_of_ble_eq_true rfl) rfl ?_
                    refine G_lconst 0 dr_cX17_colours_159 rfl ?_
                    refine G_lstore (L' := [(5, .long 0), (4, .int z334364), (2, .int z334363), (3, .int g334334), (0, .ref q326338), (1, .int p326339)]) dr_cX17_colours_160 (Nat.le_of_ble_eq_true rfl) rfl ?_
                    refine G_iconst 0 dr_cX17_colours_162 (by decide +kernel) ?_
                    refine G_istore (L' := [(7, .int 0), (5, .long 0), (4, .int z334364), (2, .int z334363), (3, .int g334334), (0, .ref q326338), (1, .int p326339)]) dr_cX17_colours_163 (Nat.le_of_ble_eq_true rfl) rfl ?_
                    have hlp165_334434 : ∀ (n165_334434 : Nat) (g334432 : Int32) (gl334433 : Int64), gB g334432 0 2000 → lb_Q gl334433 (32) → ((2001 : Int) - g334432.toInt).toNat < n165_334434 → G (gV D I) l (gRm 2 43 0 0) (gMA (gV D I) (pt_326340_SpillForgeModel_colours D I γ el P326336 F326337 q326338 p326339) gNA 0 0) ky_326340_SpillForgeModel_colours 165 [(7, .int g334432), (5, .long gl334433), (4, .int z334364), (2, .int z334363), (3, .int g334334), (0, .ref q326338), (1, .int p326339)] [] (va_pl P326336 F334336) 0 0 := by
                      intro n165_334434
                      induction n165_334434 with
                      | zero => intro g334432 gl334433 bg334432 x334434 hm165_334434; exact absurd hm165_334434 (Nat.not_lt_zero _)
                      | succ n165_334434 ih165_334434 =>
                        intro g334432 gl334433 bg334432 x334434 hm165_334434
                        refine G_iload 0 dr_cX17_colours_165 rfl ?_
                        refine G_sipush 2000 dr_cX17_colours_167 (by decide +kernel) ?_
                        refine G_icmp_ge 218 dr_cX17_colours_170 (by decide +kernel) (fun hc334436 => ?_) (fun hc334436 => ?_)
                        · have r334437 : 2000 ≤ g334432.toInt := gj_leL hc334436 (show Int32.toInt 2000 = 2000 by decide)
                          have bg334432' : gB g334432 2000 2000 := ⟨by omega, by omega⟩
                          refine G_lload 1 dr_cX17_colours_218 rfl ?_
                          refine G_ldc2 (-1) dr_cX17_colours_220 wr_10_188 ?_
                          refine G_lxor dr_cX17_colours_223 (G_namL fun u334438 hu334438 => ?_)
                          refine Gw_callS (As := [.long u334438]) (gV_ok D I) (nzc_Long_numberOfTrailingZeros l hl0 D I P326336 F334336 u334438) dr_cX17_colours_224 ⟨wr_11_1, wr_1_31, wr_11_3, by decide, rfl, (Nat.le_of_ble_eq_true rfl), (Nat.le_of_ble_eq_true rfl)⟩ wr_11_2 (show 0 + 0 ≤ 0 by first | omega | decide) (show 0 + 0 ≤ 0 by first | omega | decide) (Nat.le_of_ble_eq_true rfl) (fun r334442 w334443 dc334439 ds334440 hp334441 => ?_) (fun _ _ _ _ _ z => z.elim)
                          obtain ⟨o334445, rfl, rfl, hdc, hds, hO334444⟩ := hp334441
                          have hO334444 := hO334444 (nz_x hu334438 x334434)
                          have bo334445 : gB o334445 0 63 := ⟨hO334444.1, hO334444.2.1⟩
                          change G _ _ _ _ _ _ _ (.int o334445 :: _) _ _ _
                          refine G_widen (cs' := 0) (sl' := 0) (by omega) (by omega) ?_
                          refine G_istore (L' := [(7, .int o334445), (5, .long gl334433), (4, .int z334364), (2, .int z334363), (3, .int g334334), (0, .ref q326338), (1, .int p326339)]) dr_cX17_colours_227 (Nat.le_of_ble_eq_true rfl) rfl ?_
                          refine G_iload 0 dr_cX17_colours_229 rfl ?_
                          refine G_iload_n 6 dr_cX17_colours_231 rfl ?_
                          refine G_icmp_ge 247 dr_cX17_colours_232 (by decide +kernel) (fun hc334446 => ?_) (fun hc334446 => ?_)
                          · have r334447 : p326339.toInt ≤ o334445.toInt := gC_le hc334446
                            have bo334445' : gB o334445 1 63 := ⟨by omega, by omega⟩
                            have bg334334' : gB g334334 0 1999 := ⟨by omega, by omega⟩
                            obtain ⟨z334448, hz334448⟩ : ∃ z : Int32, z = g334334 + Int32.ofInt 1 := ⟨_, rfl⟩
                            have ez334448 : z334448.toInt = g334334.toInt + 1 := gI_inc hz334448 (by decide) bg334334' (by decide) (by decide)
                            have bz334448 : gB z334448 1 2000 := ⟨by omega, by omega⟩
                            refine G_iinc (L' := [(3, .int z334448), (7, .int o334445), (5, .long gl334433), (4, .int z334364), (2, .int z334363), (0, .ref q326338), (1, .int p326339)]) z334448 4 dr_cX17_colours_247 rfl hz334448.symm (Nat.le_of_ble_eq_true rfl) rfl ?_
                            refine G_goto 144 dr_cX17_colours_250 (by decide +kernel) ?_
                            refine G_lv (L' := [(3, .int z334448), (2, .int z334363), (0, .ref q326338), (1, .int p326339)]) [0, 4, 5, 6] rfl ?_
                            exact ih144_334342 F334336 z334448 z334363 (gB_w bz334448 (by decide) (by decide)) (gB_w bz334363 (by decide) (by decide)) hT334337 hs334338 (fun h0 => absurd h0 (by omega)) (by omega) x334341 x334342 (mz_dn ez334363 (Int.le_trans (by decide) bg334335'.1) hm144_334342)
                          · have r334449 : o334445.toInt < p326339.toInt := gC_nle hc334446
                            have bo334445' : gB o334445 0 31 := ⟨by omega, by omega⟩
                            refine G_aload_n 5 dr_cX17_colours_235 rfl ?_
                            refine Gp_get 17 hm334347 he334346 dr_cX17_colours_236 (gk_X17 D I) (Nat.le_of_ble_eq_true rfl) wr_7_91 rfl ?_
                            refine G_iload 2 dr_cX17_colours_239 rfl ?_
                            refine G_iload 0 dr_cX17_colours_241 rfl ?_
                            refine Gp_iast 0 hm334356 he334357 dr_cX17_colours_243 rfl (gB_in bz334364 (by decide) (by decide)) (fun F334450 e334451 n334452 => ?_)
                            obtain ⟨f334453, hf334453⟩ : ∃ z, z = upd f334358 z334364.toNatClampNeg o334445 := ⟨_, rfl⟩
                            rw [← hf334453] at e334451
                            have he334454 : F334450 q326338 = .inr (22, [.ref (γ 9 0), .ref (γ 9 1), .ref (γ 9 2), .ref (γ 9 3), .ref (γ 9 4), .ref (γ 9 5), .ref (γ 9 6), .ref (γ 9 7), .ref (γ 9 8), .int p326345, .int p326346, .int p326347, .int p326348, .int p326349, .int p326350, .ref (γ 9 15), .ref (γ 9 16), .ref (γ 9 17), .ref (γ 9 18), .ref (γ 9 19), .ref (γ 9 20), .ref (γ 9 21), .ref (γ 9 22), .int p326351, .int p326352, .int p326353, .int p326354, .int p326355, .ref q326343, .ref (γ 9 29), .int p326356, .ref (γ 9 31), .int p326357, .int p326358, .int p326359, .ref q326344]) := (n334452 q326338 (rn_oa he334346 he334357)).trans he334346
                            have he334455 : F334450 (γ 9 3) = .inl (I .boolean, 2000, .inl f326390) := (n334452 (γ 9 3) (rn_ty ht326365 ht326373 (by decide))).trans he334348
                            have he334456 : F334450 (γ 9 18) = .inl (I .boolean, 2000, .inl f334352) := (n334452 (γ 9 18) (rn_ty ht326374 ht326373 (by decide))).trans he334351
                            have he334457 : F334450 (γ 9 15) = .inl (I .int, 2000, .inl f334355) := (n334452 (γ 9 15) (rn_ty ht326371 ht326373 (by decide))).trans he334354
                            have he334458 : F334450 (γ 9 17) = .inl (I .int, 2000, .inl f334453) := e334451
                            have hs334459 : rStr γ [] F326337 F334450 := rStr_put hs334338 n334452 ht326373 (by decide)
                            have kp334460 : F334450 q326338 = F326337 q326338 := (n334452 q326338 (rn_ty htq326338 ht326373 (by decide))).trans x334341
                            have kp334461 : F334450 (γ 9 3) = F326337 (γ 9 3) := (n334452 (γ 9 3) (rn_ty ht326365 ht326373 (by decide))).trans x334342
                            have bf334453 : gF f334453 (-1) 31 := gF_upd hf334453 bf334358 (gB_w bo334445' (by decide) (by decide))
                            refine G_goto 250 dr_cX17_colours_244 (by decide +kernel) ?_
                            refine G_goto 144 dr_cX17_colours_250 (by decide +kernel) ?_
                            have hT334462 : RS D I P326336 F334450 γ el := RS_set hT334337 n334452 ht326373 (by decide) ⟨f334453, he334458, bf334453⟩
                            refine G_lv (L' := [(3, .int g334334), (2, .int z334363), (0, .ref q326338), (1, .int p326339)]) [4, 3, 5, 6] rfl ?_
                            exact ih144_334342 F334450 g334334 z334363 bg334334 (gB_w bz334363 (by decide) (by decide)) hT334462 hs334459 (by rw [cB_of he334455, cB_of he334457, cB_of he334458]; exact fun h0 => co_u hz334364 hf334453 (by omega) (by omega) (by omega) (cq334359 h0)) (by omega) kp334460 kp334461 (mz_dn ez334363 (Int.le_trans (by decide) bg334335'.1) hm144_334342)
                        · have r334463 : g334432.toInt < 2000 := gj_nleL hc334436 (show Int32.toInt 2000 = 2000 by decide)
                          have bg334432' : gB g334432 0 1999 := ⟨by omega, by omega⟩
                          refine G_aload_n 5 dr_cX17_colours_173 rfl ?_
                          refine Gp_get 17 hm334347 he334346 dr_cX17_colours_174 (gk_X17 D I) (Nat.le_of_ble_eq_true rfl) wr_7_91 rfl ?_
                          refine G_iload 0 dr_cX17_colours_177 rfl ?_
                          refine Gp_iald 0 hm334356 he334357 dr_cX17_colours_179 rfl (gB_in bg334432' (by decide) (by decide)) (G_nam fun z334464 hz334464 => ?_)
                          have bz334464 : gB z334464 (-1) 31 := by rw [hz334464]; exact bf334358 _
                          refine G_if_lt 212 dr_cX17_colours_180 (by decide +kernel) (fun hc334465 => ?_) (fun hc334465 => ?_)
                          · have r334466 : z334464.toInt < 0 := gj_lt hc334465 (show Int32.toInt 0 = 0 by decide)
                            have bz334464' : gB z334464 (-1) (-1) := ⟨by omega, by omega⟩
                            obtain ⟨z334467, hz334467⟩ : ∃ z : Int32, z = g334432 + Int32.ofInt 1 := ⟨_, rfl⟩
                            have ez334467 : z334467.toInt = g334432.toInt + 1 := gI_inc hz334467 (by decide) bg334432' (by decide) (by decide)
                            have bz334467 : gB z334467 1 2000 := ⟨by omega, by omega⟩
                            refine G_iinc (L' := [(7, .int z334467), (5, .long gl334433), (4, .int z334364), (2, .int z334363), (3, .int g334334), (0, .ref q326338), (1, .int p326339)]) z334467 0 dr_cX17_colours_212 rfl hz334467.symm (Nat.le_of_ble_eq_true rfl) rfl ?_
                            refine G_goto 165 dr_cX17_colours_215 (by decide +kernel) ?_
                            exact ih165_334434 z334467 gl334433 (gB_w bz334467 (by decide) (by decide)) x334434 (mz_up ez334467 (Int.le_trans bg334432'.2 (by decide)) hm165_334434)
                          · have r334468 : 0 ≤ z334464.toInt := gj_nlt hc334465 (show Int32.toInt 0 = 0 by decide)
                            have bz334464' : gB z334464 0 31 := ⟨by omega, by omega⟩
                            refine G_aload_n 5 dr_cX17_colours_183 rfl ?_
                            refine Gp_get 1 hm334347 he334346 dr_cX17_colours_184 (gk_X17 D I) (Nat.le_of_ble_eq_true rfl) wr_7_75 rfl ?_
                            refine G_iload 2 dr_cX17_colours_187 rfl ?_
                            have hm334469 : (γ 9 1) ∈ P326336 := RS_m hT334337 ht326363 (by decide)
                            obtain ⟨f334471, he334470, hg334472⟩ := show rk_13 I γ (F334336 (γ 9 1)) from RS_o hT334337 ht326363
                            obtain ⟨q334473, hx334475⟩ : ∃ x, x = γ 11 z334364.toInt.toNat := ⟨_, rfl⟩
                            have ht334474 : rKd γ q334473 36 := by rw [hx334475]; exact (hg334472 _ (show z334364.toInt.toNat < 2000 by omega)).2.1
                            refine Gp_aald 5 hm334469 he334470 dr_cX17_colours_189 rfl rfl (gB_in bz334364 (by decide) (by decide)) ?_
                            rw [show f334471 z334364.toNatClampNeg = some q334473 from (hg334472 _ (show z334364.toInt.toNat < 2000 by omega)).1.trans (by rw [hx334475])]
                            change G _ _ _ _ _ _ _ (.ref q334473 :: _) _ _ _
                            refine G_iload 0 dr_cX17_colours_190 rfl ?_
                            have hm334476 : q334473 ∈ P326336 := RS_m hT334337 ht334474 (by decide)
                            obtain ⟨f334478, he334477, wf334478⟩ := show rk_36 I (F334336 q334473) from RS_o hT334337 ht334474
                            refine Gw_callS (As := [.ref q334473, .int g334432]) (gV_ok D I) (cp_1838_SpillForgeModel_has l hl0 D I P326336 F334336 q334473 g334432 f334478 hm334476 he334477 (gB_w bg334432' (by decide) (by decide))) dr_cX17_colours_192 ⟨wr_10_203, wr_1_14, wr_10_205, by decide, rfl, (Nat.le_of_ble_eq_true rfl), (Nat.le_of_ble_eq_true rfl)⟩ wr_10_204 (show 0 + 0 ≤ 0 by first | omega | decide) (show 0 + 0 ≤ 0 by first | omega | decide) (Nat.le_of_ble_eq_true rfl) (fun r334482 w334483 dc334479 ds334480 hp334481 => ?_) (fun _ _ _ _ _ z => z.elim)
                            rcases hp334481 with ⟨z334484, z334485, rfl, rfl, hdc, hds, r334486, r334487, r334488, r334489⟩ | ⟨z334490, z334491, rfl, rfl, hdc, hds, r334492, r334493, r334494, r334495⟩
                            · change G _ _ _ _ _ _ _ (.int 0 :: _) _ _ _
                              refine G_widen (cs' := 0) (sl' := 0) (by omega) (by omega) ?_
                              refine G_if_eq 212 dr_cX17_colours_195 (by decide +kernel) (fun _ => ?_) (fun hc => absurd hc (by decide))
                              obtain ⟨z334497, hz334497⟩ : ∃ z : Int32, z = g334432 + Int32.ofInt 1 := ⟨_, rfl⟩
                              have ez334497 : z334497.toInt = g334432.toInt + 1 := gI_inc hz334497 (by decide) bg334432' (by decide) (by decide)
                              have bz334497 : gB z334497 1 2000 := ⟨by omega, by omega⟩
                              refine G_iinc (L' := [(7, .int z334497), (5, .long gl334433), (4, .int z334364), (2, .int z334363), (3, .int g334334), (0, .ref q326338), (1, .int p326339)]) z334497 0 dr_cX17_colours_212 rfl hz334497.symm (Nat.le_of_ble_eq_true rfl) rfl ?_
                              refine G_goto 165 dr_cX17_colours_215 (by decide +kernel) ?_
                              exact ih165_334434 z334497 gl334433 (gB_w bz334497 (by decide) (by decide)) x334434 (mz_up ez334497 (Int.le_trans bg334432'.2 (by decide)) hm165_334434)
                            · change G _ _ _ _ _ _ _ (.int 1 :: _) _ _ _
                              refine G_widen (cs' := 0) (sl' := 0) (by omega) (by omega) ?_
                              refine G_if_eq 212 dr_cX17_colours_195 (by decide +kernel) (fun hc => absurd hc (by decide)) (fun _ => ?_)
                              refine G_lload 1 dr_cX17_colours_198 rfl ?_
                              refine G_lconst 1 dr_cX17_colours_200 rfl ?_
                              refine G_aload_n 5 dr_cX17_colours_201 rfl ?_
                              refine Gp_get 17 hm334347 he334346 dr_cX17_colours_202 (gk_X17 D I) (Nat.le_of_ble_eq_true rfl) wr_7_91 rfl ?_
                              refine G_iload 0 dr_cX17_colours_205 rfl ?_
                              refine Gp_iald 0 hm334356 he334357 dr_cX17_colours_207 rfl (gB_in bg334432' (by decide) (by decide)) (G_eqi (y := z334464) hz334464.symm ?_)
                              refine G_lshl dr_cX17_colours_208 (G_namL fun u334498 hu334498 => ?_)
                              have qu334498 : lb_Q u334498 (z334464.toInt % 64 + 1) := lb_Qshl hu334498 (by omega)
                              refine G_lor dr_cX17_colours_209 (G_namL fun u334499 hu334499 => ?_)
                              have qu334499 : lb_Q u334499 (32) := lb_Qor hu334499 x334434 (lb_Qw qu334498 (by omega))
                              refine G_lstore (L' := [(5, .long u334499), (7, .int g334432), (4, .int z334364), (2, .int z334363), (3, .int g334334), (0, .ref q326338), (1, .int p326339)]) dr_cX17_colours_210 (Nat.le_of_ble_eq_true rfl) rfl ?_
                              obtain ⟨z334500, hz334500⟩ : ∃ z : Int32, z = g334432 + Int32.ofInt 1 := ⟨_, rfl⟩
                              have ez334500 : z334500.toInt = g334432.toInt + 1 := gI_inc hz334500 (by decide) bg334432' (by decide) (by decide)
                              have bz334500 : gB z334500 1 2000 := ⟨by omega, by omega⟩
                              refine G_iinc (L' := [(7, .int z334500), (5, .long u334499), (4, .int z334364), (2, .int z334363), (3, .int g334334), (0, .ref q326338), (1, .int p326339)]) z334500 1 dr_cX17_colours_212 rfl hz334500.symm (Nat.le_of_ble_eq_true rfl) rfl ?_
                              refine G_goto 165 dr_cX17_colours_215 (by decide +kernel) ?_
                              exact ih165_334434 z334500 u334499 (gB_w bz334500 (by decide) (by decide)) qu334499 (mz_up ez334500 (Int.le_trans bg334432'.2 (by decide)) hm165_334434)
                    exact hlp165_334434 (((2001 : Int) - 0).toNat + 1) 0 0 (gB_w (gBl (show Int32.toInt 0 = 0 by decide)) (by decide) (by decide)) lb_Q0 (Nat.lt_succ_self _)
              exact hlp144_334342 (((g334141.toInt : Int) - (-1)).toNat + 1) F334142 0 g334141 (gB_w (gBl (show Int32.toInt 0 = 0 by decide)) (by decide) (by decide)) bg334141 hT334143 hs334144 (by rw [cB_of he334156, cB_of he334162, cB_of he334165]; exact fun _ m s => Or.inl ((cq334167 m s).resolve_left (cq334170 (by omega) m))) (by have qa0 : Int32.toInt 0 = 0 := (by decide); omega) x334149 x334150 (Nat.lt_succ_self _)
            · have r334501 : 0 ≤ g334140.toInt := gj_nlt hc334171 (show Int32.toInt 0 = 0 by decide)
              have bg334140' : gB g334140 0 1999 := ⟨by omega, by omega⟩
              have r334502 := rcn_pos (cq334169 (by omega))
              have r334503 := cq334168
              have bg334141' : gB g334141 0 1999 := ⟨by omega, by omega⟩
              refine G_aload_n 2 dr_cX17_colours_74 rfl ?_
              refine Gp_get 15 hm334155 he334154 dr_cX17_colours_75 (gk_X17 D I) (Nat.le_of_ble_eq_true rfl) wr_7_89 rfl ?_
              refine G_iload_n 1 dr_cX17_colours_78 rfl ?_
              refine G_iload_n 0 dr_cX17_colours_79 rfl ?_
              refine Gp_iast 0 hm334161 he334162 dr_cX17_colours_80 rfl (gB_in bg334141' (by decide) (by decide)) (fun F334504 e334505 n334506 => ?_)
              obtain ⟨f334507, hf334507⟩ : ∃ z, z = upd f334163 g334141.toNatClampNeg g334140 := ⟨_, rfl⟩
              rw [← hf334507] at e334505
              have he334508 : F334504 q326338 = .inr (22, [.ref (γ 9 0), .ref (γ 9 1), .ref (γ 9 2), .ref (γ 9 3), .ref (γ 9 4), .ref (γ 9 5), .ref (γ 9 6), .ref (γ 9 7), .ref (γ 9 8), .int p326345, .int p326346, .int p326347, .int p326348, .int p326349, .int p326350, .ref (γ 9 15), .ref (γ 9 16), .ref (γ 9 17), .ref (γ 9 18), .ref (γ 9 19), .ref (γ 9 20), .ref (γ 9 21), .ref (γ 9 22), .int p326351, .int p326352, .int p326353, .int p326354, .int p326355, .ref q326343, .ref (γ 9 29), .int p326356, .ref (γ 9 31), .int p326357, .int p326358, .int p326359, .ref q326344]) := (n334506 q326338 (rn_oa he334154 he334162)).trans he334154
              have he334509 : F334504 (γ 9 3) = .inl (I .boolean, 2000, .inl f326390) := (n334506 (γ 9 3) (rn_ty ht326365 ht326371 (by decide))).trans he334156
              have he334510 : F334504 (γ 9 18) = .inl (I .boolean, 2000, .inl f334160) := (n334506 (γ 9 18) (rn_ty ht326374 ht326371 (by decide))).trans he334159
              have he334511 : F334504 (γ 9 17) = .inl (I .int, 2000, .inl f334166) := (n334506 (γ 9 17) (rn_ty ht326373 ht326371 (by decide))).trans he334165
              have he334512 : F334504 (γ 9 15) = .inl (I .int, 2000, .inl f334507) := e334505
              have hs334513 : rStr γ [] F326337 F334504 := rStr_put hs334144 n334506 ht326371 (by decide)
              have kp334514 : F334504 q326338 = F326337 q326338 := (n334506 q326338 (rn_ty htq326338 ht326371 (by decide))).trans x334149
              have kp334515 : F334504 (γ 9 3) = F326337 (γ 9 3) := (n334506 (γ 9 3) (rn_ty ht326365 ht326371 (by decide))).trans x334150
              have bf334507 : gF f334507 0 1999 := gF_upd hf334507 bf334163 bg334140'
              obtain ⟨z334516, hz334516⟩ : ∃ z : Int32, z = g334141 + Int32.ofInt 1 := ⟨_, rfl⟩
              have ez334516 : z334516.toInt = g334141.toInt + 1 := gI_inc hz334516 (by decide) bg334141' (by decide) (by decide)
              have bz334516 : gB z334516 1 2000 := ⟨by omega, by omega⟩
              refine G_iinc (L' := [(2, .int z334516), (3, .int g334140), (0, .ref q326338), (1, .int p326339)]) z334516 1 dr_cX17_colours_81 rfl hz334516.symm (Nat.le_of_ble_eq_true rfl) rfl ?_
              refine G_aload_n 2 dr_cX17_colours_84 rfl ?_
              refine Gp_get 18 hm334155 he334508 dr_cX17_colours_85 (gk_X17 D I) (Nat.le_of_ble_eq_true rfl) wr_7_92 rfl ?_
              refine G_iload_n 1 dr_cX17_colours_88 rfl ?_
              refine G_iconst 0 dr_cX17_colours_89 (by decide +kernel) ?_
              have hT334517 : RS D I P326336 F334504 γ el := RS_set hT334143 n334506 ht326371 (by decide) ⟨f334507, he334512, bf334507⟩
              refine Gp_zast 3 hm334158 he334510 dr_cX17_colours_90 rfl (gB_in bg334140' (by decide) (by decide)) (fun F334518 e334519 n334520 => ?_)
              obtain ⟨f334521, hf334521⟩ : ∃ z, z = upd f334160 g334140.toNatClampNeg (vp_nar .boolean 0) := ⟨_, rfl⟩
              rw [← hf334521] at e334519
              have he334522 : F334518 q326338 = .inr (22, [.ref (γ 9 0), .ref (γ 9 1), .ref (γ 9 2), .ref (γ 9 3), .ref (γ 9 4), .ref (γ 9 5), .ref (γ 9 6), .ref (γ 9 7), .ref (γ 9 8), .int p326345, .int p326346, .int p326347, .int p326348, .int p326349, .int p326350, .ref (γ 9 15), .ref (γ 9 16), .ref (γ 9 17), .ref (γ 9 18), .ref (γ 9 19), .ref (γ 9 20), .ref (γ 9 21), .ref (γ 9 22), .int p326351, .int p326352, .int p326353, .int p326354, .int p326355, .ref q326343, .ref (γ 9 29), .int p326356, .ref (γ 9 31), .int p326357, .int p326358, .int p326359, .ref q326344]) := (n334520 q326338 (rn_oa he334508 he334510)).trans he334508
              have he334523 : F334518 (γ 9 3) = .inl (I .boolean, 2000, .inl f326390) := (n334520 (γ 9 3) (rn_ty ht326365 ht326374 (by decide))).trans he334509
              have he334524 : F334518 (γ 9 15) = .inl (I .int, 2000, .inl f334507) := (n334520 (γ 9 15) (rn_ty ht326371 ht326374 (by decide))).trans he334512
              have he334525 : F334518 (γ 9 17) = .inl (I .int, 2000, .inl f334166) := (n334520 (γ 9 17) (rn_ty ht326373 ht326374 (by decide))).trans he334511
              have he334526 : F334518 (γ 9 18) = .inl (I .boolean, 2000, .inl f334521) := e334519
              have hs334527 : rStr γ [] F326337 F334518 := rStr_put hs334513 n334520 ht326374 (by decide)
              have kp334528 : F334518 q326338 = F326337 q326338 := (n334520 q326338 (rn_ty htq326338 ht326374 (by decide))).trans kp334514
              have kp334529 : F334518 (γ 9 3) = F326337 (γ 9 3) := (n334520 (γ 9 3) (rn_ty ht326365 ht326374 (by decide))).trans kp334515
              have bf334521 : gF f334521 0 1 := gF_upd hf334521 bf334160 (gB_w (gBl (show Int32.toInt 0 = 0 by decide)) (by decide) (by decide))
              have hT334531 : RS D I P326336 F334518 γ el := RS_set hT334517 n334520 ht326374 (by decide) ⟨f334521, he334526, bf334521⟩
              have td334530 := th_d hf334521 (by omega) (cq334169 (by omega))
              refine G_iconst 0 dr_cX17_colours_91 (by decide +kernel) ?_
              refine G_istore (L' := [(4, .int 0), (2, .int z334516), (3, .int g334140), (0, .ref q326338), (1, .int p326339)]) dr_cX17_colours_92 (Nat.le_of_ble_eq_true rfl) rfl ?_
              have hlp94_334621 : ∀ (n94_334621 : Nat) (F334614 : Nat → va_E) (g334613 : Int32), gB g334613 0 2000 → RS D I P326336 F334614 γ el → rStr γ [] F326337 F334614 → (∀ m : Nat, rSd (cB (F334614 (γ 9 3))) m → rSd (cB (F334614 (γ 9 18))) m ∨ ∃ i : Nat, (i : Int) < z334516.toInt ∧ (cB (F334614 (γ 9 15)) i).toInt = m) → (rcn (cB (F334614 (γ 9 18))) 2000 + (z334516.toInt : Int).toNat ≤ 2000) → (rcn (cB (F334614 (γ 9 18))) 2000 + 1 ≤ rcn (cB (F334142 (γ 9 18))) 2000) → (F334614 q326338 = F326337 q326338) → (F334614 (γ 9 3) = F326337 (γ 9 3)) → ((2001 : Int) - g334613.toInt).toNat < n94_334621 → G (gV D I) l (gRm 2 43 0 0) (gMA (gV D I) (pt_326340_SpillForgeModel_colours D I γ el P326336 F326337 q326338 p326339) gNA 0 0) ky_326340_SpillForgeModel_colours 94 [(4, .int g334613), (2, .int z334516), (3, .int g334140), (0, .ref q326338), (1, .int p326339)] [] (va_pl P326336 F334614) 0 0 := by
                intro n94_334621
                induction n94_334621 with
                | zero => intro F334614 g334613 bg334613 hT334615 hs334616 x334617 x334618 x334619 x334620 x334621 hm94_334621; exact absurd hm94_334621 (Nat.not_lt_zero _)
                | succ n94_334621 ih94_334621 =>
                  intro F334614 g334613 bg334613 hT334615 hs334616 x334617 x334618 x334619 x334620 x334621 hm94_334621
                  have hs334623 : rStr γ [] F334518 F334614 := fun b h0 hb hw => (hs334616 b h0 hb hw).trans (hs334527 b h0 hb hw).symm
                  have hs334624 : rStr γ [] F326337 F334614 := rStr_tr hs334527 hs334623
                  have he334625 : F334614 q326338 = .inr (22, [.ref (γ 9 0), .ref (γ 9 1), .ref (γ 9 2), .ref (γ 9 3), .ref (γ 9 4), .ref (γ 9 5), .ref (γ 9 6), .ref (γ 9 7), .ref (γ 9 8), .int p326345, .int p326346, .int p326347, .int p326348, .int p326349, .int p326350, .ref (γ 9 15), .ref (γ 9 16), .ref (γ 9 17), .ref (γ 9 18), .ref (γ 9 19), .ref (γ 9 20), .ref (γ 9 21), .ref (γ 9 22), .int p326351, .int p326352, .int p326353, .int p326354, .int p326355, .ref q326343, .ref (γ 9 29), .int p326356, .ref (γ 9 31), .int p326357, .int p326358, .int p326359, .ref q326344]) := x334620.trans he326342
                  have hm334626 : q326338 ∈ P326336 := RS_m hT334615 htq326338 (by decide)
                  have he334627 : F334614 (γ 9 3) = .inl (I .boolean, 2000, .inl f326390) := x334621.trans he326389
                  have hm334628 : (γ 9 3) ∈ P326336 := RS_m hT334615 ht326365 (by decide)
                  have hm334629 : (γ 9 18) ∈ P326336 := RS_m hT334615 ht326374 (by decide)
                  obtain ⟨f334631, he334630, bf334631⟩ := show rk_15 I (F334614 (γ 9 18)) from RS_o hT334615 ht326374
                  have hm334632 : (γ 9 15) ∈ P326336 := RS_m hT334615 ht326371 (by decide)
                  obtain ⟨f334634, he334633, bf334634⟩ := show rk_18 I (F334614 (γ 9 15)) from RS_o hT334615 ht326371
                  have hm334635 : (γ 9 17) ∈ P326336 := RS_m hT334615 ht326373 (by decide)
                  obtain ⟨f334637, he334636, bf334637⟩ := show rk_20 I (F334614 (γ 9 17)) from RS_o hT334615 ht326373
                  have cq334638 := x334617
                  rw [cB_of he334627, cB_of he334630, cB_of he334633] at cq334638
                  have cq334639 := x334618
                  rw [cB_of he334630] at cq334639
                  have cq334640 := x334619
                  rw [cB_of he334630] at cq334640
                  refine G_iload 0 dr_cX17_colours_94 rfl ?_
                  refine G_sipush 2000 dr_cX17_colours_96 (by decide +kernel) ?_
                  refine G_icmp_ge 133 dr_cX17_colours_99 (by decide +kernel) (fun hc334641 => ?_) (fun hc334641 => ?_)
                  · have r334642 : 2000 ≤ g334613.toInt := gj_leL hc334641 (show Int32.toInt 2000 = 2000 by decide)
                    have bg334613' : gB g334613 2000 2000 := ⟨by omega, by omega⟩
                    refine G_aload_n 3 dr_cX17_colours_133 rfl ?_
                    refine G_iload_n 4 dr_cX17_colours_134 rfl ?_
                    refine Gw_callV (As := [.int p326339]) (gV_ok D I) (ct_327130_SpillForgeModel_next l hl0 D I γ el P326336 F334614 q326338 p326339 hT334615 htq326338) dr_cX17_colours_135 ⟨wr_11_51, wr_1_14, wr_11_54, by decide, rfl, (Nat.le_of_ble_eq_true rfl), (Nat.le_of_ble_eq_true rfl)⟩ wr_11_53 wr_p_107 hm334626 he334625 rfl (show 0 + 0 ≤ 0 by first | omega | decide) (show 0 + 0 ≤ 0 by first | omega | decide) (Nat.le_of_ble_eq_true rfl) (fun r334646 w334647 dc334643 ds334644 hp334645 => ?_) (fun _ _ _ _ _ z => z.elim)
                    obtain ⟨o334648, rfl, rfl, hdc, hds, bo334648, x334649, x334650⟩ := hp334645
                    change G _ _ _ _ _ _ _ (.int o334648 :: _) _ _ _
                    refine G_widen (cs' := 0) (sl' := 0) (by omega) (by omega) ?_
                    refine G_istore_n (L' := [(3, .int o334648), (4, .int g334613), (2, .int z334516), (0, .ref q326338), (1, .int p326339)]) dr_cX17_colours_138 (Nat.le_of_ble_eq_true rfl) rfl ?_
                    refine G_goto 70 dr_cX17_colours_139 (by decide +kernel) ?_
                    refine G_lv (L' := [(3, .int o334648), (2, .int z334516), (0, .ref q326338), (1, .int p326339)]) [0, 2, 3, 4] rfl ?_
                    exact ih70_334150 F334614 o334648 z334516 bo334648 (gB_w bz334516 (by decide) (by decide)) hT334615 hs334616 (by rw [cB_of he334627, cB_of he334630, cB_of he334633]; exact cq334638) (by rw [cB_of he334630]; exact cq334639) x334649 x334650 x334620 x334621 (by have q := cq334640; rw [cB_of he334159] at q; rw [cB_of he334630]; rw [cB_of he334159] at hm70_334150; omega)
                  · have r334651 : g334613.toInt < 2000 := gj_nleL hc334641 (show Int32.toInt 2000 = 2000 by decide)
                    have bg334613' : gB g334613 0 1999 := ⟨by omega, by omega⟩
                    refine G_aload_n 3 dr_cX17_colours_102 rfl ?_
                    refine Gp_get 1 hm334626 he334625 dr_cX17_colours_103 (gk_X17 D I) (Nat.le_of_ble_eq_true rfl) wr_7_75 rfl ?_
                    refine G_iload_n 2 dr_cX17_colours_106 rfl ?_
                    have hm334652 : (γ 9 1) ∈ P326336 := RS_m hT334615 ht326363 (by decide)
                    obtain ⟨f334654, he334653, hg334655⟩ := show rk_13 I γ (F334614 (γ 9 1)) from RS_o hT334615 ht326363
                    obtain ⟨q334656, hx334658⟩ : ∃ x, x = γ 11 g334140.toInt.toNat := ⟨_, rfl⟩
                    have ht334657 : rKd γ q334656 36 := by rw [hx334658]; exact (hg334655 _ (show g334140.toInt.toNat < 2000 by omega)).2.1
                    refine Gp_aald 5 hm334652 he334653 dr_cX17_colours_107 rfl rfl (gB_in bg334140' (by decide) (by decide)) ?_
                    rw [show f334654 g334140.toNatClampNeg = some q334656 from (hg334655 _ (show g334140.toInt.toNat < 2000 by omega)).1.trans (by rw [hx334658])]
                    change G _ _ _ _ _ _ _ (.ref q334656 :: _) _ _ _
                    refine G_iload 0 dr_cX17_colours_108 rfl ?_
                    have hm334659 : q334656 ∈ P326336 := RS_m hT334615 ht334657 (by decide)
                    obtain ⟨f334661, he334660, wf334661⟩ := show rk_36 I (F334614 q334656) from RS_o hT334615 ht334657
                    refine Gw_callS (As := [.ref q334656, .int g334613]) (gV_ok D I) (cp_1838_SpillForgeModel_has l hl0 D I P326336 F334614 q334656 g334613 f334661 hm334659 he334660 (gB_w bg334613' (by decide) (by decide))) dr_cX17_colours_110 ⟨wr_10_203, wr_1_14, wr_10_205, by decide, rfl, (Nat.le_of_ble_eq_true rfl), (Nat.le_of_ble_eq_true rfl)⟩ wr_10_204 (show 0 + 0 ≤ 0 by first | omega | decide) (show 0 + 0 ≤ 0 by first | omega | decide) (Nat.le_of_ble_eq_true rfl) (fun r334665 w334666 dc334662 ds334663 hp334664 => ?_) (fun _ _ _ _ _ z => z.elim)
                    rcases hp334664 with ⟨z334667, z334668, rfl, rfl, hdc, hds, r334669, r334670, r334671, r334672⟩ | ⟨z334673, z334674, rfl, rfl, hdc, hds, r334675, r334676, r334677, r334678⟩
                    · change G _ _ _ _ _ _ _ (.int 0 :: _) _ _ _
                      refine G_widen (cs' := 0) (sl' := 0) (by omega) (by omega) ?_
                      refine G_if_eq 127 dr_cX17_colours_113 (by decide +kernel) (fun _ => ?_) (fun hc => absurd hc (by decide))
                      obtain ⟨z334680, hz334680⟩ : ∃ z : Int32, z = g334613 + Int32.ofInt 1 := ⟨_, rfl⟩
                      have ez334680 : z334680.toInt = g334613.toInt + 1 := gI_inc hz334680 (by decide) bg334613' (by decide) (by decide)
                      have bz334680 : gB z334680 1 2000 := ⟨by omega, by omega⟩
                      refine G_iinc (L' := [(4, .int z334680), (2, .int z334516), (3, .int g334140), (0, .ref q326338), (1, .int p326339)]) z334680 0 dr_cX17_colours_127 rfl hz334680.symm (Nat.le_of_ble_eq_true rfl) rfl ?_
                      refine G_goto 94 dr_cX17_colours_130 (by decide +kernel) ?_
                      exact ih94_334621 F334614 z334680 (gB_w bz334680 (by decide) (by decide)) hT334615 hs334616 (by rw [cB_of he334627, cB_of he334630, cB_of he334633]; exact cq334638) (by rw [cB_of he334630]; exact cq334639) (by rw [cB_of he334630]; exact cq334640) x334620 x334621 (mz_up ez334680 (Int.le_trans bg334613'.2 (by decide)) hm94_334621)
                    · change G _ _ _ _ _ _ _ (.int 1 :: _) _ _ _
                      refine G_widen (cs' := 0) (sl' := 0) (by omega) (by omega) ?_
                      refine G_if_eq 127 dr_cX17_colours_113 (by decide +kernel) (fun hc => absurd hc (by decide)) (fun _ => ?_)
                      refine G_aload_n 3 dr_cX17_colours_116 rfl ?_
                      refine Gp_get 16 hm334626 he334625 dr_cX17_colours_117 (gk_X17 D I) (Nat.le_of_ble_eq_true rfl) wr_7_90 rfl ?_
                      refine G_iload 0 dr_cX17_colours_120 rfl ?_
                      refine G_dup2_11 dr_cX17_colours_122 rfl rfl ?_
                      have hm334681 : (γ 9 16) ∈ P326336 := RS_m hT334615 ht326372 (by decide)
                      obtain ⟨f334683, he334682⟩ := show rk_19 I (F334614 (γ 9 16)) from RS_o hT334615 ht326372
                      refine Gp_iald 0 hm334681 he334682 dr_cX17_colours_123 rfl (gB_in bg334613' (by decide) (by decide)) (G_nam fun z334684 hz334684 => ?_)
                      have bz334684 : gB z334684 (-2147483648) 2147483647 := gB_any z334684
                      refine G_iconst 1 dr_cX17_colours_124 (by decide +kernel) ?_
                      refine G_isub dr_cX17_colours_125 (G_nam fun z334685 hz334685 => ?_)
                      have bz334685 : gB z334685 (-2147483648) 2147483647 := gB_any z334685
                      refine Gp_iast 0 hm334681 he334682 dr_cX17_colours_126 rfl (gB_in bg334613' (by decide) (by decide)) (fun F334686 e334687 n334688 => ?_)
                      obtain ⟨f334689, hf334689⟩ : ∃ z, z = upd f334683 g334613.toNatClampNeg z334685 := ⟨_, rfl⟩
                      rw [← hf334689] at e334687
                      have he334690 : F334686 q326338 = .inr (22, [.ref (γ 9 0), .ref (γ 9 1), .ref (γ 9 2), .ref (γ 9 3), .ref (γ 9 4), .ref (γ 9 5), .ref (γ 9 6), .ref (γ 9 7), .ref (γ 9 8), .int p326345, .int p326346, .int p326347, .int p326348, .int p326349, .int p326350, .ref (γ 9 15), .ref (γ 9 16), .ref (γ 9 17), .ref (γ 9 18), .ref (γ 9 19), .ref (γ 9 20), .ref (γ 9 21), .ref (γ 9 22), .int p326351, .int p326352, .int p326353, .int p326354, .int p326355, .ref q326343, .ref (γ 9 29), .int p326356, .ref (γ 9 31), .int p326357, .int p326358, .int p326359, .ref q326344]) := (n334688 q326338 (rn_oa he334625 he334682)).trans he334625
                      have he334691 : F334686 (γ 9 3) = .inl (I .boolean, 2000, .inl f326390) := (n334688 (γ 9 3) (rn_ty ht326365 ht326372 (by decide))).trans he334627
                      have he334692 : F334686 (γ 9 18) = .inl (I .boolean, 2000, .inl f334631) := (n334688 (γ 9 18) (rn_ty ht326374 ht326372 (by decide))).trans he334630
                      have he334693 : F334686 (γ 9 15) = .inl (I .int, 2000, .inl f334634) := (n334688 (γ 9 15) (rn_ty ht326371 ht326372 (by decide))).trans he334633
                      have he334694 : F334686 (γ 9 17) = .inl (I .int, 2000, .inl f334637) := (n334688 (γ 9 17) (rn_ty ht326373 ht326372 (by decide))).trans he334636
                      have he334695 : F334686 (γ 9 1) = .inl (I (.array .long), 2000, .inr (.inr (.inr (.inr f334654)))) := (n334688 (γ 9 1) (rn_ref_num he334653 he334682)).trans he334653
                      have he334696 : F334686 q334656 = .inl (I .long, 32, .inr (.inl f334661)) := (n334688 q334656 (rn_long_num he334660 he334682)).trans he334660
                      have he334697 : F334686 (γ 9 16) = .inl (I .int, 2000, .inl f334689) := e334687
                      have hs334698 : rStr γ [] F326337 F334686 := rStr_put hs334616 n334688 ht326372 (by decide)
                      have kp334699 : F334686 q326338 = F326337 q326338 := (n334688 q326338 (rn_ty htq326338 ht326372 (by decide))).trans x334620
                      have kp334700 : F334686 (γ 9 3) = F326337 (γ 9 3) := (n334688 (γ 9 3) (rn_ty ht326365 ht326372 (by decide))).trans x334621
                      obtain ⟨z334701, hz334701⟩ : ∃ z : Int32, z = g334613 + Int32.ofInt 1 := ⟨_, rfl⟩
                      have ez334701 : z334701.toInt = g334613.toInt + 1 := gI_inc hz334701 (by decide) bg334613' (by decide) (by decide)
                      have bz334701 : gB z334701 1 2000 := ⟨by omega, by omega⟩
                      refine G_iinc (L' := [(4, .int z334701), (2, .int z334516), (3, .int g334140), (0, .ref q326338), (1, .int p326339)]) z334701 0 dr_cX17_colours_127 rfl hz334701.symm (Nat.le_of_ble_eq_true rfl) rfl ?_
                      refine G_goto 94 dr_cX17_colours_130 (by decide +kernel) ?_
                      have hT334702 : RS D I P326336 F334686 γ el := RS_set hT334615 n334688 ht326372 (by decide) ⟨f334689, he334697⟩
                      exact ih94_334621 F334686 z334701 (gB_w bz334701 (by decide) (by decide)) hT334702 hs334698 (by rw [cB_of he334691, cB_of he334692, cB_of he334693]; exact cq334638) (by rw [cB_of he334692]; exact cq334639) (by rw [cB_of he334692]; exact cq334640) kp334699 kp334700 (mz_up ez334701 (Int.le_trans bg334613'.2 (by decide)) hm94_334621)
              exact hlp94_334621 (((2001 : Int) - 0).toNat + 1) F334518 0 (gB_w (gBl (show Int32.toInt 0 = 0 by decide)) (by decide) (by decide)) hT334531 hs334527 (by rw [ez334516]; rw [cB_of he334523, cB_of he334526, cB_of he334524]; exact pi_u hf334521 hf334507 (by omega) (by omega) cq334167) (by rw [cB_of he334526]; have q := td334530; have q2 := cq334168; omega) (by rw [cB_of he334526]; rw [cB_of he334159]; have q := td334530; omega) kp334528 kp334529 (Nat.lt_succ_self _)
        exact hlp70_334150 ((rcn (cB (F333560 (γ 9 18))) 2000) + 1) F333560 o333590 0 bo333590 (gB_w (gBl (show Int32.toInt 0 = 0 by decide)) (by decide) (by decide)) hT333561 hs333562 (by rw [cB_of he333571, cB_of he333574, cB_of he333577]; exact fun m s => Or.inl (cq333582 m (by have := s.1; omega) s)) (by have q := rcn_le (g := cB (F333560 (γ 9 18))) 2000; have qa : Int32.toInt 0 = 0 := (by decide); omega) x333591 x333592 x333564 x333565 (Nat.lt_succ_self _)
      · have r334703 : g333559.toInt < 2000 := gj_nleL hc333583 (show Int32.toInt 2000 = 2000 by decide)
        have bg333559' : gB g333559 0 1999 := ⟨by omega, by omega⟩
        refine G_aload_n 1 dr_cX17_colours_9 rfl ?_
        refine Gp_get 18 hm333570 he333569 dr_cX17_colours_10 (gk_X17 D I) (Nat.le_of_ble_eq_true rfl) wr_7_92 rfl ?_
        refine G_iload_n 0 dr_cX17_colours_13 rfl ?_
        refine G_aload_n 1 dr_cX17_colours_14 rfl ?_
        refine Gp_get 3 hm333570 he333569 dr_cX17_colours_15 (gk_X17 D I) (Nat.le_of_ble_eq_true rfl) wr_7_77 rfl ?_
        refine G_iload_n 0 dr_cX17_colours_18 rfl ?_
        refine Gp_zald 3 hm333572 he333571 dr_cX17_colours_19 rfl (gB_in bg333559' (by decide) (by decide)) (G_nam fun z334704 hz334704 => ?_)
        have bz334704 : gB z334704 0 1 := by rw [hz334704]; exact bf326390 _
        refine Gp_zast 3 hm333573 he333574 dr_cX17_colours_20 rfl (gB_in bg333559' (by decide) (by decide)) (fun F334705 e334706 n334707 => ?_)
        obtain ⟨f334708, hf334708⟩ : ∃ z, z = upd f333575 g333559.toNatClampNeg (vp_nar .boolean z334704) := ⟨_, rfl⟩
        rw [← hf334708] at e334706
        have he334709 : F334705 q326338 = .inr (22, [.ref (γ 9 0), .ref (γ 9 1), .ref (γ 9 2), .ref (γ 9 3), .ref (γ 9 4), .ref (γ 9 5), .ref (γ 9 6), .ref (γ 9 7), .ref (γ 9 8), .int p326345, .int p326346, .int p326347, .int p326348, .int p326349, .int p326350, .ref (γ 9 15), .ref (γ 9 16), .ref (γ 9 17), .ref (γ 9 18), .ref (γ 9 19), .ref (γ 9 20), .ref (γ 9 21), .ref (γ 9 22), .int p326351, .int p326352, .int p326353, .int p326354, .int p326355, .ref q326343, .ref (γ 9 29), .int p326356, .ref (γ 9 31), .int p326357, .int p326358, .int p326359, .ref q326344]) := (n334707 q326338 (rn_oa he333569 he333574)).trans he333569
        have he334710 : F334705 (γ 9 3) = .inl (I .boolean, 2000, .inl f326390) := (n334707 (γ 9 3) (rn_ty ht326365 ht326374 (by decide))).trans he333571
        have he334711 : F334705 (γ 9 15) = .inl (I .int, 2000, .inl f333578) := (n334707 (γ 9 15) (rn_ty ht326371 ht326374 (by decide))).trans he333577
        have he334712 : F334705 (γ 9 17) = .inl (I .int, 2000, .inl f333581) := (n334707 (γ 9 17) (rn_ty ht326373 ht326374 (by decide))).trans he333580
        have he334713 : F334705 (γ 9 18) = .inl (I .boolean, 2000, .inl f334708) := e334706
        have hs334714 : rStr γ [] F326337 F334705 := rStr_put hs333562 n334707 ht326374 (by decide)
        have kp334715 : F334705 q326338 = F326337 q326338 := (n334707 q326338 (rn_ty htq326338 ht326374 (by decide))).trans x333564
        have kp334716 : F334705 (γ 9 3) = F326337 (γ 9 3) := (n334707 (γ 9 3) (rn_ty ht326365 ht326374 (by decide))).trans x333565
        have bf334708 : gF f334708 0 1 := gF_upd hf334708 bf333575 (gB_nb bz334704)
        refine G_aload_n 1 dr_cX17_colours_21 rfl ?_
        refine Gp_get 16 hm333570 he334709 dr_cX17_colours_22 (gk_X17 D I) (Nat.le_of_ble_eq_true rfl) wr_7_90 rfl ?_
        refine G_iload_n 0 dr_cX17_colours_25 rfl ?_
        refine G_aload_n 1 dr_cX17_colours_26 rfl ?_
        refine Gp_get 3 hm333570 he334709 dr_cX17_colours_27 (gk_X17 D I) (Nat.le_of_ble_eq_true rfl) wr_7_77 rfl ?_
        refine G_iload_n 0 dr_cX17_colours_30 rfl ?_
        refine Gp_zald 3 hm333572 he334710 dr_cX17_colours_31 rfl (gB_in bg333559' (by decide) (by decide)) (G_eqi (y := z334704) hz334704.symm ?_)
        refine G_if_eq 47 dr_cX17_colours_32 (by decide +kernel) (fun hc334717 => ?_) (fun hc334717 => ?_)
        · have r334718 : z334704.toInt = 0 := gj_eq hc334717 (show Int32.toInt 0 = 0 by decide)
          have bz334704' : gB z334704 0 0 := gB_t0 r334718
          refine G_iconst 0 dr_cX17_colours_47 (by decide +kernel) ?_
          have hT334719 : RS D I P326336 F334705 γ el := RS_set hT333561 n334707 ht326374 (by decide) ⟨f334708, he334713, bf334708⟩
          have hm334720 : (γ 9 16) ∈ P326336 := RS_m hT334719 ht326372 (by decide)
          obtain ⟨f334722, he334721⟩ := show rk_19 I (F334705 (γ 9 16)) from RS_o hT334719 ht326372
          refine Gp_iast 0 hm334720 he334721 dr_cX17_colours_48 rfl (gB_in bg333559' (by decide) (by decide)) (fun F334723 e334724 n334725 => ?_)
          obtain ⟨f334726, hf334726⟩ : ∃ z, z = upd f334722 g333559.toNatClampNeg 0 := ⟨_, rfl⟩
          rw [← hf334726] at e334724
          have he334727 : F334723 q326338 = .inr (22, [.ref (γ 9 0), .ref (γ 9 1), .ref (γ 9 2), .ref (γ 9 3), .ref (γ 9 4), .ref (γ 9 5), .ref (γ 9 6), .ref (γ 9 7), .ref (γ 9 8), .int p326345, .int p326346, .int p326347, .int p326348, .int p326349, .int p326350, .ref (γ 9 15), .ref (γ 9 16), .ref (γ 9 17), .ref (γ 9 18), .ref (γ 9 19), .ref (γ 9 20), .ref (γ 9 21), .ref (γ 9 22), .int p326351, .int p326352, .int p326353, .int p326354, .int p326355, .ref q326343, .ref (γ 9 29), .int p326356, .ref (γ 9 31), .int p326357, .int p326358, .int p326359, .ref q326344]) := (n334725 q326338 (rn_oa he334709 he334721)).trans he334709
          have he334728 : F334723 (γ 9 3) = .inl (I .boolean, 2000, .inl f326390) := (n334725 (γ 9 3) (rn_ty ht326365 ht326372 (by decide))).trans he334710
          have he334729 : F334723 (γ 9 18) = .inl (I .boolean, 2000, .inl f334708) := (n334725 (γ 9 18) (rn_ty ht326374 ht326372 (by decide))).trans he334713
          have he334730 : F334723 (γ 9 15) = .inl (I .int, 2000, .inl f333578) := (n334725 (γ 9 15) (rn_ty ht326371 ht326372 (by decide))).trans he334711
          have he334731 : F334723 (γ 9 17) = .inl (I .int, 2000, .inl f333581) := (n334725 (γ 9 17) (rn_ty ht326373 ht326372 (by decide))).trans he334712
          have he334732 : F334723 (γ 9 16) = .inl (I .int, 2000, .inl f334726) := e334724
          have hs334733 : rStr γ [] F326337 F334723 := rStr_put hs334714 n334725 ht326372 (by decide)
          have kp334734 : F334723 q326338 = F326337 q326338 := (n334725 q326338 (rn_ty htq326338 ht326372 (by decide))).trans kp334715
          have kp334735 : F334723 (γ 9 3) = F326337 (γ 9 3) := (n334725 (γ 9 3) (rn_ty ht326365 ht326372 (by decide))).trans kp334716
          refine G_aload_n 1 dr_cX17_colours_49 rfl ?_
          refine Gp_get 17 hm333570 he334727 dr_cX17_colours_50 (gk_X17 D I) (Nat.le_of_ble_eq_true rfl) wr_7_91 rfl ?_
          refine G_iload_n 0 dr_cX17_colours_53 rfl ?_
          refine G_iconst (-1) dr_cX17_colours_54 (by decide +kernel) ?_
          have hT334736 : RS D I P326336 F334723 γ el := RS_set hT334719 n334725 ht326372 (by decide) ⟨f334726, he334732⟩
          refine Gp_iast 0 hm333579 he334731 dr_cX17_colours_55 rfl (gB_in bg333559' (by decide) (by decide)) (fun F334737 e334738 n334739 => ?_)
          obtain ⟨f334740, hf334740⟩ : ∃ z, z = upd f333581 g333559.toNatClampNeg (-1) := ⟨_, rfl⟩
          rw [← hf334740] at e334738
          have he334741 : F334737 q326338 = .inr (22, [.ref (γ 9 0), .ref (γ 9 1), .ref (γ 9 2), .ref (γ 9 3), .ref (γ 9 4), .ref (γ 9 5), .ref (γ 9 6), .ref (γ 9 7), .ref (γ 9 8), .int p326345, .int p326346, .int p326347, .int p326348, .int p326349, .int p326350, .ref (γ 9 15), .ref (γ 9 16), .ref (γ 9 17), .ref (γ 9 18), .ref (γ 9 19), .ref (γ 9 20), .ref (γ 9 21), .ref (γ 9 22), .int p326351, .int p326352, .int p326353, .int p326354, .int p326355, .ref q326343, .ref (γ 9 29), .int p326356, .ref (γ 9 31), .int p326357, .int p326358, .int p326359, .ref q326344]) := (n334739 q326338 (rn_oa he334727 he334731)).trans he334727
          have he334742 : F334737 (γ 9 3) = .inl (I .boolean, 2000, .inl f326390) := (n334739 (γ 9 3) (rn_ty ht326365 ht326373 (by decide))).trans he334728
          have he334743 : F334737 (γ 9 18) = .inl (I .boolean, 2000, .inl f334708) := (n334739 (γ 9 18) (rn_ty ht326374 ht326373 (by decide))).trans he334729
          have he334744 : F334737 (γ 9 15) = .inl (I .int, 2000, .inl f333578) := (n334739 (γ 9 15) (rn_ty ht326371 ht326373 (by decide))).trans he334730
          have he334745 : F334737 (γ 9 16) = .inl (I .int, 2000, .inl f334726) := (n334739 (γ 9 16) (rn_ty ht326372 ht326373 (by decide))).trans he334732
          have he334746 : F334737 (γ 9 17) = .inl (I .int, 2000, .inl f334740) := e334738
          have hs334747 : rStr γ [] F326337 F334737 := rStr_put hs334733 n334739 ht326373 (by decide)
          have kp334748 : F334737 q326338 = F326337 q326338 := (n334739 q326338 (rn_ty htq326338 ht326373 (by decide))).trans kp334734
          have kp334749 : F334737 (γ 9 3) = F326337 (γ 9 3) := (n334739 (γ 9 3) (rn_ty ht326365 ht326373 (by decide))).trans kp334735
          have bf334740 : gF f334740 (-1) 31 := gF_upd hf334740 bf333581 (gB_w (gBl (show Int32.toInt (-1) = (-1) by decide)) (by decide) (by decide))
          obtain ⟨z334750, hz334750⟩ : ∃ z : Int32, z = g333559 + Int32.ofInt 1 := ⟨_, rfl⟩
          have ez334750 : z334750.toInt = g333559.toInt + 1 := gI_inc hz334750 (by decide) bg333559' (by decide) (by decide)
          have bz334750 : gB z334750 1 2000 := ⟨by omega, by omega⟩
          refine G_iinc (L' := [(2, .int z334750), (0, .ref q326338), (1, .int p326339)]) z334750 0 dr_cX17_colours_56 rfl hz334750.symm (Nat.le_of_ble_eq_true rfl) rfl ?_
          refine G_goto 2 dr_cX17_colours_59 (by decide +kernel) ?_
          have hT334751 : RS D I P326336 F334737 γ el := RS_set hT334736 n334739 ht326373 (by decide) ⟨f334740, he334746, bf334740⟩
          exact ih2_333565 F334737 z334750 (gB_w bz334750 (by decide) (by decide)) hT334751 hs334747 (by rw [ez334750]; rw [cB_of he334742, cB_of he334743]; exact th_u hf334708 hz334704 (by assumption) (by omega) cq333582) kp334748 kp334749 (mz_up ez334750 (Int.le_trans bg333559'.2 (by decide)) hm2_333565)
        · have r334752 : z334704.toInt ≠ 0 := gj_neq hc334717 (show Int32.toInt 0 = 0 by decide)
          have bz334704' : gB z334704 1 1 := gB_t1 bz334704 r334752
          refine G_aload_n 1 dr_cX17_colours_35 rfl ?_
          refine Gp_get 1 hm333570 he334709 dr_cX17_colours_36 (gk_X17 D I) (Nat.le_of_ble_eq_true rfl) wr_7_75 rfl ?_
          refine G_iload_n 0 dr_cX17_colours_39 rfl ?_
          have hT334753 : RS D I P326336 F334705 γ el := RS_set hT333561 n334707 ht326374 (by decide) ⟨f334708, he334713, bf334708⟩
          have hm334754 : (γ 9 1) ∈ P326336 := RS_m hT334753 ht326363 (by decide)
          obtain ⟨f334756, he334755, hg334757⟩ := show rk_13 I γ (F334705 (γ 9 1)) from RS_o hT334753 ht326363
          obtain ⟨q334758, hx334760⟩ : ∃ x, x = γ 11 g333559.toInt.toNat := ⟨_, rfl⟩
          have ht334759 : rKd γ q334758 36 := by rw [hx334760]; exact (hg334757 _ (show g333559.toInt.toNat < 2000 by omega)).2.1
          refine Gp_aald 5 hm334754 he334755 dr_cX17_colours_40 rfl rfl (gB_in bg333559' (by decide) (by decide)) ?_
          rw [show f334756 g333559.toNatClampNeg = some q334758 from (hg334757 _ (show g333559.toInt.toNat < 2000 by omega)).1.trans (by rw [hx334760])]
          change G _ _ _ _ _ _ _ (.ref q334758 :: _) _ _ _
          have hm334761 : q334758 ∈ P326336 := RS_m hT334753 ht334759 (by decide)
          obtain ⟨f334763, he334762, wf334763⟩ := show rk_36 I (F334705 q334758) from RS_o hT334753 ht334759
          refine Gw_callS (As := [.ref q334758]) (gV_ok D I) (cp_1892_SpillForgeModel_count l hl0 D I P326336 F334705 q334758 f334763 hm334761 he334762) dr_cX17_colours_41 ⟨wr_11_16, wr_1_14, wr_11_18, by decide, rfl, (Nat.le_of_ble_eq_true rfl), (Nat.le_of_ble_eq_true rfl)⟩ wr_11_17 (show 0 + 0 ≤ 0 by first | omega | decide) (show 0 + 0 ≤ 0 by first | omega | decide) (Nat.le_of_ble_eq_true rfl) (fun r334767 w334768 dc334764 ds334765 hp334766 => ?_) (fun _ _ _ _ _ z => z.elim)
          obtain ⟨o334769, rfl, rfl, hdc, hds⟩ := hp334766
          have bo334769 := gB_any o334769
          change G _ _ _ _ _ _ _ (.int o334769 :: _) _ _ _
          refine G_widen (cs' := 0) (sl' := 0) (by omega) (by omega) ?_
          refine G_goto 48 dr_cX17_colours_44 (by decide +kernel) ?_
          have hm334770 : (γ 9 16) ∈ P326336 := RS_m hT334753 ht326372 (by decide)
          obtain ⟨f334772, he334771⟩ := show rk_19 I (F334705 (γ 9 16)) from RS_o hT334753 ht326372
          refine Gp_iast 0 hm334770 he334771 dr_cX17_colours_48 rfl (gB_in bg333559' (by decide) (by decide)) (fun F334773 e334774 n334775 => ?_)
          obtain ⟨f334776, hf334776⟩ : ∃ z, z = upd f334772 g333559.toNatClampNeg o334769 := ⟨_, rfl⟩
          rw [← hf334776] at e334774
          have he334777 : F334773 q326338 = .inr (22, [.ref (γ 9 0), .ref (γ 9 1), .ref (γ 9 2), .ref (γ 9 3), .ref (γ 9 4), .ref (γ 9 5), .ref (γ 9 6), .ref (γ 9 7), .ref (γ 9 8), .int p326345, .int p326346, .int p326347, .int p326348, .int p326349, .int p326350, .ref (γ 9 15), .ref (γ 9 16), .ref (γ 9 17), .ref (γ 9 18), .ref (γ 9 19), .ref (γ 9 20), .ref (γ 9 21), .ref (γ 9 22), .int p326351, .int p326352, .int p326353, .int p326354, .int p326355, .ref q326343, .ref (γ 9 29), .int p326356, .ref (γ 9 31), .int p326357, .int p326358, .int p326359, .ref q326344]) := (n334775 q326338 (rn_oa he334709 he334771)).trans he334709
          have he334778 : F334773 (γ 9 3) = .inl (I .boolean, 2000, .inl f326390) := (n334775 (γ 9 3) (rn_ty ht326365 ht326372 (by decide))).trans he334710
          have he334779 : F334773 (γ 9 18) = .inl (I .boolean, 2000, .inl f334708) := (n334775 (γ 9 18) (rn_ty ht326374 ht326372 (by decide))).trans he334713
          have he334780 : F334773 (γ 9 15) = .inl (I .int, 2000, .inl f333578) := (n334775 (γ 9 15) (rn_ty ht326371 ht326372 (by decide))).trans he334711
          have he334781 : F334773 (γ 9 17) = .inl (I .int, 2000, .inl f333581) := (n334775 (γ 9 17) (rn_ty ht326373 ht326372 (by decide))).trans he334712
          have he334782 : F334773 (γ 9 1) = .inl (I (.array .long), 2000, .inr (.inr (.inr (.inr f334756)))) := (n334775 (γ 9 1) (rn_ref_num he334755 he334771)).trans he334755
          have he334783 : F334773 q334758 = .inl (I .long, 32, .inr (.inl f334763)) := (n334775 q334758 (rn_long_num he334762 he334771)).trans he334762
          have he334784 : F334773 (γ 9 16) = .inl (I .int, 2000, .inl f334776) := e334774
          have hs334785 : rStr γ [] F326337 F334773 := rStr_put hs334714 n334775 ht326372 (by decide)
          have kp334786 : F334773 q326338 = F326337 q326338 := (n334775 q326338 (rn_ty htq326338 ht326372 (by decide))).trans kp334715
          have kp334787 : F334773 (γ 9 3) = F326337 (γ 9 3) := (n334775 (γ 9 3) (rn_ty ht326365 ht326372 (by decide))).trans kp334716
          refine G_aload_n 1 dr_cX17_colours_49 rfl ?_
          refine Gp_get 17 hm333570 he334777 dr_cX17_colours_50 (gk_X17 D I) (Nat.le_of_ble_eq_true rfl) wr_7_91 rfl ?_
          refine G_iload_n 0 dr_cX17_colours_53 rfl ?_
          refine G_iconst (-1) dr_cX17_colours_54 (by decide +kernel) ?_
          have hT334788 : RS D I P326336 F334773 γ el := RS_set hT334753 n334775 ht326372 (by decide) ⟨f334776, he334784⟩
          refine Gp_iast 0 hm333579 he334781 dr_cX17_colours_55 rfl (gB_in bg333559' (by decide) (by decide)) (fun F334789 e334790 n334791 => ?_)
          obtain ⟨f334792, hf334792⟩ : ∃ z, z = upd f333581 g333559.toNatClampNeg (-1) := ⟨_, rfl⟩
          rw [← hf334792] at e334790
          have he334793 : F334789 q326338 = .inr (22, [.ref (γ 9 0), .ref (γ 9 1), .ref (γ 9 2), .ref (γ 9 3), .ref (γ 9 4), .ref (γ 9 5), .ref (γ 9 6), .ref (γ 9 7), .ref (γ 9 8), .int p326345, .int p326346, .int p326347, .int p326348, .int p326349, .int p326350, .ref (γ 9 15), .ref (γ 9 16), .ref (γ 9 17), .ref (γ 9 18), .ref (γ 9 19), .ref (γ 9 20), .ref (γ 9 21), .ref (γ 9 22), .int p326351, .int p326352, .int p326353, .int p326354, .int p326355, .ref q326343, .ref (γ 9 29), .int p326356, .ref (γ 9 31), .int p326357, .int p326358, .int p326359, .ref q326344]) := (n334791 q326338 (rn_oa he334777 he334781)).trans he334777
          have he334794 : F334789 (γ 9 3) = .inl (I .boolean, 2000, .inl f326390) := (n334791 (γ 9 3) (rn_ty ht326365 ht326373 (by decide))).trans he334778
          have he334795 : F334789 (γ 9 18) = .inl (I .boolean, 2000, .inl f334708) := (n334791 (γ 9 18) (rn_ty ht326374 ht326373 (by decide))).trans he334779
          have he334796 : F334789 (γ 9 15) = .inl (I .int, 2000, .inl f333578) := (n334791 (γ 9 15) (rn_ty ht326371 ht326373 (by decide))).trans he334780
          have he334797 : F334789 (γ 9 1) = .inl (I (.array .long), 2000, .inr (.inr (.inr (.inr f334756)))) := (n334791 (γ 9 1) (rn_ref_num he334782 he334781)).trans he334782
          have he334798 : F334789 q334758 = .inl (I .long, 32, .inr (.inl f334763)) := (n334791 q334758 (rn_long_num he334783 he334781)).trans he334783
          have he334799 : F334789 (γ 9 16) = .inl (I .int, 2000, .inl f334776) := (n334791 (γ 9 16) (rn_ty ht326372 ht326373 (by decide))).trans he334784
          have he334800 : F334789 (γ 9 17) = .inl (I .int, 2000, .inl f334792) := e334790
          have hs334801 : rStr γ [] F326337 F334789 := rStr_put hs334785 n334791 ht326373 (by decide)
          have kp334802 : F334789 q326338 = F326337 q326338 := (n334791 q326338 (rn_ty htq326338 ht326373 (by decide))).trans kp334786
          have kp334803 : F334789 (γ 9 3) = F326337 (γ 9 3) := (n334791 (γ 9 3) (rn_ty ht326365 ht326373 (by decide))).trans kp334787
          have bf334792 : gF f334792 (-1) 31 := gF_upd hf334792 bf333581 (gB_w (gBl (show Int32.toInt (-1) = (-1) by decide)) (by decide) (by decide))
          obtain ⟨z334804, hz334804⟩ : ∃ z : Int32, z = g333559 + Int32.ofInt 1 := ⟨_, rfl⟩
          have ez334804 : z334804.toInt = g333559.toInt + 1 := gI_inc hz334804 (by decide) bg333559' (by decide) (by decide)
          have bz334804 : gB z334804 1 2000 := ⟨by omega, by omega⟩
          refine G_iinc (L' := [(2, .int z334804), (0, .ref q326338), (1, .int p326339)]) z334804 0 dr_cX17_colours_56 rfl hz334804.symm (Nat.le_of_ble_eq_true rfl) rfl ?_
          refine G_goto 2 dr_cX17_colours_59 (by decide +kernel) ?_
          have hT334805 : RS D I P326336 F334789 γ el := RS_set hT334788 n334791 ht326373 (by decide) ⟨f334792, he334800, bf334792⟩
          exact ih2_333565 F334789 z334804 (gB_w bz334804 (by decide) (by decide)) hT334805 hs334801 (by rw [ez334804]; rw [cB_of he334794, cB_of he334795]; exact th_u hf334708 hz334704 (by assumption) (by omega) cq333582) kp334802 kp334803 (mz_up ez334804 (Int.le_trans bg333559'.2 (by decide)) hm2_333565)
  exact hlp2_333565 (((2001 : Int) - 0).toNat + 1) F326337 0 (gB_w (gBl (show Int32.toInt 0 = 0 by decide)) (by decide) (by decide)) hT (rStr_rf (γ := γ) (W := []) (F := F326337)) (fun m hm => absurd hm (by have qa : Int32.toInt 0 = 0 := (by decide); omega)) rfl rfl (Nat.lt_succ_self _)
