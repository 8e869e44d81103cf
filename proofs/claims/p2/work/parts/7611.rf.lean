theorem dr_cX17_run_0 : decode cX17_run 0 = .ok (.iconst 0, 1) := by decide +kernel
theorem dr_cX17_run_1 : decode cX17_run 1 = .ok (.istore_n 3, 1) := by decide +kernel
theorem dr_cX17_run_2 : decode cX17_run 2 = .ok (.iload_n 3, 1) := by decide +kernel
theorem dr_cX17_run_3 : decode cX17_run 3 = .ok (.sipush 2000, 3) := by decide +kernel
theorem dr_cX17_run_6 : decode cX17_run 6 = .ok (.if_icmp .ge 23, 3) := by decide +kernel
theorem dr_cX17_run_29 : decode cX17_run 29 = .ok (.aload_n 0, 1) := by decide +kernel
theorem dr_cX17_run_30 : decode cX17_run 30 = .ok (.iconst 0, 1) := by decide +kernel
theorem dr_cX17_run_31 : decode cX17_run 31 = .ok (.putfield 277, 3) := by decide +kernel
theorem dr_cX17_run_34 : decode cX17_run 34 = .ok (.aload_n 0, 1) := by decide +kernel
theorem dr_cX17_run_35 : decode cX17_run 35 = .ok (.iconst 0, 1) := by decide +kernel
theorem dr_cX17_run_36 : decode cX17_run 36 = .ok (.putfield 280, 3) := by decide +kernel
theorem dr_cX17_run_39 : decode cX17_run 39 = .ok (.aload_n 0, 1) := by decide +kernel
theorem dr_cX17_run_40 : decode cX17_run 40 = .ok (.iconst 0, 1) := by decide +kernel
theorem dr_cX17_run_41 : decode cX17_run 41 = .ok (.putfield 283, 3) := by decide +kernel
theorem dr_cX17_run_44 : decode cX17_run 44 = .ok (.aload_n 0, 1) := by decide +kernel
theorem dr_cX17_run_45 : decode cX17_run 45 = .ok (.iconst 0, 1) := by decide +kernel
theorem dr_cX17_run_46 : decode cX17_run 46 = .ok (.putfield 286, 3) := by decide +kernel
theorem dr_cX17_run_49 : decode cX17_run 49 = .ok (.iconst 0, 1) := by decide +kernel
theorem dr_cX17_run_50 : decode cX17_run 50 = .ok (.istore_n 3, 1) := by decide +kernel
theorem dr_cX17_run_51 : decode cX17_run 51 = .ok (.iconst 0, 1) := by decide +kernel
theorem dr_cX17_run_52 : decode cX17_run 52 = .ok (.istore 4, 2) := by decide +kernel
theorem dr_cX17_run_54 : decode cX17_run 54 = .ok (.aload_n 1, 1) := by decide +kernel
theorem dr_cX17_run_55 : decode cX17_run 55 = .ok (.iload_n 3, 1) := by decide +kernel
theorem dr_cX17_run_56 : decode cX17_run 56 = .ok (.invokevirtual 101, 3) := by decide +kernel
theorem dr_cX17_run_59 : decode cX17_run 59 = .ok (.astore 5, 2) := by decide +kernel
theorem dr_cX17_run_61 : decode cX17_run 61 = .ok (.aload_n 0, 1) := by decide +kernel
theorem dr_cX17_run_62 : decode cX17_run 62 = .ok (.getfield 283, 3) := by decide +kernel
theorem dr_cX17_run_65 : decode cX17_run 65 = .ok (.iload_n 2, 1) := by decide +kernel
theorem dr_cX17_run_66 : decode cX17_run 66 = .ok (.if_icmp .ne 5, 3) := by decide +kernel
theorem dr_cX17_run_71 : decode cX17_run 71 = .ok (.aload_n 0, 1) := by decide +kernel
theorem dr_cX17_run_72 : decode cX17_run 72 = .ok (.dup, 1) := by decide +kernel
theorem dr_cX17_run_73 : decode cX17_run 73 = .ok (.getfield 283, 3) := by decide +kernel
theorem dr_cX17_run_76 : decode cX17_run 76 = .ok (.iconst 1, 1) := by decide +kernel
theorem dr_cX17_run_77 : decode cX17_run 77 = .ok (.iadd, 1) := by decide +kernel
theorem dr_cX17_run_78 : decode cX17_run 78 = .ok (.putfield 283, 3) := by decide +kernel
theorem dr_cX17_run_81 : decode cX17_run 81 = .ok (.iload 4, 2) := by decide +kernel
theorem dr_cX17_run_83 : decode cX17_run 83 = .ok (.aload 5, 2) := by decide +kernel
theorem dr_cX17_run_85 : decode cX17_run 85 = .ok (.getfield 117, 3) := by decide +kernel
theorem wr_9_220 : (Jvm.Cond.fieldLink "SpillForgeModel" (117 : Nat) "SpillForgeModel$Block" "rows" "Ljava/util/ArrayList;") ∈ gw := gw_9 220 rfl rfl
theorem dr_cX17_run_88 : decode cX17_run 88 = .ok (.invokevirtual 121, 3) := by decide +kernel
theorem wr_10_200 : (Jvm.Cond.methodLink "SpillForgeModel" (121 : Nat) ({ cls := "java/util/ArrayList", name := "size", desc := "()I" } : Jvm.MethodName)) ∈ gw := gw_10 200 rfl rfl
theorem dr_cX17_run_91 : decode cX17_run 91 = .ok (.if_icmp .ge 36, 3) := by decide +kernel
theorem dr_cX17_run_127 : decode cX17_run 127 = .ok (.aload 5, 2) := by decide +kernel
theorem dr_cX17_run_129 : decode cX17_run 129 = .ok (.getfield 109, 3) := by decide +kernel
theorem wr_9_223 : (Jvm.Cond.fieldLink "SpillForgeModel" (109 : Nat) "SpillForgeModel$Block" "end" "LSpillForgeModel$Row;") ∈ gw := gw_9 223 rfl rfl
theorem dr_cX17_run_132 : decode cX17_run 132 = .ok (.astore 6, 2) := by decide +kernel
theorem dr_cX17_run_134 : decode cX17_run 134 = .ok (.aload 6, 2) := by decide +kernel
theorem dr_cX17_run_136 : decode cX17_run 136 = .ok (.getfield 39, 3) := by decide +kernel
theorem dr_cX17_run_139 : decode cX17_run 139 = .ok (.bipush 32, 2) := by decide +kernel
theorem dr_cX17_run_141 : decode cX17_run 141 = .ok (.if_icmp .ne 23, 3) := by decide +kernel
theorem dr_cX17_run_164 : decode cX17_run 164 = .ok (.aload 6, 2) := by decide +kernel
theorem dr_cX17_run_166 : decode cX17_run 166 = .ok (.getfield 39, 3) := by decide +kernel
theorem dr_cX17_run_169 : decode cX17_run 169 = .ok (.bipush 30, 2) := by decide +kernel
theorem dr_cX17_run_171 : decode cX17_run 171 = .ok (.if_icmp .eq 20, 3) := by decide +kernel
theorem dr_cX17_run_191 : decode cX17_run 191 = .ok (.aload 5, 2) := by decide +kernel
theorem dr_cX17_run_193 : decode cX17_run 193 = .ok (.getfield 297, 3) := by decide +kernel
theorem wr_9_229 : (Jvm.Cond.fieldLink "SpillForgeModel" (297 : Nat) "SpillForgeModel$Block" "first" "I") ∈ gw := gw_9 229 rfl rfl
theorem dr_cX17_run_196 : decode cX17_run 196 = .ok (.goto 8, 3) := by decide +kernel
theorem dr_cX17_run_204 : decode cX17_run 204 = .ok (.istore_n 3, 1) := by decide +kernel
theorem dr_cX17_run_205 : decode cX17_run 205 = .ok (.iconst 0, 1) := by decide +kernel
theorem dr_cX17_run_206 : decode cX17_run 206 = .ok (.istore 4, 2) := by decide +kernel
theorem dr_cX17_run_208 : decode cX17_run 208 = .ok (.goto (-154), 3) := by decide +kernel
theorem dr_cX17_run_174 : decode cX17_run 174 = .ok (.aload_n 0, 1) := by decide +kernel
theorem dr_cX17_run_175 : decode cX17_run 175 = .ok (.aload 6, 2) := by decide +kernel
theorem dr_cX17_run_177 : decode cX17_run 177 = .ok (.getfield 141, 3) := by decide +kernel
theorem dr_cX17_run_180 : decode cX17_run 180 = .ok (.aload 6, 2) := by decide +kernel
theorem dr_cX17_run_182 : decode cX17_run 182 = .ok (.getfield 73, 3) := by decide +kernel
theorem dr_cX17_run_185 : decode cX17_run 185 = .ok (.invokevirtual 293, 3) := by decide +kernel
theorem dr_cX17_run_188 : decode cX17_run 188 = .ok (.ifCond .eq 11, 3) := by decide +kernel
theorem dr_cX17_run_199 : decode cX17_run 199 = .ok (.aload 5, 2) := by decide +kernel
theorem dr_cX17_run_201 : decode cX17_run 201 = .ok (.getfield 300, 3) := by decide +kernel
theorem wr_9_233 : (Jvm.Cond.fieldLink "SpillForgeModel" (300 : Nat) "SpillForgeModel$Block" "second" "I") ∈ gw := gw_9 233 rfl rfl
theorem dr_cX17_run_144 : decode cX17_run 144 = .ok (.aload_n 0, 1) := by decide +kernel
theorem dr_cX17_run_145 : decode cX17_run 145 = .ok (.aload_n 0, 1) := by decide +kernel
theorem dr_cX17_run_146 : decode cX17_run 146 = .ok (.aload 6, 2) := by decide +kernel
theorem dr_cX17_run_148 : decode cX17_run 148 = .ok (.getfield 141, 3) := by decide +kernel
theorem dr_cX17_run_151 : decode cX17_run 151 = .ok (.aload 6, 2) := by decide +kernel
theorem dr_cX17_run_153 : decode cX17_run 153 = .ok (.getfield 73, 3) := by decide +kernel
theorem dr_cX17_run_156 : decode cX17_run 156 = .ok (.invokevirtual 293, 3) := by decide +kernel
theorem dr_cX17_run_159 : decode cX17_run 159 = .ok (.putfield 277, 3) := by decide +kernel
theorem dr_cX17_run_162 : decode cX17_run 162 = .ok (.iconst 0, 1) := by decide +kernel
theorem dr_cX17_run_163 : decode cX17_run 163 = .ok (.ireturn, 1) := by decide +kernel
theorem dr_cX17_run_94 : decode cX17_run 94 = .ok (.aload_n 0, 1) := by decide +kernel
theorem dr_cX17_run_95 : decode cX17_run 95 = .ok (.aload 5, 2) := by decide +kernel
theorem dr_cX17_run_97 : decode cX17_run 97 = .ok (.getfield 117, 3) := by decide +kernel
theorem dr_cX17_run_100 : decode cX17_run 100 = .ok (.iload 4, 2) := by decide +kernel
theorem dr_cX17_run_102 : decode cX17_run 102 = .ok (.invokevirtual 124, 3) := by decide +kernel
theorem wr_10_201 : (Jvm.Cond.methodLink "SpillForgeModel" (124 : Nat) ({ cls := "java/util/ArrayList", name := "get", desc := "(I)Ljava/lang/Object;" } : Jvm.MethodName)) ∈ gw := gw_10 201 rfl rfl
theorem dr_cX17_run_105 : decode cX17_run 105 = .ok (.checkcast 40, 3) := by decide +kernel
theorem wr_10_202 : (Jvm.Cond.classLink "SpillForgeModel" (40 : Nat) "SpillForgeModel$Row") ∈ gw := gw_10 202 rfl rfl
theorem dr_cX17_run_108 : decode cX17_run 108 = .ok (.invokevirtual 289, 3) := by decide +kernel
theorem wr_11_96 : (Jvm.Cond.methodLink "SpillForgeModel" (289 : Nat) ({ cls := "SpillForgeModel", name := "step", desc := "(LSpillForgeModel$Row;)I" } : Jvm.MethodName)) ∈ gw := gw_11 96 rfl rfl
theorem wr_11_99 : (Jvm.Cond.code ({ cls := "SpillForgeModel", name := "step", desc := "(LSpillForgeModel$Row;)I" } : Jvm.MethodName) prog_14_method_30_code (4 : Nat) (Option.some Jvm.ClassFile.FieldType.int)) ∈ gw := gw_11 99 rfl rfl
theorem wr_11_98 : (Jvm.Cond.instanceMethod ({ cls := "SpillForgeModel", name := "step", desc := "(LSpillForgeModel$Row;)I" } : Jvm.MethodName)) ∈ gw := gw_11 98 rfl rfl
theorem wr_p_114 : Cond.selects "SpillForgeModel" ⟨"SpillForgeModel", "step", "(LSpillForgeModel$Row;)I"⟩ ⟨"SpillForgeModel", "step", "(LSpillForgeModel$Row;)I"⟩ ∈ gw := gw_p _ 114 rfl rfl rfl
theorem dr_cX17_run_111 : decode cX17_run 111 = .ok (.istore 6, 2) := by decide +kernel
theorem dr_cX17_run_113 : decode cX17_run 113 = .ok (.iload 6, 2) := by decide +kernel
theorem dr_cX17_run_115 : decode cX17_run 115 = .ok (.ifCond .lt 6, 3) := by decide +kernel
theorem dr_cX17_run_121 : decode cX17_run 121 = .ok (.iinc 4 1, 3) := by decide +kernel
theorem dr_cX17_run_124 : decode cX17_run 124 = .ok (.goto (-70), 3) := by decide +kernel
theorem dr_cX17_run_118 : decode cX17_run 118 = .ok (.iload 6, 2) := by decide +kernel
theorem dr_cX17_run_120 : decode cX17_run 120 = .ok (.ireturn, 1) := by decide +kernel
theorem dr_cX17_run_69 : decode cX17_run 69 = .ok (.iconst 4, 1) := by decide +kernel
theorem dr_cX17_run_70 : decode cX17_run 70 = .ok (.ireturn, 1) := by decide +kernel
theorem dr_cX17_run_9 : decode cX17_run 9 = .ok (.aload_n 0, 1) := by decide +kernel
theorem dr_cX17_run_10 : decode cX17_run 10 = .ok (.getfield 271, 3) := by decide +kernel
theorem dr_cX17_run_13 : decode cX17_run 13 = .ok (.iload_n 3, 1) := by decide +kernel
theorem dr_cX17_run_14 : decode cX17_run 14 = .ok (.iconst 0, 1) := by decide +kernel
theorem dr_cX17_run_15 : decode cX17_run 15 = .ok (.iastore, 1) := by decide +kernel
theorem dr_cX17_run_16 : decode cX17_run 16 = .ok (.aload_n 0, 1) := by decide +kernel
theorem dr_cX17_run_17 : decode cX17_run 17 = .ok (.getfield 274, 3) := by decide +kernel
theorem dr_cX17_run_20 : decode cX17_run 20 = .ok (.iload_n 3, 1) := by decide +kernel
theorem dr_cX17_run_21 : decode cX17_run 21 = .ok (.iconst 0, 1) := by decide +kernel
theorem dr_cX17_run_22 : decode cX17_run 22 = .ok (.iastore, 1) := by decide +kernel
theorem dr_cX17_run_23 : decode cX17_run 23 = .ok (.iinc 3 1, 3) := by decide +kernel
theorem dr_cX17_run_26 : decode cX17_run 26 = .ok (.goto (-24), 3) := by decide +kernel
abbrev ky_155004_SpillForgeModel_run : gKey := (cX17_run, 7, "SpillForgeModel", (some FieldType.int), [], "run", fun _ _ => True)
def pt_155004_SpillForgeModel_run (D : va_G) (I : FieldType → ClassId) (γ el : Nat → Nat → Nat) (P154998 : List Nat) (F154999 : Nat → va_E) (q155000 : Nat) (q155001 : Nat) (p155002 : Int32) : Option Value → va_W → Nat → Nat → Prop := fun r w dc ds => ∃ (F158834 : Nat → va_E) (o158833 : Int32), r = some (.int o158833) ∧ w = va_pl P154998 F158834 ∧ RS D I P154998 F158834 γ el ∧ rStr γ F154999 F158834 ∧ dc ≤ 0 ∧ ds ≤ 0 ∧ gB o158833 0 5
set_option maxRecDepth 100000 in
set_option maxHeartbeats 4000000 in
theorem ct_155004_SpillForgeModel_run (l : Launch) (hl0 : l.stackTraces = false) (D : va_G) (I : FieldType → ClassId) (γ el : Nat → Nat → Nat) (P154998 : List Nat) (F154999 : Nat → va_E) (q155000 : Nat) (q155001 : Nat) (p155002 : Int32) (hT : RS D I P154998 F154999 γ el) (htq155000 : rKd γ q155000 10) (htq155001 : rKd γ q155001 9) (bp155002 : gB p155002 1 100000) (x155003 : 0 < γ 6 (γ 1 q155001)) : CtA (gV D I) l yX17_run cX17_run 7 (some FieldType.int) 4 85 0 0 [.ref q155000, .ref q155001, .int p155002] (va_pl P154998 F154999) (pt_155004_SpillForgeModel_run D I γ el P154998 F154999 q155000 q155001 p155002) gNA := by
  refine CtA_of hl0 (by decide) (Nat.le_of_ble_eq_true rfl) ?_
  refine G_iconst 0 dr_cX17_run_0 (by decide +kernel) ?_
  refine G_istore_n (L' := [(3, .int 0), (0, .ref q155000), (1, .ref q155001), (2, .int p155002)]) dr_cX17_run_1 (Nat.le_of_ble_eq_true rfl) rfl ?_
  have hlp2_158115 : ∀ (n2_158115 : Nat) (F158113 : Nat → va_E) (g158112 : Int32), gB g158112 0 2000 → RS D I P154998 F158113 γ el → rStr γ F154999 F158113 → ((2001 : Int) - g158112.toInt).toNat < n2_158115 → G (gV D I) l (gRm 4 85 0 0) (gMA (gV D I) (pt_155004_SpillForgeModel_run D I γ el P154998 F154999 q155000 q155001 p155002) gNA 0 0) ky_155004_SpillForgeModel_run 2 [(3, .int g158112), (0, .ref q155000), (1, .ref q155001), (2, .int p155002)] [] (va_pl P154998 F158113) 0 0 := by
    intro n2_158115
    induction n2_158115 with
    | zero => intro F158113 g158112 bg158112 hT158114 hs158115 hm2_158115; exact absurd hm2_158115 (Nat.not_lt_zero _)
    | succ n2_158115 ih2_158115 =>
      intro F158113 g158112 bg158112 hT158114 hs158115 hm2_158115
      have hs158117 : rStr γ F154999 F158113 := fun b h0 hb => (hs158115 b h0 hb).trans ((rStr_rf (γ := γ) (F := F154999)) b h0 hb).symm
      have hs158118 : rStr γ F154999 F158113 := rStr_tr (rStr_rf (γ := γ) (F := F154999)) hs158117
      have hm158119 : q155000 ∈ P154998 := RS_m hT158114 htq155000 (by decide)
      obtain ⟨q158121, q158122, p158123, p158124, p158125, p158126, p158127, p158128, p158129, p158130, p158131, p158132, p158133, p158134, p158135, p158136, p158137, he158120, hB158164, ht158138, ht158139, ht158140, ht158141, ht158142, ht158143, ht158144, ht158145, ht158146, ht158147, ht158148, ht158149, ht158150, ht158151, ht158152, ht158153, ht158154, ht158155, ht158156, ht158157, ht158158, ht158159, ht158160, ht158161, hB158165⟩ := show rk_10 γ (F158113 q155000) from RS_o hT158114 htq155000
      have ac158166 : (fI (F158113 q155000) 26).toInt = p158132.toInt := by rw [he158120]; rfl
      have bp158132 : gB p158132 0 100000 := (hB158164.2.2.2.2.2.1)
      have ac158167 : (fI (F158113 q155000) 26).toInt = p158132.toInt := by rw [he158120]; rfl
      refine G_iload_n 0 dr_cX17_run_2 rfl ?_
      refine G_sipush 2000 dr_cX17_run_3 (by decide +kernel) ?_
      refine G_icmp_ge 29 dr_cX17_run_6 (by decide +kernel) (fun hc158168 => ?_) (fun hc158168 => ?_)
      · have r158169 : 2000 ≤ g158112.toInt := gj_leL hc158168 (show Int32.toInt 2000 = 2000 by decide)
        have bg158112' : gB g158112 2000 2000 := ⟨by omega, by omega⟩
        refine G_aload_n 1 dr_cX17_run_29 rfl ?_
        refine G_iconst 0 dr_cX17_run_30 (by decide +kernel) ?_
        refine Gp_put 24 hm158119 he158120 dr_cX17_run_31 (gk_X17 D I) (Nat.le_of_ble_eq_true rfl) wr_7_98 rfl rfl rfl (Nat.le_of_ble_eq_true rfl) (fun F158170 e158171 n158172 => ?_)
        have he158173 : F158170 q155000 = .inr (22, [.ref (γ 9 0), .ref (γ 9 1), .ref (γ 9 2), .ref (γ 9 3), .ref (γ 9 4), .ref (γ 9 5), .ref (γ 9 6), .ref (γ 9 7), .ref (γ 9 8), .int p158123, .int p158124, .int p158125, .int p158126, .int p158127, .int p158128, .ref (γ 9 15), .ref (γ 9 16), .ref (γ 9 17), .ref (γ 9 18), .ref (γ 9 19), .ref (γ 9 20), .ref (γ 9 21), .ref (γ 9 22), .int p158129, .int 0, .int p158131, .int p158132, .int p158133, .ref q158121, .ref (γ 9 29), .int p158134, .ref (γ 9 31), .int p158135, .int p158136, .int p158137, .ref q158122]) := e158171
        have hs158174 : rStr γ F154999 F158170 := rStr_put hs158115 n158172 htq155000 (by decide)
        refine G_aload_n 1 dr_cX17_run_34 rfl ?_
        refine G_iconst 0 dr_cX17_run_35 (by decide +kernel) ?_
        refine Gp_put 25 hm158119 he158173 dr_cX17_run_36 (gk_X17 D I) (Nat.le_of_ble_eq_true rfl) wr_7_99 rfl rfl rfl (Nat.le_of_ble_eq_true rfl) (fun F158175 e158176 n158177 => ?_)
        have he158178 : F158175 q155000 = .inr (22, [.ref (γ 9 0), .ref (γ 9 1), .ref (γ 9 2), .ref (γ 9 3), .ref (γ 9 4), .ref (γ 9 5), .ref (γ 9 6), .ref (γ 9 7), .ref (γ 9 8), .int p158123, .int p158124, .int p158125, .int p158126, .int p158127, .int p158128, .ref (γ 9 15), .ref (γ 9 16), .ref (γ 9 17), .ref (γ 9 18), .ref (γ 9 19), .ref (γ 9 20), .ref (γ 9 21), .ref (γ 9 22), .int p158129, .int 0, .int 0, .int p158132, .int p158133, .ref q158121, .ref (γ 9 29), .int p158134, .ref (γ 9 31), .int p158135, .int p158136, .int p158137, .ref q158122]) := e158176
        have hs158179 : rStr γ F154999 F158175 := rStr_put hs158174 n158177 htq155000 (by decide)
        have n158180 : ∀ b, b ≠ q155000 → F158175 b = F158113 b := fun b hb => (n158177 b hb).trans (n158172 b hb)
        refine G_aload_n 1 dr_cX17_run_39 rfl ?_
        refine G_iconst 0 dr_cX17_run_40 (by decide +kernel) ?_
        refine Gp_put 26 hm158119 he158178 dr_cX17_run_41 (gk_X17 D I) (Nat.le_of_ble_eq_true rfl) wr_7_100 rfl rfl rfl (Nat.le_of_ble_eq_true rfl) (fun F158181 e158182 n158183 => ?_)
        have he158184 : F158181 q155000 = .inr (22, [.ref (γ 9 0), .ref (γ 9 1), .ref (γ 9 2), .ref (γ 9 3), .ref (γ 9 4), .ref (γ 9 5), .ref (γ 9 6), .ref (γ 9 7), .ref (γ 9 8), .int p158123, .int p158124, .int p158125, .int p158126, .int p158127, .int p158128, .ref (γ 9 15), .ref (γ 9 16), .ref (γ 9 17), .ref (γ 9 18), .ref (γ 9 19), .ref (γ 9 20), .ref (γ 9 21), .ref (γ 9 22), .int p158129, .int 0, .int 0, .int 0, .int p158133, .ref q158121, .ref (γ 9 29), .int p158134, .ref (γ 9 31), .int p158135, .int p158136, .int p158137, .ref q158122]) := e158182
        have hs158185 : rStr γ F154999 F158181 := rStr_put hs158179 n158183 htq155000 (by decide)
        have n158186 : ∀ b, b ≠ q155000 → F158181 b = F158113 b := fun b hb => (n158183 b hb).trans (n158180 b hb)
        refine G_aload_n 1 dr_cX17_run_44 rfl ?_
        refine G_iconst 0 dr_cX17_run_45 (by decide +kernel) ?_
        refine Gp_put 27 hm158119 he158184 dr_cX17_run_46 (gk_X17 D I) (Nat.le_of_ble_eq_true rfl) wr_7_101 rfl rfl rfl (Nat.le_of_ble_eq_true rfl) (fun F158187 e158188 n158189 => ?_)
        have he158190 : F158187 q155000 = .inr (22, [.ref (γ 9 0), .ref (γ 9 1), .ref (γ 9 2), .ref (γ 9 3), .ref (γ 9 4), .ref (γ 9 5), .ref (γ 9 6), .ref (γ 9 7), .ref (γ 9 8), .int p158123, .int p158124, .int p158125, .int p158126, .int p158127, .int p158128, .ref (γ 9 15), .ref (γ 9 16), .ref (γ 9 17), .ref (γ 9 18), .ref (γ 9 19), .ref (γ 9 20), .ref (γ 9 21), .ref (γ 9 22), .int p158129, .int 0, .int 0, .int 0, .int 0, .ref q158121, .ref (γ 9 29), .int p158134, .ref (γ 9 31), .int p158135, .int p158136, .int p158137, .ref q158122]) := e158188
        have hs158191 : rStr γ F154999 F158187 := rStr_put hs158185 n158189 htq155000 (by decide)
        have n158192 : ∀ b, b ≠ q155000 → F158187 b = F158113 b := fun b hb => (n158189 b hb).trans (n158186 b hb)
        refine G_iconst 0 dr_cX17_run_49 (by decide +kernel) ?_
        refine G_istore_n (L' := [(3, .int 0), (0, .ref q155000), (1, .ref q155001), (2, .int p155002)]) dr_cX17_run_50 (Nat.le_of_ble_eq_true rfl) rfl ?_
        refine G_iconst 0 dr_cX17_run_51 (by decide +kernel) ?_
        refine G_istore (L' := [(4, .int 0), (3, .int 0), (0, .ref q155000), (1, .ref q155001), (2, .int p155002)]) dr_cX17_run_52 (Nat.le_of_ble_eq_true rfl) rfl ?_
        have hT158193 : RS D I P154998 F158187 γ el := RS_set hT158114 n158192 htq155000 (by decide) ⟨q158121, q158122, p158123, p158124, p158125, p158126, p158127, p158128, p158129, 0, 0, 0, 0, p158134, p158135, p158136, p158137, he158190, ⟨(hB158164.1), (hB158164.2.1), (hB158164.2.2.1), (hB158164.2.2.2.1), (gB_w (gBl (show Int32.toInt 0 = 0 by decide)) (by decide) (by decide)), (gB_w (gBl (show Int32.toInt 0 = 0 by decide)) (by decide) (by decide)), (gB_w (gBl (show Int32.toInt 0 = 0 by decide)) (by decide) (by decide)), (hB158164.2.2.2.2.2.2.2.1), (hB158164.2.2.2.2.2.2.2.2)⟩, ht158138, ht158139, ht158140, ht158141, ht158142, ht158143, ht158144, ht158145, ht158146, ht158147, ht158148, ht158149, ht158150, ht158151, ht158152, ht158153, ht158154, ht158155, ht158156, ht158157, ht158158, ht158159, ht158160, ht158161, hB158165⟩
        have hlp54_158454 : ∀ (n54_158454 : Nat) (F158450 : Nat → va_E) (g158448 : Int32) (g158449 : Int32), gB g158448 0 39 → gB g158449 0 1000000 → RS D I P154998 F158450 γ el → rStr γ F154999 F158450 → g158448.toInt < γ 6 (γ 1 q155001) → (fI (F158450 q155000) 26).toInt ≤ p155002.toInt → (p155002.toInt - (fI (F158450 q155000) 26).toInt).toNat < n54_158454 → G (gV D I) l (gRm 4 85 0 0) (gMA (gV D I) (pt_155004_SpillForgeModel_run D I γ el P154998 F154999 q155000 q155001 p155002) gNA 0 0) ky_155004_SpillForgeModel_run 54 [(4, .int g158449), (3, .int g158448), (0, .ref q155000), (1, .ref q155001), (2, .int p155002)] [] (va_pl P154998 F158450) 0 0 := by
          intro n54_158454
          induction n54_158454 with
          | zero => intro F158450 g158448 g158449 bg158448 bg158449 hT158451 hs158452 x158453 x158454 hm54_158454; exact absurd hm54_158454 (Nat.not_lt_zero _)
          | succ n54_158454 ih54_158454 =>
            intro F158450 g158448 g158449 bg158448 bg158449 hT158451 hs158452 x158453 x158454 hm54_158454
            have hs158456 : rStr γ F158187 F158450 := fun b h0 hb => (hs158452 b h0 hb).trans (hs158191 b h0 hb).symm
            have hs158457 : rStr γ F154999 F158450 := rStr_tr hs158191 hs158456
            have hm158458 : q155000 ∈ P154998 := RS_m hT158451 htq155000 (by decide)
            obtain ⟨q158460, q158461, p158462, p158463, p158464, p158465, p158466, p158467, p158468, p158469, p158470, p158471, p158472, p158473, p158474, p158475, p158476, he158459, hB158503, ht158477, ht158478, ht158479, ht158480, ht158481, ht158482, ht158483, ht158484, ht158485, ht158486, ht158487, ht158488, ht158489, ht158490, ht158491, ht158492, ht158493, ht158494, ht158495, ht158496, ht158497, ht158498, ht158499, ht158500, hB158504⟩ := show rk_10 γ (F158450 q155000) from RS_o hT158451 htq155000
            have ac158505 : (fI (F158450 q155000) 26).toInt = p158471.toInt := by rw [he158459]; rfl
            have bp158471 : gB p158471 0 100000 := (hB158503.2.2.2.2.2.1)
            have ac158506 : (fI (F158450 q155000) 26).toInt = p158471.toInt := by rw [he158459]; rfl
            refine G_aload_n 3 dr_cX17_run_54 rfl ?_
            refine G_iload_n 1 dr_cX17_run_55 rfl ?_
            have hm158507 : q155001 ∈ P154998 := RS_m hT158451 htq155001 (by decide)
            obtain ⟨q158509, q158510, p158511, p158512, he158508, ht158513, ht158514, ht158515, ht158516, r158517, r158518, r158519, r158520, r158521, r158522, r158523, r158524, r158525, r158526⟩ := show rk_9 γ el q155001 (F158450 q155001) from RS_o hT158451 htq155001
            have bp158511 : gB p158511 0 1000000 := ⟨by omega, by omega⟩
            have bp158512 : gB p158512 0 1000000 := ⟨by omega, by omega⟩
            have hm158527 : q158509 ∈ P154998 := RS_m hT158451 ht158513 (by decide)
            obtain ⟨⟨p158529, p158530, q158531, he158528, r158532, r158533, r158534⟩, r158535⟩ := show rk_4 D I γ el F158450 q158509 from RS_o hT158451 ht158513
            have bp158529 := gB_any p158529
            have bp158530 : gB p158530 0 1000000 := ⟨by omega, by omega⟩
            obtain ⟨r158536, r158537, n158543, f158544, r158538, r158539, r158540, r158541, r158542⟩ := rLC_n r158534 (by omega)
            have hm158545 : q158531 ∈ P154998 := RS_m hT158451 r158536 (by decide)
            obtain ⟨q158546, hx158547⟩ : ∃ x, x = el q158509 g158448.toInt.toNat := ⟨_, rfl⟩
            have hx158548 : f158544 g158448.toNatClampNeg = some q158546 := (r158541 _ (show g158448.toInt.toNat < γ 2 q158509 by omega)).trans (by rw [hx158547])
            have ht158551 : rKd γ q158546 2 := by rw [hx158547]; exact r158524 _ (by omega)
            have ht158552 : rFm γ q158546 q158509 := by rw [hx158547]; exact (r158535 _ (show g158448.toInt.toNat < γ 2 q158509 by omega)).2.1
            have hm158553 : q158546 ∈ P154998 := RS_m hT158451 ht158551 (by decide)
            obtain ⟨q158555, q158556, p158557, p158558, he158554, ht158559, ht158560, ht158561, ht158562, ht158563, bp158557, bp158558, r158564⟩ := show rk_2 γ q158546 (F158450 q158546) from RS_o hT158451 ht158551
            have fm158565 : γ 6 (γ 1 q158546) = γ 6 (γ 1 q155001) := by rw [show γ 1 q158546 = γ 1 q158509 from ht158552, show γ 1 q158509 = γ 1 q155001 from ht158514]
            refine Gw_callV (As := [.int g158448]) (gV_ok D I) (cp_6012_Code_get l hl0 D I P154998 F158450 q155001 q158509 q158531 g158448 q158510 p158511 p158512 p158529 p158530 f158544 n158543 q158546 q158555 q158556 p158557 p158558 hm158507 hm158527 hm158545 hm158553 he158508 he158528 r158538 he158554 (gB_w bg158448 (by decide) (by decide)) (gB_w bp158530 (by decide) (by decide)) (by omega) (by omega) (by assumption) (by omega)) dr_cX17_run_56 ⟨wr_10_161, wr_1_15, wr_10_141, by decide, rfl, (Nat.le_of_ble_eq_true rfl), (Nat.le_of_ble_eq_true rfl)⟩ wr_10_139 wr_10_140 hm158507 he158508 rfl (show 0 + 0 ≤ 0 by first | omega | decide) (show 0 + 0 ≤ 0 by first | omega | decide) (Nat.le_of_ble_eq_true rfl) (fun r158569 w158570 dc158566 ds158567 hp158568 => ?_) (fun _ _ _ _ _ z => z.elim)
            obtain ⟨rfl, rfl, hdc, hds⟩ := hp158568
            change G _ _ _ _ _ _ _ (.ref q158546 :: _) _ _ _
            refine G_widen (cs' := 0) (sl' := 0) (by omega) (by omega) ?_
            refine G_astore (L' := [(5, .ref q158546), (4, .int g158449), (3, .int g158448), (0, .ref q155000), (1, .ref q155001), (2, .int p155002)]) dr_cX17_run_59 (Nat.le_of_ble_eq_true rfl) rfl ?_
            refine G_aload_n 3 dr_cX17_run_61 rfl ?_
            refine Gp_get 26 hm158458 he158459 dr_cX17_run_62 (gk_X17 D I) (Nat.le_of_ble_eq_true rfl) wr_7_100 rfl ?_
            refine G_iload_n 5 dr_cX17_run_65 rfl ?_
            refine G_icmp_ne 71 dr_cX17_run_66 (by decide +kernel) (fun hc158571 => ?_) (fun hc158571 => ?_)
            · have r158572 : p158471.toInt ≠ p155002.toInt := gC_ne hc158571
              refine G_aload_n 3 dr_cX17_run_71 rfl ?_
              refine G_dup dr_cX17_run_72 rfl ?_
              refine Gp_get 26 hm158458 he158459 dr_cX17_run_73 (gk_X17 D I) (Nat.le_of_ble_eq_true rfl) wr_7_100 rfl ?_
              refine G_iconst 1 dr_cX17_run_76 (by decide +kernel) ?_
              refine G_iadd dr_cX17_run_77 (G_nam fun z158573 hz158573 => ?_)
              have ez158573 : z158573.toInt = p158471.toInt + 1 := by rw [gI_add hz158573 bp158471 (gBl (show Int32.toInt 1 = 1 by decide)) (by decide) (by decide), show Int32.toInt 1 = 1 from by decide]
              have bz158573 : gB z158573 1 100001 := gB_add (gI_add hz158573 bp158471 (gBl (show Int32.toInt 1 = 1 by decide)) (by decide) (by decide)) bp158471 (gBl (show Int32.toInt 1 = 1 by decide)) (by decide) (by decide)
              refine Gp_put 26 hm158458 he158459 dr_cX17_run_78 (gk_X17 D I) (Nat.le_of_ble_eq_true rfl) wr_7_100 rfl rfl rfl (Nat.le_of_ble_eq_true rfl) (fun F158574 e158575 n158576 => ?_)
              have he158577 : F158574 q155001 = .inr (18, [.ref q158509, .ref q158510, .int p158511, .int p158512]) := (n158576 q155001 (rn_oo he158508 he158459 (by decide))).trans he158508
              have he158578 : F158574 q158509 = .inr (4, [.int p158529, .ref q158531, .int p158530]) := (n158576 q158509 (rn_oo he158528 he158459 (by decide))).trans he158528
              have he158579 : F158574 q158531 = .inl (I (.object "java/lang/Object"), n158543, .inr (.inr (.inr (.inr f158544)))) := (n158576 q158531 (rn_ao r158538 he158459)).trans r158538
              have he158580 : F158574 q158546 = .inr (17, [.ref q158555, .ref q158556, .int p158557, .int p158558]) := (n158576 q158546 (rn_oo he158554 he158459 (by decide))).trans he158554
              have he158581 : F158574 q155000 = .inr (22, [.ref (γ 9 0), .ref (γ 9 1), .ref (γ 9 2), .ref (γ 9 3), .ref (γ 9 4), .ref (γ 9 5), .ref (γ 9 6), .ref (γ 9 7), .ref (γ 9 8), .int p158462, .int p158463, .int p158464, .int p158465, .int p158466, .int p158467, .ref (γ 9 15), .ref (γ 9 16), .ref (γ 9 17), .ref (γ 9 18), .ref (γ 9 19), .ref (γ 9 20), .ref (γ 9 21), .ref (γ 9 22), .int p158468, .int p158469, .int p158470, .int z158573, .int p158472, .ref q158460, .ref (γ 9 29), .int p158473, .ref (γ 9 31), .int p158474, .int p158475, .int p158476, .ref q158461]) := e158575
              have hs158582 : rStr γ F154999 F158574 := rStr_put hs158452 n158576 htq155000 (by decide)
              refine G_iload 1 dr_cX17_run_81 rfl ?_
              refine G_aload 0 dr_cX17_run_83 rfl ?_
              refine Gp_get 0 hm158553 he158580 dr_cX17_run_85 (gk_X12 D I) (Nat.le_of_ble_eq_true rfl) wr_9_220 rfl ?_
              have hT158583 : RS D I P154998 F158574 γ el := RS_set hT158451 n158576 htq155000 (by decide) ⟨q158460, q158461, p158462, p158463, p158464, p158465, p158466, p158467, p158468, p158469, p158470, z158573, p158472, p158473, p158474, p158475, p158476, he158581, ⟨(hB158503.1), (hB158503.2.1), (hB158503.2.2.1), (hB158503.2.2.2.1), (hB158503.2.2.2.2.1), ⟨by omega, by omega⟩, (hB158503.2.2.2.2.2.2.1), (hB158503.2.2.2.2.2.2.2.1), (hB158503.2.2.2.2.2.2.2.2)⟩, ht158477, ht158478, ht158479, ht158480, ht158481, ht158482, ht158483, ht158484, ht158485, ht158486, ht158487, ht158488, ht158489, ht158490, ht158491, ht158492, ht158493, ht158494, ht158495, ht158496, ht158497, ht158498, ht158499, ht158500, hB158504⟩
              have hm158584 : q158555 ∈ P154998 := RS_m hT158583 ht158559 (by decide)
              obtain ⟨⟨p158586, p158587, q158588, he158585, r158589, r158590, r158591⟩, r158592⟩ := show rk_3 D I γ el F158574 q158555 from RS_o hT158583 ht158559
              have bp158586 := gB_any p158586
              have bp158587 : gB p158587 0 1000000 := ⟨by omega, by omega⟩
              refine Gw_callV (As := []) (gV_ok D I) (cp_7_ArrayList_size l hl0 D I P154998 F158574 q158555 p158586 q158588 p158587 hm158584 he158585 (gB_w bp158587 (by decide) (by decide))) dr_cX17_run_88 ⟨wr_10_200, wr_1_18, wr_9_160, by decide, rfl, (Nat.le_of_ble_eq_true rfl), (Nat.le_of_ble_eq_true rfl)⟩ wr_9_158 wr_9_159 hm158584 he158585 rfl (show 0 + 0 ≤ 0 by first | omega | decide) (show 0 + 0 ≤ 0 by first | omega | decide) (Nat.le_of_ble_eq_true rfl) (fun r158596 w158597 dc158593 ds158594 hp158595 => ?_) (fun _ _ _ _ _ z => z.elim)
              obtain ⟨rfl, rfl, hdc, hds⟩ := hp158595
              change G _ _ _ _ _ _ _ (.int p158587 :: _) _ _ _
              refine G_widen (cs' := 0) (sl' := 0) (by omega) (by omega) ?_
              refine G_icmp_ge 127 dr_cX17_run_91 (by decide +kernel) (fun hc158598 => ?_) (fun hc158598 => ?_)
              · have r158599 : p158587.toInt ≤ g158449.toInt := gC_le hc158598
                refine G_aload 0 dr_cX17_run_127 rfl ?_
                refine Gp_get 1 hm158553 he158580 dr_cX17_run_129 (gk_X12 D I) (Nat.le_of_ble_eq_true rfl) wr_9_223 rfl ?_
                refine G_astore (L' := [(6, .ref q158556), (5, .ref q158546), (4, .int g158449), (3, .int g158448), (0, .ref q155000), (1, .ref q155001), (2, .int p155002)]) dr_cX17_run_132 (Nat.le_of_ble_eq_true rfl) rfl ?_
                refine G_aload 0 dr_cX17_run_134 rfl ?_
                have hm158600 : q158556 ∈ P154998 := RS_m hT158583 ht158561 (by decide)
                obtain ⟨p158602, p158603, p158604, p158605, p158606, p158607, p158608, he158601, bp158602, bp158603, bp158606, bp158607, bp158608, r158609, r158610, r158611, r158612⟩ := show rk_1 γ q158556 (F158574 q158556) from RS_o hT158583 ht158561
                have bp158604 := gB_any p158604
                have bp158605 := gB_any p158605
                refine Gp_get 0 hm158600 he158601 dr_cX17_run_136 (gk_X15 D I) (Nat.le_of_ble_eq_true rfl) wr_9_177 rfl ?_
                refine G_bipush 32 dr_cX17_run_139 (by decide +kernel) ?_
                refine G_icmp_ne 164 dr_cX17_run_141 (by decide +kernel) (fun hc158613 => ?_) (fun hc158613 => ?_)
                · have r158614 : p158602.toInt ≠ 32 := gj_neq hc158613 (show Int32.toInt 32 = 32 by decide)
                  have bp158602' : gB p158602 0 31 := ⟨by omega, by omega⟩
                  refine G_aload 0 dr_cX17_run_164 rfl ?_
                  refine Gp_get 0 hm158600 he158601 dr_cX17_run_166 (gk_X15 D I) (Nat.le_of_ble_eq_true rfl) wr_9_177 rfl ?_
                  refine G_bipush 30 dr_cX17_run_169 (by decide +kernel) ?_
                  refine G_icmp_eq 191 dr_cX17_run_171 (by decide +kernel) (fun hc158615 => ?_) (fun hc158615 => ?_)
                  · have r158616 : p158602.toInt = 30 := gj_eq hc158615 (show Int32.toInt 30 = 30 by decide)
                    have bp158602'' : gB p158602 30 30 := ⟨by omega, by omega⟩
                    refine G_aload 1 dr_cX17_run_191 rfl ?_
                    refine Gp_get 2 hm158553 he158580 dr_cX17_run_193 (gk_X12 D I) (Nat.le_of_ble_eq_true rfl) wr_9_229 rfl ?_
                    refine G_goto 204 dr_cX17_run_196 (by decide +kernel) ?_
                    refine G_istore_n (L' := [(3, .int p158557), (6, .ref q158556), (5, .ref q158546), (4, .int g158449), (0, .ref q155000), (1, .ref q155001), (2, .int p155002)]) dr_cX17_run_204 (Nat.le_of_ble_eq_true rfl) rfl ?_
                    refine G_iconst 0 dr_cX17_run_205 (by decide +kernel) ?_
                    refine G_istore (L' := [(4, .int 0), (3, .int p158557), (6, .ref q158556), (5, .ref q158546), (0, .ref q155000), (1, .ref q155001), (2, .int p155002)]) dr_cX17_run_206 (Nat.le_of_ble_eq_true rfl) rfl ?_
                    refine G_goto 54 dr_cX17_run_208 (by decide +kernel) ?_
                    refine G_lv (L' := [(4, .int 0), (3, .int p158557), (0, .ref q155000), (1, .ref q155001), (2, .int p155002)]) [0, 1, 4, 5, 6] rfl ?_
                    have ac158617 : (fI (F158574 q155000) 26).toInt = z158573.toInt := by rw [he158581]; rfl
                    exact ih54_158454 F158574 p158557 0 bp158557 (gB_w (gBl (show Int32.toInt 0 = 0 by decide)) (by decide) (by decide)) hT158583 hs158582 (by have qa0 : Int32.toInt 0 = 0 := (by decide); omega) (by omega) (by have qa0 : Int32.toInt 0 = 0 := (by decide); omega)
                  · have r158618 : p158602.toInt ≠ 30 := gj_neq hc158615 (show Int32.toInt 30 = 30 by decide)
                    refine G_aload_n 4 dr_cX17_run_174 rfl ?_
                    refine G_aload 0 dr_cX17_run_175 rfl ?_
                    refine Gp_get 5 hm158600 he158601 dr_cX17_run_177 (gk_X15 D I) (Nat.le_of_ble_eq_true rfl) wr_9_197 rfl ?_
                    refine G_aload 0 dr_cX17_run_180 rfl ?_
                    refine Gp_get 2 hm158600 he158601 dr_cX17_run_182 (gk_X15 D I) (Nat.le_of_ble_eq_true rfl) wr_9_186 rfl ?_
                    refine Gw_callV (As := [.int p158607, .int p158604]) (gV_ok D I) (ct_5682_SpillForgeModel_value l hl0 D I γ el P154998 F158574 q155000 p158607 p158604 hT158583 htq155000 bp158607 (by omega)) dr_cX17_run_185 ⟨wr_11_100, wr_1_14, wr_11_103, by decide, rfl, (Nat.le_of_ble_eq_true rfl), (Nat.le_of_ble_eq_true rfl)⟩ wr_11_102 wr_p_115 hm158458 he158581 rfl (show 0 + 0 ≤ 0 by first | omega | decide) (show 0 + 0 ≤ 0 by first | omega | decide) (Nat.le_of_ble_eq_true rfl) (fun r158622 w158623 dc158619 ds158620 hp158621 => ?_) (fun _ _ _ _ _ z => z.elim)
                    obtain ⟨o158624, rfl, rfl, hdc, hds⟩ := hp158621
                    have bo158624 := gB_any o158624
                    change G _ _ _ _ _ _ _ (.int o158624 :: _) _ _ _
                    refine G_widen (cs' := 0) (sl' := 0) (by omega) (by omega) ?_
                    refine G_if_eq 199 dr_cX17_run_188 (by decide +kernel) (fun hc158625 => ?_) (fun hc158625 => ?_)
                    · have r158626 : o158624.toInt = 0 := gj_eq hc158625 (show Int32.toInt 0 = 0 by decide)
                      have bo158624' : gB o158624 0 0 := ⟨by omega, by omega⟩
                      refine G_aload 1 dr_cX17_run_199 rfl ?_
                      refine Gp_get 3 hm158553 he158580 dr_cX17_run_201 (gk_X12 D I) (Nat.le_of_ble_eq_true rfl) wr_9_233 rfl ?_
                      refine G_istore_n (L' := [(3, .int p158558), (6, .ref q158556), (5, .ref q158546), (4, .int g158449), (0, .ref q155000), (1, .ref q155001), (2, .int p155002)]) dr_cX17_run_204 (Nat.le_of_ble_eq_true rfl) rfl ?_
                      refine G_iconst 0 dr_cX17_run_205 (by decide +kernel) ?_
                      refine G_istore (L' := [(4, .int 0), (3, .int p158558), (6, .ref q158556), (5, .ref q158546), (0, .ref q155000), (1, .ref q155001), (2, .int p155002)]) dr_cX17_run_206 (Nat.le_of_ble_eq_true rfl) rfl ?_
                      refine G_goto 54 dr_cX17_run_208 (by decide +kernel) ?_
                      refine G_lv (L' := [(4, .int 0), (3, .int p158558), (0, .ref q155000), (1, .ref q155001), (2, .int p155002)]) [0, 1, 4, 5, 6] rfl ?_
                      have ac158627 : (fI (F158574 q155000) 26).toInt = z158573.toInt := by rw [he158581]; rfl
                      exact ih54_158454 F158574 p158558 0 bp158558 (gB_w (gBl (show Int32.toInt 0 = 0 by decide)) (by decide) (by decide)) hT158583 hs158582 (by have qa0 : Int32.toInt 0 = 0 := (by decide); omega) (by omega) (by have qa0 : Int32.toInt 0 = 0 := (by decide); omega)
                    · have r158628 : o158624.toInt ≠ 0 := gj_neq hc158625 (show Int32.toInt 0 = 0 by decide)
                      refine G_aload 1 dr_cX17_run_191 rfl ?_
                      refine Gp_get 2 hm158553 he158580 dr_cX17_run_193 (gk_X12 D I) (Nat.le_of_ble_eq_true rfl) wr_9_229 rfl ?_
                      refine G_goto 204 dr_cX17_run_196 (by decide +kernel) ?_
                      refine G_istore_n (L' := [(3, .int p158557), (6, .ref q158556), (5, .ref q158546), (4, .int g158449), (0, .ref q155000), (1, .ref q155001), (2, .int p155002)]) dr_cX17_run_204 (Nat.le_of_ble_eq_true rfl) rfl ?_
                      refine G_iconst 0 dr_cX17_run_205 (by decide +kernel) ?_
                      refine G_istore (L' := [(4, .int 0), (3, .int p158557), (6, .ref q158556), (5, .ref q158546), (0, .ref q155000), (1, .ref q155001), (2, .int p155002)]) dr_cX17_run_206 (Nat.le_of_ble_eq_true rfl) rfl ?_
                      refine G_goto 54 dr_cX17_run_208 (by decide +kernel) ?_
                      refine G_lv (L' := [(4, .int 0), (3, .int p158557), (0, .ref q155000), (1, .ref q155001), (2, .int p155002)]) [0, 1, 4, 5, 6] rfl ?_
                      have ac158629 : (fI (F158574 q155000) 26).toInt = z158573.toInt := by rw [he158581]; rfl
                      exact ih54_158454 F158574 p158557 0 bp158557 (gB_w (gBl (show Int32.toInt 0 = 0 by decide)) (by decide) (by decide)) hT158583 hs158582 (by have qa0 : Int32.toInt 0 = 0 := (by decide); omega) (by omega) (by have qa0 : Int32.toInt 0 = 0 := (by decide); omega)
                · have r158630 : p158602.toInt = 32 := gj_eq hc158613 (show Int32.toInt 32 = 32 by decide)
                  have bp158602' : gB p158602 32 32 := ⟨by omega, by omega⟩
                  refine G_aload_n 4 dr_cX17_run_144 rfl ?_
                  refine G_aload_n 4 dr_cX17_run_145 rfl ?_
                  refine G_aload 0 dr_cX17_run_146 rfl ?_
                  refine Gp_get 5 hm158600 he158601 dr_cX17_run_148 (gk_X15 D I) (Nat.le_of_ble_eq_true rfl) wr_9_197 rfl ?_
                  refine G_aload 0 dr_cX17_run_151 rfl ?_
                  refine Gp_get 2 hm158600 he158601 dr_cX17_run_153 (gk_X15 D I) (Nat.le_of_ble_eq_true rfl) wr_9_186 rfl ?_
                  refine Gw_callV (As := [.int p158607, .int p158604]) (gV_ok D I) (ct_5682_SpillForgeModel_value l hl0 D I γ el P154998 F158574 q155000 p158607 p158604 hT158583 htq155000 bp158607 (by omega)) dr_cX17_run_156 ⟨wr_11_100, wr_1_14, wr_11_103, by decide, rfl, (Nat.le_of_ble_eq_true rfl), (Nat.le_of_ble_eq_true rfl)⟩ wr_11_102 wr_p_115 hm158458 he158581 rfl (show 0 + 0 ≤ 0 by first | omega | decide) (show 0 + 0 ≤ 0 by first | omega | decide) (Nat.le_of_ble_eq_true rfl) (fun r158634 w158635 dc158631 ds158632 hp158633 => ?_) (fun _ _ _ _ _ z => z.elim)
                  obtain ⟨o158636, rfl, rfl, hdc, hds⟩ := hp158633
                  have bo158636 := gB_any o158636
                  change G _ _ _ _ _ _ _ (.int o158636 :: _) _ _ _
                  refine G_widen (cs' := 0) (sl' := 0) (by omega) (by omega) ?_
                  refine Gp_put 24 hm158458 he158581 dr_cX17_run_159 (gk_X17 D I) (Nat.le_of_ble_eq_true rfl) wr_7_98 rfl rfl rfl (Nat.le_of_ble_eq_true rfl) (fun F158637 e158638 n158639 => ?_)
                  have he158640 : F158637 q155001 = .inr (18, [.ref q158509, .ref q158510, .int p158511, .int p158512]) := (n158639 q155001 (rn_oo he158577 he158581 (by decide))).trans he158577
                  have he158641 : F158637 q158509 = .inr (4, [.int p158529, .ref q158531, .int p158530]) := (n158639 q158509 (rn_oo he158578 he158581 (by decide))).trans he158578
                  have he158642 : F158637 q158531 = .inl (I (.object "java/lang/Object"), n158543, .inr (.inr (.inr (.inr f158544)))) := (n158639 q158531 (rn_ao he158579 he158581)).trans he158579
                  have he158643 : F158637 q158546 = .inr (17, [.ref q158555, .ref q158556, .int p158557, .int p158558]) := (n158639 q158546 (rn_oo he158580 he158581 (by decide))).trans he158580
                  have he158644 : F158637 q158555 = .inr (4, [.int p158586, .ref q158588, .int p158587]) := (n158639 q158555 (rn_oo he158585 he158581 (by decide))).trans he158585
                  have he158645 : F158637 q158556 = .inr (20, [.int p158602, .int p158603, .int p158604, .int p158605, .int p158606, .int p158607, .int p158608]) := (n158639 q158556 (rn_oo he158601 he158581 (by decide))).trans he158601
                  have he158646 : F158637 q155000 = .inr (22, [.ref (γ 9 0), .ref (γ 9 1), .ref (γ 9 2), .ref (γ 9 3), .ref (γ 9 4), .ref (γ 9 5), .ref (γ 9 6), .ref (γ 9 7), .ref (γ 9 8), .int p158462, .int p158463, .int p158464, .int p158465, .int p158466, .int p158467, .ref (γ 9 15), .ref (γ 9 16), .ref (γ 9 17), .ref (γ 9 18), .ref (γ 9 19), .ref (γ 9 20), .ref (γ 9 21), .ref (γ 9 22), .int p158468, .int o158636, .int p158470, .int z158573, .int p158472, .ref q158460, .ref (γ 9 29), .int p158473, .ref (γ 9 31), .int p158474, .int p158475, .int p158476, .ref q158461]) := e158638
                  have hs158647 : rStr γ F154999 F158637 := rStr_put hs158582 n158639 htq155000 (by decide)
                  refine G_iconst 0 dr_cX17_run_162 (by decide +kernel) ?_
                  have hT158648 : RS D I P154998 F158637 γ el := RS_set hT158583 n158639 htq155000 (by decide) ⟨q158460, q158461, p158462, p158463, p158464, p158465, p158466, p158467, p158468, o158636, p158470, z158573, p158472, p158473, p158474, p158475, p158476, he158646, ⟨(hB158503.1), (hB158503.2.1), (hB158503.2.2.1), (hB158503.2.2.2.1), (hB158503.2.2.2.2.1), ⟨by omega, by omega⟩, (hB158503.2.2.2.2.2.2.1), (hB158503.2.2.2.2.2.2.2.1), (hB158503.2.2.2.2.2.2.2.2)⟩, ht158477, ht158478, ht158479, ht158480, ht158481, ht158482, ht158483, ht158484, ht158485, ht158486, ht158487, ht158488, ht158489, ht158490, ht158491, ht158492, ht158493, ht158494, ht158495, ht158496, ht158497, ht158498, ht158499, ht158500, hB158504⟩
                  exact G_iretA dr_cX17_run_163 rfl (Nat.le_of_ble_eq_true rfl) (Nat.le_of_ble_eq_true rfl) ⟨F158637, 0, rfl, rfl, hT158648, hs158647, (Nat.le_of_ble_eq_true rfl), (Nat.le_of_ble_eq_true rfl), (gB_w (gBl (show Int32.toInt 0 = 0 by decide)) (by decide) (by decide))⟩
              · have r158649 : g158449.toInt < p158587.toInt := gC_nle hc158598
                have bg158449' : gB g158449 0 999999 := ⟨by omega, by omega⟩
                have bp158587' : gB p158587 1 1000000 := ⟨by omega, by omega⟩
                refine G_aload_n 3 dr_cX17_run_94 rfl ?_
                refine G_aload 0 dr_cX17_run_95 rfl ?_
                refine Gp_get 0 hm158553 he158580 dr_cX17_run_97 (gk_X12 D I) (Nat.le_of_ble_eq_true rfl) wr_9_220 rfl ?_
                refine G_iload 1 dr_cX17_run_100 rfl ?_
                obtain ⟨r158650, r158651, n158657, f158658, r158652, r158653, r158654, r158655, r158656⟩ := rLC_n r158591 (by omega)
                have hm158659 : q158588 ∈ P154998 := RS_m hT158583 r158650 (by decide)
                obtain ⟨q158660, hx158661⟩ : ∃ x, x = el q158555 g158449.toInt.toNat := ⟨_, rfl⟩
                have hx158662 : f158658 g158449.toNatClampNeg = some q158660 := (r158655 _ (show g158449.toInt.toNat < γ 2 q158555 by omega)).trans (by rw [hx158661])
                have ht158663 : rKd γ q158660 1 := by rw [hx158661]; exact (r158592 _ (show g158449.toInt.toNat < γ 2 q158555 by omega)).1
                have ht158664 : rFm γ q158660 q158555 := by rw [hx158661]; exact (r158592 _ (show g158449.toInt.toNat < γ 2 q158555 by omega)).2.1
                refine Gw_callV (As := [.int g158449]) (gV_ok D I) (cp_22_ArrayList_get l hl0 D I P154998 F158574 q158555 q158588 g158449 p158586 p158587 f158658 n158657 q158660 hm158584 hm158659 he158585 r158652 (gB_w bg158449' (by decide) (by decide)) (gB_w bp158587' (by decide) (by decide)) (by omega) (by omega) (by assumption) (by omega)) dr_cX17_run_102 ⟨wr_10_201, wr_1_18, wr_10_65, by decide, rfl, (Nat.le_of_ble_eq_true rfl), (Nat.le_of_ble_eq_true rfl)⟩ wr_10_63 wr_10_64 hm158584 he158585 rfl (show 0 + 0 ≤ 0 by first | omega | decide) (show 0 + 0 ≤ 0 by first | omega | decide) (Nat.le_of_ble_eq_true rfl) (fun r158668 w158669 dc158665 ds158666 hp158667 => ?_) (fun _ _ _ _ _ z => z.elim)
                obtain ⟨rfl, rfl, hdc, hds⟩ := hp158667
                change G _ _ _ _ _ _ _ (.ref q158660 :: _) _ _ _
                refine G_widen (cs' := 0) (sl' := 0) (by omega) (by omega) ?_
                have hm158670 : q158660 ∈ P154998 := RS_m hT158583 ht158663 (by decide)
                obtain ⟨p158672, p158673, p158674, p158675, p158676, p158677, p158678, he158671, bp158672, bp158673, bp158676, bp158677, bp158678, r158679, r158680, r158681, r158682⟩ := show rk_1 γ q158660 (F158574 q158660) from RS_o hT158583 ht158663
                have bp158674 := gB_any p158674
                have bp158675 := gB_any p158675
                refine Gp_cast hm158670 he158671 rfl dr_cX17_run_105 wr_10_202 (gr_cast 1 rfl) ?_
                have ac158683 : (fI (F158574 q155000) 26).toInt = z158573.toInt := by rw [he158581]; rfl
                refine Gw_callV (As := [.ref q158660]) (gV_ok D I) (ct_153177_SpillForgeModel_step l hl0 D I γ el P154998 F158574 q155000 q158660 hT158583 htq155000 ht158663) dr_cX17_run_108 ⟨wr_11_96, wr_1_14, wr_11_99, by decide, rfl, (Nat.le_of_ble_eq_true rfl), (Nat.le_of_ble_eq_true rfl)⟩ wr_11_98 wr_p_114 hm158458 he158581 rfl (show 0 + 0 ≤ 0 by first | omega | decide) (show 0 + 0 ≤ 0 by first | omega | decide) (Nat.le_of_ble_eq_true rfl) (fun r158687 w158688 dc158684 ds158685 hp158686 => ?_) (fun _ _ _ _ _ z => z.elim)
                obtain ⟨F158692, o158689, rfl, rfl, hT158693, hs158694, hdc, hds, bo158689, x158690, x158691⟩ := hp158686
                have he158695 : F158692 q155001 = .inr (18, [.ref q158509, .ref q158510, .int p158511, .int p158512]) := (hs158694 q155001 (rT0 htq155001 (by decide)) (rT1 htq155001 (by decide))).trans he158577
                have he158696 : F158692 q158509 = .inr (4, [.int p158529, .ref q158531, .int p158530]) := (hs158694 q158509 (rT0 ht158513 (by decide)) (rT1 ht158513 (by decide))).trans he158578
                have he158697 : F158692 q158531 = .inl (I (.object "java/lang/Object"), n158543, .inr (.inr (.inr (.inr f158544)))) := (hs158694 q158531 (rT0 r158536 (by decide)) (rT1 r158536 (by decide))).trans he158579
                have he158698 : F158692 q158546 = .inr (17, [.ref q158555, .ref q158556, .int p158557, .int p158558]) := (hs158694 q158546 (rT0 ht158551 (by decide)) (rT1 ht158551 (by decide))).trans he158580
                have he158699 : F158692 q158555 = .inr (4, [.int p158586, .ref q158588, .int p158587]) := (hs158694 q158555 (rT0 ht158559 (by decide)) (rT1 ht158559 (by decide))).trans he158585
                have he158700 : F158692 q158588 = .inl (I (.object "java/lang/Object"), n158657, .inr (.inr (.inr (.inr f158658)))) := (hs158694 q158588 (rT0 r158650 (by decide)) (rT1 r158650 (by decide))).trans r158652
                have he158701 : F158692 q158660 = .inr (20, [.int p158672, .int p158673, .int p158674, .int p158675, .int p158676, .int p158677, .int p158678]) := (hs158694 q158660 (rT0 ht158663 (by decide)) (rT1 ht158663 (by decide))).trans he158671
                have hs158702 : rStr γ F154999 F158692 := rStr_tr hs158582 hs158694
                change G _ _ _ _ _ _ _ (.int o158689 :: _) _ _ _
                refine G_widen (cs' := 0) (sl' := 0) (by omega) (by omega) ?_
                refine G_istore (L' := [(6, .int o158689), (5, .ref q158546), (4, .int g158449), (3, .int g158448), (0, .ref q155000), (1, .ref q155001), (2, .int p155002)]) dr_cX17_run_111 (Nat.le_of_ble_eq_true rfl) rfl ?_
                refine G_iload 0 dr_cX17_run_113 rfl ?_
                refine G_if_lt 121 dr_cX17_run_115 (by decide +kernel) (fun hc158703 => ?_) (fun hc158703 => ?_)
                · have r158704 : o158689.toInt < 0 := gj_lt hc158703 (show Int32.toInt 0 = 0 by decide)
                  have bo158689' : gB o158689 (-1) (-1) := ⟨by omega, by omega⟩
                  obtain ⟨z158705, hz158705⟩ : ∃ z : Int32, z = g158449 + Int32.ofInt 1 := ⟨_, rfl⟩
                  have ez158705 : z158705.toInt = g158449.toInt + 1 := gI_inc hz158705 (by decide) bg158449' (by decide) (by decide)
                  have bz158705 : gB z158705 1 1000000 := ⟨by omega, by omega⟩
                  refine G_iinc (L' := [(4, .int z158705), (6, .int o158689), (5, .ref q158546), (3, .int g158448), (0, .ref q155000), (1, .ref q155001), (2, .int p155002)]) z158705 2 dr_cX17_run_121 rfl hz158705.symm (Nat.le_of_ble_eq_true rfl) rfl ?_
                  refine G_goto 54 dr_cX17_run_124 (by decide +kernel) ?_
                  refine G_lv (L' := [(4, .int z158705), (3, .int g158448), (0, .ref q155000), (1, .ref q155001), (2, .int p155002)]) [0, 3, 4, 5, 6] rfl ?_
                  have hm158706 : q155000 ∈ P154998 := RS_m hT158693 htq155000 (by decide)
                  obtain ⟨q158708, q158709, p158710, p158711, p158712, p158713, p158714, p158715, p158716, p158717, p158718, p158719, p158720, p158721, p158722, p158723, p158724, he158707, hB158751, ht158725, ht158726, ht158727, ht158728, ht158729, ht158730, ht158731, ht158732, ht158733, ht158734, ht158735, ht158736, ht158737, ht158738, ht158739, ht158740, ht158741, ht158742, ht158743, ht158744, ht158745, ht158746, ht158747, ht158748, hB158752⟩ := show rk_10 γ (F158692 q155000) from RS_o hT158693 htq155000
                  have ac158753 : (fI (F158692 q155000) 26).toInt = p158719.toInt := by rw [he158707]; rfl
                  have bp158719 : gB p158719 0 100000 := (hB158751.2.2.2.2.2.1)
                  have ac158754 : (fI (F158692 q155000) 26).toInt = p158719.toInt := by rw [he158707]; rfl
                  exact ih54_158454 F158692 g158448 z158705 bg158448 (gB_w bz158705 (by decide) (by decide)) hT158693 hs158702 (by omega) (by omega) (by omega)
                · have r158755 : 0 ≤ o158689.toInt := gj_nlt hc158703 (show Int32.toInt 0 = 0 by decide)
                  have bo158689' : gB o158689 0 5 := ⟨by omega, by omega⟩
                  refine G_iload 0 dr_cX17_run_118 rfl ?_
                  exact G_iretA dr_cX17_run_120 rfl (Nat.le_of_ble_eq_true rfl) (Nat.le_of_ble_eq_true rfl) ⟨F158692, o158689, rfl, rfl, hT158693, hs158702, (Nat.le_of_ble_eq_true rfl), (Nat.le_of_ble_eq_true rfl), bo158689'⟩
            · have r158756 : p158471.toInt = p155002.toInt := gC_eq hc158571
              have bp158471' : gB p158471 1 100000 := ⟨by omega, by omega⟩
              refine G_iconst 4 dr_cX17_run_69 (by decide +kernel) ?_
              exact G_iretA dr_cX17_run_70 rfl (Nat.le_of_ble_eq_true rfl) (Nat.le_of_ble_eq_true rfl) ⟨F158450, 4, rfl, rfl, hT158451, hs158452, (Nat.le_of_ble_eq_true rfl), (Nat.le_of_ble_eq_true rfl), (gB_w (gBl (show Int32.toInt 4 = 4 by decide)) (by decide) (by decide))⟩
        have ac158757 : (fI (F158187 q155000) 26).toInt = 0 := by rw [he158190]; show Int32.toInt 0 = 0; decide
        exact hlp54_158454 ((p155002.toInt - (fI (F158187 q155000) 26).toInt).toNat + 1) F158187 0 0 (gB_w (gBl (show Int32.toInt 0 = 0 by decide)) (by decide) (by decide)) (gB_w (gBl (show Int32.toInt 0 = 0 by decide)) (by decide) (by decide)) hT158193 hs158191 (by have qa0 : Int32.toInt 0 = 0 := (by decide); omega) (by omega) (Nat.lt_succ_self _)
      · have r158758 : g158112.toInt < 2000 := gj_nleL hc158168 (show Int32.toInt 2000 = 2000 by decide)
        have bg158112' : gB g158112 0 1999 := ⟨by omega, by omega⟩
        refine G_aload_n 1 dr_cX17_run_9 rfl ?_
        refine Gp_get 20 hm158119 he158120 dr_cX17_run_10 (gk_X17 D I) (Nat.le_of_ble_eq_true rfl) wr_7_94 rfl ?_
        refine G_iload_n 0 dr_cX17_run_13 rfl ?_
        refine G_iconst 0 dr_cX17_run_14 (by decide +kernel) ?_
        have hm158759 : (γ 9 20) ∈ P154998 := RS_m hT158114 ht158154 (by decide)
        obtain ⟨f158761, he158760⟩ := show rk_22 I (F158113 (γ 9 20)) from RS_o hT158114 ht158154
        refine Gp_iast 0 hm158759 he158760 dr_cX17_run_15 rfl (gB_in bg158112' (by decide) (by decide)) (fun F158762 e158763 n158764 => ?_)
        obtain ⟨f158765, hf158765⟩ : ∃ z, z = upd f158761 g158112.toNatClampNeg 0 := ⟨_, rfl⟩
        rw [← hf158765] at e158763
        have he158766 : F158762 q155000 = .inr (22, [.ref (γ 9 0), .ref (γ 9 1), .ref (γ 9 2), .ref (γ 9 3), .ref (γ 9 4), .ref (γ 9 5), .ref (γ 9 6), .ref (γ 9 7), .ref (γ 9 8), .int p158123, .int p158124, .int p158125, .int p158126, .int p158127, .int p158128, .ref (γ 9 15), .ref (γ 9 16), .ref (γ 9 17), .ref (γ 9 18), .ref (γ 9 19), .ref (γ 9 20), .ref (γ 9 21), .ref (γ 9 22), .int p158129, .int p158130, .int p158131, .int p158132, .int p158133, .ref q158121, .ref (γ 9 29), .int p158134, .ref (γ 9 31), .int p158135, .int p158136, .int p158137, .ref q158122]) := (n158764 q155000 (rn_oa he158120 he158760)).trans he158120
        have he158767 : F158762 (γ 9 20) = .inl (I .int, 2000, .inl f158765) := e158763
        have hs158768 : rStr γ F154999 F158762 := rStr_put hs158115 n158764 ht158154 (by decide)
        refine G_aload_n 1 dr_cX17_run_16 rfl ?_
        refine Gp_get 21 hm158119 he158766 dr_cX17_run_17 (gk_X17 D I) (Nat.le_of_ble_eq_true rfl) wr_7_95 rfl ?_
        refine G_iload_n 0 dr_cX17_run_20 rfl ?_
        refine G_iconst 0 dr_cX17_run_21 (by decide +kernel) ?_
        have hT158769 : RS D I P154998 F158762 γ el := RS_set hT158114 n158764 ht158154 (by decide) ⟨f158765, he158767⟩
        have hm158770 : (γ 9 21) ∈ P154998 := RS_m hT158769 ht158155 (by decide)
        obtain ⟨f158772, he158771⟩ := show rk_23 I (F158762 (γ 9 21)) from RS_o hT158769 ht158155
        refine Gp_iast 0 hm158770 he158771 dr_cX17_run_22 rfl (gB_in bg158112' (by decide) (by decide)) (fun F158773 e158774 n158775 => ?_)
        obtain ⟨f158776, hf158776⟩ : ∃ z, z = upd f158772 g158112.toNatClampNeg 0 := ⟨_, rfl⟩
        rw [← hf158776] at e158774
        have he158777 : F158773 q155000 = .inr (22, [.ref (γ 9 0), .ref (γ 9 1), .ref (γ 9 2), .ref (γ 9 3), .ref (γ 9 4), .ref (γ 9 5), .ref (γ 9 6), .ref (γ 9 7), .ref (γ 9 8), .int p158123, .int p158124, .int p158125, .int p158126, .int p158127, .int p158128, .ref (γ 9 15), .ref (γ 9 16), .ref (γ 9 17), .ref (γ 9 18), .ref (γ 9 19), .ref (γ 9 20), .ref (γ 9 21), .ref (γ 9 22), .int p158129, .int p158130, .int p158131, .int p158132, .int p158133, .ref q158121, .ref (γ 9 29), .int p158134, .ref (γ 9 31), .int p158135, .int p158136, .int p158137, .ref q158122]) := (n158775 q155000 (rn_oa he158766 he158771)).trans he158766
        have he158778 : F158773 (γ 9 20) = .inl (I .int, 2000, .inl f158765) := (n158775 (γ 9 20) (rn_ty ht158154 ht158155 (by decide))).trans he158767
        have he158779 : F158773 (γ 9 21) = .inl (I .int, 2000, .inl f158776) := e158774
        have hs158780 : rStr γ F154999 F158773 := rStr_put hs158768 n158775 ht158155 (by decide)
        obtain ⟨z158781, hz158781⟩ : ∃ z : Int32, z = g158112 + Int32.ofInt 1 := ⟨_, rfl⟩
        have ez158781 : z158781.toInt = g158112.toInt + 1 := gI_inc hz158781 (by decide) bg158112' (by decide) (by decide)
        have bz158781 : gB z158781 1 2000 := ⟨by omega, by omega⟩
        refine G_iinc (L' := [(3, .int z158781), (0, .ref q155000), (1, .ref q155001), (2, .int p155002)]) z158781 0 dr_cX17_run_23 rfl hz158781.symm (Nat.le_of_ble_eq_true rfl) rfl ?_
        refine G_goto 2 dr_cX17_run_26 (by decide +kernel) ?_
        have hT158782 : RS D I P154998 F158773 γ el := RS_set hT158769 n158775 ht158155 (by decide) ⟨f158776, he158779⟩
        have ac158783 : (fI (F158773 q155000) 26).toInt = p158132.toInt := by rw [he158777]; rfl
        exact ih2_158115 F158773 z158781 (gB_w bz158781 (by decide) (by decide)) hT158782 hs158780 (by omega)
  have hm158784 : q155000 ∈ P154998 := RS_m hT htq155000 (by decide)
  obtain ⟨q158786, q158787, p158788, p158789, p158790, p158791, p158792, p158793, p158794, p158795, p158796, p158797, p158798, p158799, p158800, p158801, p158802, he158785, hB158829, ht158803, ht158804, ht158805, ht158806, ht158807, ht158808, ht158809, ht158810, ht158811, ht158812, ht158813, ht158814, ht158815, ht158816, ht158817, ht158818, ht158819, ht158820, ht158821, ht158822, ht158823, ht158824, ht158825, ht158826, hB158830⟩ := show rk_10 γ (F154999 q155000) from RS_o hT htq155000
  have ac158831 : (fI (F154999 q155000) 26).toInt = p158797.toInt := by rw [he158785]; rfl
  have bp158797 : gB p158797 0 100000 := (hB158829.2.2.2.2.2.1)
  have ac158832 : (fI (F154999 q155000) 26).toInt = p158797.toInt := by rw [he158785]; rfl
  exact hlp2_158115 (((2001 : Int) - 0).toNat + 1) F154999 0 (gB_w (gBl (show Int32.toInt 0 = 0 by decide)) (by decide) (by decide)) hT (rStr_rf (γ := γ) (F := F154999)) (Nat.lt_succ_self _)
