theorem dr_cX17_weigh_0 : decode cX17_weigh 0 = .ok (.aload_n 0, 1) := by decide +kernel
theorem dr_cX17_weigh_1 : decode cX17_weigh 1 = .ok (.aload_n 1, 1) := by decide +kernel
theorem dr_cX17_weigh_2 : decode cX17_weigh 2 = .ok (.invokevirtual 170, 3) := by decide +kernel
theorem wr_11_37 : (Jvm.Cond.methodLink "SpillForgeModel" (170 : Nat) ({ cls := "SpillForgeModel", name := "findDepth", desc := "(LSpillForgeModel$Code;)V" } : Jvm.MethodName)) ∈ gw := gw_11 37 rfl rfl
theorem wr_11_40 : (Jvm.Cond.code ({ cls := "SpillForgeModel", name := "findDepth", desc := "(LSpillForgeModel$Code;)V" } : Jvm.MethodName) prog_14_method_14_code (13 : Nat) (Option.none : Option Jvm.ClassFile.FieldType)) ∈ gw := gw_11 40 rfl rfl
theorem wr_11_39 : (Jvm.Cond.instanceMethod ({ cls := "SpillForgeModel", name := "findDepth", desc := "(LSpillForgeModel$Code;)V" } : Jvm.MethodName)) ∈ gw := gw_11 39 rfl rfl
theorem wr_p_105 : Cond.selects "SpillForgeModel" ⟨"SpillForgeModel", "findDepth", "(LSpillForgeModel$Code;)V"⟩ ⟨"SpillForgeModel", "findDepth", "(LSpillForgeModel$Code;)V"⟩ ∈ gw := gw_p _ 105 rfl rfl rfl
theorem dr_cX17_weigh_5 : decode cX17_weigh 5 = .ok (.iconst 0, 1) := by decide +kernel
theorem dr_cX17_weigh_6 : decode cX17_weigh 6 = .ok (.istore_n 2, 1) := by decide +kernel
theorem dr_cX17_weigh_7 : decode cX17_weigh 7 = .ok (.iload_n 2, 1) := by decide +kernel
theorem dr_cX17_weigh_8 : decode cX17_weigh 8 = .ok (.sipush 2000, 3) := by decide +kernel
theorem dr_cX17_weigh_11 : decode cX17_weigh 11 = .ok (.if_icmp .ge 16, 3) := by decide +kernel
theorem dr_cX17_weigh_27 : decode cX17_weigh 27 = .ok (.iconst 0, 1) := by decide +kernel
theorem dr_cX17_weigh_28 : decode cX17_weigh 28 = .ok (.istore_n 2, 1) := by decide +kernel
theorem dr_cX17_weigh_29 : decode cX17_weigh 29 = .ok (.iload_n 2, 1) := by decide +kernel
theorem dr_cX17_weigh_30 : decode cX17_weigh 30 = .ok (.aload_n 1, 1) := by decide +kernel
theorem dr_cX17_weigh_31 : decode cX17_weigh 31 = .ok (.invokevirtual 96, 3) := by decide +kernel
theorem dr_cX17_weigh_34 : decode cX17_weigh 34 = .ok (.if_icmp .ge 167, 3) := by decide +kernel
theorem dr_cX17_weigh_201 : decode cX17_weigh 201 = .ok (.return_, 1) := by decide +kernel
theorem dr_cX17_weigh_37 : decode cX17_weigh 37 = .ok (.iconst 1, 1) := by decide +kernel
theorem dr_cX17_weigh_38 : decode cX17_weigh 38 = .ok (.istore_n 3, 1) := by decide +kernel
theorem dr_cX17_weigh_39 : decode cX17_weigh 39 = .ok (.iconst 0, 1) := by decide +kernel
theorem dr_cX17_weigh_40 : decode cX17_weigh 40 = .ok (.istore 4, 2) := by decide +kernel
theorem dr_cX17_weigh_42 : decode cX17_weigh 42 = .ok (.iload 4, 2) := by decide +kernel
theorem dr_cX17_weigh_44 : decode cX17_weigh 44 = .ok (.aload_n 0, 1) := by decide +kernel
theorem dr_cX17_weigh_45 : decode cX17_weigh 45 = .ok (.getfield 152, 3) := by decide +kernel
theorem dr_cX17_weigh_48 : decode cX17_weigh 48 = .ok (.iload_n 2, 1) := by decide +kernel
theorem dr_cX17_weigh_49 : decode cX17_weigh 49 = .ok (.iaload, 1) := by decide +kernel
theorem dr_cX17_weigh_50 : decode cX17_weigh 50 = .ok (.if_icmp .ge 14, 3) := by decide +kernel
theorem dr_cX17_weigh_64 : decode cX17_weigh 64 = .ok (.aload_n 1, 1) := by decide +kernel
theorem dr_cX17_weigh_65 : decode cX17_weigh 65 = .ok (.iload_n 2, 1) := by decide +kernel
theorem dr_cX17_weigh_66 : decode cX17_weigh 66 = .ok (.invokevirtual 101, 3) := by decide +kernel
theorem dr_cX17_weigh_69 : decode cX17_weigh 69 = .ok (.astore 4, 2) := by decide +kernel
theorem dr_cX17_weigh_71 : decode cX17_weigh 71 = .ok (.iconst 0, 1) := by decide +kernel
theorem dr_cX17_weigh_72 : decode cX17_weigh 72 = .ok (.istore 5, 2) := by decide +kernel
theorem dr_cX17_weigh_74 : decode cX17_weigh 74 = .ok (.iload 5, 2) := by decide +kernel
theorem dr_cX17_weigh_76 : decode cX17_weigh 76 = .ok (.aload 4, 2) := by decide +kernel
theorem dr_cX17_weigh_78 : decode cX17_weigh 78 = .ok (.getfield 117, 3) := by decide +kernel
theorem dr_cX17_weigh_81 : decode cX17_weigh 81 = .ok (.invokevirtual 121, 3) := by decide +kernel
theorem dr_cX17_weigh_84 : decode cX17_weigh 84 = .ok (.if_icmp .gt 111, 3) := by decide +kernel
theorem dr_cX17_weigh_195 : decode cX17_weigh 195 = .ok (.iinc 2 1, 3) := by decide +kernel
theorem dr_cX17_weigh_198 : decode cX17_weigh 198 = .ok (.goto (-169), 3) := by decide +kernel
theorem dr_cX17_weigh_87 : decode cX17_weigh 87 = .ok (.iload 5, 2) := by decide +kernel
theorem dr_cX17_weigh_89 : decode cX17_weigh 89 = .ok (.aload 4, 2) := by decide +kernel
theorem dr_cX17_weigh_91 : decode cX17_weigh 91 = .ok (.getfield 117, 3) := by decide +kernel
theorem dr_cX17_weigh_94 : decode cX17_weigh 94 = .ok (.invokevirtual 121, 3) := by decide +kernel
theorem dr_cX17_weigh_97 : decode cX17_weigh 97 = .ok (.if_icmp .ge 19, 3) := by decide +kernel
theorem dr_cX17_weigh_116 : decode cX17_weigh 116 = .ok (.aload 4, 2) := by decide +kernel
theorem dr_cX17_weigh_118 : decode cX17_weigh 118 = .ok (.getfield 109, 3) := by decide +kernel
theorem dr_cX17_weigh_121 : decode cX17_weigh 121 = .ok (.astore 6, 2) := by decide +kernel
theorem dr_cX17_weigh_123 : decode cX17_weigh 123 = .ok (.aload 6, 2) := by decide +kernel
theorem dr_cX17_weigh_125 : decode cX17_weigh 125 = .ok (.invokevirtual 48, 3) := by decide +kernel
theorem dr_cX17_weigh_128 : decode cX17_weigh 128 = .ok (.ifCond .eq 17, 3) := by decide +kernel
theorem dr_cX17_weigh_145 : decode cX17_weigh 145 = .ok (.aload 6, 2) := by decide +kernel
theorem dr_cX17_weigh_147 : decode cX17_weigh 147 = .ok (.invokevirtual 70, 3) := by decide +kernel
theorem dr_cX17_weigh_150 : decode cX17_weigh 150 = .ok (.ifCond .eq 17, 3) := by decide +kernel
theorem dr_cX17_weigh_167 : decode cX17_weigh 167 = .ok (.aload 6, 2) := by decide +kernel
theorem dr_cX17_weigh_169 : decode cX17_weigh 169 = .ok (.invokevirtual 76, 3) := by decide +kernel
theorem dr_cX17_weigh_172 : decode cX17_weigh 172 = .ok (.ifCond .eq 17, 3) := by decide +kernel
theorem dr_cX17_weigh_189 : decode cX17_weigh 189 = .ok (.iinc 5 1, 3) := by decide +kernel
theorem dr_cX17_weigh_192 : decode cX17_weigh 192 = .ok (.goto (-118), 3) := by decide +kernel
theorem dr_cX17_weigh_175 : decode cX17_weigh 175 = .ok (.aload_n 0, 1) := by decide +kernel
theorem dr_cX17_weigh_176 : decode cX17_weigh 176 = .ok (.getfield 174, 3) := by decide +kernel
theorem dr_cX17_weigh_179 : decode cX17_weigh 179 = .ok (.aload 6, 2) := by decide +kernel
theorem dr_cX17_weigh_181 : decode cX17_weigh 181 = .ok (.getfield 79, 3) := by decide +kernel
theorem dr_cX17_weigh_184 : decode cX17_weigh 184 = .ok (.dup2, 1) := by decide +kernel
theorem dr_cX17_weigh_185 : decode cX17_weigh 185 = .ok (.iaload, 1) := by decide +kernel
theorem dr_cX17_weigh_186 : decode cX17_weigh 186 = .ok (.iload_n 3, 1) := by decide +kernel
theorem dr_cX17_weigh_187 : decode cX17_weigh 187 = .ok (.iadd, 1) := by decide +kernel
theorem dr_cX17_weigh_188 : decode cX17_weigh 188 = .ok (.iastore, 1) := by decide +kernel
theorem dr_cX17_weigh_153 : decode cX17_weigh 153 = .ok (.aload_n 0, 1) := by decide +kernel
theorem dr_cX17_weigh_154 : decode cX17_weigh 154 = .ok (.getfield 174, 3) := by decide +kernel
theorem dr_cX17_weigh_157 : decode cX17_weigh 157 = .ok (.aload 6, 2) := by decide +kernel
theorem dr_cX17_weigh_159 : decode cX17_weigh 159 = .ok (.getfield 73, 3) := by decide +kernel
theorem dr_cX17_weigh_162 : decode cX17_weigh 162 = .ok (.dup2, 1) := by decide +kernel
theorem dr_cX17_weigh_163 : decode cX17_weigh 163 = .ok (.iaload, 1) := by decide +kernel
theorem dr_cX17_weigh_164 : decode cX17_weigh 164 = .ok (.iload_n 3, 1) := by decide +kernel
theorem dr_cX17_weigh_165 : decode cX17_weigh 165 = .ok (.iadd, 1) := by decide +kernel
theorem dr_cX17_weigh_166 : decode cX17_weigh 166 = .ok (.iastore, 1) := by decide +kernel
theorem dr_cX17_weigh_131 : decode cX17_weigh 131 = .ok (.aload_n 0, 1) := by decide +kernel
theorem dr_cX17_weigh_132 : decode cX17_weigh 132 = .ok (.getfield 174, 3) := by decide +kernel
theorem dr_cX17_weigh_135 : decode cX17_weigh 135 = .ok (.aload 6, 2) := by decide +kernel
theorem dr_cX17_weigh_137 : decode cX17_weigh 137 = .ok (.getfield 52, 3) := by decide +kernel
theorem dr_cX17_weigh_140 : decode cX17_weigh 140 = .ok (.dup2, 1) := by decide +kernel
theorem dr_cX17_weigh_141 : decode cX17_weigh 141 = .ok (.iaload, 1) := by decide +kernel
theorem dr_cX17_weigh_142 : decode cX17_weigh 142 = .ok (.iload_n 3, 1) := by decide +kernel
theorem dr_cX17_weigh_143 : decode cX17_weigh 143 = .ok (.iadd, 1) := by decide +kernel
theorem dr_cX17_weigh_144 : decode cX17_weigh 144 = .ok (.iastore, 1) := by decide +kernel
theorem dr_cX17_weigh_100 : decode cX17_weigh 100 = .ok (.aload 4, 2) := by decide +kernel
theorem dr_cX17_weigh_102 : decode cX17_weigh 102 = .ok (.getfield 117, 3) := by decide +kernel
theorem dr_cX17_weigh_105 : decode cX17_weigh 105 = .ok (.iload 5, 2) := by decide +kernel
theorem dr_cX17_weigh_107 : decode cX17_weigh 107 = .ok (.invokevirtual 124, 3) := by decide +kernel
theorem dr_cX17_weigh_110 : decode cX17_weigh 110 = .ok (.checkcast 40, 3) := by decide +kernel
theorem dr_cX17_weigh_113 : decode cX17_weigh 113 = .ok (.goto 8, 3) := by decide +kernel
theorem dr_cX17_weigh_53 : decode cX17_weigh 53 = .ok (.iload_n 3, 1) := by decide +kernel
theorem dr_cX17_weigh_54 : decode cX17_weigh 54 = .ok (.bipush 10, 2) := by decide +kernel
theorem dr_cX17_weigh_56 : decode cX17_weigh 56 = .ok (.imul, 1) := by decide +kernel
theorem dr_cX17_weigh_57 : decode cX17_weigh 57 = .ok (.istore_n 3, 1) := by decide +kernel
theorem dr_cX17_weigh_58 : decode cX17_weigh 58 = .ok (.iinc 4 1, 3) := by decide +kernel
theorem dr_cX17_weigh_61 : decode cX17_weigh 61 = .ok (.goto (-19), 3) := by decide +kernel
theorem dr_cX17_weigh_14 : decode cX17_weigh 14 = .ok (.aload_n 0, 1) := by decide +kernel
theorem dr_cX17_weigh_15 : decode cX17_weigh 15 = .ok (.getfield 174, 3) := by decide +kernel
theorem dr_cX17_weigh_18 : decode cX17_weigh 18 = .ok (.iload_n 2, 1) := by decide +kernel
theorem dr_cX17_weigh_19 : decode cX17_weigh 19 = .ok (.iconst 0, 1) := by decide +kernel
theorem dr_cX17_weigh_20 : decode cX17_weigh 20 = .ok (.iastore, 1) := by decide +kernel
theorem dr_cX17_weigh_21 : decode cX17_weigh 21 = .ok (.iinc 2 1, 3) := by decide +kernel
theorem dr_cX17_weigh_24 : decode cX17_weigh 24 = .ok (.goto (-17), 3) := by decide +kernel
abbrev ky_409908_SpillForgeModel_weigh : gKey := (cX17_weigh, 7, "SpillForgeModel", none, [], "weigh", fun _ _ => True)
def pt_409908_SpillForgeModel_weigh (D : va_G) (I : FieldType → ClassId) (γ el : Nat → Nat → Nat) (P409903 : List Nat) (F409904 : Nat → va_E) (q409905 : Nat) (q409906 : Nat) : Option Value → va_W → Nat → Nat → Prop := fun r w dc ds => ∃ (F580555 : Nat → va_E), r = none ∧ w = va_pl P409903 F580555 ∧ RS D I P409903 F580555 γ el ∧ rStr γ [] F409904 F580555 ∧ dc ≤ 0 ∧ ds ≤ 0 ∧ (F580555 q409905 = F409904 q409905) ∧ (F580555 (γ 9 3) = F409904 (γ 9 3)) ∧ tr_RModel_weigh D I γ el P409903 F409904 q409905 q409906 F580555
set_option maxRecDepth 100000 in
set_option maxHeartbeats 4000000 in
theorem ct_409908_SpillForgeModel_weigh (l : Launch) (hl0 : l.stackTraces = false) (D : va_G) (I : FieldType → ClassId) (γ el : Nat → Nat → Nat) (P409903 : List Nat) (F409904 : Nat → va_E) (q409905 : Nat) (q409906 : Nat) (hT : RS D I P409903 F409904 γ el) (htq409905 : rKd γ q409905 10) (htq409906 : rKd γ q409906 9) (x409907 : 0 < γ 6 (γ 1 q409906)) : CtA (gV D I) l yX17_weigh cX17_weigh 7 none 6 144 0 0 [.ref q409905, .ref q409906] (va_pl P409903 F409904) (pt_409908_SpillForgeModel_weigh D I γ el P409903 F409904 q409905 q409906) gNA := by
  refine CtA_of hl0 (by decide) (Nat.le_of_ble_eq_true rfl) ?_
  have hm409909 : q409905 ∈ P409903 := RS_m hT htq409905 (by decide)
  refine rk10_e (show rk_10 γ (F409904 q409905) from RS_o hT htq409905) (fun q409911 q409912 p409913 p409914 p409915 p409916 p409917 p409918 p409919 p409920 p409921 p409922 p409923 p409924 p409925 p409926 p409927 he409910 hB409954 ht409928 ht409929 ht409930 ht409931 ht409932 ht409933 ht409934 ht409935 ht409936 ht409937 ht409938 ht409939 ht409940 ht409941 ht409942 ht409943 ht409944 ht409945 ht409946 ht409947 ht409948 ht409949 ht409950 ht409951 hB409955 => ?_)
  refine G_aload_n 0 dr_cX17_weigh_0 rfl ?_
  refine G_aload_n 1 dr_cX17_weigh_1 rfl ?_
  refine Gw_callV (As := [.ref q409906]) (gV_ok D I) (ct_409961_SpillForgeModel_findDepth l hl0 D I γ el P409903 F409904 q409905 q409906 hT htq409905 htq409906 (by omega)) dr_cX17_weigh_2 ⟨wr_11_37, wr_1_14, wr_11_40, by decide, rfl, (Nat.le_of_ble_eq_true rfl), (Nat.le_of_ble_eq_true rfl)⟩ wr_11_39 wr_p_105 hm409909 he409910 rfl (show 0 + 0 ≤ 0 by first | omega | decide) (show 0 + 0 ≤ 0 by first | omega | decide) (Nat.le_of_ble_eq_true rfl) (fun r536100 w536101 dc536097 ds536098 hp536099 => ?_) (fun _ _ _ _ _ z => z.elim)
  obtain ⟨F536105, rfl, rfl, hT536106, hs536107, hdc, hds, x536102, x536103, ht536104⟩ := hp536099
  have hs536108 : rStr γ [] F409904 F536105 := rStr_tr (rStr_rf (γ := γ) (W := []) (F := F409904)) hs536107
  have kp536109 : F536105 q409905 = F409904 q409905 := x536102
  have kp536110 : F536105 (γ 9 3) = F409904 (γ 9 3) := x536103
  have he536111 : F536105 q409905 = .inr (22, [.ref (γ 9 0), .ref (γ 9 1), .ref (γ 9 2), .ref (γ 9 3), .ref (γ 9 4), .ref (γ 9 5), .ref (γ 9 6), .ref (γ 9 7), .ref (γ 9 8), .int p409913, .int p409914, .int p409915, .int p409916, .int p409917, .int p409918, .ref (γ 9 15), .ref (γ 9 16), .ref (γ 9 17), .ref (γ 9 18), .ref (γ 9 19), .ref (γ 9 20), .ref (γ 9 21), .ref (γ 9 22), .int p409919, .int p409920, .int p409921, .int p409922, .int p409923, .ref q409911, .ref (γ 9 29), .int p409924, .ref (γ 9 31), .int p409925, .int p409926, .int p409927, .ref q409912]) := (x536102).trans he409910
  change G _ _ _ _ _ _ _ _ _ _ _
  refine G_widen (cs' := 0) (sl' := 0) (by omega) (by omega) ?_
  refine G_iconst 0 dr_cX17_weigh_5 (by decide +kernel) ?_
  refine G_istore_n (L' := [(2, .int 0), (0, .ref q409905), (1, .ref q409906)]) dr_cX17_weigh_6 (Nat.le_of_ble_eq_true rfl) rfl ?_
  have hlp7_575865 : ∀ (n7_575865 : Nat) (F575861 : Nat → va_E) (g575860 : Int32), gB g575860 0 2000 → RS D I P409903 F575861 γ el → rStr γ [] F409904 F575861 → (F575861 q409905 = F409904 q409905) → (F575861 (γ 9 3) = F409904 (γ 9 3)) → (∀ (k : Nat) (e1 : Nat → va_E), tl_RModel_weigh_7 D I γ el P409903 F409904 q409905 F575861 g575860 k e1 → tl_RModel_weigh_7 D I γ el P409903 F409904 q409905 F536105 (0 : Int32) k e1) → ((2001 : Int) - g575860.toInt).toNat < n7_575865 → G (gV D I) l (gRm 6 144 0 0) (gMA (gV D I) (pt_409908_SpillForgeModel_weigh D I γ el P409903 F409904 q409905 q409906) gNA 0 0) ky_409908_SpillForgeModel_weigh 7 [(2, .int g575860), (0, .ref q409905), (1, .ref q409906)] [] (va_pl P409903 F575861) 0 0 := by
    intro n7_575865
    induction n7_575865 with
    | zero => intro F575861 g575860 bg575860 hT575862 hs575863 x575864 x575865 kt7_575866 hm7_575865; exact absurd hm7_575865 (Nat.not_lt_zero _)
    | succ n7_575865 ih7_575865 =>
      intro F575861 g575860 bg575860 hT575862 hs575863 x575864 x575865 kt7_575866 hm7_575865
      have hs575867 : rStr γ [] F536105 F575861 := fun b h0 hb hw => (hs575863 b h0 hb hw).trans (hs536108 b h0 hb hw).symm
      have hs575868 : rStr γ [] F409904 F575861 := rStr_tr hs536108 hs575867
      have he575869 : F575861 q409905 = .inr (22, [.ref (γ 9 0), .ref (γ 9 1), .ref (γ 9 2), .ref (γ 9 3), .ref (γ 9 4), .ref (γ 9 5), .ref (γ 9 6), .ref (γ 9 7), .ref (γ 9 8), .int p409913, .int p409914, .int p409915, .int p409916, .int p409917, .int p409918, .ref (γ 9 15), .ref (γ 9 16), .ref (γ 9 17), .ref (γ 9 18), .ref (γ 9 19), .ref (γ 9 20), .ref (γ 9 21), .ref (γ 9 22), .int p409919, .int p409920, .int p409921, .int p409922, .int p409923, .ref q409911, .ref (γ 9 29), .int p409924, .ref (γ 9 31), .int p409925, .int p409926, .int p409927, .ref q409912]) := x575864.trans he409910
      have hm575870 : q409905 ∈ P409903 := RS_m hT575862 htq409905 (by decide)
      refine G_iload_n 0 dr_cX17_weigh_7 rfl ?_
      refine G_sipush 2000 dr_cX17_weigh_8 (by decide +kernel) ?_
      refine G_icmp_ge 27 dr_cX17_weigh_11 (by decide +kernel) (fun hc575871 => ?_) (fun hc575871 => ?_)
      · have r575872 : 2000 ≤ g575860.toInt := gj_leL hc575871 (show Int32.toInt 2000 = 2000 by decide)
        have bg575860' : gB g575860 2000 2000 := ⟨by omega, by omega⟩
        have hx575873 : tl_RModel_weigh_7 D I γ el P409903 F409904 q409905 F536105 (0 : Int32) 27 F575861 := kt7_575866 27 F575861 (fun R c1 c2 => c1 F575861 g575860 bg575860 hT575862 hs575863 x575864 x575865 r575872)
        refine G_iconst 0 dr_cX17_weigh_27 (by decide +kernel) ?_
        refine G_istore_n (L' := [(2, .int 0), (0, .ref q409905), (1, .ref q409906)]) dr_cX17_weigh_28 (Nat.le_of_ble_eq_true rfl) rfl ?_
        have hlp29_578180 : ∀ (n29_578180 : Nat) (F578176 : Nat → va_E) (g578175 : Int32), gB g578175 0 1000000 → RS D I P409903 F578176 γ el → rStr γ [] F409904 F578176 → (F578176 q409905 = F409904 q409905) → (F578176 (γ 9 3) = F409904 (γ 9 3)) → (∀ (k : Nat) (e1 : Nat → va_E), tl_RModel_weigh_29 D I γ el P409903 F409904 q409905 q409906 F578176 g578175 k e1 → tl_RModel_weigh_29 D I γ el P409903 F409904 q409905 q409906 F575861 (0 : Int32) k e1) → ((1000001 : Int) - g578175.toInt).toNat < n29_578180 → G (gV D I) l (gRm 6 144 0 0) (gMA (gV D I) (pt_409908_SpillForgeModel_weigh D I γ el P409903 F409904 q409905 q409906) gNA 0 0) ky_409908_SpillForgeModel_weigh 29 [(2, .int g578175), (0, .ref q409905), (1, .ref q409906)] [] (va_pl P409903 F578176) 0 0 := by
          intro n29_578180
          induction n29_578180 with
          | zero => intro F578176 g578175 bg578175 hT578177 hs578178 x578179 x578180 kt29_578181 hm29_578180; exact absurd hm29_578180 (Nat.not_lt_zero _)
          | succ n29_578180 ih29_578180 =>
            intro F578176 g578175 bg578175 hT578177 hs578178 x578179 x578180 kt29_578181 hm29_578180
            have hs578182 : rStr γ [] F575861 F578176 := fun b h0 hb hw => (hs578178 b h0 hb hw).trans (hs575863 b h0 hb hw).symm
            have hs578183 : rStr γ [] F409904 F578176 := rStr_tr hs575863 hs578182
            have he578184 : F578176 q409905 = .inr (22, [.ref (γ 9 0), .ref (γ 9 1), .ref (γ 9 2), .ref (γ 9 3), .ref (γ 9 4), .ref (γ 9 5), .ref (γ 9 6), .ref (γ 9 7), .ref (γ 9 8), .int p409913, .int p409914, .int p409915, .int p409916, .int p409917, .int p409918, .ref (γ 9 15), .ref (γ 9 16), .ref (γ 9 17), .ref (γ 9 18), .ref (γ 9 19), .ref (γ 9 20), .ref (γ 9 21), .ref (γ 9 22), .int p409919, .int p409920, .int p409921, .int p409922, .int p409923, .ref q409911, .ref (γ 9 29), .int p409924, .ref (γ 9 31), .int p409925, .int p409926, .int p409927, .ref q409912]) := x578179.trans he409910
            have hm578185 : q409905 ∈ P409903 := RS_m hT578177 htq409905 (by decide)
            refine G_iload_n 0 dr_cX17_weigh_29 rfl ?_
            refine G_aload_n 2 dr_cX17_weigh_30 rfl ?_
            have hm578186 : q409906 ∈ P409903 := RS_m hT578177 htq409906 (by decide)
            obtain ⟨q578188, q578189, p578190, p578191, he578187, ht578207, ht578192, ht578193, ht578194, ht578195, r578196, r578197, r578198, r578199, r578200, r578201, r578202, r578203, r578204, r578205, r578206⟩ := show rk_9 γ el q409906 (F578176 q409906) from RS_o hT578177 htq409906
            have bp578190 : gB p578190 0 1000000 := ⟨by omega, by omega⟩
            have bp578191 : gB p578191 0 1000000 := ⟨by omega, by omega⟩
            have fq578208 : fI (F578176 q409906) 3 = p578191 := by rw [he578187]; rfl
            refine Gw_callV (As := []) (gV_ok D I) (cp_12780_Code_size l hl0 D I P409903 F578176 q409906 q578188 q578189 p578190 p578191 hm578186 he578187) dr_cX17_weigh_31 ⟨wr_10_160, wr_1_15, wr_9_131, by decide, rfl, (Nat.le_of_ble_eq_true rfl), (Nat.le_of_ble_eq_true rfl)⟩ wr_9_129 wr_9_130 hm578186 he578187 rfl (show 0 + 0 ≤ 0 by first | omega | decide) (show 0 + 0 ≤ 0 by first | omega | decide) (Nat.le_of_ble_eq_true rfl) (fun r578212 w578213 dc578209 ds578210 hp578211 => ?_) (fun _ _ _ _ _ z => z.elim)
            obtain ⟨rfl, rfl, hdc, hds⟩ := hp578211
            change G _ _ _ _ _ _ _ (.int p578191 :: _) _ _ _
            refine G_widen (cs' := 0) (sl' := 0) (by omega) (by omega) ?_
            refine G_icmp_ge 201 dr_cX17_weigh_34 (by decide +kernel) (fun hc578214 => ?_) (fun hc578214 => ?_)
            · have r578215 : p578191.toInt ≤ g578175.toInt := gC_le hc578214
              have hx578216 : tl_RModel_weigh_29 D I γ el P409903 F409904 q409905 q409906 F575861 (0 : Int32) 201 F578176 := kt29_578181 201 F578176 (fun R c1 c2 => c1 F578176 g578175 p578191 bg578175 hT578177 hs578178 x578179 x578180 fq578208 r578215)
              exact G_vretA dr_cX17_weigh_201 rfl (Nat.le_of_ble_eq_true rfl) (Nat.le_of_ble_eq_true rfl) ⟨F578176, rfl, rfl, hT578177, hs578178, (Nat.le_of_ble_eq_true rfl), (Nat.le_of_ble_eq_true rfl), x578179, x578180, (fun R c1 => c1 F536105 F575861 F578176 hT536106 hs536107 x536102 x536103 ht536104 hx575873 hx578216)⟩
            · have r578217 : g578175.toInt < p578191.toInt := gC_nle hc578214
              have bg578175' : gB g578175 0 999999 := ⟨by omega, by omega⟩
              have bp578191' : gB p578191 1 1000000 := ⟨by omega, by omega⟩
              refine G_iconst 1 dr_cX17_weigh_37 (by decide +kernel) ?_
              refine G_istore_n (L' := [(3, .int 1), (2, .int g578175), (0, .ref q409905), (1, .ref q409906)]) dr_cX17_weigh_38 (Nat.le_of_ble_eq_true rfl) rfl ?_
              refine G_iconst 0 dr_cX17_weigh_39 (by decide +kernel) ?_
              refine G_istore (L' := [(4, .int 0), (3, .int 1), (2, .int g578175), (0, .ref q409905), (1, .ref q409906)]) dr_cX17_weigh_40 (Nat.le_of_ble_eq_true rfl) rfl ?_
              have hlp42_579350 : ∀ (n42_579350 : Nat) (g579349 : Int32) (g579350 : Int32), gB g579349 0 2147483647 → (∀ (k : Nat) (e1 : Int32), tl_RModel_weigh_42 D I γ el F578176 q409905 g578175 g579349 g579350 k e1 → tl_RModel_weigh_42 D I γ el F578176 q409905 g578175 (0 : Int32) (1 : Int32) k e1) → ((2147483648 : Int) - g579349.toInt).toNat < n42_579350 → G (gV D I) l (gRm 6 144 0 0) (gMA (gV D I) (pt_409908_SpillForgeModel_weigh D I γ el P409903 F409904 q409905 q409906) gNA 0 0) ky_409908_SpillForgeModel_weigh 42 [(4, .int g579349), (3, .int g579350), (2, .int g578175), (0, .ref q409905), (1, .ref q409906)] [] (va_pl P409903 F578176) 0 0 := by
                intro n42_579350
                induction n42_579350 with
                | zero => intro g579349 g579350 bg579349 kt42_579351 hm42_579350; exact absurd hm42_579350 (Nat.not_lt_zero _)
                | succ n42_579350 ih42_579350 =>
                  intro g579349 g579350 bg579349 kt42_579351 hm42_579350
                  have bg579350 := gB_any g579350
                  refine G_iload 0 dr_cX17_weigh_42 rfl ?_
                  refine G_aload_n 3 dr_cX17_weigh_44 rfl ?_
                  have fq579352 : fR (F578176 q409905) 4 = (γ 9 4) := by rw [he578184]; rfl
                  refine Gp_get 4 hm578185 he578184 dr_cX17_weigh_45 (gk_X17 D I) (Nat.le_of_ble_eq_true rfl) wr_7_78 rfl ?_
                  refine G_iload_n 2 dr_cX17_weigh_48 rfl ?_
                  have hm579353 : (γ 9 4) ∈ P409903 := RS_m hT578177 ht409934 (by decide)
                  obtain ⟨f579355, he579354⟩ := show rk_16 I (F578176 (γ 9 4)) from RS_o hT578177 ht409934
                  refine Gp_iald 0 hm579353 he579354 dr_cX17_weigh_49 rfl (gB_inr (by omega) (by omega)) (G_nam fun z579356 hz579356 => ?_)
                  have bz579356 : gB z579356 (-2147483648) 2147483647 := gB_any z579356
                  refine G_icmp_ge 64 dr_cX17_weigh_50 (by decide +kernel) (fun hc579357 => ?_) (fun hc579357 => ?_)
                  · have r579358 : z579356.toInt ≤ g579349.toInt := gC_le hc579357
                    have hx579359 : tl_RModel_weigh_42 D I γ el F578176 q409905 g578175 (0 : Int32) (1 : Int32) 64 g579350 := kt42_579351 64 g579350 (fun R c1 c2 => c1 g579349 g579350 f579355 z579356 bg579349 fq579352 he579354 hz579356 r579358)
                    refine G_aload_n 4 dr_cX17_weigh_64 rfl ?_
                    refine G_iload_n 2 dr_cX17_weigh_65 rfl ?_
                    have hm579360 : q578188 ∈ P409903 := RS_m hT578177 ht578192 (by decide)
                    obtain ⟨⟨p579362, p579363, q579364, he579361, r579365, r579366, r579367, r579369⟩, r579368⟩ := show rk_4 D I γ el F578176 q578188 from RS_o hT578177 ht578192
                    have bp579362 := gB_any p579362
                    have bp579363 : gB p579363 0 1000000 := ⟨by omega, by omega⟩
                    obtain ⟨r579370, r579371, n579378, f579379, r579372, r579373, r579374, r579375, r579376, r579377⟩ := rLC_n r579367 (by omega)
                    have hm579380 : q579364 ∈ P409903 := RS_m hT578177 r579370 (by decide)
                    obtain ⟨q579381, hx579382⟩ : ∃ x, x = el q578188 g578175.toInt.toNat := ⟨_, rfl⟩
                    have fq579386 : fR (F578176 q409906) 0 = q578188 := by rw [he578187]; rfl
                    have hx579383 : f579379 g578175.toNatClampNeg = some q579381 := (r579376 _ (show g578175.toInt.toNat < γ 2 q578188 by omega)).trans (by rw [hx579382])
                    have ht579387 : rKd γ q579381 2 := by rw [hx579382]; exact (r578203 _ (by omega)).resolve_right (fun z => absurd z.1 (by omega))
                    have ht579388 : rFm γ q579381 q578188 := by rw [hx579382]; exact (r579368 _ (show g578175.toInt.toNat < γ 2 q578188 by omega)).2.1
                    have hm579389 : q579381 ∈ P409903 := RS_m hT578177 ht579387 (by decide)
                    obtain ⟨q579391, q579392, p579393, p579394, he579390, ht579401, ht579395, ht579396, ht579397, ht579398, ht579399, bp579393, bp579394, r579400, r579402, r579403⟩ := show rk_2 γ q579381 (F578176 q579381) from RS_o hT578177 ht579387
                    have fq579404 : fI (F578176 q578188) 2 = p579363 := by rw [he579361]; rfl
                    refine Gw_callV (As := [.int g578175]) (gV_ok D I) (cp_7901_Code_get l hl0 D I P409903 F578176 q409906 q578188 q579364 g578175 q578189 p578190 p578191 p579362 p579363 f579379 n579378 q579381 q579391 q579392 p579393 p579394 hm578186 hm579360 hm579380 hm579389 he578187 he579361 r579372 he579390 (gB_w bg578175' (by decide) (by decide)) (gB_w bp579363 (by decide) (by decide)) (by omega) (by omega) (by assumption) (by omega)) dr_cX17_weigh_66 ⟨wr_10_161, wr_1_15, wr_10_141, by decide, rfl, (Nat.le_of_ble_eq_true rfl), (Nat.le_of_ble_eq_true rfl)⟩ wr_10_139 wr_10_140 hm578186 he578187 rfl (show 0 + 0 ≤ 0 by first | omega | decide) (show 0 + 0 ≤ 0 by first | omega | decide) (Nat.le_of_ble_eq_true rfl) (fun r579408 w579409 dc579405 ds579406 hp579407 => ?_) (fun _ _ _ _ _ z => z.elim)
                    obtain ⟨rfl, rfl, hdc, hds, ht579410⟩ := hp579407
                    change G _ _ _ _ _ _ _ (.ref q579381 :: _) _ _ _
                    refine G_widen (cs' := 0) (sl' := 0) (by omega) (by omega) ?_
                    refine G_astore (L' := [(4, .ref q579381), (3, .int g579350), (2, .int g578175), (0, .ref q409905), (1, .ref q409906)]) dr_cX17_weigh_69 (Nat.le_of_ble_eq_true rfl) rfl ?_
                    refine G_iconst 0 dr_cX17_weigh_71 (by decide +kernel) ?_
                    refine G_istore (L' := [(5, .int 0), (4, .ref q579381), (3, .int g579350), (2, .int g578175), (0, .ref q409905), (1, .ref q409906)]) dr_cX17_weigh_72 (Nat.le_of_ble_eq_true rfl) rfl ?_
                    have hlp74_579950 : ∀ (n74_579950 : Nat) (F579946 : Nat → va_E) (g579945 : Int32), gB g579945 0 1000001 → RS D I P409903 F579946 γ el → rStr γ [] F409904 F579946 → (F579946 q409905 = F409904 q409905) → (F579946 (γ 9 3) = F409904 (γ 9 3)) → (∀ (k : Nat) (e1 : Nat → va_E), tl_RModel_weigh_74 D I γ el P409903 F409904 q409905 q579381 g579350 F579946 g579945 k e1 → tl_RModel_weigh_74 D I γ el P409903 F409904 q409905 q579381 g579350 F578176 (0 : Int32) k e1) → ((1000002 : Int) - g579945.toInt).toNat < n74_579950 → G (gV D I) l (gRm 6 144 0 0) (gMA (gV D I) (pt_409908_SpillForgeModel_weigh D I γ el P409903 F409904 q409905 q409906) gNA 0 0) ky_409908_SpillForgeModel_weigh 74 [(5, .int g579945), (4, .ref q579381), (3, .int g579350), (2, .int g578175), (0, .ref q409905), (1, .ref q409906)] [] (va_pl P409903 F579946) 0 0 := by
                      intro n74_579950
                      induction n74_579950 with
                      | zero => intro F579946 g579945 bg579945 hT579947 hs579948 x579949 x579950 kt74_579951 hm74_579950; exact absurd hm74_579950 (Nat.not_lt_zero _)
                      | succ n74_579950 ih74_579950 =>
                        intro F579946 g579945 bg579945 hT579947 hs579948 x579949 x579950 kt74_579951 hm74_579950
                        have hs579952 : rStr γ [] F578176 F579946 := fun b h0 hb hw => (hs579948 b h0 hb hw).trans (hs578178 b h0 hb hw).symm
                        have he579953 : F579946 q409906 = .inr (18, [.ref q578188, .ref q578189, .int p578190, .int p578191]) := (hs579952 q409906 (rT0 htq409906 (by decide)) (rT1 htq409906 (by decide)) (rT2 htq409906 (by decide))).trans he578187
                        have he579954 : F579946 q578188 = .inr (4, [.int p579362, .ref q579364, .int p579363]) := (hs579952 q578188 (rT0 ht578192 (by decide)) (rT1 ht578192 (by decide)) (rT2 ht578192 (by decide))).trans he579361
                        have he579955 : F579946 q579364 = .inl (I (.object "java/lang/Object"), n579378, .inr (.inr (.inr (.inr f579379)))) := (hs579952 q579364 (rT0 r579370 (by decide)) (rT1 r579370 (by decide)) (rT2 r579370 (by decide))).trans r579372
                        have he579956 : F579946 q579381 = .inr (17, [.ref q579391, .ref q579392, .int p579393, .int p579394]) := (hs579952 q579381 (rT0 ht579387 (by decide)) (rT1 ht579387 (by decide)) (rT2 ht579387 (by decide))).trans he579390
                        have hs579957 : rStr γ [] F409904 F579946 := rStr_tr hs578178 hs579952
                        have he579958 : F579946 q409905 = .inr (22, [.ref (γ 9 0), .ref (γ 9 1), .ref (γ 9 2), .ref (γ 9 3), .ref (γ 9 4), .ref (γ 9 5), .ref (γ 9 6), .ref (γ 9 7), .ref (γ 9 8), .int p409913, .int p409914, .int p409915, .int p409916, .int p409917, .int p409918, .ref (γ 9 15), .ref (γ 9 16), .ref (γ 9 17), .ref (γ 9 18), .ref (γ 9 19), .ref (γ 9 20), .ref (γ 9 21), .ref (γ 9 22), .int p409919, .int p409920, .int p409921, .int p409922, .int p409923, .ref q409911, .ref (γ 9 29), .int p409924, .ref (γ 9 31), .int p409925, .int p409926, .int p409927, .ref q409912]) := x579949.trans he409910
                        have hm579959 : q409905 ∈ P409903 := RS_m hT579947 htq409905 (by decide)
                        refine G_iload 0 dr_cX17_weigh_74 rfl ?_
                        refine G_aload 1 dr_cX17_weigh_76 rfl ?_
                        have fq579960 : fR (F579946 q579381) 0 = q579391 := by rw [he579956]; rfl
                        refine Gp_get 0 hm579389 he579956 dr_cX17_weigh_78 (gk_X12 D I) (Nat.le_of_ble_eq_true rfl) wr_9_220 rfl ?_
                        have hm579961 : q579391 ∈ P409903 := RS_m hT579947 ht579395 (by decide)
                        obtain ⟨⟨p579963, p579964, q579965, he579962, r579966, r579967, r579968, r579970⟩, r579969⟩ := show rk_3 D I γ el F579946 q579391 from RS_o hT579947 ht579395
                        have bp579963 := gB_any p579963
                        have bp579964 : gB p579964 0 1000000 := ⟨by omega, by omega⟩
                        have fq579971 : p579964.toInt = (γ 2 q579391 : Int) := by omega
                        have fq579972 : fI (F579946 q579391) 2 = p579964 := by rw [he579962]; rfl
                        refine Gw_callV (As := []) (gV_ok D I) (cp_7_ArrayList_size l hl0 D I P409903 F579946 q579391 p579963 q579965 p579964 hm579961 he579962 (gB_w bp579964 (by decide) (by decide))) dr_cX17_weigh_81 ⟨wr_10_200, wr_1_18, wr_9_160, by decide, rfl, (Nat.le_of_ble_eq_true rfl), (Nat.le_of_ble_eq_true rfl)⟩ wr_9_158 wr_9_159 hm579961 he579962 rfl (show 0 + 0 ≤ 0 by first | omega | decide) (show 0 + 0 ≤ 0 by first | omega | decide) (Nat.le_of_ble_eq_true rfl) (fun r579976 w579977 dc579973 ds579974 hp579975 => ?_) (fun _ _ _ _ _ z => z.elim)
                        obtain ⟨rfl, rfl, hdc, hds⟩ := hp579975
                        change G _ _ _ _ _ _ _ (.int p579964 :: _) _ _ _
                        refine G_widen (cs' := 0) (sl' := 0) (by omega) (by omega) ?_
                        refine G_icmp_gt 195 dr_cX17_weigh_84 (by decide +kernel) (fun hc579978 => ?_) (fun hc579978 => ?_)
                        · have r579979 : p579964.toInt < g579945.toInt := gC_lt hc579978
                          have bg579945' : gB g579945 1 1000001 := ⟨by omega, by omega⟩
                          have hx579980 : tl_RModel_weigh_74 D I γ el P409903 F409904 q409905 q579381 g579350 F578176 (0 : Int32) 195 F579946 := kt74_579951 195 F579946 (fun R c1 c2 c3 c4 c5 c6 c7 c8 c9 c10 c11 c12 c13 c14 c15 c16 c17 => c1 F579946 g579945 q579391 p579964 bg579945 hT579947 hs579948 x579949 x579950 fq579960 fq579971 fq579972 r579979)
                          obtain ⟨z579981, hz579981⟩ : ∃ z : Int32, z = g578175 + Int32.ofInt 1 := ⟨_, rfl⟩
                          have ez579981 : z579981.toInt = g578175.toInt + 1 := gI_inc hz579981 (by decide) bg578175' (by decide) (by decide)
                          have bz579981 : gB z579981 1 1000000 := ⟨by omega, by omega⟩
                          refine G_iinc (L' := [(2, .int z579981), (5, .int g579945), (4, .ref q579381), (3, .int g579350), (0, .ref q409905), (1, .ref q409906)]) z579981 3 dr_cX17_weigh_195 rfl hz579981.symm (Nat.le_of_ble_eq_true rfl) rfl ?_
                          refine G_goto 29 dr_cX17_weigh_198 (by decide +kernel) ?_
                          refine G_lv (L' := [(2, .int z579981), (0, .ref q409905), (1, .ref q409906)]) [0, 4, 5] rfl ?_
                          exact ih29_578180 F579946 z579981 (gB_w bz579981 (by decide) (by decide)) hT579947 hs579948 x579949 x579950 (fun k e1 ht => kt29_578181 k e1 (fun R c1 c2 => c2 F578176 g578175 p578191 g579350 q578188 q579381 p579363 F579946 z579981 k e1 bg578175 hT578177 hs578178 x578179 x578180 fq578208 r578217 hx579359 fq579386 hx579382 fq579404 ht579410 hx579980 ez579981 (ht R c1 c2))) (mz_up ez579981 (Int.le_trans bg578175'.2 (by decide)) hm29_578180)
                        · have r579982 : g579945.toInt ≤ p579964.toInt := gC_nlt hc579978
                          have bg579945' : gB g579945 0 1000000 := ⟨by omega, by omega⟩
                          refine G_iload 0 dr_cX17_weigh_87 rfl ?_
                          refine G_aload 1 dr_cX17_weigh_89 rfl ?_
                          refine Gp_get 0 hm579389 he579956 dr_cX17_weigh_91 (gk_X12 D I) (Nat.le_of_ble_eq_true rfl) wr_9_220 rfl ?_
                          have fq579983 : p579964.toInt = (γ 2 q579391 : Int) := by omega
                          refine Gw_callV (As := []) (gV_ok D I) (cp_7_ArrayList_size l hl0 D I P409903 F579946 q579391 p579963 q579965 p579964 hm579961 he579962 (gB_w bp579964 (by decide) (by decide))) dr_cX17_weigh_94 ⟨wr_10_200, wr_1_18, wr_9_160, by decide, rfl, (Nat.le_of_ble_eq_true rfl), (Nat.le_of_ble_eq_true rfl)⟩ wr_9_158 wr_9_159 hm579961 he579962 rfl (show 0 + 0 ≤ 0 by first | omega | decide) (show 0 + 0 ≤ 0 by first | omega | decide) (Nat.le_of_ble_eq_true rfl) (fun r579987 w579988 dc579984 ds579985 hp579986 => ?_) (fun _ _ _ _ _ z => z.elim)
                          obtain ⟨rfl, rfl, hdc, hds⟩ := hp579986
                          change G _ _ _ _ _ _ _ (.int p579964 :: _) _ _ _
                          refine G_widen (cs' := 0) (sl' := 0) (by omega) (by omega) ?_
                          refine G_icmp_ge 116 dr_cX17_weigh_97 (by decide +kernel) (fun hc579989 => ?_) (fun hc579989 => ?_)
                          · have r579990 : p579964.toInt ≤ g579945.toInt := gC_le hc579989
                            refine G_aload 1 dr_cX17_weigh_116 rfl ?_
                            have fq579991 : fR (F579946 q579381) 1 = q579392 := by rw [he579956]; rfl
                            refine Gp_get 1 hm579389 he579956 dr_cX17_weigh_118 (gk_X12 D I) (Nat.le_of_ble_eq_true rfl) wr_9_223 rfl ?_
                            refine G_astore (L' := [(6, .ref q579392), (5, .int g579945), (4, .ref q579381), (3, .int g579350), (2, .int g578175), (0, .ref q409905), (1, .ref q409906)]) dr_cX17_weigh_121 (Nat.le_of_ble_eq_true rfl) rfl ?_
                            refine G_aload 0 dr_cX17_weigh_123 rfl ?_
                            have hm579992 : q579392 ∈ P409903 := RS_m hT579947 ht579397 (by decide)
                            obtain ⟨p579994, p579995, p579996, p579997, p579998, p579999, p580000, he579993, bp579994, bp579995, bp579998, bp579999, bp580000, r580001, r580002, r580003, r580004, r580005⟩ := show rk_1 γ q579392 (F579946 q579392) from RS_o hT579947 ht579397
                            have bp579996 := gB_any p579996
                            have bp579997 := gB_any p579997
                            have fq580006 : fI (F579946 q579392) 0 = p579994 := by rw [he579993]; rfl
                            refine Gw_callV (As := []) (gV_ok D I) (cp_1660_Row_sets l hl0 D I P409903 F579946 q579392 p579994 p579995 p579996 p579997 p579998 p579999 p580000 hm579992 he579993 bp579994 bp579995 bp579998 bp579999 bp580000) dr_cX17_weigh_125 ⟨wr_10_181, wr_1_39, wr_10_184, by decide, rfl, (Nat.le_of_ble_eq_true rfl), (Nat.le_of_ble_eq_true rfl)⟩ wr_10_182 wr_10_183 hm579992 he579993 rfl (show 0 + 0 ≤ 0 by first | omega | decide) (show 0 + 0 ≤ 0 by first | omega | decide) (Nat.le_of_ble_eq_true rfl) (fun r580010 w580011 dc580007 ds580008 hp580009 => ?_) (fun _ _ _ _ _ z => z.elim)
                            obtain ⟨o580012, rfl, rfl, hdc, hds, bo580012, ht580013⟩ := hp580009
                            change G _ _ _ _ _ _ _ (.int o580012 :: _) _ _ _
                            refine G_widen (cs' := 0) (sl' := 0) (by omega) (by omega) ?_
                            refine G_if_eq 145 dr_cX17_weigh_128 (by decide +kernel) (fun hc580014 => ?_) (fun hc580014 => ?_)
                            · have r580015 : o580012.toInt = 0 := gj_eq hc580014 (show Int32.toInt 0 = 0 by decide)
                              have bo580012' : gB o580012 0 0 := gB_t0 r580015
                              refine G_aload 0 dr_cX17_weigh_145 rfl ?_
                              have fq580016 : fI (F579946 q579392) 5 = p579999 := by rw [he579993]; rfl
                              refine Gw_callV (As := []) (gV_ok D I) (cp_1675_Row_usesA l hl0 D I P409903 F579946 q579392 p579994 p579995 p579996 p579997 p579998 p579999 p580000 hm579992 he579993 bp579994 bp579995 bp579998 bp579999 bp580000) dr_cX17_weigh_147 ⟨wr_10_192, wr_1_39, wr_10_195, by decide, rfl, (Nat.le_of_ble_eq_true rfl), (Nat.le_of_ble_eq_true rfl)⟩ wr_10_193 wr_10_194 hm579992 he579993 rfl (show 0 + 0 ≤ 0 by first | omega | decide) (show 0 + 0 ≤ 0 by first | omega | decide) (Nat.le_of_ble_eq_true rfl) (fun r580020 w580021 dc580017 ds580018 hp580019 => ?_) (fun _ _ _ _ _ z => z.elim)
                              obtain ⟨o580022, rfl, rfl, hdc, hds, bo580022, x580023, ht580024⟩ := hp580019
                              change G _ _ _ _ _ _ _ (.int o580022 :: _) _ _ _
                              refine G_widen (cs' := 0) (sl' := 0) (by omega) (by omega) ?_
                              refine G_if_eq 167 dr_cX17_weigh_150 (by decide +kernel) (fun hc580025 => ?_) (fun hc580025 => ?_)
                              · have r580026 : o580022.toInt = 0 := gj_eq hc580025 (show Int32.toInt 0 = 0 by decide)
                                have bo580022' : gB o580022 0 0 := gB_t0 r580026
                                refine G_aload 0 dr_cX17_weigh_167 rfl ?_
                                have fq580027 : fI (F579946 q579392) 6 = p580000 := by rw [he579993]; rfl
                                refine Gw_callV (As := []) (gV_ok D I) (cp_1699_Row_usesB l hl0 D I P409903 F579946 q579392 p579994 p579995 p579996 p579997 p579998 p579999 p580000 hm579992 he579993 bp579994 bp579995 bp579998 bp579999 bp580000) dr_cX17_weigh_169 ⟨wr_10_196, wr_1_39, wr_10_199, by decide, rfl, (Nat.le_of_ble_eq_true rfl), (Nat.le_of_ble_eq_true rfl)⟩ wr_10_197 wr_10_198 hm579992 he579993 rfl (show 0 + 0 ≤ 0 by first | omega | decide) (show 0 + 0 ≤ 0 by first | omega | decide) (Nat.le_of_ble_eq_true rfl) (fun r580031 w580032 dc580028 ds580029 hp580030 => ?_) (fun _ _ _ _ _ z => z.elim)
                                obtain ⟨o580033, rfl, rfl, hdc, hds, bo580033, x580034, ht580035⟩ := hp580030
                                change G _ _ _ _ _ _ _ (.int o580033 :: _) _ _ _
                                refine G_widen (cs' := 0) (sl' := 0) (by omega) (by omega) ?_
                                refine G_if_eq 189 dr_cX17_weigh_172 (by decide +kernel) (fun hc580036 => ?_) (fun hc580036 => ?_)
                                · have r580037 : o580033.toInt = 0 := gj_eq hc580036 (show Int32.toInt 0 = 0 by decide)
                                  have bo580033' : gB o580033 0 0 := gB_t0 r580037
                                  obtain ⟨z580038, hz580038⟩ : ∃ z : Int32, z = g579945 + Int32.ofInt 1 := ⟨_, rfl⟩
                                  have ez580038 : z580038.toInt = g579945.toInt + 1 := gI_inc hz580038 (by decide) bg579945' (by decide) (by decide)
                                  have bz580038 : gB z580038 1 1000001 := ⟨by omega, by omega⟩
                                  refine G_iinc (L' := [(5, .int z580038), (6, .ref q579392), (4, .ref q579381), (3, .int g579350), (2, .int g578175), (0, .ref q409905), (1, .ref q409906)]) z580038 1 dr_cX17_weigh_189 rfl hz580038.symm (Nat.le_of_ble_eq_true rfl) rfl ?_
                                  refine G_goto 74 dr_cX17_weigh_192 (by decide +kernel) ?_
                                  refine G_lv (L' := [(5, .int z580038), (4, .ref q579381), (3, .int g579350), (2, .int g578175), (0, .ref q409905), (1, .ref q409906)]) [0, 2, 3, 4, 5, 6] rfl ?_
                                  exact ih74_579950 F579946 z580038 (gB_w bz580038 (by decide) (by decide)) hT579947 hs579948 x579949 x579950 (fun k e1 ht => kt74_579951 k e1 (fun R c1 c2 c3 c4 c5 c6 c7 c8 c9 c10 c11 c12 c13 c14 c15 c16 c17 => c2 F579946 g579945 q579391 p579964 q579392 p579994 o580012 p579999 o580022 p580000 o580033 z580038 k e1 bg579945 hT579947 hs579948 x579949 x579950 fq579960 fq579971 fq579972 r579982 fq579983 r579990 fq579991 fq580006 bo580012 ht580013 r580015 fq580016 bo580022 ht580024 r580026 fq580027 bo580033 ht580035 r580037 ez580038 (ht R c1 c2 c3 c4 c5 c6 c7 c8 c9 c10 c11 c12 c13 c14 c15 c16 c17))) (mz_up ez580038 (Int.le_trans bg579945'.2 (by decide)) hm74_579950)
                                · have r580039 : o580033.toInt ≠ 0 := gj_neq hc580036 (show Int32.toInt 0 = 0 by decide)
                                  have bo580033' : gB o580033 1 1 := gB_t1 bo580033 r580039
                                  refine G_aload_n 5 dr_cX17_weigh_175 rfl ?_
                                  have fq580040 : fR (F579946 q409905) 5 = (γ 9 5) := by rw [he579958]; rfl
                                  refine Gp_get 5 hm579959 he579958 dr_cX17_weigh_176 (gk_X17 D I) (Nat.le_of_ble_eq_true rfl) wr_7_79 rfl ?_
                                  refine G_aload 0 dr_cX17_weigh_179 rfl ?_
                                  have fq580041 : fI (F579946 q579392) 3 = p579997 := by rw [he579993]; rfl
                                  refine Gp_get 3 hm579992 he579993 dr_cX17_weigh_181 (gk_X15 D I) (Nat.le_of_ble_eq_true rfl) wr_9_190 rfl ?_
                                  refine G_dup2_11 dr_cX17_weigh_184 rfl rfl ?_
                                  have hm580042 : (γ 9 5) ∈ P409903 := RS_m hT579947 ht409935 (by decide)
                                  obtain ⟨f580044, he580043⟩ := show rk_17 I (F579946 (γ 9 5)) from RS_o hT579947 ht409935
                                  refine Gp_iald 0 hm580042 he580043 dr_cX17_weigh_185 rfl (gB_inr (by omega) (by omega)) (G_nam fun z580045 hz580045 => ?_)
                                  have bz580045 : gB z580045 (-2147483648) 2147483647 := gB_any z580045
                                  refine G_iload_n 3 dr_cX17_weigh_186 rfl ?_
                                  refine G_iadd dr_cX17_weigh_187 (G_nam fun z580046 hz580046 => ?_)
                                  have bz580046 : gB z580046 (-2147483648) 2147483647 := gB_any z580046
                                  refine Gp_iast 0 hm580042 he580043 dr_cX17_weigh_188 rfl (gB_inr (by omega) (by omega)) (fun F580047 e580048 n580049 => ?_)
                                  obtain ⟨f580050, hf580050⟩ : ∃ z, z = upd f580044 p579997.toNatClampNeg z580046 := ⟨_, rfl⟩
                                  rw [← hf580050] at e580048
                                  have he580051 : F580047 q409906 = .inr (18, [.ref q578188, .ref q578189, .int p578190, .int p578191]) := (n580049 q409906 (rn_oa he579953 he580043)).trans he579953
                                  have he580052 : F580047 q578188 = .inr (4, [.int p579362, .ref q579364, .int p579363]) := (n580049 q578188 (rn_oa he579954 he580043)).trans he579954
                                  have he580053 : F580047 q579364 = .inl (I (.object "java/lang/Object"), n579378, .inr (.inr (.inr (.inr f579379)))) := (n580049 q579364 (rn_ref_num he579955 he580043)).trans he579955
                                  have he580054 : F580047 q579381 = .inr (17, [.ref q579391, .ref q579392, .int p579393, .int p579394]) := (n580049 q579381 (rn_oa he579956 he580043)).trans he579956
                                  have he580055 : F580047 q409905 = .inr (22, [.ref (γ 9 0), .ref (γ 9 1), .ref (γ 9 2), .ref (γ 9 3), .ref (γ 9 4), .ref (γ 9 5), .ref (γ 9 6), .ref (γ 9 7), .ref (γ 9 8), .int p409913, .int p409914, .int p409915, .int p409916, .int p409917, .int p409918, .ref (γ 9 15), .ref (γ 9 16), .ref (γ 9 17), .ref (γ 9 18), .ref (γ 9 19), .ref (γ 9 20), .ref (γ 9 21), .ref (γ 9 22), .int p409919, .int p409920, .int p409921, .int p409922, .int p409923, .ref q409911, .ref (γ 9 29), .int p409924, .ref (γ 9 31), .int p409925, .int p409926, .int p409927, .ref q409912]) := (n580049 q409905 (rn_oa he579958 he580043)).trans he579958
                                  have he580056 : F580047 q579391 = .inr (4, [.int p579963, .ref q579965, .int p579964]) := (n580049 q579391 (rn_oa he579962 he580043)).trans he579962
                                  have he580057 : F580047 q579392 = .inr (20, [.int p579994, .int p579995, .int p579996, .int p579997, .int p579998, .int p579999, .int p580000]) := (n580049 q579392 (rn_oa he579993 he580043)).trans he579993
                                  have he580058 : F580047 (γ 9 5) = .inl (I .int, 2000, .inl f580050) := e580048
                                  have hs580059 : rStr γ [] F409904 F580047 := rStr_put hs579948 n580049 ht409935 (by decide)
                                  have kp580060 : F580047 q409905 = F409904 q409905 := (n580049 q409905 (rn_ty htq409905 ht409935 (by decide))).trans x579949
                                  have kp580061 : F580047 (γ 9 3) = F409904 (γ 9 3) := (n580049 (γ 9 3) (rn_ty ht409933 ht409935 (by decide))).trans x579950
                                  obtain ⟨z580062, hz580062⟩ : ∃ z : Int32, z = g579945 + Int32.ofInt 1 := ⟨_, rfl⟩
                                  have ez580062 : z580062.toInt = g579945.toInt + 1 := gI_inc hz580062 (by decide) bg579945' (by decide) (by decide)
                                  have bz580062 : gB z580062 1 1000001 := ⟨by omega, by omega⟩
                                  refine G_iinc (L' := [(5, .int z580062), (6, .ref q579392), (4, .ref q579381), (3, .int g579350), (2, .int g578175), (0, .ref q409905), (1, .ref q409906)]) z580062 1 dr_cX17_weigh_189 rfl hz580062.symm (Nat.le_of_ble_eq_true rfl) rfl ?_
                                  refine G_goto 74 dr_cX17_weigh_192 (by decide +kernel) ?_
                                  have hT580063 : RS D I P409903 F580047 γ el := RS_set hT579947 n580049 ht409935 (by decide) ⟨f580050, he580058⟩
                                  refine G_lv (L' := [(5, .int z580062), (4, .ref q579381), (3, .int g579350), (2, .int g578175), (0, .ref q409905), (1, .ref q409906)]) [0, 2, 3, 4, 5, 6] rfl ?_
                                  exact ih74_579950 F580047 z580062 (gB_w bz580062 (by decide) (by decide)) hT580063 hs580059 kp580060 kp580061 (fun k e1 ht => kt74_579951 k e1 (fun R c1 c2 c3 c4 c5 c6 c7 c8 c9 c10 c11 c12 c13 c14 c15 c16 c17 => c3 F579946 g579945 q579391 p579964 q579392 p579994 o580012 p579999 o580022 p580000 o580033 p579997 f580044 z580045 z580046 f580050 F580047 z580062 k e1 bg579945 hT579947 hs579948 x579949 x579950 fq579960 fq579971 fq579972 r579982 fq579983 r579990 fq579991 fq580006 bo580012 ht580013 r580015 fq580016 bo580022 ht580024 r580026 fq580027 bo580033 ht580035 r580039 fq580040 fq580041 he580043 hz580045 hz580046 hf580050 n580049 he580058 ez580062 (ht R c1 c2 c3 c4 c5 c6 c7 c8 c9 c10 c11 c12 c13 c14 c15 c16 c17))) (mz_up ez580062 (Int.le_trans bg579945'.2 (by decide)) hm74_579950)
                              · have r580064 : o580022.toInt ≠ 0 := gj_neq hc580025 (show Int32.toInt 0 = 0 by decide)
                                have bo580022' : gB o580022 1 1 := gB_t1 bo580022 r580064
                                refine G_aload_n 5 dr_cX17_weigh_153 rfl ?_
                                have fq580065 : fR (F579946 q409905) 5 = (γ 9 5) := by rw [he579958]; rfl
                                refine Gp_get 5 hm579959 he579958 dr_cX17_weigh_154 (gk_X17 D I) (Nat.le_of_ble_eq_true rfl) wr_7_79 rfl ?_
                                refine G_aload 0 dr_cX17_weigh_157 rfl ?_
                                have fq580066 : fI (F579946 q579392) 2 = p579996 := by rw [he579993]; rfl
                                refine Gp_get 2 hm579992 he579993 dr_cX17_weigh_159 (gk_X15 D I) (Nat.le_of_ble_eq_true rfl) wr_9_186 rfl ?_
                                refine G_dup2_11 dr_cX17_weigh_162 rfl rfl ?_
                                have hm580067 : (γ 9 5) ∈ P409903 := RS_m hT579947 ht409935 (by decide)
                                obtain ⟨f580069, he580068⟩ := show rk_17 I (F579946 (γ 9 5)) from RS_o hT579947 ht409935
                                refine Gp_iald 0 hm580067 he580068 dr_cX17_weigh_163 rfl (gB_inr (by omega) (by omega)) (G_nam fun z580070 hz580070 => ?_)
                                have bz580070 : gB z580070 (-2147483648) 2147483647 := gB_any z580070
                                refine G_iload_n 3 dr_cX17_weigh_164 rfl ?_
                                refine G_iadd dr_cX17_weigh_165 (G_nam fun z580071 hz580071 => ?_)
                                have bz580071 : gB z580071 (-2147483648) 2147483647 := gB_any z580071
                                refine Gp_iast 0 hm580067 he580068 dr_cX17_weigh_166 rfl (gB_inr (by omega) (by omega)) (fun F580072 e580073 n580074 => ?_)
                                obtain ⟨f580075, hf580075⟩ : ∃ z, z = upd f580069 p579996.toNatClampNeg z580071 := ⟨_, rfl⟩
                                rw [← hf580075] at e580073
                                have he580076 : F580072 q409906 = .inr (18, [.ref q578188, .ref q578189, .int p578190, .int p578191]) := (n580074 q409906 (rn_oa he579953 he580068)).trans he579953
                                have he580077 : F580072 q578188 = .inr (4, [.int p579362, .ref q579364, .int p579363]) := (n580074 q578188 (rn_oa he579954 he580068)).trans he579954
                                have he580078 : F580072 q579364 = .inl (I (.object "java/lang/Object"), n579378, .inr (.inr (.inr (.inr f579379)))) := (n580074 q579364 (rn_ref_num he579955 he580068)).trans he579955
                                have he580079 : F580072 q579381 = .inr (17, [.ref q579391, .ref q579392, .int p579393, .int p579394]) := (n580074 q579381 (rn_oa he579956 he580068)).trans he579956
                                have he580080 : F580072 q409905 = .inr (22, [.ref (γ 9 0), .ref (γ 9 1), .ref (γ 9 2), .ref (γ 9 3), .ref (γ 9 4), .ref (γ 9 5), .ref (γ 9 6), .ref (γ 9 7), .ref (γ 9 8), .int p409913, .int p409914, .int p409915, .int p409916, .int p409917, .int p409918, .ref (γ 9 15), .ref (γ 9 16), .ref (γ 9 17), .ref (γ 9 18), .ref (γ 9 19), .ref (γ 9 20), .ref (γ 9 21), .ref (γ 9 22), .int p409919, .int p409920, .int p409921, .int p409922, .int p409923, .ref q409911, .ref (γ 9 29), .int p409924, .ref (γ 9 31), .int p409925, .int p409926, .int p409927, .ref q409912]) := (n580074 q409905 (rn_oa he579958 he580068)).trans he579958
                                have he580081 : F580072 q579391 = .inr (4, [.int p579963, .ref q579965, .int p579964]) := (n580074 q579391 (rn_oa he579962 he580068)).trans he579962
                                have he580082 : F580072 q579392 = .inr (20, [.int p579994, .int p579995, .int p579996, .int p579997, .int p579998, .int p579999, .int p580000]) := (n580074 q579392 (rn_oa he579993 he580068)).trans he579993
                                have he580083 : F580072 (γ 9 5) = .inl (I .int, 2000, .inl f580075) := e580073
                                have hs580084 : rStr γ [] F409904 F580072 := rStr_put hs579948 n580074 ht409935 (by decide)
                                have kp580085 : F580072 q409905 = F409904 q409905 := (n580074 q409905 (rn_ty htq409905 ht409935 (by decide))).trans x579949
                                have kp580086 : F580072 (γ 9 3) = F409904 (γ 9 3) := (n580074 (γ 9 3) (rn_ty ht409933 ht409935 (by decide))).trans x579950
                                refine G_aload 0 dr_cX17_weigh_167 rfl ?_
                                have hT580087 : RS D I P409903 F580072 γ el := RS_set hT579947 n580074 ht409935 (by decide) ⟨f580075, he580083⟩
                                have fq580088 : fI (F580072 q579392) 0 = p579994 := by rw [he580082]; rfl
                                have fq580089 : fI (F580072 q579392) 6 = p580000 := by rw [he580082]; rfl
                                refine Gw_callV (As := []) (gV_ok D I) (cp_1699_Row_usesB l hl0 D I P409903 F580072 q579392 p579994 p579995 p579996 p579997 p579998 p579999 p580000 hm579992 he580082 bp579994 bp579995 bp579998 bp579999 bp580000) dr_cX17_weigh_169 ⟨wr_10_196, wr_1_39, wr_10_199, by decide, rfl, (Nat.le_of_ble_eq_true rfl), (Nat.le_of_ble_eq_true rfl)⟩ wr_10_197 wr_10_198 hm579992 he580082 rfl (show 0 + 0 ≤ 0 by first | omega | decide) (show 0 + 0 ≤ 0 by first | omega | decide) (Nat.le_of_ble_eq_true rfl) (fun r580093 w580094 dc580090 ds580091 hp580092 => ?_) (fun _ _ _ _ _ z => z.elim)
                                obtain ⟨o580095, rfl, rfl, hdc, hds, bo580095, x580096, ht580097⟩ := hp580092
                                change G _ _ _ _ _ _ _ (.int o580095 :: _) _ _ _
                                refine G_widen (cs' := 0) (sl' := 0) (by omega) (by omega) ?_
                                refine G_if_eq 189 dr_cX17_weigh_172 (by decide +kernel) (fun hc580098 => ?_) (fun hc580098 => ?_)
                                · have r580099 : o580095.toInt = 0 := gj_eq hc580098 (show Int32.toInt 0 = 0 by decide)
                                  have bo580095' : gB o580095 0 0 := gB_t0 r580099
                                  obtain ⟨z580100, hz580100⟩ : ∃ z : Int32, z = g579945 + Int32.ofInt 1 := ⟨_, rfl⟩
                                  have ez580100 : z580100.toInt = g579945.toInt + 1 := gI_inc hz580100 (by decide) bg579945' (by decide) (by decide)
                                  have bz580100 : gB z580100 1 1000001 := ⟨by omega, by omega⟩
                                  refine G_iinc (L' := [(5, .int z580100), (6, .ref q579392), (4, .ref q579381), (3, .int g579350), (2, .int g578175), (0, .ref q409905), (1, .ref q409906)]) z580100 1 dr_cX17_weigh_189 rfl hz580100.symm (Nat.le_of_ble_eq_true rfl) rfl ?_
                                  refine G_goto 74 dr_cX17_weigh_192 (by decide +kernel) ?_
                                  refine G_lv (L' := [(5, .int z580100), (4, .ref q579381), (3, .int g579350), (2, .int g578175), (0, .ref q409905), (1, .ref q409906)]) [0, 2, 3, 4, 5, 6] rfl ?_
                                  exact ih74_579950 F580072 z580100 (gB_w bz580100 (by decide) (by decide)) hT580087 hs580084 kp580085 kp580086 (fun k e1 ht => kt74_579951 k e1 (fun R c1 c2 c3 c4 c5 c6 c7 c8 c9 c10 c11 c12 c13 c14 c15 c16 c17 => c4 F579946 g579945 q579391 p579964 q579392 p579994 o580012 p579999 o580022 p579996 f580069 z580070 z580071 f580075 F580072 p580000 o580095 z580100 k e1 bg579945 hT579947 hs579948 x579949 x579950 fq579960 fq579971 fq579972 r579982 fq579983 r579990 fq579991 fq580006 bo580012 ht580013 r580015 fq580016 bo580022 ht580024 r580064 fq580065 fq580066 he580068 hz580070 hz580071 hf580075 n580074 he580083 fq580088 fq580089 bo580095 ht580097 r580099 ez580100 (ht R c1 c2 c3 c4 c5 c6 c7 c8 c9 c10 c11 c12 c13 c14 c15 c16 c17))) (mz_up ez580100 (Int.le_trans bg579945'.2 (by decide)) hm74_579950)
                                · have r580101 : o580095.toInt ≠ 0 := gj_neq hc580098 (show Int32.toInt 0 = 0 by decide)
                                  have bo580095' : gB o580095 1 1 := gB_t1 bo580095 r580101
                                  refine G_aload_n 5 dr_cX17_weigh_175 rfl ?_
                                  have fq580102 : fR (F580072 q409905) 5 = (γ 9 5) := by rw [he580080]; rfl
                                  refine Gp_get 5 hm579959 he580080 dr_cX17_weigh_176 (gk_X17 D I) (Nat.le_of_ble_eq_true rfl) wr_7_79 rfl ?_
                                  refine G_aload 0 dr_cX17_weigh_179 rfl ?_
                                  have fq580103 : fI (F580072 q579392) 3 = p579997 := by rw [he580082]; rfl
                                  refine Gp_get 3 hm579992 he580082 dr_cX17_weigh_181 (gk_X15 D I) (Nat.le_of_ble_eq_true rfl) wr_9_190 rfl ?_
                                  refine G_dup2_11 dr_cX17_weigh_184 rfl rfl ?_
                                  refine Gp_iald 0 hm580067 he580083 dr_cX17_weigh_185 rfl (gB_inr (by omega) (by omega)) (G_nam fun z580104 hz580104 => ?_)
                                  have bz580104 : gB z580104 (-2147483648) 2147483647 := gB_any z580104
                                  refine G_iload_n 3 dr_cX17_weigh_186 rfl ?_
                                  refine G_iadd dr_cX17_weigh_187 (G_nam fun z580105 hz580105 => ?_)
                                  have bz580105 : gB z580105 (-2147483648) 2147483647 := gB_any z580105
                                  refine Gp_iast 0 hm580067 he580083 dr_cX17_weigh_188 rfl (gB_inr (by omega) (by omega)) (fun F580106 e580107 n580108 => ?_)
                                  obtain ⟨f580109, hf580109⟩ : ∃ z, z = upd f580075 p579997.toNatClampNeg z580105 := ⟨_, rfl⟩
                                  rw [← hf580109] at e580107
                                  have he580110 : F580106 q409906 = .inr (18, [.ref q578188, .ref q578189, .int p578190, .int p578191]) := (n580108 q409906 (rn_oa he580076 he580083)).trans he580076
                                  have he580111 : F580106 q578188 = .inr (4, [.int p579362, .ref q579364, .int p579363]) := (n580108 q578188 (rn_oa he580077 he580083)).trans he580077
                                  have he580112 : F580106 q579364 = .inl (I (.object "java/lang/Object"), n579378, .inr (.inr (.inr (.inr f579379)))) := (n580108 q579364 (rn_ref_num he580078 he580083)).trans he580078
                                  have he580113 : F580106 q579381 = .inr (17, [.ref q579391, .ref q579392, .int p579393, .int p579394]) := (n580108 q579381 (rn_oa he580079 he580083)).trans he580079
                                  have he580114 : F580106 q409905 = .inr (22, [.ref (γ 9 0), .ref (γ 9 1), .ref (γ 9 2), .ref (γ 9 3), .ref (γ 9 4), .ref (γ 9 5), .ref (γ 9 6), .ref (γ 9 7), .ref (γ 9 8), .int p409913, .int p409914, .int p409915, .int p409916, .int p409917, .int p409918, .ref (γ 9 15), .ref (γ 9 16), .ref (γ 9 17), .ref (γ 9 18), .ref (γ 9 19), .ref (γ 9 20), .ref (γ 9 21), .ref (γ 9 22), .int p409919, .int p409920, .int p409921, .int p409922, .int p409923, .ref q409911, .ref (γ 9 29), .int p409924, .ref (γ 9 31), .int p409925, .int p409926, .int p409927, .ref q409912]) := (n580108 q409905 (rn_oa he580080 he580083)).trans he580080
                                  have he580115 : F580106 q579391 = .inr (4, [.int p579963, .ref q579965, .int p579964]) := (n580108 q579391 (rn_oa he580081 he580083)).trans he580081
                                  have he580116 : F580106 q579392 = .inr (20, [.int p579994, .int p579995, .int p579996, .int p579997, .int p579998, .int p579999, .int p580000]) := (n580108 q579392 (rn_oa he580082 he580083)).trans he580082
                                  have he580117 : F580106 (γ 9 5) = .inl (I .int, 2000, .inl f580109) := e580107
                                  have hs580118 : rStr γ [] F409904 F580106 := rStr_put hs580084 n580108 ht409935 (by decide)
                                  have kp580119 : F580106 q409905 = F409904 q409905 := (n580108 q409905 (rn_ty htq409905 ht409935 (by decide))).trans kp580085
                                  have kp580120 : F580106 (γ 9 3) = F409904 (γ 9 3) := (n580108 (γ 9 3) (rn_ty ht409933 ht409935 (by decide))).trans kp580086
                                  obtain ⟨z580121, hz580121⟩ : ∃ z : Int32, z = g579945 + Int32.ofInt 1 := ⟨_, rfl⟩
                                  have ez580121 : z580121.toInt = g579945.toInt + 1 := gI_inc hz580121 (by decide) bg579945' (by decide) (by decide)
                                  have bz580121 : gB z580121 1 1000001 := ⟨by omega, by omega⟩
                                  refine G_iinc (L' := [(5, .int z580121), (6, .ref q579392), (4, .ref q579381), (3, .int g579350), (2, .int g578175), (0, .ref q409905), (1, .ref q409906)]) z580121 1 dr_cX17_weigh_189 rfl hz580121.symm (Nat.le_of_ble_eq_true rfl) rfl ?_
                                  refine G_goto 74 dr_cX17_weigh_192 (by decide +kernel) ?_
                                  have hT580122 : RS D I P409903 F580106 γ el := RS_set hT580087 n580108 ht409935 (by decide) ⟨f580109, he580117⟩
                                  refine G_lv (L' := [(5, .int z580121), (4, .ref q579381), (3, .int g579350), (2, .int g578175), (0, .ref q409905), (1, .ref q409906)]) [0, 2, 3, 4, 5, 6] rfl ?_
                                  exact ih74_579950 F580106 z580121 (gB_w bz580121 (by decide) (by decide)) hT580122 hs580118 kp580119 kp580120 (fun k e1 ht => kt74_579951 k e1 (fun R c1 c2 c3 c4 c5 c6 c7 c8 c9 c10 c11 c12 c13 c14 c15 c16 c17 => c5 F579946 g579945 q579391 p579964 q579392 p579994 o580012 p579999 o580022 p579996 f580069 z580070 z580071 f580075 F580072 p580000 o580095 p579997 z580104 z580105 f580109 F580106 z580121 k e1 bg579945 hT579947 hs579948 x579949 x579950 fq579960 fq579971 fq579972 r579982 fq579983 r579990 fq579991 fq580006 bo580012 ht580013 r580015 fq580016 bo580022 ht580024 r580064 fq580065 fq580066 he580068 hz580070 hz580071 hf580075 n580074 he580083 fq580088 fq580089 bo580095 ht580097 r580101 fq580102 fq580103 he580083 hz580104 hz580105 hf580109 n580108 he580117 ez580121 (ht R c1 c2 c3 c4 c5 c6 c7 c8 c9 c10 c11 c12 c13 c14 c15 c16 c17))) (mz_up ez580121 (Int.le_trans bg579945'.2 (by decide)) hm74_579950)
                            · have r580123 : o580012.toInt ≠ 0 := gj_neq hc580014 (show Int32.toInt 0 = 0 by decide)
                              have bo580012' : gB o580012 1 1 := gB_t1 bo580012 r580123
                              refine G_aload_n 5 dr_cX17_weigh_131 rfl ?_
                              have fq580124 : fR (F579946 q409905) 5 = (γ 9 5) := by rw [he579958]; rfl
                              refine Gp_get 5 hm579959 he579958 dr_cX17_weigh_132 (gk_X17 D I) (Nat.le_of_ble_eq_true rfl) wr_7_79 rfl ?_
                              refine G_aload 0 dr_cX17_weigh_135 rfl ?_
                              have fq580125 : fI (F579946 q579392) 1 = p579995 := by rw [he579993]; rfl
                              refine Gp_get 1 hm579992 he579993 dr_cX17_weigh_137 (gk_X15 D I) (Nat.le_of_ble_eq_true rfl) wr_9_182 rfl ?_
                              refine G_dup2_11 dr_cX17_weigh_140 rfl rfl ?_
                              have hm580126 : (γ 9 5) ∈ P409903 := RS_m hT579947 ht409935 (by decide)
                              obtain ⟨f580128, he580127⟩ := show rk_17 I (F579946 (γ 9 5)) from RS_o hT579947 ht409935
                              refine Gp_iald 0 hm580126 he580127 dr_cX17_weigh_141 rfl (gB_in bp579995 (by decide) (by decide)) (G_nam fun z580129 hz580129 => ?_)
                              have bz580129 : gB z580129 (-2147483648) 2147483647 := gB_any z580129
                              refine G_iload_n 3 dr_cX17_weigh_142 rfl ?_
                              refine G_iadd dr_cX17_weigh_143 (G_nam fun z580130 hz580130 => ?_)
                              have bz580130 : gB z580130 (-2147483648) 2147483647 := gB_any z580130
                              refine Gp_iast 0 hm580126 he580127 dr_cX17_weigh_144 rfl (gB_in bp579995 (by decide) (by decide)) (fun F580131 e580132 n580133 => ?_)
                              obtain ⟨f580134, hf580134⟩ : ∃ z, z = upd f580128 p579995.toNatClampNeg z580130 := ⟨_, rfl⟩
                              rw [← hf580134] at e580132
                              have he580135 : F580131 q409906 = .inr (18, [.ref q578188, .ref q578189, .int p578190, .int p578191]) := (n580133 q409906 (rn_oa he579953 he580127)).trans he579953
                              have he580136 : F580131 q578188 = .inr (4, [.int p579362, .ref q579364, .int p579363]) := (n580133 q578188 (rn_oa he579954 he580127)).trans he579954
                              have he580137 : F580131 q579364 = .inl (I (.object "java/lang/Object"), n579378, .inr (.inr (.inr (.inr f579379)))) := (n580133 q579364 (rn_ref_num he579955 he580127)).trans he579955
                              have he580138 : F580131 q579381 = .inr (17, [.ref q579391, .ref q579392, .int p579393, .int p579394]) := (n580133 q579381 (rn_oa he579956 he580127)).trans he579956
                              have he580139 : F580131 q409905 = .inr (22, [.ref (γ 9 0), .ref (γ 9 1), .ref (γ 9 2), .ref (γ 9 3), .ref (γ 9 4), .ref (γ 9 5), .ref (γ 9 6), .ref (γ 9 7), .ref (γ 9 8), .int p409913, .int p409914, .int p409915, .int p409916, .int p409917, .int p409918, .ref (γ 9 15), .ref (γ 9 16), .ref (γ 9 17), .ref (γ 9 18), .ref (γ 9 19), .ref (γ 9 20), .ref (γ 9 21), .ref (γ 9 22), .int p409919, .int p409920, .int p409921, .int p409922, .int p409923, .ref q409911, .ref (γ 9 29), .int p409924, .ref (γ 9 31), .int p409925, .int p409926, .int p409927, .ref q409912]) := (n580133 q409905 (rn_oa he579958 he580127)).trans he579958
                              have he580140 : F580131 q579391 = .inr (4, [.int p579963, .ref q579965, .int p579964]) := (n580133 q579391 (rn_oa he579962 he580127)).trans he579962
                              have he580141 : F580131 q579392 = .inr (20, [.int p579994, .int p579995, .int p579996, .int p579997, .int p579998, .int p579999, .int p580000]) := (n580133 q579392 (rn_oa he579993 he580127)).trans he579993
                              have he580142 : F580131 (γ 9 5) = .inl (I .int, 2000, .inl f580134) := e580132
                              have hs580143 : rStr γ [] F409904 F580131 := rStr_put hs579948 n580133 ht409935 (by decide)
                              have kp580144 : F580131 q409905 = F409904 q409905 := (n580133 q409905 (rn_ty htq409905 ht409935 (by decide))).trans x579949
                              have kp580145 : F580131 (γ 9 3) = F409904 (γ 9 3) := (n580133 (γ 9 3) (rn_ty ht409933 ht409935 (by decide))).trans x579950
                              refine G_aload 0 dr_cX17_weigh_145 rfl ?_
                              have hT580146 : RS D I P409903 F580131 γ el := RS_set hT579947 n580133 ht409935 (by decide) ⟨f580134, he580142⟩
                              have fq580147 : fI (F580131 q579392) 0 = p579994 := by rw [he580141]; rfl
                              have fq580148 : fI (F580131 q579392) 5 = p579999 := by rw [he580141]; rfl
                              refine Gw_callV (As := []) (gV_ok D I) (cp_1675_Row_usesA l hl0 D I P409903 F580131 q579392 p579994 p579995 p579996 p579997 p579998 p579999 p580000 hm579992 he580141 bp579994 bp579995 bp579998 bp579999 bp580000) dr_cX17_weigh_147 ⟨wr_10_192, wr_1_39, wr_10_195, by decide, rfl, (Nat.le_of_ble_eq_true rfl), (Nat.le_of_ble_eq_true rfl)⟩ wr_10_193 wr_10_194 hm579992 he580141 rfl (show 0 + 0 ≤ 0 by first | omega | decide) (show 0 + 0 ≤ 0 by first | omega | decide) (Nat.le_of_ble_eq_true rfl) (fun r580152 w580153 dc580149 ds580150 hp580151 => ?_) (fun _ _ _ _ _ z => z.elim)
                              obtain ⟨o580154, rfl, rfl, hdc, hds, bo580154, x580155, ht580156⟩ := hp580151
                              change G _ _ _ _ _ _ _ (.int o580154 :: _) _ _ _
                              refine G_widen (cs' := 0) (sl' := 0) (by omega) (by omega) ?_
                              refine G_if_eq 167 dr_cX17_weigh_150 (by decide +kernel) (fun hc580157 => ?_) (fun hc580157 => ?_)
                              · have r580158 : o580154.toInt = 0 := gj_eq hc580157 (show Int32.toInt 0 = 0 by decide)
                                have bo580154' : gB o580154 0 0 := gB_t0 r580158
                                refine G_aload 0 dr_cX17_weigh_167 rfl ?_
                                have fq580159 : fI (F580131 q579392) 6 = p580000 := by rw [he580141]; rfl
                                refine Gw_callV (As := []) (gV_ok D I) (cp_1699_Row_usesB l hl0 D I P409903 F580131 q579392 p579994 p579995 p579996 p579997 p579998 p579999 p580000 hm579992 he580141 bp579994 bp579995 bp579998 bp579999 bp580000) dr_cX17_weigh_169 ⟨wr_10_196, wr_1_39, wr_10_199, by decide, rfl, (Nat.le_of_ble_eq_true rfl), (Nat.le_of_ble_eq_true rfl)⟩ wr_10_197 wr_10_198 hm579992 he580141 rfl (show 0 + 0 ≤ 0 by first | omega | decide) (show 0 + 0 ≤ 0 by first | omega | decide) (Nat.le_of_ble_eq_true rfl) (fun r580163 w580164 dc580160 ds580161 hp580162 => ?_) (fun _ _ _ _ _ z => z.elim)
                                obtain ⟨o580165, rfl, rfl, hdc, hds, bo580165, x580166, ht580167⟩ := hp580162
                                change G _ _ _ _ _ _ _ (.int o580165 :: _) _ _ _
                                refine G_widen (cs' := 0) (sl' := 0) (by omega) (by omega) ?_
                                refine G_if_eq 189 dr_cX17_weigh_172 (by decide +kernel) (fun hc580168 => ?_) (fun hc580168 => ?_)
                                · have r580169 : o580165.toInt = 0 := gj_eq hc580168 (show Int32.toInt 0 = 0 by decide)
                                  have bo580165' : gB o580165 0 0 := gB_t0 r580169
                                  obtain ⟨z580170, hz580170⟩ : ∃ z : Int32, z = g579945 + Int32.ofInt 1 := ⟨_, rfl⟩
                                  have ez580170 : z580170.toInt = g579945.toInt + 1 := gI_inc hz580170 (by decide) bg579945' (by decide) (by decide)
                                  have bz580170 : gB z580170 1 1000001 := ⟨by omega, by omega⟩
                                  refine G_iinc (L' := [(5, .int z580170), (6, .ref q579392), (4, .ref q579381), (3, .int g579350), (2, .int g578175), (0, .ref q409905), (1, .ref q409906)]) z580170 1 dr_cX17_weigh_189 rfl hz580170.symm (Nat.le_of_ble_eq_true rfl) rfl ?_
                                  refine G_goto 74 dr_cX17_weigh_192 (by decide +kernel) ?_
                                  refine G_lv (L' := [(5, .int z580170), (4, .ref q579381), (3, .int g579350), (2, .int g578175), (0, .ref q409905), (1, .ref q409906)]) [0, 2, 3, 4, 5, 6] rfl ?_
                                  exact ih74_579950 F580131 z580170 (gB_w bz580170 (by decide) (by decide)) hT580146 hs580143 kp580144 kp580145 (fun k e1 ht => kt74_579951 k e1 (fun R c1 c2 c3 c4 c5 c6 c7 c8 c9 c10 c11 c12 c13 c14 c15 c16 c17 => c6 F579946 g579945 q579391 p579964 q579392 p579994 o580012 p579995 f580128 z580129 z580130 f580134 F580131 p579999 o580154 p580000 o580165 z580170 k e1 bg579945 hT579947 hs579948 x579949 x579950 fq579960 fq579971 fq579972 r579982 fq579983 r579990 fq579991 fq580006 bo580012 ht580013 r580123 fq580124 fq580125 he580127 hz580129 hz580130 hf580134 n580133 he580142 fq580147 fq580148 bo580154 ht580156 r580158 fq580159 bo580165 ht580167 r580169 ez580170 (ht R c1 c2 c3 c4 c5 c6 c7 c8 c9 c10 c11 c12 c13 c14 c15 c16 c17))) (mz_up ez580170 (Int.le_trans bg579945'.2 (by decide)) hm74_579950)
                                · have r580171 : o580165.toInt ≠ 0 := gj_neq hc580168 (show Int32.toInt 0 = 0 by decide)
                                  have bo580165' : gB o580165 1 1 := gB_t1 bo580165 r580171
                                  refine G_aload_n 5 dr_cX17_weigh_175 rfl ?_
                                  have fq580172 : fR (F580131 q409905) 5 = (γ 9 5) := by rw [he580139]; rfl
                                  refine Gp_get 5 hm579959 he580139 dr_cX17_weigh_176 (gk_X17 D I) (Nat.le_of_ble_eq_true rfl) wr_7_79 rfl ?_
                                  refine G_aload 0 dr_cX17_weigh_179 rfl ?_
                                  have fq580173 : fI (F580131 q579392) 3 = p579997 := by rw [he580141]; rfl
                                  refine Gp_get 3 hm579992 he580141 dr_cX17_weigh_181 (gk_X15 D I) (Nat.le_of_ble_eq_true rfl) wr_9_190 rfl ?_
                                  refine G_dup2_11 dr_cX17_weigh_184 rfl rfl ?_
                                  refine Gp_iald 0 hm580126 he580142 dr_cX17_weigh_185 rfl (gB_inr (by omega) (by omega)) (G_nam fun z580174 hz580174 => ?_)
                                  have bz580174 : gB z580174 (-2147483648) 2147483647 := gB_any z580174
                                  refine G_iload_n 3 dr_cX17_weigh_186 rfl ?_
                                  refine G_iadd dr_cX17_weigh_187 (G_nam fun z580175 hz580175 => ?_)
                                  have bz580175 : gB z580175 (-2147483648) 2147483647 := gB_any z580175
                                  refine Gp_iast 0 hm580126 he580142 dr_cX17_weigh_188 rfl (gB_inr (by omega) (by omega)) (fun F580176 e580177 n580178 => ?_)
                                  obtain ⟨f580179, hf580179⟩ : ∃ z, z = upd f580134 p579997.toNatClampNeg z580175 := ⟨_, rfl⟩
                                  rw [← hf580179] at e580177
                                  have he580180 : F580176 q409906 = .inr (18, [.ref q578188, .ref q578189, .int p578190, .int p578191]) := (n580178 q409906 (rn_oa he580135 he580142)).trans he580135
                                  have he580181 : F580176 q578188 = .inr (4, [.int p579362, .ref q579364, .int p579363]) := (n580178 q578188 (rn_oa he580136 he580142)).trans he580136
                                  have he580182 : F580176 q579364 = .inl (I (.object "java/lang/Object"), n579378, .inr (.inr (.inr (.inr f579379)))) := (n580178 q579364 (rn_ref_num he580137 he580142)).trans he580137
                                  have he580183 : F580176 q579381 = .inr (17, [.ref q579391, .ref q579392, .int p579393, .int p579394]) := (n580178 q579381 (rn_oa he580138 he580142)).trans he580138
                                  have he580184 : F580176 q409905 = .inr (22, [.ref (γ 9 0), .ref (γ 9 1), .ref (γ 9 2), .ref (γ 9 3), .ref (γ 9 4), .ref (γ 9 5), .ref (γ 9 6), .ref (γ 9 7), .ref (γ 9 8), .int p409913, .int p409914, .int p409915, .int p409916, .int p409917, .int p409918, .ref (γ 9 15), .ref (γ 9 16), .ref (γ 9 17), .ref (γ 9 18), .ref (γ 9 19), .ref (γ 9 20), .ref (γ 9 21), .ref (γ 9 22), .int p409919, .int p409920, .int p409921, .int p409922, .int p409923, .ref q409911, .ref (γ 9 29), .int p409924, .ref (γ 9 31), .int p409925, .int p409926, .int p409927, .ref q409912]) := (n580178 q409905 (rn_oa he580139 he580142)).trans he580139
                                  have he580185 : F580176 q579391 = .inr (4, [.int p579963, .ref q579965, .int p579964]) := (n580178 q579391 (rn_oa he580140 he580142)).trans he580140
                                  have he580186 : F580176 q579392 = .inr (20, [.int p579994, .int p579995, .int p579996, .int p579997, .int p579998, .int p579999, .int p580000]) := (n580178 q579392 (rn_oa he580141 he580142)).trans he580141
                                  have he580187 : F580176 (γ 9 5) = .inl (I .int, 2000, .inl f580179) := e580177
                                  have hs580188 : rStr γ [] F409904 F580176 := rStr_put hs580143 n580178 ht409935 (by decide)
                                  have kp580189 : F580176 q409905 = F409904 q409905 := (n580178 q409905 (rn_ty htq409905 ht409935 (by decide))).trans kp580144
                                  have kp580190 : F580176 (γ 9 3) = F409904 (γ 9 3) := (n580178 (γ 9 3) (rn_ty ht409933 ht409935 (by decide))).trans kp580145
                                  obtain ⟨z580191, hz580191⟩ : ∃ z : Int32, z = g579945 + Int32.ofInt 1 := ⟨_, rfl⟩
                                  have ez580191 : z580191.toInt = g579945.toInt + 1 := gI_inc hz580191 (by decide) bg579945' (by decide) (by decide)
                                  have bz580191 : gB z580191 1 1000001 := ⟨by omega, by omega⟩
                                  refine G_iinc (L' := [(5, .int z580191), (6, .ref q579392), (4, .ref q579381), (3, .int g579350), (2, .int g578175), (0, .ref q409905), (1, .ref q409906)]) z580191 1 dr_cX17_weigh_189 rfl hz580191.symm (Nat.le_of_ble_eq_true rfl) rfl ?_
                                  refine G_goto 74 dr_cX17_weigh_192 (by decide +kernel) ?_
                                  have hT580192 : RS D I P409903 F580176 γ el := RS_set hT580146 n580178 ht409935 (by decide) ⟨f580179, he580187⟩
                                  refine G_lv (L' := [(5, .int z580191), (4, .ref q579381), (3, .int g579350), (2, .int g578175), (0, .ref q409905), (1, .ref q409906)]) [0, 2, 3, 4, 5, 6] rfl ?_
                                  exact ih74_579950 F580176 z580191 (gB_w bz580191 (by decide) (by decide)) hT580192 hs580188 kp580189 kp580190 (fun k e1 ht => kt74_579951 k e1 (fun R c1 c2 c3 c4 c5 c6 c7 c8 c9 c10 c11 c12 c13 c14 c15 c16 c17 => c7 F579946 g579945 q579391 p579964 q579392 p579994 o580012 p579995 f580128 z580129 z580130 f580134 F580131 p579999 o580154 p580000 o580165 p579997 z580174 z580175 f580179 F580176 z580191 k e1 bg579945 hT579947 hs579948 x579949 x579950 fq579960 fq579971 fq579972 r579982 fq579983 r579990 fq579991 fq580006 bo580012 ht580013 r580123 fq580124 fq580125 he580127 hz580129 hz580130 hf580134 n580133 he580142 fq580147 fq580148 bo580154 ht580156 r580158 fq580159 bo580165 ht580167 r580171 fq580172 fq580173 he580142 hz580174 hz580175 hf580179 n580178 he580187 ez580191 (ht R c1 c2 c3 c4 c5 c6 c7 c8 c9 c10 c11 c12 c13 c14 c15 c16 c17))) (mz_up ez580191 (Int.le_trans bg579945'.2 (by decide)) hm74_579950)
                              · have r580193 : o580154.toInt ≠ 0 := gj_neq hc580157 (show Int32.toInt 0 = 0 by decide)
                                have bo580154' : gB o580154 1 1 := gB_t1 bo580154 r580193
                                refine G_aload_n 5 dr_cX17_weigh_153 rfl ?_
                                have fq580194 : fR (F580131 q409905) 5 = (γ 9 5) := by rw [he580139]; rfl
                                refine Gp_get 5 hm579959 he580139 dr_cX17_weigh_154 (gk_X17 D I) (Nat.le_of_ble_eq_true rfl) wr_7_79 rfl ?_
                                refine G_aload 0 dr_cX17_weigh_157 rfl ?_
                                have fq580195 : fI (F580131 q579392) 2 = p579996 := by rw [he580141]; rfl
                                refine Gp_get 2 hm579992 he580141 dr_cX17_weigh_159 (gk_X15 D I) (Nat.le_of_ble_eq_true rfl) wr_9_186 rfl ?_
                                refine G_dup2_11 dr_cX17_weigh_162 rfl rfl ?_
                                refine Gp_iald 0 hm580126 he580142 dr_cX17_weigh_163 rfl (gB_inr (by omega) (by omega)) (G_nam fun z580196 hz580196 => ?_)
                                have bz580196 : gB z580196 (-2147483648) 2147483647 := gB_any z580196
                                refine G_iload_n 3 dr_cX17_weigh_164 rfl ?_
                                refine G_iadd dr_cX17_weigh_165 (G_nam fun z580197 hz580197 => ?_)
                                have bz580197 : gB z580197 (-2147483648) 2147483647 := gB_any z580197
                                refine Gp_iast 0 hm580126 he580142 dr_cX17_weigh_166 rfl (gB_inr (by omega) (by omega)) (fun F580198 e580199 n580200 => ?_)
                                obtain ⟨f580201, hf580201⟩ : ∃ z, z = upd f580134 p579996.toNatClampNeg z580197 := ⟨_, rfl⟩
                                rw [← hf580201] at e580199
                                have he580202 : F580198 q409906 = .inr (18, [.ref q578188, .ref q578189, .int p578190, .int p578191]) := (n580200 q409906 (rn_oa he580135 he580142)).trans he580135
                                have he580203 : F580198 q578188 = .inr (4, [.int p579362, .ref q579364, .int p579363]) := (n580200 q578188 (rn_oa he580136 he580142)).trans he580136
                                have he580204 : F580198 q579364 = .inl (I (.object "java/lang/Object"), n579378, .inr (.inr (.inr (.inr f579379)))) := (n580200 q579364 (rn_ref_num he580137 he580142)).trans he580137
                                have he580205 : F580198 q579381 = .inr (17, [.ref q579391, .ref q579392, .int p579393, .int p579394]) := (n580200 q579381 (rn_oa he580138 he580142)).trans he580138
                                have he580206 : F580198 q409905 = .inr (22, [.ref (γ 9 0), .ref (γ 9 1), .ref (γ 9 2), .ref (γ 9 3), .ref (γ 9 4), .ref (γ 9 5), .ref (γ 9 6), .ref (γ 9 7), .ref (γ 9 8), .int p409913, .int p409914, .int p409915, .int p409916, .int p409917, .int p409918, .ref (γ 9 15), .ref (γ 9 16), .ref (γ 9 17), .ref (γ 9 18), .ref (γ 9 19), .ref (γ 9 20), .ref (γ 9 21), .ref (γ 9 22), .int p409919, .int p409920, .int p409921, .int p409922, .int p409923, .ref q409911, .ref (γ 9 29), .int p409924, .ref (γ 9 31), .int p409925, .int p409926, .int p409927, .ref q409912]) := (n580200 q409905 (rn_oa he580139 he580142)).trans he580139
                                have he580207 : F580198 q579391 = .inr (4, [.int p579963, .ref q579965, .int p579964]) := (n580200 q579391 (rn_oa he580140 he580142)).trans he580140
                                have he580208 : F580198 q579392 = .inr (20, [.int p579994, .int p579995, .int p579996, .int p579997, .int p579998, .int p579999, .int p580000]) := (n580200 q579392 (rn_oa he580141 he580142)).trans he580141
                                have he580209 : F580198 (γ 9 5) = .inl (I .int, 2000, .inl f580201) := e580199
                                have hs580210 : rStr γ [] F409904 F580198 := rStr_put hs580143 n580200 ht409935 (by decide)
                                have kp580211 : F580198 q409905 = F409904 q409905 := (n580200 q409905 (rn_ty htq409905 ht409935 (by decide))).trans kp580144
                                have kp580212 : F580198 (γ 9 3) = F409904 (γ 9 3) := (n580200 (γ 9 3) (rn_ty ht409933 ht409935 (by decide))).trans kp580145
                                refine G_aload 0 dr_cX17_weigh_167 rfl ?_
                                have hT580213 : RS D I P409903 F580198 γ el := RS_set hT580146 n580200 ht409935 (by decide) ⟨f580201, he580209⟩
                                have fq580214 : fI (F580198 q579392) 0 = p579994 := by rw [he580208]; rfl
                                have fq580215 : fI (F580198 q579392) 6 = p580000 := by rw [he580208]; rfl
                                refine Gw_callV (As := []) (gV_ok D I) (cp_1699_Row_usesB l hl0 D I P409903 F580198 q579392 p579994 p579995 p579996 p579997 p579998 p579999 p580000 hm579992 he580208 bp579994 bp579995 bp579998 bp579999 bp580000) dr_cX17_weigh_169 ⟨wr_10_196, wr_1_39, wr_10_199, by decide, rfl, (Nat.le_of_ble_eq_true rfl), (Nat.le_of_ble_eq_true rfl)⟩ wr_10_197 wr_10_198 hm579992 he580208 rfl (show 0 + 0 ≤ 0 by first | omega | decide) (show 0 + 0 ≤ 0 by first | omega | decide) (Nat.le_of_ble_eq_true rfl) (fun r580219 w580220 dc580216 ds580217 hp580218 => ?_) (fun _ _ _ _ _ z => z.elim)
                                obtain ⟨o580221, rfl, rfl, hdc, hds, bo580221, x580222, ht580223⟩ := hp580218
                                change G _ _ _ _ _ _ _ (.int o580221 :: _) _ _ _
                                refine G_widen (cs' := 0) (sl' := 0) (by omega) (by omega) ?_
                                refine G_if_eq 189 dr_cX17_weigh_172 (by decide +kernel) (fun hc580224 => ?_) (fun hc580224 => ?_)
                                · have r580225 : o580221.toInt = 0 := gj_eq hc580224 (show Int32.toInt 0 = 0 by decide)
                                  have bo580221' : gB o580221 0 0 := gB_t0 r580225
                                  obtain ⟨z580226, hz580226⟩ : ∃ z : Int32, z = g579945 + Int32.ofInt 1 := ⟨_, rfl⟩
                                  have ez580226 : z580226.toInt = g579945.toInt + 1 := gI_inc hz580226 (by decide) bg579945' (by decide) (by decide)
                                  have bz580226 : gB z580226 1 1000001 := ⟨by omega, by omega⟩
                                  refine G_iinc (L' := [(5, .int z580226), (6, .ref q579392), (4, .ref q579381), (3, .int g579350), (2, .int g578175), (0, .ref q409905), (1, .ref q409906)]) z580226 1 dr_cX17_weigh_189 rfl hz580226.symm (Nat.le_of_ble_eq_true rfl) rfl ?_
                                  refine G_goto 74 dr_cX17_weigh_192 (by decide +kernel) ?_
                                  refine G_lv (L' := [(5, .int z580226), (4, .ref q579381), (3, .int g579350), (2, .int g578175), (0, .ref q409905), (1, .ref q409906)]) [0, 2, 3, 4, 5, 6] rfl ?_
                                  exact ih74_579950 F580198 z580226 (gB_w bz580226 (by decide) (by decide)) hT580213 hs580210 kp580211 kp580212 (fun k e1 ht => kt74_579951 k e1 (fun R c1 c2 c3 c4 c5 c6 c7 c8 c9 c10 c11 c12 c13 c14 c15 c16 c17 => c8 F579946 g579945 q579391 p579964 q579392 p579994 o580012 p579995 f580128 z580129 z580130 f580134 F580131 p579999 o580154 p579996 z580196 z580197 f580201 F580198 p580000 o580221 z580226 k e1 bg579945 hT579947 hs579948 x579949 x579950 fq579960 fq579971 fq579972 r579982 fq579983 r579990 fq579991 fq580006 bo580012 ht580013 r580123 fq580124 fq580125 he580127 hz580129 hz580130 hf580134 n580133 he580142 fq580147 fq580148 bo580154 ht580156 r580193 fq580194 fq580195 he580142 hz580196 hz580197 hf580201 n580200 he580209 fq580214 fq580215 bo580221 ht580223 r580225 ez580226 (ht R c1 c2 c3 c4 c5 c6 c7 c8 c9 c10 c11 c12 c13 c14 c15 c16 c17))) (mz_up ez580226 (Int.le_trans bg579945'.2 (by decide)) hm74_579950)
                                · have r580227 : o580221.toInt ≠ 0 := gj_neq hc580224 (show Int32.toInt 0 = 0 by decide)
                                  have bo580221' : gB o580221 1 1 := gB_t1 bo580221 r580227
                                  refine G_aload_n 5 dr_cX17_weigh_175 rfl ?_
                                  have fq580228 : fR (F580198 q409905) 5 = (γ 9 5) := by rw [he580206]; rfl
                                  refine Gp_get 5 hm579959 he580206 dr_cX17_weigh_176 (gk_X17 D I) (Nat.le_of_ble_eq_true rfl) wr_7_79 rfl ?_
                                  refine G_aload 0 dr_cX17_weigh_179 rfl ?_
                                  have fq580229 : fI (F580198 q579392) 3 = p579997 := by rw [he580208]; rfl
                                  refine Gp_get 3 hm579992 he580208 dr_cX17_weigh_181 (gk_X15 D I) (Nat.le_of_ble_eq_true rfl) wr_9_190 rfl ?_
                                  refine G_dup2_11 dr_cX17_weigh_184 rfl rfl ?_
                                  refine Gp_iald 0 hm580126 he580209 dr_cX17_weigh_185 rfl (gB_inr (by omega) (by omega)) (G_nam fun z580230 hz580230 => ?_)
                                  have bz580230 : gB z580230 (-2147483648) 2147483647 := gB_any z580230
                                  refine G_iload_n 3 dr_cX17_weigh_186 rfl ?_
                                  refine G_iadd dr_cX17_weigh_187 (G_nam fun z580231 hz580231 => ?_)
                                  have bz580231 : gB z580231 (-2147483648) 2147483647 := gB_any z580231
                                  refine Gp_iast 0 hm580126 he580209 dr_cX17_weigh_188 rfl (gB_inr (by omega) (by omega)) (fun F580232 e580233 n580234 => ?_)
                                  obtain ⟨f580235, hf580235⟩ : ∃ z, z = upd f580201 p579997.toNatClampNeg z580231 := ⟨_, rfl⟩
                                  rw [← hf580235] at e580233
                                  have he580236 : F580232 q409906 = .inr (18, [.ref q578188, .ref q578189, .int p578190, .int p578191]) := (n580234 q409906 (rn_oa he580202 he580209)).trans he580202
                                  have he580237 : F580232 q578188 = .inr (4, [.int p579362, .ref q579364, .int p579363]) := (n580234 q578188 (rn_oa he580203 he580209)).trans he580203
                                  have he580238 : F580232 q579364 = .inl (I (.object "java/lang/Object"), n579378, .inr (.inr (.inr (.inr f579379)))) := (n580234 q579364 (rn_ref_num he580204 he580209)).trans he580204
                                  have he580239 : F580232 q579381 = .inr (17, [.ref q579391, .ref q579392, .int p579393, .int p579394]) := (n580234 q579381 (rn_oa he580205 he580209)).trans he580205
                                  have he580240 : F580232 q409905 = .inr (22, [.ref (γ 9 0), .ref (γ 9 1), .ref (γ 9 2), .ref (γ 9 3), .ref (γ 9 4), .ref (γ 9 5), .ref (γ 9 6), .ref (γ 9 7), .ref (γ 9 8), .int p409913, .int p409914, .int p409915, .int p409916, .int p409917, .int p409918, .ref (γ 9 15), .ref (γ 9 16), .ref (γ 9 17), .ref (γ 9 18), .ref (γ 9 19), .ref (γ 9 20), .ref (γ 9 21), .ref (γ 9 22), .int p409919, .int p409920, .int p409921, .int p409922, .int p409923, .ref q409911, .ref (γ 9 29), .int p409924, .ref (γ 9 31), .int p409925, .int p409926, .int p409927, .ref q409912]) := (n580234 q409905 (rn_oa he580206 he580209)).trans he580206
                                  have he580241 : F580232 q579391 = .inr (4, [.int p579963, .ref q579965, .int p579964]) := (n580234 q579391 (rn_oa he580207 he580209)).trans he580207
                                  have he580242 : F580232 q579392 = .inr (20, [.int p579994, .int p579995, .int p579996, .int p579997, .int p579998, .int p579999, .int p580000]) := (n580234 q579392 (rn_oa he580208 he580209)).trans he580208
                                  have he580243 : F580232 (γ 9 5) = .inl (I .int, 2000, .inl f580235) := e580233
                                  have hs580244 : rStr γ [] F409904 F580232 := rStr_put hs580210 n580234 ht409935 (by decide)
                                  have kp580245 : F580232 q409905 = F409904 q409905 := (n580234 q409905 (rn_ty htq409905 ht409935 (by decide))).trans kp580211
                                  have kp580246 : F580232 (γ 9 3) = F409904 (γ 9 3) := (n580234 (γ 9 3) (rn_ty ht409933 ht409935 (by decide))).trans kp580212
                                  obtain ⟨z580247, hz580247⟩ : ∃ z : Int32, z = g579945 + Int32.ofInt 1 := ⟨_, rfl⟩
                                  have ez580247 : z580247.toInt = g579945.toInt + 1 := gI_inc hz580247 (by decide) bg579945' (by decide) (by decide)
                                  have bz580247 : gB z580247 1 1000001 := ⟨by omega, by omega⟩
                                  refine G_iinc (L' := [(5, .int z580247), (6, .ref q579392), (4, .ref q579381), (3, .int g579350), (2, .int g578175), (0, .ref q409905), (1, .ref q409906)]) z580247 1 dr_cX17_weigh_189 rfl hz580247.symm (Nat.le_of_ble_eq_true rfl) rfl ?_
                                  refine G_goto 74 dr_cX17_weigh_192 (by decide +kernel) ?_
                                  have hT580248 : RS D I P409903 F580232 γ el := RS_set hT580213 n580234 ht409935 (by decide) ⟨f580235, he580243⟩
                                  refine G_lv (L' := [(5, .int z580247), (4, .ref q579381), (3, .int g579350), (2, .int g578175), (0, .ref q409905), (1, .ref q409906)]) [0, 2, 3, 4, 5, 6] rfl ?_
                                  exact ih74_579950 F580232 z580247 (gB_w bz580247 (by decide) (by decide)) hT580248 hs580244 kp580245 kp580246 (fun k e1 ht => kt74_579951 k e1 (fun R c1 c2 c3 c4 c5 c6 c7 c8 c9 c10 c11 c12 c13 c14 c15 c16 c17 => c9 F579946 g579945 q579391 p579964 q579392 p579994 o580012 p579995 f580128 z580129 z580130 f580134 F580131 p579999 o580154 p579996 z580196 z580197 f580201 F580198 p580000 o580221 p579997 z580230 z580231 f580235 F580232 z580247 k e1 bg579945 hT579947 hs579948 x579949 x579950 fq579960 fq579971 fq579972 r579982 fq579983 r579990 fq579991 fq580006 bo580012 ht580013 r580123 fq580124 fq580125 he580127 hz580129 hz580130 hf580134 n580133 he580142 fq580147 fq580148 bo580154 ht580156 r580193 fq580194 fq580195 he580142 hz580196 hz580197 hf580201 n580200 he580209 fq580214 fq580215 bo580221 ht580223 r580227 fq580228 fq580229 he580209 hz580230 hz580231 hf580235 n580234 he580243 ez580247 (ht R c1 c2 c3 c4 c5 c6 c7 c8 c9 c10 c11 c12 c13 c14 c15 c16 c17))) (mz_up ez580247 (Int.le_trans bg579945'.2 (by decide)) hm74_579950)
                          · have r580249 : g579945.toInt < p579964.toInt := gC_nle hc579989
                            have bg579945'' : gB g579945 0 999999 := ⟨by omega, by omega⟩
                            have bp579964' : gB p579964 1 1000000 := ⟨by omega, by omega⟩
                            refine G_aload 1 dr_cX17_weigh_100 rfl ?_
                            refine Gp_get 0 hm579389 he579956 dr_cX17_weigh_102 (gk_X12 D I) (Nat.le_of_ble_eq_true rfl) wr_9_220 rfl ?_
                            refine G_iload 0 dr_cX17_weigh_105 rfl ?_
                            obtain ⟨r580250, r580251, n580258, f580259, r580252, r580253, r580254, r580255, r580256, r580257⟩ := rLC_n r579968 (by omega)
                            have hm580260 : q579965 ∈ P409903 := RS_m hT579947 r580250 (by decide)
                            obtain ⟨q580261, hx580262⟩ : ∃ x, x = el q579391 g579945.toInt.toNat := ⟨_, rfl⟩
                            have hx580263 : f580259 g579945.toNatClampNeg = some q580261 := (r580256 _ (show g579945.toInt.toNat < γ 2 q579391 by omega)).trans (by rw [hx580262])
                            have ht580264 : rKd γ q580261 1 := by rw [hx580262]; exact (r579969 _ (show g579945.toInt.toNat < γ 2 q579391 by omega)).1
                            have ht580265 : rFm γ q580261 q579391 := by rw [hx580262]; exact (r579969 _ (show g579945.toInt.toNat < γ 2 q579391 by omega)).2.1
                            refine Gw_callV (As := [.int g579945]) (gV_ok D I) (cp_22_ArrayList_get l hl0 D I P409903 F579946 q579391 q579965 g579945 p579963 p579964 f580259 n580258 q580261 hm579961 hm580260 he579962 r580252 (gB_w bg579945'' (by decide) (by decide)) (gB_w bp579964' (by decide) (by decide)) (by omega) (by omega) (by assumption) (by omega)) dr_cX17_weigh_107 ⟨wr_10_201, wr_1_18, wr_10_65, by decide, rfl, (Nat.le_of_ble_eq_true rfl), (Nat.le_of_ble_eq_true rfl)⟩ wr_10_63 wr_10_64 hm579961 he579962 rfl (show 0 + 0 ≤ 0 by first | omega | decide) (show 0 + 0 ≤ 0 by first | omega | decide) (Nat.le_of_ble_eq_true rfl) (fun r580269 w580270 dc580266 ds580267 hp580268 => ?_) (fun _ _ _ _ _ z => z.elim)
                            obtain ⟨rfl, rfl, hdc, hds, ht580271⟩ := hp580268
                            change G _ _ _ _ _ _ _ (.ref q580261 :: _) _ _ _
                            refine G_widen (cs' := 0) (sl' := 0) (by omega) (by omega) ?_
                            have hm580272 : q580261 ∈ P409903 := RS_m hT579947 ht580264 (by decide)
                            obtain ⟨p580274, p580275, p580276, p580277, p580278, p580279, p580280, he580273, bp580274, bp580275, bp580278, bp580279, bp580280, r580281, r580282, r580283, r580284, r580285⟩ := show rk_1 γ q580261 (F579946 q580261) from RS_o hT579947 ht580264
                            have bp580276 := gB_any p580276
                            have bp580277 := gB_any p580277
                            refine Gp_cast hm580272 he580273 rfl dr_cX17_weigh_110 wr_10_202 (gr_cast 1 rfl) ?_
                            refine G_goto 121 dr_cX17_weigh_113 (by decide +kernel) ?_
                            refine G_astore (L' := [(6, .ref q580261), (5, .int g579945), (4, .ref q579381), (3, .int g579350), (2, .int g578175), (0, .ref q409905), (1, .ref q409906)]) dr_cX17_weigh_121 (Nat.le_of_ble_eq_true rfl) rfl ?_
                            refine G_aload 0 dr_cX17_weigh_123 rfl ?_
                            have fq580286 : fI (F579946 q580261) 0 = p580274 := by rw [he580273]; rfl
                            refine Gw_callV (As := []) (gV_ok D I) (cp_1660_Row_sets l hl0 D I P409903 F579946 q580261 p580274 p580275 p580276 p580277 p580278 p580279 p580280 hm580272 he580273 bp580274 bp580275 bp580278 bp580279 bp580280) dr_cX17_weigh_125 ⟨wr_10_181, wr_1_39, wr_10_184, by decide, rfl, (Nat.le_of_ble_eq_true rfl), (Nat.le_of_ble_eq_true rfl)⟩ wr_10_182 wr_10_183 hm580272 he580273 rfl (show 0 + 0 ≤ 0 by first | omega | decide) (show 0 + 0 ≤ 0 by first | omega | decide) (Nat.le_of_ble_eq_true rfl) (fun r580290 w580291 dc580287 ds580288 hp580289 => ?_) (fun _ _ _ _ _ z => z.elim)
                            obtain ⟨o580292, rfl, rfl, hdc, hds, bo580292, ht580293⟩ := hp580289
                            change G _ _ _ _ _ _ _ (.int o580292 :: _) _ _ _
                            refine G_widen (cs' := 0) (sl' := 0) (by omega) (by omega) ?_
                            refine G_if_eq 145 dr_cX17_weigh_128 (by decide +kernel) (fun hc580294 => ?_) (fun hc580294 => ?_)
                            · have r580295 : o580292.toInt = 0 := gj_eq hc580294 (show Int32.toInt 0 = 0 by decide)
                              have bo580292' : gB o580292 0 0 := gB_t0 r580295
                              refine G_aload 0 dr_cX17_weigh_145 rfl ?_
                              have fq580296 : fI (F579946 q580261) 5 = p580279 := by rw [he580273]; rfl
                              refine Gw_callV (As := []) (gV_ok D I) (cp_1675_Row_usesA l hl0 D I P409903 F579946 q580261 p580274 p580275 p580276 p580277 p580278 p580279 p580280 hm580272 he580273 bp580274 bp580275 bp580278 bp580279 bp580280) dr_cX17_weigh_147 ⟨wr_10_192, wr_1_39, wr_10_195, by decide, rfl, (Nat.le_of_ble_eq_true rfl), (Nat.le_of_ble_eq_true rfl)⟩ wr_10_193 wr_10_194 hm580272 he580273 rfl (show 0 + 0 ≤ 0 by first | omega | decide) (show 0 + 0 ≤ 0 by first | omega | decide) (Nat.le_of_ble_eq_true rfl) (fun r580300 w580301 dc580297 ds580298 hp580299 => ?_) (fun _ _ _ _ _ z => z.elim)
                              obtain ⟨o580302, rfl, rfl, hdc, hds, bo580302, x580303, ht580304⟩ := hp580299
                              change G _ _ _ _ _ _ _ (.int o580302 :: _) _ _ _
                              refine G_widen (cs' := 0) (sl' := 0) (by omega) (by omega) ?_
                              refine G_if_eq 167 dr_cX17_weigh_150 (by decide +kernel) (fun hc580305 => ?_) (fun hc580305 => ?_)
                              · have r580306 : o580302.toInt = 0 := gj_eq hc580305 (show Int32.toInt 0 = 0 by decide)
                                have bo580302' : gB o580302 0 0 := gB_t0 r580306
                                refine G_aload 0 dr_cX17_weigh_167 rfl ?_
                                have fq580307 : fI (F579946 q580261) 6 = p580280 := by rw [he580273]; rfl
                                refine Gw_callV (As := []) (gV_ok D I) (cp_1699_Row_usesB l hl0 D I P409903 F579946 q580261 p580274 p580275 p580276 p580277 p580278 p580279 p580280 hm580272 he580273 bp580274 bp580275 bp580278 bp580279 bp580280) dr_cX17_weigh_169 ⟨wr_10_196, wr_1_39, wr_10_199, by decide, rfl, (Nat.le_of_ble_eq_true rfl), (Nat.le_of_ble_eq_true rfl)⟩ wr_10_197 wr_10_198 hm580272 he580273 rfl (show 0 + 0 ≤ 0 by first | omega | decide) (show 0 + 0 ≤ 0 by first | omega | decide) (Nat.le_of_ble_eq_true rfl) (fun r580311 w580312 dc580308 ds580309 hp580310 => ?_) (fun _ _ _ _ _ z => z.elim)
                                obtain ⟨o580313, rfl, rfl, hdc, hds, bo580313, x580314, ht580315⟩ := hp580310
                                change G _ _ _ _ _ _ _ (.int o580313 :: _) _ _ _
                                refine G_widen (cs' := 0) (sl' := 0) (by omega) (by omega) ?_
                                refine G_if_eq 189 dr_cX17_weigh_172 (by decide +kernel) (fun hc580316 => ?_) (fun hc580316 => ?_)
                                · have r580317 : o580313.toInt = 0 := gj_eq hc580316 (show Int32.toInt 0 = 0 by decide)
                                  have bo580313' : gB o580313 0 0 := gB_t0 r580317
                                  obtain ⟨z580318, hz580318⟩ : ∃ z : Int32, z = g579945 + Int32.ofInt 1 := ⟨_, rfl⟩
                                  have ez580318 : z580318.toInt = g579945.toInt + 1 := gI_inc hz580318 (by decide) bg579945'' (by decide) (by decide)
                                  have bz580318 : gB z580318 1 1000000 := ⟨by omega, by omega⟩
                                  refine G_iinc (L' := [(5, .int z580318), (6, .ref q580261), (4, .ref q579381), (3, .int g579350), (2, .int g578175), (0, .ref q409905), (1, .ref q409906)]) z580318 1 dr_cX17_weigh_189 rfl hz580318.symm (Nat.le_of_ble_eq_true rfl) rfl ?_
                                  refine G_goto 74 dr_cX17_weigh_192 (by decide +kernel) ?_
                                  refine G_lv (L' := [(5, .int z580318), (4, .ref q579381), (3, .int g579350), (2, .int g578175), (0, .ref q409905), (1, .ref q409906)]) [0, 2, 3, 4, 5, 6] rfl ?_
                                  exact ih74_579950 F579946 z580318 (gB_w bz580318 (by decide) (by decide)) hT579947 hs579948 x579949 x579950 (fun k e1 ht => kt74_579951 k e1 (fun R c1 c2 c3 c4 c5 c6 c7 c8 c9 c10 c11 c12 c13 c14 c15 c16 c17 => c10 F579946 g579945 q579391 p579964 q580261 p580274 o580292 p580279 o580302 p580280 o580313 z580318 k e1 bg579945 hT579947 hs579948 x579949 x579950 fq579960 fq579971 fq579972 r579982 fq579983 r580249 hx580262 ht580271 fq580286 bo580292 ht580293 r580295 fq580296 bo580302 ht580304 r580306 fq580307 bo580313 ht580315 r580317 ez580318 (ht R c1 c2 c3 c4 c5 c6 c7 c8 c9 c10 c11 c12 c13 c14 c15 c16 c17))) (mz_up ez580318 (Int.le_trans bg579945''.2 (by decide)) hm74_579950)
                                · have r580319 : o580313.toInt ≠ 0 := gj_neq hc580316 (show Int32.toInt 0 = 0 by decide)
                                  have bo580313' : gB o580313 1 1 := gB_t1 bo580313 r580319
                                  refine G_aload_n 5 dr_cX17_weigh_175 rfl ?_
                                  have fq580320 : fR (F579946 q409905) 5 = (γ 9 5) := by rw [he579958]; rfl
                                  refine Gp_get 5 hm579959 he579958 dr_cX17_weigh_176 (gk_X17 D I) (Nat.le_of_ble_eq_true rfl) wr_7_79 rfl ?_
                                  refine G_aload 0 dr_cX17_weigh_179 rfl ?_
                                  have fq580321 : fI (F579946 q580261) 3 = p580277 := by rw [he580273]; rfl
                                  refine Gp_get 3 hm580272 he580273 dr_cX17_weigh_181 (gk_X15 D I) (Nat.le_of_ble_eq_true rfl) wr_9_190 rfl ?_
                                  refine G_dup2_11 dr_cX17_weigh_184 rfl rfl ?_
                                  have hm580322 : (γ 9 5) ∈ P409903 := RS_m hT579947 ht409935 (by decide)
                                  obtain ⟨f580324, he580323⟩ := show rk_17 I (F579946 (γ 9 5)) from RS_o hT579947 ht409935
                                  refine Gp_iald 0 hm580322 he580323 dr_cX17_weigh_185 rfl (gB_inr (by omega) (by omega)) (G_nam fun z580325 hz580325 => ?_)
                                  have bz580325 : gB z580325 (-2147483648) 2147483647 := gB_any z580325
                                  refine G_iload_n 3 dr_cX17_weigh_186 rfl ?_
                                  refine G_iadd dr_cX17_weigh_187 (G_nam fun z580326 hz580326 => ?_)
                                  have bz580326 : gB z580326 (-2147483648) 2147483647 := gB_any z580326
                                  refine Gp_iast 0 hm580322 he580323 dr_cX17_weigh_188 rfl (gB_inr (by omega) (by omega)) (fun F580327 e580328 n580329 => ?_)
                                  obtain ⟨f580330, hf580330⟩ : ∃ z, z = upd f580324 p580277.toNatClampNeg z580326 := ⟨_, rfl⟩
                                  rw [← hf580330] at e580328
                                  have he580331 : F580327 q409906 = .inr (18, [.ref q578188, .ref q578189, .int p578190, .int p578191]) := (n580329 q409906 (rn_oa he579953 he580323)).trans he579953
                                  have he580332 : F580327 q578188 = .inr (4, [.int p579362, .ref q579364, .int p579363]) := (n580329 q578188 (rn_oa he579954 he580323)).trans he579954
                                  have he580333 : F580327 q579364 = .inl (I (.object "java/lang/Object"), n579378, .inr (.inr (.inr (.inr f579379)))) := (n580329 q579364 (rn_ref_num he579955 he580323)).trans he579955
                                  have he580334 : F580327 q579381 = .inr (17, [.ref q579391, .ref q579392, .int p579393, .int p579394]) := (n580329 q579381 (rn_oa he579956 he580323)).trans he579956
                                  have he580335 : F580327 q409905 = .inr (22, [.ref (γ 9 0), .ref (γ 9 1), .ref (γ 9 2), .ref (γ 9 3), .ref (γ 9 4), .ref (γ 9 5), .ref (γ 9 6), .ref (γ 9 7), .ref (γ 9 8), .int p409913, .int p409914, .int p409915, .int p409916, .int p409917, .int p409918, .ref (γ 9 15), .ref (γ 9 16), .ref (γ 9 17), .ref (γ 9 18), .ref (γ 9 19), .ref (γ 9 20), .ref (γ 9 21), .ref (γ 9 22), .int p409919, .int p409920, .int p409921, .int p409922, .int p409923, .ref q409911, .ref (γ 9 29), .int p409924, .ref (γ 9 31), .int p409925, .int p409926, .int p409927, .ref q409912]) := (n580329 q409905 (rn_oa he579958 he580323)).trans he579958
                                  have he580336 : F580327 q579391 = .inr (4, [.int p579963, .ref q579965, .int p579964]) := (n580329 q579391 (rn_oa he579962 he580323)).trans he579962
                                  have he580337 : F580327 q579965 = .inl (I (.object "java/lang/Object"), n580258, .inr (.inr (.inr (.inr f580259)))) := (n580329 q579965 (rn_ref_num r580252 he580323)).trans r580252
                                  have he580338 : F580327 q580261 = .inr (20, [.int p580274, .int p580275, .int p580276, .int p580277, .int p580278, .int p580279, .int p580280]) := (n580329 q580261 (rn_oa he580273 he580323)).trans he580273
                                  have he580339 : F580327 (γ 9 5) = .inl (I .int, 2000, .inl f580330) := e580328
                                  have hs580340 : rStr γ [] F409904 F580327 := rStr_put hs579948 n580329 ht409935 (by decide)
                                  have kp580341 : F580327 q409905 = F409904 q409905 := (n580329 q409905 (rn_ty htq409905 ht409935 (by decide))).trans x579949
                                  have kp580342 : F580327 (γ 9 3) = F409904 (γ 9 3) := (n580329 (γ 9 3) (rn_ty ht409933 ht409935 (by decide))).trans x579950
                                  obtain ⟨z580343, hz580343⟩ : ∃ z : Int32, z = g579945 + Int32.ofInt 1 := ⟨_, rfl⟩
                                  have ez580343 : z580343.toInt = g579945.toInt + 1 := gI_inc hz580343 (by decide) bg579945'' (by decide) (by decide)
                                  have bz580343 : gB z580343 1 1000000 := ⟨by omega, by omega⟩
                                  refine G_iinc (L' := [(5, .int z580343), (6, .ref q580261), (4, .ref q579381), (3, .int g579350), (2, .int g578175), (0, .ref q409905), (1, .ref q409906)]) z580343 1 dr_cX17_weigh_189 rfl hz580343.symm (Nat.le_of_ble_eq_true rfl) rfl ?_
                                  refine G_goto 74 dr_cX17_weigh_192 (by decide +kernel) ?_
                                  have hT580344 : RS D I P409903 F580327 γ el := RS_set hT579947 n580329 ht409935 (by decide) ⟨f580330, he580339⟩
                                  refine G_lv (L' := [(5, .int z580343), (4, .ref q579381), (3, .int g579350), (2, .int g578175), (0, .ref q409905), (1, .ref q409906)]) [0, 2, 3, 4, 5, 6] rfl ?_
                                  exact ih74_579950 F580327 z580343 (gB_w bz580343 (by decide) (by decide)) hT580344 hs580340 kp580341 kp580342 (fun k e1 ht => kt74_579951 k e1 (fun R c1 c2 c3 c4 c5 c6 c7 c8 c9 c10 c11 c12 c13 c14 c15 c16 c17 => c11 F579946 g579945 q579391 p579964 q580261 p580274 o580292 p580279 o580302 p580280 o580313 p580277 f580324 z580325 z580326 f580330 F580327 z580343 k e1 bg579945 hT579947 hs579948 x579949 x579950 fq579960 fq579971 fq579972 r579982 fq579983 r580249 hx580262 ht580271 fq580286 bo580292 ht580293 r580295 fq580296 bo580302 ht580304 r580306 fq580307 bo580313 ht580315 r580319 fq580320 fq580321 he580323 hz580325 hz580326 hf580330 n580329 he580339 ez580343 (ht R c1 c2 c3 c4 c5 c6 c7 c8 c9 c10 c11 c12 c13 c14 c15 c16 c17))) (mz_up ez580343 (Int.le_trans bg579945''.2 (by decide)) hm74_579950)
                              · have r580345 : o580302.toInt ≠ 0 := gj_neq hc580305 (show Int32.toInt 0 = 0 by decide)
                                have bo580302' : gB o580302 1 1 := gB_t1 bo580302 r580345
                                refine G_aload_n 5 dr_cX17_weigh_153 rfl ?_
                                have fq580346 : fR (F579946 q409905) 5 = (γ 9 5) := by rw [he579958]; rfl
                                refine Gp_get 5 hm579959 he579958 dr_cX17_weigh_154 (gk_X17 D I) (Nat.le_of_ble_eq_true rfl) wr_7_79 rfl ?_
                                refine G_aload 0 dr_cX17_weigh_157 rfl ?_
                                have fq580347 : fI (F579946 q580261) 2 = p580276 := by rw [he580273]; rfl
                                refine Gp_get 2 hm580272 he580273 dr_cX17_weigh_159 (gk_X15 D I) (Nat.le_of_ble_eq_true rfl) wr_9_186 rfl ?_
                                refine G_dup2_11 dr_cX17_weigh_162 rfl rfl ?_
                                have hm580348 : (γ 9 5) ∈ P409903 := RS_m hT579947 ht409935 (by decide)
                                obtain ⟨f580350, he580349⟩ := show rk_17 I (F579946 (γ 9 5)) from RS_o hT579947 ht409935
                                refine Gp_iald 0 hm580348 he580349 dr_cX17_weigh_163 rfl (gB_inr (by omega) (by omega)) (G_nam fun z580351 hz580351 => ?_)
                                have bz580351 : gB z580351 (-2147483648) 2147483647 := gB_any z580351
                                refine G_iload_n 3 dr_cX17_weigh_164 rfl ?_
                                refine G_iadd dr_cX17_weigh_165 (G_nam fun z580352 hz580352 => ?_)
                                have bz580352 : gB z580352 (-2147483648) 2147483647 := gB_any z580352
                                refine Gp_iast 0 hm580348 he580349 dr_cX17_weigh_166 rfl (gB_inr (by omega) (by omega)) (fun F580353 e580354 n580355 => ?_)
                                obtain ⟨f580356, hf580356⟩ : ∃ z, z = upd f580350 p580276.toNatClampNeg z580352 := ⟨_, rfl⟩
                                rw [← hf580356] at e580354
                                have he580357 : F580353 q409906 = .inr (18, [.ref q578188, .ref q578189, .int p578190, .int p578191]) := (n580355 q409906 (rn_oa he579953 he580349)).trans he579953
                                have he580358 : F580353 q578188 = .inr (4, [.int p579362, .ref q579364, .int p579363]) := (n580355 q578188 (rn_oa he579954 he580349)).trans he579954
                                have he580359 : F580353 q579364 = .inl (I (.object "java/lang/Object"), n579378, .inr (.inr (.inr (.inr f579379)))) := (n580355 q579364 (rn_ref_num he579955 he580349)).trans he579955
                                have he580360 : F580353 q579381 = .inr (17, [.ref q579391, .ref q579392, .int p579393, .int p579394]) := (n580355 q579381 (rn_oa he579956 he580349)).trans he579956
                                have he580361 : F580353 q409905 = .inr (22, [.ref (γ 9 0), .ref (γ 9 1), .ref (γ 9 2), .ref (γ 9 3), .ref (γ 9 4), .ref (γ 9 5), .ref (γ 9 6), .ref (γ 9 7), .ref (γ 9 8), .int p409913, .int p409914, .int p409915, .int p409916, .int p409917, .int p409918, .ref (γ 9 15), .ref (γ 9 16), .ref (γ 9 17), .ref (γ 9 18), .ref (γ 9 19), .ref (γ 9 20), .ref (γ 9 21), .ref (γ 9 22), .int p409919, .int p409920, .int p409921, .int p409922, .int p409923, .ref q409911, .ref (γ 9 29), .int p409924, .ref (γ 9 31), .int p409925, .int p409926, .int p409927, .ref q409912]) := (n580355 q409905 (rn_oa he579958 he580349)).trans he579958
                                have he580362 : F580353 q579391 = .inr (4, [.int p579963, .ref q579965, .int p579964]) := (n580355 q579391 (rn_oa he579962 he580349)).trans he579962
                                have he580363 : F580353 q579965 = .inl (I (.object "java/lang/Object"), n580258, .inr (.inr (.inr (.inr f580259)))) := (n580355 q579965 (rn_ref_num r580252 he580349)).trans r580252
                                have he580364 : F580353 q580261 = .inr (20, [.int p580274, .int p580275, .int p580276, .int p580277, .int p580278, .int p580279, .int p580280]) := (n580355 q580261 (rn_oa he580273 he580349)).trans he580273
                                have he580365 : F580353 (γ 9 5) = .inl (I .int, 2000, .inl f580356) := e580354
                                have hs580366 : rStr γ [] F409904 F580353 := rStr_put hs579948 n580355 ht409935 (by decide)
                                have kp580367 : F580353 q409905 = F409904 q409905 := (n580355 q409905 (rn_ty htq409905 ht409935 (by decide))).trans x579949
                                have kp580368 : F580353 (γ 9 3) = F409904 (γ 9 3) := (n580355 (γ 9 3) (rn_ty ht409933 ht409935 (by decide))).trans x579950
                                refine G_aload 0 dr_cX17_weigh_167 rfl ?_
                                have hT580369 : RS D I P409903 F580353 γ el := RS_set hT579947 n580355 ht409935 (by decide) ⟨f580356, he580365⟩
                                have fq580370 : fI (F580353 q580261) 0 = p580274 := by rw [he580364]; rfl
                                have fq580371 : fI (F580353 q580261) 6 = p580280 := by rw [he580364]; rfl
                                refine Gw_callV (As := []) (gV_ok D I) (cp_1699_Row_usesB l hl0 D I P409903 F580353 q580261 p580274 p580275 p580276 p580277 p580278 p580279 p580280 hm580272 he580364 bp580274 bp580275 bp580278 bp580279 bp580280) dr_cX17_weigh_169 ⟨wr_10_196, wr_1_39, wr_10_199, by decide, rfl, (Nat.le_of_ble_eq_true rfl), (Nat.le_of_ble_eq_true rfl)⟩ wr_10_197 wr_10_198 hm580272 he580364 rfl (show 0 + 0 ≤ 0 by first | omega | decide) (show 0 + 0 ≤ 0 by first | omega | decide) (Nat.le_of_ble_eq_true rfl) (fun r580375 w580376 dc580372 ds580373 hp580374 => ?_) (fun _ _ _ _ _ z => z.elim)
                                obtain ⟨o580377, rfl, rfl, hdc, hds, bo580377, x580378, ht580379⟩ := hp580374
                                change G _ _ _ _ _ _ _ (.int o580377 :: _) _ _ _
                                refine G_widen (cs' := 0) (sl' := 0) (by omega) (by omega) ?_
                                refine G_if_eq 189 dr_cX17_weigh_172 (by decide +kernel) (fun hc580380 => ?_) (fun hc580380 => ?_)
                                · have r580381 : o580377.toInt = 0 := gj_eq hc580380 (show Int32.toInt 0 = 0 by decide)
                                  have bo580377' : gB o580377 0 0 := gB_t0 r580381
                                  obtain ⟨z580382, hz580382⟩ : ∃ z : Int32, z = g579945 + Int32.ofInt 1 := ⟨_, rfl⟩
                                  have ez580382 : z580382.toInt = g579945.toInt + 1 := gI_inc hz580382 (by decide) bg579945'' (by decide) (by decide)
                                  have bz580382 : gB z580382 1 1000000 := ⟨by omega, by omega⟩
                                  refine G_iinc (L' := [(5, .int z580382), (6, .ref q580261), (4, .ref q579381), (3, .int g579350), (2, .int g578175), (0, .ref q409905), (1, .ref q409906)]) z580382 1 dr_cX17_weigh_189 rfl hz580382.symm (Nat.le_of_ble_eq_true rfl) rfl ?_
                                  refine G_goto 74 dr_cX17_weigh_192 (by decide +kernel) ?_
                                  refine G_lv (L' := [(5, .int z580382), (4, .ref q579381), (3, .int g579350), (2, .int g578175), (0, .ref q409905), (1, .ref q409906)]) [0, 2, 3, 4, 5, 6] rfl ?_
                                  exact ih74_579950 F580353 z580382 (gB_w bz580382 (by decide) (by decide)) hT580369 hs580366 kp580367 kp580368 (fun k e1 ht => kt74_579951 k e1 (fun R c1 c2 c3 c4 c5 c6 c7 c8 c9 c10 c11 c12 c13 c14 c15 c16 c17 => c12 F579946 g579945 q579391 p579964 q580261 p580274 o580292 p580279 o580302 p580276 f580350 z580351 z580352 f580356 F580353 p580280 o580377 z580382 k e1 bg579945 hT579947 hs579948 x579949 x579950 fq579960 fq579971 fq579972 r579982 fq579983 r580249 hx580262 ht580271 fq580286 bo580292 ht580293 r580295 fq580296 bo580302 ht580304 r580345 fq580346 fq580347 he580349 hz580351 hz580352 hf580356 n580355 he580365 fq580370 fq580371 bo580377 ht580379 r580381 ez580382 (ht R c1 c2 c3 c4 c5 c6 c7 c8 c9 c10 c11 c12 c13 c14 c15 c16 c17))) (mz_up ez580382 (Int.le_trans bg579945''.2 (by decide)) hm74_579950)
                                · have r580383 : o580377.toInt ≠ 0 := gj_neq hc580380 (show Int32.toInt 0 = 0 by decide)
                                  have bo580377' : gB o580377 1 1 := gB_t1 bo580377 r580383
                                  refine G_aload_n 5 dr_cX17_weigh_175 rfl ?_
                                  have fq580384 : fR (F580353 q409905) 5 = (γ 9 5) := by rw [he580361]; rfl
                                  refine Gp_get 5 hm579959 he580361 dr_cX17_weigh_176 (gk_X17 D I) (Nat.le_of_ble_eq_true rfl) wr_7_79 rfl ?_
                                  refine G_aload 0 dr_cX17_weigh_179 rfl ?_
                                  have fq580385 : fI (F580353 q580261) 3 = p580277 := by rw [he580364]; rfl
                                  refine Gp_get 3 hm580272 he580364 dr_cX17_weigh_181 (gk_X15 D I) (Nat.le_of_ble_eq_true rfl) wr_9_190 rfl ?_
                                  refine G_dup2_11 dr_cX17_weigh_184 rfl rfl ?_
                                  refine Gp_iald 0 hm580348 he580365 dr_cX17_weigh_185 rfl (gB_inr (by omega) (by omega)) (G_nam fun z580386 hz580386 => ?_)
                                  have bz580386 : gB z580386 (-2147483648) 2147483647 := gB_any z580386
                                  refine G_iload_n 3 dr_cX17_weigh_186 rfl ?_
                                  refine G_iadd dr_cX17_weigh_187 (G_nam fun z580387 hz580387 => ?_)
                                  have bz580387 : gB z580387 (-2147483648) 2147483647 := gB_any z580387
                                  refine Gp_iast 0 hm580348 he580365 dr_cX17_weigh_188 rfl (gB_inr (by omega) (by omega)) (fun F580388 e580389 n580390 => ?_)
                                  obtain ⟨f580391, hf580391⟩ : ∃ z, z = upd f580356 p580277.toNatClampNeg z580387 := ⟨_, rfl⟩
                                  rw [← hf580391] at e580389
                                  have he580392 : F580388 q409906 = .inr (18, [.ref q578188, .ref q578189, .int p578190, .int p578191]) := (n580390 q409906 (rn_oa he580357 he580365)).trans he580357
                                  have he580393 : F580388 q578188 = .inr (4, [.int p579362, .ref q579364, .int p579363]) := (n580390 q578188 (rn_oa he580358 he580365)).trans he580358
                                  have he580394 : F580388 q579364 = .inl (I (.object "java/lang/Object"), n579378, .inr (.inr (.inr (.inr f579379)))) := (n580390 q579364 (rn_ref_num he580359 he580365)).trans he580359
                                  have he580395 : F580388 q579381 = .inr (17, [.ref q579391, .ref q579392, .int p579393, .int p579394]) := (n580390 q579381 (rn_oa he580360 he580365)).trans he580360
                                  have he580396 : F580388 q409905 = .inr (22, [.ref (γ 9 0), .ref (γ 9 1), .ref (γ 9 2), .ref (γ 9 3), .ref (γ 9 4), .ref (γ 9 5), .ref (γ 9 6), .ref (γ 9 7), .ref (γ 9 8), .int p409913, .int p409914, .int p409915, .int p409916, .int p409917, .int p409918, .ref (γ 9 15), .ref (γ 9 16), .ref (γ 9 17), .ref (γ 9 18), .ref (γ 9 19), .ref (γ 9 20), .ref (γ 9 21), .ref (γ 9 22), .int p409919, .int p409920, .int p409921, .int p409922, .int p409923, .ref q409911, .ref (γ 9 29), .int p409924, .ref (γ 9 31), .int p409925, .int p409926, .int p409927, .ref q409912]) := (n580390 q409905 (rn_oa he580361 he580365)).trans he580361
                                  have he580397 : F580388 q579391 = .inr (4, [.int p579963, .ref q579965, .int p579964]) := (n580390 q579391 (rn_oa he580362 he580365)).trans he580362
                                  have he580398 : F580388 q579965 = .inl (I (.object "java/lang/Object"), n580258, .inr (.inr (.inr (.inr f580259)))) := (n580390 q579965 (rn_ref_num he580363 he580365)).trans he580363
                                  have he580399 : F580388 q580261 = .inr (20, [.int p580274, .int p580275, .int p580276, .int p580277, .int p580278, .int p580279, .int p580280]) := (n580390 q580261 (rn_oa he580364 he580365)).trans he580364
                                  have he580400 : F580388 (γ 9 5) = .inl (I .int, 2000, .inl f580391) := e580389
                                  have hs580401 : rStr γ [] F409904 F580388 := rStr_put hs580366 n580390 ht409935 (by decide)
                                  have kp580402 : F580388 q409905 = F409904 q409905 := (n580390 q409905 (rn_ty htq409905 ht409935 (by decide))).trans kp580367
                                  have kp580403 : F580388 (γ 9 3) = F409904 (γ 9 3) := (n580390 (γ 9 3) (rn_ty ht409933 ht409935 (by decide))).trans kp580368
                                  obtain ⟨z580404, hz580404⟩ : ∃ z : Int32, z = g579945 + Int32.ofInt 1 := ⟨_, rfl⟩
                                  have ez580404 : z580404.toInt = g579945.toInt + 1 := gI_inc hz580404 (by decide) bg579945'' (by decide) (by decide)
                                  have bz580404 : gB z580404 1 1000000 := ⟨by omega, by omega⟩
                                  refine G_iinc (L' := [(5, .int z580404), (6, .ref q580261), (4, .ref q579381), (3, .int g579350), (2, .int g578175), (0, .ref q409905), (1, .ref q409906)]) z580404 1 dr_cX17_weigh_189 rfl hz580404.symm (Nat.le_of_ble_eq_true rfl) rfl ?_
                                  refine G_goto 74 dr_cX17_weigh_192 (by decide +kernel) ?_
                                  have hT580405 : RS D I P409903 F580388 γ el := RS_set hT580369 n580390 ht409935 (by decide) ⟨f580391, he580400⟩
                                  refine G_lv (L' := [(5, .int z580404), (4, .ref q579381), (3, .int g579350), (2, .int g578175), (0, .ref q409905), (1, .ref q409906)]) [0, 2, 3, 4, 5, 6] rfl ?_
                                  exact ih74_579950 F580388 z580404 (gB_w bz580404 (by decide) (by decide)) hT580405 hs580401 kp580402 kp580403 (fun k e1 ht => kt74_579951 k e1 (fun R c1 c2 c3 c4 c5 c6 c7 c8 c9 c10 c11 c12 c13 c14 c15 c16 c17 => c13 F579946 g579945 q579391 p579964 q580261 p580274 o580292 p580279 o580302 p580276 f580350 z580351 z580352 f580356 F580353 p580280 o580377 p580277 z580386 z580387 f580391 F580388 z580404 k e1 bg579945 hT579947 hs579948 x579949 x579950 fq579960 fq579971 fq579972 r579982 fq579983 r580249 hx580262 ht580271 fq580286 bo580292 ht580293 r580295 fq580296 bo580302 ht580304 r580345 fq580346 fq580347 he580349 hz580351 hz580352 hf580356 n580355 he580365 fq580370 fq580371 bo580377 ht580379 r580383 fq580384 fq580385 he580365 hz580386 hz580387 hf580391 n580390 he580400 ez580404 (ht R c1 c2 c3 c4 c5 c6 c7 c8 c9 c10 c11 c12 c13 c14 c15 c16 c17))) (mz_up ez580404 (Int.le_trans bg579945''.2 (by decide)) hm74_579950)
                            · have r580406 : o580292.toInt ≠ 0 := gj_neq hc580294 (show Int32.toInt 0 = 0 by decide)
                              have bo580292' : gB o580292 1 1 := gB_t1 bo580292 r580406
                              refine G_aload_n 5 dr_cX17_weigh_131 rfl ?_
                              have fq580407 : fR (F579946 q409905) 5 = (γ 9 5) := by rw [he579958]; rfl
                              refine Gp_get 5 hm579959 he579958 dr_cX17_weigh_132 (gk_X17 D I) (Nat.le_of_ble_eq_true rfl) wr_7_79 rfl ?_
                              refine G_aload 0 dr_cX17_weigh_135 rfl ?_
                              have fq580408 : fI (F579946 q580261) 1 = p580275 := by rw [he580273]; rfl
                              refine Gp_get 1 hm580272 he580273 dr_cX17_weigh_137 (gk_X15 D I) (Nat.le_of_ble_eq_true rfl) wr_9_182 rfl ?_
                              refine G_dup2_11 dr_cX17_weigh_140 rfl rfl ?_
                              have hm580409 : (γ 9 5) ∈ P409903 := RS_m hT579947 ht409935 (by decide)
                              obtain ⟨f580411, he580410⟩ := show rk_17 I (F579946 (γ 9 5)) from RS_o hT579947 ht409935
                              refine Gp_iald 0 hm580409 he580410 dr_cX17_weigh_141 rfl (gB_in bp580275 (by decide) (by decide)) (G_nam fun z580412 hz580412 => ?_)
                              have bz580412 : gB z580412 (-2147483648) 2147483647 := gB_any z580412
                              refine G_iload_n 3 dr_cX17_weigh_142 rfl ?_
                              refine G_iadd dr_cX17_weigh_143 (G_nam fun z580413 hz580413 => ?_)
                              have bz580413 : gB z580413 (-2147483648) 2147483647 := gB_any z580413
                              refine Gp_iast 0 hm580409 he580410 dr_cX17_weigh_144 rfl (gB_in bp580275 (by decide) (by decide)) (fun F580414 e580415 n580416 => ?_)
                              obtain ⟨f580417, hf580417⟩ : ∃ z, z = upd f580411 p580275.toNatClampNeg z580413 := ⟨_, rfl⟩
                              rw [← hf580417] at e580415
                              have he580418 : F580414 q409906 = .inr (18, [.ref q578188, .ref q578189, .int p578190, .int p578191]) := (n580416 q409906 (rn_oa he579953 he580410)).trans he579953
                              have he580419 : F580414 q578188 = .inr (4, [.int p579362, .ref q579364, .int p579363]) := (n580416 q578188 (rn_oa he579954 he580410)).trans he579954
                              have he580420 : F580414 q579364 = .inl (I (.object "java/lang/Object"), n579378, .inr (.inr (.inr (.inr f579379)))) := (n580416 q579364 (rn_ref_num he579955 he580410)).trans he579955
                              have he580421 : F580414 q579381 = .inr (17, [.ref q579391, .ref q579392, .int p579393, .int p579394]) := (n580416 q579381 (rn_oa he579956 he580410)).trans he579956
                              have he580422 : F580414 q409905 = .inr (22, [.ref (γ 9 0), .ref (γ 9 1), .ref (γ 9 2), .ref (γ 9 3), .ref (γ 9 4), .ref (γ 9 5), .ref (γ 9 6), .ref (γ 9 7), .ref (γ 9 8), .int p409913, .int p409914, .int p409915, .int p409916, .int p409917, .int p409918, .ref (γ 9 15), .ref (γ 9 16), .ref (γ 9 17), .ref (γ 9 18), .ref (γ 9 19), .ref (γ 9 20), .ref (γ 9 21), .ref (γ 9 22), .int p409919, .int p409920, .int p409921, .int p409922, .int p409923, .ref q409911, .ref (γ 9 29), .int p409924, .ref (γ 9 31), .int p409925, .int p409926, .int p409927, .ref q409912]) := (n580416 q409905 (rn_oa he579958 he580410)).trans he579958
                              have he580423 : F580414 q579391 = .inr (4, [.int p579963, .ref q579965, .int p579964]) := (n580416 q579391 (rn_oa he579962 he580410)).trans he579962
                              have he580424 : F580414 q579965 = .inl (I (.object "java/lang/Object"), n580258, .inr (.inr (.inr (.inr f580259)))) := (n580416 q579965 (rn_ref_num r580252 he580410)).trans r580252
                              have he580425 : F580414 q580261 = .inr (20, [.int p580274, .int p580275, .int p580276, .int p580277, .int p580278, .int p580279, .int p580280]) := (n580416 q580261 (rn_oa he580273 he580410)).trans he580273
                              have he580426 : F580414 (γ 9 5) = .inl (I .int, 2000, .inl f580417) := e580415
                              have hs580427 : rStr γ [] F409904 F580414 := rStr_put hs579948 n580416 ht409935 (by decide)
                              have kp580428 : F580414 q409905 = F409904 q409905 := (n580416 q409905 (rn_ty htq409905 ht409935 (by decide))).trans x579949
                              have kp580429 : F580414 (γ 9 3) = F409904 (γ 9 3) := (n580416 (γ 9 3) (rn_ty ht409933 ht409935 (by decide))).trans x579950
                              refine G_aload 0 dr_cX17_weigh_145 rfl ?_
                              have hT580430 : RS D I P409903 F580414 γ el := RS_set hT579947 n580416 ht409935 (by decide) ⟨f580417, he580426⟩
                              have fq580431 : fI (F580414 q580261) 0 = p580274 := by rw [he580425]; rfl
                              have fq580432 : fI (F580414 q580261) 5 = p580279 := by rw [he580425]; rfl
                              refine Gw_callV (As := []) (gV_ok D I) (cp_1675_Row_usesA l hl0 D I P409903 F580414 q580261 p580274 p580275 p580276 p580277 p580278 p580279 p580280 hm580272 he580425 bp580274 bp580275 bp580278 bp580279 bp580280) dr_cX17_weigh_147 ⟨wr_10_192, wr_1_39, wr_10_195, by decide, rfl, (Nat.le_of_ble_eq_true rfl), (Nat.le_of_ble_eq_true rfl)⟩ wr_10_193 wr_10_194 hm580272 he580425 rfl (show 0 + 0 ≤ 0 by first | omega | decide) (show 0 + 0 ≤ 0 by first | omega | decide) (Nat.le_of_ble_eq_true rfl) (fun r580436 w580437 dc580433 ds580434 hp580435 => ?_) (fun _ _ _ _ _ z => z.elim)
                              obtain ⟨o580438, rfl, rfl, hdc, hds, bo580438, x580439, ht580440⟩ := hp580435
                              change G _ _ _ _ _ _ _ (.int o580438 :: _) _ _ _
                              refine G_widen (cs' := 0) (sl' := 0) (by omega) (by omega) ?_
                              refine G_if_eq 167 dr_cX17_weigh_150 (by decide +kernel) (fun hc580441 => ?_) (fun hc580441 => ?_)
                              · have r580442 : o580438.toInt = 0 := gj_eq hc580441 (show Int32.toInt 0 = 0 by decide)
                                have bo580438' : gB o580438 0 0 := gB_t0 r580442
                                refine G_aload 0 dr_cX17_weigh_167 rfl ?_
                                have fq580443 : fI (F580414 q580261) 6 = p580280 := by rw [he580425]; rfl
                                refine Gw_callV (As := []) (gV_ok D I) (cp_1699_Row_usesB l hl0 D I P409903 F580414 q580261 p580274 p580275 p580276 p580277 p580278 p580279 p580280 hm580272 he580425 bp580274 bp580275 bp580278 bp580279 bp580280) dr_cX17_weigh_169 ⟨wr_10_196, wr_1_39, wr_10_199, by decide, rfl, (Nat.le_of_ble_eq_true rfl), (Nat.le_of_ble_eq_true rfl)⟩ wr_10_197 wr_10_198 hm580272 he580425 rfl (show 0 + 0 ≤ 0 by first | omega | decide) (show 0 + 0 ≤ 0 by first | omega | decide) (Nat.le_of_ble_eq_true rfl) (fun r580447 w580448 dc580444 ds580445 hp580446 => ?_) (fun _ _ _ _ _ z => z.elim)
                                obtain ⟨o580449, rfl, rfl, hdc, hds, bo580449, x580450, ht580451⟩ := hp580446
                                change G _ _ _ _ _ _ _ (.int o580449 :: _) _ _ _
                                refine G_widen (cs' := 0) (sl' := 0) (by omega) (by omega) ?_
                                refine G_if_eq 189 dr_cX17_weigh_172 (by decide +kernel) (fun hc580452 => ?_) (fun hc580452 => ?_)
                                · have r580453 : o580449.toInt = 0 := gj_eq hc580452 (show Int32.toInt 0 = 0 by decide)
                                  have bo580449' : gB o580449 0 0 := gB_t0 r580453
                                  obtain ⟨z580454, hz580454⟩ : ∃ z : Int32, z = g579945 + Int32.ofInt 1 := ⟨_, rfl⟩
                                  have ez580454 : z580454.toInt = g579945.toInt + 1 := gI_inc hz580454 (by decide) bg579945'' (by decide) (by decide)
                                  have bz580454 : gB z580454 1 1000000 := ⟨by omega, by omega⟩
                                  refine G_iinc (L' := [(5, .int z580454), (6, .ref q580261), (4, .ref q579381), (3, .int g579350), (2, .int g578175), (0, .ref q409905), (1, .ref q409906)]) z580454 1 dr_cX17_weigh_189 rfl hz580454.symm (Nat.le_of_ble_eq_true rfl) rfl ?_
                                  refine G_goto 74 dr_cX17_weigh_192 (by decide +kernel) ?_
                                  refine G_lv (L' := [(5, .int z580454), (4, .ref q579381), (3, .int g579350), (2, .int g578175), (0, .ref q409905), (1, .ref q409906)]) [0, 2, 3, 4, 5, 6] rfl ?_
                                  exact ih74_579950 F580414 z580454 (gB_w bz580454 (by decide) (by decide)) hT580430 hs580427 kp580428 kp580429 (fun k e1 ht => kt74_579951 k e1 (fun R c1 c2 c3 c4 c5 c6 c7 c8 c9 c10 c11 c12 c13 c14 c15 c16 c17 => c14 F579946 g579945 q579391 p579964 q580261 p580274 o580292 p580275 f580411 z580412 z580413 f580417 F580414 p580279 o580438 p580280 o580449 z580454 k e1 bg579945 hT579947 hs579948 x579949 x579950 fq579960 fq579971 fq579972 r579982 fq579983 r580249 hx580262 ht580271 fq580286 bo580292 ht580293 r580406 fq580407 fq580408 he580410 hz580412 hz580413 hf580417 n580416 he580426 fq580431 fq580432 bo580438 ht580440 r580442 fq580443 bo580449 ht580451 r580453 ez580454 (ht R c1 c2 c3 c4 c5 c6 c7 c8 c9 c10 c11 c12 c13 c14 c15 c16 c17))) (mz_up ez580454 (Int.le_trans bg579945''.2 (by decide)) hm74_579950)
                                · have r580455 : o580449.toInt ≠ 0 := gj_neq hc580452 (show Int32.toInt 0 = 0 by decide)
                                  have bo580449' : gB o580449 1 1 := gB_t1 bo580449 r580455
                                  refine G_aload_n 5 dr_cX17_weigh_175 rfl ?_
                                  have fq580456 : fR (F580414 q409905) 5 = (γ 9 5) := by rw [he580422]; rfl
                                  refine Gp_get 5 hm579959 he580422 dr_cX17_weigh_176 (gk_X17 D I) (Nat.le_of_ble_eq_true rfl) wr_7_79 rfl ?_
                                  refine G_aload 0 dr_cX17_weigh_179 rfl ?_
                                  have fq580457 : fI (F580414 q580261) 3 = p580277 := by rw [he580425]; rfl
                                  refine Gp_get 3 hm580272 he580425 dr_cX17_weigh_181 (gk_X15 D I) (Nat.le_of_ble_eq_true rfl) wr_9_190 rfl ?_
                                  refine G_dup2_11 dr_cX17_weigh_184 rfl rfl ?_
                                  refine Gp_iald 0 hm580409 he580426 dr_cX17_weigh_185 rfl (gB_inr (by omega) (by omega)) (G_nam fun z580458 hz580458 => ?_)
                                  have bz580458 : gB z580458 (-2147483648) 2147483647 := gB_any z580458
                                  refine G_iload_n 3 dr_cX17_weigh_186 rfl ?_
                                  refine G_iadd dr_cX17_weigh_187 (G_nam fun z580459 hz580459 => ?_)
                                  have bz580459 : gB z580459 (-2147483648) 2147483647 := gB_any z580459
                                  refine Gp_iast 0 hm580409 he580426 dr_cX17_weigh_188 rfl (gB_inr (by omega) (by omega)) (fun F580460 e580461 n580462 => ?_)
                                  obtain ⟨f580463, hf580463⟩ : ∃ z, z = upd f580417 p580277.toNatClampNeg z580459 := ⟨_, rfl⟩
                                  rw [← hf580463] at e580461
                                  have he580464 : F580460 q409906 = .inr (18, [.ref q578188, .ref q578189, .int p578190, .int p578191]) := (n580462 q409906 (rn_oa he580418 he580426)).trans he580418
                                  have he580465 : F580460 q578188 = .inr (4, [.int p579362, .ref q579364, .int p579363]) := (n580462 q578188 (rn_oa he580419 he580426)).trans he580419
                                  have he580466 : F580460 q579364 = .inl (I (.object "java/lang/Object"), n579378, .inr (.inr (.inr (.inr f579379)))) := (n580462 q579364 (rn_ref_num he580420 he580426)).trans he580420
                                  have he580467 : F580460 q579381 = .inr (17, [.ref q579391, .ref q579392, .int p579393, .int p579394]) := (n580462 q579381 (rn_oa he580421 he580426)).trans he580421
                                  have he580468 : F580460 q409905 = .inr (22, [.ref (γ 9 0), .ref (γ 9 1), .ref (γ 9 2), .ref (γ 9 3), .ref (γ 9 4), .ref (γ 9 5), .ref (γ 9 6), .ref (γ 9 7), .ref (γ 9 8), .int p409913, .int p409914, .int p409915, .int p409916, .int p409917, .int p409918, .ref (γ 9 15), .ref (γ 9 16), .ref (γ 9 17), .ref (γ 9 18), .ref (γ 9 19), .ref (γ 9 20), .ref (γ 9 21), .ref (γ 9 22), .int p409919, .int p409920, .int p409921, .int p409922, .int p409923, .ref q409911, .ref (γ 9 29), .int p409924, .ref (γ 9 31), .int p409925, .int p409926, .int p409927, .ref q409912]) := (n580462 q409905 (rn_oa he580422 he580426)).trans he580422
                                  have he580469 : F580460 q579391 = .inr (4, [.int p579963, .ref q579965, .int p579964]) := (n580462 q579391 (rn_oa he580423 he580426)).trans he580423
                                  have he580470 : F580460 q579965 = .inl (I (.object "java/lang/Object"), n580258, .inr (.inr (.inr (.inr f580259)))) := (n580462 q579965 (rn_ref_num he580424 he580426)).trans he580424
                                  have he580471 : F580460 q580261 = .inr (20, [.int p580274, .int p580275, .int p580276, .int p580277, .int p580278, .int p580279, .int p580280]) := (n580462 q580261 (rn_oa he580425 he580426)).trans he580425
                                  have he580472 : F580460 (γ 9 5) = .inl (I .int, 2000, .inl f580463) := e580461
                                  have hs580473 : rStr γ [] F409904 F580460 := rStr_put hs580427 n580462 ht409935 (by decide)
                                  have kp580474 : F580460 q409905 = F409904 q409905 := (n580462 q409905 (rn_ty htq409905 ht409935 (by decide))).trans kp580428
                                  have kp580475 : F580460 (γ 9 3) = F409904 (γ 9 3) := (n580462 (γ 9 3) (rn_ty ht409933 ht409935 (by decide))).trans kp580429
                                  obtain ⟨z580476, hz580476⟩ : ∃ z : Int32, z = g579945 + Int32.ofInt 1 := ⟨_, rfl⟩
                                  have ez580476 : z580476.toInt = g579945.toInt + 1 := gI_inc hz580476 (by decide) bg579945'' (by decide) (by decide)
                                  have bz580476 : gB z580476 1 1000000 := ⟨by omega, by omega⟩
                                  refine G_iinc (L' := [(5, .int z580476), (6, .ref q580261), (4, .ref q579381), (3, .int g579350), (2, .int g578175), (0, .ref q409905), (1, .ref q409906)]) z580476 1 dr_cX17_weigh_189 rfl hz580476.symm (Nat.le_of_ble_eq_true rfl) rfl ?_
                                  refine G_goto 74 dr_cX17_weigh_192 (by decide +kernel) ?_
                                  have hT580477 : RS D I P409903 F580460 γ el := RS_set hT580430 n580462 ht409935 (by decide) ⟨f580463, he580472⟩
                                  refine G_lv (L' := [(5, .int z580476), (4, .ref q579381), (3, .int g579350), (2, .int g578175), (0, .ref q409905), (1, .ref q409906)]) [0, 2, 3, 4, 5, 6] rfl ?_
                                  exact ih74_579950 F580460 z580476 (gB_w bz580476 (by decide) (by decide)) hT580477 hs580473 kp580474 kp580475 (fun k e1 ht => kt74_579951 k e1 (fun R c1 c2 c3 c4 c5 c6 c7 c8 c9 c10 c11 c12 c13 c14 c15 c16 c17 => c15 F579946 g579945 q579391 p579964 q580261 p580274 o580292 p580275 f580411 z580412 z580413 f580417 F580414 p580279 o580438 p580280 o580449 p580277 z580458 z580459 f580463 F580460 z580476 k e1 bg579945 hT579947 hs579948 x579949 x579950 fq579960 fq579971 fq579972 r579982 fq579983 r580249 hx580262 ht580271 fq580286 bo580292 ht580293 r580406 fq580407 fq580408 he580410 hz580412 hz580413 hf580417 n580416 he580426 fq580431 fq580432 bo580438 ht580440 r580442 fq580443 bo580449 ht580451 r580455 fq580456 fq580457 he580426 hz580458 hz580459 hf580463 n580462 he580472 ez580476 (ht R c1 c2 c3 c4 c5 c6 c7 c8 c9 c10 c11 c12 c13 c14 c15 c16 c17))) (mz_up ez580476 (Int.le_trans bg579945''.2 (by decide)) hm74_579950)
                              · have r580478 : o580438.toInt ≠ 0 := gj_neq hc580441 (show Int32.toInt 0 = 0 by decide)
                                have bo580438' : gB o580438 1 1 := gB_t1 bo580438 r580478
                                refine G_aload_n 5 dr_cX17_weigh_153 rfl ?_
                                have fq580479 : fR (F580414 q409905) 5 = (γ 9 5) := by rw [he580422]; rfl
                                refine Gp_get 5 hm579959 he580422 dr_cX17_weigh_154 (gk_X17 D I) (Nat.le_of_ble_eq_true rfl) wr_7_79 rfl ?_
                                refine G_aload 0 dr_cX17_weigh_157 rfl ?_
                                have fq580480 : fI (F580414 q580261) 2 = p580276 := by rw [he580425]; rfl
                                refine Gp_get 2 hm580272 he580425 dr_cX17_weigh_159 (gk_X15 D I) (Nat.le_of_ble_eq_true rfl) wr_9_186 rfl ?_
                                refine G_dup2_11 dr_cX17_weigh_162 rfl rfl ?_
                                refine Gp_iald 0 hm580409 he580426 dr_cX17_weigh_163 rfl (gB_inr (by omega) (by omega)) (G_nam fun z580481 hz580481 => ?_)
                                have bz580481 : gB z580481 (-2147483648) 2147483647 := gB_any z580481
                                refine G_iload_n 3 dr_cX17_weigh_164 rfl ?_
                                refine G_iadd dr_cX17_weigh_165 (G_nam fun z580482 hz580482 => ?_)
                                have bz580482 : gB z580482 (-2147483648) 2147483647 := gB_any z580482
                                refine Gp_iast 0 hm580409 he580426 dr_cX17_weigh_166 rfl (gB_inr (by omega) (by omega)) (fun F580483 e580484 n580485 => ?_)
                                obtain ⟨f580486, hf580486⟩ : ∃ z, z = upd f580417 p580276.toNatClampNeg z580482 := ⟨_, rfl⟩
                                rw [← hf580486] at e580484
                                have he580487 : F580483 q409906 = .inr (18, [.ref q578188, .ref q578189, .int p578190, .int p578191]) := (n580485 q409906 (rn_oa he580418 he580426)).trans he580418
                                have he580488 : F580483 q578188 = .inr (4, [.int p579362, .ref q579364, .int p579363]) := (n580485 q578188 (rn_oa he580419 he580426)).trans he580419
                                have he580489 : F580483 q579364 = .inl (I (.object "java/lang/Object"), n579378, .inr (.inr (.inr (.inr f579379)))) := (n580485 q579364 (rn_ref_num he580420 he580426)).trans he580420
                                have he580490 : F580483 q579381 = .inr (17, [.ref q579391, .ref q579392, .int p579393, .int p579394]) := (n580485 q579381 (rn_oa he580421 he580426)).trans he580421
                                have he580491 : F580483 q409905 = .inr (22, [.ref (γ 9 0), .ref (γ 9 1), .ref (γ 9 2), .ref (γ 9 3), .ref (γ 9 4), .ref (γ 9 5), .ref (γ 9 6), .ref (γ 9 7), .ref (γ 9 8), .int p409913, .int p409914, .int p409915, .int p409916, .int p409917, .int p409918, .ref (γ 9 15), .ref (γ 9 16), .ref (γ 9 17), .ref (γ 9 18), .ref (γ 9 19), .ref (γ 9 20), .ref (γ 9 21), .ref (γ 9 22), .int p409919, .int p409920, .int p409921, .int p409922, .int p409923, .ref q409911, .ref (γ 9 29), .int p409924, .ref (γ 9 31), .int p409925, .int p409926, .int p409927, .ref q409912]) := (n580485 q409905 (rn_oa he580422 he580426)).trans he580422
                                have he580492 : F580483 q579391 = .inr (4, [.int p579963, .ref q579965, .int p579964]) := (n580485 q579391 (rn_oa he580423 he580426)).trans he580423
                                have he580493 : F580483 q579965 = .inl (I (.object "java/lang/Object"), n580258, .inr (.inr (.inr (.inr f580259)))) := (n580485 q579965 (rn_ref_num he580424 he580426)).trans he580424
                                have he580494 : F580483 q580261 = .inr (20, [.int p580274, .int p580275, .int p580276, .int p580277, .int p580278, .int p580279, .int p580280]) := (n580485 q580261 (rn_oa he580425 he580426)).trans he580425
                                have he580495 : F580483 (γ 9 5) = .inl (I .int, 2000, .inl f580486) := e580484
                                have hs580496 : rStr γ [] F409904 F580483 := rStr_put hs580427 n580485 ht409935 (by decide)
                                have kp580497 : F580483 q409905 = F409904 q409905 := (n580485 q409905 (rn_ty htq409905 ht409935 (by decide))).trans kp580428
                                have kp580498 : F580483 (γ 9 3) = F409904 (γ 9 3) := (n580485 (γ 9 3) (rn_ty ht409933 ht409935 (by decide))).trans kp580429
                                refine G_aload 0 dr_cX17_weigh_167 rfl ?_
                                have hT580499 : RS D I P409903 F580483 γ el := RS_set hT580430 n580485 ht409935 (by decide) ⟨f580486, he580495⟩
                                have fq580500 : fI (F580483 q580261) 0 = p580274 := by rw [he580494]; rfl
                                have fq580501 : fI (F580483 q580261) 6 = p580280 := by rw [he580494]; rfl
                                refine Gw_callV (As := []) (gV_ok D I) (cp_1699_Row_usesB l hl0 D I P409903 F580483 q580261 p580274 p580275 p580276 p580277 p580278 p580279 p580280 hm580272 he580494 bp580274 bp580275 bp580278 bp580279 bp580280) dr_cX17_weigh_169 ⟨wr_10_196, wr_1_39, wr_10_199, by decide, rfl, (Nat.le_of_ble_eq_true rfl), (Nat.le_of_ble_eq_true rfl)⟩ wr_10_197 wr_10_198 hm580272 he580494 rfl (show 0 + 0 ≤ 0 by first | omega | decide) (show 0 + 0 ≤ 0 by first | omega | decide) (Nat.le_of_ble_eq_true rfl) (fun r580505 w580506 dc580502 ds580503 hp580504 => ?_) (fun _ _ _ _ _ z => z.elim)
                                obtain ⟨o580507, rfl, rfl, hdc, hds, bo580507, x580508, ht580509⟩ := hp580504
                                change G _ _ _ _ _ _ _ (.int o580507 :: _) _ _ _
                                refine G_widen (cs' := 0) (sl' := 0) (by omega) (by omega) ?_
                                refine G_if_eq 189 dr_cX17_weigh_172 (by decide +kernel) (fun hc580510 => ?_) (fun hc580510 => ?_)
                                · have r580511 : o580507.toInt = 0 := gj_eq hc580510 (show Int32.toInt 0 = 0 by decide)
                                  have bo580507' : gB o580507 0 0 := gB_t0 r580511
                                  obtain ⟨z580512, hz580512⟩ : ∃ z : Int32, z = g579945 + Int32.ofInt 1 := ⟨_, rfl⟩
                                  have ez580512 : z580512.toInt = g579945.toInt + 1 := gI_inc hz580512 (by decide) bg579945'' (by decide) (by decide)
                                  have bz580512 : gB z580512 1 1000000 := ⟨by omega, by omega⟩
                                  refine G_iinc (L' := [(5, .int z580512), (6, .ref q580261), (4, .ref q579381), (3, .int g579350), (2, .int g578175), (0, .ref q409905), (1, .ref q409906)]) z580512 1 dr_cX17_weigh_189 rfl hz580512.symm (Nat.le_of_ble_eq_true rfl) rfl ?_
                                  refine G_goto 74 dr_cX17_weigh_192 (by decide +kernel) ?_
                                  refine G_lv (L' := [(5, .int z580512), (4, .ref q579381), (3, .int g579350), (2, .int g578175), (0, .ref q409905), (1, .ref q409906)]) [0, 2, 3, 4, 5, 6] rfl ?_
                                  exact ih74_579950 F580483 z580512 (gB_w bz580512 (by decide) (by decide)) hT580499 hs580496 kp580497 kp580498 (fun k e1 ht => kt74_579951 k e1 (fun R c1 c2 c3 c4 c5 c6 c7 c8 c9 c10 c11 c12 c13 c14 c15 c16 c17 => c16 F579946 g579945 q579391 p579964 q580261 p580274 o580292 p580275 f580411 z580412 z580413 f580417 F580414 p580279 o580438 p580276 z580481 z580482 f580486 F580483 p580280 o580507 z580512 k e1 bg579945 hT579947 hs579948 x579949 x579950 fq579960 fq579971 fq579972 r579982 fq579983 r580249 hx580262 ht580271 fq580286 bo580292 ht580293 r580406 fq580407 fq580408 he580410 hz580412 hz580413 hf580417 n580416 he580426 fq580431 fq580432 bo580438 ht580440 r580478 fq580479 fq580480 he580426 hz580481 hz580482 hf580486 n580485 he580495 fq580500 fq580501 bo580507 ht580509 r580511 ez580512 (ht R c1 c2 c3 c4 c5 c6 c7 c8 c9 c10 c11 c12 c13 c14 c15 c16 c17))) (mz_up ez580512 (Int.le_trans bg579945''.2 (by decide)) hm74_579950)
                                · have r580513 : o580507.toInt ≠ 0 := gj_neq hc580510 (show Int32.toInt 0 = 0 by decide)
                                  have bo580507' : gB o580507 1 1 := gB_t1 bo580507 r580513
                                  refine G_aload_n 5 dr_cX17_weigh_175 rfl ?_
                                  have fq580514 : fR (F580483 q409905) 5 = (γ 9 5) := by rw [he580491]; rfl
                                  refine Gp_get 5 hm579959 he580491 dr_cX17_weigh_176 (gk_X17 D I) (Nat.le_of_ble_eq_true rfl) wr_7_79 rfl ?_
                                  refine G_aload 0 dr_cX17_weigh_179 rfl ?_
                                  have fq580515 : fI (F580483 q580261) 3 = p580277 := by rw [he580494]; rfl
                                  refine Gp_get 3 hm580272 he580494 dr_cX17_weigh_181 (gk_X15 D I) (Nat.le_of_ble_eq_true rfl) wr_9_190 rfl ?_
                                  refine G_dup2_11 dr_cX17_weigh_184 rfl rfl ?_
                                  refine Gp_iald 0 hm580409 he580495 dr_cX17_weigh_185 rfl (gB_inr (by omega) (by omega)) (G_nam fun z580516 hz580516 => ?_)
                                  have bz580516 : gB z580516 (-2147483648) 2147483647 := gB_any z580516
                                  refine G_iload_n 3 dr_cX17_weigh_186 rfl ?_
                                  refine G_iadd dr_cX17_weigh_187 (G_nam fun z580517 hz580517 => ?_)
                                  have bz580517 : gB z580517 (-2147483648) 2147483647 := gB_any z580517
                                  refine Gp_iast 0 hm580409 he580495 dr_cX17_weigh_188 rfl (gB_inr (by omega) (by omega)) (fun F580518 e580519 n580520 => ?_)
                                  obtain ⟨f580521, hf580521⟩ : ∃ z, z = upd f580486 p580277.toNatClampNeg z580517 := ⟨_, rfl⟩
                                  rw [← hf580521] at e580519
                                  have he580522 : F580518 q409906 = .inr (18, [.ref q578188, .ref q578189, .int p578190, .int p578191]) := (n580520 q409906 (rn_oa he580487 he580495)).trans he580487
                                  have he580523 : F580518 q578188 = .inr (4, [.int p579362, .ref q579364, .int p579363]) := (n580520 q578188 (rn_oa he580488 he580495)).trans he580488
                                  have he580524 : F580518 q579364 = .inl (I (.object "java/lang/Object"), n579378, .inr (.inr (.inr (.inr f579379)))) := (n580520 q579364 (rn_ref_num he580489 he580495)).trans he580489
                                  have he580525 : F580518 q579381 = .inr (17, [.ref q579391, .ref q579392, .int p579393, .int p579394]) := (n580520 q579381 (rn_oa he580490 he580495)).trans he580490
                                  have he580526 : F580518 q409905 = .inr (22, [.ref (γ 9 0), .ref (γ 9 1), .ref (γ 9 2), .ref (γ 9 3), .ref (γ 9 4), .ref (γ 9 5), .ref (γ 9 6), .ref (γ 9 7), .ref (γ 9 8), .int p409913, .int p409914, .int p409915, .int p409916, .int p409917, .int p409918, .ref (γ 9 15), .ref (γ 9 16), .ref (γ 9 17), .ref (γ 9 18), .ref (γ 9 19), .ref (γ 9 20), .ref (γ 9 21), .ref (γ 9 22), .int p409919, .int p409920, .int p409921, .int p409922, .int p409923, .ref q409911, .ref (γ 9 29), .int p409924, .ref (γ 9 31), .int p409925, .int p409926, .int p409927, .ref q409912]) := (n580520 q409905 (rn_oa he580491 he580495)).trans he580491
                                  have he580527 : F580518 q579391 = .inr (4, [.int p579963, .ref q579965, .int p579964]) := (n580520 q579391 (rn_oa he580492 he580495)).trans he580492
                                  have he580528 : F580518 q579965 = .inl (I (.object "java/lang/Object"), n580258, .inr (.inr (.inr (.inr f580259)))) := (n580520 q579965 (rn_ref_num he580493 he580495)).trans he580493
                                  have he580529 : F580518 q580261 = .inr (20, [.int p580274, .int p580275, .int p580276, .int p580277, .int p580278, .int p580279, .int p580280]) := (n580520 q580261 (rn_oa he580494 he580495)).trans he580494
                                  have he580530 : F580518 (γ 9 5) = .inl (I .int, 2000, .inl f580521) := e580519
                                  have hs580531 : rStr γ [] F409904 F580518 := rStr_put hs580496 n580520 ht409935 (by decide)
                                  have kp580532 : F580518 q409905 = F409904 q409905 := (n580520 q409905 (rn_ty htq409905 ht409935 (by decide))).trans kp580497
                                  have kp580533 : F580518 (γ 9 3) = F409904 (γ 9 3) := (n580520 (γ 9 3) (rn_ty ht409933 ht409935 (by decide))).trans kp580498
                                  obtain ⟨z580534, hz580534⟩ : ∃ z : Int32, z = g579945 + Int32.ofInt 1 := ⟨_, rfl⟩
                                  have ez580534 : z580534.toInt = g579945.toInt + 1 := gI_inc hz580534 (by decide) bg579945'' (by decide) (by decide)
                                  have bz580534 : gB z580534 1 1000000 := ⟨by omega, by omega⟩
                                  refine G_iinc (L' := [(5, .int z580534), (6, .ref q580261), (4, .ref q579381), (3, .int g579350), (2, .int g578175), (0, .ref q409905), (1, .ref q409906)]) z580534 1 dr_cX17_weigh_189 rfl hz580534.symm (Nat.le_of_ble_eq_true rfl) rfl ?_
                                  refine G_goto 74 dr_cX17_weigh_192 (by decide +kernel) ?_
                                  have hT580535 : RS D I P409903 F580518 γ el := RS_set hT580499 n580520 ht409935 (by decide) ⟨f580521, he580530⟩
                                  refine G_lv (L' := [(5, .int z580534), (4, .ref q579381), (3, .int g579350), (2, .int g578175), (0, .ref q409905), (1, .ref q409906)]) [0, 2, 3, 4, 5, 6] rfl ?_
                                  exact ih74_579950 F580518 z580534 (gB_w bz580534 (by decide) (by decide)) hT580535 hs580531 kp580532 kp580533 (fun k e1 ht => kt74_579951 k e1 (fun R c1 c2 c3 c4 c5 c6 c7 c8 c9 c10 c11 c12 c13 c14 c15 c16 c17 => c17 F579946 g579945 q579391 p579964 q580261 p580274 o580292 p580275 f580411 z580412 z580413 f580417 F580414 p580279 o580438 p580276 z580481 z580482 f580486 F580483 p580280 o580507 p580277 z580516 z580517 f580521 F580518 z580534 k e1 bg579945 hT579947 hs579948 x579949 x579950 fq579960 fq579971 fq579972 r579982 fq579983 r580249 hx580262 ht580271 fq580286 bo580292 ht580293 r580406 fq580407 fq580408 he580410 hz580412 hz580413 hf580417 n580416 he580426 fq580431 fq580432 bo580438 ht580440 r580478 fq580479 fq580480 he580426 hz580481 hz580482 hf580486 n580485 he580495 fq580500 fq580501 bo580507 ht580509 r580513 fq580514 fq580515 he580495 hz580516 hz580517 hf580521 n580520 he580530 ez580534 (ht R c1 c2 c3 c4 c5 c6 c7 c8 c9 c10 c11 c12 c13 c14 c15 c16 c17))) (mz_up ez580534 (Int.le_trans bg579945''.2 (by decide)) hm74_579950)
                    exact hlp74_579950 (((1000002 : Int) - 0).toNat + 1) F578176 0 (gB_w (gBl (show Int32.toInt 0 = 0 by decide)) (by decide) (by decide)) hT578177 hs578178 x578179 x578180 (fun k e1 ht => ht) (Nat.lt_succ_self _)
                  · have r580536 : g579349.toInt < z579356.toInt := gC_nle hc579357
                    have bg579349' : gB g579349 0 2147483646 := ⟨by omega, by omega⟩
                    have bz579356' : gB z579356 1 2147483647 := ⟨by omega, by omega⟩
                    refine G_iload_n 1 dr_cX17_weigh_53 rfl ?_
                    refine G_bipush 10 dr_cX17_weigh_54 (by decide +kernel) ?_
                    refine G_imul dr_cX17_weigh_56 (G_nam fun z580537 hz580537 => ?_)
                    have bz580537 : gB z580537 (-2147483648) 2147483647 := gB_any z580537
                    refine G_istore_n (L' := [(3, .int z580537), (4, .int g579349), (2, .int g578175), (0, .ref q409905), (1, .ref q409906)]) dr_cX17_weigh_57 (Nat.le_of_ble_eq_true rfl) rfl ?_
                    obtain ⟨z580538, hz580538⟩ : ∃ z : Int32, z = g579349 + Int32.ofInt 1 := ⟨_, rfl⟩
                    have ez580538 : z580538.toInt = g579349.toInt + 1 := gI_inc hz580538 (by decide) bg579349' (by decide) (by decide)
                    have bz580538 : gB z580538 1 2147483647 := ⟨by omega, by omega⟩
                    refine G_iinc (L' := [(4, .int z580538), (3, .int z580537), (2, .int g578175), (0, .ref q409905), (1, .ref q409906)]) z580538 1 dr_cX17_weigh_58 rfl hz580538.symm (Nat.le_of_ble_eq_true rfl) rfl ?_
                    refine G_goto 42 dr_cX17_weigh_61 (by decide +kernel) ?_
                    exact ih42_579350 z580538 z580537 (gB_w bz580538 (by decide) (by decide)) (fun k e1 ht => kt42_579351 k e1 (fun R c1 c2 => c2 g579349 g579350 f579355 z579356 z580537 z580538 k e1 bg579349 fq579352 he579354 hz579356 r580536 hz580537 ez580538 (ht R c1 c2))) (mz_up ez580538 (Int.le_trans bg579349'.2 (by decide)) hm42_579350)
              exact hlp42_579350 (((2147483648 : Int) - 0).toNat + 1) 0 1 (gB_w (gBl (show Int32.toInt 0 = 0 by decide)) (by decide) (by decide)) (fun k e1 ht => ht) (Nat.lt_succ_self _)
        exact hlp29_578180 (((1000001 : Int) - 0).toNat + 1) F575861 0 (gB_w (gBl (show Int32.toInt 0 = 0 by decide)) (by decide) (by decide)) hT575862 hs575863 x575864 x575865 (fun k e1 ht => ht) (Nat.lt_succ_self _)
      · have r580539 : g575860.toInt < 2000 := gj_nleL hc575871 (show Int32.toInt 2000 = 2000 by decide)
        have bg575860' : gB g575860 0 1999 := ⟨by omega, by omega⟩
        refine G_aload_n 1 dr_cX17_weigh_14 rfl ?_
        have fq580540 : fR (F575861 q409905) 5 = (γ 9 5) := by rw [he575869]; rfl
        refine Gp_get 5 hm575870 he575869 dr_cX17_weigh_15 (gk_X17 D I) (Nat.le_of_ble_eq_true rfl) wr_7_79 rfl ?_
        refine G_iload_n 0 dr_cX17_weigh_18 rfl ?_
        refine G_iconst 0 dr_cX17_weigh_19 (by decide +kernel) ?_
        have hm580541 : (γ 9 5) ∈ P409903 := RS_m hT575862 ht409935 (by decide)
        obtain ⟨f580543, he580542⟩ := show rk_17 I (F575861 (γ 9 5)) from RS_o hT575862 ht409935
        refine Gp_iast 0 hm580541 he580542 dr_cX17_weigh_20 rfl (gB_in bg575860' (by decide) (by decide)) (fun F580544 e580545 n580546 => ?_)
        obtain ⟨f580547, hf580547⟩ : ∃ z, z = upd f580543 g575860.toNatClampNeg 0 := ⟨_, rfl⟩
        rw [← hf580547] at e580545
        have he580548 : F580544 q409905 = .inr (22, [.ref (γ 9 0), .ref (γ 9 1), .ref (γ 9 2), .ref (γ 9 3), .ref (γ 9 4), .ref (γ 9 5), .ref (γ 9 6), .ref (γ 9 7), .ref (γ 9 8), .int p409913, .int p409914, .int p409915, .int p409916, .int p409917, .int p409918, .ref (γ 9 15), .ref (γ 9 16), .ref (γ 9 17), .ref (γ 9 18), .ref (γ 9 19), .ref (γ 9 20), .ref (γ 9 21), .ref (γ 9 22), .int p409919, .int p409920, .int p409921, .int p409922, .int p409923, .ref q409911, .ref (γ 9 29), .int p409924, .ref (γ 9 31), .int p409925, .int p409926, .int p409927, .ref q409912]) := (n580546 q409905 (rn_oa he575869 he580542)).trans he575869
        have he580549 : F580544 (γ 9 5) = .inl (I .int, 2000, .inl f580547) := e580545
        have hs580550 : rStr γ [] F409904 F580544 := rStr_put hs575863 n580546 ht409935 (by decide)
        have kp580551 : F580544 q409905 = F409904 q409905 := (n580546 q409905 (rn_ty htq409905 ht409935 (by decide))).trans x575864
        have kp580552 : F580544 (γ 9 3) = F409904 (γ 9 3) := (n580546 (γ 9 3) (rn_ty ht409933 ht409935 (by decide))).trans x575865
        obtain ⟨z580553, hz580553⟩ : ∃ z : Int32, z = g575860 + Int32.ofInt 1 := ⟨_, rfl⟩
        have ez580553 : z580553.toInt = g575860.toInt + 1 := gI_inc hz580553 (by decide) bg575860' (by decide) (by decide)
        have bz580553 : gB z580553 1 2000 := ⟨by omega, by omega⟩
        refine G_iinc (L' := [(2, .int z580553), (0, .ref q409905), (1, .ref q409906)]) z580553 0 dr_cX17_weigh_21 rfl hz580553.symm (Nat.le_of_ble_eq_true rfl) rfl ?_
        refine G_goto 7 dr_cX17_weigh_24 (by decide +kernel) ?_
        have hT580554 : RS D I P409903 F580544 γ el := RS_set hT575862 n580546 ht409935 (by decide) ⟨f580547, he580549⟩
        exact ih7_575865 F580544 z580553 (gB_w bz580553 (by decide) (by decide)) hT580554 hs580550 kp580551 kp580552 (fun k e1 ht => kt7_575866 k e1 (fun R c1 c2 => c2 F575861 g575860 f580543 f580547 F580544 z580553 k e1 bg575860 hT575862 hs575863 x575864 x575865 r580539 fq580540 he580542 hf580547 n580546 he580549 ez580553 (ht R c1 c2))) (mz_up ez580553 (Int.le_trans bg575860'.2 (by decide)) hm7_575865)
  exact hlp7_575865 (((2001 : Int) - 0).toNat + 1) F536105 0 (gB_w (gBl (show Int32.toInt 0 = 0 by decide)) (by decide) (by decide)) hT536106 hs536108 kp536109 kp536110 (fun k e1 ht => ht) (Nat.lt_succ_self _)
/- tr_RModel_no: F -/
def tr_RModel_no (D : va_G) (I : FieldType → ClassId) (γ el : Nat → Nat → Nat) (F : Nat → va_E) (q0 : Nat) (a1 : Int32) (o1 : Nat → va_E) : Prop := ∀ R : (Nat → va_E) → Prop,
  (∀ (x1 : Nat → va_E), (∀ b, b ≠ q0 → x1 b = F b) → x1 q0 = cF (F q0) 30 (.int a1) → R x1) →
  R o1
