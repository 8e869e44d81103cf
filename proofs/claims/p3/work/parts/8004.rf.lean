theorem dr_cX17_weigh_0 : decode cX17_weigh 0 = .ok (.aload_n 0, 1) := by decide +kernel
theorem dr_cX17_weigh_1 : decode cX17_weigh 1 = .ok (.aload_n 1, 1) := by decide +kernel
theorem dr_cX17_weigh_2 : decode cX17_weigh 2 = .ok (.invokevirtual 170, 3) := by decide +kernel
theorem wr_11_37 : (Jvm.Cond.methodLink "SpillForgeModel" (170 : Nat) ({ cls := "SpillForgeModel", name := "findDepth", desc := "(LSpillForgeModel$Code;)V" } : Jvm.MethodName)) ∈ gw := gw_11 37 rfl rfl
theorem wr_11_40 : (Jvm.Cond.code ({ cls := "SpillForgeModel", name := "findDepth", desc := "(LSpillForgeModel$Code;)V" } : Jvm.MethodName) prog_14_method_14_code (13 : Nat) (Option.none : Option Jvm.ClassFile.FieldType)) ∈ gw := gw_11 40 rfl rfl
theorem wr_11_39 : (Jvm.Cond.instanceMethod ({ cls := "SpillForgeModel", name := "findDepth", desc := "(LSpillForgeModel$Code;)V" } : Jvm.MethodName)) ∈ gw := gw_11 39 rfl rfl
theorem wr_p_105 : Cond.selects "SpillForgeModel" ⟨"SpillForgeModel", "findDepth", "(LSpillForgeModel$Code;)V"⟩ ⟨"SpillForgeModel", "findDepth", "(LSpillForgeModel$Code;)V"⟩ ∈ gw := gw_p _ 105 rfl rfl rfl
theorem dr_cX17_weigh_5 : decode cX17_weigh 5 = .ok (.iconst 0, 1) := by decide +kernel
theorem dr_cX17_weigh_6 : decode cX17_weigh 6 = .ok (.istore_n 2, 1) := by decide +kernel
theorem dr_cX17_weigh_7 : decode cX17_weigh 7 = .ok (.iload_n 2, 1) := by decide +kernel
theorem dr_cX17_weigh_8 : decode cX17_weigh 8 = .ok (.sipush 2000, 3) := by decide +kernel
theorem dr_cX17_weigh_11 : decode cX17_weigh 11 = .ok (.if_icmp .ge 16, 3) := by decide +kernel
theorem dr_cX17_weigh_27 : decode cX17_weigh 27 = .ok (.iconst 0, 1) := by decide +kernel
theorem dr_cX17_weigh_28 : decode cX17_weigh 28 = .ok (.istore_n 2, 1) := by decide +kernel
theorem dr_cX17_weigh_29 : decode cX17_weigh 29 = .ok (.iload_n 2, 1) := by decide +kernel
theorem dr_cX17_weigh_30 : decode cX17_weigh 30 = .ok (.aload_n 1, 1) := by decide +kernel
theorem dr_cX17_weigh_31 : decode cX17_weigh 31 = .ok (.invokevirtual 96, 3) := by decide +kernel
theorem dr_cX17_weigh_34 : decode cX17_weigh 34 = .ok (.if_icmp .ge 167, 3) := by decide +kernel
theorem dr_cX17_weigh_201 : decode cX17_weigh 201 = .ok (.return_, 1) := by decide +kernel
theorem dr_cX17_weigh_37 : decode cX17_weigh 37 = .ok (.iconst 1, 1) := by decide +kernel
theorem dr_cX17_weigh_38 : decode cX17_weigh 38 = .ok (.istore_n 3, 1) := by decide +kernel
theorem dr_cX17_weigh_39 : decode cX17_weigh 39 = .ok (.iconst 0, 1) := by decide +kernel
theorem dr_cX17_weigh_40 : decode cX17_weigh 40 = .ok (.istore 4, 2) := by decide +kernel
theorem dr_cX17_weigh_42 : decode cX17_weigh 42 = .ok (.iload 4, 2) := by decide +kernel
theorem dr_cX17_weigh_44 : decode cX17_weigh 44 = .ok (.aload_n 0, 1) := by decide +kernel
theorem dr_cX17_weigh_45 : decode cX17_weigh 45 = .ok (.getfield 152, 3) := by decide +kernel
theorem dr_cX17_weigh_48 : decode cX17_weigh 48 = .ok (.iload_n 2, 1) := by decide +kernel
theorem dr_cX17_weigh_49 : decode cX17_weigh 49 = .ok (.iaload, 1) := by decide +kernel
theorem dr_cX17_weigh_50 : decode cX17_weigh 50 = .ok (.if_icmp .ge 14, 3) := by decide +kernel
theorem dr_cX17_weigh_64 : decode cX17_weigh 64 = .ok (.aload_n 1, 1) := by decide +kernel
theorem dr_cX17_weigh_65 : decode cX17_weigh 65 = .ok (.iload_n 2, 1) := by decide +kernel
theorem dr_cX17_weigh_66 : decode cX17_weigh 66 = .ok (.invokevirtual 101, 3) := by decide +kernel
theorem dr_cX17_weigh_69 : decode cX17_weigh 69 = .ok (.astore 4, 2) := by decide +kernel
theorem dr_cX17_weigh_71 : decode cX17_weigh 71 = .ok (.iconst 0, 1) := by decide +kernel
theorem dr_cX17_weigh_72 : decode cX17_weigh 72 = .ok (.istore 5, 2) := by decide +kernel
theorem dr_cX17_weigh_74 : decode cX17_weigh 74 = .ok (.iload 5, 2) := by decide +kernel
theorem dr_cX17_weigh_76 : decode cX17_weigh 76 = .ok (.aload 4, 2) := by decide +kernel
theorem dr_cX17_weigh_78 : decode cX17_weigh 78 = .ok (.getfield 117, 3) := by decide +kernel
theorem dr_cX17_weigh_81 : decode cX17_weigh 81 = .ok (.invokevirtual 121, 3) := by decide +kernel
theorem dr_cX17_weigh_84 : decode cX17_weigh 84 = .ok (.if_icmp .gt 111, 3) := by decide +kernel
theorem dr_cX17_weigh_195 : decode cX17_weigh 195 = .ok (.iinc 2 1, 3) := by decide +kernel
theorem dr_cX17_weigh_198 : decode cX17_weigh 198 = .ok (.goto (-169), 3) := by decide +kernel
theorem dr_cX17_weigh_87 : decode cX17_weigh 87 = .ok (.iload 5, 2) := by decide +kernel
theorem dr_cX17_weigh_89 : decode cX17_weigh 89 = .ok (.aload 4, 2) := by decide +kernel
theorem dr_cX17_weigh_91 : decode cX17_weigh 91 = .ok (.getfield 117, 3) := by decide +kernel
theorem dr_cX17_weigh_94 : decode cX17_weigh 94 = .ok (.invokevirtual 121, 3) := by decide +kernel
theorem dr_cX17_weigh_97 : decode cX17_weigh 97 = .ok (.if_icmp .ge 19, 3) := by decide +kernel
theorem dr_cX17_weigh_116 : decode cX17_weigh 116 = .ok (.aload 4, 2) := by decide +kernel
theorem dr_cX17_weigh_118 : decode cX17_weigh 118 = .ok (.getfield 109, 3) := by decide +kernel
theorem dr_cX17_weigh_121 : decode cX17_weigh 121 = .ok (.astore 6, 2) := by decide +kernel
theorem dr_cX17_weigh_123 : decode cX17_weigh 123 = .ok (.aload 6, 2) := by decide +kernel
theorem dr_cX17_weigh_125 : decode cX17_weigh 125 = .ok (.invokevirtual 48, 3) := by decide +kernel
theorem dr_cX17_weigh_128 : decode cX17_weigh 128 = .ok (.ifCond .eq 17, 3) := by decide +kernel
theorem dr_cX17_weigh_145 : decode cX17_weigh 145 = .ok (.aload 6, 2) := by decide +kernel
theorem dr_cX17_weigh_147 : decode cX17_weigh 147 = .ok (.invokevirtual 70, 3) := by decide +kernel
theorem dr_cX17_weigh_150 : decode cX17_weigh 150 = .ok (.ifCond .eq 17, 3) := by decide +kernel
theorem dr_cX17_weigh_167 : decode cX17_weigh 167 = .ok (.aload 6, 2) := by decide +kernel
theorem dr_cX17_weigh_169 : decode cX17_weigh 169 = .ok (.invokevirtual 76, 3) := by decide +kernel
theorem dr_cX17_weigh_172 : decode cX17_weigh 172 = .ok (.ifCond .eq 17, 3) := by decide +kernel
theorem dr_cX17_weigh_189 : decode cX17_weigh 189 = .ok (.iinc 5 1, 3) := by decide +kernel
theorem dr_cX17_weigh_192 : decode cX17_weigh 192 = .ok (.goto (-118), 3) := by decide +kernel
theorem dr_cX17_weigh_175 : decode cX17_weigh 175 = .ok (.aload_n 0, 1) := by decide +kernel
theorem dr_cX17_weigh_176 : decode cX17_weigh 176 = .ok (.getfield 174, 3) := by decide +kernel
theorem dr_cX17_weigh_179 : decode cX17_weigh 179 = .ok (.aload 6, 2) := by decide +kernel
theorem dr_cX17_weigh_181 : decode cX17_weigh 181 = .ok (.getfield 79, 3) := by decide +kernel
theorem dr_cX17_weigh_184 : decode cX17_weigh 184 = .ok (.dup2, 1) := by decide +kernel
theorem dr_cX17_weigh_185 : decode cX17_weigh 185 = .ok (.iaload, 1) := by decide +kernel
theorem dr_cX17_weigh_186 : decode cX17_weigh 186 = .ok (.iload_n 3, 1) := by decide +kernel
theorem dr_cX17_weigh_187 : decode cX17_weigh 187 = .ok (.iadd, 1) := by decide +kernel
theorem dr_cX17_weigh_188 : decode cX17_weigh 188 = .ok (.iastore, 1) := by decide +kernel
theorem dr_cX17_weigh_153 : decode cX17_weigh 153 = .ok (.aload_n 0, 1) := by decide +kernel
theorem dr_cX17_weigh_154 : decode cX17_weigh 154 = .ok (.getfield 174, 3) := by decide +kernel
theorem dr_cX17_weigh_157 : decode cX17_weigh 157 = .ok (.aload 6, 2) := by decide +kernel
theorem dr_cX17_weigh_159 : decode cX17_weigh 159 = .ok (.getfield 73, 3) := by decide +kernel
theorem dr_cX17_weigh_162 : decode cX17_weigh 162 = .ok (.dup2, 1) := by decide +kernel
theorem dr_cX17_weigh_163 : decode cX17_weigh 163 = .ok (.iaload, 1) := by decide +kernel
theorem dr_cX17_weigh_164 : decode cX17_weigh 164 = .ok (.iload_n 3, 1) := by decide +kernel
theorem dr_cX17_weigh_165 : decode cX17_weigh 165 = .ok (.iadd, 1) := by decide +kernel
theorem dr_cX17_weigh_166 : decode cX17_weigh 166 = .ok (.iastore, 1) := by decide +kernel
theorem dr_cX17_weigh_131 : decode cX17_weigh 131 = .ok (.aload_n 0, 1) := by decide +kernel
theorem dr_cX17_weigh_132 : decode cX17_weigh 132 = .ok (.getfield 174, 3) := by decide +kernel
theorem dr_cX17_weigh_135 : decode cX17_weigh 135 = .ok (.aload 6, 2) := by decide +kernel
theorem dr_cX17_weigh_137 : decode cX17_weigh 137 = .ok (.getfield 52, 3) := by decide +kernel
theorem dr_cX17_weigh_140 : decode cX17_weigh 140 = .ok (.dup2, 1) := by decide +kernel
theorem dr_cX17_weigh_141 : decode cX17_weigh 141 = .ok (.iaload, 1) := by decide +kernel
theorem dr_cX17_weigh_142 : decode cX17_weigh 142 = .ok (.iload_n 3, 1) := by decide +kernel
theorem dr_cX17_weigh_143 : decode cX17_weigh 143 = .ok (.iadd, 1) := by decide +kernel
theorem dr_cX17_weigh_144 : decode cX17_weigh 144 = .ok (.iastore, 1) := by decide +kernel
theorem dr_cX17_weigh_100 : decode cX17_weigh 100 = .ok (.aload 4, 2) := by decide +kernel
theorem dr_cX17_weigh_102 : decode cX17_weigh 102 = .ok (.getfield 117, 3) := by decide +kernel
theorem dr_cX17_weigh_105 : decode cX17_weigh 105 = .ok (.iload 5, 2) := by decide +kernel
theorem dr_cX17_weigh_107 : decode cX17_weigh 107 = .ok (.invokevirtual 124, 3) := by decide +kernel
theorem dr_cX17_weigh_110 : decode cX17_weigh 110 = .ok (.checkcast 40, 3) := by decide +kernel
theorem dr_cX17_weigh_113 : decode cX17_weigh 113 = .ok (.goto 8, 3) := by decide +kernel
theorem dr_cX17_weigh_53 : decode cX17_weigh 53 = .ok (.iload_n 3, 1) := by decide +kernel
theorem dr_cX17_weigh_54 : decode cX17_weigh 54 = .ok (.bipush 10, 2) := by decide +kernel
theorem dr_cX17_weigh_56 : decode cX17_weigh 56 = .ok (.imul, 1) := by decide +kernel
theorem dr_cX17_weigh_57 : decode cX17_weigh 57 = .ok (.istore_n 3, 1) := by decide +kernel
theorem dr_cX17_weigh_58 : decode cX17_weigh 58 = .ok (.iinc 4 1, 3) := by decide +kernel
theorem dr_cX17_weigh_61 : decode cX17_weigh 61 = .ok (.goto (-19), 3) := by decide +kernel
theorem dr_cX17_weigh_14 : decode cX17_weigh 14 = .ok (.aload_n 0, 1) := by decide +kernel
theorem dr_cX17_weigh_15 : decode cX17_weigh 15 = .ok (.getfield 174, 3) := by decide +kernel
theorem dr_cX17_weigh_18 : decode cX17_weigh 18 = .ok (.iload_n 2, 1) := by decide +kernel
theorem dr_cX17_weigh_19 : decode cX17_weigh 19 = .ok (.iconst 0, 1) := by decide +kernel
theorem dr_cX17_weigh_20 : decode cX17_weigh 20 = .ok (.iastore, 1) := by decide +kernel
theorem dr_cX17_weigh_21 : decode cX17_weigh 21 = .ok (.iinc 2 1, 3) := by decide +kernel
theorem dr_cX17_weigh_24 : decode cX17_weigh 24 = .ok (.goto (-17), 3) := by decide +kernel
abbrev ky_398626_SpillForgeModel_weigh : gKey := (cX17_weigh, 7, "SpillForgeModel", none, [], "weigh", fun _ _ => True)
def pt_398626_SpillForgeModel_weigh (D : va_G) (I : FieldType → ClassId) (γ el : Nat → Nat → Nat) (P398621 : List Nat) (F398622 : Nat → va_E) (q398623 : Nat) (q398624 : Nat) : Option Value → va_W → Nat → Nat → Prop := fun r w dc ds => ∃ (F563461 : Nat → va_E), r = none ∧ w = va_pl P398621 F563461 ∧ RS D I P398621 F563461 γ el ∧ rStr γ [] F398622 F563461 ∧ dc ≤ 0 ∧ ds ≤ 0 ∧ (F563461 q398623 = F398622 q398623) ∧ (F563461 (γ 9 3) = F398622 (γ 9 3))
set_option maxRecDepth 100000 in
set_option maxHeartbeats 4000000 in
theorem ct_398626_SpillForgeModel_weigh (l : Launch) (hl0 : l.stackTraces = false) (D : va_G) (I : FieldType → ClassId) (γ el : Nat → Nat → Nat) (P398621 : List Nat) (F398622 : Nat → va_E) (q398623 : Nat) (q398624 : Nat) (hT : RS D I P398621 F398622 γ el) (htq398623 : rKd γ q398623 10) (htq398624 : rKd γ q398624 9) (x398625 : 0 < γ 6 (γ 1 q398624)) : CtA (gV D I) l yX17_weigh cX17_weigh 7 none 6 144 0 0 [.ref q398623, .ref q398624] (va_pl P398621 F398622) (pt_398626_SpillForgeModel_weigh D I γ el P398621 F398622 q398623 q398624) gNA := by
  refine CtA_of hl0 (by decide) (Nat.le_of_ble_eq_true rfl) ?_
  have hm398627 : q398623 ∈ P398621 := RS_m hT htq398623 (by decide)
  refine rk10_e (show rk_10 γ (F398622 q398623) from RS_o hT htq398623) (fun q398629 q398630 p398631 p398632 p398633 p398634 p398635 p398636 p398637 p398638 p398639 p398640 p398641 p398642 p398643 p398644 p398645 he398628 hB398672 ht398646 ht398647 ht398648 ht398649 ht398650 ht398651 ht398652 ht398653 ht398654 ht398655 ht398656 ht398657 ht398658 ht398659 ht398660 ht398661 ht398662 ht398663 ht398664 ht398665 ht398666 ht398667 ht398668 ht398669 hB398673 => ?_)
  refine G_aload_n 0 dr_cX17_weigh_0 rfl ?_
  refine G_aload_n 1 dr_cX17_weigh_1 rfl ?_
  refine Gw_callV (As := [.ref q398624]) (gV_ok D I) (ct_398679_SpillForgeModel_findDepth l hl0 D I γ el P398621 F398622 q398623 q398624 hT htq398623 htq398624 (by omega)) dr_cX17_weigh_2 ⟨wr_11_37, wr_1_14, wr_11_40, by decide, rfl, (Nat.le_of_ble_eq_true rfl), (Nat.le_of_ble_eq_true rfl)⟩ wr_11_39 wr_p_105 hm398627 he398628 rfl (show 0 + 0 ≤ 0 by first | omega | decide) (show 0 + 0 ≤ 0 by first | omega | decide) (Nat.le_of_ble_eq_true rfl) (fun r520273 w520274 dc520270 ds520271 hp520272 => ?_) (fun _ _ _ _ _ z => z.elim)
  obtain ⟨F520277, rfl, rfl, hT520278, hs520279, hdc, hds, x520275, x520276⟩ := hp520272
  have hs520280 : rStr γ [] F398622 F520277 := rStr_tr (rStr_rf (γ := γ) (W := []) (F := F398622)) hs520279
  have kp520281 : F520277 q398623 = F398622 q398623 := x520275
  have kp520282 : F520277 (γ 9 3) = F398622 (γ 9 3) := x520276
  have he520283 : F520277 q398623 = .inr (22, [.ref (γ 9 0), .ref (γ 9 1), .ref (γ 9 2), .ref (γ 9 3), .ref (γ 9 4), .ref (γ 9 5), .ref (γ 9 6), .ref (γ 9 7), .ref (γ 9 8), .int p398631, .int p398632, .int p398633, .int p398634, .int p398635, .int p398636, .ref (γ 9 15), .ref (γ 9 16), .ref (γ 9 17), .ref (γ 9 18), .ref (γ 9 19), .ref (γ 9 20), .ref (γ 9 21), .ref (γ 9 22), .int p398637, .int p398638, .int p398639, .int p398640, .int p398641, .ref q398629, .ref (γ 9 29), .int p398642, .ref (γ 9 31), .int p398643, .int p398644, .int p398645, .ref q398630]) := (x520275).trans he398628
  change G _ _ _ _ _ _ _ _ _ _ _
  refine G_widen (cs' := 0) (sl' := 0) (by omega) (by omega) ?_
  refine G_iconst 0 dr_cX17_weigh_5 (by decide +kernel) ?_
  refine G_istore_n (L' := [(2, .int 0), (0, .ref q398623), (1, .ref q398624)]) dr_cX17_weigh_6 (Nat.le_of_ble_eq_true rfl) rfl ?_
  have hlp7_558957 : ∀ (n7_558957 : Nat) (F558953 : Nat → va_E) (g558952 : Int32), gB g558952 0 2000 → RS D I P398621 F558953 γ el → rStr γ [] F398622 F558953 → (F558953 q398623 = F398622 q398623) → (F558953 (γ 9 3) = F398622 (γ 9 3)) → ((2001 : Int) - g558952.toInt).toNat < n7_558957 → G (gV D I) l (gRm 6 144 0 0) (gMA (gV D I) (pt_398626_SpillForgeModel_weigh D I γ el P398621 F398622 q398623 q398624) gNA 0 0) ky_398626_SpillForgeModel_weigh 7 [(2, .int g558952), (0, .ref q398623), (1, .ref q398624)] [] (va_pl P398621 F558953) 0 0 := by
    intro n7_558957
    induction n7_558957 with
    | zero => intro F558953 g558952 bg558952 hT558954 hs558955 x558956 x558957 hm7_558957; exact absurd hm7_558957 (Nat.not_lt_zero _)
    | succ n7_558957 ih7_558957 =>
      intro F558953 g558952 bg558952 hT558954 hs558955 x558956 x558957 hm7_558957
      have hs558959 : rStr γ [] F520277 F558953 := fun b h0 hb hw => (hs558955 b h0 hb hw).trans (hs520280 b h0 hb hw).symm
      have hs558960 : rStr γ [] F398622 F558953 := rStr_tr hs520280 hs558959
      have he558961 : F558953 q398623 = .inr (22, [.ref (γ 9 0), .ref (γ 9 1), .ref (γ 9 2), .ref (γ 9 3), .ref (γ 9 4), .ref (γ 9 5), .ref (γ 9 6), .ref (γ 9 7), .ref (γ 9 8), .int p398631, .int p398632, .int p398633, .int p398634, .int p398635, .int p398636, .ref (γ 9 15), .ref (γ 9 16), .ref (γ 9 17), .ref (γ 9 18), .ref (γ 9 19), .ref (γ 9 20), .ref (γ 9 21), .ref (γ 9 22), .int p398637, .int p398638, .int p398639, .int p398640, .int p398641, .ref q398629, .ref (γ 9 29), .int p398642, .ref (γ 9 31), .int p398643, .int p398644, .int p398645, .ref q398630]) := x558956.trans he398628
      have hm558962 : q398623 ∈ P398621 := RS_m hT558954 htq398623 (by decide)
      refine G_iload_n 0 dr_cX17_weigh_7 rfl ?_
      refine G_sipush 2000 dr_cX17_weigh_8 (by decide +kernel) ?_
      refine G_icmp_ge 27 dr_cX17_weigh_11 (by decide +kernel) (fun hc558963 => ?_) (fun hc558963 => ?_)
      · have r558964 : 2000 ≤ g558952.toInt := gj_leL hc558963 (show Int32.toInt 2000 = 2000 by decide)
        have bg558952' : gB g558952 2000 2000 := ⟨by omega, by omega⟩
        refine G_iconst 0 dr_cX17_weigh_27 (by decide +kernel) ?_
        refine G_istore_n (L' := [(2, .int 0), (0, .ref q398623), (1, .ref q398624)]) dr_cX17_weigh_28 (Nat.le_of_ble_eq_true rfl) rfl ?_
        have hlp29_561209 : ∀ (n29_561209 : Nat) (F561205 : Nat → va_E) (g561204 : Int32), gB g561204 0 1000000 → RS D I P398621 F561205 γ el → rStr γ [] F398622 F561205 → (F561205 q398623 = F398622 q398623) → (F561205 (γ 9 3) = F398622 (γ 9 3)) → ((1000001 : Int) - g561204.toInt).toNat < n29_561209 → G (gV D I) l (gRm 6 144 0 0) (gMA (gV D I) (pt_398626_SpillForgeModel_weigh D I γ el P398621 F398622 q398623 q398624) gNA 0 0) ky_398626_SpillForgeModel_weigh 29 [(2, .int g561204), (0, .ref q398623), (1, .ref q398624)] [] (va_pl P398621 F561205) 0 0 := by
          intro n29_561209
          induction n29_561209 with
          | zero => intro F561205 g561204 bg561204 hT561206 hs561207 x561208 x561209 hm29_561209; exact absurd hm29_561209 (Nat.not_lt_zero _)
          | succ n29_561209 ih29_561209 =>
            intro F561205 g561204 bg561204 hT561206 hs561207 x561208 x561209 hm29_561209
            have hs561211 : rStr γ [] F558953 F561205 := fun b h0 hb hw => (hs561207 b h0 hb hw).trans (hs558955 b h0 hb hw).symm
            have hs561212 : rStr γ [] F398622 F561205 := rStr_tr hs558955 hs561211
            have he561213 : F561205 q398623 = .inr (22, [.ref (γ 9 0), .ref (γ 9 1), .ref (γ 9 2), .ref (γ 9 3), .ref (γ 9 4), .ref (γ 9 5), .ref (γ 9 6), .ref (γ 9 7), .ref (γ 9 8), .int p398631, .int p398632, .int p398633, .int p398634, .int p398635, .int p398636, .ref (γ 9 15), .ref (γ 9 16), .ref (γ 9 17), .ref (γ 9 18), .ref (γ 9 19), .ref (γ 9 20), .ref (γ 9 21), .ref (γ 9 22), .int p398637, .int p398638, .int p398639, .int p398640, .int p398641, .ref q398629, .ref (γ 9 29), .int p398642, .ref (γ 9 31), .int p398643, .int p398644, .int p398645, .ref q398630]) := x561208.trans he398628
            have hm561214 : q398623 ∈ P398621 := RS_m hT561206 htq398623 (by decide)
            refine G_iload_n 0 dr_cX17_weigh_29 rfl ?_
            refine G_aload_n 2 dr_cX17_weigh_30 rfl ?_
            have hm561215 : q398624 ∈ P398621 := RS_m hT561206 htq398624 (by decide)
            obtain ⟨q561217, q561218, p561219, p561220, he561216, ht561236, ht561221, ht561222, ht561223, ht561224, r561225, r561226, r561227, r561228, r561229, r561230, r561231, r561232, r561233, r561234, r561235⟩ := show rk_9 γ el q398624 (F561205 q398624) from RS_o hT561206 htq398624
            have bp561219 : gB p561219 0 1000000 := ⟨by omega, by omega⟩
            have bp561220 : gB p561220 0 1000000 := ⟨by omega, by omega⟩
            refine Gw_callV (As := []) (gV_ok D I) (cp_12496_Code_size l hl0 D I P398621 F561205 q398624 q561217 q561218 p561219 p561220 hm561215 he561216) dr_cX17_weigh_31 ⟨wr_10_160, wr_1_15, wr_9_131, by decide, rfl, (Nat.le_of_ble_eq_true rfl), (Nat.le_of_ble_eq_true rfl)⟩ wr_9_129 wr_9_130 hm561215 he561216 rfl (show 0 + 0 ≤ 0 by first | omega | decide) (show 0 + 0 ≤ 0 by first | omega | decide) (Nat.le_of_ble_eq_true rfl) (fun r561240 w561241 dc561237 ds561238 hp561239 => ?_) (fun _ _ _ _ _ z => z.elim)
            obtain ⟨rfl, rfl, hdc, hds⟩ := hp561239
            change G _ _ _ _ _ _ _ (.int p561220 :: _) _ _ _
            refine G_widen (cs' := 0) (sl' := 0) (by omega) (by omega) ?_
            refine G_icmp_ge 201 dr_cX17_weigh_34 (by decide +kernel) (fun hc561242 => ?_) (fun hc561242 => ?_)
            · have r561243 : p561220.toInt ≤ g561204.toInt := gC_le hc561242
              exact G_vretA dr_cX17_weigh_201 rfl (Nat.le_of_ble_eq_true rfl) (Nat.le_of_ble_eq_true rfl) ⟨F561205, rfl, rfl, hT561206, hs561207, (Nat.le_of_ble_eq_true rfl), (Nat.le_of_ble_eq_true rfl), x561208, x561209⟩
            · have r561244 : g561204.toInt < p561220.toInt := gC_nle hc561242
              have bg561204' : gB g561204 0 999999 := ⟨by omega, by omega⟩
              have bp561220' : gB p561220 1 1000000 := ⟨by omega, by omega⟩
              refine G_iconst 1 dr_cX17_weigh_37 (by decide +kernel) ?_
              refine G_istore_n (L' := [(3, .int 1), (2, .int g561204), (0, .ref q398623), (1, .ref q398624)]) dr_cX17_weigh_38 (Nat.le_of_ble_eq_true rfl) rfl ?_
              refine G_iconst 0 dr_cX17_weigh_39 (by decide +kernel) ?_
              refine G_istore (L' := [(4, .int 0), (3, .int 1), (2, .int g561204), (0, .ref q398623), (1, .ref q398624)]) dr_cX17_weigh_40 (Nat.le_of_ble_eq_true rfl) rfl ?_
              have hlp42_562346 : ∀ (n42_562346 : Nat) (g562345 : Int32) (g562346 : Int32), gB g562345 0 2147483647 → ((2147483648 : Int) - g562345.toInt).toNat < n42_562346 → G (gV D I) l (gRm 6 144 0 0) (gMA (gV D I) (pt_398626_SpillForgeModel_weigh D I γ el P398621 F398622 q398623 q398624) gNA 0 0) ky_398626_SpillForgeModel_weigh 42 [(4, .int g562345), (3, .int g562346), (2, .int g561204), (0, .ref q398623), (1, .ref q398624)] [] (va_pl P398621 F561205) 0 0 := by
                intro n42_562346
                induction n42_562346 with
                | zero => intro g562345 g562346 bg562345 hm42_562346; exact absurd hm42_562346 (Nat.not_lt_zero _)
                | succ n42_562346 ih42_562346 =>
                  intro g562345 g562346 bg562345 hm42_562346
                  have bg562346 := gB_any g562346
                  refine G_iload 0 dr_cX17_weigh_42 rfl ?_
                  refine G_aload_n 3 dr_cX17_weigh_44 rfl ?_
                  refine Gp_get 4 hm561214 he561213 dr_cX17_weigh_45 (gk_X17 D I) (Nat.le_of_ble_eq_true rfl) wr_7_78 rfl ?_
                  refine G_iload_n 2 dr_cX17_weigh_48 rfl ?_
                  have hm562348 : (γ 9 4) ∈ P398621 := RS_m hT561206 ht398652 (by decide)
                  obtain ⟨f562350, he562349⟩ := show rk_16 I (F561205 (γ 9 4)) from RS_o hT561206 ht398652
                  refine Gp_iald 0 hm562348 he562349 dr_cX17_weigh_49 rfl (gB_inr (by omega) (by omega)) (G_nam fun z562351 hz562351 => ?_)
                  have bz562351 : gB z562351 (-2147483648) 2147483647 := gB_any z562351
                  refine G_icmp_ge 64 dr_cX17_weigh_50 (by decide +kernel) (fun hc562352 => ?_) (fun hc562352 => ?_)
                  · have r562353 : z562351.toInt ≤ g562345.toInt := gC_le hc562352
                    refine G_aload_n 4 dr_cX17_weigh_64 rfl ?_
                    refine G_iload_n 2 dr_cX17_weigh_65 rfl ?_
                    have hm562354 : q561217 ∈ P398621 := RS_m hT561206 ht561221 (by decide)
                    obtain ⟨⟨p562356, p562357, q562358, he562355, r562359, r562360, r562361, r562363⟩, r562362⟩ := show rk_4 D I γ el F561205 q561217 from RS_o hT561206 ht561221
                    have bp562356 := gB_any p562356
                    have bp562357 : gB p562357 0 1000000 := ⟨by omega, by omega⟩
                    obtain ⟨r562364, r562365, n562372, f562373, r562366, r562367, r562368, r562369, r562370, r562371⟩ := rLC_n r562361 (by omega)
                    have hm562374 : q562358 ∈ P398621 := RS_m hT561206 r562364 (by decide)
                    obtain ⟨q562375, hx562376⟩ : ∃ x, x = el q561217 g561204.toInt.toNat := ⟨_, rfl⟩
                    have hx562377 : f562373 g561204.toNatClampNeg = some q562375 := (r562370 _ (show g561204.toInt.toNat < γ 2 q561217 by omega)).trans (by rw [hx562376])
                    have ht562380 : rKd γ q562375 2 := by rw [hx562376]; exact (r561232 _ (by omega)).resolve_right (fun z => absurd z.1 (by omega))
                    have ht562381 : rFm γ q562375 q561217 := by rw [hx562376]; exact (r562362 _ (show g561204.toInt.toNat < γ 2 q561217 by omega)).2.1
                    have hm562382 : q562375 ∈ P398621 := RS_m hT561206 ht562380 (by decide)
                    obtain ⟨q562384, q562385, p562386, p562387, he562383, ht562394, ht562388, ht562389, ht562390, ht562391, ht562392, bp562386, bp562387, r562393, r562395, r562396⟩ := show rk_2 γ q562375 (F561205 q562375) from RS_o hT561206 ht562380
                    refine Gw_callV (As := [.int g561204]) (gV_ok D I) (cp_7737_Code_get l hl0 D I P398621 F561205 q398624 q561217 q562358 g561204 q561218 p561219 p561220 p562356 p562357 f562373 n562372 q562375 q562384 q562385 p562386 p562387 hm561215 hm562354 hm562374 hm562382 he561216 he562355 r562366 he562383 (gB_w bg561204' (by decide) (by decide)) (gB_w bp562357 (by decide) (by decide)) (by omega) (by omega) (by assumption) (by omega)) dr_cX17_weigh_66 ⟨wr_10_161, wr_1_15, wr_10_141, by decide, rfl, (Nat.le_of_ble_eq_true rfl), (Nat.le_of_ble_eq_true rfl)⟩ wr_10_139 wr_10_140 hm561215 he561216 rfl (show 0 + 0 ≤ 0 by first | omega | decide) (show 0 + 0 ≤ 0 by first | omega | decide) (Nat.le_of_ble_eq_true rfl) (fun r562400 w562401 dc562397 ds562398 hp562399 => ?_) (fun _ _ _ _ _ z => z.elim)
                    obtain ⟨rfl, rfl, hdc, hds⟩ := hp562399
                    change G _ _ _ _ _ _ _ (.ref q562375 :: _) _ _ _
                    refine G_widen (cs' := 0) (sl' := 0) (by omega) (by omega) ?_
                    refine G_astore (L' := [(4, .ref q562375), (3, .int g562346), (2, .int g561204), (0, .ref q398623), (1, .ref q398624)]) dr_cX17_weigh_69 (Nat.le_of_ble_eq_true rfl) rfl ?_
                    refine G_iconst 0 dr_cX17_weigh_71 (by decide +kernel) ?_
                    refine G_istore (L' := [(5, .int 0), (4, .ref q562375), (3, .int g562346), (2, .int g561204), (0, .ref q398623), (1, .ref q398624)]) dr_cX17_weigh_72 (Nat.le_of_ble_eq_true rfl) rfl ?_
                    have hlp74_562926 : ∀ (n74_562926 : Nat) (F562922 : Nat → va_E) (g562921 : Int32), gB g562921 0 1000001 → RS D I P398621 F562922 γ el → rStr γ [] F398622 F562922 → (F562922 q398623 = F398622 q398623) → (F562922 (γ 9 3) = F398622 (γ 9 3)) → ((1000002 : Int) - g562921.toInt).toNat < n74_562926 → G (gV D I) l (gRm 6 144 0 0) (gMA (gV D I) (pt_398626_SpillForgeModel_weigh D I γ el P398621 F398622 q398623 q398624) gNA 0 0) ky_398626_SpillForgeModel_weigh 74 [(5, .int g562921), (4, .ref q562375), (3, .int g562346), (2, .int g561204), (0, .ref q398623), (1, .ref q398624)] [] (va_pl P398621 F562922) 0 0 := by
                      intro n74_562926
                      induction n74_562926 with
                      | zero => intro F562922 g562921 bg562921 hT562923 hs562924 x562925 x562926 hm74_562926; exact absurd hm74_562926 (Nat.not_lt_zero _)
                      | succ n74_562926 ih74_562926 =>
                        intro F562922 g562921 bg562921 hT562923 hs562924 x562925 x562926 hm74_562926
                        have hs562928 : rStr γ [] F561205 F562922 := fun b h0 hb hw => (hs562924 b h0 hb hw).trans (hs561207 b h0 hb hw).symm
                        have he562929 : F562922 q398624 = .inr (18, [.ref q561217, .ref q561218, .int p561219, .int p561220]) := (hs562928 q398624 (rT0 htq398624 (by decide)) (rT1 htq398624 (by decide)) (rT2 htq398624 (by decide))).trans he561216
                        have he562930 : F562922 q561217 = .inr (4, [.int p562356, .ref q562358, .int p562357]) := (hs562928 q561217 (rT0 ht561221 (by decide)) (rT1 ht561221 (by decide)) (rT2 ht561221 (by decide))).trans he562355
                        have he562931 : F562922 q562358 = .inl (I (.object "java/lang/Object"), n562372, .inr (.inr (.inr (.inr f562373)))) := (hs562928 q562358 (rT0 r562364 (by decide)) (rT1 r562364 (by decide)) (rT2 r562364 (by decide))).trans r562366
                        have he562932 : F562922 q562375 = .inr (17, [.ref q562384, .ref q562385, .int p562386, .int p562387]) := (hs562928 q562375 (rT0 ht562380 (by decide)) (rT1 ht562380 (by decide)) (rT2 ht562380 (by decide))).trans he562383
                        have hs562933 : rStr γ [] F398622 F562922 := rStr_tr hs561207 hs562928
                        have he562934 : F562922 q398623 = .inr (22, [.ref (γ 9 0), .ref (γ 9 1), .ref (γ 9 2), .ref (γ 9 3), .ref (γ 9 4), .ref (γ 9 5), .ref (γ 9 6), .ref (γ 9 7), .ref (γ 9 8), .int p398631, .int p398632, .int p398633, .int p398634, .int p398635, .int p398636, .ref (γ 9 15), .ref (γ 9 16), .ref (γ 9 17), .ref (γ 9 18), .ref (γ 9 19), .ref (γ 9 20), .ref (γ 9 21), .ref (γ 9 22), .int p398637, .int p398638, .int p398639, .int p398640, .int p398641, .ref q398629, .ref (γ 9 29), .int p398642, .ref (γ 9 31), .int p398643, .int p398644, .int p398645, .ref q398630]) := x562925.trans he398628
                        have hm562935 : q398623 ∈ P398621 := RS_m hT562923 htq398623 (by decide)
                        refine G_iload 0 dr_cX17_weigh_74 rfl ?_
                        refine G_aload 1 dr_cX17_weigh_76 rfl ?_
                        refine Gp_get 0 hm562382 he562932 dr_cX17_weigh_78 (gk_X12 D I) (Nat.le_of_ble_eq_true rfl) wr_9_220 rfl ?_
                        have hm562936 : q562384 ∈ P398621 := RS_m hT562923 ht562388 (by decide)
                        obtain ⟨⟨p562938, p562939, q562940, he562937, r562941, r562942, r562943, r562945⟩, r562944⟩ := show rk_3 D I γ el F562922 q562384 from RS_o hT562923 ht562388
                        have bp562938 := gB_any p562938
                        have bp562939 : gB p562939 0 1000000 := ⟨by omega, by omega⟩
                        refine Gw_callV (As := []) (gV_ok D I) (cp_7_ArrayList_size l hl0 D I P398621 F562922 q562384 p562938 q562940 p562939 hm562936 he562937 (gB_w bp562939 (by decide) (by decide))) dr_cX17_weigh_81 ⟨wr_10_200, wr_1_18, wr_9_160, by decide, rfl, (Nat.le_of_ble_eq_true rfl), (Nat.le_of_ble_eq_true rfl)⟩ wr_9_158 wr_9_159 hm562936 he562937 rfl (show 0 + 0 ≤ 0 by first | omega | decide) (show 0 + 0 ≤ 0 by first | omega | decide) (Nat.le_of_ble_eq_true rfl) (fun r562949 w562950 dc562946 ds562947 hp562948 => ?_) (fun _ _ _ _ _ z => z.elim)
                        obtain ⟨rfl, rfl, hdc, hds⟩ := hp562948
                        change G _ _ _ _ _ _ _ (.int p562939 :: _) _ _ _
                        refine G_widen (cs' := 0) (sl' := 0) (by omega) (by omega) ?_
                        refine G_icmp_gt 195 dr_cX17_weigh_84 (by decide +kernel) (fun hc562951 => ?_) (fun hc562951 => ?_)
                        · have r562952 : p562939.toInt < g562921.toInt := gC_lt hc562951
                          have bg562921' : gB g562921 1 1000001 := ⟨by omega, by omega⟩
                          obtain ⟨z562953, hz562953⟩ : ∃ z : Int32, z = g561204 + Int32.ofInt 1 := ⟨_, rfl⟩
                          have ez562953 : z562953.toInt = g561204.toInt + 1 := gI_inc hz562953 (by decide) bg561204' (by decide) (by decide)
                          have bz562953 : gB z562953 1 1000000 := ⟨by omega, by omega⟩
                          refine G_iinc (L' := [(2, .int z562953), (5, .int g562921), (4, .ref q562375), (3, .int g562346), (0, .ref q398623), (1, .ref q398624)]) z562953 3 dr_cX17_weigh_195 rfl hz562953.symm (Nat.le_of_ble_eq_true rfl) rfl ?_
                          refine G_goto 29 dr_cX17_weigh_198 (by decide +kernel) ?_
                          refine G_lv (L' := [(2, .int z562953), (0, .ref q398623), (1, .ref q398624)]) [0, 4, 5] rfl ?_
                          exact ih29_561209 F562922 z562953 (gB_w bz562953 (by decide) (by decide)) hT562923 hs562924 x562925 x562926 (mz_up ez562953 (Int.le_trans bg561204'.2 (by decide)) hm29_561209)
                        · have r562954 : g562921.toInt ≤ p562939.toInt := gC_nlt hc562951
                          have bg562921' : gB g562921 0 1000000 := ⟨by omega, by omega⟩
                          refine G_iload 0 dr_cX17_weigh_87 rfl ?_
                          refine G_aload 1 dr_cX17_weigh_89 rfl ?_
                          refine Gp_get 0 hm562382 he562932 dr_cX17_weigh_91 (gk_X12 D I) (Nat.le_of_ble_eq_true rfl) wr_9_220 rfl ?_
                          refine Gw_callV (As := []) (gV_ok D I) (cp_7_ArrayList_size l hl0 D I P398621 F562922 q562384 p562938 q562940 p562939 hm562936 he562937 (gB_w bp562939 (by decide) (by decide))) dr_cX17_weigh_94 ⟨wr_10_200, wr_1_18, wr_9_160, by decide, rfl, (Nat.le_of_ble_eq_true rfl), (Nat.le_of_ble_eq_true rfl)⟩ wr_9_158 wr_9_159 hm562936 he562937 rfl (show 0 + 0 ≤ 0 by first | omega | decide) (show 0 + 0 ≤ 0 by first | omega | decide) (Nat.le_of_ble_eq_true rfl) (fun r562958 w562959 dc562955 ds562956 hp562957 => ?_) (fun _ _ _ _ _ z => z.elim)
                          obtain ⟨rfl, rfl, hdc, hds⟩ := hp562957
                          change G _ _ _ _ _ _ _ (.int p562939 :: _) _ _ _
                          refine G_widen (cs' := 0) (sl' := 0) (by omega) (by omega) ?_
                          refine G_icmp_ge 116 dr_cX17_weigh_97 (by decide +kernel) (fun hc562960 => ?_) (fun hc562960 => ?_)
                          · have r562961 : p562939.toInt ≤ g562921.toInt := gC_le hc562960
                            refine G_aload 1 dr_cX17_weigh_116 rfl ?_
                            refine Gp_get 1 hm562382 he562932 dr_cX17_weigh_118 (gk_X12 D I) (Nat.le_of_ble_eq_true rfl) wr_9_223 rfl ?_
                            refine G_astore (L' := [(6, .ref q562385), (5, .int g562921), (4, .ref q562375), (3, .int g562346), (2, .int g561204), (0, .ref q398623), (1, .ref q398624)]) dr_cX17_weigh_121 (Nat.le_of_ble_eq_true rfl) rfl ?_
                            refine G_aload 0 dr_cX17_weigh_123 rfl ?_
                            have hm562962 : q562385 ∈ P398621 := RS_m hT562923 ht562390 (by decide)
                            obtain ⟨p562964, p562965, p562966, p562967, p562968, p562969, p562970, he562963, bp562964, bp562965, bp562968, bp562969, bp562970, r562971, r562972, r562973, r562974, r562975⟩ := show rk_1 γ q562385 (F562922 q562385) from RS_o hT562923 ht562390
                            have bp562966 := gB_any p562966
                            have bp562967 := gB_any p562967
                            refine Gw_callV (As := []) (gV_ok D I) (cp_1654_Row_sets l hl0 D I P398621 F562922 q562385 p562964 p562965 p562966 p562967 p562968 p562969 p562970 hm562962 he562963 bp562964 bp562965 bp562968 bp562969 bp562970) dr_cX17_weigh_125 ⟨wr_10_181, wr_1_39, wr_10_184, by decide, rfl, (Nat.le_of_ble_eq_true rfl), (Nat.le_of_ble_eq_true rfl)⟩ wr_10_182 wr_10_183 hm562962 he562963 rfl (show 0 + 0 ≤ 0 by first | omega | decide) (show 0 + 0 ≤ 0 by first | omega | decide) (Nat.le_of_ble_eq_true rfl) (fun r562979 w562980 dc562976 ds562977 hp562978 => ?_) (fun _ _ _ _ _ z => z.elim)
                            obtain ⟨o562981, rfl, rfl, hdc, hds, bo562981⟩ := hp562978
                            change G _ _ _ _ _ _ _ (.int o562981 :: _) _ _ _
                            refine G_widen (cs' := 0) (sl' := 0) (by omega) (by omega) ?_
                            refine G_if_eq 145 dr_cX17_weigh_128 (by decide +kernel) (fun hc562982 => ?_) (fun hc562982 => ?_)
                            · have r562983 : o562981.toInt = 0 := gj_eq hc562982 (show Int32.toInt 0 = 0 by decide)
                              have bo562981' : gB o562981 0 0 := gB_t0 r562983
                              refine G_aload 0 dr_cX17_weigh_145 rfl ?_
                              refine Gw_callV (As := []) (gV_ok D I) (cp_1669_Row_usesA l hl0 D I P398621 F562922 q562385 p562964 p562965 p562966 p562967 p562968 p562969 p562970 hm562962 he562963 bp562964 bp562965 bp562968 bp562969 bp562970) dr_cX17_weigh_147 ⟨wr_10_192, wr_1_39, wr_10_195, by decide, rfl, (Nat.le_of_ble_eq_true rfl), (Nat.le_of_ble_eq_true rfl)⟩ wr_10_193 wr_10_194 hm562962 he562963 rfl (show 0 + 0 ≤ 0 by first | omega | decide) (show 0 + 0 ≤ 0 by first | omega | decide) (Nat.le_of_ble_eq_true rfl) (fun r562987 w562988 dc562984 ds562985 hp562986 => ?_) (fun _ _ _ _ _ z => z.elim)
                              obtain ⟨o562989, rfl, rfl, hdc, hds, bo562989, x562990⟩ := hp562986
                              change G _ _ _ _ _ _ _ (.int o562989 :: _) _ _ _
                              refine G_widen (cs' := 0) (sl' := 0) (by omega) (by omega) ?_
                              refine G_if_eq 167 dr_cX17_weigh_150 (by decide +kernel) (fun hc562991 => ?_) (fun hc562991 => ?_)
                              · have r562992 : o562989.toInt = 0 := gj_eq hc562991 (show Int32.toInt 0 = 0 by decide)
                                have bo562989' : gB o562989 0 0 := gB_t0 r562992
                                refine G_aload 0 dr_cX17_weigh_167 rfl ?_
                                refine Gw_callV (As := []) (gV_ok D I) (cp_1693_Row_usesB l hl0 D I P398621 F562922 q562385 p562964 p562965 p562966 p562967 p562968 p562969 p562970 hm562962 he562963 bp562964 bp562965 bp562968 bp562969 bp562970) dr_cX17_weigh_169 ⟨wr_10_196, wr_1_39, wr_10_199, by decide, rfl, (Nat.le_of_ble_eq_true rfl), (Nat.le_of_ble_eq_true rfl)⟩ wr_10_197 wr_10_198 hm562962 he562963 rfl (show 0 + 0 ≤ 0 by first | omega | decide) (show 0 + 0 ≤ 0 by first | omega | decide) (Nat.le_of_ble_eq_true rfl) (fun r562996 w562997 dc562993 ds562994 hp562995 => ?_) (fun _ _ _ _ _ z => z.elim)
                                obtain ⟨o562998, rfl, rfl, hdc, hds, bo562998, x562999⟩ := hp562995
                                change G _ _ _ _ _ _ _ (.int o562998 :: _) _ _ _
                                refine G_widen (cs' := 0) (sl' := 0) (by omega) (by omega) ?_
                                refine G_if_eq 189 dr_cX17_weigh_172 (by decide +kernel) (fun hc563000 => ?_) (fun hc563000 => ?_)
                                · have r563001 : o562998.toInt = 0 := gj_eq hc563000 (show Int32.toInt 0 = 0 by decide)
                                  have bo562998' : gB o562998 0 0 := gB_t0 r563001
                                  obtain ⟨z563002, hz563002⟩ : ∃ z : Int32, z = g562921 + Int32.ofInt 1 := ⟨_, rfl⟩
                                  have ez563002 : z563002.toInt = g562921.toInt + 1 := gI_inc hz563002 (by decide) bg562921' (by decide) (by decide)
                                  have bz563002 : gB z563002 1 1000001 := ⟨by omega, by omega⟩
                                  refine G_iinc (L' := [(5, .int z563002), (6, .ref q562385), (4, .ref q562375), (3, .int g562346), (2, .int g561204), (0, .ref q398623), (1, .ref q398624)]) z563002 1 dr_cX17_weigh_189 rfl hz563002.symm (Nat.le_of_ble_eq_true rfl) rfl ?_
                                  refine G_goto 74 dr_cX17_weigh_192 (by decide +kernel) ?_
                                  refine G_lv (L' := [(5, .int z563002), (4, .ref q562375), (3, .int g562346), (2, .int g561204), (0, .ref q398623), (1, .ref q398624)]) [0, 2, 3, 4, 5, 6] rfl ?_
                                  exact ih74_562926 F562922 z563002 (gB_w bz563002 (by decide) (by decide)) hT562923 hs562924 x562925 x562926 (mz_up ez563002 (Int.le_trans bg562921'.2 (by decide)) hm74_562926)
                                · have r563003 : o562998.toInt ≠ 0 := gj_neq hc563000 (show Int32.toInt 0 = 0 by decide)
                                  have bo562998' : gB o562998 1 1 := gB_t1 bo562998 r563003
                                  refine G_aload_n 5 dr_cX17_weigh_175 rfl ?_
                                  refine Gp_get 5 hm562935 he562934 dr_cX17_weigh_176 (gk_X17 D I) (Nat.le_of_ble_eq_true rfl) wr_7_79 rfl ?_
                                  refine G_aload 0 dr_cX17_weigh_179 rfl ?_
                                  refine Gp_get 3 hm562962 he562963 dr_cX17_weigh_181 (gk_X15 D I) (Nat.le_of_ble_eq_true rfl) wr_9_190 rfl ?_
                                  refine G_dup2_11 dr_cX17_weigh_184 rfl rfl ?_
                                  have hm563004 : (γ 9 5) ∈ P398621 := RS_m hT562923 ht398653 (by decide)
                                  obtain ⟨f563006, he563005⟩ := show rk_17 I (F562922 (γ 9 5)) from RS_o hT562923 ht398653
                                  refine Gp_iald 0 hm563004 he563005 dr_cX17_weigh_185 rfl (gB_inr (by omega) (by omega)) (G_nam fun z563007 hz563007 => ?_)
                                  have bz563007 : gB z563007 (-2147483648) 2147483647 := gB_any z563007
                                  refine G_iload_n 3 dr_cX17_weigh_186 rfl ?_
                                  refine G_iadd dr_cX17_weigh_187 (G_nam fun z563008 hz563008 => ?_)
                                  have bz563008 : gB z563008 (-2147483648) 2147483647 := gB_any z563008
                                  refine Gp_iast 0 hm563004 he563005 dr_cX17_weigh_188 rfl (gB_inr (by omega) (by omega)) (fun F563009 e563010 n563011 => ?_)
                                  obtain ⟨f563012, hf563012⟩ : ∃ z, z = upd f563006 p562967.toNatClampNeg z563008 := ⟨_, rfl⟩
                                  rw [← hf563012] at e563010
                                  have he563013 : F563009 q398624 = .inr (18, [.ref q561217, .ref q561218, .int p561219, .int p561220]) := (n563011 q398624 (rn_oa he562929 he563005)).trans he562929
                                  have he563014 : F563009 q561217 = .inr (4, [.int p562356, .ref q562358, .int p562357]) := (n563011 q561217 (rn_oa he562930 he563005)).trans he562930
                                  have he563015 : F563009 q562358 = .inl (I (.object "java/lang/Object"), n562372, .inr (.inr (.inr (.inr f562373)))) := (n563011 q562358 (rn_ref_num he562931 he563005)).trans he562931
                                  have he563016 : F563009 q562375 = .inr (17, [.ref q562384, .ref q562385, .int p562386, .int p562387]) := (n563011 q562375 (rn_oa he562932 he563005)).trans he562932
                                  have he563017 : F563009 q398623 = .inr (22, [.ref (γ 9 0), .ref (γ 9 1), .ref (γ 9 2), .ref (γ 9 3), .ref (γ 9 4), .ref (γ 9 5), .ref (γ 9 6), .ref (γ 9 7), .ref (γ 9 8), .int p398631, .int p398632, .int p398633, .int p398634, .int p398635, .int p398636, .ref (γ 9 15), .ref (γ 9 16), .ref (γ 9 17), .ref (γ 9 18), .ref (γ 9 19), .ref (γ 9 20), .ref (γ 9 21), .ref (γ 9 22), .int p398637, .int p398638, .int p398639, .int p398640, .int p398641, .ref q398629, .ref (γ 9 29), .int p398642, .ref (γ 9 31), .int p398643, .int p398644, .int p398645, .ref q398630]) := (n563011 q398623 (rn_oa he562934 he563005)).trans he562934
                                  have he563018 : F563009 q562384 = .inr (4, [.int p562938, .ref q562940, .int p562939]) := (n563011 q562384 (rn_oa he562937 he563005)).trans he562937
                                  have he563019 : F563009 q562385 = .inr (20, [.int p562964, .int p562965, .int p562966, .int p562967, .int p562968, .int p562969, .int p562970]) := (n563011 q562385 (rn_oa he562963 he563005)).trans he562963
                                  have he563020 : F563009 (γ 9 5) = .inl (I .int, 2000, .inl f563012) := e563010
                                  have hs563021 : rStr γ [] F398622 F563009 := rStr_put hs562924 n563011 ht398653 (by decide)
                                  have kp563022 : F563009 q398623 = F398622 q398623 := (n563011 q398623 (rn_ty htq398623 ht398653 (by decide))).trans x562925
                                  have kp563023 : F563009 (γ 9 3) = F398622 (γ 9 3) := (n563011 (γ 9 3) (rn_ty ht398651 ht398653 (by decide))).trans x562926
                                  obtain ⟨z563024, hz563024⟩ : ∃ z : Int32, z = g562921 + Int32.ofInt 1 := ⟨_, rfl⟩
                                  have ez563024 : z563024.toInt = g562921.toInt + 1 := gI_inc hz563024 (by decide) bg562921' (by decide) (by decide)
                                  have bz563024 : gB z563024 1 1000001 := ⟨by omega, by omega⟩
                                  refine G_iinc (L' := [(5, .int z563024), (6, .ref q562385), (4, .ref q562375), (3, .int g562346), (2, .int g561204), (0, .ref q398623), (1, .ref q398624)]) z563024 1 dr_cX17_weigh_189 rfl hz563024.symm (Nat.le_of_ble_eq_true rfl) rfl ?_
                                  refine G_goto 74 dr_cX17_weigh_192 (by decide +kernel) ?_
                                  have hT563025 : RS D I P398621 F563009 γ el := RS_set hT562923 n563011 ht398653 (by decide) ⟨f563012, he563020⟩
                                  refine G_lv (L' := [(5, .int z563024), (4, .ref q562375), (3, .int g562346), (2, .int g561204), (0, .ref q398623), (1, .ref q398624)]) [0, 2, 3, 4, 5, 6] rfl ?_
                                  exact ih74_562926 F563009 z563024 (gB_w bz563024 (by decide) (by decide)) hT563025 hs563021 kp563022 kp563023 (mz_up ez563024 (Int.le_trans bg562921'.2 (by decide)) hm74_562926)
                              · have r563026 : o562989.toInt ≠ 0 := gj_neq hc562991 (show Int32.toInt 0 = 0 by decide)
                                have bo562989' : gB o562989 1 1 := gB_t1 bo562989 r563026
                                refine G_aload_n 5 dr_cX17_weigh_153 rfl ?_
                                refine Gp_get 5 hm562935 he562934 dr_cX17_weigh_154 (gk_X17 D I) (Nat.le_of_ble_eq_true rfl) wr_7_79 rfl ?_
                                refine G_aload 0 dr_cX17_weigh_157 rfl ?_
                                refine Gp_get 2 hm562962 he562963 dr_cX17_weigh_159 (gk_X15 D I) (Nat.le_of_ble_eq_true rfl) wr_9_186 rfl ?_
                                refine G_dup2_11 dr_cX17_weigh_162 rfl rfl ?_
                                have hm563027 : (γ 9 5) ∈ P398621 := RS_m hT562923 ht398653 (by decide)
                                obtain ⟨f563029, he563028⟩ := show rk_17 I (F562922 (γ 9 5)) from RS_o hT562923 ht398653
                                refine Gp_iald 0 hm563027 he563028 dr_cX17_weigh_163 rfl (gB_inr (by omega) (by omega)) (G_nam fun z563030 hz563030 => ?_)
                                have bz563030 : gB z563030 (-2147483648) 2147483647 := gB_any z563030
                                refine G_iload_n 3 dr_cX17_weigh_164 rfl ?_
                                refine G_iadd dr_cX17_weigh_165 (G_nam fun z563031 hz563031 => ?_)
                                have bz563031 : gB z563031 (-2147483648) 2147483647 := gB_any z563031
                                refine Gp_iast 0 hm563027 he563028 dr_cX17_weigh_166 rfl (gB_inr (by omega) (by omega)) (fun F563032 e563033 n563034 => ?_)
                                obtain ⟨f563035, hf563035⟩ : ∃ z, z = upd f563029 p562966.toNatClampNeg z563031 := ⟨_, rfl⟩
                                rw [← hf563035] at e563033
                                have he563036 : F563032 q398624 = .inr (18, [.ref q561217, .ref q561218, .int p561219, .int p561220]) := (n563034 q398624 (rn_oa he562929 he563028)).trans he562929
                                have he563037 : F563032 q561217 = .inr (4, [.int p562356, .ref q562358, .int p562357]) := (n563034 q561217 (rn_oa he562930 he563028)).trans he562930
                                have he563038 : F563032 q562358 = .inl (I (.object "java/lang/Object"), n562372, .inr (.inr (.inr (.inr f562373)))) := (n563034 q562358 (rn_ref_num he562931 he563028)).trans he562931
                                have he563039 : F563032 q562375 = .inr (17, [.ref q562384, .ref q562385, .int p562386, .int p562387]) := (n563034 q562375 (rn_oa he562932 he563028)).trans he562932
                                have he563040 : F563032 q398623 = .inr (22, [.ref (γ 9 0), .ref (γ 9 1), .ref (γ 9 2), .ref (γ 9 3), .ref (γ 9 4), .ref (γ 9 5), .ref (γ 9 6), .ref (γ 9 7), .ref (γ 9 8), .int p398631, .int p398632, .int p398633, .int p398634, .int p398635, .int p398636, .ref (γ 9 15), .ref (γ 9 16), .ref (γ 9 17), .ref (γ 9 18), .ref (γ 9 19), .ref (γ 9 20), .ref (γ 9 21), .ref (γ 9 22), .int p398637, .int p398638, .int p398639, .int p398640, .int p398641, .ref q398629, .ref (γ 9 29), .int p398642, .ref (γ 9 31), .int p398643, .int p398644, .int p398645, .ref q398630]) := (n563034 q398623 (rn_oa he562934 he563028)).trans he562934
                                have he563041 : F563032 q562384 = .inr (4, [.int p562938, .ref q562940, .int p562939]) := (n563034 q562384 (rn_oa he562937 he563028)).trans he562937
                                have he563042 : F563032 q562385 = .inr (20, [.int p562964, .int p562965, .int p562966, .int p562967, .int p562968, .int p562969, .int p562970]) := (n563034 q562385 (rn_oa he562963 he563028)).trans he562963
                                have he563043 : F563032 (γ 9 5) = .inl (I .int, 2000, .inl f563035) := e563033
                                have hs563044 : rStr γ [] F398622 F563032 := rStr_put hs562924 n563034 ht398653 (by decide)
                                have kp563045 : F563032 q398623 = F398622 q398623 := (n563034 q398623 (rn_ty htq398623 ht398653 (by decide))).trans x562925
                                have kp563046 : F563032 (γ 9 3) = F398622 (γ 9 3) := (n563034 (γ 9 3) (rn_ty ht398651 ht398653 (by decide))).trans x562926
                                refine G_aload 0 dr_cX17_weigh_167 rfl ?_
                                have hT563047 : RS D I P398621 F563032 γ el := RS_set hT562923 n563034 ht398653 (by decide) ⟨f563035, he563043⟩
                                refine Gw_callV (As := []) (gV_ok D I) (cp_1693_Row_usesB l hl0 D I P398621 F563032 q562385 p562964 p562965 p562966 p562967 p562968 p562969 p562970 hm562962 he563042 bp562964 bp562965 bp562968 bp562969 bp562970) dr_cX17_weigh_169 ⟨wr_10_196, wr_1_39, wr_10_199, by decide, rfl, (Nat.le_of_ble_eq_true rfl), (Nat.le_of_ble_eq_true rfl)⟩ wr_10_197 wr_10_198 hm562962 he563042 rfl (show 0 + 0 ≤ 0 by first | omega | decide) (show 0 + 0 ≤ 0 by first | omega | decide) (Nat.le_of_ble_eq_true rfl) (fun r563051 w563052 dc563048 ds563049 hp563050 => ?_) (fun _ _ _ _ _ z => z.elim)
                                obtain ⟨o563053, rfl, rfl, hdc, hds, bo563053, x563054⟩ := hp563050
                                change G _ _ _ _ _ _ _ (.int o563053 :: _) _ _ _
                                refine G_widen (cs' := 0) (sl' := 0) (by omega) (by omega) ?_
                                refine G_if_eq 189 dr_cX17_weigh_172 (by decide +kernel) (fun hc563055 => ?_) (fun hc563055 => ?_)
                                · have r563056 : o563053.toInt = 0 := gj_eq hc563055 (show Int32.toInt 0 = 0 by decide)
                                  have bo563053' : gB o563053 0 0 := gB_t0 r563056
                                  obtain ⟨z563057, hz563057⟩ : ∃ z : Int32, z = g562921 + Int32.ofInt 1 := ⟨_, rfl⟩
                                  have ez563057 : z563057.toInt = g562921.toInt + 1 := gI_inc hz563057 (by decide) bg562921' (by decide) (by decide)
                                  have bz563057 : gB z563057 1 1000001 := ⟨by omega, by omega⟩
                                  refine G_iinc (L' := [(5, .int z563057), (6, .ref q562385), (4, .ref q562375), (3, .int g562346), (2, .int g561204), (0, .ref q398623), (1, .ref q398624)]) z563057 1 dr_cX17_weigh_189 rfl hz563057.symm (Nat.le_of_ble_eq_true rfl) rfl ?_
                                  refine G_goto 74 dr_cX17_weigh_192 (by decide +kernel) ?_
                                  refine G_lv (L' := [(5, .int z563057), (4, .ref q562375), (3, .int g562346), (2, .int g561204), (0, .ref q398623), (1, .ref q398624)]) [0, 2, 3, 4, 5, 6] rfl ?_
                                  exact ih74_562926 F563032 z563057 (gB_w bz563057 (by decide) (by decide)) hT563047 hs563044 kp563045 kp563046 (mz_up ez563057 (Int.le_trans bg562921'.2 (by decide)) hm74_562926)
                                · have r563058 : o563053.toInt ≠ 0 := gj_neq hc563055 (show Int32.toInt 0 = 0 by decide)
                                  have bo563053' : gB o563053 1 1 := gB_t1 bo563053 r563058
                                  refine G_aload_n 5 dr_cX17_weigh_175 rfl ?_
                                  refine Gp_get 5 hm562935 he563040 dr_cX17_weigh_176 (gk_X17 D I) (Nat.le_of_ble_eq_true rfl) wr_7_79 rfl ?_
                                  refine G_aload 0 dr_cX17_weigh_179 rfl ?_
                                  refine Gp_get 3 hm562962 he563042 dr_cX17_weigh_181 (gk_X15 D I) (Nat.le_of_ble_eq_true rfl) wr_9_190 rfl ?_
                                  refine G_dup2_11 dr_cX17_weigh_184 rfl rfl ?_
                                  refine Gp_iald 0 hm563027 he563043 dr_cX17_weigh_185 rfl (gB_inr (by omega) (by omega)) (G_nam fun z563059 hz563059 => ?_)
                                  have bz563059 : gB z563059 (-2147483648) 2147483647 := gB_any z563059
                                  refine G_iload_n 3 dr_cX17_weigh_186 rfl ?_
                                  refine G_iadd dr_cX17_weigh_187 (G_nam fun z563060 hz563060 => ?_)
                                  have bz563060 : gB z563060 (-2147483648) 2147483647 := gB_any z563060
                                  refine Gp_iast 0 hm563027 he563043 dr_cX17_weigh_188 rfl (gB_inr (by omega) (by omega)) (fun F563061 e563062 n563063 => ?_)
                                  obtain ⟨f563064, hf563064⟩ : ∃ z, z = upd f563035 p562967.toNatClampNeg z563060 := ⟨_, rfl⟩
                                  rw [← hf563064] at e563062
                                  have he563065 : F563061 q398624 = .inr (18, [.ref q561217, .ref q561218, .int p561219, .int p561220]) := (n563063 q398624 (rn_oa he563036 he563043)).trans he563036
                                  have he563066 : F563061 q561217 = .inr (4, [.int p562356, .ref q562358, .int p562357]) := (n563063 q561217 (rn_oa he563037 he563043)).trans he563037
                                  have he563067 : F563061 q562358 = .inl (I (.object "java/lang/Object"), n562372, .inr (.inr (.inr (.inr f562373)))) := (n563063 q562358 (rn_ref_num he563038 he563043)).trans he563038
                                  have he563068 : F563061 q562375 = .inr (17, [.ref q562384, .ref q562385, .int p562386, .int p562387]) := (n563063 q562375 (rn_oa he563039 he563043)).trans he563039
                                  have he563069 : F563061 q398623 = .inr (22, [.ref (γ 9 0), .ref (γ 9 1), .ref (γ 9 2), .ref (γ 9 3), .ref (γ 9 4), .ref (γ 9 5), .ref (γ 9 6), .ref (γ 9 7), .ref (γ 9 8), .int p398631, .int p398632, .int p398633, .int p398634, .int p398635, .int p398636, .ref (γ 9 15), .ref (γ 9 16), .ref (γ 9 17), .ref (γ 9 18), .ref (γ 9 19), .ref (γ 9 20), .ref (γ 9 21), .ref (γ 9 22), .int p398637, .int p398638, .int p398639, .int p398640, .int p398641, .ref q398629, .ref (γ 9 29), .int p398642, .ref (γ 9 31), .int p398643, .int p398644, .int p398645, .ref q398630]) := (n563063 q398623 (rn_oa he563040 he563043)).trans he563040
                                  have he563070 : F563061 q562384 = .inr (4, [.int p562938, .ref q562940, .int p562939]) := (n563063 q562384 (rn_oa he563041 he563043)).trans he563041
                                  have he563071 : F563061 q562385 = .inr (20, [.int p562964, .int p562965, .int p562966, .int p562967, .int p562968, .int p562969, .int p562970]) := (n563063 q562385 (rn_oa he563042 he563043)).trans he563042
                                  have he563072 : F563061 (γ 9 5) = .inl (I .int, 2000, .inl f563064) := e563062
                                  have hs563073 : rStr γ [] F398622 F563061 := rStr_put hs563044 n563063 ht398653 (by decide)
                                  have kp563074 : F563061 q398623 = F398622 q398623 := (n563063 q398623 (rn_ty htq398623 ht398653 (by decide))).trans kp563045
                                  have kp563075 : F563061 (γ 9 3) = F398622 (γ 9 3) := (n563063 (γ 9 3) (rn_ty ht398651 ht398653 (by decide))).trans kp563046
                                  obtain ⟨z563076, hz563076⟩ : ∃ z : Int32, z = g562921 + Int32.ofInt 1 := ⟨_, rfl⟩
                                  have ez563076 : z563076.toInt = g562921.toInt + 1 := gI_inc hz563076 (by decide) bg562921' (by decide) (by decide)
                                  have bz563076 : gB z563076 1 1000001 := ⟨by omega, by omega⟩
                                  refine G_iinc (L' := [(5, .int z563076), (6, .ref q562385), (4, .ref q562375), (3, .int g562346), (2, .int g561204), (0, .ref q398623), (1, .ref q398624)]) z563076 1 dr_cX17_weigh_189 rfl hz563076.symm (Nat.le_of_ble_eq_true rfl) rfl ?_
                                  refine G_goto 74 dr_cX17_weigh_192 (by decide +kernel) ?_
                                  have hT563077 : RS D I P398621 F563061 γ el := RS_set hT563047 n563063 ht398653 (by decide) ⟨f563064, he563072⟩
                                  refine G_lv (L' := [(5, .int z563076), (4, .ref q562375), (3, .int g562346), (2, .int g561204), (0, .ref q398623), (1, .ref q398624)]) [0, 2, 3, 4, 5, 6] rfl ?_
                                  exact ih74_562926 F563061 z563076 (gB_w bz563076 (by decide) (by decide)) hT563077 hs563073 kp563074 kp563075 (mz_up ez563076 (Int.le_trans bg562921'.2 (by decide)) hm74_562926)
                            · have r563078 : o562981.toInt ≠ 0 := gj_neq hc562982 (show Int32.toInt 0 = 0 by decide)
                              have bo562981' : gB o562981 1 1 := gB_t1 bo562981 r563078
                              refine G_aload_n 5 dr_cX17_weigh_131 rfl ?_
                              refine Gp_get 5 hm562935 he562934 dr_cX17_weigh_132 (gk_X17 D I) (Nat.le_of_ble_eq_true rfl) wr_7_79 rfl ?_
                              refine G_aload 0 dr_cX17_weigh_135 rfl ?_
                              refine Gp_get 1 hm562962 he562963 dr_cX17_weigh_137 (gk_X15 D I) (Nat.le_of_ble_eq_true rfl) wr_9_182 rfl ?_
                              refine G_dup2_11 dr_cX17_weigh_140 rfl rfl ?_
                              have hm563079 : (γ 9 5) ∈ P398621 := RS_m hT562923 ht398653 (by decide)
                              obtain ⟨f563081, he563080⟩ := show rk_17 I (F562922 (γ 9 5)) from RS_o hT562923 ht398653
                              refine Gp_iald 0 hm563079 he563080 dr_cX17_weigh_141 rfl (gB_in bp562965 (by decide) (by decide)) (G_nam fun z563082 hz563082 => ?_)
                              have bz563082 : gB z563082 (-2147483648) 2147483647 := gB_any z563082
                              refine G_iload_n 3 dr_cX17_weigh_142 rfl ?_
                              refine G_iadd dr_cX17_weigh_143 (G_nam fun z563083 hz563083 => ?_)
                              have bz563083 : gB z563083 (-2147483648) 2147483647 := gB_any z563083
                              refine Gp_iast 0 hm563079 he563080 dr_cX17_weigh_144 rfl (gB_in bp562965 (by decide) (by decide)) (fun F563084 e563085 n563086 => ?_)
                              obtain ⟨f563087, hf563087⟩ : ∃ z, z = upd f563081 p562965.toNatClampNeg z563083 := ⟨_, rfl⟩
                              rw [← hf563087] at e563085
                              have he563088 : F563084 q398624 = .inr (18, [.ref q561217, .ref q561218, .int p561219, .int p561220]) := (n563086 q398624 (rn_oa he562929 he563080)).trans he562929
                              have he563089 : F563084 q561217 = .inr (4, [.int p562356, .ref q562358, .int p562357]) := (n563086 q561217 (rn_oa he562930 he563080)).trans he562930
                              have he563090 : F563084 q562358 = .inl (I (.object "java/lang/Object"), n562372, .inr (.inr (.inr (.inr f562373)))) := (n563086 q562358 (rn_ref_num he562931 he563080)).trans he562931
                              have he563091 : F563084 q562375 = .inr (17, [.ref q562384, .ref q562385, .int p562386, .int p562387]) := (n563086 q562375 (rn_oa he562932 he563080)).trans he562932
                              have he563092 : F563084 q398623 = .inr (22, [.ref (γ 9 0), .ref (γ 9 1), .ref (γ 9 2), .ref (γ 9 3), .ref (γ 9 4), .ref (γ 9 5), .ref (γ 9 6), .ref (γ 9 7), .ref (γ 9 8), .int p398631, .int p398632, .int p398633, .int p398634, .int p398635, .int p398636, .ref (γ 9 15), .ref (γ 9 16), .ref (γ 9 17), .ref (γ 9 18), .ref (γ 9 19), .ref (γ 9 20), .ref (γ 9 21), .ref (γ 9 22), .int p398637, .int p398638, .int p398639, .int p398640, .int p398641, .ref q398629, .ref (γ 9 29), .int p398642, .ref (γ 9 31), .int p398643, .int p398644, .int p398645, .ref q398630]) := (n563086 q398623 (rn_oa he562934 he563080)).trans he562934
                              have he563093 : F563084 q562384 = .inr (4, [.int p562938, .ref q562940, .int p562939]) := (n563086 q562384 (rn_oa he562937 he563080)).trans he562937
                              have he563094 : F563084 q562385 = .inr (20, [.int p562964, .int p562965, .int p562966, .int p562967, .int p562968, .int p562969, .int p562970]) := (n563086 q562385 (rn_oa he562963 he563080)).trans he562963
                              have he563095 : F563084 (γ 9 5) = .inl (I .int, 2000, .inl f563087) := e563085
                              have hs563096 : rStr γ [] F398622 F563084 := rStr_put hs562924 n563086 ht398653 (by decide)
                              have kp563097 : F563084 q398623 = F398622 q398623 := (n563086 q398623 (rn_ty htq398623 ht398653 (by decide))).trans x562925
                              have kp563098 : F563084 (γ 9 3) = F398622 (γ 9 3) := (n563086 (γ 9 3) (rn_ty ht398651 ht398653 (by decide))).trans x562926
                              refine G_aload 0 dr_cX17_weigh_145 rfl ?_
                              have hT563099 : RS D I P398621 F563084 γ el := RS_set hT562923 n563086 ht398653 (by decide) ⟨f563087, he563095⟩
                              refine Gw_callV (As := []) (gV_ok D I) (cp_1669_Row_usesA l hl0 D I P398621 F563084 q562385 p562964 p562965 p562966 p562967 p562968 p562969 p562970 hm562962 he563094 bp562964 bp562965 bp562968 bp562969 bp562970) dr_cX17_weigh_147 ⟨wr_10_192, wr_1_39, wr_10_195, by decide, rfl, (Nat.le_of_ble_eq_true rfl), (Nat.le_of_ble_eq_true rfl)⟩ wr_10_193 wr_10_194 hm562962 he563094 rfl (show 0 + 0 ≤ 0 by first | omega | decide) (show 0 + 0 ≤ 0 by first | omega | decide) (Nat.le_of_ble_eq_true rfl) (fun r563103 w563104 dc563100 ds563101 hp563102 => ?_) (fun _ _ _ _ _ z => z.elim)
                              obtain ⟨o563105, rfl, rfl, hdc, hds, bo563105, x563106⟩ := hp563102
                              change G _ _ _ _ _ _ _ (.int o563105 :: _) _ _ _
                              refine G_widen (cs' := 0) (sl' := 0) (by omega) (by omega) ?_
                              refine G_if_eq 167 dr_cX17_weigh_150 (by decide +kernel) (fun hc563107 => ?_) (fun hc563107 => ?_)
                              · have r563108 : o563105.toInt = 0 := gj_eq hc563107 (show Int32.toInt 0 = 0 by decide)
                                have bo563105' : gB o563105 0 0 := gB_t0 r563108
                                refine G_aload 0 dr_cX17_weigh_167 rfl ?_
                                refine Gw_callV (As := []) (gV_ok D I) (cp_1693_Row_usesB l hl0 D I P398621 F563084 q562385 p562964 p562965 p562966 p562967 p562968 p562969 p562970 hm562962 he563094 bp562964 bp562965 bp562968 bp562969 bp562970) dr_cX17_weigh_169 ⟨wr_10_196, wr_1_39, wr_10_199, by decide, rfl, (Nat.le_of_ble_eq_true rfl), (Nat.le_of_ble_eq_true rfl)⟩ wr_10_197 wr_10_198 hm562962 he563094 rfl (show 0 + 0 ≤ 0 by first | omega | decide) (show 0 + 0 ≤ 0 by first | omega | decide) (Nat.le_of_ble_eq_true rfl) (fun r563112 w563113 dc563109 ds563110 hp563111 => ?_) (fun _ _ _ _ _ z => z.elim)
                                obtain ⟨o563114, rfl, rfl, hdc, hds, bo563114, x563115⟩ := hp563111
                                change G _ _ _ _ _ _ _ (.int o563114 :: _) _ _ _
                                refine G_widen (cs' := 0) (sl' := 0) (by omega) (by omega) ?_
                                refine G_if_eq 189 dr_cX17_weigh_172 (by decide +kernel) (fun hc563116 => ?_) (fun hc563116 => ?_)
                                · have r563117 : o563114.toInt = 0 := gj_eq hc563116 (show Int32.toInt 0 = 0 by decide)
                                  have bo563114' : gB o563114 0 0 := gB_t0 r563117
                                  obtain ⟨z563118, hz563118⟩ : ∃ z : Int32, z = g562921 + Int32.ofInt 1 := ⟨_, rfl⟩
                                  have ez563118 : z563118.toInt = g562921.toInt + 1 := gI_inc hz563118 (by decide) bg562921' (by decide) (by decide)
                                  have bz563118 : gB z563118 1 1000001 := ⟨by omega, by omega⟩
                                  refine G_iinc (L' := [(5, .int z563118), (6, .ref q562385), (4, .ref q562375), (3, .int g562346), (2, .int g561204), (0, .ref q398623), (1, .ref q398624)]) z563118 1 dr_cX17_weigh_189 rfl hz563118.symm (Nat.le_of_ble_eq_true rfl) rfl ?_
                                  refine G_goto 74 dr_cX17_weigh_192 (by decide +kernel) ?_
                                  refine G_lv (L' := [(5, .int z563118), (4, .ref q562375), (3, .int g562346), (2, .int g561204), (0, .ref q398623), (1, .ref q398624)]) [0, 2, 3, 4, 5, 6] rfl ?_
                                  exact ih74_562926 F563084 z563118 (gB_w bz563118 (by decide) (by decide)) hT563099 hs563096 kp563097 kp563098 (mz_up ez563118 (Int.le_trans bg562921'.2 (by decide)) hm74_562926)
                                · have r563119 : o563114.toInt ≠ 0 := gj_neq hc563116 (show Int32.toInt 0 = 0 by decide)
                                  have bo563114' : gB o563114 1 1 := gB_t1 bo563114 r563119
                                  refine G_aload_n 5 dr_cX17_weigh_175 rfl ?_
                                  refine Gp_get 5 hm562935 he563092 dr_cX17_weigh_176 (gk_X17 D I) (Nat.le_of_ble_eq_true rfl) wr_7_79 rfl ?_
                                  refine G_aload 0 dr_cX17_weigh_179 rfl ?_
                                  refine Gp_get 3 hm562962 he563094 dr_cX17_weigh_181 (gk_X15 D I) (Nat.le_of_ble_eq_true rfl) wr_9_190 rfl ?_
                                  refine G_dup2_11 dr_cX17_weigh_184 rfl rfl ?_
                                  refine Gp_iald 0 hm563079 he563095 dr_cX17_weigh_185 rfl (gB_inr (by omega) (by omega)) (G_nam fun z563120 hz563120 => ?_)
                                  have bz563120 : gB z563120 (-2147483648) 2147483647 := gB_any z563120
                                  refine G_iload_n 3 dr_cX17_weigh_186 rfl ?_
                                  refine G_iadd dr_cX17_weigh_187 (G_nam fun z563121 hz563121 => ?_)
                                  have bz563121 : gB z563121 (-2147483648) 2147483647 := gB_any z563121
                                  refine Gp_iast 0 hm563079 he563095 dr_cX17_weigh_188 rfl (gB_inr (by omega) (by omega)) (fun F563122 e563123 n563124 => ?_)
                                  obtain ⟨f563125, hf563125⟩ : ∃ z, z = upd f563087 p562967.toNatClampNeg z563121 := ⟨_, rfl⟩
                                  rw [← hf563125] at e563123
                                  have he563126 : F563122 q398624 = .inr (18, [.ref q561217, .ref q561218, .int p561219, .int p561220]) := (n563124 q398624 (rn_oa he563088 he563095)).trans he563088
                                  have he563127 : F563122 q561217 = .inr (4, [.int p562356, .ref q562358, .int p562357]) := (n563124 q561217 (rn_oa he563089 he563095)).trans he563089
                                  have he563128 : F563122 q562358 = .inl (I (.object "java/lang/Object"), n562372, .inr (.inr (.inr (.inr f562373)))) := (n563124 q562358 (rn_ref_num he563090 he563095)).trans he563090
                                  have he563129 : F563122 q562375 = .inr (17, [.ref q562384, .ref q562385, .int p562386, .int p562387]) := (n563124 q562375 (rn_oa he563091 he563095)).trans he563091
                                  have he563130 : F563122 q398623 = .inr (22, [.ref (γ 9 0), .ref (γ 9 1), .ref (γ 9 2), .ref (γ 9 3), .ref (γ 9 4), .ref (γ 9 5), .ref (γ 9 6), .ref (γ 9 7), .ref (γ 9 8), .int p398631, .int p398632, .int p398633, .int p398634, .int p398635, .int p398636, .ref (γ 9 15), .ref (γ 9 16), .ref (γ 9 17), .ref (γ 9 18), .ref (γ 9 19), .ref (γ 9 20), .ref (γ 9 21), .ref (γ 9 22), .int p398637, .int p398638, .int p398639, .int p398640, .int p398641, .ref q398629, .ref (γ 9 29), .int p398642, .ref (γ 9 31), .int p398643, .int p398644, .int p398645, .ref q398630]) := (n563124 q398623 (rn_oa he563092 he563095)).trans he563092
                                  have he563131 : F563122 q562384 = .inr (4, [.int p562938, .ref q562940, .int p562939]) := (n563124 q562384 (rn_oa he563093 he563095)).trans he563093
                                  have he563132 : F563122 q562385 = .inr (20, [.int p562964, .int p562965, .int p562966, .int p562967, .int p562968, .int p562969, .int p562970]) := (n563124 q562385 (rn_oa he563094 he563095)).trans he563094
                                  have he563133 : F563122 (γ 9 5) = .inl (I .int, 2000, .inl f563125) := e563123
                                  have hs563134 : rStr γ [] F398622 F563122 := rStr_put hs563096 n563124 ht398653 (by decide)
                                  have kp563135 : F563122 q398623 = F398622 q398623 := (n563124 q398623 (rn_ty htq398623 ht398653 (by decide))).trans kp563097
                                  have kp563136 : F563122 (γ 9 3) = F398622 (γ 9 3) := (n563124 (γ 9 3) (rn_ty ht398651 ht398653 (by decide))).trans kp563098
                                  obtain ⟨z563137, hz563137⟩ : ∃ z : Int32, z = g562921 + Int32.ofInt 1 := ⟨_, rfl⟩
                                  have ez563137 : z563137.toInt = g562921.toInt + 1 := gI_inc hz563137 (by decide) bg562921' (by decide) (by decide)
                                  have bz563137 : gB z563137 1 1000001 := ⟨by omega, by omega⟩
                                  refine G_iinc (L' := [(5, .int z563137), (6, .ref q562385), (4, .ref q562375), (3, .int g562346), (2, .int g561204), (0, .ref q398623), (1, .ref q398624)]) z563137 1 dr_cX17_weigh_189 rfl hz563137.symm (Nat.le_of_ble_eq_true rfl) rfl ?_
                                  refine G_goto 74 dr_cX17_weigh_192 (by decide +kernel) ?_
                                  have hT563138 : RS D I P398621 F563122 γ el := RS_set hT563099 n563124 ht398653 (by decide) ⟨f563125, he563133⟩
                                  refine G_lv (L' := [(5, .int z563137), (4, .ref q562375), (3, .int g562346), (2, .int g561204), (0, .ref q398623), (1, .ref q398624)]) [0, 2, 3, 4, 5, 6] rfl ?_
                                  exact ih74_562926 F563122 z563137 (gB_w bz563137 (by decide) (by decide)) hT563138 hs563134 kp563135 kp563136 (mz_up ez563137 (Int.le_trans bg562921'.2 (by decide)) hm74_562926)
                              · have r563139 : o563105.toInt ≠ 0 := gj_neq hc563107 (show Int32.toInt 0 = 0 by decide)
                                have bo563105' : gB o563105 1 1 := gB_t1 bo563105 r563139
                                refine G_aload_n 5 dr_cX17_weigh_153 rfl ?_
                                refine Gp_get 5 hm562935 he563092 dr_cX17_weigh_154 (gk_X17 D I) (Nat.le_of_ble_eq_true rfl) wr_7_79 rfl ?_
                                refine G_aload 0 dr_cX17_weigh_157 rfl ?_
                                refine Gp_get 2 hm562962 he563094 dr_cX17_weigh_159 (gk_X15 D I) (Nat.le_of_ble_eq_true rfl) wr_9_186 rfl ?_
                                refine G_dup2_11 dr_cX17_weigh_162 rfl rfl ?_
                                refine Gp_iald 0 hm563079 he563095 dr_cX17_weigh_163 rfl (gB_inr (by omega) (by omega)) (G_nam fun z563140 hz563140 => ?_)
                                have bz563140 : gB z563140 (-2147483648) 2147483647 := gB_any z563140
                                refine G_iload_n 3 dr_cX17_weigh_164 rfl ?_
                                refine G_iadd dr_cX17_weigh_165 (G_nam fun z563141 hz563141 => ?_)
                                have bz563141 : gB z563141 (-2147483648) 2147483647 := gB_any z563141
                                refine Gp_iast 0 hm563079 he563095 dr_cX17_weigh_166 rfl (gB_inr (by omega) (by omega)) (fun F563142 e563143 n563144 => ?_)
                                obtain ⟨f563145, hf563145⟩ : ∃ z, z = upd f563087 p562966.toNatClampNeg z563141 := ⟨_, rfl⟩
                                rw [← hf563145] at e563143
                                have he563146 : F563142 q398624 = .inr (18, [.ref q561217, .ref q561218, .int p561219, .int p561220]) := (n563144 q398624 (rn_oa he563088 he563095)).trans he563088
                                have he563147 : F563142 q561217 = .inr (4, [.int p562356, .ref q562358, .int p562357]) := (n563144 q561217 (rn_oa he563089 he563095)).trans he563089
                                have he563148 : F563142 q562358 = .inl (I (.object "java/lang/Object"), n562372, .inr (.inr (.inr (.inr f562373)))) := (n563144 q562358 (rn_ref_num he563090 he563095)).trans he563090
                                have he563149 : F563142 q562375 = .inr (17, [.ref q562384, .ref q562385, .int p562386, .int p562387]) := (n563144 q562375 (rn_oa he563091 he563095)).trans he563091
                                have he563150 : F563142 q398623 = .inr (22, [.ref (γ 9 0), .ref (γ 9 1), .ref (γ 9 2), .ref (γ 9 3), .ref (γ 9 4), .ref (γ 9 5), .ref (γ 9 6), .ref (γ 9 7), .ref (γ 9 8), .int p398631, .int p398632, .int p398633, .int p398634, .int p398635, .int p398636, .ref (γ 9 15), .ref (γ 9 16), .ref (γ 9 17), .ref (γ 9 18), .ref (γ 9 19), .ref (γ 9 20), .ref (γ 9 21), .ref (γ 9 22), .int p398637, .int p398638, .int p398639, .int p398640, .int p398641, .ref q398629, .ref (γ 9 29), .int p398642, .ref (γ 9 31), .int p398643, .int p398644, .int p398645, .ref q398630]) := (n563144 q398623 (rn_oa he563092 he563095)).trans he563092
                                have he563151 : F563142 q562384 = .inr (4, [.int p562938, .ref q562940, .int p562939]) := (n563144 q562384 (rn_oa he563093 he563095)).trans he563093
                                have he563152 : F563142 q562385 = .inr (20, [.int p562964, .int p562965, .int p562966, .int p562967, .int p562968, .int p562969, .int p562970]) := (n563144 q562385 (rn_oa he563094 he563095)).trans he563094
                                have he563153 : F563142 (γ 9 5) = .inl (I .int, 2000, .inl f563145) := e563143
                                have hs563154 : rStr γ [] F398622 F563142 := rStr_put hs563096 n563144 ht398653 (by decide)
                                have kp563155 : F563142 q398623 = F398622 q398623 := (n563144 q398623 (rn_ty htq398623 ht398653 (by decide))).trans kp563097
                                have kp563156 : F563142 (γ 9 3) = F398622 (γ 9 3) := (n563144 (γ 9 3) (rn_ty ht398651 ht398653 (by decide))).trans kp563098
                                refine G_aload 0 dr_cX17_weigh_167 rfl ?_
                                have hT563157 : RS D I P398621 F563142 γ el := RS_set hT563099 n563144 ht398653 (by decide) ⟨f563145, he563153⟩
                                refine Gw_callV (As := []) (gV_ok D I) (cp_1693_Row_usesB l hl0 D I P398621 F563142 q562385 p562964 p562965 p562966 p562967 p562968 p562969 p562970 hm562962 he563152 bp562964 bp562965 bp562968 bp562969 bp562970) dr_cX17_weigh_169 ⟨wr_10_196, wr_1_39, wr_10_199, by decide, rfl, (Nat.le_of_ble_eq_true rfl), (Nat.le_of_ble_eq_true rfl)⟩ wr_10_197 wr_10_198 hm562962 he563152 rfl (show 0 + 0 ≤ 0 by first | omega | decide) (show 0 + 0 ≤ 0 by first | omega | decide) (Nat.le_of_ble_eq_true rfl) (fun r563161 w563162 dc563158 ds563159 hp563160 => ?_) (fun _ _ _ _ _ z => z.elim)
                                obtain ⟨o563163, rfl, rfl, hdc, hds, bo563163, x563164⟩ := hp563160
                                change G _ _ _ _ _ _ _ (.int o563163 :: _) _ _ _
                                refine G_widen (cs' := 0) (sl' := 0) (by omega) (by omega) ?_
                                refine G_if_eq 189 dr_cX17_weigh_172 (by decide +kernel) (fun hc563165 => ?_) (fun hc563165 => ?_)
                                · have r563166 : o563163.toInt = 0 := gj_eq hc563165 (show Int32.toInt 0 = 0 by decide)
                                  have bo563163' : gB o563163 0 0 := gB_t0 r563166
                                  obtain ⟨z563167, hz563167⟩ : ∃ z : Int32, z = g562921 + Int32.ofInt 1 := ⟨_, rfl⟩
                                  have ez563167 : z563167.toInt = g562921.toInt + 1 := gI_inc hz563167 (by decide) bg562921' (by decide) (by decide)
                                  have bz563167 : gB z563167 1 1000001 := ⟨by omega, by omega⟩
                                  refine G_iinc (L' := [(5, .int z563167), (6, .ref q562385), (4, .ref q562375), (3, .int g562346), (2, .int g561204), (0, .ref q398623), (1, .ref q398624)]) z563167 1 dr_cX17_weigh_189 rfl hz563167.symm (Nat.le_of_ble_eq_true rfl) rfl ?_
                                  refine G_goto 74 dr_cX17_weigh_192 (by decide +kernel) ?_
                                  refine G_lv (L' := [(5, .int z563167), (4, .ref q562375), (3, .int g562346), (2, .int g561204), (0, .ref q398623), (1, .ref q398624)]) [0, 2, 3, 4, 5, 6] rfl ?_
                                  exact ih74_562926 F563142 z563167 (gB_w bz563167 (by decide) (by decide)) hT563157 hs563154 kp563155 kp563156 (mz_up ez563167 (Int.le_trans bg562921'.2 (by decide)) hm74_562926)
                                · have r563168 : o563163.toInt ≠ 0 := gj_neq hc563165 (show Int32.toInt 0 = 0 by decide)
                                  have bo563163' : gB o563163 1 1 := gB_t1 bo563163 r563168
                                  refine G_aload_n 5 dr_cX17_weigh_175 rfl ?_
                                  refine Gp_get 5 hm562935 he563150 dr_cX17_weigh_176 (gk_X17 D I) (Nat.le_of_ble_eq_true rfl) wr_7_79 rfl ?_
                                  refine G_aload 0 dr_cX17_weigh_179 rfl ?_
                                  refine Gp_get 3 hm562962 he563152 dr_cX17_weigh_181 (gk_X15 D I) (Nat.le_of_ble_eq_true rfl) wr_9_190 rfl ?_
                                  refine G_dup2_11 dr_cX17_weigh_184 rfl rfl ?_
                                  refine Gp_iald 0 hm563079 he563153 dr_cX17_weigh_185 rfl (gB_inr (by omega) (by omega)) (G_nam fun z563169 hz563169 => ?_)
                                  have bz563169 : gB z563169 (-2147483648) 2147483647 := gB_any z563169
                                  refine G_iload_n 3 dr_cX17_weigh_186 rfl ?_
                                  refine G_iadd dr_cX17_weigh_187 (G_nam fun z563170 hz563170 => ?_)
                                  have bz563170 : gB z563170 (-2147483648) 2147483647 := gB_any z563170
                                  refine Gp_iast 0 hm563079 he563153 dr_cX17_weigh_188 rfl (gB_inr (by omega) (by omega)) (fun F563171 e563172 n563173 => ?_)
                                  obtain ⟨f563174, hf563174⟩ : ∃ z, z = upd f563145 p562967.toNatClampNeg z563170 := ⟨_, rfl⟩
                                  rw [← hf563174] at e563172
                                  have he563175 : F563171 q398624 = .inr (18, [.ref q561217, .ref q561218, .int p561219, .int p561220]) := (n563173 q398624 (rn_oa he563146 he563153)).trans he563146
                                  have he563176 : F563171 q561217 = .inr (4, [.int p562356, .ref q562358, .int p562357]) := (n563173 q561217 (rn_oa he563147 he563153)).trans he563147
                                  have he563177 : F563171 q562358 = .inl (I (.object "java/lang/Object"), n562372, .inr (.inr (.inr (.inr f562373)))) := (n563173 q562358 (rn_ref_num he563148 he563153)).trans he563148
                                  have he563178 : F563171 q562375 = .inr (17, [.ref q562384, .ref q562385, .int p562386, .int p562387]) := (n563173 q562375 (rn_oa he563149 he563153)).trans he563149
                                  have he563179 : F563171 q398623 = .inr (22, [.ref (γ 9 0), .ref (γ 9 1), .ref (γ 9 2), .ref (γ 9 3), .ref (γ 9 4), .ref (γ 9 5), .ref (γ 9 6), .ref (γ 9 7), .ref (γ 9 8), .int p398631, .int p398632, .int p398633, .int p398634, .int p398635, .int p398636, .ref (γ 9 15), .ref (γ 9 16), .ref (γ 9 17), .ref (γ 9 18), .ref (γ 9 19), .ref (γ 9 20), .ref (γ 9 21), .ref (γ 9 22), .int p398637, .int p398638, .int p398639, .int p398640, .int p398641, .ref q398629, .ref (γ 9 29), .int p398642, .ref (γ 9 31), .int p398643, .int p398644, .int p398645, .ref q398630]) := (n563173 q398623 (rn_oa he563150 he563153)).trans he563150
                                  have he563180 : F563171 q562384 = .inr (4, [.int p562938, .ref q562940, .int p562939]) := (n563173 q562384 (rn_oa he563151 he563153)).trans he563151
                                  have he563181 : F563171 q562385 = .inr (20, [.int p562964, .int p562965, .int p562966, .int p562967, .int p562968, .int p562969, .int p562970]) := (n563173 q562385 (rn_oa he563152 he563153)).trans he563152
                                  have he563182 : F563171 (γ 9 5) = .inl (I .int, 2000, .inl f563174) := e563172
                                  have hs563183 : rStr γ [] F398622 F563171 := rStr_put hs563154 n563173 ht398653 (by decide)
                                  have kp563184 : F563171 q398623 = F398622 q398623 := (n563173 q398623 (rn_ty htq398623 ht398653 (by decide))).trans kp563155
                                  have kp563185 : F563171 (γ 9 3) = F398622 (γ 9 3) := (n563173 (γ 9 3) (rn_ty ht398651 ht398653 (by decide))).trans kp563156
                                  obtain ⟨z563186, hz563186⟩ : ∃ z : Int32, z = g562921 + Int32.ofInt 1 := ⟨_, rfl⟩
                                  have ez563186 : z563186.toInt = g562921.toInt + 1 := gI_inc hz563186 (by decide) bg562921' (by decide) (by decide)
                                  have bz563186 : gB z563186 1 1000001 := ⟨by omega, by omega⟩
                                  refine G_iinc (L' := [(5, .int z563186), (6, .ref q562385), (4, .ref q562375), (3, .int g562346), (2, .int g561204), (0, .ref q398623), (1, .ref q398624)]) z563186 1 dr_cX17_weigh_189 rfl hz563186.symm (Nat.le_of_ble_eq_true rfl) rfl ?_
                                  refine G_goto 74 dr_cX17_weigh_192 (by decide +kernel) ?_
                                  have hT563187 : RS D I P398621 F563171 γ el := RS_set hT563157 n563173 ht398653 (by decide) ⟨f563174, he563182⟩
                                  refine G_lv (L' := [(5, .int z563186), (4, .ref q562375), (3, .int g562346), (2, .int g561204), (0, .ref q398623), (1, .ref q398624)]) [0, 2, 3, 4, 5, 6] rfl ?_
                                  exact ih74_562926 F563171 z563186 (gB_w bz563186 (by decide) (by decide)) hT563187 hs563183 kp563184 kp563185 (mz_up ez563186 (Int.le_trans bg562921'.2 (by decide)) hm74_562926)
                          · have r563188 : g562921.toInt < p562939.toInt := gC_nle hc562960
                            have bg562921'' : gB g562921 0 999999 := ⟨by omega, by omega⟩
                            have bp562939' : gB p562939 1 1000000 := ⟨by omega, by omega⟩
                            refine G_aload 1 dr_cX17_weigh_100 rfl ?_
                            refine Gp_get 0 hm562382 he562932 dr_cX17_weigh_102 (gk_X12 D I) (Nat.le_of_ble_eq_true rfl) wr_9_220 rfl ?_
                            refine G_iload 0 dr_cX17_weigh_105 rfl ?_
                            obtain ⟨r563189, r563190, n563197, f563198, r563191, r563192, r563193, r563194, r563195, r563196⟩ := rLC_n r562943 (by omega)
                            have hm563199 : q562940 ∈ P398621 := RS_m hT562923 r563189 (by decide)
                            obtain ⟨q563200, hx563201⟩ : ∃ x, x = el q562384 g562921.toInt.toNat := ⟨_, rfl⟩
                            have hx563202 : f563198 g562921.toNatClampNeg = some q563200 := (r563195 _ (show g562921.toInt.toNat < γ 2 q562384 by omega)).trans (by rw [hx563201])
                            have ht563203 : rKd γ q563200 1 := by rw [hx563201]; exact (r562944 _ (show g562921.toInt.toNat < γ 2 q562384 by omega)).1
                            have ht563204 : rFm γ q563200 q562384 := by rw [hx563201]; exact (r562944 _ (show g562921.toInt.toNat < γ 2 q562384 by omega)).2.1
                            refine Gw_callV (As := [.int g562921]) (gV_ok D I) (cp_22_ArrayList_get l hl0 D I P398621 F562922 q562384 q562940 g562921 p562938 p562939 f563198 n563197 q563200 hm562936 hm563199 he562937 r563191 (gB_w bg562921'' (by decide) (by decide)) (gB_w bp562939' (by decide) (by decide)) (by omega) (by omega) (by assumption) (by omega)) dr_cX17_weigh_107 ⟨wr_10_201, wr_1_18, wr_10_65, by decide, rfl, (Nat.le_of_ble_eq_true rfl), (Nat.le_of_ble_eq_true rfl)⟩ wr_10_63 wr_10_64 hm562936 he562937 rfl (show 0 + 0 ≤ 0 by first | omega | decide) (show 0 + 0 ≤ 0 by first | omega | decide) (Nat.le_of_ble_eq_true rfl) (fun r563208 w563209 dc563205 ds563206 hp563207 => ?_) (fun _ _ _ _ _ z => z.elim)
                            obtain ⟨rfl, rfl, hdc, hds⟩ := hp563207
                            change G _ _ _ _ _ _ _ (.ref q563200 :: _) _ _ _
                            refine G_widen (cs' := 0) (sl' := 0) (by omega) (by omega) ?_
                            have hm563210 : q563200 ∈ P398621 := RS_m hT562923 ht563203 (by decide)
                            obtain ⟨p563212, p563213, p563214, p563215, p563216, p563217, p563218, he563211, bp563212, bp563213, bp563216, bp563217, bp563218, r563219, r563220, r563221, r563222, r563223⟩ := show rk_1 γ q563200 (F562922 q563200) from RS_o hT562923 ht563203
                            have bp563214 := gB_any p563214
                            have bp563215 := gB_any p563215
                            refine Gp_cast hm563210 he563211 rfl dr_cX17_weigh_110 wr_10_202 (gr_cast 1 rfl) ?_
                            refine G_goto 121 dr_cX17_weigh_113 (by decide +kernel) ?_
                            refine G_astore (L' := [(6, .ref q563200), (5, .int g562921), (4, .ref q562375), (3, .int g562346), (2, .int g561204), (0, .ref q398623), (1, .ref q398624)]) dr_cX17_weigh_121 (Nat.le_of_ble_eq_true rfl) rfl ?_
                            refine G_aload 0 dr_cX17_weigh_123 rfl ?_
                            refine Gw_callV (As := []) (gV_ok D I) (cp_1654_Row_sets l hl0 D I P398621 F562922 q563200 p563212 p563213 p563214 p563215 p563216 p563217 p563218 hm563210 he563211 bp563212 bp563213 bp563216 bp563217 bp563218) dr_cX17_weigh_125 ⟨wr_10_181, wr_1_39, wr_10_184, by decide, rfl, (Nat.le_of_ble_eq_true rfl), (Nat.le_of_ble_eq_true rfl)⟩ wr_10_182 wr_10_183 hm563210 he563211 rfl (show 0 + 0 ≤ 0 by first | omega | decide) (show 0 + 0 ≤ 0 by first | omega | decide) (Nat.le_of_ble_eq_true rfl) (fun r563227 w563228 dc563224 ds563225 hp563226 => ?_) (fun _ _ _ _ _ z => z.elim)
                            obtain ⟨o563229, rfl, rfl, hdc, hds, bo563229⟩ := hp563226
                            change G _ _ _ _ _ _ _ (.int o563229 :: _) _ _ _
                            refine G_widen (cs' := 0) (sl' := 0) (by omega) (by omega) ?_
                            refine G_if_eq 145 dr_cX17_weigh_128 (by decide +kernel) (fun hc563230 => ?_) (fun hc563230 => ?_)
                            · have r563231 : o563229.toInt = 0 := gj_eq hc563230 (show Int32.toInt 0 = 0 by decide)
                              have bo563229' : gB o563229 0 0 := gB_t0 r563231
                              refine G_aload 0 dr_cX17_weigh_145 rfl ?_
                              refine Gw_callV (As := []) (gV_ok D I) (cp_1669_Row_usesA l hl0 D I P398621 F562922 q563200 p563212 p563213 p563214 p563215 p563216 p563217 p563218 hm563210 he563211 bp563212 bp563213 bp563216 bp563217 bp563218) dr_cX17_weigh_147 ⟨wr_10_192, wr_1_39, wr_10_195, by decide, rfl, (Nat.le_of_ble_eq_true rfl), (Nat.le_of_ble_eq_true rfl)⟩ wr_10_193 wr_10_194 hm563210 he563211 rfl (show 0 + 0 ≤ 0 by first | omega | decide) (show 0 + 0 ≤ 0 by first | omega | decide) (Nat.le_of_ble_eq_true rfl) (fun r563235 w563236 dc563232 ds563233 hp563234 => ?_) (fun _ _ _ _ _ z => z.elim)
                              obtain ⟨o563237, rfl, rfl, hdc, hds, bo563237, x563238⟩ := hp563234
                              change G _ _ _ _ _ _ _ (.int o563237 :: _) _ _ _
                              refine G_widen (cs' := 0) (sl' := 0) (by omega) (by omega) ?_
                              refine G_if_eq 167 dr_cX17_weigh_150 (by decide +kernel) (fun hc563239 => ?_) (fun hc563239 => ?_)
                              · have r563240 : o563237.toInt = 0 := gj_eq hc563239 (show Int32.toInt 0 = 0 by decide)
                                have bo563237' : gB o563237 0 0 := gB_t0 r563240
                                refine G_aload 0 dr_cX17_weigh_167 rfl ?_
                                refine Gw_callV (As := []) (gV_ok D I) (cp_1693_Row_usesB l hl0 D I P398621 F562922 q563200 p563212 p563213 p563214 p563215 p563216 p563217 p563218 hm563210 he563211 bp563212 bp563213 bp563216 bp563217 bp563218) dr_cX17_weigh_169 ⟨wr_10_196, wr_1_39, wr_10_199, by decide, rfl, (Nat.le_of_ble_eq_true rfl), (Nat.le_of_ble_eq_true rfl)⟩ wr_10_197 wr_10_198 hm563210 he563211 rfl (show 0 + 0 ≤ 0 by first | omega | decide) (show 0 + 0 ≤ 0 by first | omega | decide) (Nat.le_of_ble_eq_true rfl) (fun r563244 w563245 dc563241 ds563242 hp563243 => ?_) (fun _ _ _ _ _ z => z.elim)
                                obtain ⟨o563246, rfl, rfl, hdc, hds, bo563246, x563247⟩ := hp563243
                                change G _ _ _ _ _ _ _ (.int o563246 :: _) _ _ _
                                refine G_widen (cs' := 0) (sl' := 0) (by omega) (by omega) ?_
                                refine G_if_eq 189 dr_cX17_weigh_172 (by decide +kernel) (fun hc563248 => ?_) (fun hc563248 => ?_)
                                · have r563249 : o563246.toInt = 0 := gj_eq hc563248 (show Int32.toInt 0 = 0 by decide)
                                  have bo563246' : gB o563246 0 0 := gB_t0 r563249
                                  obtain ⟨z563250, hz563250⟩ : ∃ z : Int32, z = g562921 + Int32.ofInt 1 := ⟨_, rfl⟩
                                  have ez563250 : z563250.toInt = g562921.toInt + 1 := gI_inc hz563250 (by decide) bg562921'' (by decide) (by decide)
                                  have bz563250 : gB z563250 1 1000000 := ⟨by omega, by omega⟩
                                  refine G_iinc (L' := [(5, .int z563250), (6, .ref q563200), (4, .ref q562375), (3, .int g562346), (2, .int g561204), (0, .ref q398623), (1, .ref q398624)]) z563250 1 dr_cX17_weigh_189 rfl hz563250.symm (Nat.le_of_ble_eq_true rfl) rfl ?_
                                  refine G_goto 74 dr_cX17_weigh_192 (by decide +kernel) ?_
                                  refine G_lv (L' := [(5, .int z563250), (4, .ref q562375), (3, .int g562346), (2, .int g561204), (0, .ref q398623), (1, .ref q398624)]) [0, 2, 3, 4, 5, 6] rfl ?_
                                  exact ih74_562926 F562922 z563250 (gB_w bz563250 (by decide) (by decide)) hT562923 hs562924 x562925 x562926 (mz_up ez563250 (Int.le_trans bg562921''.2 (by decide)) hm74_562926)
                                · have r563251 : o563246.toInt ≠ 0 := gj_neq hc563248 (show Int32.toInt 0 = 0 by decide)
                                  have bo563246' : gB o563246 1 1 := gB_t1 bo563246 r563251
                                  refine G_aload_n 5 dr_cX17_weigh_175 rfl ?_
                                  refine Gp_get 5 hm562935 he562934 dr_cX17_weigh_176 (gk_X17 D I) (Nat.le_of_ble_eq_true rfl) wr_7_79 rfl ?_
                                  refine G_aload 0 dr_cX17_weigh_179 rfl ?_
                                  refine Gp_get 3 hm563210 he563211 dr_cX17_weigh_181 (gk_X15 D I) (Nat.le_of_ble_eq_true rfl) wr_9_190 rfl ?_
                                  refine G_dup2_11 dr_cX17_weigh_184 rfl rfl ?_
                                  have hm563252 : (γ 9 5) ∈ P398621 := RS_m hT562923 ht398653 (by decide)
                                  obtain ⟨f563254, he563253⟩ := show rk_17 I (F562922 (γ 9 5)) from RS_o hT562923 ht398653
                                  refine Gp_iald 0 hm563252 he563253 dr_cX17_weigh_185 rfl (gB_inr (by omega) (by omega)) (G_nam fun z563255 hz563255 => ?_)
                                  have bz563255 : gB z563255 (-2147483648) 2147483647 := gB_any z563255
                                  refine G_iload_n 3 dr_cX17_weigh_186 rfl ?_
                                  refine G_iadd dr_cX17_weigh_187 (G_nam fun z563256 hz563256 => ?_)
                                  have bz563256 : gB z563256 (-2147483648) 2147483647 := gB_any z563256
                                  refine Gp_iast 0 hm563252 he563253 dr_cX17_weigh_188 rfl (gB_inr (by omega) (by omega)) (fun F563257 e563258 n563259 => ?_)
                                  obtain ⟨f563260, hf563260⟩ : ∃ z, z = upd f563254 p563215.toNatClampNeg z563256 := ⟨_, rfl⟩
                                  rw [← hf563260] at e563258
                                  have he563261 : F563257 q398624 = .inr (18, [.ref q561217, .ref q561218, .int p561219, .int p561220]) := (n563259 q398624 (rn_oa he562929 he563253)).trans he562929
                                  have he563262 : F563257 q561217 = .inr (4, [.int p562356, .ref q562358, .int p562357]) := (n563259 q561217 (rn_oa he562930 he563253)).trans he562930
                                  have he563263 : F563257 q562358 = .inl (I (.object "java/lang/Object"), n562372, .inr (.inr (.inr (.inr f562373)))) := (n563259 q562358 (rn_ref_num he562931 he563253)).trans he562931
                                  have he563264 : F563257 q562375 = .inr (17, [.ref q562384, .ref q562385, .int p562386, .int p562387]) := (n563259 q562375 (rn_oa he562932 he563253)).trans he562932
                                  have he563265 : F563257 q398623 = .inr (22, [.ref (γ 9 0), .ref (γ 9 1), .ref (γ 9 2), .ref (γ 9 3), .ref (γ 9 4), .ref (γ 9 5), .ref (γ 9 6), .ref (γ 9 7), .ref (γ 9 8), .int p398631, .int p398632, .int p398633, .int p398634, .int p398635, .int p398636, .ref (γ 9 15), .ref (γ 9 16), .ref (γ 9 17), .ref (γ 9 18), .ref (γ 9 19), .ref (γ 9 20), .ref (γ 9 21), .ref (γ 9 22), .int p398637, .int p398638, .int p398639, .int p398640, .int p398641, .ref q398629, .ref (γ 9 29), .int p398642, .ref (γ 9 31), .int p398643, .int p398644, .int p398645, .ref q398630]) := (n563259 q398623 (rn_oa he562934 he563253)).trans he562934
                                  have he563266 : F563257 q562384 = .inr (4, [.int p562938, .ref q562940, .int p562939]) := (n563259 q562384 (rn_oa he562937 he563253)).trans he562937
                                  have he563267 : F563257 q562940 = .inl (I (.object "java/lang/Object"), n563197, .inr (.inr (.inr (.inr f563198)))) := (n563259 q562940 (rn_ref_num r563191 he563253)).trans r563191
                                  have he563268 : F563257 q563200 = .inr (20, [.int p563212, .int p563213, .int p563214, .int p563215, .int p563216, .int p563217, .int p563218]) := (n563259 q563200 (rn_oa he563211 he563253)).trans he563211
                                  have he563269 : F563257 (γ 9 5) = .inl (I .int, 2000, .inl f563260) := e563258
                                  have hs563270 : rStr γ [] F398622 F563257 := rStr_put hs562924 n563259 ht398653 (by decide)
                                  have kp563271 : F563257 q398623 = F398622 q398623 := (n563259 q398623 (rn_ty htq398623 ht398653 (by decide))).trans x562925
                                  have kp563272 : F563257 (γ 9 3) = F398622 (γ 9 3) := (n563259 (γ 9 3) (rn_ty ht398651 ht398653 (by decide))).trans x562926
                                  obtain ⟨z563273, hz563273⟩ : ∃ z : Int32, z = g562921 + Int32.ofInt 1 := ⟨_, rfl⟩
                                  have ez563273 : z563273.toInt = g562921.toInt + 1 := gI_inc hz563273 (by decide) bg562921'' (by decide) (by decide)
                                  have bz563273 : gB z563273 1 1000000 := ⟨by omega, by omega⟩
                                  refine G_iinc (L' := [(5, .int z563273), (6, .ref q563200), (4, .ref q562375), (3, .int g562346), (2, .int g561204), (0, .ref q398623), (1, .ref q398624)]) z563273 1 dr_cX17_weigh_189 rfl hz563273.symm (Nat.le_of_ble_eq_true rfl) rfl ?_
                                  refine G_goto 74 dr_cX17_weigh_192 (by decide +kernel) ?_
                                  have hT563274 : RS D I P398621 F563257 γ el := RS_set hT562923 n563259 ht398653 (by decide) ⟨f563260, he563269⟩
                                  refine G_lv (L' := [(5, .int z563273), (4, .ref q562375), (3, .int g562346), (2, .int g561204), (0, .ref q398623), (1, .ref q398624)]) [0, 2, 3, 4, 5, 6] rfl ?_
                                  exact ih74_562926 F563257 z563273 (gB_w bz563273 (by decide) (by decide)) hT563274 hs563270 kp563271 kp563272 (mz_up ez563273 (Int.le_trans bg562921''.2 (by decide)) hm74_562926)
                              · have r563275 : o563237.toInt ≠ 0 := gj_neq hc563239 (show Int32.toInt 0 = 0 by decide)
                                have bo563237' : gB o563237 1 1 := gB_t1 bo563237 r563275
                                refine G_aload_n 5 dr_cX17_weigh_153 rfl ?_
                                refine Gp_get 5 hm562935 he562934 dr_cX17_weigh_154 (gk_X17 D I) (Nat.le_of_ble_eq_true rfl) wr_7_79 rfl ?_
                                refine G_aload 0 dr_cX17_weigh_157 rfl ?_
                                refine Gp_get 2 hm563210 he563211 dr_cX17_weigh_159 (gk_X15 D I) (Nat.le_of_ble_eq_true rfl) wr_9_186 rfl ?_
                                refine G_dup2_11 dr_cX17_weigh_162 rfl rfl ?_
                                have hm563276 : (γ 9 5) ∈ P398621 := RS_m hT562923 ht398653 (by decide)
                                obtain ⟨f563278, he563277⟩ := show rk_17 I (F562922 (γ 9 5)) from RS_o hT562923 ht398653
                                refine Gp_iald 0 hm563276 he563277 dr_cX17_weigh_163 rfl (gB_inr (by omega) (by omega)) (G_nam fun z563279 hz563279 => ?_)
                                have bz563279 : gB z563279 (-2147483648) 2147483647 := gB_any z563279
                                refine G_iload_n 3 dr_cX17_weigh_164 rfl ?_
                                refine G_iadd dr_cX17_weigh_165 (G_nam fun z563280 hz563280 => ?_)
                                have bz563280 : gB z563280 (-2147483648) 2147483647 := gB_any z563280
                                refine Gp_iast 0 hm563276 he563277 dr_cX17_weigh_166 rfl (gB_inr (by omega) (by omega)) (fun F563281 e563282 n563283 => ?_)
                                obtain ⟨f563284, hf563284⟩ : ∃ z, z = upd f563278 p563214.toNatClampNeg z563280 := ⟨_, rfl⟩
                                rw [← hf563284] at e563282
                                have he563285 : F563281 q398624 = .inr (18, [.ref q561217, .ref q561218, .int p561219, .int p561220]) := (n563283 q398624 (rn_oa he562929 he563277)).trans he562929
                                have he563286 : F563281 q561217 = .inr (4, [.int p562356, .ref q562358, .int p562357]) := (n563283 q561217 (rn_oa he562930 he563277)).trans he562930
                                have he563287 : F563281 q562358 = .inl (I (.object "java/lang/Object"), n562372, .inr (.inr (.inr (.inr f562373)))) := (n563283 q562358 (rn_ref_num he562931 he563277)).trans he562931
                                have he563288 : F563281 q562375 = .inr (17, [.ref q562384, .ref q562385, .int p562386, .int p562387]) := (n563283 q562375 (rn_oa he562932 he563277)).trans he562932
                                have he563289 : F563281 q398623 = .inr (22, [.ref (γ 9 0), .ref (γ 9 1), .ref (γ 9 2), .ref (γ 9 3), .ref (γ 9 4), .ref (γ 9 5), .ref (γ 9 6), .ref (γ 9 7), .ref (γ 9 8), .int p398631, .int p398632, .int p398633, .int p398634, .int p398635, .int p398636, .ref (γ 9 15), .ref (γ 9 16), .ref (γ 9 17), .ref (γ 9 18), .ref (γ 9 19), .ref (γ 9 20), .ref (γ 9 21), .ref (γ 9 22), .int p398637, .int p398638, .int p398639, .int p398640, .int p398641, .ref q398629, .ref (γ 9 29), .int p398642, .ref (γ 9 31), .int p398643, .int p398644, .int p398645, .ref q398630]) := (n563283 q398623 (rn_oa he562934 he563277)).trans he562934
                                have he563290 : F563281 q562384 = .inr (4, [.int p562938, .ref q562940, .int p562939]) := (n563283 q562384 (rn_oa he562937 he563277)).trans he562937
                                have he563291 : F563281 q562940 = .inl (I (.object "java/lang/Object"), n563197, .inr (.inr (.inr (.inr f563198)))) := (n563283 q562940 (rn_ref_num r563191 he563277)).trans r563191
                                have he563292 : F563281 q563200 = .inr (20, [.int p563212, .int p563213, .int p563214, .int p563215, .int p563216, .int p563217, .int p563218]) := (n563283 q563200 (rn_oa he563211 he563277)).trans he563211
                                have he563293 : F563281 (γ 9 5) = .inl (I .int, 2000, .inl f563284) := e563282
                                have hs563294 : rStr γ [] F398622 F563281 := rStr_put hs562924 n563283 ht398653 (by decide)
                                have kp563295 : F563281 q398623 = F398622 q398623 := (n563283 q398623 (rn_ty htq398623 ht398653 (by decide))).trans x562925
                                have kp563296 : F563281 (γ 9 3) = F398622 (γ 9 3) := (n563283 (γ 9 3) (rn_ty ht398651 ht398653 (by decide))).trans x562926
                                refine G_aload 0 dr_cX17_weigh_167 rfl ?_
                                have hT563297 : RS D I P398621 F563281 γ el := RS_set hT562923 n563283 ht398653 (by decide) ⟨f563284, he563293⟩
                                refine Gw_callV (As := []) (gV_ok D I) (cp_1693_Row_usesB l hl0 D I P398621 F563281 q563200 p563212 p563213 p563214 p563215 p563216 p563217 p563218 hm563210 he563292 bp563212 bp563213 bp563216 bp563217 bp563218) dr_cX17_weigh_169 ⟨wr_10_196, wr_1_39, wr_10_199, by decide, rfl, (Nat.le_of_ble_eq_true rfl), (Nat.le_of_ble_eq_true rfl)⟩ wr_10_197 wr_10_198 hm563210 he563292 rfl (show 0 + 0 ≤ 0 by first | omega | decide) (show 0 + 0 ≤ 0 by first | omega | decide) (Nat.le_of_ble_eq_true rfl) (fun r563301 w563302 dc563298 ds563299 hp563300 => ?_) (fun _ _ _ _ _ z => z.elim)
                                obtain ⟨o563303, rfl, rfl, hdc, hds, bo563303, x563304⟩ := hp563300
                                change G _ _ _ _ _ _ _ (.int o563303 :: _) _ _ _
                                refine G_widen (cs' := 0) (sl' := 0) (by omega) (by omega) ?_
                                refine G_if_eq 189 dr_cX17_weigh_172 (by decide +kernel) (fun hc563305 => ?_) (fun hc563305 => ?_)
                                · have r563306 : o563303.toInt = 0 := gj_eq hc563305 (show Int32.toInt 0 = 0 by decide)
                                  have bo563303' : gB o563303 0 0 := gB_t0 r563306
                                  obtain ⟨z563307, hz563307⟩ : ∃ z : Int32, z = g562921 + Int32.ofInt 1 := ⟨_, rfl⟩
                                  have ez563307 : z563307.toInt = g562921.toInt + 1 := gI_inc hz563307 (by decide) bg562921'' (by decide) (by decide)
                                  have bz563307 : gB z563307 1 1000000 := ⟨by omega, by omega⟩
                                  refine G_iinc (L' := [(5, .int z563307), (6, .ref q563200), (4, .ref q562375), (3, .int g562346), (2, .int g561204), (0, .ref q398623), (1, .ref q398624)]) z563307 1 dr_cX17_weigh_189 rfl hz563307.symm (Nat.le_of_ble_eq_true rfl) rfl ?_
                                  refine G_goto 74 dr_cX17_weigh_192 (by decide +kernel) ?_
                                  refine G_lv (L' := [(5, .int z563307), (4, .ref q562375), (3, .int g562346), (2, .int g561204), (0, .ref q398623), (1, .ref q398624)]) [0, 2, 3, 4, 5, 6] rfl ?_
                                  exact ih74_562926 F563281 z563307 (gB_w bz563307 (by decide) (by decide)) hT563297 hs563294 kp563295 kp563296 (mz_up ez563307 (Int.le_trans bg562921''.2 (by decide)) hm74_562926)
                                · have r563308 : o563303.toInt ≠ 0 := gj_neq hc563305 (show Int32.toInt 0 = 0 by decide)
                                  have bo563303' : gB o563303 1 1 := gB_t1 bo563303 r563308
                                  refine G_aload_n 5 dr_cX17_weigh_175 rfl ?_
                                  refine Gp_get 5 hm562935 he563289 dr_cX17_weigh_176 (gk_X17 D I) (Nat.le_of_ble_eq_true rfl) wr_7_79 rfl ?_
                                  refine G_aload 0 dr_cX17_weigh_179 rfl ?_
                                  refine Gp_get 3 hm563210 he563292 dr_cX17_weigh_181 (gk_X15 D I) (Nat.le_of_ble_eq_true rfl) wr_9_190 rfl ?_
                                  refine G_dup2_11 dr_cX17_weigh_184 rfl rfl ?_
                                  refine Gp_iald 0 hm563276 he563293 dr_cX17_weigh_185 rfl (gB_inr (by omega) (by omega)) (G_nam fun z563309 hz563309 => ?_)
                                  have bz563309 : gB z563309 (-2147483648) 2147483647 := gB_any z563309
                                  refine G_iload_n 3 dr_cX17_weigh_186 rfl ?_
                                  refine G_iadd dr_cX17_weigh_187 (G_nam fun z563310 hz563310 => ?_)
                                  have bz563310 : gB z563310 (-2147483648) 2147483647 := gB_any z563310
                                  refine Gp_iast 0 hm563276 he563293 dr_cX17_weigh_188 rfl (gB_inr (by omega) (by omega)) (fun F563311 e563312 n563313 => ?_)
                                  obtain ⟨f563314, hf563314⟩ : ∃ z, z = upd f563284 p563215.toNatClampNeg z563310 := ⟨_, rfl⟩
                                  rw [← hf563314] at e563312
                                  have he563315 : F563311 q398624 = .inr (18, [.ref q561217, .ref q561218, .int p561219, .int p561220]) := (n563313 q398624 (rn_oa he563285 he563293)).trans he563285
                                  have he563316 : F563311 q561217 = .inr (4, [.int p562356, .ref q562358, .int p562357]) := (n563313 q561217 (rn_oa he563286 he563293)).trans he563286
                                  have he563317 : F563311 q562358 = .inl (I (.object "java/lang/Object"), n562372, .inr (.inr (.inr (.inr f562373)))) := (n563313 q562358 (rn_ref_num he563287 he563293)).trans he563287
                                  have he563318 : F563311 q562375 = .inr (17, [.ref q562384, .ref q562385, .int p562386, .int p562387]) := (n563313 q562375 (rn_oa he563288 he563293)).trans he563288
                                  have he563319 : F563311 q398623 = .inr (22, [.ref (γ 9 0), .ref (γ 9 1), .ref (γ 9 2), .ref (γ 9 3), .ref (γ 9 4), .ref (γ 9 5), .ref (γ 9 6), .ref (γ 9 7), .ref (γ 9 8), .int p398631, .int p398632, .int p398633, .int p398634, .int p398635, .int p398636, .ref (γ 9 15), .ref (γ 9 16), .ref (γ 9 17), .ref (γ 9 18), .ref (γ 9 19), .ref (γ 9 20), .ref (γ 9 21), .ref (γ 9 22), .int p398637, .int p398638, .int p398639, .int p398640, .int p398641, .ref q398629, .ref (γ 9 29), .int p398642, .ref (γ 9 31), .int p398643, .int p398644, .int p398645, .ref q398630]) := (n563313 q398623 (rn_oa he563289 he563293)).trans he563289
                                  have he563320 : F563311 q562384 = .inr (4, [.int p562938, .ref q562940, .int p562939]) := (n563313 q562384 (rn_oa he563290 he563293)).trans he563290
                                  have he563321 : F563311 q562940 = .inl (I (.object "java/lang/Object"), n563197, .inr (.inr (.inr (.inr f563198)))) := (n563313 q562940 (rn_ref_num he563291 he563293)).trans he563291
                                  have he563322 : F563311 q563200 = .inr (20, [.int p563212, .int p563213, .int p563214, .int p563215, .int p563216, .int p563217, .int p563218]) := (n563313 q563200 (rn_oa he563292 he563293)).trans he563292
                                  have he563323 : F563311 (γ 9 5) = .inl (I .int, 2000, .inl f563314) := e563312
                                  have hs563324 : rStr γ [] F398622 F563311 := rStr_put hs563294 n563313 ht398653 (by decide)
                                  have kp563325 : F563311 q398623 = F398622 q398623 := (n563313 q398623 (rn_ty htq398623 ht398653 (by decide))).trans kp563295
                                  have kp563326 : F563311 (γ 9 3) = F398622 (γ 9 3) := (n563313 (γ 9 3) (rn_ty ht398651 ht398653 (by decide))).trans kp563296
                                  obtain ⟨z563327, hz563327⟩ : ∃ z : Int32, z = g562921 + Int32.ofInt 1 := ⟨_, rfl⟩
                                  have ez563327 : z563327.toInt = g562921.toInt + 1 := gI_inc hz563327 (by decide) bg562921'' (by decide) (by decide)
                                  have bz563327 : gB z563327 1 1000000 := ⟨by omega, by omega⟩
                                  refine G_iinc (L' := [(5, .int z563327), (6, .ref q563200), (4, .ref q562375), (3, .int g562346), (2, .int g561204), (0, .ref q398623), (1, .ref q398624)]) z563327 1 dr_cX17_weigh_189 rfl hz563327.symm (Nat.le_of_ble_eq_true rfl) rfl ?_
                                  refine G_goto 74 dr_cX17_weigh_192 (by decide +kernel) ?_
                                  have hT563328 : RS D I P398621 F563311 γ el := RS_set hT563297 n563313 ht398653 (by decide) ⟨f563314, he563323⟩
                                  refine G_lv (L' := [(5, .int z563327), (4, .ref q562375), (3, .int g562346), (2, .int g561204), (0, .ref q398623), (1, .ref q398624)]) [0, 2, 3, 4, 5, 6] rfl ?_
                                  exact ih74_562926 F563311 z563327 (gB_w bz563327 (by decide) (by decide)) hT563328 hs563324 kp563325 kp563326 (mz_up ez563327 (Int.le_trans bg562921''.2 (by decide)) hm74_562926)
                            · have r563329 : o563229.toInt ≠ 0 := gj_neq hc563230 (show Int32.toInt 0 = 0 by decide)
                              have bo563229' : gB o563229 1 1 := gB_t1 bo563229 r563329
                              refine G_aload_n 5 dr_cX17_weigh_131 rfl ?_
                              refine Gp_get 5 hm562935 he562934 dr_cX17_weigh_132 (gk_X17 D I) (Nat.le_of_ble_eq_true rfl) wr_7_79 rfl ?_
                              refine G_aload 0 dr_cX17_weigh_135 rfl ?_
                              refine Gp_get 1 hm563210 he563211 dr_cX17_weigh_137 (gk_X15 D I) (Nat.le_of_ble_eq_true rfl) wr_9_182 rfl ?_
                              refine G_dup2_11 dr_cX17_weigh_140 rfl rfl ?_
                              have hm563330 : (γ 9 5) ∈ P398621 := RS_m hT562923 ht398653 (by decide)
                              obtain ⟨f563332, he563331⟩ := show rk_17 I (F562922 (γ 9 5)) from RS_o hT562923 ht398653
                              refine Gp_iald 0 hm563330 he563331 dr_cX17_weigh_141 rfl (gB_in bp563213 (by decide) (by decide)) (G_nam fun z563333 hz563333 => ?_)
                              have bz563333 : gB z563333 (-2147483648) 2147483647 := gB_any z563333
                              refine G_iload_n 3 dr_cX17_weigh_142 rfl ?_
                              refine G_iadd dr_cX17_weigh_143 (G_nam fun z563334 hz563334 => ?_)
                              have bz563334 : gB z563334 (-2147483648) 2147483647 := gB_any z563334
                              refine Gp_iast 0 hm563330 he563331 dr_cX17_weigh_144 rfl (gB_in bp563213 (by decide) (by decide)) (fun F563335 e563336 n563337 => ?_)
                              obtain ⟨f563338, hf563338⟩ : ∃ z, z = upd f563332 p563213.toNatClampNeg z563334 := ⟨_, rfl⟩
                              rw [← hf563338] at e563336
                              have he563339 : F563335 q398624 = .inr (18, [.ref q561217, .ref q561218, .int p561219, .int p561220]) := (n563337 q398624 (rn_oa he562929 he563331)).trans he562929
                              have he563340 : F563335 q561217 = .inr (4, [.int p562356, .ref q562358, .int p562357]) := (n563337 q561217 (rn_oa he562930 he563331)).trans he562930
                              have he563341 : F563335 q562358 = .inl (I (.object "java/lang/Object"), n562372, .inr (.inr (.inr (.inr f562373)))) := (n563337 q562358 (rn_ref_num he562931 he563331)).trans he562931
                              have he563342 : F563335 q562375 = .inr (17, [.ref q562384, .ref q562385, .int p562386, .int p562387]) := (n563337 q562375 (rn_oa he562932 he563331)).trans he562932
                              have he563343 : F563335 q398623 = .inr (22, [.ref (γ 9 0), .ref (γ 9 1), .ref (γ 9 2), .ref (γ 9 3), .ref (γ 9 4), .ref (γ 9 5), .ref (γ 9 6), .ref (γ 9 7), .ref (γ 9 8), .int p398631, .int p398632, .int p398633, .int p398634, .int p398635, .int p398636, .ref (γ 9 15), .ref (γ 9 16), .ref (γ 9 17), .ref (γ 9 18), .ref (γ 9 19), .ref (γ 9 20), .ref (γ 9 21), .ref (γ 9 22), .int p398637, .int p398638, .int p398639, .int p398640, .int p398641, .ref q398629, .ref (γ 9 29), .int p398642, .ref (γ 9 31), .int p398643, .int p398644, .int p398645, .ref q398630]) := (n563337 q398623 (rn_oa he562934 he563331)).trans he562934
                              have he563344 : F563335 q562384 = .inr (4, [.int p562938, .ref q562940, .int p562939]) := (n563337 q562384 (rn_oa he562937 he563331)).trans he562937
                              have he563345 : F563335 q562940 = .inl (I (.object "java/lang/Object"), n563197, .inr (.inr (.inr (.inr f563198)))) := (n563337 q562940 (rn_ref_num r563191 he563331)).trans r563191
                              have he563346 : F563335 q563200 = .inr (20, [.int p563212, .int p563213, .int p563214, .int p563215, .int p563216, .int p563217, .int p563218]) := (n563337 q563200 (rn_oa he563211 he563331)).trans he563211
                              have he563347 : F563335 (γ 9 5) = .inl (I .int, 2000, .inl f563338) := e563336
                              have hs563348 : rStr γ [] F398622 F563335 := rStr_put hs562924 n563337 ht398653 (by decide)
                              have kp563349 : F563335 q398623 = F398622 q398623 := (n563337 q398623 (rn_ty htq398623 ht398653 (by decide))).trans x562925
                              have kp563350 : F563335 (γ 9 3) = F398622 (γ 9 3) := (n563337 (γ 9 3) (rn_ty ht398651 ht398653 (by decide))).trans x562926
                              refine G_aload 0 dr_cX17_weigh_145 rfl ?_
                              have hT563351 : RS D I P398621 F563335 γ el := RS_set hT562923 n563337 ht398653 (by decide) ⟨f563338, he563347⟩
                              refine Gw_callV (As := []) (gV_ok D I) (cp_1669_Row_usesA l hl0 D I P398621 F563335 q563200 p563212 p563213 p563214 p563215 p563216 p563217 p563218 hm563210 he563346 bp563212 bp563213 bp563216 bp563217 bp563218) dr_cX17_weigh_147 ⟨wr_10_192, wr_1_39, wr_10_195, by decide, rfl, (Nat.le_of_ble_eq_true rfl), (Nat.le_of_ble_eq_true rfl)⟩ wr_10_193 wr_10_194 hm563210 he563346 rfl (show 0 + 0 ≤ 0 by first | omega | decide) (show 0 + 0 ≤ 0 by first | omega | decide) (Nat.le_of_ble_eq_true rfl) (fun r563355 w563356 dc563352 ds563353 hp563354 => ?_) (fun _ _ _ _ _ z => z.elim)
                              obtain ⟨o563357, rfl, rfl, hdc, hds, bo563357, x563358⟩ := hp563354
                              change G _ _ _ _ _ _ _ (.int o563357 :: _) _ _ _
                              refine G_widen (cs' := 0) (sl' := 0) (by omega) (by omega) ?_
                              refine G_if_eq 167 dr_cX17_weigh_150 (by decide +kernel) (fun hc563359 => ?_) (fun hc563359 => ?_)
                              · have r563360 : o563357.toInt = 0 := gj_eq hc563359 (show Int32.toInt 0 = 0 by decide)
                                have bo563357' : gB o563357 0 0 := gB_t0 r563360
                                refine G_aload 0 dr_cX17_weigh_167 rfl ?_
                                refine Gw_callV (As := []) (gV_ok D I) (cp_1693_Row_usesB l hl0 D I P398621 F563335 q563200 p563212 p563213 p563214 p563215 p563216 p563217 p563218 hm563210 he563346 bp563212 bp563213 bp563216 bp563217 bp563218) dr_cX17_weigh_169 ⟨wr_10_196, wr_1_39, wr_10_199, by decide, rfl, (Nat.le_of_ble_eq_true rfl), (Nat.le_of_ble_eq_true rfl)⟩ wr_10_197 wr_10_198 hm563210 he563346 rfl (show 0 + 0 ≤ 0 by first | omega | decide) (show 0 + 0 ≤ 0 by first | omega | decide) (Nat.le_of_ble_eq_true rfl) (fun r563364 w563365 dc563361 ds563362 hp563363 => ?_) (fun _ _ _ _ _ z => z.elim)
                                obtain ⟨o563366, rfl, rfl, hdc, hds, bo563366, x563367⟩ := hp563363
                                change G _ _ _ _ _ _ _ (.int o563366 :: _) _ _ _
                                refine G_widen (cs' := 0) (sl' := 0) (by omega) (by omega) ?_
                                refine G_if_eq 189 dr_cX17_weigh_172 (by decide +kernel) (fun hc563368 => ?_) (fun hc563368 => ?_)
                                · have r563369 : o563366.toInt = 0 := gj_eq hc563368 (show Int32.toInt 0 = 0 by decide)
                                  have bo563366' : gB o563366 0 0 := gB_t0 r563369
                                  obtain ⟨z563370, hz563370⟩ : ∃ z : Int32, z = g562921 + Int32.ofInt 1 := ⟨_, rfl⟩
                                  have ez563370 : z563370.toInt = g562921.toInt + 1 := gI_inc hz563370 (by decide) bg562921'' (by decide) (by decide)
                                  have bz563370 : gB z563370 1 1000000 := ⟨by omega, by omega⟩
                                  refine G_iinc (L' := [(5, .int z563370), (6, .ref q563200), (4, .ref q562375), (3, .int g562346), (2, .int g561204), (0, .ref q398623), (1, .ref q398624)]) z563370 1 dr_cX17_weigh_189 rfl hz563370.symm (Nat.le_of_ble_eq_true rfl) rfl ?_
                                  refine G_goto 74 dr_cX17_weigh_192 (by decide +kernel) ?_
                                  refine G_lv (L' := [(5, .int z563370), (4, .ref q562375), (3, .int g562346), (2, .int g561204), (0, .ref q398623), (1, .ref q398624)]) [0, 2, 3, 4, 5, 6] rfl ?_
                                  exact ih74_562926 F563335 z563370 (gB_w bz563370 (by decide) (by decide)) hT563351 hs563348 kp563349 kp563350 (mz_up ez563370 (Int.le_trans bg562921''.2 (by decide)) hm74_562926)
                                · have r563371 : o563366.toInt ≠ 0 := gj_neq hc563368 (show Int32.toInt 0 = 0 by decide)
                                  have bo563366' : gB o563366 1 1 := gB_t1 bo563366 r563371
                                  refine G_aload_n 5 dr_cX17_weigh_175 rfl ?_
                                  refine Gp_get 5 hm562935 he563343 dr_cX17_weigh_176 (gk_X17 D I) (Nat.le_of_ble_eq_true rfl) wr_7_79 rfl ?_
                                  refine G_aload 0 dr_cX17_weigh_179 rfl ?_
                                  refine Gp_get 3 hm563210 he563346 dr_cX17_weigh_181 (gk_X15 D I) (Nat.le_of_ble_eq_true rfl) wr_9_190 rfl ?_
                                  refine G_dup2_11 dr_cX17_weigh_184 rfl rfl ?_
                                  refine Gp_iald 0 hm563330 he563347 dr_cX17_weigh_185 rfl (gB_inr (by omega) (by omega)) (G_nam fun z563372 hz563372 => ?_)
                                  have bz563372 : gB z563372 (-2147483648) 2147483647 := gB_any z563372
                                  refine G_iload_n 3 dr_cX17_weigh_186 rfl ?_
                                  refine G_iadd dr_cX17_weigh_187 (G_nam fun z563373 hz563373 => ?_)
                                  have bz563373 : gB z563373 (-2147483648) 2147483647 := gB_any z563373
                                  refine Gp_iast 0 hm563330 he563347 dr_cX17_weigh_188 rfl (gB_inr (by omega) (by omega)) (fun F563374 e563375 n563376 => ?_)
                                  obtain ⟨f563377, hf563377⟩ : ∃ z, z = upd f563338 p563215.toNatClampNeg z563373 := ⟨_, rfl⟩
                                  rw [← hf563377] at e563375
                                  have he563378 : F563374 q398624 = .inr (18, [.ref q561217, .ref q561218, .int p561219, .int p561220]) := (n563376 q398624 (rn_oa he563339 he563347)).trans he563339
                                  have he563379 : F563374 q561217 = .inr (4, [.int p562356, .ref q562358, .int p562357]) := (n563376 q561217 (rn_oa he563340 he563347)).trans he563340
                                  have he563380 : F563374 q562358 = .inl (I (.object "java/lang/Object"), n562372, .inr (.inr (.inr (.inr f562373)))) := (n563376 q562358 (rn_ref_num he563341 he563347)).trans he563341
                                  have he563381 : F563374 q562375 = .inr (17, [.ref q562384, .ref q562385, .int p562386, .int p562387]) := (n563376 q562375 (rn_oa he563342 he563347)).trans he563342
                                  have he563382 : F563374 q398623 = .inr (22, [.ref (γ 9 0), .ref (γ 9 1), .ref (γ 9 2), .ref (γ 9 3), .ref (γ 9 4), .ref (γ 9 5), .ref (γ 9 6), .ref (γ 9 7), .ref (γ 9 8), .int p398631, .int p398632, .int p398633, .int p398634, .int p398635, .int p398636, .ref (γ 9 15), .ref (γ 9 16), .ref (γ 9 17), .ref (γ 9 18), .ref (γ 9 19), .ref (γ 9 20), .ref (γ 9 21), .ref (γ 9 22), .int p398637, .int p398638, .int p398639, .int p398640, .int p398641, .ref q398629, .ref (γ 9 29), .int p398642, .ref (γ 9 31), .int p398643, .int p398644, .int p398645, .ref q398630]) := (n563376 q398623 (rn_oa he563343 he563347)).trans he563343
                                  have he563383 : F563374 q562384 = .inr (4, [.int p562938, .ref q562940, .int p562939]) := (n563376 q562384 (rn_oa he563344 he563347)).trans he563344
                                  have he563384 : F563374 q562940 = .inl (I (.object "java/lang/Object"), n563197, .inr (.inr (.inr (.inr f563198)))) := (n563376 q562940 (rn_ref_num he563345 he563347)).trans he563345
                                  have he563385 : F563374 q563200 = .inr (20, [.int p563212, .int p563213, .int p563214, .int p563215, .int p563216, .int p563217, .int p563218]) := (n563376 q563200 (rn_oa he563346 he563347)).trans he563346
                                  have he563386 : F563374 (γ 9 5) = .inl (I .int, 2000, .inl f563377) := e563375
                                  have hs563387 : rStr γ [] F398622 F563374 := rStr_put hs563348 n563376 ht398653 (by decide)
                                  have kp563388 : F563374 q398623 = F398622 q398623 := (n563376 q398623 (rn_ty htq398623 ht398653 (by decide))).trans kp563349
                                  have kp563389 : F563374 (γ 9 3) = F398622 (γ 9 3) := (n563376 (γ 9 3) (rn_ty ht398651 ht398653 (by decide))).trans kp563350
                                  obtain ⟨z563390, hz563390⟩ : ∃ z : Int32, z = g562921 + Int32.ofInt 1 := ⟨_, rfl⟩
                                  have ez563390 : z563390.toInt = g562921.toInt + 1 := gI_inc hz563390 (by decide) bg562921'' (by decide) (by decide)
                                  have bz563390 : gB z563390 1 1000000 := ⟨by omega, by omega⟩
                                  refine G_iinc (L' := [(5, .int z563390), (6, .ref q563200), (4, .ref q562375), (3, .int g562346), (2, .int g561204), (0, .ref q398623), (1, .ref q398624)]) z563390 1 dr_cX17_weigh_189 rfl hz563390.symm (Nat.le_of_ble_eq_true rfl) rfl ?_
                                  refine G_goto 74 dr_cX17_weigh_192 (by decide +kernel) ?_
                                  have hT563391 : RS D I P398621 F563374 γ el := RS_set hT563351 n563376 ht398653 (by decide) ⟨f563377, he563386⟩
                                  refine G_lv (L' := [(5, .int z563390), (4, .ref q562375), (3, .int g562346), (2, .int g561204), (0, .ref q398623), (1, .ref q398624)]) [0, 2, 3, 4, 5, 6] rfl ?_
                                  exact ih74_562926 F563374 z563390 (gB_w bz563390 (by decide) (by decide)) hT563391 hs563387 kp563388 kp563389 (mz_up ez563390 (Int.le_trans bg562921''.2 (by decide)) hm74_562926)
                              · have r563392 : o563357.toInt ≠ 0 := gj_neq hc563359 (show Int32.toInt 0 = 0 by decide)
                                have bo563357' : gB o563357 1 1 := gB_t1 bo563357 r563392
                                refine G_aload_n 5 dr_cX17_weigh_153 rfl ?_
                                refine Gp_get 5 hm562935 he563343 dr_cX17_weigh_154 (gk_X17 D I) (Nat.le_of_ble_eq_true rfl) wr_7_79 rfl ?_
                                refine G_aload 0 dr_cX17_weigh_157 rfl ?_
                                refine Gp_get 2 hm563210 he563346 dr_cX17_weigh_159 (gk_X15 D I) (Nat.le_of_ble_eq_true rfl) wr_9_186 rfl ?_
                                refine G_dup2_11 dr_cX17_weigh_162 rfl rfl ?_
                                refine Gp_iald 0 hm563330 he563347 dr_cX17_weigh_163 rfl (gB_inr (by omega) (by omega)) (G_nam fun z563393 hz563393 => ?_)
                                have bz563393 : gB z563393 (-2147483648) 2147483647 := gB_any z563393
                                refine G_iload_n 3 dr_cX17_weigh_164 rfl ?_
                                refine G_iadd dr_cX17_weigh_165 (G_nam fun z563394 hz563394 => ?_)
                                have bz563394 : gB z563394 (-2147483648) 2147483647 := gB_any z563394
                                refine Gp_iast 0 hm563330 he563347 dr_cX17_weigh_166 rfl (gB_inr (by omega) (by omega)) (fun F563395 e563396 n563397 => ?_)
                                obtain ⟨f563398, hf563398⟩ : ∃ z, z = upd f563338 p563214.toNatClampNeg z563394 := ⟨_, rfl⟩
                                rw [← hf563398] at e563396
                                have he563399 : F563395 q398624 = .inr (18, [.ref q561217, .ref q561218, .int p561219, .int p561220]) := (n563397 q398624 (rn_oa he563339 he563347)).trans he563339
                                have he563400 : F563395 q561217 = .inr (4, [.int p562356, .ref q562358, .int p562357]) := (n563397 q561217 (rn_oa he563340 he563347)).trans he563340
                                have he563401 : F563395 q562358 = .inl (I (.object "java/lang/Object"), n562372, .inr (.inr (.inr (.inr f562373)))) := (n563397 q562358 (rn_ref_num he563341 he563347)).trans he563341
                                have he563402 : F563395 q562375 = .inr (17, [.ref q562384, .ref q562385, .int p562386, .int p562387]) := (n563397 q562375 (rn_oa he563342 he563347)).trans he563342
                                have he563403 : F563395 q398623 = .inr (22, [.ref (γ 9 0), .ref (γ 9 1), .ref (γ 9 2), .ref (γ 9 3), .ref (γ 9 4), .ref (γ 9 5), .ref (γ 9 6), .ref (γ 9 7), .ref (γ 9 8), .int p398631, .int p398632, .int p398633, .int p398634, .int p398635, .int p398636, .ref (γ 9 15), .ref (γ 9 16), .ref (γ 9 17), .ref (γ 9 18), .ref (γ 9 19), .ref (γ 9 20), .ref (γ 9 21), .ref (γ 9 22), .int p398637, .int p398638, .int p398639, .int p398640, .int p398641, .ref q398629, .ref (γ 9 29), .int p398642, .ref (γ 9 31), .int p398643, .int p398644, .int p398645, .ref q398630]) := (n563397 q398623 (rn_oa he563343 he563347)).trans he563343
                                have he563404 : F563395 q562384 = .inr (4, [.int p562938, .ref q562940, .int p562939]) := (n563397 q562384 (rn_oa he563344 he563347)).trans he563344
                                have he563405 : F563395 q562940 = .inl (I (.object "java/lang/Object"), n563197, .inr (.inr (.inr (.inr f563198)))) := (n563397 q562940 (rn_ref_num he563345 he563347)).trans he563345
                                have he563406 : F563395 q563200 = .inr (20, [.int p563212, .int p563213, .int p563214, .int p563215, .int p563216, .int p563217, .int p563218]) := (n563397 q563200 (rn_oa he563346 he563347)).trans he563346
                                have he563407 : F563395 (γ 9 5) = .inl (I .int, 2000, .inl f563398) := e563396
                                have hs563408 : rStr γ [] F398622 F563395 := rStr_put hs563348 n563397 ht398653 (by decide)
                                have kp563409 : F563395 q398623 = F398622 q398623 := (n563397 q398623 (rn_ty htq398623 ht398653 (by decide))).trans kp563349
                                have kp563410 : F563395 (γ 9 3) = F398622 (γ 9 3) := (n563397 (γ 9 3) (rn_ty ht398651 ht398653 (by decide))).trans kp563350
                                refine G_aload 0 dr_cX17_weigh_167 rfl ?_
                                have hT563411 : RS D I P398621 F563395 γ el := RS_set hT563351 n563397 ht398653 (by decide) ⟨f563398, he563407⟩
                                refine Gw_callV (As := []) (gV_ok D I) (cp_1693_Row_usesB l hl0 D I P398621 F563395 q563200 p563212 p563213 p563214 p563215 p563216 p563217 p563218 hm563210 he563406 bp563212 bp563213 bp563216 bp563217 bp563218) dr_cX17_weigh_169 ⟨wr_10_196, wr_1_39, wr_10_199, by decide, rfl, (Nat.le_of_ble_eq_true rfl), (Nat.le_of_ble_eq_true rfl)⟩ wr_10_197 wr_10_198 hm563210 he563406 rfl (show 0 + 0 ≤ 0 by first | omega | decide) (show 0 + 0 ≤ 0 by first | omega | decide) (Nat.le_of_ble_eq_true rfl) (fun r563415 w563416 dc563412 ds563413 hp563414 => ?_) (fun _ _ _ _ _ z => z.elim)
                                obtain ⟨o563417, rfl, rfl, hdc, hds, bo563417, x563418⟩ := hp563414
                                change G _ _ _ _ _ _ _ (.int o563417 :: _) _ _ _
                                refine G_widen (cs' := 0) (sl' := 0) (by omega) (by omega) ?_
                                refine G_if_eq 189 dr_cX17_weigh_172 (by decide +kernel) (fun hc563419 => ?_) (fun hc563419 => ?_)
                                · have r563420 : o563417.toInt = 0 := gj_eq hc563419 (show Int32.toInt 0 = 0 by decide)
                                  have bo563417' : gB o563417 0 0 := gB_t0 r563420
                                  obtain ⟨z563421, hz563421⟩ : ∃ z : Int32, z = g562921 + Int32.ofInt 1 := ⟨_, rfl⟩
                                  have ez563421 : z563421.toInt = g562921.toInt + 1 := gI_inc hz563421 (by decide) bg562921'' (by decide) (by decide)
                                  have bz563421 : gB z563421 1 1000000 := ⟨by omega, by omega⟩
                                  refine G_iinc (L' := [(5, .int z563421), (6, .ref q563200), (4, .ref q562375), (3, .int g562346), (2, .int g561204), (0, .ref q398623), (1, .ref q398624)]) z563421 1 dr_cX17_weigh_189 rfl hz563421.symm (Nat.le_of_ble_eq_true rfl) rfl ?_
                                  refine G_goto 74 dr_cX17_weigh_192 (by decide +kernel) ?_
                                  refine G_lv (L' := [(5, .int z563421), (4, .ref q562375), (3, .int g562346), (2, .int g561204), (0, .ref q398623), (1, .ref q398624)]) [0, 2, 3, 4, 5, 6] rfl ?_
                                  exact ih74_562926 F563395 z563421 (gB_w bz563421 (by decide) (by decide)) hT563411 hs563408 kp563409 kp563410 (mz_up ez563421 (Int.le_trans bg562921''.2 (by decide)) hm74_562926)
                                · have r563422 : o563417.toInt ≠ 0 := gj_neq hc563419 (show Int32.toInt 0 = 0 by decide)
                                  have bo563417' : gB o563417 1 1 := gB_t1 bo563417 r563422
                                  refine G_aload_n 5 dr_cX17_weigh_175 rfl ?_
                                  refine Gp_get 5 hm562935 he563403 dr_cX17_weigh_176 (gk_X17 D I) (Nat.le_of_ble_eq_true rfl) wr_7_79 rfl ?_
                                  refine G_aload 0 dr_cX17_weigh_179 rfl ?_
                                  refine Gp_get 3 hm563210 he563406 dr_cX17_weigh_181 (gk_X15 D I) (Nat.le_of_ble_eq_true rfl) wr_9_190 rfl ?_
                                  refine G_dup2_11 dr_cX17_weigh_184 rfl rfl ?_
                                  refine Gp_iald 0 hm563330 he563407 dr_cX17_weigh_185 rfl (gB_inr (by omega) (by omega)) (G_nam fun z563423 hz563423 => ?_)
                                  have bz563423 : gB z563423 (-2147483648) 2147483647 := gB_any z563423
                                  refine G_iload_n 3 dr_cX17_weigh_186 rfl ?_
                                  refine G_iadd dr_cX17_weigh_187 (G_nam fun z563424 hz563424 => ?_)
                                  have bz563424 : gB z563424 (-2147483648) 2147483647 := gB_any z563424
                                  refine Gp_iast 0 hm563330 he563407 dr_cX17_weigh_188 rfl (gB_inr (by omega) (by omega)) (fun F563425 e563426 n563427 => ?_)
                                  obtain ⟨f563428, hf563428⟩ : ∃ z, z = upd f563398 p563215.toNatClampNeg z563424 := ⟨_, rfl⟩
                                  rw [← hf563428] at e563426
                                  have he563429 : F563425 q398624 = .inr (18, [.ref q561217, .ref q561218, .int p561219, .int p561220]) := (n563427 q398624 (rn_oa he563399 he563407)).trans he563399
                                  have he563430 : F563425 q561217 = .inr (4, [.int p562356, .ref q562358, .int p562357]) := (n563427 q561217 (rn_oa he563400 he563407)).trans he563400
                                  have he563431 : F563425 q562358 = .inl (I (.object "java/lang/Object"), n562372, .inr (.inr (.inr (.inr f562373)))) := (n563427 q562358 (rn_ref_num he563401 he563407)).trans he563401
                                  have he563432 : F563425 q562375 = .inr (17, [.ref q562384, .ref q562385, .int p562386, .int p562387]) := (n563427 q562375 (rn_oa he563402 he563407)).trans he563402
                                  have he563433 : F563425 q398623 = .inr (22, [.ref (γ 9 0), .ref (γ 9 1), .ref (γ 9 2), .ref (γ 9 3), .ref (γ 9 4), .ref (γ 9 5), .ref (γ 9 6), .ref (γ 9 7), .ref (γ 9 8), .int p398631, .int p398632, .int p398633, .int p398634, .int p398635, .int p398636, .ref (γ 9 15), .ref (γ 9 16), .ref (γ 9 17), .ref (γ 9 18), .ref (γ 9 19), .ref (γ 9 20), .ref (γ 9 21), .ref (γ 9 22), .int p398637, .int p398638, .int p398639, .int p398640, .int p398641, .ref q398629, .ref (γ 9 29), .int p398642, .ref (γ 9 31), .int p398643, .int p398644, .int p398645, .ref q398630]) := (n563427 q398623 (rn_oa he563403 he563407)).trans he563403
                                  have he563434 : F563425 q562384 = .inr (4, [.int p562938, .ref q562940, .int p562939]) := (n563427 q562384 (rn_oa he563404 he563407)).trans he563404
                                  have he563435 : F563425 q562940 = .inl (I (.object "java/lang/Object"), n563197, .inr (.inr (.inr (.inr f563198)))) := (n563427 q562940 (rn_ref_num he563405 he563407)).trans he563405
                                  have he563436 : F563425 q563200 = .inr (20, [.int p563212, .int p563213, .int p563214, .int p563215, .int p563216, .int p563217, .int p563218]) := (n563427 q563200 (rn_oa he563406 he563407)).trans he563406
                                  have he563437 : F563425 (γ 9 5) = .inl (I .int, 2000, .inl f563428) := e563426
                                  have hs563438 : rStr γ [] F398622 F563425 := rStr_put hs563408 n563427 ht398653 (by decide)
                                  have kp563439 : F563425 q398623 = F398622 q398623 := (n563427 q398623 (rn_ty htq398623 ht398653 (by decide))).trans kp563409
                                  have kp563440 : F563425 (γ 9 3) = F398622 (γ 9 3) := (n563427 (γ 9 3) (rn_ty ht398651 ht398653 (by decide))).trans kp563410
                                  obtain ⟨z563441, hz563441⟩ : ∃ z : Int32, z = g562921 + Int32.ofInt 1 := ⟨_, rfl⟩
                                  have ez563441 : z563441.toInt = g562921.toInt + 1 := gI_inc hz563441 (by decide) bg562921'' (by decide) (by decide)
                                  have bz563441 : gB z563441 1 1000000 := ⟨by omega, by omega⟩
                                  refine G_iinc (L' := [(5, .int z563441), (6, .ref q563200), (4, .ref q562375), (3, .int g562346), (2, .int g561204), (0, .ref q398623), (1, .ref q398624)]) z563441 1 dr_cX17_weigh_189 rfl hz563441.symm (Nat.le_of_ble_eq_true rfl) rfl ?_
                                  refine G_goto 74 dr_cX17_weigh_192 (by decide +kernel) ?_
                                  have hT563442 : RS D I P398621 F563425 γ el := RS_set hT563411 n563427 ht398653 (by decide) ⟨f563428, he563437⟩
                                  refine G_lv (L' := [(5, .int z563441), (4, .ref q562375), (3, .int g562346), (2, .int g561204), (0, .ref q398623), (1, .ref q398624)]) [0, 2, 3, 4, 5, 6] rfl ?_
                                  exact ih74_562926 F563425 z563441 (gB_w bz563441 (by decide) (by decide)) hT563442 hs563438 kp563439 kp563440 (mz_up ez563441 (Int.le_trans bg562921''.2 (by decide)) hm74_562926)
                    exact hlp74_562926 (((1000002 : Int) - 0).toNat + 1) F561205 0 (gB_w (gBl (show Int32.toInt 0 = 0 by decide)) (by decide) (by decide)) hT561206 hs561207 x561208 x561209 (Nat.lt_succ_self _)
                  · have r563443 : g562345.toInt < z562351.toInt := gC_nle hc562352
                    have bg562345' : gB g562345 0 2147483646 := ⟨by omega, by omega⟩
                    have bz562351' : gB z562351 1 2147483647 := ⟨by omega, by omega⟩
                    refine G_iload_n 1 dr_cX17_weigh_53 rfl ?_
                    refine G_bipush 10 dr_cX17_weigh_54 (by decide +kernel) ?_
                    refine G_imul dr_cX17_weigh_56 (G_nam fun z563444 hz563444 => ?_)
                    have bz563444 : gB z563444 (-2147483648) 2147483647 := gB_any z563444
                    refine G_istore_n (L' := [(3, .int z563444), (4, .int g562345), (2, .int g561204), (0, .ref q398623), (1, .ref q398624)]) dr_cX17_weigh_57 (Nat.le_of_ble_eq_true rfl) rfl ?_
                    obtain ⟨z563445, hz563445⟩ : ∃ z : Int32, z = g562345 + Int32.ofInt 1 := ⟨_, rfl⟩
                    have ez563445 : z563445.toInt = g562345.toInt + 1 := gI_inc hz563445 (by decide) bg562345' (by decide) (by decide)
                    have bz563445 : gB z563445 1 2147483647 := ⟨by omega, by omega⟩
                    refine G_iinc (L' := [(4, .int z563445), (3, .int z563444), (2, .int g561204), (0, .ref q398623), (1, .ref q398624)]) z563445 1 dr_cX17_weigh_58 rfl hz563445.symm (Nat.le_of_ble_eq_true rfl) rfl ?_
                    refine G_goto 42 dr_cX17_weigh_61 (by decide +kernel) ?_
                    exact ih42_562346 z563445 z563444 (gB_w bz563445 (by decide) (by decide)) (mz_up ez563445 (Int.le_trans bg562345'.2 (by decide)) hm42_562346)
              exact hlp42_562346 (((2147483648 : Int) - 0).toNat + 1) 0 1 (gB_w (gBl (show Int32.toInt 0 = 0 by decide)) (by decide) (by decide)) (Nat.lt_succ_self _)
        exact hlp29_561209 (((1000001 : Int) - 0).toNat + 1) F558953 0 (gB_w (gBl (show Int32.toInt 0 = 0 by decide)) (by decide) (by decide)) hT558954 hs558955 x558956 x558957 (Nat.lt_succ_self _)
      · have r563446 : g558952.toInt < 2000 := gj_nleL hc558963 (show Int32.toInt 2000 = 2000 by decide)
        have bg558952' : gB g558952 0 1999 := ⟨by omega, by omega⟩
        refine G_aload_n 1 dr_cX17_weigh_14 rfl ?_
        refine Gp_get 5 hm558962 he558961 dr_cX17_weigh_15 (gk_X17 D I) (Nat.le_of_ble_eq_true rfl) wr_7_79 rfl ?_
        refine G_iload_n 0 dr_cX17_weigh_18 rfl ?_
        refine G_iconst 0 dr_cX17_weigh_19 (by decide +kernel) ?_
        have hm563447 : (γ 9 5) ∈ P398621 := RS_m hT558954 ht398653 (by decide)
        obtain ⟨f563449, he563448⟩ := show rk_17 I (F558953 (γ 9 5)) from RS_o hT558954 ht398653
        refine Gp_iast 0 hm563447 he563448 dr_cX17_weigh_20 rfl (gB_in bg558952' (by decide) (by decide)) (fun F563450 e563451 n563452 => ?_)
        obtain ⟨f563453, hf563453⟩ : ∃ z, z = upd f563449 g558952.toNatClampNeg 0 := ⟨_, rfl⟩
        rw [← hf563453] at e563451
        have he563454 : F563450 q398623 = .inr (22, [.ref (γ 9 0), .ref (γ 9 1), .ref (γ 9 2), .ref (γ 9 3), .ref (γ 9 4), .ref (γ 9 5), .ref (γ 9 6), .ref (γ 9 7), .ref (γ 9 8), .int p398631, .int p398632, .int p398633, .int p398634, .int p398635, .int p398636, .ref (γ 9 15), .ref (γ 9 16), .ref (γ 9 17), .ref (γ 9 18), .ref (γ 9 19), .ref (γ 9 20), .ref (γ 9 21), .ref (γ 9 22), .int p398637, .int p398638, .int p398639, .int p398640, .int p398641, .ref q398629, .ref (γ 9 29), .int p398642, .ref (γ 9 31), .int p398643, .int p398644, .int p398645, .ref q398630]) := (n563452 q398623 (rn_oa he558961 he563448)).trans he558961
        have he563455 : F563450 (γ 9 5) = .inl (I .int, 2000, .inl f563453) := e563451
        have hs563456 : rStr γ [] F398622 F563450 := rStr_put hs558955 n563452 ht398653 (by decide)
        have kp563457 : F563450 q398623 = F398622 q398623 := (n563452 q398623 (rn_ty htq398623 ht398653 (by decide))).trans x558956
        have kp563458 : F563450 (γ 9 3) = F398622 (γ 9 3) := (n563452 (γ 9 3) (rn_ty ht398651 ht398653 (by decide))).trans x558957
        obtain ⟨z563459, hz563459⟩ : ∃ z : Int32, z = g558952 + Int32.ofInt 1 := ⟨_, rfl⟩
        have ez563459 : z563459.toInt = g558952.toInt + 1 := gI_inc hz563459 (by decide) bg558952' (by decide) (by decide)
        have bz563459 : gB z563459 1 2000 := ⟨by omega, by omega⟩
        refine G_iinc (L' := [(2, .int z563459), (0, .ref q398623), (1, .ref q398624)]) z563459 0 dr_cX17_weigh_21 rfl hz563459.symm (Nat.le_of_ble_eq_true rfl) rfl ?_
        refine G_goto 7 dr_cX17_weigh_24 (by decide +kernel) ?_
        have hT563460 : RS D I P398621 F563450 γ el := RS_set hT558954 n563452 ht398653 (by decide) ⟨f563453, he563455⟩
        exact ih7_558957 F563450 z563459 (gB_w bz563459 (by decide) (by decide)) hT563460 hs563456 kp563457 kp563458 (mz_up ez563459 (Int.le_trans bg558952'.2 (by decide)) hm7_558957)
  exact hlp7_558957 (((2001 : Int) - 0).toNat + 1) F520277 0 (gB_w (gBl (show Int32.toInt 0 = 0 by decide)) (by decide) (by decide)) hT520278 hs520280 kp520281 kp520282 (Nat.lt_succ_self _)
