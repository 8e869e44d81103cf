theorem dr_cX17_weigh_0 : decode cX17_weigh 0 = .ok (.aload_n 0, 1) := by decide +kernel
theorem dr_cX17_weigh_1 : decode cX17_weigh 1 = .ok (.aload_n 1, 1) := by decide +kernel
theorem dr_cX17_weigh_2 : decode cX17_weigh 2 = .ok (.invokevirtual 170, 3) := by decide +kernel
theorem wr_11_37 : (Jvm.Cond.methodLink "SpillForgeModel" (170 : Nat) ({ cls := "SpillForgeModel", name := "findDepth", desc := "(LSpillForgeModel$Code;)V" } : Jvm.MethodName)) ∈ gw := gw_11 37 rfl rfl
theorem wr_11_40 : (Jvm.Cond.code ({ cls := "SpillForgeModel", name := "findDepth", desc := "(LSpillForgeModel$Code;)V" } : Jvm.MethodName) prog_14_method_14_code (13 : Nat) (Option.none : Option Jvm.ClassFile.FieldType)) ∈ gw := gw_11 40 rfl rfl
theorem wr_11_39 : (Jvm.Cond.instanceMethod ({ cls := "SpillForgeModel", name := "findDepth", desc := "(LSpillForgeModel$Code;)V" } : Jvm.MethodName)) ∈ gw := gw_11 39 rfl rfl
theorem wr_p_105 : Cond.selects "SpillForgeModel" ⟨"SpillForgeModel", "findDepth", "(LSpillForgeModel$Code;)V"⟩ ⟨"SpillForgeModel", "findDepth", "(LSpillForgeModel$Code;)V"⟩ ∈ gw := gw_p _ 105 rfl rfl rfl
theorem dr_cX17_weigh_5 : decode cX17_weigh 5 = .ok (.iconst 0, 1) := by decide +kernel
theorem dr_cX17_weigh_6 : decode cX17_weigh 6 = .ok (.istore_n 2, 1) := by decide +kernel
theorem dr_cX17_weigh_7 : decode cX17_weigh 7 = .ok (.iload_n 2, 1) := by decide +kernel
theorem dr_cX17_weigh_8 : decode cX17_weigh 8 = .ok (.sipush 2000, 3) := by decide +kernel
theorem dr_cX17_weigh_11 : decode cX17_weigh 11 = .ok (.if_icmp .ge 16, 3) := by decide +kernel
theorem dr_cX17_weigh_27 : decode cX17_weigh 27 = .ok (.iconst 0, 1) := by decide +kernel
theorem dr_cX17_weigh_28 : decode cX17_weigh 28 = .ok (.istore_n 2, 1) := by decide +kernel
theorem dr_cX17_weigh_29 : decode cX17_weigh 29 = .ok (.iload_n 2, 1) := by decide +kernel
theorem dr_cX17_weigh_30 : decode cX17_weigh 30 = .ok (.aload_n 1, 1) := by decide +kernel
theorem dr_cX17_weigh_31 : decode cX17_weigh 31 = .ok (.invokevirtual 96, 3) := by decide +kernel
theorem dr_cX17_weigh_34 : decode cX17_weigh 34 = .ok (.if_icmp .ge 167, 3) := by decide +kernel
theorem dr_cX17_weigh_201 : decode cX17_weigh 201 = .ok (.return_, 1) := by decide +kernel
theorem dr_cX17_weigh_37 : decode cX17_weigh 37 = .ok (.iconst 1, 1) := by decide +kernel
theorem dr_cX17_weigh_38 : decode cX17_weigh 38 = .ok (.istore_n 3, 1) := by decide +kernel
theorem dr_cX17_weigh_39 : decode cX17_weigh 39 = .ok (.iconst 0, 1) := by decide +kernel
theorem dr_cX17_weigh_40 : decode cX17_weigh 40 = .ok (.istore 4, 2) := by decide +kernel
theorem dr_cX17_weigh_42 : decode cX17_weigh 42 = .ok (.iload 4, 2) := by decide +kernel
theorem dr_cX17_weigh_44 : decode cX17_weigh 44 = .ok (.aload_n 0, 1) := by decide +kernel
theorem dr_cX17_weigh_45 : decode cX17_weigh 45 = .ok (.getfield 152, 3) := by decide +kernel
theorem dr_cX17_weigh_48 : decode cX17_weigh 48 = .ok (.iload_n 2, 1) := by decide +kernel
theorem dr_cX17_weigh_49 : decode cX17_weigh 49 = .ok (.iaload, 1) := by decide +kernel
theorem dr_cX17_weigh_50 : decode cX17_weigh 50 = .ok (.if_icmp .ge 14, 3) := by decide +kernel
theorem dr_cX17_weigh_64 : decode cX17_weigh 64 = .ok (.aload_n 1, 1) := by decide +kernel
theorem dr_cX17_weigh_65 : decode cX17_weigh 65 = .ok (.iload_n 2, 1) := by decide +kernel
theorem dr_cX17_weigh_66 : decode cX17_weigh 66 = .ok (.invokevirtual 101, 3) := by decide +kernel
theorem dr_cX17_weigh_69 : decode cX17_weigh 69 = .ok (.astore 4, 2) := by decide +kernel
theorem dr_cX17_weigh_71 : decode cX17_weigh 71 = .ok (.iconst 0, 1) := by decide +kernel
theorem dr_cX17_weigh_72 : decode cX17_weigh 72 = .ok (.istore 5, 2) := by decide +kernel
theorem dr_cX17_weigh_74 : decode cX17_weigh 74 = .ok (.iload 5, 2) := by decide +kernel
theorem dr_cX17_weigh_76 : decode cX17_weigh 76 = .ok (.aload 4, 2) := by decide +kernel
theorem dr_cX17_weigh_78 : decode cX17_weigh 78 = .ok (.getfield 117, 3) := by decide +kernel
theorem dr_cX17_weigh_81 : decode cX17_weigh 81 = .ok (.invokevirtual 121, 3) := by decide +kernel
theorem dr_cX17_weigh_84 : decode cX17_weigh 84 = .ok (.if_icmp .gt 111, 3) := by decide +kernel
theorem dr_cX17_weigh_195 : decode cX17_weigh 195 = .ok (.iinc 2 1, 3) := by decide +kernel
theorem dr_cX17_weigh_198 : decode cX17_weigh 198 = .ok (.goto (-169), 3) := by decide +kernel
theorem dr_cX17_weigh_87 : decode cX17_weigh 87 = .ok (.iload 5, 2) := by decide +kernel
theorem dr_cX17_weigh_89 : decode cX17_weigh 89 = .ok (.aload 4, 2) := by decide +kernel
theorem dr_cX17_weigh_91 : decode cX17_weigh 91 = .ok (.getfield 117, 3) := by decide +kernel
theorem dr_cX17_weigh_94 : decode cX17_weigh 94 = .ok (.invokevirtual 121, 3) := by decide +kernel
theorem dr_cX17_weigh_97 : decode cX17_weigh 97 = .ok (.if_icmp .ge 19, 3) := by decide +kernel
theorem dr_cX17_weigh_116 : decode cX17_weigh 116 = .ok (.aload 4, 2) := by decide +kernel
theorem dr_cX17_weigh_118 : decode cX17_weigh 118 = .ok (.getfield 109, 3) := by decide +kernel
theorem dr_cX17_weigh_121 : decode cX17_weigh 121 = .ok (.astore 6, 2) := by decide +kernel
theorem dr_cX17_weigh_123 : decode cX17_weigh 123 = .ok (.aload 6, 2) := by decide +kernel
theorem dr_cX17_weigh_125 : decode cX17_weigh 125 = .ok (.invokevirtual 48, 3) := by decide +kernel
theorem dr_cX17_weigh_128 : decode cX17_weigh 128 = .ok (.ifCond .eq 17, 3) := by decide +kernel
theorem dr_cX17_weigh_145 : decode cX17_weigh 145 = .ok (.aload 6, 2) := by decide +kernel
theorem dr_cX17_weigh_147 : decode cX17_weigh 147 = .ok (.invokevirtual 70, 3) := by decide +kernel
theorem dr_cX17_weigh_150 : decode cX17_weigh 150 = .ok (.ifCond .eq 17, 3) := by decide +kernel
theorem dr_cX17_weigh_167 : decode cX17_weigh 167 = .ok (.aload 6, 2) := by decide +kernel
theorem dr_cX17_weigh_169 : decode cX17_weigh 169 = .ok (.invokevirtual 76, 3) := by decide +kernel
theorem dr_cX17_weigh_172 : decode cX17_weigh 172 = .ok (.ifCond .eq 17, 3) := by decide +kernel
theorem dr_cX17_weigh_189 : decode cX17_weigh 189 = .ok (.iinc 5 1, 3) := by decide +kernel
theorem dr_cX17_weigh_192 : decode cX17_weigh 192 = .ok (.goto (-118), 3) := by decide +kernel
theorem dr_cX17_weigh_175 : decode cX17_weigh 175 = .ok (.aload_n 0, 1) := by decide +kernel
theorem dr_cX17_weigh_176 : decode cX17_weigh 176 = .ok (.getfield 174, 3) := by decide +kernel
theorem dr_cX17_weigh_179 : decode cX17_weigh 179 = .ok (.aload 6, 2) := by decide +kernel
theorem dr_cX17_weigh_181 : decode cX17_weigh 181 = .ok (.getfield 79, 3) := by decide +kernel
theorem dr_cX17_weigh_184 : decode cX17_weigh 184 = .ok (.dup2, 1) := by decide +kernel
theorem dr_cX17_weigh_185 : decode cX17_weigh 185 = .ok (.iaload, 1) := by decide +kernel
theorem dr_cX17_weigh_186 : decode cX17_weigh 186 = .ok (.iload_n 3, 1) := by decide +kernel
theorem dr_cX17_weigh_187 : decode cX17_weigh 187 = .ok (.iadd, 1) := by decide +kernel
theorem dr_cX17_weigh_188 : decode cX17_weigh 188 = .ok (.iastore, 1) := by decide +kernel
theorem dr_cX17_weigh_153 : decode cX17_weigh 153 = .ok (.aload_n 0, 1) := by decide +kernel
theorem dr_cX17_weigh_154 : decode cX17_weigh 154 = .ok (.getfield 174, 3) := by decide +kernel
theorem dr_cX17_weigh_157 : decode cX17_weigh 157 = .ok (.aload 6, 2) := by decide +kernel
theorem dr_cX17_weigh_159 : decode cX17_weigh 159 = .ok (.getfield 73, 3) := by decide +kernel
theorem dr_cX17_weigh_162 : decode cX17_weigh 162 = .ok (.dup2, 1) := by decide +kernel
theorem dr_cX17_weigh_163 : decode cX17_weigh 163 = .ok (.iaload, 1) := by decide +kernel
theorem dr_cX17_weigh_164 : decode cX17_weigh 164 = .ok (.iload_n 3, 1) := by decide +kernel
theorem dr_cX17_weigh_165 : decode cX17_weigh 165 = .ok (.iadd, 1) := by decide +kernel
theorem dr_cX17_weigh_166 : decode cX17_weigh 166 = .ok (.iastore, 1) := by decide +kernel
theorem dr_cX17_weigh_131 : decode cX17_weigh 131 = .ok (.aload_n 0, 1) := by decide +kernel
theorem dr_cX17_weigh_132 : decode cX17_weigh 132 = .ok (.getfield 174, 3) := by decide +kernel
theorem dr_cX17_weigh_135 : decode cX17_weigh 135 = .ok (.aload 6, 2) := by decide +kernel
theorem dr_cX17_weigh_137 : decode cX17_weigh 137 = .ok (.getfield 52, 3) := by decide +kernel
theorem dr_cX17_weigh_140 : decode cX17_weigh 140 = .ok (.dup2, 1) := by decide +kernel
theorem dr_cX17_weigh_141 : decode cX17_weigh 141 = .ok (.iaload, 1) := by decide +kernel
theorem dr_cX17_weigh_142 : decode cX17_weigh 142 = .ok (.iload_n 3, 1) := by decide +kernel
theorem dr_cX17_weigh_143 : decode cX17_weigh 143 = .ok (.iadd, 1) := by decide +kernel
theorem dr_cX17_weigh_144 : decode cX17_weigh 144 = .ok (.iastore, 1) := by decide +kernel
theorem dr_cX17_weigh_100 : decode cX17_weigh 100 = .ok (.aload 4, 2) := by decide +kernel
theorem dr_cX17_weigh_102 : decode cX17_weigh 102 = .ok (.getfield 117, 3) := by decide +kernel
theorem dr_cX17_weigh_105 : decode cX17_weigh 105 = .ok (.iload 5, 2) := by decide +kernel
theorem dr_cX17_weigh_107 : decode cX17_weigh 107 = .ok (.invokevirtual 124, 3) := by decide +kernel
theorem dr_cX17_weigh_110 : decode cX17_weigh 110 = .ok (.checkcast 40, 3) := by decide +kernel
theorem dr_cX17_weigh_113 : decode cX17_weigh 113 = .ok (.goto 8, 3) := by decide +kernel
theorem dr_cX17_weigh_53 : decode cX17_weigh 53 = .ok (.iload_n 3, 1) := by decide +kernel
theorem dr_cX17_weigh_54 : decode cX17_weigh 54 = .ok (.bipush 10, 2) := by decide +kernel
theorem dr_cX17_weigh_56 : decode cX17_weigh 56 = .ok (.imul, 1) := by decide +kernel
theorem dr_cX17_weigh_57 : decode cX17_weigh 57 = .ok (.istore_n 3, 1) := by decide +kernel
theorem dr_cX17_weigh_58 : decode cX17_weigh 58 = .ok (.iinc 4 1, 3) := by decide +kernel
theorem dr_cX17_weigh_61 : decode cX17_weigh 61 = .ok (.goto (-19), 3) := by decide +kernel
theorem dr_cX17_weigh_14 : decode cX17_weigh 14 = .ok (.aload_n 0, 1) := by decide +kernel
theorem dr_cX17_weigh_15 : decode cX17_weigh 15 = .ok (.getfield 174, 3) := by decide +kernel
theorem dr_cX17_weigh_18 : decode cX17_weigh 18 = .ok (.iload_n 2, 1) := by decide +kernel
theorem dr_cX17_weigh_19 : decode cX17_weigh 19 = .ok (.iconst 0, 1) := by decide +kernel
theorem dr_cX17_weigh_20 : decode cX17_weigh 20 = .ok (.iastore, 1) := by decide +kernel
theorem dr_cX17_weigh_21 : decode cX17_weigh 21 = .ok (.iinc 2 1, 3) := by decide +kernel
theorem dr_cX17_weigh_24 : decode cX17_weigh 24 = .ok (.goto (-17), 3) := by decide +kernel
abbrev ky_407681_SpillForgeModel_weigh : gKey := (cX17_weigh, 7, "SpillForgeModel", none, [], "weigh", fun _ _ => True)
def pt_407681_SpillForgeModel_weigh (D : va_G) (I : FieldType → ClassId) (γ el : Nat → Nat → Nat) (P407676 : List Nat) (F407677 : Nat → va_E) (q407678 : Nat) (q407679 : Nat) : Option Value → va_W → Nat → Nat → Prop := fun r w dc ds => ∃ (F578328 : Nat → va_E), r = none ∧ w = va_pl P407676 F578328 ∧ RS D I P407676 F578328 γ el ∧ rStr γ [] F407677 F578328 ∧ dc ≤ 0 ∧ ds ≤ 0 ∧ (F578328 q407678 = F407677 q407678) ∧ (F578328 (γ 9 3) = F407677 (γ 9 3)) ∧ tr_RModel_weigh D I γ el P407676 F407677 q407678 q407679 F578328
set_option maxRecDepth 100000 in
set_option maxHeartbeats 4000000 in
theorem ct_407681_SpillForgeModel_weigh (l : Launch) (hl0 : l.stackTraces = false) (D : va_G) (I : FieldType → ClassId) (γ el : Nat → Nat → Nat) (P407676 : List Nat) (F407677 : Nat → va_E) (q407678 : Nat) (q407679 : Nat) (hT : RS D I P407676 F407677 γ el) (htq407678 : rKd γ q407678 10) (htq407679 : rKd γ q407679 9) (x407680 : 0 < γ 6 (γ 1 q407679)) : CtA (gV D I) l yX17_weigh cX17_weigh 7 none 6 144 0 0 [.ref q407678, .ref q407679] (va_pl P407676 F407677) (pt_407681_SpillForgeModel_weigh D I γ el P407676 F407677 q407678 q407679) gNA := by
  refine CtA_of hl0 (by decide) (Nat.le_of_ble_eq_true rfl) ?_
  have hm407682 : q407678 ∈ P407676 := RS_m hT htq407678 (by decide)
  refine rk10_e (show rk_10 γ (F407677 q407678) from RS_o hT htq407678) (fun q407684 q407685 p407686 p407687 p407688 p407689 p407690 p407691 p407692 p407693 p407694 p407695 p407696 p407697 p407698 p407699 p407700 he407683 hB407727 ht407701 ht407702 ht407703 ht407704 ht407705 ht407706 ht407707 ht407708 ht407709 ht407710 ht407711 ht407712 ht407713 ht407714 ht407715 ht407716 ht407717 ht407718 ht407719 ht407720 ht407721 ht407722 ht407723 ht407724 hB407728 => ?_)
  refine G_aload_n 0 dr_cX17_weigh_0 rfl ?_
  refine G_aload_n 1 dr_cX17_weigh_1 rfl ?_
  refine Gw_callV (As := [.ref q407679]) (gV_ok D I) (ct_407734_SpillForgeModel_findDepth l hl0 D I γ el P407676 F407677 q407678 q407679 hT htq407678 htq407679 (by omega)) dr_cX17_weigh_2 ⟨wr_11_37, wr_1_14, wr_11_40, by decide, rfl, (Nat.le_of_ble_eq_true rfl), (Nat.le_of_ble_eq_true rfl)⟩ wr_11_39 wr_p_105 hm407682 he407683 rfl (show 0 + 0 ≤ 0 by first | omega | decide) (show 0 + 0 ≤ 0 by first | omega | decide) (Nat.le_of_ble_eq_true rfl) (fun r533873 w533874 dc533870 ds533871 hp533872 => ?_) (fun _ _ _ _ _ z => z.elim)
  obtain ⟨F533878, rfl, rfl, hT533879, hs533880, hdc, hds, x533875, x533876, ht533877⟩ := hp533872
  have hs533881 : rStr γ [] F407677 F533878 := rStr_tr (rStr_rf (γ := γ) (W := []) (F := F407677)) hs533880
  have kp533882 : F533878 q407678 = F407677 q407678 := x533875
  have kp533883 : F533878 (γ 9 3) = F407677 (γ 9 3) := x533876
  have he533884 : F533878 q407678 = .inr (22, [.ref (γ 9 0), .ref (γ 9 1), .ref (γ 9 2), .ref (γ 9 3), .ref (γ 9 4), .ref (γ 9 5), .ref (γ 9 6), .ref (γ 9 7), .ref (γ 9 8), .int p407686, .int p407687, .int p407688, .int p407689, .int p407690, .int p407691, .ref (γ 9 15), .ref (γ 9 16), .ref (γ 9 17), .ref (γ 9 18), .ref (γ 9 19), .ref (γ 9 20), .ref (γ 9 21), .ref (γ 9 22), .int p407692, .int p407693, .int p407694, .int p407695, .int p407696, .ref q407684, .ref (γ 9 29), .int p407697, .ref (γ 9 31), .int p407698, .int p407699, .int p407700, .ref q407685]) := (x533875).trans he407683
  change G _ _ _ _ _ _ _ _ _ _ _
  refine G_widen (cs' := 0) (sl' := 0) (by omega) (by omega) ?_
  refine G_iconst 0 dr_cX17_weigh_5 (by decide +kernel) ?_
  refine G_istore_n (L' := [(2, .int 0), (0, .ref q407678), (1, .ref q407679)]) dr_cX17_weigh_6 (Nat.le_of_ble_eq_true rfl) rfl ?_
  have hlp7_573638 : ∀ (n7_573638 : Nat) (F573634 : Nat → va_E) (g573633 : Int32), gB g573633 0 2000 → RS D I P407676 F573634 γ el → rStr γ [] F407677 F573634 → (F573634 q407678 = F407677 q407678) → (F573634 (γ 9 3) = F407677 (γ 9 3)) → (∀ (k : Nat) (e1 : Nat → va_E), tl_RModel_weigh_7 D I γ el P407676 F407677 q407678 F573634 g573633 k e1 → tl_RModel_weigh_7 D I γ el P407676 F407677 q407678 F533878 (0 : Int32) k e1) → ((2001 : Int) - g573633.toInt).toNat < n7_573638 → G (gV D I) l (gRm 6 144 0 0) (gMA (gV D I) (pt_407681_SpillForgeModel_weigh D I γ el P407676 F407677 q407678 q407679) gNA 0 0) ky_407681_SpillForgeModel_weigh 7 [(2, .int g573633), (0, .ref q407678), (1, .ref q407679)] [] (va_pl P407676 F573634) 0 0 := by
    intro n7_573638
    induction n7_573638 with
    | zero => intro F573634 g573633 bg573633 hT573635 hs573636 x573637 x573638 kt7_573639 hm7_573638; exact absurd hm7_573638 (Nat.not_lt_zero _)
    | succ n7_573638 ih7_573638 =>
      intro F573634 g573633 bg573633 hT573635 hs573636 x573637 x573638 kt7_573639 hm7_573638
      have hs573640 : rStr γ [] F533878 F573634 := fun b h0 hb hw => (hs573636 b h0 hb hw).trans (hs533881 b h0 hb hw).symm
      have hs573641 : rStr γ [] F407677 F573634 := rStr_tr hs533881 hs573640
      have he573642 : F573634 q407678 = .inr (22, [.ref (γ 9 0), .ref (γ 9 1), .ref (γ 9 2), .ref (γ 9 3), .ref (γ 9 4), .ref (γ 9 5), .ref (γ 9 6), .ref (γ 9 7), .ref (γ 9 8), .int p407686, .int p407687, .int p407688, .int p407689, .int p407690, .int p407691, .ref (γ 9 15), .ref (γ 9 16), .ref (γ 9 17), .ref (γ 9 18), .ref (γ 9 19), .ref (γ 9 20), .ref (γ 9 21), .ref (γ 9 22), .int p407692, .int p407693, .int p407694, .int p407695, .int p407696, .ref q407684, .ref (γ 9 29), .int p407697, .ref (γ 9 31), .int p407698, .int p407699, .int p407700, .ref q407685]) := x573637.trans he407683
      have hm573643 : q407678 ∈ P407676 := RS_m hT573635 htq407678 (by decide)
      refine G_iload_n 0 dr_cX17_weigh_7 rfl ?_
      refine G_sipush 2000 dr_cX17_weigh_8 (by decide +kernel) ?_
      refine G_icmp_ge 27 dr_cX17_weigh_11 (by decide +kernel) (fun hc573644 => ?_) (fun hc573644 => ?_)
      · have r573645 : 2000 ≤ g573633.toInt := gj_leL hc573644 (show Int32.toInt 2000 = 2000 by decide)
        have bg573633' : gB g573633 2000 2000 := ⟨by omega, by omega⟩
        have hx573646 : tl_RModel_weigh_7 D I γ el P407676 F407677 q407678 F533878 (0 : Int32) 27 F573634 := kt7_573639 27 F573634 (fun R c1 c2 => c1 F573634 g573633 bg573633 hT573635 hs573636 x573637 x573638 r573645)
        refine G_iconst 0 dr_cX17_weigh_27 (by decide +kernel) ?_
        refine G_istore_n (L' := [(2, .int 0), (0, .ref q407678), (1, .ref q407679)]) dr_cX17_weigh_28 (Nat.le_of_ble_eq_true rfl) rfl ?_
        have hlp29_575953 : ∀ (n29_575953 : Nat) (F575949 : Nat → va_E) (g575948 : Int32), gB g575948 0 1000000 → RS D I P407676 F575949 γ el → rStr γ [] F407677 F575949 → (F575949 q407678 = F407677 q407678) → (F575949 (γ 9 3) = F407677 (γ 9 3)) → (∀ (k : Nat) (e1 : Nat → va_E), tl_RModel_weigh_29 D I γ el P407676 F407677 q407678 q407679 F575949 g575948 k e1 → tl_RModel_weigh_29 D I γ el P407676 F407677 q407678 q407679 F573634 (0 : Int32) k e1) → ((1000001 : Int) - g575948.toInt).toNat < n29_575953 → G (gV D I) l (gRm 6 144 0 0) (gMA (gV D I) (pt_407681_SpillForgeModel_weigh D I γ el P407676 F407677 q407678 q407679) gNA 0 0) ky_407681_SpillForgeModel_weigh 29 [(2, .int g575948), (0, .ref q407678), (1, .ref q407679)] [] (va_pl P407676 F575949) 0 0 := by
          intro n29_575953
          induction n29_575953 with
          | zero => intro F575949 g575948 bg575948 hT575950 hs575951 x575952 x575953 kt29_575954 hm29_575953; exact absurd hm29_575953 (Nat.not_lt_zero _)
          | succ n29_575953 ih29_575953 =>
            intro F575949 g575948 bg575948 hT575950 hs575951 x575952 x575953 kt29_575954 hm29_575953
            have hs575955 : rStr γ [] F573634 F575949 := fun b h0 hb hw => (hs575951 b h0 hb hw).trans (hs573636 b h0 hb hw).symm
            have hs575956 : rStr γ [] F407677 F575949 := rStr_tr hs573636 hs575955
            have he575957 : F575949 q407678 = .inr (22, [.ref (γ 9 0), .ref (γ 9 1), .ref (γ 9 2), .ref (γ 9 3), .ref (γ 9 4), .ref (γ 9 5), .ref (γ 9 6), .ref (γ 9 7), .ref (γ 9 8), .int p407686, .int p407687, .int p407688, .int p407689, .int p407690, .int p407691, .ref (γ 9 15), .ref (γ 9 16), .ref (γ 9 17), .ref (γ 9 18), .ref (γ 9 19), .ref (γ 9 20), .ref (γ 9 21), .ref (γ 9 22), .int p407692, .int p407693, .int p407694, .int p407695, .int p407696, .ref q407684, .ref (γ 9 29), .int p407697, .ref (γ 9 31), .int p407698, .int p407699, .int p407700, .ref q407685]) := x575952.trans he407683
            have hm575958 : q407678 ∈ P407676 := RS_m hT575950 htq407678 (by decide)
            refine G_iload_n 0 dr_cX17_weigh_29 rfl ?_
            refine G_aload_n 2 dr_cX17_weigh_30 rfl ?_
            have hm575959 : q407679 ∈ P407676 := RS_m hT575950 htq407679 (by decide)
            obtain ⟨q575961, q575962, p575963, p575964, he575960, ht575980, ht575965, ht575966, ht575967, ht575968, r575969, r575970, r575971, r575972, r575973, r575974, r575975, r575976, r575977, r575978, r575979⟩ := show rk_9 γ el q407679 (F575949 q407679) from RS_o hT575950 htq407679
            have bp575963 : gB p575963 0 1000000 := ⟨by omega, by omega⟩
            have bp575964 : gB p575964 0 1000000 := ⟨by omega, by omega⟩
            have fq575981 : fI (F575949 q407679) 3 = p575964 := by rw [he575960]; rfl
            refine Gw_callV (As := []) (gV_ok D I) (cp_12780_Code_size l hl0 D I P407676 F575949 q407679 q575961 q575962 p575963 p575964 hm575959 he575960) dr_cX17_weigh_31 ⟨wr_10_160, wr_1_15, wr_9_131, by decide, rfl, (Nat.le_of_ble_eq_true rfl), (Nat.le_of_ble_eq_true rfl)⟩ wr_9_129 wr_9_130 hm575959 he575960 rfl (show 0 + 0 ≤ 0 by first | omega | decide) (show 0 + 0 ≤ 0 by first | omega | decide) (Nat.le_of_ble_eq_true rfl) (fun r575985 w575986 dc575982 ds575983 hp575984 => ?_) (fun _ _ _ _ _ z => z.elim)
            obtain ⟨rfl, rfl, hdc, hds⟩ := hp575984
            change G _ _ _ _ _ _ _ (.int p575964 :: _) _ _ _
            refine G_widen (cs' := 0) (sl' := 0) (by omega) (by omega) ?_
            refine G_icmp_ge 201 dr_cX17_weigh_34 (by decide +kernel) (fun hc575987 => ?_) (fun hc575987 => ?_)
            · have r575988 : p575964.toInt ≤ g575948.toInt := gC_le hc575987
              have hx575989 : tl_RModel_weigh_29 D I γ el P407676 F407677 q407678 q407679 F573634 (0 : Int32) 201 F575949 := kt29_575954 201 F575949 (fun R c1 c2 => c1 F575949 g575948 p575964 bg575948 hT575950 hs575951 x575952 x575953 fq575981 r575988)
              exact G_vretA dr_cX17_weigh_201 rfl (Nat.le_of_ble_eq_true rfl) (Nat.le_of_ble_eq_true rfl) ⟨F575949, rfl, rfl, hT575950, hs575951, (Nat.le_of_ble_eq_true rfl), (Nat.le_of_ble_eq_true rfl), x575952, x575953, (fun R c1 => c1 F533878 F573634 F575949 hT533879 hs533880 x533875 x533876 ht533877 hx573646 hx575989)⟩
            · have r575990 : g575948.toInt < p575964.toInt := gC_nle hc575987
              have bg575948' : gB g575948 0 999999 := ⟨by omega, by omega⟩
              have bp575964' : gB p575964 1 1000000 := ⟨by omega, by omega⟩
              refine G_iconst 1 dr_cX17_weigh_37 (by decide +kernel) ?_
              refine G_istore_n (L' := [(3, .int 1), (2, .int g575948), (0, .ref q407678), (1, .ref q407679)]) dr_cX17_weigh_38 (Nat.le_of_ble_eq_true rfl) rfl ?_
              refine G_iconst 0 dr_cX17_weigh_39 (by decide +kernel) ?_
              refine G_istore (L' := [(4, .int 0), (3, .int 1), (2, .int g575948), (0, .ref q407678), (1, .ref q407679)]) dr_cX17_weigh_40 (Nat.le_of_ble_eq_true rfl) rfl ?_
              have hlp42_577123 : ∀ (n42_577123 : Nat) (g577122 : Int32) (g577123 : Int32), gB g577122 0 2147483647 → (∀ (k : Nat) (e1 : Int32), tl_RModel_weigh_42 D I γ el F575949 q407678 g575948 g577122 g577123 k e1 → tl_RModel_weigh_42 D I γ el F575949 q407678 g575948 (0 : Int32) (1 : Int32) k e1) → ((2147483648 : Int) - g577122.toInt).toNat < n42_577123 → G (gV D I) l (gRm 6 144 0 0) (gMA (gV D I) (pt_407681_SpillForgeModel_weigh D I γ el P407676 F407677 q407678 q407679) gNA 0 0) ky_407681_SpillForgeModel_weigh 42 [(4, .int g577122), (3, .int g577123), (2, .int g575948), (0, .ref q407678), (1, .ref q407679)] [] (va_pl P407676 F575949) 0 0 := by
                intro n42_577123
                induction n42_577123 with
                | zero => intro g577122 g577123 bg577122 kt42_577124 hm42_577123; exact absurd hm42_577123 (Nat.not_lt_zero _)
                | succ n42_577123 ih42_577123 =>
                  intro g577122 g577123 bg577122 kt42_577124 hm42_577123
                  have bg577123 := gB_any g577123
                  refine G_iload 0 dr_cX17_weigh_42 rfl ?_
                  refine G_aload_n 3 dr_cX17_weigh_44 rfl ?_
                  have fq577125 : fR (F575949 q407678) 4 = (γ 9 4) := by rw [he575957]; rfl
                  refine Gp_get 4 hm575958 he575957 dr_cX17_weigh_45 (gk_X17 D I) (Nat.le_of_ble_eq_true rfl) wr_7_78 rfl ?_
                  refine G_iload_n 2 dr_cX17_weigh_48 rfl ?_
                  have hm577126 : (γ 9 4) ∈ P407676 := RS_m hT575950 ht407707 (by decide)
                  obtain ⟨f577128, he577127⟩ := show rk_16 I (F575949 (γ 9 4)) from RS_o hT575950 ht407707
                  refine Gp_iald 0 hm577126 he577127 dr_cX17_weigh_49 rfl (gB_inr (by omega) (by omega)) (G_nam fun z577129 hz577129 => ?_)
                  have bz577129 : gB z577129 (-2147483648) 2147483647 := gB_any z577129
                  refine G_icmp_ge 64 dr_cX17_weigh_50 (by decide +kernel) (fun hc577130 => ?_) (fun hc577130 => ?_)
                  · have r577131 : z577129.toInt ≤ g577122.toInt := gC_le hc577130
                    have hx577132 : tl_RModel_weigh_42 D I γ el F575949 q407678 g575948 (0 : Int32) (1 : Int32) 64 g577123 := kt42_577124 64 g577123 (fun R c1 c2 => c1 g577122 g577123 f577128 z577129 bg577122 fq577125 he577127 hz577129 r577131)
                    refine G_aload_n 4 dr_cX17_weigh_64 rfl ?_
                    refine G_iload_n 2 dr_cX17_weigh_65 rfl ?_
                    have hm577133 : q575961 ∈ P407676 := RS_m hT575950 ht575965 (by decide)
                    obtain ⟨⟨p577135, p577136, q577137, he577134, r577138, r577139, r577140, r577142⟩, r577141⟩ := show rk_4 D I γ el F575949 q575961 from RS_o hT575950 ht575965
                    have bp577135 := gB_any p577135
                    have bp577136 : gB p577136 0 1000000 := ⟨by omega, by omega⟩
                    obtain ⟨r577143, r577144, n577151, f577152, r577145, r577146, r577147, r577148, r577149, r577150⟩ := rLC_n r577140 (by omega)
                    have hm577153 : q577137 ∈ P407676 := RS_m hT575950 r577143 (by decide)
                    obtain ⟨q577154, hx577155⟩ : ∃ x, x = el q575961 g575948.toInt.toNat := ⟨_, rfl⟩
                    have fq577159 : fR (F575949 q407679) 0 = q575961 := by rw [he575960]; rfl
                    have hx577156 : f577152 g575948.toNatClampNeg = some q577154 := (r577149 _ (show g575948.toInt.toNat < γ 2 q575961 by omega)).trans (by rw [hx577155])
                    have ht577160 : rKd γ q577154 2 := by rw [hx577155]; exact (r575976 _ (by omega)).resolve_right (fun z => absurd z.1 (by omega))
                    have ht577161 : rFm γ q577154 q575961 := by rw [hx577155]; exact (r577141 _ (show g575948.toInt.toNat < γ 2 q575961 by omega)).2.1
                    have hm577162 : q577154 ∈ P407676 := RS_m hT575950 ht577160 (by decide)
                    obtain ⟨q577164, q577165, p577166, p577167, he577163, ht577174, ht577168, ht577169, ht577170, ht577171, ht577172, bp577166, bp577167, r577173, r577175, r577176⟩ := show rk_2 γ q577154 (F575949 q577154) from RS_o hT575950 ht577160
                    have fq577177 : fI (F575949 q575961) 2 = p577136 := by rw [he577134]; rfl
                    refine Gw_callV (As := [.int g575948]) (gV_ok D I) (cp_7901_Code_get l hl0 D I P407676 F575949 q407679 q575961 q577137 g575948 q575962 p575963 p575964 p577135 p577136 f577152 n577151 q577154 q577164 q577165 p577166 p577167 hm575959 hm577133 hm577153 hm577162 he575960 he577134 r577145 he577163 (gB_w bg575948' (by decide) (by decide)) (gB_w bp577136 (by decide) (by decide)) (by omega) (by omega) (by assumption) (by omega)) dr_cX17_weigh_66 ⟨wr_10_161, wr_1_15, wr_10_141, by decide, rfl, (Nat.le_of_ble_eq_true rfl), (Nat.le_of_ble_eq_true rfl)⟩ wr_10_139 wr_10_140 hm575959 he575960 rfl (show 0 + 0 ≤ 0 by first | omega | decide) (show 0 + 0 ≤ 0 by first | omega | decide) (Nat.le_of_ble_eq_true rfl) (fun r577181 w577182 dc577178 ds577179 hp577180 => ?_) (fun _ _ _ _ _ z => z.elim)
                    obtain ⟨rfl, rfl, hdc, hds, ht577183⟩ := hp577180
                    change G _ _ _ _ _ _ _ (.ref q577154 :: _) _ _ _
                    refine G_widen (cs' := 0) (sl' := 0) (by omega) (by omega) ?_
                    refine G_astore (L' := [(4, .ref q577154), (3, .int g577123), (2, .int g575948), (0, .ref q407678), (1, .ref q407679)]) dr_cX17_weigh_69 (Nat.le_of_ble_eq_true rfl) rfl ?_
                    refine G_iconst 0 dr_cX17_weigh_71 (by decide +kernel) ?_
                    refine G_istore (L' := [(5, .int 0), (4, .ref q577154), (3, .int g577123), (2, .int g575948), (0, .ref q407678), (1, .ref q407679)]) dr_cX17_weigh_72 (Nat.le_of_ble_eq_true rfl) rfl ?_
                    have hlp74_577723 : ∀ (n74_577723 : Nat) (F577719 : Nat → va_E) (g577718 : Int32), gB g577718 0 1000001 → RS D I P407676 F577719 γ el → rStr γ [] F407677 F577719 → (F577719 q407678 = F407677 q407678) → (F577719 (γ 9 3) = F407677 (γ 9 3)) → (∀ (k : Nat) (e1 : Nat → va_E), tl_RModel_weigh_74 D I γ el P407676 F407677 q407678 q577154 g577123 F577719 g577718 k e1 → tl_RModel_weigh_74 D I γ el P407676 F407677 q407678 q577154 g577123 F575949 (0 : Int32) k e1) → ((1000002 : Int) - g577718.toInt).toNat < n74_577723 → G (gV D I) l (gRm 6 144 0 0) (gMA (gV D I) (pt_407681_SpillForgeModel_weigh D I γ el P407676 F407677 q407678 q407679) gNA 0 0) ky_407681_SpillForgeModel_weigh 74 [(5, .int g577718), (4, .ref q577154), (3, .int g577123), (2, .int g575948), (0, .ref q407678), (1, .ref q407679)] [] (va_pl P407676 F577719) 0 0 := by
                      intro n74_577723
                      induction n74_577723 with
                      | zero => intro F577719 g577718 bg577718 hT577720 hs577721 x577722 x577723 kt74_577724 hm74_577723; exact absurd hm74_577723 (Nat.not_lt_zero _)
                      | succ n74_577723 ih74_577723 =>
                        intro F577719 g577718 bg577718 hT577720 hs577721 x577722 x577723 kt74_577724 hm74_577723
                        have hs577725 : rStr γ [] F575949 F577719 := fun b h0 hb hw => (hs577721 b h0 hb hw).trans (hs575951 b h0 hb hw).symm
                        have he577726 : F577719 q407679 = .inr (18, [.ref q575961, .ref q575962, .int p575963, .int p575964]) := (hs577725 q407679 (rT0 htq407679 (by decide)) (rT1 htq407679 (by decide)) (rT2 htq407679 (by decide))).trans he575960
                        have he577727 : F577719 q575961 = .inr (4, [.int p577135, .ref q577137, .int p577136]) := (hs577725 q575961 (rT0 ht575965 (by decide)) (rT1 ht575965 (by decide)) (rT2 ht575965 (by decide))).trans he577134
                        have he577728 : F577719 q577137 = .inl (I (.object "java/lang/Object"), n577151, .inr (.inr (.inr (.inr f577152)))) := (hs577725 q577137 (rT0 r577143 (by decide)) (rT1 r577143 (by decide)) (rT2 r577143 (by decide))).trans r577145
                        have he577729 : F577719 q577154 = .inr (17, [.ref q577164, .ref q577165, .int p577166, .int p577167]) := (hs577725 q577154 (rT0 ht577160 (by decide)) (rT1 ht577160 (by decide)) (rT2 ht577160 (by decide))).trans he577163
                        have hs577730 : rStr γ [] F407677 F577719 := rStr_tr hs575951 hs577725
                        have he577731 : F577719 q407678 = .inr (22, [.ref (γ 9 0), .ref (γ 9 1), .ref (γ 9 2), .ref (γ 9 3), .ref (γ 9 4), .ref (γ 9 5), .ref (γ 9 6), .ref (γ 9 7), .ref (γ 9 8), .int p407686, .int p407687, .int p407688, .int p407689, .int p407690, .int p407691, .ref (γ 9 15), .ref (γ 9 16), .ref (γ 9 17), .ref (γ 9 18), .ref (γ 9 19), .ref (γ 9 20), .ref (γ 9 21), .ref (γ 9 22), .int p407692, .int p407693, .int p407694, .int p407695, .int p407696, .ref q407684, .ref (γ 9 29), .int p407697, .ref (γ 9 31), .int p407698, .int p407699, .int p407700, .ref q407685]) := x577722.trans he407683
                        have hm577732 : q407678 ∈ P407676 := RS_m hT577720 htq407678 (by decide)
                        refine G_iload 0 dr_cX17_weigh_74 rfl ?_
                        refine G_aload 1 dr_cX17_weigh_76 rfl ?_
                        have fq577733 : fR (F577719 q577154) 0 = q577164 := by rw [he577729]; rfl
                        refine Gp_get 0 hm577162 he577729 dr_cX17_weigh_78 (gk_X12 D I) (Nat.le_of_ble_eq_true rfl) wr_9_220 rfl ?_
                        have hm577734 : q577164 ∈ P407676 := RS_m hT577720 ht577168 (by decide)
                        obtain ⟨⟨p577736, p577737, q577738, he577735, r577739, r577740, r577741, r577743⟩, r577742⟩ := show rk_3 D I γ el F577719 q577164 from RS_o hT577720 ht577168
                        have bp577736 := gB_any p577736
                        have bp577737 : gB p577737 0 1000000 := ⟨by omega, by omega⟩
                        have fq577744 : p577737.toInt = (γ 2 q577164 : Int) := by omega
                        have fq577745 : fI (F577719 q577164) 2 = p577737 := by rw [he577735]; rfl
                        refine Gw_callV (As := []) (gV_ok D I) (cp_7_ArrayList_size l hl0 D I P407676 F577719 q577164 p577736 q577738 p577737 hm577734 he577735 (gB_w bp577737 (by decide) (by decide))) dr_cX17_weigh_81 ⟨wr_10_200, wr_1_18, wr_9_160, by decide, rfl, (Nat.le_of_ble_eq_true rfl), (Nat.le_of_ble_eq_true rfl)⟩ wr_9_158 wr_9_159 hm577734 he577735 rfl (show 0 + 0 ≤ 0 by first | omega | decide) (show 0 + 0 ≤ 0 by first | omega | decide) (Nat.le_of_ble_eq_true rfl) (fun r577749 w577750 dc577746 ds577747 hp577748 => ?_) (fun _ _ _ _ _ z => z.elim)
                        obtain ⟨rfl, rfl, hdc, hds⟩ := hp577748
                        change G _ _ _ _ _ _ _ (.int p577737 :: _) _ _ _
                        refine G_widen (cs' := 0) (sl' := 0) (by omega) (by omega) ?_
                        refine G_icmp_gt 195 dr_cX17_weigh_84 (by decide +kernel) (fun hc577751 => ?_) (fun hc577751 => ?_)
                        · have r577752 : p577737.toInt < g577718.toInt := gC_lt hc577751
                          have bg577718' : gB g577718 1 1000001 := ⟨by omega, by omega⟩
                          have hx577753 : tl_RModel_weigh_74 D I γ el P407676 F407677 q407678 q577154 g577123 F575949 (0 : Int32) 195 F577719 := kt74_577724 195 F577719 (fun R c1 c2 c3 c4 c5 c6 c7 c8 c9 c10 c11 c12 c13 c14 c15 c16 c17 => c1 F577719 g577718 q577164 p577737 bg577718 hT577720 hs577721 x577722 x577723 fq577733 fq577744 fq577745 r577752)
                          obtain ⟨z577754, hz577754⟩ : ∃ z : Int32, z = g575948 + Int32.ofInt 1 := ⟨_, rfl⟩
                          have ez577754 : z577754.toInt = g575948.toInt + 1 := gI_inc hz577754 (by decide) bg575948' (by decide) (by decide)
                          have bz577754 : gB z577754 1 1000000 := ⟨by omega, by omega⟩
                          refine G_iinc (L' := [(2, .int z577754), (5, .int g577718), (4, .ref q577154), (3, .int g577123), (0, .ref q407678), (1, .ref q407679)]) z577754 3 dr_cX17_weigh_195 rfl hz577754.symm (Nat.le_of_ble_eq_true rfl) rfl ?_
                          refine G_goto 29 dr_cX17_weigh_198 (by decide +kernel) ?_
                          refine G_lv (L' := [(2, .int z577754), (0, .ref q407678), (1, .ref q407679)]) [0, 4, 5] rfl ?_
                          exact ih29_575953 F577719 z577754 (gB_w bz577754 (by decide) (by decide)) hT577720 hs577721 x577722 x577723 (fun k e1 ht => kt29_575954 k e1 (fun R c1 c2 => c2 F575949 g575948 p575964 g577123 q575961 q577154 p577136 F577719 z577754 k e1 bg575948 hT575950 hs575951 x575952 x575953 fq575981 r575990 hx577132 fq577159 hx577155 fq577177 ht577183 hx577753 ez577754 (ht R c1 c2))) (mz_up ez577754 (Int.le_trans bg575948'.2 (by decide)) hm29_575953)
                        · have r577755 : g577718.toInt ≤ p577737.toInt := gC_nlt hc577751
                          have bg577718' : gB g577718 0 1000000 := ⟨by omega, by omega⟩
                          refine G_iload 0 dr_cX17_weigh_87 rfl ?_
                          refine G_aload 1 dr_cX17_weigh_89 rfl ?_
                          refine Gp_get 0 hm577162 he577729 dr_cX17_weigh_91 (gk_X12 D I) (Nat.le_of_ble_eq_true rfl) wr_9_220 rfl ?_
                          have fq577756 : p577737.toInt = (γ 2 q577164 : Int) := by omega
                          refine Gw_callV (As := []) (gV_ok D I) (cp_7_ArrayList_size l hl0 D I P407676 F577719 q577164 p577736 q577738 p577737 hm577734 he577735 (gB_w bp577737 (by decide) (by decide))) dr_cX17_weigh_94 ⟨wr_10_200, wr_1_18, wr_9_160, by decide, rfl, (Nat.le_of_ble_eq_true rfl), (Nat.le_of_ble_eq_true rfl)⟩ wr_9_158 wr_9_159 hm577734 he577735 rfl (show 0 + 0 ≤ 0 by first | omega | decide) (show 0 + 0 ≤ 0 by first | omega | decide) (Nat.le_of_ble_eq_true rfl) (fun r577760 w577761 dc577757 ds577758 hp577759 => ?_) (fun _ _ _ _ _ z => z.elim)
                          obtain ⟨rfl, rfl, hdc, hds⟩ := hp577759
                          change G _ _ _ _ _ _ _ (.int p577737 :: _) _ _ _
                          refine G_widen (cs' := 0) (sl' := 0) (by omega) (by omega) ?_
                          refine G_icmp_ge 116 dr_cX17_weigh_97 (by decide +kernel) (fun hc577762 => ?_) (fun hc577762 => ?_)
                          · have r577763 : p577737.toInt ≤ g577718.toInt := gC_le hc577762
                            refine G_aload 1 dr_cX17_weigh_116 rfl ?_
                            have fq577764 : fR (F577719 q577154) 1 = q577165 := by rw [he577729]; rfl
                            refine Gp_get 1 hm577162 he577729 dr_cX17_weigh_118 (gk_X12 D I) (Nat.le_of_ble_eq_true rfl) wr_9_223 rfl ?_
                            refine G_astore (L' := [(6, .ref q577165), (5, .int g577718), (4, .ref q577154), (3, .int g577123), (2, .int g575948), (0, .ref q407678), (1, .ref q407679)]) dr_cX17_weigh_121 (Nat.le_of_ble_eq_true rfl) rfl ?_
                            refine G_aload 0 dr_cX17_weigh_123 rfl ?_
                            have hm577765 : q577165 ∈ P407676 := RS_m hT577720 ht577170 (by decide)
                            obtain ⟨p577767, p577768, p577769, p577770, p577771, p577772, p577773, he577766, bp577767, bp577768, bp577771, bp577772, bp577773, r577774, r577775, r577776, r577777, r577778⟩ := show rk_1 γ q577165 (F577719 q577165) from RS_o hT577720 ht577170
                            have bp577769 := gB_any p577769
                            have bp577770 := gB_any p577770
                            have fq577779 : fI (F577719 q577165) 0 = p577767 := by rw [he577766]; rfl
                            refine Gw_callV (As := []) (gV_ok D I) (cp_1660_Row_sets l hl0 D I P407676 F577719 q577165 p577767 p577768 p577769 p577770 p577771 p577772 p577773 hm577765 he577766 bp577767 bp577768 bp577771 bp577772 bp577773) dr_cX17_weigh_125 ⟨wr_10_181, wr_1_39, wr_10_184, by decide, rfl, (Nat.le_of_ble_eq_true rfl), (Nat.le_of_ble_eq_true rfl)⟩ wr_10_182 wr_10_183 hm577765 he577766 rfl (show 0 + 0 ≤ 0 by first | omega | decide) (show 0 + 0 ≤ 0 by first | omega | decide) (Nat.le_of_ble_eq_true rfl) (fun r577783 w577784 dc577780 ds577781 hp577782 => ?_) (fun _ _ _ _ _ z => z.elim)
                            obtain ⟨o577785, rfl, rfl, hdc, hds, bo577785, ht577786⟩ := hp577782
                            change G _ _ _ _ _ _ _ (.int o577785 :: _) _ _ _
                            refine G_widen (cs' := 0) (sl' := 0) (by omega) (by omega) ?_
                            refine G_if_eq 145 dr_cX17_weigh_128 (by decide +kernel) (fun hc577787 => ?_) (fun hc577787 => ?_)
                            · have r577788 : o577785.toInt = 0 := gj_eq hc577787 (show Int32.toInt 0 = 0 by decide)
                              have bo577785' : gB o577785 0 0 := gB_t0 r577788
                              refine G_aload 0 dr_cX17_weigh_145 rfl ?_
                              have fq577789 : fI (F577719 q577165) 5 = p577772 := by rw [he577766]; rfl
                              refine Gw_callV (As := []) (gV_ok D I) (cp_1675_Row_usesA l hl0 D I P407676 F577719 q577165 p577767 p577768 p577769 p577770 p577771 p577772 p577773 hm577765 he577766 bp577767 bp577768 bp577771 bp577772 bp577773) dr_cX17_weigh_147 ⟨wr_10_192, wr_1_39, wr_10_195, by decide, rfl, (Nat.le_of_ble_eq_true rfl), (Nat.le_of_ble_eq_true rfl)⟩ wr_10_193 wr_10_194 hm577765 he577766 rfl (show 0 + 0 ≤ 0 by first | omega | decide) (show 0 + 0 ≤ 0 by first | omega | decide) (Nat.le_of_ble_eq_true rfl) (fun r577793 w577794 dc577790 ds577791 hp577792 => ?_) (fun _ _ _ _ _ z => z.elim)
                              obtain ⟨o577795, rfl, rfl, hdc, hds, bo577795, x577796, ht577797⟩ := hp577792
                              change G _ _ _ _ _ _ _ (.int o577795 :: _) _ _ _
                              refine G_widen (cs' := 0) (sl' := 0) (by omega) (by omega) ?_
                              refine G_if_eq 167 dr_cX17_weigh_150 (by decide +kernel) (fun hc577798 => ?_) (fun hc577798 => ?_)
                              · have r577799 : o577795.toInt = 0 := gj_eq hc577798 (show Int32.toInt 0 = 0 by decide)
                                have bo577795' : gB o577795 0 0 := gB_t0 r577799
                                refine G_aload 0 dr_cX17_weigh_167 rfl ?_
                                have fq577800 : fI (F577719 q577165) 6 = p577773 := by rw [he577766]; rfl
                                refine Gw_callV (As := []) (gV_ok D I) (cp_1699_Row_usesB l hl0 D I P407676 F577719 q577165 p577767 p577768 p577769 p577770 p577771 p577772 p577773 hm577765 he577766 bp577767 bp577768 bp577771 bp577772 bp577773) dr_cX17_weigh_169 ⟨wr_10_196, wr_1_39, wr_10_199, by decide, rfl, (Nat.le_of_ble_eq_true rfl), (Nat.le_of_ble_eq_true rfl)⟩ wr_10_197 wr_10_198 hm577765 he577766 rfl (show 0 + 0 ≤ 0 by first | omega | decide) (show 0 + 0 ≤ 0 by first | omega | decide) (Nat.le_of_ble_eq_true rfl) (fun r577804 w577805 dc577801 ds577802 hp577803 => ?_) (fun _ _ _ _ _ z => z.elim)
                                obtain ⟨o577806, rfl, rfl, hdc, hds, bo577806, x577807, ht577808⟩ := hp577803
                                change G _ _ _ _ _ _ _ (.int o577806 :: _) _ _ _
                                refine G_widen (cs' := 0) (sl' := 0) (by omega) (by omega) ?_
                                refine G_if_eq 189 dr_cX17_weigh_172 (by decide +kernel) (fun hc577809 => ?_) (fun hc577809 => ?_)
                                · have r577810 : o577806.toInt = 0 := gj_eq hc577809 (show Int32.toInt 0 = 0 by decide)
                                  have bo577806' : gB o577806 0 0 := gB_t0 r577810
                                  obtain ⟨z577811, hz577811⟩ : ∃ z : Int32, z = g577718 + Int32.ofInt 1 := ⟨_, rfl⟩
                                  have ez577811 : z577811.toInt = g577718.toInt + 1 := gI_inc hz577811 (by decide) bg577718' (by decide) (by decide)
                                  have bz577811 : gB z577811 1 1000001 := ⟨by omega, by omega⟩
                                  refine G_iinc (L' := [(5, .int z577811), (6, .ref q577165), (4, .ref q577154), (3, .int g577123), (2, .int g575948), (0, .ref q407678), (1, .ref q407679)]) z577811 1 dr_cX17_weigh_189 rfl hz577811.symm (Nat.le_of_ble_eq_true rfl) rfl ?_
                                  refine G_goto 74 dr_cX17_weigh_192 (by decide +kernel) ?_
                                  refine G_lv (L' := [(5, .int z577811), (4, .ref q577154), (3, .int g577123), (2, .int g575948), (0, .ref q407678), (1, .ref q407679)]) [0, 2, 3, 4, 5, 6] rfl ?_
                                  exact ih74_577723 F577719 z577811 (gB_w bz577811 (by decide) (by decide)) hT577720 hs577721 x577722 x577723 (fun k e1 ht => kt74_577724 k e1 (fun R c1 c2 c3 c4 c5 c6 c7 c8 c9 c10 c11 c12 c13 c14 c15 c16 c17 => c2 F577719 g577718 q577164 p577737 q577165 p577767 o577785 p577772 o577795 p577773 o577806 z577811 k e1 bg577718 hT577720 hs577721 x577722 x577723 fq577733 fq577744 fq577745 r577755 fq577756 r577763 fq577764 fq577779 bo577785 ht577786 r577788 fq577789 bo577795 ht577797 r577799 fq577800 bo577806 ht577808 r577810 ez577811 (ht R c1 c2 c3 c4 c5 c6 c7 c8 c9 c10 c11 c12 c13 c14 c15 c16 c17))) (mz_up ez577811 (Int.le_trans bg577718'.2 (by decide)) hm74_577723)
                                · have r577812 : o577806.toInt ≠ 0 := gj_neq hc577809 (show Int32.toInt 0 = 0 by decide)
                                  have bo577806' : gB o577806 1 1 := gB_t1 bo577806 r577812
                                  refine G_aload_n 5 dr_cX17_weigh_175 rfl ?_
                                  have fq577813 : fR (F577719 q407678) 5 = (γ 9 5) := by rw [he577731]; rfl
                                  refine Gp_get 5 hm577732 he577731 dr_cX17_weigh_176 (gk_X17 D I) (Nat.le_of_ble_eq_true rfl) wr_7_79 rfl ?_
                                  refine G_aload 0 dr_cX17_weigh_179 rfl ?_
                                  have fq577814 : fI (F577719 q577165) 3 = p577770 := by rw [he577766]; rfl
                                  refine Gp_get 3 hm577765 he577766 dr_cX17_weigh_181 (gk_X15 D I) (Nat.le_of_ble_eq_true rfl) wr_9_190 rfl ?_
                                  refine G_dup2_11 dr_cX17_weigh_184 rfl rfl ?_
                                  have hm577815 : (γ 9 5) ∈ P407676 := RS_m hT577720 ht407708 (by decide)
                                  obtain ⟨f577817, he577816⟩ := show rk_17 I (F577719 (γ 9 5)) from RS_o hT577720 ht407708
                                  refine Gp_iald 0 hm577815 he577816 dr_cX17_weigh_185 rfl (gB_inr (by omega) (by omega)) (G_nam fun z577818 hz577818 => ?_)
                                  have bz577818 : gB z577818 (-2147483648) 2147483647 := gB_any z577818
                                  refine G_iload_n 3 dr_cX17_weigh_186 rfl ?_
                                  refine G_iadd dr_cX17_weigh_187 (G_nam fun z577819 hz577819 => ?_)
                                  have bz577819 : gB z577819 (-2147483648) 2147483647 := gB_any z577819
                                  refine Gp_iast 0 hm577815 he577816 dr_cX17_weigh_188 rfl (gB_inr (by omega) (by omega)) (fun F577820 e577821 n577822 => ?_)
                                  obtain ⟨f577823, hf577823⟩ : ∃ z, z = upd f577817 p577770.toNatClampNeg z577819 := ⟨_, rfl⟩
                                  rw [← hf577823] at e577821
                                  have he577824 : F577820 q407679 = .inr (18, [.ref q575961, .ref q575962, .int p575963, .int p575964]) := (n577822 q407679 (rn_oa he577726 he577816)).trans he577726
                                  have he577825 : F577820 q575961 = .inr (4, [.int p577135, .ref q577137, .int p577136]) := (n577822 q575961 (rn_oa he577727 he577816)).trans he577727
                                  have he577826 : F577820 q577137 = .inl (I (.object "java/lang/Object"), n577151, .inr (.inr (.inr (.inr f577152)))) := (n577822 q577137 (rn_ref_num he577728 he577816)).trans he577728
                                  have he577827 : F577820 q577154 = .inr (17, [.ref q577164, .ref q577165, .int p577166, .int p577167]) := (n577822 q577154 (rn_oa he577729 he577816)).trans he577729
                                  have he577828 : F577820 q407678 = .inr (22, [.ref (γ 9 0), .ref (γ 9 1), .ref (γ 9 2), .ref (γ 9 3), .ref (γ 9 4), .ref (γ 9 5), .ref (γ 9 6), .ref (γ 9 7), .ref (γ 9 8), .int p407686, .int p407687, .int p407688, .int p407689, .int p407690, .int p407691, .ref (γ 9 15), .ref (γ 9 16), .ref (γ 9 17), .ref (γ 9 18), .ref (γ 9 19), .ref (γ 9 20), .ref (γ 9 21), .ref (γ 9 22), .int p407692, .int p407693, .int p407694, .int p407695, .int p407696, .ref q407684, .ref (γ 9 29), .int p407697, .ref (γ 9 31), .int p407698, .int p407699, .int p407700, .ref q407685]) := (n577822 q407678 (rn_oa he577731 he577816)).trans he577731
                                  have he577829 : F577820 q577164 = .inr (4, [.int p577736, .ref q577738, .int p577737]) := (n577822 q577164 (rn_oa he577735 he577816)).trans he577735
                                  have he577830 : F577820 q577165 = .inr (20, [.int p577767, .int p577768, .int p577769, .int p577770, .int p577771, .int p577772, .int p577773]) := (n577822 q577165 (rn_oa he577766 he577816)).trans he577766
                                  have he577831 : F577820 (γ 9 5) = .inl (I .int, 2000, .inl f577823) := e577821
                                  have hs577832 : rStr γ [] F407677 F577820 := rStr_put hs577721 n577822 ht407708 (by decide)
                                  have kp577833 : F577820 q407678 = F407677 q407678 := (n577822 q407678 (rn_ty htq407678 ht407708 (by decide))).trans x577722
                                  have kp577834 : F577820 (γ 9 3) = F407677 (γ 9 3) := (n577822 (γ 9 3) (rn_ty ht407706 ht407708 (by decide))).trans x577723
                                  obtain ⟨z577835, hz577835⟩ : ∃ z : Int32, z = g577718 + Int32.ofInt 1 := ⟨_, rfl⟩
                                  have ez577835 : z577835.toInt = g577718.toInt + 1 := gI_inc hz577835 (by decide) bg577718' (by decide) (by decide)
                                  have bz577835 : gB z577835 1 1000001 := ⟨by omega, by omega⟩
                                  refine G_iinc (L' := [(5, .int z577835), (6, .ref q577165), (4, .ref q577154), (3, .int g577123), (2, .int g575948), (0, .ref q407678), (1, .ref q407679)]) z577835 1 dr_cX17_weigh_189 rfl hz577835.symm (Nat.le_of_ble_eq_true rfl) rfl ?_
                                  refine G_goto 74 dr_cX17_weigh_192 (by decide +kernel) ?_
                                  have hT577836 : RS D I P407676 F577820 γ el := RS_set hT577720 n577822 ht407708 (by decide) ⟨f577823, he577831⟩
                                  refine G_lv (L' := [(5, .int z577835), (4, .ref q577154), (3, .int g577123), (2, .int g575948), (0, .ref q407678), (1, .ref q407679)]) [0, 2, 3, 4, 5, 6] rfl ?_
                                  exact ih74_577723 F577820 z577835 (gB_w bz577835 (by decide) (by decide)) hT577836 hs577832 kp577833 kp577834 (fun k e1 ht => kt74_577724 k e1 (fun R c1 c2 c3 c4 c5 c6 c7 c8 c9 c10 c11 c12 c13 c14 c15 c16 c17 => c3 F577719 g577718 q577164 p577737 q577165 p577767 o577785 p577772 o577795 p577773 o577806 p577770 f577817 z577818 z577819 f577823 F577820 z577835 k e1 bg577718 hT577720 hs577721 x577722 x577723 fq577733 fq577744 fq577745 r577755 fq577756 r577763 fq577764 fq577779 bo577785 ht577786 r577788 fq577789 bo577795 ht577797 r577799 fq577800 bo577806 ht577808 r577812 fq577813 fq577814 he577816 hz577818 hz577819 hf577823 n577822 he577831 ez577835 (ht R c1 c2 c3 c4 c5 c6 c7 c8 c9 c10 c11 c12 c13 c14 c15 c16 c17))) (mz_up ez577835 (Int.le_trans bg577718'.2 (by decide)) hm74_577723)
                              · have r577837 : o577795.toInt ≠ 0 := gj_neq hc577798 (show Int32.toInt 0 = 0 by decide)
                                have bo577795' : gB o577795 1 1 := gB_t1 bo577795 r577837
                                refine G_aload_n 5 dr_cX17_weigh_153 rfl ?_
                                have fq577838 : fR (F577719 q407678) 5 = (γ 9 5) := by rw [he577731]; rfl
                                refine Gp_get 5 hm577732 he577731 dr_cX17_weigh_154 (gk_X17 D I) (Nat.le_of_ble_eq_true rfl) wr_7_79 rfl ?_
                                refine G_aload 0 dr_cX17_weigh_157 rfl ?_
                                have fq577839 : fI (F577719 q577165) 2 = p577769 := by rw [he577766]; rfl
                                refine Gp_get 2 hm577765 he577766 dr_cX17_weigh_159 (gk_X15 D I) (Nat.le_of_ble_eq_true rfl) wr_9_186 rfl ?_
                                refine G_dup2_11 dr_cX17_weigh_162 rfl rfl ?_
                                have hm577840 : (γ 9 5) ∈ P407676 := RS_m hT577720 ht407708 (by decide)
                                obtain ⟨f577842, he577841⟩ := show rk_17 I (F577719 (γ 9 5)) from RS_o hT577720 ht407708
                                refine Gp_iald 0 hm577840 he577841 dr_cX17_weigh_163 rfl (gB_inr (by omega) (by omega)) (G_nam fun z577843 hz577843 => ?_)
                                have bz577843 : gB z577843 (-2147483648) 2147483647 := gB_any z577843
                                refine G_iload_n 3 dr_cX17_weigh_164 rfl ?_
                                refine G_iadd dr_cX17_weigh_165 (G_nam fun z577844 hz577844 => ?_)
                                have bz577844 : gB z577844 (-2147483648) 2147483647 := gB_any z577844
                                refine Gp_iast 0 hm577840 he577841 dr_cX17_weigh_166 rfl (gB_inr (by omega) (by omega)) (fun F577845 e577846 n577847 => ?_)
                                obtain ⟨f577848, hf577848⟩ : ∃ z, z = upd f577842 p577769.toNatClampNeg z577844 := ⟨_, rfl⟩
                                rw [← hf577848] at e577846
                                have he577849 : F577845 q407679 = .inr (18, [.ref q575961, .ref q575962, .int p575963, .int p575964]) := (n577847 q407679 (rn_oa he577726 he577841)).trans he577726
                                have he577850 : F577845 q575961 = .inr (4, [.int p577135, .ref q577137, .int p577136]) := (n577847 q575961 (rn_oa he577727 he577841)).trans he577727
                                have he577851 : F577845 q577137 = .inl (I (.object "java/lang/Object"), n577151, .inr (.inr (.inr (.inr f577152)))) := (n577847 q577137 (rn_ref_num he577728 he577841)).trans he577728
                                have he577852 : F577845 q577154 = .inr (17, [.ref q577164, .ref q577165, .int p577166, .int p577167]) := (n577847 q577154 (rn_oa he577729 he577841)).trans he577729
                                have he577853 : F577845 q407678 = .inr (22, [.ref (γ 9 0), .ref (γ 9 1), .ref (γ 9 2), .ref (γ 9 3), .ref (γ 9 4), .ref (γ 9 5), .ref (γ 9 6), .ref (γ 9 7), .ref (γ 9 8), .int p407686, .int p407687, .int p407688, .int p407689, .int p407690, .int p407691, .ref (γ 9 15), .ref (γ 9 16), .ref (γ 9 17), .ref (γ 9 18), .ref (γ 9 19), .ref (γ 9 20), .ref (γ 9 21), .ref (γ 9 22), .int p407692, .int p407693, .int p407694, .int p407695, .int p407696, .ref q407684, .ref (γ 9 29), .int p407697, .ref (γ 9 31), .int p407698, .int p407699, .int p407700, .ref q407685]) := (n577847 q407678 (rn_oa he577731 he577841)).trans he577731
                                have he577854 : F577845 q577164 = .inr (4, [.int p577736, .ref q577738, .int p577737]) := (n577847 q577164 (rn_oa he577735 he577841)).trans he577735
                                have he577855 : F577845 q577165 = .inr (20, [.int p577767, .int p577768, .int p577769, .int p577770, .int p577771, .int p577772, .int p577773]) := (n577847 q577165 (rn_oa he577766 he577841)).trans he577766
                                have he577856 : F577845 (γ 9 5) = .inl (I .int, 2000, .inl f577848) := e577846
                                have hs577857 : rStr γ [] F407677 F577845 := rStr_put hs577721 n577847 ht407708 (by decide)
                                have kp577858 : F577845 q407678 = F407677 q407678 := (n577847 q407678 (rn_ty htq407678 ht407708 (by decide))).trans x577722
                                have kp577859 : F577845 (γ 9 3) = F407677 (γ 9 3) := (n577847 (γ 9 3) (rn_ty ht407706 ht407708 (by decide))).trans x577723
                                refine G_aload 0 dr_cX17_weigh_167 rfl ?_
                                have hT577860 : RS D I P407676 F577845 γ el := RS_set hT577720 n577847 ht407708 (by decide) ⟨f577848, he577856⟩
                                have fq577861 : fI (F577845 q577165) 0 = p577767 := by rw [he577855]; rfl
                                have fq577862 : fI (F577845 q577165) 6 = p577773 := by rw [he577855]; rfl
                                refine Gw_callV (As := []) (gV_ok D I) (cp_1699_Row_usesB l hl0 D I P407676 F577845 q577165 p577767 p577768 p577769 p577770 p577771 p577772 p577773 hm577765 he577855 bp577767 bp577768 bp577771 bp577772 bp577773) dr_cX17_weigh_169 ⟨wr_10_196, wr_1_39, wr_10_199, by decide, rfl, (Nat.le_of_ble_eq_true rfl), (Nat.le_of_ble_eq_true rfl)⟩ wr_10_197 wr_10_198 hm577765 he577855 rfl (show 0 + 0 ≤ 0 by first | omega | decide) (show 0 + 0 ≤ 0 by first | omega | decide) (Nat.le_of_ble_eq_true rfl) (fun r577866 w577867 dc577863 ds577864 hp577865 => ?_) (fun _ _ _ _ _ z => z.elim)
                                obtain ⟨o577868, rfl, rfl, hdc, hds, bo577868, x577869, ht577870⟩ := hp577865
                                change G _ _ _ _ _ _ _ (.int o577868 :: _) _ _ _
                                refine G_widen (cs' := 0) (sl' := 0) (by omega) (by omega) ?_
                                refine G_if_eq 189 dr_cX17_weigh_172 (by decide +kernel) (fun hc577871 => ?_) (fun hc577871 => ?_)
                                · have r577872 : o577868.toInt = 0 := gj_eq hc577871 (show Int32.toInt 0 = 0 by decide)
                                  have bo577868' : gB o577868 0 0 := gB_t0 r577872
                                  obtain ⟨z577873, hz577873⟩ : ∃ z : Int32, z = g577718 + Int32.ofInt 1 := ⟨_, rfl⟩
                                  have ez577873 : z577873.toInt = g577718.toInt + 1 := gI_inc hz577873 (by decide) bg577718' (by decide) (by decide)
                                  have bz577873 : gB z577873 1 1000001 := ⟨by omega, by omega⟩
                                  refine G_iinc (L' := [(5, .int z577873), (6, .ref q577165), (4, .ref q577154), (3, .int g577123), (2, .int g575948), (0, .ref q407678), (1, .ref q407679)]) z577873 1 dr_cX17_weigh_189 rfl hz577873.symm (Nat.le_of_ble_eq_true rfl) rfl ?_
                                  refine G_goto 74 dr_cX17_weigh_192 (by decide +kernel) ?_
                                  refine G_lv (L' := [(5, .int z577873), (4, .ref q577154), (3, .int g577123), (2, .int g575948), (0, .ref q407678), (1, .ref q407679)]) [0, 2, 3, 4, 5, 6] rfl ?_
                                  exact ih74_577723 F577845 z577873 (gB_w bz577873 (by decide) (by decide)) hT577860 hs577857 kp577858 kp577859 (fun k e1 ht => kt74_577724 k e1 (fun R c1 c2 c3 c4 c5 c6 c7 c8 c9 c10 c11 c12 c13 c14 c15 c16 c17 => c4 F577719 g577718 q577164 p577737 q577165 p577767 o577785 p577772 o577795 p577769 f577842 z577843 z577844 f577848 F577845 p577773 o577868 z577873 k e1 bg577718 hT577720 hs577721 x577722 x577723 fq577733 fq577744 fq577745 r577755 fq577756 r577763 fq577764 fq577779 bo577785 ht577786 r577788 fq577789 bo577795 ht577797 r577837 fq577838 fq577839 he577841 hz577843 hz577844 hf577848 n577847 he577856 fq577861 fq577862 bo577868 ht577870 r577872 ez577873 (ht R c1 c2 c3 c4 c5 c6 c7 c8 c9 c10 c11 c12 c13 c14 c15 c16 c17))) (mz_up ez577873 (Int.le_trans bg577718'.2 (by decide)) hm74_577723)
                                · have r577874 : o577868.toInt ≠ 0 := gj_neq hc577871 (show Int32.toInt 0 = 0 by decide)
                                  have bo577868' : gB o577868 1 1 := gB_t1 bo577868 r577874
                                  refine G_aload_n 5 dr_cX17_weigh_175 rfl ?_
                                  have fq577875 : fR (F577845 q407678) 5 = (γ 9 5) := by rw [he577853]; rfl
                                  refine Gp_get 5 hm577732 he577853 dr_cX17_weigh_176 (gk_X17 D I) (Nat.le_of_ble_eq_true rfl) wr_7_79 rfl ?_
                                  refine G_aload 0 dr_cX17_weigh_179 rfl ?_
                                  have fq577876 : fI (F577845 q577165) 3 = p577770 := by rw [he577855]; rfl
                                  refine Gp_get 3 hm577765 he577855 dr_cX17_weigh_181 (gk_X15 D I) (Nat.le_of_ble_eq_true rfl) wr_9_190 rfl ?_
                                  refine G_dup2_11 dr_cX17_weigh_184 rfl rfl ?_
                                  refine Gp_iald 0 hm577840 he577856 dr_cX17_weigh_185 rfl (gB_inr (by omega) (by omega)) (G_nam fun z577877 hz577877 => ?_)
                                  have bz577877 : gB z577877 (-2147483648) 2147483647 := gB_any z577877
                                  refine G_iload_n 3 dr_cX17_weigh_186 rfl ?_
                                  refine G_iadd dr_cX17_weigh_187 (G_nam fun z577878 hz577878 => ?_)
                                  have bz577878 : gB z577878 (-2147483648) 2147483647 := gB_any z577878
                                  refine Gp_iast 0 hm577840 he577856 dr_cX17_weigh_188 rfl (gB_inr (by omega) (by omega)) (fun F577879 e577880 n577881 => ?_)
                                  obtain ⟨f577882, hf577882⟩ : ∃ z, z = upd f577848 p577770.toNatClampNeg z577878 := ⟨_, rfl⟩
                                  rw [← hf577882] at e577880
                                  have he577883 : F577879 q407679 = .inr (18, [.ref q575961, .ref q575962, .int p575963, .int p575964]) := (n577881 q407679 (rn_oa he577849 he577856)).trans he577849
                                  have he577884 : F577879 q575961 = .inr (4, [.int p577135, .ref q577137, .int p577136]) := (n577881 q575961 (rn_oa he577850 he577856)).trans he577850
                                  have he577885 : F577879 q577137 = .inl (I (.object "java/lang/Object"), n577151, .inr (.inr (.inr (.inr f577152)))) := (n577881 q577137 (rn_ref_num he577851 he577856)).trans he577851
                                  have he577886 : F577879 q577154 = .inr (17, [.ref q577164, .ref q577165, .int p577166, .int p577167]) := (n577881 q577154 (rn_oa he577852 he577856)).trans he577852
                                  have he577887 : F577879 q407678 = .inr (22, [.ref (γ 9 0), .ref (γ 9 1), .ref (γ 9 2), .ref (γ 9 3), .ref (γ 9 4), .ref (γ 9 5), .ref (γ 9 6), .ref (γ 9 7), .ref (γ 9 8), .int p407686, .int p407687, .int p407688, .int p407689, .int p407690, .int p407691, .ref (γ 9 15), .ref (γ 9 16), .ref (γ 9 17), .ref (γ 9 18), .ref (γ 9 19), .ref (γ 9 20), .ref (γ 9 21), .ref (γ 9 22), .int p407692, .int p407693, .int p407694, .int p407695, .int p407696, .ref q407684, .ref (γ 9 29), .int p407697, .ref (γ 9 31), .int p407698, .int p407699, .int p407700, .ref q407685]) := (n577881 q407678 (rn_oa he577853 he577856)).trans he577853
                                  have he577888 : F577879 q577164 = .inr (4, [.int p577736, .ref q577738, .int p577737]) := (n577881 q577164 (rn_oa he577854 he577856)).trans he577854
                                  have he577889 : F577879 q577165 = .inr (20, [.int p577767, .int p577768, .int p577769, .int p577770, .int p577771, .int p577772, .int p577773]) := (n577881 q577165 (rn_oa he577855 he577856)).trans he577855
                                  have he577890 : F577879 (γ 9 5) = .inl (I .int, 2000, .inl f577882) := e577880
                                  have hs577891 : rStr γ [] F407677 F577879 := rStr_put hs577857 n577881 ht407708 (by decide)
                                  have kp577892 : F577879 q407678 = F407677 q407678 := (n577881 q407678 (rn_ty htq407678 ht407708 (by decide))).trans kp577858
                                  have kp577893 : F577879 (γ 9 3) = F407677 (γ 9 3) := (n577881 (γ 9 3) (rn_ty ht407706 ht407708 (by decide))).trans kp577859
                                  obtain ⟨z577894, hz577894⟩ : ∃ z : Int32, z = g577718 + Int32.ofInt 1 := ⟨_, rfl⟩
                                  have ez577894 : z577894.toInt = g577718.toInt + 1 := gI_inc hz577894 (by decide) bg577718' (by decide) (by decide)
                                  have bz577894 : gB z577894 1 1000001 := ⟨by omega, by omega⟩
                                  refine G_iinc (L' := [(5, .int z577894), (6, .ref q577165), (4, .ref q577154), (3, .int g577123), (2, .int g575948), (0, .ref q407678), (1, .ref q407679)]) z577894 1 dr_cX17_weigh_189 rfl hz577894.symm (Nat.le_of_ble_eq_true rfl) rfl ?_
                                  refine G_goto 74 dr_cX17_weigh_192 (by decide +kernel) ?_
                                  have hT577895 : RS D I P407676 F577879 γ el := RS_set hT577860 n577881 ht407708 (by decide) ⟨f577882, he577890⟩
                                  refine G_lv (L' := [(5, .int z577894), (4, .ref q577154), (3, .int g577123), (2, .int g575948), (0, .ref q407678), (1, .ref q407679)]) [0, 2, 3, 4, 5, 6] rfl ?_
                                  exact ih74_577723 F577879 z577894 (gB_w bz577894 (by decide) (by decide)) hT577895 hs577891 kp577892 kp577893 (fun k e1 ht => kt74_577724 k e1 (fun R c1 c2 c3 c4 c5 c6 c7 c8 c9 c10 c11 c12 c13 c14 c15 c16 c17 => c5 F577719 g577718 q577164 p577737 q577165 p577767 o577785 p577772 o577795 p577769 f577842 z577843 z577844 f577848 F577845 p577773 o577868 p577770 z577877 z577878 f577882 F577879 z577894 k e1 bg577718 hT577720 hs577721 x577722 x577723 fq577733 fq577744 fq577745 r577755 fq577756 r577763 fq577764 fq577779 bo577785 ht577786 r577788 fq577789 bo577795 ht577797 r577837 fq577838 fq577839 he577841 hz577843 hz577844 hf577848 n577847 he577856 fq577861 fq577862 bo577868 ht577870 r577874 fq577875 fq577876 he577856 hz577877 hz577878 hf577882 n577881 he577890 ez577894 (ht R c1 c2 c3 c4 c5 c6 c7 c8 c9 c10 c11 c12 c13 c14 c15 c16 c17))) (mz_up ez577894 (Int.le_trans bg577718'.2 (by decide)) hm74_577723)
                            · have r577896 : o577785.toInt ≠ 0 := gj_neq hc577787 (show Int32.toInt 0 = 0 by decide)
                              have bo577785' : gB o577785 1 1 := gB_t1 bo577785 r577896
                              refine G_aload_n 5 dr_cX17_weigh_131 rfl ?_
                              have fq577897 : fR (F577719 q407678) 5 = (γ 9 5) := by rw [he577731]; rfl
                              refine Gp_get 5 hm577732 he577731 dr_cX17_weigh_132 (gk_X17 D I) (Nat.le_of_ble_eq_true rfl) wr_7_79 rfl ?_
                              refine G_aload 0 dr_cX17_weigh_135 rfl ?_
                              have fq577898 : fI (F577719 q577165) 1 = p577768 := by rw [he577766]; rfl
                              refine Gp_get 1 hm577765 he577766 dr_cX17_weigh_137 (gk_X15 D I) (Nat.le_of_ble_eq_true rfl) wr_9_182 rfl ?_
                              refine G_dup2_11 dr_cX17_weigh_140 rfl rfl ?_
                              have hm577899 : (γ 9 5) ∈ P407676 := RS_m hT577720 ht407708 (by decide)
                              obtain ⟨f577901, he577900⟩ := show rk_17 I (F577719 (γ 9 5)) from RS_o hT577720 ht407708
                              refine Gp_iald 0 hm577899 he577900 dr_cX17_weigh_141 rfl (gB_in bp577768 (by decide) (by decide)) (G_nam fun z577902 hz577902 => ?_)
                              have bz577902 : gB z577902 (-2147483648) 2147483647 := gB_any z577902
                              refine G_iload_n 3 dr_cX17_weigh_142 rfl ?_
                              refine G_iadd dr_cX17_weigh_143 (G_nam fun z577903 hz577903 => ?_)
                              have bz577903 : gB z577903 (-2147483648) 2147483647 := gB_any z577903
                              refine Gp_iast 0 hm577899 he577900 dr_cX17_weigh_144 rfl (gB_in bp577768 (by decide) (by decide)) (fun F577904 e577905 n577906 => ?_)
                              obtain ⟨f577907, hf577907⟩ : ∃ z, z = upd f577901 p577768.toNatClampNeg z577903 := ⟨_, rfl⟩
                              rw [← hf577907] at e577905
                              have he577908 : F577904 q407679 = .inr (18, [.ref q575961, .ref q575962, .int p575963, .int p575964]) := (n577906 q407679 (rn_oa he577726 he577900)).trans he577726
                              have he577909 : F577904 q575961 = .inr (4, [.int p577135, .ref q577137, .int p577136]) := (n577906 q575961 (rn_oa he577727 he577900)).trans he577727
                              have he577910 : F577904 q577137 = .inl (I (.object "java/lang/Object"), n577151, .inr (.inr (.inr (.inr f577152)))) := (n577906 q577137 (rn_ref_num he577728 he577900)).trans he577728
                              have he577911 : F577904 q577154 = .inr (17, [.ref q577164, .ref q577165, .int p577166, .int p577167]) := (n577906 q577154 (rn_oa he577729 he577900)).trans he577729
                              have he577912 : F577904 q407678 = .inr (22, [.ref (γ 9 0), .ref (γ 9 1), .ref (γ 9 2), .ref (γ 9 3), .ref (γ 9 4), .ref (γ 9 5), .ref (γ 9 6), .ref (γ 9 7), .ref (γ 9 8), .int p407686, .int p407687, .int p407688, .int p407689, .int p407690, .int p407691, .ref (γ 9 15), .ref (γ 9 16), .ref (γ 9 17), .ref (γ 9 18), .ref (γ 9 19), .ref (γ 9 20), .ref (γ 9 21), .ref (γ 9 22), .int p407692, .int p407693, .int p407694, .int p407695, .int p407696, .ref q407684, .ref (γ 9 29), .int p407697, .ref (γ 9 31), .int p407698, .int p407699, .int p407700, .ref q407685]) := (n577906 q407678 (rn_oa he577731 he577900)).trans he577731
                              have he577913 : F577904 q577164 = .inr (4, [.int p577736, .ref q577738, .int p577737]) := (n577906 q577164 (rn_oa he577735 he577900)).trans he577735
                              have he577914 : F577904 q577165 = .inr (20, [.int p577767, .int p577768, .int p577769, .int p577770, .int p577771, .int p577772, .int p577773]) := (n577906 q577165 (rn_oa he577766 he577900)).trans he577766
                              have he577915 : F577904 (γ 9 5) = .inl (I .int, 2000, .inl f577907) := e577905
                              have hs577916 : rStr γ [] F407677 F577904 := rStr_put hs577721 n577906 ht407708 (by decide)
                              have kp577917 : F577904 q407678 = F407677 q407678 := (n577906 q407678 (rn_ty htq407678 ht407708 (by decide))).trans x577722
                              have kp577918 : F577904 (γ 9 3) = F407677 (γ 9 3) := (n577906 (γ 9 3) (rn_ty ht407706 ht407708 (by decide))).trans x577723
                              refine G_aload 0 dr_cX17_weigh_145 rfl ?_
                              have hT577919 : RS D I P407676 F577904 γ el := RS_set hT577720 n577906 ht407708 (by decide) ⟨f577907, he577915⟩
                              have fq577920 : fI (F577904 q577165) 0 = p577767 := by rw [he577914]; rfl
                              have fq577921 : fI (F577904 q577165) 5 = p577772 := by rw [he577914]; rfl
                              refine Gw_callV (As := []) (gV_ok D I) (cp_1675_Row_usesA l hl0 D I P407676 F577904 q577165 p577767 p577768 p577769 p577770 p577771 p577772 p577773 hm577765 he577914 bp577767 bp577768 bp577771 bp577772 bp577773) dr_cX17_weigh_147 ⟨wr_10_192, wr_1_39, wr_10_195, by decide, rfl, (Nat.le_of_ble_eq_true rfl), (Nat.le_of_ble_eq_true rfl)⟩ wr_10_193 wr_10_194 hm577765 he577914 rfl (show 0 + 0 ≤ 0 by first | omega | decide) (show 0 + 0 ≤ 0 by first | omega | decide) (Nat.le_of_ble_eq_true rfl) (fun r577925 w577926 dc577922 ds577923 hp577924 => ?_) (fun _ _ _ _ _ z => z.elim)
                              obtain ⟨o577927, rfl, rfl, hdc, hds, bo577927, x577928, ht577929⟩ := hp577924
                              change G _ _ _ _ _ _ _ (.int o577927 :: _) _ _ _
                              refine G_widen (cs' := 0) (sl' := 0) (by omega) (by omega) ?_
                              refine G_if_eq 167 dr_cX17_weigh_150 (by decide +kernel) (fun hc577930 => ?_) (fun hc577930 => ?_)
                              · have r577931 : o577927.toInt = 0 := gj_eq hc577930 (show Int32.toInt 0 = 0 by decide)
                                have bo577927' : gB o577927 0 0 := gB_t0 r577931
                                refine G_aload 0 dr_cX17_weigh_167 rfl ?_
                                have fq577932 : fI (F577904 q577165) 6 = p577773 := by rw [he577914]; rfl
                                refine Gw_callV (As := []) (gV_ok D I) (cp_1699_Row_usesB l hl0 D I P407676 F577904 q577165 p577767 p577768 p577769 p577770 p577771 p577772 p577773 hm577765 he577914 bp577767 bp577768 bp577771 bp577772 bp577773) dr_cX17_weigh_169 ⟨wr_10_196, wr_1_39, wr_10_199, by decide, rfl, (Nat.le_of_ble_eq_true rfl), (Nat.le_of_ble_eq_true rfl)⟩ wr_10_197 wr_10_198 hm577765 he577914 rfl (show 0 + 0 ≤ 0 by first | omega | decide) (show 0 + 0 ≤ 0 by first | omega | decide) (Nat.le_of_ble_eq_true rfl) (fun r577936 w577937 dc577933 ds577934 hp577935 => ?_) (fun _ _ _ _ _ z => z.elim)
                                obtain ⟨o577938, rfl, rfl, hdc, hds, bo577938, x577939, ht577940⟩ := hp577935
                                change G _ _ _ _ _ _ _ (.int o577938 :: _) _ _ _
                                refine G_widen (cs' := 0) (sl' := 0) (by omega) (by omega) ?_
                                refine G_if_eq 189 dr_cX17_weigh_172 (by decide +kernel) (fun hc577941 => ?_) (fun hc577941 => ?_)
                                · have r577942 : o577938.toInt = 0 := gj_eq hc577941 (show Int32.toInt 0 = 0 by decide)
                                  have bo577938' : gB o577938 0 0 := gB_t0 r577942
                                  obtain ⟨z577943, hz577943⟩ : ∃ z : Int32, z = g577718 + Int32.ofInt 1 := ⟨_, rfl⟩
                                  have ez577943 : z577943.toInt = g577718.toInt + 1 := gI_inc hz577943 (by decide) bg577718' (by decide) (by decide)
                                  have bz577943 : gB z577943 1 1000001 := ⟨by omega, by omega⟩
                                  refine G_iinc (L' := [(5, .int z577943), (6, .ref q577165), (4, .ref q577154), (3, .int g577123), (2, .int g575948), (0, .ref q407678), (1, .ref q407679)]) z577943 1 dr_cX17_weigh_189 rfl hz577943.symm (Nat.le_of_ble_eq_true rfl) rfl ?_
                                  refine G_goto 74 dr_cX17_weigh_192 (by decide +kernel) ?_
                                  refine G_lv (L' := [(5, .int z577943), (4, .ref q577154), (3, .int g577123), (2, .int g575948), (0, .ref q407678), (1, .ref q407679)]) [0, 2, 3, 4, 5, 6] rfl ?_
                                  exact ih74_577723 F577904 z577943 (gB_w bz577943 (by decide) (by decide)) hT577919 hs577916 kp577917 kp577918 (fun k e1 ht => kt74_577724 k e1 (fun R c1 c2 c3 c4 c5 c6 c7 c8 c9 c10 c11 c12 c13 c14 c15 c16 c17 => c6 F577719 g577718 q577164 p577737 q577165 p577767 o577785 p577768 f577901 z577902 z577903 f577907 F577904 p577772 o577927 p577773 o577938 z577943 k e1 bg577718 hT577720 hs577721 x577722 x577723 fq577733 fq577744 fq577745 r577755 fq577756 r577763 fq577764 fq577779 bo577785 ht577786 r577896 fq577897 fq577898 he577900 hz577902 hz577903 hf577907 n577906 he577915 fq577920 fq577921 bo577927 ht577929 r577931 fq577932 bo577938 ht577940 r577942 ez577943 (ht R c1 c2 c3 c4 c5 c6 c7 c8 c9 c10 c11 c12 c13 c14 c15 c16 c17))) (mz_up ez577943 (Int.le_trans bg577718'.2 (by decide)) hm74_577723)
                                · have r577944 : o577938.toInt ≠ 0 := gj_neq hc577941 (show Int32.toInt 0 = 0 by decide)
                                  have bo577938' : gB o577938 1 1 := gB_t1 bo577938 r577944
                                  refine G_aload_n 5 dr_cX17_weigh_175 rfl ?_
                                  have fq577945 : fR (F577904 q407678) 5 = (γ 9 5) := by rw [he577912]; rfl
                                  refine Gp_get 5 hm577732 he577912 dr_cX17_weigh_176 (gk_X17 D I) (Nat.le_of_ble_eq_true rfl) wr_7_79 rfl ?_
                                  refine G_aload 0 dr_cX17_weigh_179 rfl ?_
                                  have fq577946 : fI (F577904 q577165) 3 = p577770 := by rw [he577914]; rfl
                                  refine Gp_get 3 hm577765 he577914 dr_cX17_weigh_181 (gk_X15 D I) (Nat.le_of_ble_eq_true rfl) wr_9_190 rfl ?_
                                  refine G_dup2_11 dr_cX17_weigh_184 rfl rfl ?_
                                  refine Gp_iald 0 hm577899 he577915 dr_cX17_weigh_185 rfl (gB_inr (by omega) (by omega)) (G_nam fun z577947 hz577947 => ?_)
                                  have bz577947 : gB z577947 (-2147483648) 2147483647 := gB_any z577947
                                  refine G_iload_n 3 dr_cX17_weigh_186 rfl ?_
                                  refine G_iadd dr_cX17_weigh_187 (G_nam fun z577948 hz577948 => ?_)
                                  have bz577948 : gB z577948 (-2147483648) 2147483647 := gB_any z577948
                                  refine Gp_iast 0 hm577899 he577915 dr_cX17_weigh_188 rfl (gB_inr (by omega) (by omega)) (fun F577949 e577950 n577951 => ?_)
                                  obtain ⟨f577952, hf577952⟩ : ∃ z, z = upd f577907 p577770.toNatClampNeg z577948 := ⟨_, rfl⟩
                                  rw [← hf577952] at e577950
                                  have he577953 : F577949 q407679 = .inr (18, [.ref q575961, .ref q575962, .int p575963, .int p575964]) := (n577951 q407679 (rn_oa he577908 he577915)).trans he577908
                                  have he577954 : F577949 q575961 = .inr (4, [.int p577135, .ref q577137, .int p577136]) := (n577951 q575961 (rn_oa he577909 he577915)).trans he577909
                                  have he577955 : F577949 q577137 = .inl (I (.object "java/lang/Object"), n577151, .inr (.inr (.inr (.inr f577152)))) := (n577951 q577137 (rn_ref_num he577910 he577915)).trans he577910
                                  have he577956 : F577949 q577154 = .inr (17, [.ref q577164, .ref q577165, .int p577166, .int p577167]) := (n577951 q577154 (rn_oa he577911 he577915)).trans he577911
                                  have he577957 : F577949 q407678 = .inr (22, [.ref (γ 9 0), .ref (γ 9 1), .ref (γ 9 2), .ref (γ 9 3), .ref (γ 9 4), .ref (γ 9 5), .ref (γ 9 6), .ref (γ 9 7), .ref (γ 9 8), .int p407686, .int p407687, .int p407688, .int p407689, .int p407690, .int p407691, .ref (γ 9 15), .ref (γ 9 16), .ref (γ 9 17), .ref (γ 9 18), .ref (γ 9 19), .ref (γ 9 20), .ref (γ 9 21), .ref (γ 9 22), .int p407692, .int p407693, .int p407694, .int p407695, .int p407696, .ref q407684, .ref (γ 9 29), .int p407697, .ref (γ 9 31), .int p407698, .int p407699, .int p407700, .ref q407685]) := (n577951 q407678 (rn_oa he577912 he577915)).trans he577912
                                  have he577958 : F577949 q577164 = .inr (4, [.int p577736, .ref q577738, .int p577737]) := (n577951 q577164 (rn_oa he577913 he577915)).trans he577913
                                  have he577959 : F577949 q577165 = .inr (20, [.int p577767, .int p577768, .int p577769, .int p577770, .int p577771, .int p577772, .int p577773]) := (n577951 q577165 (rn_oa he577914 he577915)).trans he577914
                                  have he577960 : F577949 (γ 9 5) = .inl (I .int, 2000, .inl f577952) := e577950
                                  have hs577961 : rStr γ [] F407677 F577949 := rStr_put hs577916 n577951 ht407708 (by decide)
                                  have kp577962 : F577949 q407678 = F407677 q407678 := (n577951 q407678 (rn_ty htq407678 ht407708 (by decide))).trans kp577917
                                  have kp577963 : F577949 (γ 9 3) = F407677 (γ 9 3) := (n577951 (γ 9 3) (rn_ty ht407706 ht407708 (by decide))).trans kp577918
                                  obtain ⟨z577964, hz577964⟩ : ∃ z : Int32, z = g577718 + Int32.ofInt 1 := ⟨_, rfl⟩
                                  have ez577964 : z577964.toInt = g577718.toInt + 1 := gI_inc hz577964 (by decide) bg577718' (by decide) (by decide)
                                  have bz577964 : gB z577964 1 1000001 := ⟨by omega, by omega⟩
                                  refine G_iinc (L' := [(5, .int z577964), (6, .ref q577165), (4, .ref q577154), (3, .int g577123), (2, .int g575948), (0, .ref q407678), (1, .ref q407679)]) z577964 1 dr_cX17_weigh_189 rfl hz577964.symm (Nat.le_of_ble_eq_true rfl) rfl ?_
                                  refine G_goto 74 dr_cX17_weigh_192 (by decide +kernel) ?_
                                  have hT577965 : RS D I P407676 F577949 γ el := RS_set hT577919 n577951 ht407708 (by decide) ⟨f577952, he577960⟩
                                  refine G_lv (L' := [(5, .int z577964), (4, .ref q577154), (3, .int g577123), (2, .int g575948), (0, .ref q407678), (1, .ref q407679)]) [0, 2, 3, 4, 5, 6] rfl ?_
                                  exact ih74_577723 F577949 z577964 (gB_w bz577964 (by decide) (by decide)) hT577965 hs577961 kp577962 kp577963 (fun k e1 ht => kt74_577724 k e1 (fun R c1 c2 c3 c4 c5 c6 c7 c8 c9 c10 c11 c12 c13 c14 c15 c16 c17 => c7 F577719 g577718 q577164 p577737 q577165 p577767 o577785 p577768 f577901 z577902 z577903 f577907 F577904 p577772 o577927 p577773 o577938 p577770 z577947 z577948 f577952 F577949 z577964 k e1 bg577718 hT577720 hs577721 x577722 x577723 fq577733 fq577744 fq577745 r577755 fq577756 r577763 fq577764 fq577779 bo577785 ht577786 r577896 fq577897 fq577898 he577900 hz577902 hz577903 hf577907 n577906 he577915 fq577920 fq577921 bo577927 ht577929 r577931 fq577932 bo577938 ht577940 r577944 fq577945 fq577946 he577915 hz577947 hz577948 hf577952 n577951 he577960 ez577964 (ht R c1 c2 c3 c4 c5 c6 c7 c8 c9 c10 c11 c12 c13 c14 c15 c16 c17))) (mz_up ez577964 (Int.le_trans bg577718'.2 (by decide)) hm74_577723)
                              · have r577966 : o577927.toInt ≠ 0 := gj_neq hc577930 (show Int32.toInt 0 = 0 by decide)
                                have bo577927' : gB o577927 1 1 := gB_t1 bo577927 r577966
                                refine G_aload_n 5 dr_cX17_weigh_153 rfl ?_
                                have fq577967 : fR (F577904 q407678) 5 = (γ 9 5) := by rw [he577912]; rfl
                                refine Gp_get 5 hm577732 he577912 dr_cX17_weigh_154 (gk_X17 D I) (Nat.le_of_ble_eq_true rfl) wr_7_79 rfl ?_
                                refine G_aload 0 dr_cX17_weigh_157 rfl ?_
                                have fq577968 : fI (F577904 q577165) 2 = p577769 := by rw [he577914]; rfl
                                refine Gp_get 2 hm577765 he577914 dr_cX17_weigh_159 (gk_X15 D I) (Nat.le_of_ble_eq_true rfl) wr_9_186 rfl ?_
                                refine G_dup2_11 dr_cX17_weigh_162 rfl rfl ?_
                                refine Gp_iald 0 hm577899 he577915 dr_cX17_weigh_163 rfl (gB_inr (by omega) (by omega)) (G_nam fun z577969 hz577969 => ?_)
                                have bz577969 : gB z577969 (-2147483648) 2147483647 := gB_any z577969
                                refine G_iload_n 3 dr_cX17_weigh_164 rfl ?_
                                refine G_iadd dr_cX17_weigh_165 (G_nam fun z577970 hz577970 => ?_)
                                have bz577970 : gB z577970 (-2147483648) 2147483647 := gB_any z577970
                                refine Gp_iast 0 hm577899 he577915 dr_cX17_weigh_166 rfl (gB_inr (by omega) (by omega)) (fun F577971 e577972 n577973 => ?_)
                                obtain ⟨f577974, hf577974⟩ : ∃ z, z = upd f577907 p577769.toNatClampNeg z577970 := ⟨_, rfl⟩
                                rw [← hf577974] at e577972
                                have he577975 : F577971 q407679 = .inr (18, [.ref q575961, .ref q575962, .int p575963, .int p575964]) := (n577973 q407679 (rn_oa he577908 he577915)).trans he577908
                                have he577976 : F577971 q575961 = .inr (4, [.int p577135, .ref q577137, .int p577136]) := (n577973 q575961 (rn_oa he577909 he577915)).trans he577909
                                have he577977 : F577971 q577137 = .inl (I (.object "java/lang/Object"), n577151, .inr (.inr (.inr (.inr f577152)))) := (n577973 q577137 (rn_ref_num he577910 he577915)).trans he577910
                                have he577978 : F577971 q577154 = .inr (17, [.ref q577164, .ref q577165, .int p577166, .int p577167]) := (n577973 q577154 (rn_oa he577911 he577915)).trans he577911
                                have he577979 : F577971 q407678 = .inr (22, [.ref (γ 9 0), .ref (γ 9 1), .ref (γ 9 2), .ref (γ 9 3), .ref (γ 9 4), .ref (γ 9 5), .ref (γ 9 6), .ref (γ 9 7), .ref (γ 9 8), .int p407686, .int p407687, .int p407688, .int p407689, .int p407690, .int p407691, .ref (γ 9 15), .ref (γ 9 16), .ref (γ 9 17), .ref (γ 9 18), .ref (γ 9 19), .ref (γ 9 20), .ref (γ 9 21), .ref (γ 9 22), .int p407692, .int p407693, .int p407694, .int p407695, .int p407696, .ref q407684, .ref (γ 9 29), .int p407697, .ref (γ 9 31), .int p407698, .int p407699, .int p407700, .ref q407685]) := (n577973 q407678 (rn_oa he577912 he577915)).trans he577912
                                have he577980 : F577971 q577164 = .inr (4, [.int p577736, .ref q577738, .int p577737]) := (n577973 q577164 (rn_oa he577913 he577915)).trans he577913
                                have he577981 : F577971 q577165 = .inr (20, [.int p577767, .int p577768, .int p577769, .int p577770, .int p577771, .int p577772, .int p577773]) := (n577973 q577165 (rn_oa he577914 he577915)).trans he577914
                                have he577982 : F577971 (γ 9 5) = .inl (I .int, 2000, .inl f577974) := e577972
                                have hs577983 : rStr γ [] F407677 F577971 := rStr_put hs577916 n577973 ht407708 (by decide)
                                have kp577984 : F577971 q407678 = F407677 q407678 := (n577973 q407678 (rn_ty htq407678 ht407708 (by decide))).trans kp577917
                                have kp577985 : F577971 (γ 9 3) = F407677 (γ 9 3) := (n577973 (γ 9 3) (rn_ty ht407706 ht407708 (by decide))).trans kp577918
                                refine G_aload 0 dr_cX17_weigh_167 rfl ?_
                                have hT577986 : RS D I P407676 F577971 γ el := RS_set hT577919 n577973 ht407708 (by decide) ⟨f577974, he577982⟩
                                have fq577987 : fI (F577971 q577165) 0 = p577767 := by rw [he577981]; rfl
                                have fq577988 : fI (F577971 q577165) 6 = p577773 := by rw [he577981]; rfl
                                refine Gw_callV (As := []) (gV_ok D I) (cp_1699_Row_usesB l hl0 D I P407676 F577971 q577165 p577767 p577768 p577769 p577770 p577771 p577772 p577773 hm577765 he577981 bp577767 bp577768 bp577771 bp577772 bp577773) dr_cX17_weigh_169 ⟨wr_10_196, wr_1_39, wr_10_199, by decide, rfl, (Nat.le_of_ble_eq_true rfl), (Nat.le_of_ble_eq_true rfl)⟩ wr_10_197 wr_10_198 hm577765 he577981 rfl (show 0 + 0 ≤ 0 by first | omega | decide) (show 0 + 0 ≤ 0 by first | omega | decide) (Nat.le_of_ble_eq_true rfl) (fun r577992 w577993 dc577989 ds577990 hp577991 => ?_) (fun _ _ _ _ _ z => z.elim)
                                obtain ⟨o577994, rfl, rfl, hdc, hds, bo577994, x577995, ht577996⟩ := hp577991
                                change G _ _ _ _ _ _ _ (.int o577994 :: _) _ _ _
                                refine G_widen (cs' := 0) (sl' := 0) (by omega) (by omega) ?_
                                refine G_if_eq 189 dr_cX17_weigh_172 (by decide +kernel) (fun hc577997 => ?_) (fun hc577997 => ?_)
                                · have r577998 : o577994.toInt = 0 := gj_eq hc577997 (show Int32.toInt 0 = 0 by decide)
                                  have bo577994' : gB o577994 0 0 := gB_t0 r577998
                                  obtain ⟨z577999, hz577999⟩ : ∃ z : Int32, z = g577718 + Int32.ofInt 1 := ⟨_, rfl⟩
                                  have ez577999 : z577999.toInt = g577718.toInt + 1 := gI_inc hz577999 (by decide) bg577718' (by decide) (by decide)
                                  have bz577999 : gB z577999 1 1000001 := ⟨by omega, by omega⟩
                                  refine G_iinc (L' := [(5, .int z577999), (6, .ref q577165), (4, .ref q577154), (3, .int g577123), (2, .int g575948), (0, .ref q407678), (1, .ref q407679)]) z577999 1 dr_cX17_weigh_189 rfl hz577999.symm (Nat.le_of_ble_eq_true rfl) rfl ?_
                                  refine G_goto 74 dr_cX17_weigh_192 (by decide +kernel) ?_
                                  refine G_lv (L' := [(5, .int z577999), (4, .ref q577154), (3, .int g577123), (2, .int g575948), (0, .ref q407678), (1, .ref q407679)]) [0, 2, 3, 4, 5, 6] rfl ?_
                                  exact ih74_577723 F577971 z577999 (gB_w bz577999 (by decide) (by decide)) hT577986 hs577983 kp577984 kp577985 (fun k e1 ht => kt74_577724 k e1 (fun R c1 c2 c3 c4 c5 c6 c7 c8 c9 c10 c11 c12 c13 c14 c15 c16 c17 => c8 F577719 g577718 q577164 p577737 q577165 p577767 o577785 p577768 f577901 z577902 z577903 f577907 F577904 p577772 o577927 p577769 z577969 z577970 f577974 F577971 p577773 o577994 z577999 k e1 bg577718 hT577720 hs577721 x577722 x577723 fq577733 fq577744 fq577745 r577755 fq577756 r577763 fq577764 fq577779 bo577785 ht577786 r577896 fq577897 fq577898 he577900 hz577902 hz577903 hf577907 n577906 he577915 fq577920 fq577921 bo577927 ht577929 r577966 fq577967 fq577968 he577915 hz577969 hz577970 hf577974 n577973 he577982 fq577987 fq577988 bo577994 ht577996 r577998 ez577999 (ht R c1 c2 c3 c4 c5 c6 c7 c8 c9 c10 c11 c12 c13 c14 c15 c16 c17))) (mz_up ez577999 (Int.le_trans bg577718'.2 (by decide)) hm74_577723)
                                · have r578000 : o577994.toInt ≠ 0 := gj_neq hc577997 (show Int32.toInt 0 = 0 by decide)
                                  have bo577994' : gB o577994 1 1 := gB_t1 bo577994 r578000
                                  refine G_aload_n 5 dr_cX17_weigh_175 rfl ?_
                                  have fq578001 : fR (F577971 q407678) 5 = (γ 9 5) := by rw [he577979]; rfl
                                  refine Gp_get 5 hm577732 he577979 dr_cX17_weigh_176 (gk_X17 D I) (Nat.le_of_ble_eq_true rfl) wr_7_79 rfl ?_
                                  refine G_aload 0 dr_cX17_weigh_179 rfl ?_
                                  have fq578002 : fI (F577971 q577165) 3 = p577770 := by rw [he577981]; rfl
                                  refine Gp_get 3 hm577765 he577981 dr_cX17_weigh_181 (gk_X15 D I) (Nat.le_of_ble_eq_true rfl) wr_9_190 rfl ?_
                                  refine G_dup2_11 dr_cX17_weigh_184 rfl rfl ?_
                                  refine Gp_iald 0 hm577899 he577982 dr_cX17_weigh_185 rfl (gB_inr (by omega) (by omega)) (G_nam fun z578003 hz578003 => ?_)
                                  have bz578003 : gB z578003 (-2147483648) 2147483647 := gB_any z578003
                                  refine G_iload_n 3 dr_cX17_weigh_186 rfl ?_
                                  refine G_iadd dr_cX17_weigh_187 (G_nam fun z578004 hz578004 => ?_)
                                  have bz578004 : gB z578004 (-2147483648) 2147483647 := gB_any z578004
                                  refine Gp_iast 0 hm577899 he577982 dr_cX17_weigh_188 rfl (gB_inr (by omega) (by omega)) (fun F578005 e578006 n578007 => ?_)
                                  obtain ⟨f578008, hf578008⟩ : ∃ z, z = upd f577974 p577770.toNatClampNeg z578004 := ⟨_, rfl⟩
                                  rw [← hf578008] at e578006
                                  have he578009 : F578005 q407679 = .inr (18, [.ref q575961, .ref q575962, .int p575963, .int p575964]) := (n578007 q407679 (rn_oa he577975 he577982)).trans he577975
                                  have he578010 : F578005 q575961 = .inr (4, [.int p577135, .ref q577137, .int p577136]) := (n578007 q575961 (rn_oa he577976 he577982)).trans he577976
                                  have he578011 : F578005 q577137 = .inl (I (.object "java/lang/Object"), n577151, .inr (.inr (.inr (.inr f577152)))) := (n578007 q577137 (rn_ref_num he577977 he577982)).trans he577977
                                  have he578012 : F578005 q577154 = .inr (17, [.ref q577164, .ref q577165, .int p577166, .int p577167]) := (n578007 q577154 (rn_oa he577978 he577982)).trans he577978
                                  have he578013 : F578005 q407678 = .inr (22, [.ref (γ 9 0), .ref (γ 9 1), .ref (γ 9 2), .ref (γ 9 3), .ref (γ 9 4), .ref (γ 9 5), .ref (γ 9 6), .ref (γ 9 7), .ref (γ 9 8), .int p407686, .int p407687, .int p407688, .int p407689, .int p407690, .int p407691, .ref (γ 9 15), .ref (γ 9 16), .ref (γ 9 17), .ref (γ 9 18), .ref (γ 9 19), .ref (γ 9 20), .ref (γ 9 21), .ref (γ 9 22), .int p407692, .int p407693, .int p407694, .int p407695, .int p407696, .ref q407684, .ref (γ 9 29), .int p407697, .ref (γ 9 31), .int p407698, .int p407699, .int p407700, .ref q407685]) := (n578007 q407678 (rn_oa he577979 he577982)).trans he577979
                                  have he578014 : F578005 q577164 = .inr (4, [.int p577736, .ref q577738, .int p577737]) := (n578007 q577164 (rn_oa he577980 he577982)).trans he577980
                                  have he578015 : F578005 q577165 = .inr (20, [.int p577767, .int p577768, .int p577769, .int p577770, .int p577771, .int p577772, .int p577773]) := (n578007 q577165 (rn_oa he577981 he577982)).trans he577981
                                  have he578016 : F578005 (γ 9 5) = .inl (I .int, 2000, .inl f578008) := e578006
                                  have hs578017 : rStr γ [] F407677 F578005 := rStr_put hs577983 n578007 ht407708 (by decide)
                                  have kp578018 : F578005 q407678 = F407677 q407678 := (n578007 q407678 (rn_ty htq407678 ht407708 (by decide))).trans kp577984
                                  have kp578019 : F578005 (γ 9 3) = F407677 (γ 9 3) := (n578007 (γ 9 3) (rn_ty ht407706 ht407708 (by decide))).trans kp577985
                                  obtain ⟨z578020, hz578020⟩ : ∃ z : Int32, z = g577718 + Int32.ofInt 1 := ⟨_, rfl⟩
                                  have ez578020 : z578020.toInt = g577718.toInt + 1 := gI_inc hz578020 (by decide) bg577718' (by decide) (by decide)
                                  have bz578020 : gB z578020 1 1000001 := ⟨by omega, by omega⟩
                                  refine G_iinc (L' := [(5, .int z578020), (6, .ref q577165), (4, .ref q577154), (3, .int g577123), (2, .int g575948), (0, .ref q407678), (1, .ref q407679)]) z578020 1 dr_cX17_weigh_189 rfl hz578020.symm (Nat.le_of_ble_eq_true rfl) rfl ?_
                                  refine G_goto 74 dr_cX17_weigh_192 (by decide +kernel) ?_
                                  have hT578021 : RS D I P407676 F578005 γ el := RS_set hT577986 n578007 ht407708 (by decide) ⟨f578008, he578016⟩
                                  refine G_lv (L' := [(5, .int z578020), (4, .ref q577154), (3, .int g577123), (2, .int g575948), (0, .ref q407678), (1, .ref q407679)]) [0, 2, 3, 4, 5, 6] rfl ?_
                                  exact ih74_577723 F578005 z578020 (gB_w bz578020 (by decide) (by decide)) hT578021 hs578017 kp578018 kp578019 (fun k e1 ht => kt74_577724 k e1 (fun R c1 c2 c3 c4 c5 c6 c7 c8 c9 c10 c11 c12 c13 c14 c15 c16 c17 => c9 F577719 g577718 q577164 p577737 q577165 p577767 o577785 p577768 f577901 z577902 z577903 f577907 F577904 p577772 o577927 p577769 z577969 z577970 f577974 F577971 p577773 o577994 p577770 z578003 z578004 f578008 F578005 z578020 k e1 bg577718 hT577720 hs577721 x577722 x577723 fq577733 fq577744 fq577745 r577755 fq577756 r577763 fq577764 fq577779 bo577785 ht577786 r577896 fq577897 fq577898 he577900 hz577902 hz577903 hf577907 n577906 he577915 fq577920 fq577921 bo577927 ht577929 r577966 fq577967 fq577968 he577915 hz577969 hz577970 hf577974 n577973 he577982 fq577987 fq577988 bo577994 ht577996 r578000 fq578001 fq578002 he577982 hz578003 hz578004 hf578008 n578007 he578016 ez578020 (ht R c1 c2 c3 c4 c5 c6 c7 c8 c9 c10 c11 c12 c13 c14 c15 c16 c17))) (mz_up ez578020 (Int.le_trans bg577718'.2 (by decide)) hm74_577723)
                          · have r578022 : g577718.toInt < p577737.toInt := gC_nle hc577762
                            have bg577718'' : gB g577718 0 999999 := ⟨by omega, by omega⟩
                            have bp577737' : gB p577737 1 1000000 := ⟨by omega, by omega⟩
                            refine G_aload 1 dr_cX17_weigh_100 rfl ?_
                            refine Gp_get 0 hm577162 he577729 dr_cX17_weigh_102 (gk_X12 D I) (Nat.le_of_ble_eq_true rfl) wr_9_220 rfl ?_
                            refine G_iload 0 dr_cX17_weigh_105 rfl ?_
                            obtain ⟨r578023, r578024, n578031, f578032, r578025, r578026, r578027, r578028, r578029, r578030⟩ := rLC_n r577741 (by omega)
                            have hm578033 : q577738 ∈ P407676 := RS_m hT577720 r578023 (by decide)
                            obtain ⟨q578034, hx578035⟩ : ∃ x, x = el q577164 g577718.toInt.toNat := ⟨_, rfl⟩
                            have hx578036 : f578032 g577718.toNatClampNeg = some q578034 := (r578029 _ (show g577718.toInt.toNat < γ 2 q577164 by omega)).trans (by rw [hx578035])
                            have ht578037 : rKd γ q578034 1 := by rw [hx578035]; exact (r577742 _ (show g577718.toInt.toNat < γ 2 q577164 by omega)).1
                            have ht578038 : rFm γ q578034 q577164 := by rw [hx578035]; exact (r577742 _ (show g577718.toInt.toNat < γ 2 q577164 by omega)).2.1
                            refine Gw_callV (As := [.int g577718]) (gV_ok D I) (cp_22_ArrayList_get l hl0 D I P407676 F577719 q577164 q577738 g577718 p577736 p577737 f578032 n578031 q578034 hm577734 hm578033 he577735 r578025 (gB_w bg577718'' (by decide) (by decide)) (gB_w bp577737' (by decide) (by decide)) (by omega) (by omega) (by assumption) (by omega)) dr_cX17_weigh_107 ⟨wr_10_201, wr_1_18, wr_10_65, by decide, rfl, (Nat.le_of_ble_eq_true rfl), (Nat.le_of_ble_eq_true rfl)⟩ wr_10_63 wr_10_64 hm577734 he577735 rfl (show 0 + 0 ≤ 0 by first | omega | decide) (show 0 + 0 ≤ 0 by first | omega | decide) (Nat.le_of_ble_eq_true rfl) (fun r578042 w578043 dc578039 ds578040 hp578041 => ?_) (fun _ _ _ _ _ z => z.elim)
                            obtain ⟨rfl, rfl, hdc, hds, ht578044⟩ := hp578041
                            change G _ _ _ _ _ _ _ (.ref q578034 :: _) _ _ _
                            refine G_widen (cs' := 0) (sl' := 0) (by omega) (by omega) ?_
                            have hm578045 : q578034 ∈ P407676 := RS_m hT577720 ht578037 (by decide)
                            obtain ⟨p578047, p578048, p578049, p578050, p578051, p578052, p578053, he578046, bp578047, bp578048, bp578051, bp578052, bp578053, r578054, r578055, r578056, r578057, r578058⟩ := show rk_1 γ q578034 (F577719 q578034) from RS_o hT577720 ht578037
                            have bp578049 := gB_any p578049
                            have bp578050 := gB_any p578050
                            refine Gp_cast hm578045 he578046 rfl dr_cX17_weigh_110 wr_10_202 (gr_cast 1 rfl) ?_
                            refine G_goto 121 dr_cX17_weigh_113 (by decide +kernel) ?_
                            refine G_astore (L' := [(6, .ref q578034), (5, .int g577718), (4, .ref q577154), (3, .int g577123), (2, .int g575948), (0, .ref q407678), (1, .ref q407679)]) dr_cX17_weigh_121 (Nat.le_of_ble_eq_true rfl) rfl ?_
                            refine G_aload 0 dr_cX17_weigh_123 rfl ?_
                            have fq578059 : fI (F577719 q578034) 0 = p578047 := by rw [he578046]; rfl
                            refine Gw_callV (As := []) (gV_ok D I) (cp_1660_Row_sets l hl0 D I P407676 F577719 q578034 p578047 p578048 p578049 p578050 p578051 p578052 p578053 hm578045 he578046 bp578047 bp578048 bp578051 bp578052 bp578053) dr_cX17_weigh_125 ⟨wr_10_181, wr_1_39, wr_10_184, by decide, rfl, (Nat.le_of_ble_eq_true rfl), (Nat.le_of_ble_eq_true rfl)⟩ wr_10_182 wr_10_183 hm578045 he578046 rfl (show 0 + 0 ≤ 0 by first | omega | decide) (show 0 + 0 ≤ 0 by first | omega | decide) (Nat.le_of_ble_eq_true rfl) (fun r578063 w578064 dc578060 ds578061 hp578062 => ?_) (fun _ _ _ _ _ z => z.elim)
                            obtain ⟨o578065, rfl, rfl, hdc, hds, bo578065, ht578066⟩ := hp578062
                            change G _ _ _ _ _ _ _ (.int o578065 :: _) _ _ _
                            refine G_widen (cs' := 0) (sl' := 0) (by omega) (by omega) ?_
                            refine G_if_eq 145 dr_cX17_weigh_128 (by decide +kernel) (fun hc578067 => ?_) (fun hc578067 => ?_)
                            · have r578068 : o578065.toInt = 0 := gj_eq hc578067 (show Int32.toInt 0 = 0 by decide)
                              have bo578065' : gB o578065 0 0 := gB_t0 r578068
                              refine G_aload 0 dr_cX17_weigh_145 rfl ?_
                              have fq578069 : fI (F577719 q578034) 5 = p578052 := by rw [he578046]; rfl
                              refine Gw_callV (As := []) (gV_ok D I) (cp_1675_Row_usesA l hl0 D I P407676 F577719 q578034 p578047 p578048 p578049 p578050 p578051 p578052 p578053 hm578045 he578046 bp578047 bp578048 bp578051 bp578052 bp578053) dr_cX17_weigh_147 ⟨wr_10_192, wr_1_39, wr_10_195, by decide, rfl, (Nat.le_of_ble_eq_true rfl), (Nat.le_of_ble_eq_true rfl)⟩ wr_10_193 wr_10_194 hm578045 he578046 rfl (show 0 + 0 ≤ 0 by first | omega | decide) (show 0 + 0 ≤ 0 by first | omega | decide) (Nat.le_of_ble_eq_true rfl) (fun r578073 w578074 dc578070 ds578071 hp578072 => ?_) (fun _ _ _ _ _ z => z.elim)
                              obtain ⟨o578075, rfl, rfl, hdc, hds, bo578075, x578076, ht578077⟩ := hp578072
                              change G _ _ _ _ _ _ _ (.int o578075 :: _) _ _ _
                              refine G_widen (cs' := 0) (sl' := 0) (by omega) (by omega) ?_
                              refine G_if_eq 167 dr_cX17_weigh_150 (by decide +kernel) (fun hc578078 => ?_) (fun hc578078 => ?_)
                              · have r578079 : o578075.toInt = 0 := gj_eq hc578078 (show Int32.toInt 0 = 0 by decide)
                                have bo578075' : gB o578075 0 0 := gB_t0 r578079
                                refine G_aload 0 dr_cX17_weigh_167 rfl ?_
                                have fq578080 : fI (F577719 q578034) 6 = p578053 := by rw [he578046]; rfl
                                refine Gw_callV (As := []) (gV_ok D I) (cp_1699_Row_usesB l hl0 D I P407676 F577719 q578034 p578047 p578048 p578049 p578050 p578051 p578052 p578053 hm578045 he578046 bp578047 bp578048 bp578051 bp578052 bp578053) dr_cX17_weigh_169 ⟨wr_10_196, wr_1_39, wr_10_199, by decide, rfl, (Nat.le_of_ble_eq_true rfl), (Nat.le_of_ble_eq_true rfl)⟩ wr_10_197 wr_10_198 hm578045 he578046 rfl (show 0 + 0 ≤ 0 by first | omega | decide) (show 0 + 0 ≤ 0 by first | omega | decide) (Nat.le_of_ble_eq_true rfl) (fun r578084 w578085 dc578081 ds578082 hp578083 => ?_) (fun _ _ _ _ _ z => z.elim)
                                obtain ⟨o578086, rfl, rfl, hdc, hds, bo578086, x578087, ht578088⟩ := hp578083
                                change G _ _ _ _ _ _ _ (.int o578086 :: _) _ _ _
                                refine G_widen (cs' := 0) (sl' := 0) (by omega) (by omega) ?_
                                refine G_if_eq 189 dr_cX17_weigh_172 (by decide +kernel) (fun hc578089 => ?_) (fun hc578089 => ?_)
                                · have r578090 : o578086.toInt = 0 := gj_eq hc578089 (show Int32.toInt 0 = 0 by decide)
                                  have bo578086' : gB o578086 0 0 := gB_t0 r578090
                                  obtain ⟨z578091, hz578091⟩ : ∃ z : Int32, z = g577718 + Int32.ofInt 1 := ⟨_, rfl⟩
                                  have ez578091 : z578091.toInt = g577718.toInt + 1 := gI_inc hz578091 (by decide) bg577718'' (by decide) (by decide)
                                  have bz578091 : gB z578091 1 1000000 := ⟨by omega, by omega⟩
                                  refine G_iinc (L' := [(5, .int z578091), (6, .ref q578034), (4, .ref q577154), (3, .int g577123), (2, .int g575948), (0, .ref q407678), (1, .ref q407679)]) z578091 1 dr_cX17_weigh_189 rfl hz578091.symm (Nat.le_of_ble_eq_true rfl) rfl ?_
                                  refine G_goto 74 dr_cX17_weigh_192 (by decide +kernel) ?_
                                  refine G_lv (L' := [(5, .int z578091), (4, .ref q577154), (3, .int g577123), (2, .int g575948), (0, .ref q407678), (1, .ref q407679)]) [0, 2, 3, 4, 5, 6] rfl ?_
                                  exact ih74_577723 F577719 z578091 (gB_w bz578091 (by decide) (by decide)) hT577720 hs577721 x577722 x577723 (fun k e1 ht => kt74_577724 k e1 (fun R c1 c2 c3 c4 c5 c6 c7 c8 c9 c10 c11 c12 c13 c14 c15 c16 c17 => c10 F577719 g577718 q577164 p577737 q578034 p578047 o578065 p578052 o578075 p578053 o578086 z578091 k e1 bg577718 hT577720 hs577721 x577722 x577723 fq577733 fq577744 fq577745 r577755 fq577756 r578022 hx578035 ht578044 fq578059 bo578065 ht578066 r578068 fq578069 bo578075 ht578077 r578079 fq578080 bo578086 ht578088 r578090 ez578091 (ht R c1 c2 c3 c4 c5 c6 c7 c8 c9 c10 c11 c12 c13 c14 c15 c16 c17))) (mz_up ez578091 (Int.le_trans bg577718''.2 (by decide)) hm74_577723)
                                · have r578092 : o578086.toInt ≠ 0 := gj_neq hc578089 (show Int32.toInt 0 = 0 by decide)
                                  have bo578086' : gB o578086 1 1 := gB_t1 bo578086 r578092
                                  refine G_aload_n 5 dr_cX17_weigh_175 rfl ?_
                                  have fq578093 : fR (F577719 q407678) 5 = (γ 9 5) := by rw [he577731]; rfl
                                  refine Gp_get 5 hm577732 he577731 dr_cX17_weigh_176 (gk_X17 D I) (Nat.le_of_ble_eq_true rfl) wr_7_79 rfl ?_
                                  refine G_aload 0 dr_cX17_weigh_179 rfl ?_
                                  have fq578094 : fI (F577719 q578034) 3 = p578050 := by rw [he578046]; rfl
                                  refine Gp_get 3 hm578045 he578046 dr_cX17_weigh_181 (gk_X15 D I) (Nat.le_of_ble_eq_true rfl) wr_9_190 rfl ?_
                                  refine G_dup2_11 dr_cX17_weigh_184 rfl rfl ?_
                                  have hm578095 : (γ 9 5) ∈ P407676 := RS_m hT577720 ht407708 (by decide)
                                  obtain ⟨f578097, he578096⟩ := show rk_17 I (F577719 (γ 9 5)) from RS_o hT577720 ht407708
                                  refine Gp_iald 0 hm578095 he578096 dr_cX17_weigh_185 rfl (gB_inr (by omega) (by omega)) (G_nam fun z578098 hz578098 => ?_)
                                  have bz578098 : gB z578098 (-2147483648) 2147483647 := gB_any z578098
                                  refine G_iload_n 3 dr_cX17_weigh_186 rfl ?_
                                  refine G_iadd dr_cX17_weigh_187 (G_nam fun z578099 hz578099 => ?_)
                                  have bz578099 : gB z578099 (-2147483648) 2147483647 := gB_any z578099
                                  refine Gp_iast 0 hm578095 he578096 dr_cX17_weigh_188 rfl (gB_inr (by omega) (by omega)) (fun F578100 e578101 n578102 => ?_)
                                  obtain ⟨f578103, hf578103⟩ : ∃ z, z = upd f578097 p578050.toNatClampNeg z578099 := ⟨_, rfl⟩
                                  rw [← hf578103] at e578101
                                  have he578104 : F578100 q407679 = .inr (18, [.ref q575961, .ref q575962, .int p575963, .int p575964]) := (n578102 q407679 (rn_oa he577726 he578096)).trans he577726
                                  have he578105 : F578100 q575961 = .inr (4, [.int p577135, .ref q577137, .int p577136]) := (n578102 q575961 (rn_oa he577727 he578096)).trans he577727
                                  have he578106 : F578100 q577137 = .inl (I (.object "java/lang/Object"), n577151, .inr (.inr (.inr (.inr f577152)))) := (n578102 q577137 (rn_ref_num he577728 he578096)).trans he577728
                                  have he578107 : F578100 q577154 = .inr (17, [.ref q577164, .ref q577165, .int p577166, .int p577167]) := (n578102 q577154 (rn_oa he577729 he578096)).trans he577729
                                  have he578108 : F578100 q407678 = .inr (22, [.ref (γ 9 0), .ref (γ 9 1), .ref (γ 9 2), .ref (γ 9 3), .ref (γ 9 4), .ref (γ 9 5), .ref (γ 9 6), .ref (γ 9 7), .ref (γ 9 8), .int p407686, .int p407687, .int p407688, .int p407689, .int p407690, .int p407691, .ref (γ 9 15), .ref (γ 9 16), .ref (γ 9 17), .ref (γ 9 18), .ref (γ 9 19), .ref (γ 9 20), .ref (γ 9 21), .ref (γ 9 22), .int p407692, .int p407693, .int p407694, .int p407695, .int p407696, .ref q407684, .ref (γ 9 29), .int p407697, .ref (γ 9 31), .int p407698, .int p407699, .int p407700, .ref q407685]) := (n578102 q407678 (rn_oa he577731 he578096)).trans he577731
                                  have he578109 : F578100 q577164 = .inr (4, [.int p577736, .ref q577738, .int p577737]) := (n578102 q577164 (rn_oa he577735 he578096)).trans he577735
                                  have he578110 : F578100 q577738 = .inl (I (.object "java/lang/Object"), n578031, .inr (.inr (.inr (.inr f578032)))) := (n578102 q577738 (rn_ref_num r578025 he578096)).trans r578025
                                  have he578111 : F578100 q578034 = .inr (20, [.int p578047, .int p578048, .int p578049, .int p578050, .int p578051, .int p578052, .int p578053]) := (n578102 q578034 (rn_oa he578046 he578096)).trans he578046
                                  have he578112 : F578100 (γ 9 5) = .inl (I .int, 2000, .inl f578103) := e578101
                                  have hs578113 : rStr γ [] F407677 F578100 := rStr_put hs577721 n578102 ht407708 (by decide)
                                  have kp578114 : F578100 q407678 = F407677 q407678 := (n578102 q407678 (rn_ty htq407678 ht407708 (by decide))).trans x577722
                                  have kp578115 : F578100 (γ 9 3) = F407677 (γ 9 3) := (n578102 (γ 9 3) (rn_ty ht407706 ht407708 (by decide))).trans x577723
                                  obtain ⟨z578116, hz578116⟩ : ∃ z : Int32, z = g577718 + Int32.ofInt 1 := ⟨_, rfl⟩
                                  have ez578116 : z578116.toInt = g577718.toInt + 1 := gI_inc hz578116 (by decide) bg577718'' (by decide) (by decide)
                                  have bz578116 : gB z578116 1 1000000 := ⟨by omega, by omega⟩
                                  refine G_iinc (L' := [(5, .int z578116), (6, .ref q578034), (4, .ref q577154), (3, .int g577123), (2, .int g575948), (0, .ref q407678), (1, .ref q407679)]) z578116 1 dr_cX17_weigh_189 rfl hz578116.symm (Nat.le_of_ble_eq_true rfl) rfl ?_
                                  refine G_goto 74 dr_cX17_weigh_192 (by decide +kernel) ?_
                                  have hT578117 : RS D I P407676 F578100 γ el := RS_set hT577720 n578102 ht407708 (by decide) ⟨f578103, he578112⟩
                                  refine G_lv (L' := [(5, .int z578116), (4, .ref q577154), (3, .int g577123), (2, .int g575948), (0, .ref q407678), (1, .ref q407679)]) [0, 2, 3, 4, 5, 6] rfl ?_
                                  exact ih74_577723 F578100 z578116 (gB_w bz578116 (by decide) (by decide)) hT578117 hs578113 kp578114 kp578115 (fun k e1 ht => kt74_577724 k e1 (fun R c1 c2 c3 c4 c5 c6 c7 c8 c9 c10 c11 c12 c13 c14 c15 c16 c17 => c11 F577719 g577718 q577164 p577737 q578034 p578047 o578065 p578052 o578075 p578053 o578086 p578050 f578097 z578098 z578099 f578103 F578100 z578116 k e1 bg577718 hT577720 hs577721 x577722 x577723 fq577733 fq577744 fq577745 r577755 fq577756 r578022 hx578035 ht578044 fq578059 bo578065 ht578066 r578068 fq578069 bo578075 ht578077 r578079 fq578080 bo578086 ht578088 r578092 fq578093 fq578094 he578096 hz578098 hz578099 hf578103 n578102 he578112 ez578116 (ht R c1 c2 c3 c4 c5 c6 c7 c8 c9 c10 c11 c12 c13 c14 c15 c16 c17))) (mz_up ez578116 (Int.le_trans bg577718''.2 (by decide)) hm74_577723)
                              · have r578118 : o578075.toInt ≠ 0 := gj_neq hc578078 (show Int32.toInt 0 = 0 by decide)
                                have bo578075' : gB o578075 1 1 := gB_t1 bo578075 r578118
                                refine G_aload_n 5 dr_cX17_weigh_153 rfl ?_
                                have fq578119 : fR (F577719 q407678) 5 = (γ 9 5) := by rw [he577731]; rfl
                                refine Gp_get 5 hm577732 he577731 dr_cX17_weigh_154 (gk_X17 D I) (Nat.le_of_ble_eq_true rfl) wr_7_79 rfl ?_
                                refine G_aload 0 dr_cX17_weigh_157 rfl ?_
                                have fq578120 : fI (F577719 q578034) 2 = p578049 := by rw [he578046]; rfl
                                refine Gp_get 2 hm578045 he578046 dr_cX17_weigh_159 (gk_X15 D I) (Nat.le_of_ble_eq_true rfl) wr_9_186 rfl ?_
                                refine G_dup2_11 dr_cX17_weigh_162 rfl rfl ?_
                                have hm578121 : (γ 9 5) ∈ P407676 := RS_m hT577720 ht407708 (by decide)
                                obtain ⟨f578123, he578122⟩ := show rk_17 I (F577719 (γ 9 5)) from RS_o hT577720 ht407708
                                refine Gp_iald 0 hm578121 he578122 dr_cX17_weigh_163 rfl (gB_inr (by omega) (by omega)) (G_nam fun z578124 hz578124 => ?_)
                                have bz578124 : gB z578124 (-2147483648) 2147483647 := gB_any z578124
                                refine G_iload_n 3 dr_cX17_weigh_164 rfl ?_
                                refine G_iadd dr_cX17_weigh_165 (G_nam fun z578125 hz578125 => ?_)
                                have bz578125 : gB z578125 (-2147483648) 2147483647 := gB_any z578125
                                refine Gp_iast 0 hm578121 he578122 dr_cX17_weigh_166 rfl (gB_inr (by omega) (by omega)) (fun F578126 e578127 n578128 => ?_)
                                obtain ⟨f578129, hf578129⟩ : ∃ z, z = upd f578123 p578049.toNatClampNeg z578125 := ⟨_, rfl⟩
                                rw [← hf578129] at e578127
                                have he578130 : F578126 q407679 = .inr (18, [.ref q575961, .ref q575962, .int p575963, .int p575964]) := (n578128 q407679 (rn_oa he577726 he578122)).trans he577726
                                have he578131 : F578126 q575961 = .inr (4, [.int p577135, .ref q577137, .int p577136]) := (n578128 q575961 (rn_oa he577727 he578122)).trans he577727
                                have he578132 : F578126 q577137 = .inl (I (.object "java/lang/Object"), n577151, .inr (.inr (.inr (.inr f577152)))) := (n578128 q577137 (rn_ref_num he577728 he578122)).trans he577728
                                have he578133 : F578126 q577154 = .inr (17, [.ref q577164, .ref q577165, .int p577166, .int p577167]) := (n578128 q577154 (rn_oa he577729 he578122)).trans he577729
                                have he578134 : F578126 q407678 = .inr (22, [.ref (γ 9 0), .ref (γ 9 1), .ref (γ 9 2), .ref (γ 9 3), .ref (γ 9 4), .ref (γ 9 5), .ref (γ 9 6), .ref (γ 9 7), .ref (γ 9 8), .int p407686, .int p407687, .int p407688, .int p407689, .int p407690, .int p407691, .ref (γ 9 15), .ref (γ 9 16), .ref (γ 9 17), .ref (γ 9 18), .ref (γ 9 19), .ref (γ 9 20), .ref (γ 9 21), .ref (γ 9 22), .int p407692, .int p407693, .int p407694, .int p407695, .int p407696, .ref q407684, .ref (γ 9 29), .int p407697, .ref (γ 9 31), .int p407698, .int p407699, .int p407700, .ref q407685]) := (n578128 q407678 (rn_oa he577731 he578122)).trans he577731
                                have he578135 : F578126 q577164 = .inr (4, [.int p577736, .ref q577738, .int p577737]) := (n578128 q577164 (rn_oa he577735 he578122)).trans he577735
                                have he578136 : F578126 q577738 = .inl (I (.object "java/lang/Object"), n578031, .inr (.inr (.inr (.inr f578032)))) := (n578128 q577738 (rn_ref_num r578025 he578122)).trans r578025
                                have he578137 : F578126 q578034 = .inr (20, [.int p578047, .int p578048, .int p578049, .int p578050, .int p578051, .int p578052, .int p578053]) := (n578128 q578034 (rn_oa he578046 he578122)).trans he578046
                                have he578138 : F578126 (γ 9 5) = .inl (I .int, 2000, .inl f578129) := e578127
                                have hs578139 : rStr γ [] F407677 F578126 := rStr_put hs577721 n578128 ht407708 (by decide)
                                have kp578140 : F578126 q407678 = F407677 q407678 := (n578128 q407678 (rn_ty htq407678 ht407708 (by decide))).trans x577722
                                have kp578141 : F578126 (γ 9 3) = F407677 (γ 9 3) := (n578128 (γ 9 3) (rn_ty ht407706 ht407708 (by decide))).trans x577723
                                refine G_aload 0 dr_cX17_weigh_167 rfl ?_
                                have hT578142 : RS D I P407676 F578126 γ el := RS_set hT577720 n578128 ht407708 (by decide) ⟨f578129, he578138⟩
                                have fq578143 : fI (F578126 q578034) 0 = p578047 := by rw [he578137]; rfl
                                have fq578144 : fI (F578126 q578034) 6 = p578053 := by rw [he578137]; rfl
                                refine Gw_callV (As := []) (gV_ok D I) (cp_1699_Row_usesB l hl0 D I P407676 F578126 q578034 p578047 p578048 p578049 p578050 p578051 p578052 p578053 hm578045 he578137 bp578047 bp578048 bp578051 bp578052 bp578053) dr_cX17_weigh_169 ⟨wr_10_196, wr_1_39, wr_10_199, by decide, rfl, (Nat.le_of_ble_eq_true rfl), (Nat.le_of_ble_eq_true rfl)⟩ wr_10_197 wr_10_198 hm578045 he578137 rfl (show 0 + 0 ≤ 0 by first | omega | decide) (show 0 + 0 ≤ 0 by first | omega | decide) (Nat.le_of_ble_eq_true rfl) (fun r578148 w578149 dc578145 ds578146 hp578147 => ?_) (fun _ _ _ _ _ z => z.elim)
                                obtain ⟨o578150, rfl, rfl, hdc, hds, bo578150, x578151, ht578152⟩ := hp578147
                                change G _ _ _ _ _ _ _ (.int o578150 :: _) _ _ _
                                refine G_widen (cs' := 0) (sl' := 0) (by omega) (by omega) ?_
                                refine G_if_eq 189 dr_cX17_weigh_172 (by decide +kernel) (fun hc578153 => ?_) (fun hc578153 => ?_)
                                · have r578154 : o578150.toInt = 0 := gj_eq hc578153 (show Int32.toInt 0 = 0 by decide)
                                  have bo578150' : gB o578150 0 0 := gB_t0 r578154
                                  obtain ⟨z578155, hz578155⟩ : ∃ z : Int32, z = g577718 + Int32.ofInt 1 := ⟨_, rfl⟩
                                  have ez578155 : z578155.toInt = g577718.toInt + 1 := gI_inc hz578155 (by decide) bg577718'' (by decide) (by decide)
                                  have bz578155 : gB z578155 1 1000000 := ⟨by omega, by omega⟩
                                  refine G_iinc (L' := [(5, .int z578155), (6, .ref q578034), (4, .ref q577154), (3, .int g577123), (2, .int g575948), (0, .ref q407678), (1, .ref q407679)]) z578155 1 dr_cX17_weigh_189 rfl hz578155.symm (Nat.le_of_ble_eq_true rfl) rfl ?_
                                  refine G_goto 74 dr_cX17_weigh_192 (by decide +kernel) ?_
                                  refine G_lv (L' := [(5, .int z578155), (4, .ref q577154), (3, .int g577123), (2, .int g575948), (0, .ref q407678), (1, .ref q407679)]) [0, 2, 3, 4, 5, 6] rfl ?_
                                  exact ih74_577723 F578126 z578155 (gB_w bz578155 (by decide) (by decide)) hT578142 hs578139 kp578140 kp578141 (fun k e1 ht => kt74_577724 k e1 (fun R c1 c2 c3 c4 c5 c6 c7 c8 c9 c10 c11 c12 c13 c14 c15 c16 c17 => c12 F577719 g577718 q577164 p577737 q578034 p578047 o578065 p578052 o578075 p578049 f578123 z578124 z578125 f578129 F578126 p578053 o578150 z578155 k e1 bg577718 hT577720 hs577721 x577722 x577723 fq577733 fq577744 fq577745 r577755 fq577756 r578022 hx578035 ht578044 fq578059 bo578065 ht578066 r578068 fq578069 bo578075 ht578077 r578118 fq578119 fq578120 he578122 hz578124 hz578125 hf578129 n578128 he578138 fq578143 fq578144 bo578150 ht578152 r578154 ez578155 (ht R c1 c2 c3 c4 c5 c6 c7 c8 c9 c10 c11 c12 c13 c14 c15 c16 c17))) (mz_up ez578155 (Int.le_trans bg577718''.2 (by decide)) hm74_577723)
                                · have r578156 : o578150.toInt ≠ 0 := gj_neq hc578153 (show Int32.toInt 0 = 0 by decide)
                                  have bo578150' : gB o578150 1 1 := gB_t1 bo578150 r578156
                                  refine G_aload_n 5 dr_cX17_weigh_175 rfl ?_
                                  have fq578157 : fR (F578126 q407678) 5 = (γ 9 5) := by rw [he578134]; rfl
                                  refine Gp_get 5 hm577732 he578134 dr_cX17_weigh_176 (gk_X17 D I) (Nat.le_of_ble_eq_true rfl) wr_7_79 rfl ?_
                                  refine G_aload 0 dr_cX17_weigh_179 rfl ?_
                                  have fq578158 : fI (F578126 q578034) 3 = p578050 := by rw [he578137]; rfl
                                  refine Gp_get 3 hm578045 he578137 dr_cX17_weigh_181 (gk_X15 D I) (Nat.le_of_ble_eq_true rfl) wr_9_190 rfl ?_
                                  refine G_dup2_11 dr_cX17_weigh_184 rfl rfl ?_
                                  refine Gp_iald 0 hm578121 he578138 dr_cX17_weigh_185 rfl (gB_inr (by omega) (by omega)) (G_nam fun z578159 hz578159 => ?_)
                                  have bz578159 : gB z578159 (-2147483648) 2147483647 := gB_any z578159
                                  refine G_iload_n 3 dr_cX17_weigh_186 rfl ?_
                                  refine G_iadd dr_cX17_weigh_187 (G_nam fun z578160 hz578160 => ?_)
                                  have bz578160 : gB z578160 (-2147483648) 2147483647 := gB_any z578160
                                  refine Gp_iast 0 hm578121 he578138 dr_cX17_weigh_188 rfl (gB_inr (by omega) (by omega)) (fun F578161 e578162 n578163 => ?_)
                                  obtain ⟨f578164, hf578164⟩ : ∃ z, z = upd f578129 p578050.toNatClampNeg z578160 := ⟨_, rfl⟩
                                  rw [← hf578164] at e578162
                                  have he578165 : F578161 q407679 = .inr (18, [.ref q575961, .ref q575962, .int p575963, .int p575964]) := (n578163 q407679 (rn_oa he578130 he578138)).trans he578130
                                  have he578166 : F578161 q575961 = .inr (4, [.int p577135, .ref q577137, .int p577136]) := (n578163 q575961 (rn_oa he578131 he578138)).trans he578131
                                  have he578167 : F578161 q577137 = .inl (I (.object "java/lang/Object"), n577151, .inr (.inr (.inr (.inr f577152)))) := (n578163 q577137 (rn_ref_num he578132 he578138)).trans he578132
                                  have he578168 : F578161 q577154 = .inr (17, [.ref q577164, .ref q577165, .int p577166, .int p577167]) := (n578163 q577154 (rn_oa he578133 he578138)).trans he578133
                                  have he578169 : F578161 q407678 = .inr (22, [.ref (γ 9 0), .ref (γ 9 1), .ref (γ 9 2), .ref (γ 9 3), .ref (γ 9 4), .ref (γ 9 5), .ref (γ 9 6), .ref (γ 9 7), .ref (γ 9 8), .int p407686, .int p407687, .int p407688, .int p407689, .int p407690, .int p407691, .ref (γ 9 15), .ref (γ 9 16), .ref (γ 9 17), .ref (γ 9 18), .ref (γ 9 19), .ref (γ 9 20), .ref (γ 9 21), .ref (γ 9 22), .int p407692, .int p407693, .int p407694, .int p407695, .int p407696, .ref q407684, .ref (γ 9 29), .int p407697, .ref (γ 9 31), .int p407698, .int p407699, .int p407700, .ref q407685]) := (n578163 q407678 (rn_oa he578134 he578138)).trans he578134
                                  have he578170 : F578161 q577164 = .inr (4, [.int p577736, .ref q577738, .int p577737]) := (n578163 q577164 (rn_oa he578135 he578138)).trans he578135
                                  have he578171 : F578161 q577738 = .inl (I (.object "java/lang/Object"), n578031, .inr (.inr (.inr (.inr f578032)))) := (n578163 q577738 (rn_ref_num he578136 he578138)).trans he578136
                                  have he578172 : F578161 q578034 = .inr (20, [.int p578047, .int p578048, .int p578049, .int p578050, .int p578051, .int p578052, .int p578053]) := (n578163 q578034 (rn_oa he578137 he578138)).trans he578137
                                  have he578173 : F578161 (γ 9 5) = .inl (I .int, 2000, .inl f578164) := e578162
                                  have hs578174 : rStr γ [] F407677 F578161 := rStr_put hs578139 n578163 ht407708 (by decide)
                                  have kp578175 : F578161 q407678 = F407677 q407678 := (n578163 q407678 (rn_ty htq407678 ht407708 (by decide))).trans kp578140
                                  have kp578176 : F578161 (γ 9 3) = F407677 (γ 9 3) := (n578163 (γ 9 3) (rn_ty ht407706 ht407708 (by decide))).trans kp578141
                                  obtain ⟨z578177, hz578177⟩ : ∃ z : Int32, z = g577718 + Int32.ofInt 1 := ⟨_, rfl⟩
                                  have ez578177 : z578177.toInt = g577718.toInt + 1 := gI_inc hz578177 (by decide) bg577718'' (by decide) (by decide)
                                  have bz578177 : gB z578177 1 1000000 := ⟨by omega, by omega⟩
                                  refine G_iinc (L' := [(5, .int z578177), (6, .ref q578034), (4, .ref q577154), (3, .int g577123), (2, .int g575948), (0, .ref q407678), (1, .ref q407679)]) z578177 1 dr_cX17_weigh_189 rfl hz578177.symm (Nat.le_of_ble_eq_true rfl) rfl ?_
                                  refine G_goto 74 dr_cX17_weigh_192 (by decide +kernel) ?_
                                  have hT578178 : RS D I P407676 F578161 γ el := RS_set hT578142 n578163 ht407708 (by decide) ⟨f578164, he578173⟩
                                  refine G_lv (L' := [(5, .int z578177), (4, .ref q577154), (3, .int g577123), (2, .int g575948), (0, .ref q407678), (1, .ref q407679)]) [0, 2, 3, 4, 5, 6] rfl ?_
                                  exact ih74_577723 F578161 z578177 (gB_w bz578177 (by decide) (by decide)) hT578178 hs578174 kp578175 kp578176 (fun k e1 ht => kt74_577724 k e1 (fun R c1 c2 c3 c4 c5 c6 c7 c8 c9 c10 c11 c12 c13 c14 c15 c16 c17 => c13 F577719 g577718 q577164 p577737 q578034 p578047 o578065 p578052 o578075 p578049 f578123 z578124 z578125 f578129 F578126 p578053 o578150 p578050 z578159 z578160 f578164 F578161 z578177 k e1 bg577718 hT577720 hs577721 x577722 x577723 fq577733 fq577744 fq577745 r577755 fq577756 r578022 hx578035 ht578044 fq578059 bo578065 ht578066 r578068 fq578069 bo578075 ht578077 r578118 fq578119 fq578120 he578122 hz578124 hz578125 hf578129 n578128 he578138 fq578143 fq578144 bo578150 ht578152 r578156 fq578157 fq578158 he578138 hz578159 hz578160 hf578164 n578163 he578173 ez578177 (ht R c1 c2 c3 c4 c5 c6 c7 c8 c9 c10 c11 c12 c13 c14 c15 c16 c17))) (mz_up ez578177 (Int.le_trans bg577718''.2 (by decide)) hm74_577723)
                            · have r578179 : o578065.toInt ≠ 0 := gj_neq hc578067 (show Int32.toInt 0 = 0 by decide)
                              have bo578065' : gB o578065 1 1 := gB_t1 bo578065 r578179
                              refine G_aload_n 5 dr_cX17_weigh_131 rfl ?_
                              have fq578180 : fR (F577719 q407678) 5 = (γ 9 5) := by rw [he577731]; rfl
                              refine Gp_get 5 hm577732 he577731 dr_cX17_weigh_132 (gk_X17 D I) (Nat.le_of_ble_eq_true rfl) wr_7_79 rfl ?_
                              refine G_aload 0 dr_cX17_weigh_135 rfl ?_
                              have fq578181 : fI (F577719 q578034) 1 = p578048 := by rw [he578046]; rfl
                              refine Gp_get 1 hm578045 he578046 dr_cX17_weigh_137 (gk_X15 D I) (Nat.le_of_ble_eq_true rfl) wr_9_182 rfl ?_
                              refine G_dup2_11 dr_cX17_weigh_140 rfl rfl ?_
                              have hm578182 : (γ 9 5) ∈ P407676 := RS_m hT577720 ht407708 (by decide)
                              obtain ⟨f578184, he578183⟩ := show rk_17 I (F577719 (γ 9 5)) from RS_o hT577720 ht407708
                              refine Gp_iald 0 hm578182 he578183 dr_cX17_weigh_141 rfl (gB_in bp578048 (by decide) (by decide)) (G_nam fun z578185 hz578185 => ?_)
                              have bz578185 : gB z578185 (-2147483648) 2147483647 := gB_any z578185
                              refine G_iload_n 3 dr_cX17_weigh_142 rfl ?_
                              refine G_iadd dr_cX17_weigh_143 (G_nam fun z578186 hz578186 => ?_)
                              have bz578186 : gB z578186 (-2147483648) 2147483647 := gB_any z578186
                              refine Gp_iast 0 hm578182 he578183 dr_cX17_weigh_144 rfl (gB_in bp578048 (by decide) (by decide)) (fun F578187 e578188 n578189 => ?_)
                              obtain ⟨f578190, hf578190⟩ : ∃ z, z = upd f578184 p578048.toNatClampNeg z578186 := ⟨_, rfl⟩
                              rw [← hf578190] at e578188
                              have he578191 : F578187 q407679 = .inr (18, [.ref q575961, .ref q575962, .int p575963, .int p575964]) := (n578189 q407679 (rn_oa he577726 he578183)).trans he577726
                              have he578192 : F578187 q575961 = .inr (4, [.int p577135, .ref q577137, .int p577136]) := (n578189 q575961 (rn_oa he577727 he578183)).trans he577727
                              have he578193 : F578187 q577137 = .inl (I (.object "java/lang/Object"), n577151, .inr (.inr (.inr (.inr f577152)))) := (n578189 q577137 (rn_ref_num he577728 he578183)).trans he577728
                              have he578194 : F578187 q577154 = .inr (17, [.ref q577164, .ref q577165, .int p577166, .int p577167]) := (n578189 q577154 (rn_oa he577729 he578183)).trans he577729
                              have he578195 : F578187 q407678 = .inr (22, [.ref (γ 9 0), .ref (γ 9 1), .ref (γ 9 2), .ref (γ 9 3), .ref (γ 9 4), .ref (γ 9 5), .ref (γ 9 6), .ref (γ 9 7), .ref (γ 9 8), .int p407686, .int p407687, .int p407688, .int p407689, .int p407690, .int p407691, .ref (γ 9 15), .ref (γ 9 16), .ref (γ 9 17), .ref (γ 9 18), .ref (γ 9 19), .ref (γ 9 20), .ref (γ 9 21), .ref (γ 9 22), .int p407692, .int p407693, .int p407694, .int p407695, .int p407696, .ref q407684, .ref (γ 9 29), .int p407697, .ref (γ 9 31), .int p407698, .int p407699, .int p407700, .ref q407685]) := (n578189 q407678 (rn_oa he577731 he578183)).trans he577731
                              have he578196 : F578187 q577164 = .inr (4, [.int p577736, .ref q577738, .int p577737]) := (n578189 q577164 (rn_oa he577735 he578183)).trans he577735
                              have he578197 : F578187 q577738 = .inl (I (.object "java/lang/Object"), n578031, .inr (.inr (.inr (.inr f578032)))) := (n578189 q577738 (rn_ref_num r578025 he578183)).trans r578025
                              have he578198 : F578187 q578034 = .inr (20, [.int p578047, .int p578048, .int p578049, .int p578050, .int p578051, .int p578052, .int p578053]) := (n578189 q578034 (rn_oa he578046 he578183)).trans he578046
                              have he578199 : F578187 (γ 9 5) = .inl (I .int, 2000, .inl f578190) := e578188
                              have hs578200 : rStr γ [] F407677 F578187 := rStr_put hs577721 n578189 ht407708 (by decide)
                              have kp578201 : F578187 q407678 = F407677 q407678 := (n578189 q407678 (rn_ty htq407678 ht407708 (by decide))).trans x577722
                              have kp578202 : F578187 (γ 9 3) = F407677 (γ 9 3) := (n578189 (γ 9 3) (rn_ty ht407706 ht407708 (by decide))).trans x577723
                              refine G_aload 0 dr_cX17_weigh_145 rfl ?_
                              have hT578203 : RS D I P407676 F578187 γ el := RS_set hT577720 n578189 ht407708 (by decide) ⟨f578190, he578199⟩
                              have fq578204 : fI (F578187 q578034) 0 = p578047 := by rw [he578198]; rfl
                              have fq578205 : fI (F578187 q578034) 5 = p578052 := by rw [he578198]; rfl
                              refine Gw_callV (As := []) (gV_ok D I) (cp_1675_Row_usesA l hl0 D I P407676 F578187 q578034 p578047 p578048 p578049 p578050 p578051 p578052 p578053 hm578045 he578198 bp578047 bp578048 bp578051 bp578052 bp578053) dr_cX17_weigh_147 ⟨wr_10_192, wr_1_39, wr_10_195, by decide, rfl, (Nat.le_of_ble_eq_true rfl), (Nat.le_of_ble_eq_true rfl)⟩ wr_10_193 wr_10_194 hm578045 he578198 rfl (show 0 + 0 ≤ 0 by first | omega | decide) (show 0 + 0 ≤ 0 by first | omega | decide) (Nat.le_of_ble_eq_true rfl) (fun r578209 w578210 dc578206 ds578207 hp578208 => ?_) (fun _ _ _ _ _ z => z.elim)
                              obtain ⟨o578211, rfl, rfl, hdc, hds, bo578211, x578212, ht578213⟩ := hp578208
                              change G _ _ _ _ _ _ _ (.int o578211 :: _) _ _ _
                              refine G_widen (cs' := 0) (sl' := 0) (by omega) (by omega) ?_
                              refine G_if_eq 167 dr_cX17_weigh_150 (by decide +kernel) (fun hc578214 => ?_) (fun hc578214 => ?_)
                              · have r578215 : o578211.toInt = 0 := gj_eq hc578214 (show Int32.toInt 0 = 0 by decide)
                                have bo578211' : gB o578211 0 0 := gB_t0 r578215
                                refine G_aload 0 dr_cX17_weigh_167 rfl ?_
                                have fq578216 : fI (F578187 q578034) 6 = p578053 := by rw [he578198]; rfl
                                refine Gw_callV (As := []) (gV_ok D I) (cp_1699_Row_usesB l hl0 D I P407676 F578187 q578034 p578047 p578048 p578049 p578050 p578051 p578052 p578053 hm578045 he578198 bp578047 bp578048 bp578051 bp578052 bp578053) dr_cX17_weigh_169 ⟨wr_10_196, wr_1_39, wr_10_199, by decide, rfl, (Nat.le_of_ble_eq_true rfl), (Nat.le_of_ble_eq_true rfl)⟩ wr_10_197 wr_10_198 hm578045 he578198 rfl (show 0 + 0 ≤ 0 by first | omega | decide) (show 0 + 0 ≤ 0 by first | omega | decide) (Nat.le_of_ble_eq_true rfl) (fun r578220 w578221 dc578217 ds578218 hp578219 => ?_) (fun _ _ _ _ _ z => z.elim)
                                obtain ⟨o578222, rfl, rfl, hdc, hds, bo578222, x578223, ht578224⟩ := hp578219
                                change G _ _ _ _ _ _ _ (.int o578222 :: _) _ _ _
                                refine G_widen (cs' := 0) (sl' := 0) (by omega) (by omega) ?_
                                refine G_if_eq 189 dr_cX17_weigh_172 (by decide +kernel) (fun hc578225 => ?_) (fun hc578225 => ?_)
                                · have r578226 : o578222.toInt = 0 := gj_eq hc578225 (show Int32.toInt 0 = 0 by decide)
                                  have bo578222' : gB o578222 0 0 := gB_t0 r578226
                                  obtain ⟨z578227, hz578227⟩ : ∃ z : Int32, z = g577718 + Int32.ofInt 1 := ⟨_, rfl⟩
                                  have ez578227 : z578227.toInt = g577718.toInt + 1 := gI_inc hz578227 (by decide) bg577718'' (by decide) (by decide)
                                  have bz578227 : gB z578227 1 1000000 := ⟨by omega, by omega⟩
                                  refine G_iinc (L' := [(5, .int z578227), (6, .ref q578034), (4, .ref q577154), (3, .int g577123), (2, .int g575948), (0, .ref q407678), (1, .ref q407679)]) z578227 1 dr_cX17_weigh_189 rfl hz578227.symm (Nat.le_of_ble_eq_true rfl) rfl ?_
                                  refine G_goto 74 dr_cX17_weigh_192 (by decide +kernel) ?_
                                  refine G_lv (L' := [(5, .int z578227), (4, .ref q577154), (3, .int g577123), (2, .int g575948), (0, .ref q407678), (1, .ref q407679)]) [0, 2, 3, 4, 5, 6] rfl ?_
                                  exact ih74_577723 F578187 z578227 (gB_w bz578227 (by decide) (by decide)) hT578203 hs578200 kp578201 kp578202 (fun k e1 ht => kt74_577724 k e1 (fun R c1 c2 c3 c4 c5 c6 c7 c8 c9 c10 c11 c12 c13 c14 c15 c16 c17 => c14 F577719 g577718 q577164 p577737 q578034 p578047 o578065 p578048 f578184 z578185 z578186 f578190 F578187 p578052 o578211 p578053 o578222 z578227 k e1 bg577718 hT577720 hs577721 x577722 x577723 fq577733 fq577744 fq577745 r577755 fq577756 r578022 hx578035 ht578044 fq578059 bo578065 ht578066 r578179 fq578180 fq578181 he578183 hz578185 hz578186 hf578190 n578189 he578199 fq578204 fq578205 bo578211 ht578213 r578215 fq578216 bo578222 ht578224 r578226 ez578227 (ht R c1 c2 c3 c4 c5 c6 c7 c8 c9 c10 c11 c12 c13 c14 c15 c16 c17))) (mz_up ez578227 (Int.le_trans bg577718''.2 (by decide)) hm74_577723)
                                · have r578228 : o578222.toInt ≠ 0 := gj_neq hc578225 (show Int32.toInt 0 = 0 by decide)
                                  have bo578222' : gB o578222 1 1 := gB_t1 bo578222 r578228
                                  refine G_aload_n 5 dr_cX17_weigh_175 rfl ?_
                                  have fq578229 : fR (F578187 q407678) 5 = (γ 9 5) := by rw [he578195]; rfl
                                  refine Gp_get 5 hm577732 he578195 dr_cX17_weigh_176 (gk_X17 D I) (Nat.le_of_ble_eq_true rfl) wr_7_79 rfl ?_
                                  refine G_aload 0 dr_cX17_weigh_179 rfl ?_
                                  have fq578230 : fI (F578187 q578034) 3 = p578050 := by rw [he578198]; rfl
                                  refine Gp_get 3 hm578045 he578198 dr_cX17_weigh_181 (gk_X15 D I) (Nat.le_of_ble_eq_true rfl) wr_9_190 rfl ?_
                                  refine G_dup2_11 dr_cX17_weigh_184 rfl rfl ?_
                                  refine Gp_iald 0 hm578182 he578199 dr_cX17_weigh_185 rfl (gB_inr (by omega) (by omega)) (G_nam fun z578231 hz578231 => ?_)
                                  have bz578231 : gB z578231 (-2147483648) 2147483647 := gB_any z578231
                                  refine G_iload_n 3 dr_cX17_weigh_186 rfl ?_
                                  refine G_iadd dr_cX17_weigh_187 (G_nam fun z578232 hz578232 => ?_)
                                  have bz578232 : gB z578232 (-2147483648) 2147483647 := gB_any z578232
                                  refine Gp_iast 0 hm578182 he578199 dr_cX17_weigh_188 rfl (gB_inr (by omega) (by omega)) (fun F578233 e578234 n578235 => ?_)
                                  obtain ⟨f578236, hf578236⟩ : ∃ z, z = upd f578190 p578050.toNatClampNeg z578232 := ⟨_, rfl⟩
                                  rw [← hf578236] at e578234
                                  have he578237 : F578233 q407679 = .inr (18, [.ref q575961, .ref q575962, .int p575963, .int p575964]) := (n578235 q407679 (rn_oa he578191 he578199)).trans he578191
                                  have he578238 : F578233 q575961 = .inr (4, [.int p577135, .ref q577137, .int p577136]) := (n578235 q575961 (rn_oa he578192 he578199)).trans he578192
                                  have he578239 : F578233 q577137 = .inl (I (.object "java/lang/Object"), n577151, .inr (.inr (.inr (.inr f577152)))) := (n578235 q577137 (rn_ref_num he578193 he578199)).trans he578193
                                  have he578240 : F578233 q577154 = .inr (17, [.ref q577164, .ref q577165, .int p577166, .int p577167]) := (n578235 q577154 (rn_oa he578194 he578199)).trans he578194
                                  have he578241 : F578233 q407678 = .inr (22, [.ref (γ 9 0), .ref (γ 9 1), .ref (γ 9 2), .ref (γ 9 3), .ref (γ 9 4), .ref (γ 9 5), .ref (γ 9 6), .ref (γ 9 7), .ref (γ 9 8), .int p407686, .int p407687, .int p407688, .int p407689, .int p407690, .int p407691, .ref (γ 9 15), .ref (γ 9 16), .ref (γ 9 17), .ref (γ 9 18), .ref (γ 9 19), .ref (γ 9 20), .ref (γ 9 21), .ref (γ 9 22), .int p407692, .int p407693, .int p407694, .int p407695, .int p407696, .ref q407684, .ref (γ 9 29), .int p407697, .ref (γ 9 31), .int p407698, .int p407699, .int p407700, .ref q407685]) := (n578235 q407678 (rn_oa he578195 he578199)).trans he578195
                                  have he578242 : F578233 q577164 = .inr (4, [.int p577736, .ref q577738, .int p577737]) := (n578235 q577164 (rn_oa he578196 he578199)).trans he578196
                                  have he578243 : F578233 q577738 = .inl (I (.object "java/lang/Object"), n578031, .inr (.inr (.inr (.inr f578032)))) := (n578235 q577738 (rn_ref_num he578197 he578199)).trans he578197
                                  have he578244 : F578233 q578034 = .inr (20, [.int p578047, .int p578048, .int p578049, .int p578050, .int p578051, .int p578052, .int p578053]) := (n578235 q578034 (rn_oa he578198 he578199)).trans he578198
                                  have he578245 : F578233 (γ 9 5) = .inl (I .int, 2000, .inl f578236) := e578234
                                  have hs578246 : rStr γ [] F407677 F578233 := rStr_put hs578200 n578235 ht407708 (by decide)
                                  have kp578247 : F578233 q407678 = F407677 q407678 := (n578235 q407678 (rn_ty htq407678 ht407708 (by decide))).trans kp578201
                                  have kp578248 : F578233 (γ 9 3) = F407677 (γ 9 3) := (n578235 (γ 9 3) (rn_ty ht407706 ht407708 (by decide))).trans kp578202
                                  obtain ⟨z578249, hz578249⟩ : ∃ z : Int32, z = g577718 + Int32.ofInt 1 := ⟨_, rfl⟩
                                  have ez578249 : z578249.toInt = g577718.toInt + 1 := gI_inc hz578249 (by decide) bg577718'' (by decide) (by decide)
                                  have bz578249 : gB z578249 1 1000000 := ⟨by omega, by omega⟩
                                  refine G_iinc (L' := [(5, .int z578249), (6, .ref q578034), (4, .ref q577154), (3, .int g577123), (2, .int g575948), (0, .ref q407678), (1, .ref q407679)]) z578249 1 dr_cX17_weigh_189 rfl hz578249.symm (Nat.le_of_ble_eq_true rfl) rfl ?_
                                  refine G_goto 74 dr_cX17_weigh_192 (by decide +kernel) ?_
                                  have hT578250 : RS D I P407676 F578233 γ el := RS_set hT578203 n578235 ht407708 (by decide) ⟨f578236, he578245⟩
                                  refine G_lv (L' := [(5, .int z578249), (4, .ref q577154), (3, .int g577123), (2, .int g575948), (0, .ref q407678), (1, .ref q407679)]) [0, 2, 3, 4, 5, 6] rfl ?_
                                  exact ih74_577723 F578233 z578249 (gB_w bz578249 (by decide) (by decide)) hT578250 hs578246 kp578247 kp578248 (fun k e1 ht => kt74_577724 k e1 (fun R c1 c2 c3 c4 c5 c6 c7 c8 c9 c10 c11 c12 c13 c14 c15 c16 c17 => c15 F577719 g577718 q577164 p577737 q578034 p578047 o578065 p578048 f578184 z578185 z578186 f578190 F578187 p578052 o578211 p578053 o578222 p578050 z578231 z578232 f578236 F578233 z578249 k e1 bg577718 hT577720 hs577721 x577722 x577723 fq577733 fq577744 fq577745 r577755 fq577756 r578022 hx578035 ht578044 fq578059 bo578065 ht578066 r578179 fq578180 fq578181 he578183 hz578185 hz578186 hf578190 n578189 he578199 fq578204 fq578205 bo578211 ht578213 r578215 fq578216 bo578222 ht578224 r578228 fq578229 fq578230 he578199 hz578231 hz578232 hf578236 n578235 he578245 ez578249 (ht R c1 c2 c3 c4 c5 c6 c7 c8 c9 c10 c11 c12 c13 c14 c15 c16 c17))) (mz_up ez578249 (Int.le_trans bg577718''.2 (by decide)) hm74_577723)
                              · have r578251 : o578211.toInt ≠ 0 := gj_neq hc578214 (show Int32.toInt 0 = 0 by decide)
                                have bo578211' : gB o578211 1 1 := gB_t1 bo578211 r578251
                                refine G_aload_n 5 dr_cX17_weigh_153 rfl ?_
                                have fq578252 : fR (F578187 q407678) 5 = (γ 9 5) := by rw [he578195]; rfl
                                refine Gp_get 5 hm577732 he578195 dr_cX17_weigh_154 (gk_X17 D I) (Nat.le_of_ble_eq_true rfl) wr_7_79 rfl ?_
                                refine G_aload 0 dr_cX17_weigh_157 rfl ?_
                                have fq578253 : fI (F578187 q578034) 2 = p578049 := by rw [he578198]; rfl
                                refine Gp_get 2 hm578045 he578198 dr_cX17_weigh_159 (gk_X15 D I) (Nat.le_of_ble_eq_true rfl) wr_9_186 rfl ?_
                                refine G_dup2_11 dr_cX17_weigh_162 rfl rfl ?_
                                refine Gp_iald 0 hm578182 he578199 dr_cX17_weigh_163 rfl (gB_inr (by omega) (by omega)) (G_nam fun z578254 hz578254 => ?_)
                                have bz578254 : gB z578254 (-2147483648) 2147483647 := gB_any z578254
                                refine G_iload_n 3 dr_cX17_weigh_164 rfl ?_
                                refine G_iadd dr_cX17_weigh_165 (G_nam fun z578255 hz578255 => ?_)
                                have bz578255 : gB z578255 (-2147483648) 2147483647 := gB_any z578255
                                refine Gp_iast 0 hm578182 he578199 dr_cX17_weigh_166 rfl (gB_inr (by omega) (by omega)) (fun F578256 e578257 n578258 => ?_)
                                obtain ⟨f578259, hf578259⟩ : ∃ z, z = upd f578190 p578049.toNatClampNeg z578255 := ⟨_, rfl⟩
                                rw [← hf578259] at e578257
                                have he578260 : F578256 q407679 = .inr (18, [.ref q575961, .ref q575962, .int p575963, .int p575964]) := (n578258 q407679 (rn_oa he578191 he578199)).trans he578191
                                have he578261 : F578256 q575961 = .inr (4, [.int p577135, .ref q577137, .int p577136]) := (n578258 q575961 (rn_oa he578192 he578199)).trans he578192
                                have he578262 : F578256 q577137 = .inl (I (.object "java/lang/Object"), n577151, .inr (.inr (.inr (.inr f577152)))) := (n578258 q577137 (rn_ref_num he578193 he578199)).trans he578193
                                have he578263 : F578256 q577154 = .inr (17, [.ref q577164, .ref q577165, .int p577166, .int p577167]) := (n578258 q577154 (rn_oa he578194 he578199)).trans he578194
                                have he578264 : F578256 q407678 = .inr (22, [.ref (γ 9 0), .ref (γ 9 1), .ref (γ 9 2), .ref (γ 9 3), .ref (γ 9 4), .ref (γ 9 5), .ref (γ 9 6), .ref (γ 9 7), .ref (γ 9 8), .int p407686, .int p407687, .int p407688, .int p407689, .int p407690, .int p407691, .ref (γ 9 15), .ref (γ 9 16), .ref (γ 9 17), .ref (γ 9 18), .ref (γ 9 19), .ref (γ 9 20), .ref (γ 9 21), .ref (γ 9 22), .int p407692, .int p407693, .int p407694, .int p407695, .int p407696, .ref q407684, .ref (γ 9 29), .int p407697, .ref (γ 9 31), .int p407698, .int p407699, .int p407700, .ref q407685]) := (n578258 q407678 (rn_oa he578195 he578199)).trans he578195
                                have he578265 : F578256 q577164 = .inr (4, [.int p577736, .ref q577738, .int p577737]) := (n578258 q577164 (rn_oa he578196 he578199)).trans he578196
                                have he578266 : F578256 q577738 = .inl (I (.object "java/lang/Object"), n578031, .inr (.inr (.inr (.inr f578032)))) := (n578258 q577738 (rn_ref_num he578197 he578199)).trans he578197
                                have he578267 : F578256 q578034 = .inr (20, [.int p578047, .int p578048, .int p578049, .int p578050, .int p578051, .int p578052, .int p578053]) := (n578258 q578034 (rn_oa he578198 he578199)).trans he578198
                                have he578268 : F578256 (γ 9 5) = .inl (I .int, 2000, .inl f578259) := e578257
                                have hs578269 : rStr γ [] F407677 F578256 := rStr_put hs578200 n578258 ht407708 (by decide)
                                have kp578270 : F578256 q407678 = F407677 q407678 := (n578258 q407678 (rn_ty htq407678 ht407708 (by decide))).trans kp578201
                                have kp578271 : F578256 (γ 9 3) = F407677 (γ 9 3) := (n578258 (γ 9 3) (rn_ty ht407706 ht407708 (by decide))).trans kp578202
                                refine G_aload 0 dr_cX17_weigh_167 rfl ?_
                                have hT578272 : RS D I P407676 F578256 γ el := RS_set hT578203 n578258 ht407708 (by decide) ⟨f578259, he578268⟩
                                have fq578273 : fI (F578256 q578034) 0 = p578047 := by rw [he578267]; rfl
                                have fq578274 : fI (F578256 q578034) 6 = p578053 := by rw [he578267]; rfl
                                refine Gw_callV (As := []) (gV_ok D I) (cp_1699_Row_usesB l hl0 D I P407676 F578256 q578034 p578047 p578048 p578049 p578050 p578051 p578052 p578053 hm578045 he578267 bp578047 bp578048 bp578051 bp578052 bp578053) dr_cX17_weigh_169 ⟨wr_10_196, wr_1_39, wr_10_199, by decide, rfl, (Nat.le_of_ble_eq_true rfl), (Nat.le_of_ble_eq_true rfl)⟩ wr_10_197 wr_10_198 hm578045 he578267 rfl (show 0 + 0 ≤ 0 by first | omega | decide) (show 0 + 0 ≤ 0 by first | omega | decide) (Nat.le_of_ble_eq_true rfl) (fun r578278 w578279 dc578275 ds578276 hp578277 => ?_) (fun _ _ _ _ _ z => z.elim)
                                obtain ⟨o578280, rfl, rfl, hdc, hds, bo578280, x578281, ht578282⟩ := hp578277
                                change G _ _ _ _ _ _ _ (.int o578280 :: _) _ _ _
                                refine G_widen (cs' := 0) (sl' := 0) (by omega) (by omega) ?_
                                refine G_if_eq 189 dr_cX17_weigh_172 (by decide +kernel) (fun hc578283 => ?_) (fun hc578283 => ?_)
                                · have r578284 : o578280.toInt = 0 := gj_eq hc578283 (show Int32.toInt 0 = 0 by decide)
                                  have bo578280' : gB o578280 0 0 := gB_t0 r578284
                                  obtain ⟨z578285, hz578285⟩ : ∃ z : Int32, z = g577718 + Int32.ofInt 1 := ⟨_, rfl⟩
                                  have ez578285 : z578285.toInt = g577718.toInt + 1 := gI_inc hz578285 (by decide) bg577718'' (by decide) (by decide)
                                  have bz578285 : gB z578285 1 1000000 := ⟨by omega, by omega⟩
                                  refine G_iinc (L' := [(5, .int z578285), (6, .ref q578034), (4, .ref q577154), (3, .int g577123), (2, .int g575948), (0, .ref q407678), (1, .ref q407679)]) z578285 1 dr_cX17_weigh_189 rfl hz578285.symm (Nat.le_of_ble_eq_true rfl) rfl ?_
                                  refine G_goto 74 dr_cX17_weigh_192 (by decide +kernel) ?_
                                  refine G_lv (L' := [(5, .int z578285), (4, .ref q577154), (3, .int g577123), (2, .int g575948), (0, .ref q407678), (1, .ref q407679)]) [0, 2, 3, 4, 5, 6] rfl ?_
                                  exact ih74_577723 F578256 z578285 (gB_w bz578285 (by decide) (by decide)) hT578272 hs578269 kp578270 kp578271 (fun k e1 ht => kt74_577724 k e1 (fun R c1 c2 c3 c4 c5 c6 c7 c8 c9 c10 c11 c12 c13 c14 c15 c16 c17 => c16 F577719 g577718 q577164 p577737 q578034 p578047 o578065 p578048 f578184 z578185 z578186 f578190 F578187 p578052 o578211 p578049 z578254 z578255 f578259 F578256 p578053 o578280 z578285 k e1 bg577718 hT577720 hs577721 x577722 x577723 fq577733 fq577744 fq577745 r577755 fq577756 r578022 hx578035 ht578044 fq578059 bo578065 ht578066 r578179 fq578180 fq578181 he578183 hz578185 hz578186 hf578190 n578189 he578199 fq578204 fq578205 bo578211 ht578213 r578251 fq578252 fq578253 he578199 hz578254 hz578255 hf578259 n578258 he578268 fq578273 fq578274 bo578280 ht578282 r578284 ez578285 (ht R c1 c2 c3 c4 c5 c6 c7 c8 c9 c10 c11 c12 c13 c14 c15 c16 c17))) (mz_up ez578285 (Int.le_trans bg577718''.2 (by decide)) hm74_577723)
                                · have r578286 : o578280.toInt ≠ 0 := gj_neq hc578283 (show Int32.toInt 0 = 0 by decide)
                                  have bo578280' : gB o578280 1 1 := gB_t1 bo578280 r578286
                                  refine G_aload_n 5 dr_cX17_weigh_175 rfl ?_
                                  have fq578287 : fR (F578256 q407678) 5 = (γ 9 5) := by rw [he578264]; rfl
                                  refine Gp_get 5 hm577732 he578264 dr_cX17_weigh_176 (gk_X17 D I) (Nat.le_of_ble_eq_true rfl) wr_7_79 rfl ?_
                                  refine G_aload 0 dr_cX17_weigh_179 rfl ?_
                                  have fq578288 : fI (F578256 q578034) 3 = p578050 := by rw [he578267]; rfl
                                  refine Gp_get 3 hm578045 he578267 dr_cX17_weigh_181 (gk_X15 D I) (Nat.le_of_ble_eq_true rfl) wr_9_190 rfl ?_
                                  refine G_dup2_11 dr_cX17_weigh_184 rfl rfl ?_
                                  refine Gp_iald 0 hm578182 he578268 dr_cX17_weigh_185 rfl (gB_inr (by omega) (by omega)) (G_nam fun z578289 hz578289 => ?_)
                                  have bz578289 : gB z578289 (-2147483648) 2147483647 := gB_any z578289
                                  refine G_iload_n 3 dr_cX17_weigh_186 rfl ?_
                                  refine G_iadd dr_cX17_weigh_187 (G_nam fun z578290 hz578290 => ?_)
                                  have bz578290 : gB z578290 (-2147483648) 2147483647 := gB_any z578290
                                  refine Gp_iast 0 hm578182 he578268 dr_cX17_weigh_188 rfl (gB_inr (by omega) (by omega)) (fun F578291 e578292 n578293 => ?_)
                                  obtain ⟨f578294, hf578294⟩ : ∃ z, z = upd f578259 p578050.toNatClampNeg z578290 := ⟨_, rfl⟩
                                  rw [← hf578294] at e578292
                                  have he578295 : F578291 q407679 = .inr (18, [.ref q575961, .ref q575962, .int p575963, .int p575964]) := (n578293 q407679 (rn_oa he578260 he578268)).trans he578260
                                  have he578296 : F578291 q575961 = .inr (4, [.int p577135, .ref q577137, .int p577136]) := (n578293 q575961 (rn_oa he578261 he578268)).trans he578261
                                  have he578297 : F578291 q577137 = .inl (I (.object "java/lang/Object"), n577151, .inr (.inr (.inr (.inr f577152)))) := (n578293 q577137 (rn_ref_num he578262 he578268)).trans he578262
                                  have he578298 : F578291 q577154 = .inr (17, [.ref q577164, .ref q577165, .int p577166, .int p577167]) := (n578293 q577154 (rn_oa he578263 he578268)).trans he578263
                                  have he578299 : F578291 q407678 = .inr (22, [.ref (γ 9 0), .ref (γ 9 1), .ref (γ 9 2), .ref (γ 9 3), .ref (γ 9 4), .ref (γ 9 5), .ref (γ 9 6), .ref (γ 9 7), .ref (γ 9 8), .int p407686, .int p407687, .int p407688, .int p407689, .int p407690, .int p407691, .ref (γ 9 15), .ref (γ 9 16), .ref (γ 9 17), .ref (γ 9 18), .ref (γ 9 19), .ref (γ 9 20), .ref (γ 9 21), .ref (γ 9 22), .int p407692, .int p407693, .int p407694, .int p407695, .int p407696, .ref q407684, .ref (γ 9 29), .int p407697, .ref (γ 9 31), .int p407698, .int p407699, .int p407700, .ref q407685]) := (n578293 q407678 (rn_oa he578264 he578268)).trans he578264
                                  have he578300 : F578291 q577164 = .inr (4, [.int p577736, .ref q577738, .int p577737]) := (n578293 q577164 (rn_oa he578265 he578268)).trans he578265
                                  have he578301 : F578291 q577738 = .inl (I (.object "java/lang/Object"), n578031, .inr (.inr (.inr (.inr f578032)))) := (n578293 q577738 (rn_ref_num he578266 he578268)).trans he578266
                                  have he578302 : F578291 q578034 = .inr (20, [.int p578047, .int p578048, .int p578049, .int p578050, .int p578051, .int p578052, .int p578053]) := (n578293 q578034 (rn_oa he578267 he578268)).trans he578267
                                  have he578303 : F578291 (γ 9 5) = .inl (I .int, 2000, .inl f578294) := e578292
                                  have hs578304 : rStr γ [] F407677 F578291 := rStr_put hs578269 n578293 ht407708 (by decide)
                                  have kp578305 : F578291 q407678 = F407677 q407678 := (n578293 q407678 (rn_ty htq407678 ht407708 (by decide))).trans kp578270
                                  have kp578306 : F578291 (γ 9 3) = F407677 (γ 9 3) := (n578293 (γ 9 3) (rn_ty ht407706 ht407708 (by decide))).trans kp578271
                                  obtain ⟨z578307, hz578307⟩ : ∃ z : Int32, z = g577718 + Int32.ofInt 1 := ⟨_, rfl⟩
                                  have ez578307 : z578307.toInt = g577718.toInt + 1 := gI_inc hz578307 (by decide) bg577718'' (by decide) (by decide)
                                  have bz578307 : gB z578307 1 1000000 := ⟨by omega, by omega⟩
                                  refine G_iinc (L' := [(5, .int z578307), (6, .ref q578034), (4, .ref q577154), (3, .int g577123), (2, .int g575948), (0, .ref q407678), (1, .ref q407679)]) z578307 1 dr_cX17_weigh_189 rfl hz578307.symm (Nat.le_of_ble_eq_true rfl) rfl ?_
                                  refine G_goto 74 dr_cX17_weigh_192 (by decide +kernel) ?_
                                  have hT578308 : RS D I P407676 F578291 γ el := RS_set hT578272 n578293 ht407708 (by decide) ⟨f578294, he578303⟩
                                  refine G_lv (L' := [(5, .int z578307), (4, .ref q577154), (3, .int g577123), (2, .int g575948), (0, .ref q407678), (1, .ref q407679)]) [0, 2, 3, 4, 5, 6] rfl ?_
                                  exact ih74_577723 F578291 z578307 (gB_w bz578307 (by decide) (by decide)) hT578308 hs578304 kp578305 kp578306 (fun k e1 ht => kt74_577724 k e1 (fun R c1 c2 c3 c4 c5 c6 c7 c8 c9 c10 c11 c12 c13 c14 c15 c16 c17 => c17 F577719 g577718 q577164 p577737 q578034 p578047 o578065 p578048 f578184 z578185 z578186 f578190 F578187 p578052 o578211 p578049 z578254 z578255 f578259 F578256 p578053 o578280 p578050 z578289 z578290 f578294 F578291 z578307 k e1 bg577718 hT577720 hs577721 x577722 x577723 fq577733 fq577744 fq577745 r577755 fq577756 r578022 hx578035 ht578044 fq578059 bo578065 ht578066 r578179 fq578180 fq578181 he578183 hz578185 hz578186 hf578190 n578189 he578199 fq578204 fq578205 bo578211 ht578213 r578251 fq578252 fq578253 he578199 hz578254 hz578255 hf578259 n578258 he578268 fq578273 fq578274 bo578280 ht578282 r578286 fq578287 fq578288 he578268 hz578289 hz578290 hf578294 n578293 he578303 ez578307 (ht R c1 c2 c3 c4 c5 c6 c7 c8 c9 c10 c11 c12 c13 c14 c15 c16 c17))) (mz_up ez578307 (Int.le_trans bg577718''.2 (by decide)) hm74_577723)
                    exact hlp74_577723 (((1000002 : Int) - 0).toNat + 1) F575949 0 (gB_w (gBl (show Int32.toInt 0 = 0 by decide)) (by decide) (by decide)) hT575950 hs575951 x575952 x575953 (fun k e1 ht => ht) (Nat.lt_succ_self _)
                  · have r578309 : g577122.toInt < z577129.toInt := gC_nle hc577130
                    have bg577122' : gB g577122 0 2147483646 := ⟨by omega, by omega⟩
                    have bz577129' : gB z577129 1 2147483647 := ⟨by omega, by omega⟩
                    refine G_iload_n 1 dr_cX17_weigh_53 rfl ?_
                    refine G_bipush 10 dr_cX17_weigh_54 (by decide +kernel) ?_
                    refine G_imul dr_cX17_weigh_56 (G_nam fun z578310 hz578310 => ?_)
                    have bz578310 : gB z578310 (-2147483648) 2147483647 := gB_any z578310
                    refine G_istore_n (L' := [(3, .int z578310), (4, .int g577122), (2, .int g575948), (0, .ref q407678), (1, .ref q407679)]) dr_cX17_weigh_57 (Nat.le_of_ble_eq_true rfl) rfl ?_
                    obtain ⟨z578311, hz578311⟩ : ∃ z : Int32, z = g577122 + Int32.ofInt 1 := ⟨_, rfl⟩
                    have ez578311 : z578311.toInt = g577122.toInt + 1 := gI_inc hz578311 (by decide) bg577122' (by decide) (by decide)
                    have bz578311 : gB z578311 1 2147483647 := ⟨by omega, by omega⟩
                    refine G_iinc (L' := [(4, .int z578311), (3, .int z578310), (2, .int g575948), (0, .ref q407678), (1, .ref q407679)]) z578311 1 dr_cX17_weigh_58 rfl hz578311.symm (Nat.le_of_ble_eq_true rfl) rfl ?_
                    refine G_goto 42 dr_cX17_weigh_61 (by decide +kernel) ?_
                    exact ih42_577123 z578311 z578310 (gB_w bz578311 (by decide) (by decide)) (fun k e1 ht => kt42_577124 k e1 (fun R c1 c2 => c2 g577122 g577123 f577128 z577129 z578310 z578311 k e1 bg577122 fq577125 he577127 hz577129 r578309 hz578310 ez578311 (ht R c1 c2))) (mz_up ez578311 (Int.le_trans bg577122'.2 (by decide)) hm42_577123)
              exact hlp42_577123 (((2147483648 : Int) - 0).toNat + 1) 0 1 (gB_w (gBl (show Int32.toInt 0 = 0 by decide)) (by decide) (by decide)) (fun k e1 ht => ht) (Nat.lt_succ_self _)
        exact hlp29_575953 (((1000001 : Int) - 0).toNat + 1) F573634 0 (gB_w (gBl (show Int32.toInt 0 = 0 by decide)) (by decide) (by decide)) hT573635 hs573636 x573637 x573638 (fun k e1 ht => ht) (Nat.lt_succ_self _)
      · have r578312 : g573633.toInt < 2000 := gj_nleL hc573644 (show Int32.toInt 2000 = 2000 by decide)
        have bg573633' : gB g573633 0 1999 := ⟨by omega, by omega⟩
        refine G_aload_n 1 dr_cX17_weigh_14 rfl ?_
        have fq578313 : fR (F573634 q407678) 5 = (γ 9 5) := by rw [he573642]; rfl
        refine Gp_get 5 hm573643 he573642 dr_cX17_weigh_15 (gk_X17 D I) (Nat.le_of_ble_eq_true rfl) wr_7_79 rfl ?_
        refine G_iload_n 0 dr_cX17_weigh_18 rfl ?_
        refine G_iconst 0 dr_cX17_weigh_19 (by decide +kernel) ?_
        have hm578314 : (γ 9 5) ∈ P407676 := RS_m hT573635 ht407708 (by decide)
        obtain ⟨f578316, he578315⟩ := show rk_17 I (F573634 (γ 9 5)) from RS_o hT573635 ht407708
        refine Gp_iast 0 hm578314 he578315 dr_cX17_weigh_20 rfl (gB_in bg573633' (by decide) (by decide)) (fun F578317 e578318 n578319 => ?_)
        obtain ⟨f578320, hf578320⟩ : ∃ z, z = upd f578316 g573633.toNatClampNeg 0 := ⟨_, rfl⟩
        rw [← hf578320] at e578318
        have he578321 : F578317 q407678 = .inr (22, [.ref (γ 9 0), .ref (γ 9 1), .ref (γ 9 2), .ref (γ 9 3), .ref (γ 9 4), .ref (γ 9 5), .ref (γ 9 6), .ref (γ 9 7), .ref (γ 9 8), .int p407686, .int p407687, .int p407688, .int p407689, .int p407690, .int p407691, .ref (γ 9 15), .ref (γ 9 16), .ref (γ 9 17), .ref (γ 9 18), .ref (γ 9 19), .ref (γ 9 20), .ref (γ 9 21), .ref (γ 9 22), .int p407692, .int p407693, .int p407694, .int p407695, .int p407696, .ref q407684, .ref (γ 9 29), .int p407697, .ref (γ 9 31), .int p407698, .int p407699, .int p407700, .ref q407685]) := (n578319 q407678 (rn_oa he573642 he578315)).trans he573642
        have he578322 : F578317 (γ 9 5) = .inl (I .int, 2000, .inl f578320) := e578318
        have hs578323 : rStr γ [] F407677 F578317 := rStr_put hs573636 n578319 ht407708 (by decide)
        have kp578324 : F578317 q407678 = F407677 q407678 := (n578319 q407678 (rn_ty htq407678 ht407708 (by decide))).trans x573637
        have kp578325 : F578317 (γ 9 3) = F407677 (γ 9 3) := (n578319 (γ 9 3) (rn_ty ht407706 ht407708 (by decide))).trans x573638
        obtain ⟨z578326, hz578326⟩ : ∃ z : Int32, z = g573633 + Int32.ofInt 1 := ⟨_, rfl⟩
        have ez578326 : z578326.toInt = g573633.toInt + 1 := gI_inc hz578326 (by decide) bg573633' (by decide) (by decide)
        have bz578326 : gB z578326 1 2000 := ⟨by omega, by omega⟩
        refine G_iinc (L' := [(2, .int z578326), (0, .ref q407678), (1, .ref q407679)]) z578326 0 dr_cX17_weigh_21 rfl hz578326.symm (Nat.le_of_ble_eq_true rfl) rfl ?_
        refine G_goto 7 dr_cX17_weigh_24 (by decide +kernel) ?_
        have hT578327 : RS D I P407676 F578317 γ el := RS_set hT573635 n578319 ht407708 (by decide) ⟨f578320, he578322⟩
        exact ih7_573638 F578317 z578326 (gB_w bz578326 (by decide) (by decide)) hT578327 hs578323 kp578324 kp578325 (fun k e1 ht => kt7_573639 k e1 (fun R c1 c2 => c2 F573634 g573633 f578316 f578320 F578317 z578326 k e1 bg573633 hT573635 hs573636 x573637 x573638 r578312 fq578313 he578315 hf578320 n578319 he578322 ez578326 (ht R c1 c2))) (mz_up ez578326 (Int.le_trans bg573633'.2 (by decide)) hm7_573638)
  exact hlp7_573638 (((2001 : Int) - 0).toNat + 1) F533878 0 (gB_w (gBl (show Int32.toInt 0 = 0 by decide)) (by decide) (by decide)) hT533879 hs533881 kp533882 kp533883 (fun k e1 ht => ht) (Nat.lt_succ_self _)
