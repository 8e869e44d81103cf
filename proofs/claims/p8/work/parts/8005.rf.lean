theorem dr_cX17_weigh_0 : decode cX17_weigh 0 = .ok (.aload_n 0, 1) := by decide +kernel
theorem dr_cX17_weigh_1 : decode cX17_weigh 1 = .ok (.aload_n 1, 1) := by decide +kernel
theorem dr_cX17_weigh_2 : decode cX17_weigh 2 = .ok (.invokevirtual 170, 3) := by decide +kernel
theorem wr_11_37 : (Jvm.Cond.methodLink "SpillForgeModel" (170 : Nat) ({ cls := "SpillForgeModel", name := "findDepth", desc := "(LSpillForgeModel$Code;)V" } : Jvm.MethodName)) ∈ gw := gw_11 37 rfl rfl
theorem wr_11_40 : (Jvm.Cond.code ({ cls := "SpillForgeModel", name := "findDepth", desc := "(LSpillForgeModel$Code;)V" } : Jvm.MethodName) prog_14_method_14_code (13 : Nat) (Option.none : Option Jvm.ClassFile.FieldType)) ∈ gw := gw_11 40 rfl rfl
theorem wr_11_39 : (Jvm.Cond.instanceMethod ({ cls := "SpillForgeModel", name := "findDepth", desc := "(LSpillForgeModel$Code;)V" } : Jvm.MethodName)) ∈ gw := gw_11 39 rfl rfl
theorem wr_p_105 : Cond.selects "SpillForgeModel" ⟨"SpillForgeModel", "findDepth", "(LSpillForgeModel$Code;)V"⟩ ⟨"SpillForgeModel", "findDepth", "(LSpillForgeModel$Code;)V"⟩ ∈ gw := gw_p _ 105 rfl rfl rfl
theorem dr_cX17_weigh_5 : decode cX17_weigh 5 = .ok (.iconst 0, 1) := by decide +kernel
theorem dr_cX17_weigh_6 : decode cX17_weigh 6 = .ok (.istore_n 2, 1) := by decide +kernel
theorem dr_cX17_weigh_7 : decode cX17_weigh 7 = .ok (.iload_n 2, 1) := by decide +kernel
theorem dr_cX17_weigh_8 : decode cX17_weigh 8 = .ok (.sipush 2000, 3) := by decide +kernel
theorem dr_cX17_weigh_11 : decode cX17_weigh 11 = .ok (.if_icmp .ge 16, 3) := by decide +kernel
theorem dr_cX17_weigh_27 : decode cX17_weigh 27 = .ok (.iconst 0, 1) := by decide +kernel
theorem dr_cX17_weigh_28 : decode cX17_weigh 28 = .ok (.istore_n 2, 1) := by decide +kernel
theorem dr_cX17_weigh_29 : decode cX17_weigh 29 = .ok (.iload_n 2, 1) := by decide +kernel
theorem dr_cX17_weigh_30 : decode cX17_weigh 30 = .ok (.aload_n 1, 1) := by decide +kernel
theorem dr_cX17_weigh_31 : decode cX17_weigh 31 = .ok (.invokevirtual 96, 3) := by decide +kernel
theorem dr_cX17_weigh_34 : decode cX17_weigh 34 = .ok (.if_icmp .ge 167, 3) := by decide +kernel
theorem dr_cX17_weigh_201 : decode cX17_weigh 201 = .ok (.return_, 1) := by decide +kernel
theorem dr_cX17_weigh_37 : decode cX17_weigh 37 = .ok (.iconst 1, 1) := by decide +kernel
theorem dr_cX17_weigh_38 : decode cX17_weigh 38 = .ok (.istore_n 3, 1) := by decide +kernel
theorem dr_cX17_weigh_39 : decode cX17_weigh 39 = .ok (.iconst 0, 1) := by decide +kernel
theorem dr_cX17_weigh_40 : decode cX17_weigh 40 = .ok (.istore 4, 2) := by decide +kernel
theorem dr_cX17_weigh_42 : decode cX17_weigh 42 = .ok (.iload 4, 2) := by decide +kernel
theorem dr_cX17_weigh_44 : decode cX17_weigh 44 = .ok (.aload_n 0, 1) := by decide +kernel
theorem dr_cX17_weigh_45 : decode cX17_weigh 45 = .ok (.getfield 152, 3) := by decide +kernel
theorem dr_cX17_weigh_48 : decode cX17_weigh 48 = .ok (.iload_n 2, 1) := by decide +kernel
theorem dr_cX17_weigh_49 : decode cX17_weigh 49 = .ok (.iaload, 1) := by decide +kernel
theorem dr_cX17_weigh_50 : decode cX17_weigh 50 = .ok (.if_icmp .ge 14, 3) := by decide +kernel
theorem dr_cX17_weigh_64 : decode cX17_weigh 64 = .ok (.aload_n 1, 1) := by decide +kernel
theorem dr_cX17_weigh_65 : decode cX17_weigh 65 = .ok (.iload_n 2, 1) := by decide +kernel
theorem dr_cX17_weigh_66 : decode cX17_weigh 66 = .ok (.invokevirtual 101, 3) := by decide +kernel
theorem dr_cX17_weigh_69 : decode cX17_weigh 69 = .ok (.astore 4, 2) := by decide +kernel
theorem dr_cX17_weigh_71 : decode cX17_weigh 71 = .ok (.iconst 0, 1) := by decide +kernel
theorem dr_cX17_weigh_72 : decode cX17_weigh 72 = .ok (.istore 5, 2) := by decide +kernel
theorem dr_cX17_weigh_74 : decode cX17_weigh 74 = .ok (.iload 5, 2) := by decide +kernel
theorem dr_cX17_weigh_76 : decode cX17_weigh 76 = .ok (.aload 4, 2) := by decide +kernel
theorem dr_cX17_weigh_78 : decode cX17_weigh 78 = .ok (.getfield 117, 3) := by decide +kernel
theorem dr_cX17_weigh_81 : decode cX17_weigh 81 = .ok (.invokevirtual 121, 3) := by decide +kernel
theorem dr_cX17_weigh_84 : decode cX17_weigh 84 = .ok (.if_icmp .gt 111, 3) := by decide +kernel
theorem dr_cX17_weigh_195 : decode cX17_weigh 195 = .ok (.iinc 2 1, 3) := by decide +kernel
theorem dr_cX17_weigh_198 : decode cX17_weigh 198 = .ok (.goto (-169), 3) := by decide +kernel
theorem dr_cX17_weigh_87 : decode cX17_weigh 87 = .ok (.iload 5, 2) := by decide +kernel
theorem dr_cX17_weigh_89 : decode cX17_weigh 89 = .ok (.aload 4, 2) := by decide +kernel
theorem dr_cX17_weigh_91 : decode cX17_weigh 91 = .ok (.getfield 117, 3) := by decide +kernel
theorem dr_cX17_weigh_94 : decode cX17_weigh 94 = .ok (.invokevirtual 121, 3) := by decide +kernel
theorem dr_cX17_weigh_97 : decode cX17_weigh 97 = .ok (.if_icmp .ge 19, 3) := by decide +kernel
theorem dr_cX17_weigh_116 : decode cX17_weigh 116 = .ok (.aload 4, 2) := by decide +kernel
theorem dr_cX17_weigh_118 : decode cX17_weigh 118 = .ok (.getfield 109, 3) := by decide +kernel
theorem dr_cX17_weigh_121 : decode cX17_weigh 121 = .ok (.astore 6, 2) := by decide +kernel
theorem dr_cX17_weigh_123 : decode cX17_weigh 123 = .ok (.aload 6, 2) := by decide +kernel
theorem dr_cX17_weigh_125 : decode cX17_weigh 125 = .ok (.invokevirtual 48, 3) := by decide +kernel
theorem dr_cX17_weigh_128 : decode cX17_weigh 128 = .ok (.ifCond .eq 17, 3) := by decide +kernel
theorem dr_cX17_weigh_145 : decode cX17_weigh 145 = .ok (.aload 6, 2) := by decide +kernel
theorem dr_cX17_weigh_147 : decode cX17_weigh 147 = .ok (.invokevirtual 70, 3) := by decide +kernel
theorem dr_cX17_weigh_150 : decode cX17_weigh 150 = .ok (.ifCond .eq 17, 3) := by decide +kernel
theorem dr_cX17_weigh_167 : decode cX17_weigh 167 = .ok (.aload 6, 2) := by decide +kernel
theorem dr_cX17_weigh_169 : decode cX17_weigh 169 = .ok (.invokevirtual 76, 3) := by decide +kernel
theorem dr_cX17_weigh_172 : decode cX17_weigh 172 = .ok (.ifCond .eq 17, 3) := by decide +kernel
theorem dr_cX17_weigh_189 : decode cX17_weigh 189 = .ok (.iinc 5 1, 3) := by decide +kernel
theorem dr_cX17_weigh_192 : decode cX17_weigh 192 = .ok (.goto (-118), 3) := by decide +kernel
theorem dr_cX17_weigh_175 : decode cX17_weigh 175 = .ok (.aload_n 0, 1) := by decide +kernel
theorem dr_cX17_weigh_176 : decode cX17_weigh 176 = .ok (.getfield 174, 3) := by decide +kernel
theorem dr_cX17_weigh_179 : decode cX17_weigh 179 = .ok (.aload 6, 2) := by decide +kernel
theorem dr_cX17_weigh_181 : decode cX17_weigh 181 = .ok (.getfield 79, 3) := by decide +kernel
theorem dr_cX17_weigh_184 : decode cX17_weigh 184 = .ok (.dup2, 1) := by decide +kernel
theorem dr_cX17_weigh_185 : decode cX17_weigh 185 = .ok (.iaload, 1) := by decide +kernel
theorem dr_cX17_weigh_186 : decode cX17_weigh 186 = .ok (.iload_n 3, 1) := by decide +kernel
theorem dr_cX17_weigh_187 : decode cX17_weigh 187 = .ok (.iadd, 1) := by decide +kernel
theorem dr_cX17_weigh_188 : decode cX17_weigh 188 = .ok (.iastore, 1) := by decide +kernel
theorem dr_cX17_weigh_153 : decode cX17_weigh 153 = .ok (.aload_n 0, 1) := by decide +kernel
theorem dr_cX17_weigh_154 : decode cX17_weigh 154 = .ok (.getfield 174, 3) := by decide +kernel
theorem dr_cX17_weigh_157 : decode cX17_weigh 157 = .ok (.aload 6, 2) := by decide +kernel
theorem dr_cX17_weigh_159 : decode cX17_weigh 159 = .ok (.getfield 73, 3) := by decide +kernel
theorem dr_cX17_weigh_162 : decode cX17_weigh 162 = .ok (.dup2, 1) := by decide +kernel
theorem dr_cX17_weigh_163 : decode cX17_weigh 163 = .ok (.iaload, 1) := by decide +kernel
theorem dr_cX17_weigh_164 : decode cX17_weigh 164 = .ok (.iload_n 3, 1) := by decide +kernel
theorem dr_cX17_weigh_165 : decode cX17_weigh 165 = .ok (.iadd, 1) := by decide +kernel
theorem dr_cX17_weigh_166 : decode cX17_weigh 166 = .ok (.iastore, 1) := by decide +kernel
theorem dr_cX17_weigh_131 : decode cX17_weigh 131 = .ok (.aload_n 0, 1) := by decide +kernel
theorem dr_cX17_weigh_132 : decode cX17_weigh 132 = .ok (.getfield 174, 3) := by decide +kernel
theorem dr_cX17_weigh_135 : decode cX17_weigh 135 = .ok (.aload 6, 2) := by decide +kernel
theorem dr_cX17_weigh_137 : decode cX17_weigh 137 = .ok (.getfield 52, 3) := by decide +kernel
theorem dr_cX17_weigh_140 : decode cX17_weigh 140 = .ok (.dup2, 1) := by decide +kernel
theorem dr_cX17_weigh_141 : decode cX17_weigh 141 = .ok (.iaload, 1) := by decide +kernel
theorem dr_cX17_weigh_142 : decode cX17_weigh 142 = .ok (.iload_n 3, 1) := by decide +kernel
theorem dr_cX17_weigh_143 : decode cX17_weigh 143 = .ok (.iadd, 1) := by decide +kernel
theorem dr_cX17_weigh_144 : decode cX17_weigh 144 = .ok (.iastore, 1) := by decide +kernel
theorem dr_cX17_weigh_100 : decode cX17_weigh 100 = .ok (.aload 4, 2) := by decide +kernel
theorem dr_cX17_weigh_102 : decode cX17_weigh 102 = .ok (.getfield 117, 3) := by decide +kernel
theorem dr_cX17_weigh_105 : decode cX17_weigh 105 = .ok (.iload 5, 2) := by decide +kernel
theorem dr_cX17_weigh_107 : decode cX17_weigh 107 = .ok (.invokevirtual 124, 3) := by decide +kernel
theorem dr_cX17_weigh_110 : decode cX17_weigh 110 = .ok (.checkcast 40, 3) := by decide +kernel
theorem dr_cX17_weigh_113 : decode cX17_weigh 113 = .ok (.goto 8, 3) := by decide +kernel
theorem dr_cX17_weigh_53 : decode cX17_weigh 53 = .ok (.iload_n 3, 1) := by decide +kernel
theorem dr_cX17_weigh_54 : decode cX17_weigh 54 = .ok (.bipush 10, 2) := by decide +kernel
theorem dr_cX17_weigh_56 : decode cX17_weigh 56 = .ok (.imul, 1) := by decide +kernel
theorem dr_cX17_weigh_57 : decode cX17_weigh 57 = .ok (.istore_n 3, 1) := by decide +kernel
theorem dr_cX17_weigh_58 : decode cX17_weigh 58 = .ok (.iinc 4 1, 3) := by decide +kernel
theorem dr_cX17_weigh_61 : decode cX17_weigh 61 = .ok (.goto (-19), 3) := by decide +kernel
theorem dr_cX17_weigh_14 : decode cX17_weigh 14 = .ok (.aload_n 0, 1) := by decide +kernel
theorem dr_cX17_weigh_15 : decode cX17_weigh 15 = .ok (.getfield 174, 3) := by decide +kernel
theorem dr_cX17_weigh_18 : decode cX17_weigh 18 = .ok (.iload_n 2, 1) := by decide +kernel
theorem dr_cX17_weigh_19 : decode cX17_weigh 19 = .ok (.iconst 0, 1) := by decide +kernel
theorem dr_cX17_weigh_20 : decode cX17_weigh 20 = .ok (.iastore, 1) := by decide +kernel
theorem dr_cX17_weigh_21 : decode cX17_weigh 21 = .ok (.iinc 2 1, 3) := by decide +kernel
theorem dr_cX17_weigh_24 : decode cX17_weigh 24 = .ok (.goto (-17), 3) := by decide +kernel
abbrev ky_408010_SpillForgeModel_weigh : gKey := (cX17_weigh, 7, "SpillForgeModel", none, [], "weigh", fun _ _ => True)
def pt_408010_SpillForgeModel_weigh (D : va_G) (I : FieldType → ClassId) (γ el : Nat → Nat → Nat) (P408005 : List Nat) (F408006 : Nat → va_E) (q408007 : Nat) (q408008 : Nat) : Option Value → va_W → Nat → Nat → Prop := fun r w dc ds => ∃ (F578657 : Nat → va_E), r = none ∧ w = va_pl P408005 F578657 ∧ RS D I P408005 F578657 γ el ∧ rStr γ [] F408006 F578657 ∧ dc ≤ 0 ∧ ds ≤ 0 ∧ (F578657 q408007 = F408006 q408007) ∧ (F578657 (γ 9 3) = F408006 (γ 9 3)) ∧ tr_RModel_weigh D I γ el P408005 F408006 q408007 q408008 F578657
set_option maxRecDepth 100000 in
set_option maxHeartbeats 4000000 in
theorem ct_408010_SpillForgeModel_weigh (l : Launch) (hl0 : l.stackTraces = false) (D : va_G) (I : FieldType → ClassId) (γ el : Nat → Nat → Nat) (P408005 : List Nat) (F408006 : Nat → va_E) (q408007 : Nat) (q408008 : Nat) (hT : RS D I P408005 F408006 γ el) (htq408007 : rKd γ q408007 10) (htq408008 : rKd γ q408008 9) (x408009 : 0 < γ 6 (γ 1 q408008)) : CtA (gV D I) l yX17_weigh cX17_weigh 7 none 6 144 0 0 [.ref q408007, .ref q408008] (va_pl P408005 F408006) (pt_408010_SpillForgeModel_weigh D I γ el P408005 F408006 q408007 q408008) gNA := by
  refine CtA_of hl0 (by decide) (Nat.le_of_ble_eq_true rfl) ?_
  have hm408011 : q408007 ∈ P408005 := RS_m hT htq408007 (by decide)
  refine rk10_e (show rk_10 γ (F408006 q408007) from RS_o hT htq408007) (fun q408013 q408014 p408015 p408016 p408017 p408018 p408019 p408020 p408021 p408022 p408023 p408024 p408025 p408026 p408027 p408028 p408029 he408012 hB408056 ht408030 ht408031 ht408032 ht408033 ht408034 ht408035 ht408036 ht408037 ht408038 ht408039 ht408040 ht408041 ht408042 ht408043 ht408044 ht408045 ht408046 ht408047 ht408048 ht408049 ht408050 ht408051 ht408052 ht408053 hB408057 => ?_)
  refine G_aload_n 0 dr_cX17_weigh_0 rfl ?_
  refine G_aload_n 1 dr_cX17_weigh_1 rfl ?_
  refine Gw_callV (As := [.ref q408008]) (gV_ok D I) (ct_408063_SpillForgeModel_findDepth l hl0 D I γ el P408005 F408006 q408007 q408008 hT htq408007 htq408008 (by omega)) dr_cX17_weigh_2 ⟨wr_11_37, wr_1_14, wr_11_40, by decide, rfl, (Nat.le_of_ble_eq_true rfl), (Nat.le_of_ble_eq_true rfl)⟩ wr_11_39 wr_p_105 hm408011 he408012 rfl (show 0 + 0 ≤ 0 by first | omega | decide) (show 0 + 0 ≤ 0 by first | omega | decide) (Nat.le_of_ble_eq_true rfl) (fun r534202 w534203 dc534199 ds534200 hp534201 => ?_) (fun _ _ _ _ _ z => z.elim)
  obtain ⟨F534207, rfl, rfl, hT534208, hs534209, hdc, hds, x534204, x534205, ht534206⟩ := hp534201
  have hs534210 : rStr γ [] F408006 F534207 := rStr_tr (rStr_rf (γ := γ) (W := []) (F := F408006)) hs534209
  have kp534211 : F534207 q408007 = F408006 q408007 := x534204
  have kp534212 : F534207 (γ 9 3) = F408006 (γ 9 3) := x534205
  have he534213 : F534207 q408007 = .inr (22, [.ref (γ 9 0), .ref (γ 9 1), .ref (γ 9 2), .ref (γ 9 3), .ref (γ 9 4), .ref (γ 9 5), .ref (γ 9 6), .ref (γ 9 7), .ref (γ 9 8), .int p408015, .int p408016, .int p408017, .int p408018, .int p408019, .int p408020, .ref (γ 9 15), .ref (γ 9 16), .ref (γ 9 17), .ref (γ 9 18), .ref (γ 9 19), .ref (γ 9 20), .ref (γ 9 21), .ref (γ 9 22), .int p408021, .int p408022, .int p408023, .int p408024, .int p408025, .ref q408013, .ref (γ 9 29), .int p408026, .ref (γ 9 31), .int p408027, .int p408028, .int p408029, .ref q408014]) := (x534204).trans he408012
  change G _ _ _ _ _ _ _ _ _ _ _
  refine G_widen (cs' := 0) (sl' := 0) (by omega) (by omega) ?_
  refine G_iconst 0 dr_cX17_weigh_5 (by decide +kernel) ?_
  refine G_istore_n (L' := [(2, .int 0), (0, .ref q408007), (1, .ref q408008)]) dr_cX17_weigh_6 (Nat.le_of_ble_eq_true rfl) rfl ?_
  have hlp7_573967 : ∀ (n7_573967 : Nat) (F573963 : Nat → va_E) (g573962 : Int32), gB g573962 0 2000 → RS D I P408005 F573963 γ el → rStr γ [] F408006 F573963 → (F573963 q408007 = F408006 q408007) → (F573963 (γ 9 3) = F408006 (γ 9 3)) → (∀ (k : Nat) (e1 : Nat → va_E), tl_RModel_weigh_7 D I γ el P408005 F408006 q408007 F573963 g573962 k e1 → tl_RModel_weigh_7 D I γ el P408005 F408006 q408007 F534207 (0 : Int32) k e1) → ((2001 : Int) - g573962.toInt).toNat < n7_573967 → G (gV D I) l (gRm 6 144 0 0) (gMA (gV D I) (pt_408010_SpillForgeModel_weigh D I γ el P408005 F408006 q408007 q408008) gNA 0 0) ky_408010_SpillForgeModel_weigh 7 [(2, .int g573962), (0, .ref q408007), (1, .ref q408008)] [] (va_pl P408005 F573963) 0 0 := by
    intro n7_573967
    induction n7_573967 with
    | zero => intro F573963 g573962 bg573962 hT573964 hs573965 x573966 x573967 kt7_573968 hm7_573967; exact absurd hm7_573967 (Nat.not_lt_zero _)
    | succ n7_573967 ih7_573967 =>
      intro F573963 g573962 bg573962 hT573964 hs573965 x573966 x573967 kt7_573968 hm7_573967
      have hs573969 : rStr γ [] F534207 F573963 := fun b h0 hb hw => (hs573965 b h0 hb hw).trans (hs534210 b h0 hb hw).symm
      have hs573970 : rStr γ [] F408006 F573963 := rStr_tr hs534210 hs573969
      have he573971 : F573963 q408007 = .inr (22, [.ref (γ 9 0), .ref (γ 9 1), .ref (γ 9 2), .ref (γ 9 3), .ref (γ 9 4), .ref (γ 9 5), .ref (γ 9 6), .ref (γ 9 7), .ref (γ 9 8), .int p408015, .int p408016, .int p408017, .int p408018, .int p408019, .int p408020, .ref (γ 9 15), .ref (γ 9 16), .ref (γ 9 17), .ref (γ 9 18), .ref (γ 9 19), .ref (γ 9 20), .ref (γ 9 21), .ref (γ 9 22), .int p408021, .int p408022, .int p408023, .int p408024, .int p408025, .ref q408013, .ref (γ 9 29), .int p408026, .ref (γ 9 31), .int p408027, .int p408028, .int p408029, .ref q408014]) := x573966.trans he408012
      have hm573972 : q408007 ∈ P408005 := RS_m hT573964 htq408007 (by decide)
      refine G_iload_n 0 dr_cX17_weigh_7 rfl ?_
      refine G_sipush 2000 dr_cX17_weigh_8 (by decide +kernel) ?_
      refine G_icmp_ge 27 dr_cX17_weigh_11 (by decide +kernel) (fun hc573973 => ?_) (fun hc573973 => ?_)
      · have r573974 : 2000 ≤ g573962.toInt := gj_leL hc573973 (show Int32.toInt 2000 = 2000 by decide)
        have bg573962' : gB g573962 2000 2000 := ⟨by omega, by omega⟩
        have hx573975 : tl_RModel_weigh_7 D I γ el P408005 F408006 q408007 F534207 (0 : Int32) 27 F573963 := kt7_573968 27 F573963 (fun R c1 c2 => c1 F573963 g573962 bg573962 hT573964 hs573965 x573966 x573967 r573974)
        refine G_iconst 0 dr_cX17_weigh_27 (by decide +kernel) ?_
        refine G_istore_n (L' := [(2, .int 0), (0, .ref q408007), (1, .ref q408008)]) dr_cX17_weigh_28 (Nat.le_of_ble_eq_true rfl) rfl ?_
        have hlp29_576282 : ∀ (n29_576282 : Nat) (F576278 : Nat → va_E) (g576277 : Int32), gB g576277 0 1000000 → RS D I P408005 F576278 γ el → rStr γ [] F408006 F576278 → (F576278 q408007 = F408006 q408007) → (F576278 (γ 9 3) = F408006 (γ 9 3)) → (∀ (k : Nat) (e1 : Nat → va_E), tl_RModel_weigh_29 D I γ el P408005 F408006 q408007 q408008 F576278 g576277 k e1 → tl_RModel_weigh_29 D I γ el P408005 F408006 q408007 q408008 F573963 (0 : Int32) k e1) → ((1000001 : Int) - g576277.toInt).toNat < n29_576282 → G (gV D I) l (gRm 6 144 0 0) (gMA (gV D I) (pt_408010_SpillForgeModel_weigh D I γ el P408005 F408006 q408007 q408008) gNA 0 0) ky_408010_SpillForgeModel_weigh 29 [(2, .int g576277), (0, .ref q408007), (1, .ref q408008)] [] (va_pl P408005 F576278) 0 0 := by
          intro n29_576282
          induction n29_576282 with
          | zero => intro F576278 g576277 bg576277 hT576279 hs576280 x576281 x576282 kt29_576283 hm29_576282; exact absurd hm29_576282 (Nat.not_lt_zero _)
          | succ n29_576282 ih29_576282 =>
            intro F576278 g576277 bg576277 hT576279 hs576280 x576281 x576282 kt29_576283 hm29_576282
            have hs576284 : rStr γ [] F573963 F576278 := fun b h0 hb hw => (hs576280 b h0 hb hw).trans (hs573965 b h0 hb hw).symm
            have hs576285 : rStr γ [] F408006 F576278 := rStr_tr hs573965 hs576284
            have he576286 : F576278 q408007 = .inr (22, [.ref (γ 9 0), .ref (γ 9 1), .ref (γ 9 2), .ref (γ 9 3), .ref (γ 9 4), .ref (γ 9 5), .ref (γ 9 6), .ref (γ 9 7), .ref (γ 9 8), .int p408015, .int p408016, .int p408017, .int p408018, .int p408019, .int p408020, .ref (γ 9 15), .ref (γ 9 16), .ref (γ 9 17), .ref (γ 9 18), .ref (γ 9 19), .ref (γ 9 20), .ref (γ 9 21), .ref (γ 9 22), .int p408021, .int p408022, .int p408023, .int p408024, .int p408025, .ref q408013, .ref (γ 9 29), .int p408026, .ref (γ 9 31), .int p408027, .int p408028, .int p408029, .ref q408014]) := x576281.trans he408012
            have hm576287 : q408007 ∈ P408005 := RS_m hT576279 htq408007 (by decide)
            refine G_iload_n 0 dr_cX17_weigh_29 rfl ?_
            refine G_aload_n 2 dr_cX17_weigh_30 rfl ?_
            have hm576288 : q408008 ∈ P408005 := RS_m hT576279 htq408008 (by decide)
            obtain ⟨q576290, q576291, p576292, p576293, he576289, ht576309, ht576294, ht576295, ht576296, ht576297, r576298, r576299, r576300, r576301, r576302, r576303, r576304, r576305, r576306, r576307, r576308⟩ := show rk_9 γ el q408008 (F576278 q408008) from RS_o hT576279 htq408008
            have bp576292 : gB p576292 0 1000000 := ⟨by omega, by omega⟩
            have bp576293 : gB p576293 0 1000000 := ⟨by omega, by omega⟩
            have fq576310 : fI (F576278 q408008) 3 = p576293 := by rw [he576289]; rfl
            refine Gw_callV (As := []) (gV_ok D I) (cp_12780_Code_size l hl0 D I P408005 F576278 q408008 q576290 q576291 p576292 p576293 hm576288 he576289) dr_cX17_weigh_31 ⟨wr_10_160, wr_1_15, wr_9_131, by decide, rfl, (Nat.le_of_ble_eq_true rfl), (Nat.le_of_ble_eq_true rfl)⟩ wr_9_129 wr_9_130 hm576288 he576289 rfl (show 0 + 0 ≤ 0 by first | omega | decide) (show 0 + 0 ≤ 0 by first | omega | decide) (Nat.le_of_ble_eq_true rfl) (fun r576314 w576315 dc576311 ds576312 hp576313 => ?_) (fun _ _ _ _ _ z => z.elim)
            obtain ⟨rfl, rfl, hdc, hds⟩ := hp576313
            change G _ _ _ _ _ _ _ (.int p576293 :: _) _ _ _
            refine G_widen (cs' := 0) (sl' := 0) (by omega) (by omega) ?_
            refine G_icmp_ge 201 dr_cX17_weigh_34 (by decide +kernel) (fun hc576316 => ?_) (fun hc576316 => ?_)
            · have r576317 : p576293.toInt ≤ g576277.toInt := gC_le hc576316
              have hx576318 : tl_RModel_weigh_29 D I γ el P408005 F408006 q408007 q408008 F573963 (0 : Int32) 201 F576278 := kt29_576283 201 F576278 (fun R c1 c2 => c1 F576278 g576277 p576293 bg576277 hT576279 hs576280 x576281 x576282 fq576310 r576317)
              exact G_vretA dr_cX17_weigh_201 rfl (Nat.le_of_ble_eq_true rfl) (Nat.le_of_ble_eq_true rfl) ⟨F576278, rfl, rfl, hT576279, hs576280, (Nat.le_of_ble_eq_true rfl), (Nat.le_of_ble_eq_true rfl), x576281, x576282, (fun R c1 => c1 F534207 F573963 F576278 hT534208 hs534209 x534204 x534205 ht534206 hx573975 hx576318)⟩
            · have r576319 : g576277.toInt < p576293.toInt := gC_nle hc576316
              have bg576277' : gB g576277 0 999999 := ⟨by omega, by omega⟩
              have bp576293' : gB p576293 1 1000000 := ⟨by omega, by omega⟩
              refine G_iconst 1 dr_cX17_weigh_37 (by decide +kernel) ?_
              refine G_istore_n (L' := [(3, .int 1), (2, .int g576277), (0, .ref q408007), (1, .ref q408008)]) dr_cX17_weigh_38 (Nat.le_of_ble_eq_true rfl) rfl ?_
              refine G_iconst 0 dr_cX17_weigh_39 (by decide +kernel) ?_
              refine G_istore (L' := [(4, .int 0), (3, .int 1), (2, .int g576277), (0, .ref q408007), (1, .ref q408008)]) dr_cX17_weigh_40 (Nat.le_of_ble_eq_true rfl) rfl ?_
              have hlp42_577452 : ∀ (n42_577452 : Nat) (g577451 : Int32) (g577452 : Int32), gB g577451 0 2147483647 → (∀ (k : Nat) (e1 : Int32), tl_RModel_weigh_42 D I γ el F576278 q408007 g576277 g577451 g577452 k e1 → tl_RModel_weigh_42 D I γ el F576278 q408007 g576277 (0 : Int32) (1 : Int32) k e1) → ((2147483648 : Int) - g577451.toInt).toNat < n42_577452 → G (gV D I) l (gRm 6 144 0 0) (gMA (gV D I) (pt_408010_SpillForgeModel_weigh D I γ el P408005 F408006 q408007 q408008) gNA 0 0) ky_408010_SpillForgeModel_weigh 42 [(4, .int g577451), (3, .int g577452), (2, .int g576277), (0, .ref q408007), (1, .ref q408008)] [] (va_pl P408005 F576278) 0 0 := by
                intro n42_577452
                induction n42_577452 with
                | zero => intro g577451 g577452 bg577451 kt42_577453 hm42_577452; exact absurd hm42_577452 (Nat.not_lt_zero _)
                | succ n42_577452 ih42_577452 =>
                  intro g577451 g577452 bg577451 kt42_577453 hm42_577452
                  have bg577452 := gB_any g577452
                  refine G_iload 0 dr_cX17_weigh_42 rfl ?_
                  refine G_aload_n 3 dr_cX17_weigh_44 rfl ?_
                  have fq577454 : fR (F576278 q408007) 4 = (γ 9 4) := by rw [he576286]; rfl
                  refine Gp_get 4 hm576287 he576286 dr_cX17_weigh_45 (gk_X17 D I) (Nat.le_of_ble_eq_true rfl) wr_7_78 rfl ?_
                  refine G_iload_n 2 dr_cX17_weigh_48 rfl ?_
                  have hm577455 : (γ 9 4) ∈ P408005 := RS_m hT576279 ht408036 (by decide)
                  obtain ⟨f577457, he577456⟩ := show rk_16 I (F576278 (γ 9 4)) from RS_o hT576279 ht408036
                  refine Gp_iald 0 hm577455 he577456 dr_cX17_weigh_49 rfl (gB_inr (by omega) (by omega)) (G_nam fun z577458 hz577458 => ?_)
                  have bz577458 : gB z577458 (-2147483648) 2147483647 := gB_any z577458
                  refine G_icmp_ge 64 dr_cX17_weigh_50 (by decide +kernel) (fun hc577459 => ?_) (fun hc577459 => ?_)
                  · have r577460 : z577458.toInt ≤ g577451.toInt := gC_le hc577459
                    have hx577461 : tl_RModel_weigh_42 D I γ el F576278 q408007 g576277 (0 : Int32) (1 : Int32) 64 g577452 := kt42_577453 64 g577452 (fun R c1 c2 => c1 g577451 g577452 f577457 z577458 bg577451 fq577454 he577456 hz577458 r577460)
                    refine G_aload_n 4 dr_cX17_weigh_64 rfl ?_
                    refine G_iload_n 2 dr_cX17_weigh_65 rfl ?_
                    have hm577462 : q576290 ∈ P408005 := RS_m hT576279 ht576294 (by decide)
                    obtain ⟨⟨p577464, p577465, q577466, he577463, r577467, r577468, r577469, r577471⟩, r577470⟩ := show rk_4 D I γ el F576278 q576290 from RS_o hT576279 ht576294
                    have bp577464 := gB_any p577464
                    have bp577465 : gB p577465 0 1000000 := ⟨by omega, by omega⟩
                    obtain ⟨r577472, r577473, n577480, f577481, r577474, r577475, r577476, r577477, r577478, r577479⟩ := rLC_n r577469 (by omega)
                    have hm577482 : q577466 ∈ P408005 := RS_m hT576279 r577472 (by decide)
                    obtain ⟨q577483, hx577484⟩ : ∃ x, x = el q576290 g576277.toInt.toNat := ⟨_, rfl⟩
                    have fq577488 : fR (F576278 q408008) 0 = q576290 := by rw [he576289]; rfl
                    have hx577485 : f577481 g576277.toNatClampNeg = some q577483 := (r577478 _ (show g576277.toInt.toNat < γ 2 q576290 by omega)).trans (by rw [hx577484])
                    have ht577489 : rKd γ q577483 2 := by rw [hx577484]; exact (r576305 _ (by omega)).resolve_right (fun z => absurd z.1 (by omega))
                    have ht577490 : rFm γ q577483 q576290 := by rw [hx577484]; exact (r577470 _ (show g576277.toInt.toNat < γ 2 q576290 by omega)).2.1
                    have hm577491 : q577483 ∈ P408005 := RS_m hT576279 ht577489 (by decide)
                    obtain ⟨q577493, q577494, p577495, p577496, he577492, ht577503, ht577497, ht577498, ht577499, ht577500, ht577501, bp577495, bp577496, r577502, r577504, r577505⟩ := show rk_2 γ q577483 (F576278 q577483) from RS_o hT576279 ht577489
                    have fq577506 : fI (F576278 q576290) 2 = p577465 := by rw [he577463]; rfl
                    refine Gw_callV (As := [.int g576277]) (gV_ok D I) (cp_7901_Code_get l hl0 D I P408005 F576278 q408008 q576290 q577466 g576277 q576291 p576292 p576293 p577464 p577465 f577481 n577480 q577483 q577493 q577494 p577495 p577496 hm576288 hm577462 hm577482 hm577491 he576289 he577463 r577474 he577492 (gB_w bg576277' (by decide) (by decide)) (gB_w bp577465 (by decide) (by decide)) (by omega) (by omega) (by assumption) (by omega)) dr_cX17_weigh_66 ⟨wr_10_161, wr_1_15, wr_10_141, by decide, rfl, (Nat.le_of_ble_eq_true rfl), (Nat.le_of_ble_eq_true rfl)⟩ wr_10_139 wr_10_140 hm576288 he576289 rfl (show 0 + 0 ≤ 0 by first | omega | decide) (show 0 + 0 ≤ 0 by first | omega | decide) (Nat.le_of_ble_eq_true rfl) (fun r577510 w577511 dc577507 ds577508 hp577509 => ?_) (fun _ _ _ _ _ z => z.elim)
                    obtain ⟨rfl, rfl, hdc, hds, ht577512⟩ := hp577509
                    change G _ _ _ _ _ _ _ (.ref q577483 :: _) _ _ _
                    refine G_widen (cs' := 0) (sl' := 0) (by omega) (by omega) ?_
                    refine G_astore (L' := [(4, .ref q577483), (3, .int g577452), (2, .int g576277), (0, .ref q408007), (1, .ref q408008)]) dr_cX17_weigh_69 (Nat.le_of_ble_eq_true rfl) rfl ?_
                    refine G_iconst 0 dr_cX17_weigh_71 (by decide +kernel) ?_
                    refine G_istore (L' := [(5, .int 0), (4, .ref q577483), (3, .int g577452), (2, .int g576277), (0, .ref q408007), (1, .ref q408008)]) dr_cX17_weigh_72 (Nat.le_of_ble_eq_true rfl) rfl ?_
                    have hlp74_578052 : ∀ (n74_578052 : Nat) (F578048 : Nat → va_E) (g578047 : Int32), gB g578047 0 1000001 → RS D I P408005 F578048 γ el → rStr γ [] F408006 F578048 → (F578048 q408007 = F408006 q408007) → (F578048 (γ 9 3) = F408006 (γ 9 3)) → (∀ (k : Nat) (e1 : Nat → va_E), tl_RModel_weigh_74 D I γ el P408005 F408006 q408007 q577483 g577452 F578048 g578047 k e1 → tl_RModel_weigh_74 D I γ el P408005 F408006 q408007 q577483 g577452 F576278 (0 : Int32) k e1) → ((1000002 : Int) - g578047.toInt).toNat < n74_578052 → G (gV D I) l (gRm 6 144 0 0) (gMA (gV D I) (pt_408010_SpillForgeModel_weigh D I γ el P408005 F408006 q408007 q408008) gNA 0 0) ky_408010_SpillForgeModel_weigh 74 [(5, .int g578047), (4, .ref q577483), (3, .int g577452), (2, .int g576277), (0, .ref q408007), (1, .ref q408008)] [] (va_pl P408005 F578048) 0 0 := by
                      intro n74_578052
                      induction n74_578052 with
                      | zero => intro F578048 g578047 bg578047 hT578049 hs578050 x578051 x578052 kt74_578053 hm74_578052; exact absurd hm74_578052 (Nat.not_lt_zero _)
                      | succ n74_578052 ih74_578052 =>
                        intro F578048 g578047 bg578047 hT578049 hs578050 x578051 x578052 kt74_578053 hm74_578052
                        have hs578054 : rStr γ [] F576278 F578048 := fun b h0 hb hw => (hs578050 b h0 hb hw).trans (hs576280 b h0 hb hw).symm
                        have he578055 : F578048 q408008 = .inr (18, [.ref q576290, .ref q576291, .int p576292, .int p576293]) := (hs578054 q408008 (rT0 htq408008 (by decide)) (rT1 htq408008 (by decide)) (rT2 htq408008 (by decide))).trans he576289
                        have he578056 : F578048 q576290 = .inr (4, [.int p577464, .ref q577466, .int p577465]) := (hs578054 q576290 (rT0 ht576294 (by decide)) (rT1 ht576294 (by decide)) (rT2 ht576294 (by decide))).trans he577463
                        have he578057 : F578048 q577466 = .inl (I (.object "java/lang/Object"), n577480, .inr (.inr (.inr (.inr f577481)))) := (hs578054 q577466 (rT0 r577472 (by decide)) (rT1 r577472 (by decide)) (rT2 r577472 (by decide))).trans r577474
                        have he578058 : F578048 q577483 = .inr (17, [.ref q577493, .ref q577494, .int p577495, .int p577496]) := (hs578054 q577483 (rT0 ht577489 (by decide)) (rT1 ht577489 (by decide)) (rT2 ht577489 (by decide))).trans he577492
                        have hs578059 : rStr γ [] F408006 F578048 := rStr_tr hs576280 hs578054
                        have he578060 : F578048 q408007 = .inr (22, [.ref (γ 9 0), .ref (γ 9 1), .ref (γ 9 2), .ref (γ 9 3), .ref (γ 9 4), .ref (γ 9 5), .ref (γ 9 6), .ref (γ 9 7), .ref (γ 9 8), .int p408015, .int p408016, .int p408017, .int p408018, .int p408019, .int p408020, .ref (γ 9 15), .ref (γ 9 16), .ref (γ 9 17), .ref (γ 9 18), .ref (γ 9 19), .ref (γ 9 20), .ref (γ 9 21), .ref (γ 9 22), .int p408021, .int p408022, .int p408023, .int p408024, .int p408025, .ref q408013, .ref (γ 9 29), .int p408026, .ref (γ 9 31), .int p408027, .int p408028, .int p408029, .ref q408014]) := x578051.trans he408012
                        have hm578061 : q408007 ∈ P408005 := RS_m hT578049 htq408007 (by decide)
                        refine G_iload 0 dr_cX17_weigh_74 rfl ?_
                        refine G_aload 1 dr_cX17_weigh_76 rfl ?_
                        have fq578062 : fR (F578048 q577483) 0 = q577493 := by rw [he578058]; rfl
                        refine Gp_get 0 hm577491 he578058 dr_cX17_weigh_78 (gk_X12 D I) (Nat.le_of_ble_eq_true rfl) wr_9_220 rfl ?_
                        have hm578063 : q577493 ∈ P408005 := RS_m hT578049 ht577497 (by decide)
                        obtain ⟨⟨p578065, p578066, q578067, he578064, r578068, r578069, r578070, r578072⟩, r578071⟩ := show rk_3 D I γ el F578048 q577493 from RS_o hT578049 ht577497
                        have bp578065 := gB_any p578065
                        have bp578066 : gB p578066 0 1000000 := ⟨by omega, by omega⟩
                        have fq578073 : p578066.toInt = (γ 2 q577493 : Int) := by omega
                        have fq578074 : fI (F578048 q577493) 2 = p578066 := by rw [he578064]; rfl
                        refine Gw_callV (As := []) (gV_ok D I) (cp_7_ArrayList_size l hl0 D I P408005 F578048 q577493 p578065 q578067 p578066 hm578063 he578064 (gB_w bp578066 (by decide) (by decide))) dr_cX17_weigh_81 ⟨wr_10_200, wr_1_18, wr_9_160, by decide, rfl, (Nat.le_of_ble_eq_true rfl), (Nat.le_of_ble_eq_true rfl)⟩ wr_9_158 wr_9_159 hm578063 he578064 rfl (show 0 + 0 ≤ 0 by first | omega | decide) (show 0 + 0 ≤ 0 by first | omega | decide) (Nat.le_of_ble_eq_true rfl) (fun r578078 w578079 dc578075 ds578076 hp578077 => ?_) (fun _ _ _ _ _ z => z.elim)
                        obtain ⟨rfl, rfl, hdc, hds⟩ := hp578077
                        change G _ _ _ _ _ _ _ (.int p578066 :: _) _ _ _
                        refine G_widen (cs' := 0) (sl' := 0) (by omega) (by omega) ?_
                        refine G_icmp_gt 195 dr_cX17_weigh_84 (by decide +kernel) (fun hc578080 => ?_) (fun hc578080 => ?_)
                        · have r578081 : p578066.toInt < g578047.toInt := gC_lt hc578080
                          have bg578047' : gB g578047 1 1000001 := ⟨by omega, by omega⟩
                          have hx578082 : tl_RModel_weigh_74 D I γ el P408005 F408006 q408007 q577483 g577452 F576278 (0 : Int32) 195 F578048 := kt74_578053 195 F578048 (fun R c1 c2 c3 c4 c5 c6 c7 c8 c9 c10 c11 c12 c13 c14 c15 c16 c17 => c1 F578048 g578047 q577493 p578066 bg578047 hT578049 hs578050 x578051 x578052 fq578062 fq578073 fq578074 r578081)
                          obtain ⟨z578083, hz578083⟩ : ∃ z : Int32, z = g576277 + Int32.ofInt 1 := ⟨_, rfl⟩
                          have ez578083 : z578083.toInt = g576277.toInt + 1 := gI_inc hz578083 (by decide) bg576277' (by decide) (by decide)
                          have bz578083 : gB z578083 1 1000000 := ⟨by omega, by omega⟩
                          refine G_iinc (L' := [(2, .int z578083), (5, .int g578047), (4, .ref q577483), (3, .int g577452), (0, .ref q408007), (1, .ref q408008)]) z578083 3 dr_cX17_weigh_195 rfl hz578083.symm (Nat.le_of_ble_eq_true rfl) rfl ?_
                          refine G_goto 29 dr_cX17_weigh_198 (by decide +kernel) ?_
                          refine G_lv (L' := [(2, .int z578083), (0, .ref q408007), (1, .ref q408008)]) [0, 4, 5] rfl ?_
                          exact ih29_576282 F578048 z578083 (gB_w bz578083 (by decide) (by decide)) hT578049 hs578050 x578051 x578052 (fun k e1 ht => kt29_576283 k e1 (fun R c1 c2 => c2 F576278 g576277 p576293 g577452 q576290 q577483 p577465 F578048 z578083 k e1 bg576277 hT576279 hs576280 x576281 x576282 fq576310 r576319 hx577461 fq577488 hx577484 fq577506 ht577512 hx578082 ez578083 (ht R c1 c2))) (mz_up ez578083 (Int.le_trans bg576277'.2 (by decide)) hm29_576282)
                        · have r578084 : g578047.toInt ≤ p578066.toInt := gC_nlt hc578080
                          have bg578047' : gB g578047 0 1000000 := ⟨by omega, by omega⟩
                          refine G_iload 0 dr_cX17_weigh_87 rfl ?_
                          refine G_aload 1 dr_cX17_weigh_89 rfl ?_
                          refine Gp_get 0 hm577491 he578058 dr_cX17_weigh_91 (gk_X12 D I) (Nat.le_of_ble_eq_true rfl) wr_9_220 rfl ?_
                          have fq578085 : p578066.toInt = (γ 2 q577493 : Int) := by omega
                          refine Gw_callV (As := []) (gV_ok D I) (cp_7_ArrayList_size l hl0 D I P408005 F578048 q577493 p578065 q578067 p578066 hm578063 he578064 (gB_w bp578066 (by decide) (by decide))) dr_cX17_weigh_94 ⟨wr_10_200, wr_1_18, wr_9_160, by decide, rfl, (Nat.le_of_ble_eq_true rfl), (Nat.le_of_ble_eq_true rfl)⟩ wr_9_158 wr_9_159 hm578063 he578064 rfl (show 0 + 0 ≤ 0 by first | omega | decide) (show 0 + 0 ≤ 0 by first | omega | decide) (Nat.le_of_ble_eq_true rfl) (fun r578089 w578090 dc578086 ds578087 hp578088 => ?_) (fun _ _ _ _ _ z => z.elim)
                          obtain ⟨rfl, rfl, hdc, hds⟩ := hp578088
                          change G _ _ _ _ _ _ _ (.int p578066 :: _) _ _ _
                          refine G_widen (cs' := 0) (sl' := 0) (by omega) (by omega) ?_
                          refine G_icmp_ge 116 dr_cX17_weigh_97 (by decide +kernel) (fun hc578091 => ?_) (fun hc578091 => ?_)
                          · have r578092 : p578066.toInt ≤ g578047.toInt := gC_le hc578091
                            refine G_aload 1 dr_cX17_weigh_116 rfl ?_
                            have fq578093 : fR (F578048 q577483) 1 = q577494 := by rw [he578058]; rfl
                            refine Gp_get 1 hm577491 he578058 dr_cX17_weigh_118 (gk_X12 D I) (Nat.le_of_ble_eq_true rfl) wr_9_223 rfl ?_
                            refine G_astore (L' := [(6, .ref q577494), (5, .int g578047), (4, .ref q577483), (3, .int g577452), (2, .int g576277), (0, .ref q408007), (1, .ref q408008)]) dr_cX17_weigh_121 (Nat.le_of_ble_eq_true rfl) rfl ?_
                            refine G_aload 0 dr_cX17_weigh_123 rfl ?_
                            have hm578094 : q577494 ∈ P408005 := RS_m hT578049 ht577499 (by decide)
                            obtain ⟨p578096, p578097, p578098, p578099, p578100, p578101, p578102, he578095, bp578096, bp578097, bp578100, bp578101, bp578102, r578103, r578104, r578105, r578106, r578107⟩ := show rk_1 γ q577494 (F578048 q577494) from RS_o hT578049 ht577499
                            have bp578098 := gB_any p578098
                            have bp578099 := gB_any p578099
                            have fq578108 : fI (F578048 q577494) 0 = p578096 := by rw [he578095]; rfl
                            refine Gw_callV (As := []) (gV_ok D I) (cp_1660_Row_sets l hl0 D I P408005 F578048 q577494 p578096 p578097 p578098 p578099 p578100 p578101 p578102 hm578094 he578095 bp578096 bp578097 bp578100 bp578101 bp578102) dr_cX17_weigh_125 ⟨wr_10_181, wr_1_39, wr_10_184, by decide, rfl, (Nat.le_of_ble_eq_true rfl), (Nat.le_of_ble_eq_true rfl)⟩ wr_10_182 wr_10_183 hm578094 he578095 rfl (show 0 + 0 ≤ 0 by first | omega | decide) (show 0 + 0 ≤ 0 by first | omega | decide) (Nat.le_of_ble_eq_true rfl) (fun r578112 w578113 dc578109 ds578110 hp578111 => ?_) (fun _ _ _ _ _ z => z.elim)
                            obtain ⟨o578114, rfl, rfl, hdc, hds, bo578114, ht578115⟩ := hp578111
                            change G _ _ _ _ _ _ _ (.int o578114 :: _) _ _ _
                            refine G_widen (cs' := 0) (sl' := 0) (by omega) (by omega) ?_
                            refine G_if_eq 145 dr_cX17_weigh_128 (by decide +kernel) (fun hc578116 => ?_) (fun hc578116 => ?_)
                            · have r578117 : o578114.toInt = 0 := gj_eq hc578116 (show Int32.toInt 0 = 0 by decide)
                              have bo578114' : gB o578114 0 0 := gB_t0 r578117
                              refine G_aload 0 dr_cX17_weigh_145 rfl ?_
                              have fq578118 : fI (F578048 q577494) 5 = p578101 := by rw [he578095]; rfl
                              refine Gw_callV (As := []) (gV_ok D I) (cp_1675_Row_usesA l hl0 D I P408005 F578048 q577494 p578096 p578097 p578098 p578099 p578100 p578101 p578102 hm578094 he578095 bp578096 bp578097 bp578100 bp578101 bp578102) dr_cX17_weigh_147 ⟨wr_10_192, wr_1_39, wr_10_195, by decide, rfl, (Nat.le_of_ble_eq_true rfl), (Nat.le_of_ble_eq_true rfl)⟩ wr_10_193 wr_10_194 hm578094 he578095 rfl (show 0 + 0 ≤ 0 by first | omega | decide) (show 0 + 0 ≤ 0 by first | omega | decide) (Nat.le_of_ble_eq_true rfl) (fun r578122 w578123 dc578119 ds578120 hp578121 => ?_) (fun _ _ _ _ _ z => z.elim)
                              obtain ⟨o578124, rfl, rfl, hdc, hds, bo578124, x578125, ht578126⟩ := hp578121
                              change G _ _ _ _ _ _ _ (.int o578124 :: _) _ _ _
                              refine G_widen (cs' := 0) (sl' := 0) (by omega) (by omega) ?_
                              refine G_if_eq 167 dr_cX17_weigh_150 (by decide +kernel) (fun hc578127 => ?_) (fun hc578127 => ?_)
                              · have r578128 : o578124.toInt = 0 := gj_eq hc578127 (show Int32.toInt 0 = 0 by decide)
                                have bo578124' : gB o578124 0 0 := gB_t0 r578128
                                refine G_aload 0 dr_cX17_weigh_167 rfl ?_
                                have fq578129 : fI (F578048 q577494) 6 = p578102 := by rw [he578095]; rfl
                                refine Gw_callV (As := []) (gV_ok D I) (cp_1699_Row_usesB l hl0 D I P408005 F578048 q577494 p578096 p578097 p578098 p578099 p578100 p578101 p578102 hm578094 he578095 bp578096 bp578097 bp578100 bp578101 bp578102) dr_cX17_weigh_169 ⟨wr_10_196, wr_1_39, wr_10_199, by decide, rfl, (Nat.le_of_ble_eq_true rfl), (Nat.le_of_ble_eq_true rfl)⟩ wr_10_197 wr_10_198 hm578094 he578095 rfl (show 0 + 0 ≤ 0 by first | omega | decide) (show 0 + 0 ≤ 0 by first | omega | decide) (Nat.le_of_ble_eq_true rfl) (fun r578133 w578134 dc578130 ds578131 hp578132 => ?_) (fun _ _ _ _ _ z => z.elim)
                                obtain ⟨o578135, rfl, rfl, hdc, hds, bo578135, x578136, ht578137⟩ := hp578132
                                change G _ _ _ _ _ _ _ (.int o578135 :: _) _ _ _
                                refine G_widen (cs' := 0) (sl' := 0) (by omega) (by omega) ?_
                                refine G_if_eq 189 dr_cX17_weigh_172 (by decide +kernel) (fun hc578138 => ?_) (fun hc578138 => ?_)
                                · have r578139 : o578135.toInt = 0 := gj_eq hc578138 (show Int32.toInt 0 = 0 by decide)
                                  have bo578135' : gB o578135 0 0 := gB_t0 r578139
                                  obtain ⟨z578140, hz578140⟩ : ∃ z : Int32, z = g578047 + Int32.ofInt 1 := ⟨_, rfl⟩
                                  have ez578140 : z578140.toInt = g578047.toInt + 1 := gI_inc hz578140 (by decide) bg578047' (by decide) (by decide)
                                  have bz578140 : gB z578140 1 1000001 := ⟨by omega, by omega⟩
                                  refine G_iinc (L' := [(5, .int z578140), (6, .ref q577494), (4, .ref q577483), (3, .int g577452), (2, .int g576277), (0, .ref q408007), (1, .ref q408008)]) z578140 1 dr_cX17_weigh_189 rfl hz578140.symm (Nat.le_of_ble_eq_true rfl) rfl ?_
                                  refine G_goto 74 dr_cX17_weigh_192 (by decide +kernel) ?_
                                  refine G_lv (L' := [(5, .int z578140), (4, .ref q577483), (3, .int g577452), (2, .int g576277), (0, .ref q408007), (1, .ref q408008)]) [0, 2, 3, 4, 5, 6] rfl ?_
                                  exact ih74_578052 F578048 z578140 (gB_w bz578140 (by decide) (by decide)) hT578049 hs578050 x578051 x578052 (fun k e1 ht => kt74_578053 k e1 (fun R c1 c2 c3 c4 c5 c6 c7 c8 c9 c10 c11 c12 c13 c14 c15 c16 c17 => c2 F578048 g578047 q577493 p578066 q577494 p578096 o578114 p578101 o578124 p578102 o578135 z578140 k e1 bg578047 hT578049 hs578050 x578051 x578052 fq578062 fq578073 fq578074 r578084 fq578085 r578092 fq578093 fq578108 bo578114 ht578115 r578117 fq578118 bo578124 ht578126 r578128 fq578129 bo578135 ht578137 r578139 ez578140 (ht R c1 c2 c3 c4 c5 c6 c7 c8 c9 c10 c11 c12 c13 c14 c15 c16 c17))) (mz_up ez578140 (Int.le_trans bg578047'.2 (by decide)) hm74_578052)
                                · have r578141 : o578135.toInt ≠ 0 := gj_neq hc578138 (show Int32.toInt 0 = 0 by decide)
                                  have bo578135' : gB o578135 1 1 := gB_t1 bo578135 r578141
                                  refine G_aload_n 5 dr_cX17_weigh_175 rfl ?_
                                  have fq578142 : fR (F578048 q408007) 5 = (γ 9 5) := by rw [he578060]; rfl
                                  refine Gp_get 5 hm578061 he578060 dr_cX17_weigh_176 (gk_X17 D I) (Nat.le_of_ble_eq_true rfl) wr_7_79 rfl ?_
                                  refine G_aload 0 dr_cX17_weigh_179 rfl ?_
                                  have fq578143 : fI (F578048 q577494) 3 = p578099 := by rw [he578095]; rfl
                                  refine Gp_get 3 hm578094 he578095 dr_cX17_weigh_181 (gk_X15 D I) (Nat.le_of_ble_eq_true rfl) wr_9_190 rfl ?_
                                  refine G_dup2_11 dr_cX17_weigh_184 rfl rfl ?_
                                  have hm578144 : (γ 9 5) ∈ P408005 := RS_m hT578049 ht408037 (by decide)
                                  obtain ⟨f578146, he578145⟩ := show rk_17 I (F578048 (γ 9 5)) from RS_o hT578049 ht408037
                                  refine Gp_iald 0 hm578144 he578145 dr_cX17_weigh_185 rfl (gB_inr (by omega) (by omega)) (G_nam fun z578147 hz578147 => ?_)
                                  have bz578147 : gB z578147 (-2147483648) 2147483647 := gB_any z578147
                                  refine G_iload_n 3 dr_cX17_weigh_186 rfl ?_
                                  refine G_iadd dr_cX17_weigh_187 (G_nam fun z578148 hz578148 => ?_)
                                  have bz578148 : gB z578148 (-2147483648) 2147483647 := gB_any z578148
                                  refine Gp_iast 0 hm578144 he578145 dr_cX17_weigh_188 rfl (gB_inr (by omega) (by omega)) (fun F578149 e578150 n578151 => ?_)
                                  obtain ⟨f578152, hf578152⟩ : ∃ z, z = upd f578146 p578099.toNatClampNeg z578148 := ⟨_, rfl⟩
                                  rw [← hf578152] at e578150
                                  have he578153 : F578149 q408008 = .inr (18, [.ref q576290, .ref q576291, .int p576292, .int p576293]) := (n578151 q408008 (rn_oa he578055 he578145)).trans he578055
                                  have he578154 : F578149 q576290 = .inr (4, [.int p577464, .ref q577466, .int p577465]) := (n578151 q576290 (rn_oa he578056 he578145)).trans he578056
                                  have he578155 : F578149 q577466 = .inl (I (.object "java/lang/Object"), n577480, .inr (.inr (.inr (.inr f577481)))) := (n578151 q577466 (rn_ref_num he578057 he578145)).trans he578057
                                  have he578156 : F578149 q577483 = .inr (17, [.ref q577493, .ref q577494, .int p577495, .int p577496]) := (n578151 q577483 (rn_oa he578058 he578145)).trans he578058
                                  have he578157 : F578149 q408007 = .inr (22, [.ref (γ 9 0), .ref (γ 9 1), .ref (γ 9 2), .ref (γ 9 3), .ref (γ 9 4), .ref (γ 9 5), .ref (γ 9 6), .ref (γ 9 7), .ref (γ 9 8), .int p408015, .int p408016, .int p408017, .int p408018, .int p408019, .int p408020, .ref (γ 9 15), .ref (γ 9 16), .ref (γ 9 17), .ref (γ 9 18), .ref (γ 9 19), .ref (γ 9 20), .ref (γ 9 21), .ref (γ 9 22), .int p408021, .int p408022, .int p408023, .int p408024, .int p408025, .ref q408013, .ref (γ 9 29), .int p408026, .ref (γ 9 31), .int p408027, .int p408028, .int p408029, .ref q408014]) := (n578151 q408007 (rn_oa he578060 he578145)).trans he578060
                                  have he578158 : F578149 q577493 = .inr (4, [.int p578065, .ref q578067, .int p578066]) := (n578151 q577493 (rn_oa he578064 he578145)).trans he578064
                                  have he578159 : F578149 q577494 = .inr (20, [.int p578096, .int p578097, .int p578098, .int p578099, .int p578100, .int p578101, .int p578102]) := (n578151 q577494 (rn_oa he578095 he578145)).trans he578095
                                  have he578160 : F578149 (γ 9 5) = .inl (I .int, 2000, .inl f578152) := e578150
                                  have hs578161 : rStr γ [] F408006 F578149 := rStr_put hs578050 n578151 ht408037 (by decide)
                                  have kp578162 : F578149 q408007 = F408006 q408007 := (n578151 q408007 (rn_ty htq408007 ht408037 (by decide))).trans x578051
                                  have kp578163 : F578149 (γ 9 3) = F408006 (γ 9 3) := (n578151 (γ 9 3) (rn_ty ht408035 ht408037 (by decide))).trans x578052
                                  obtain ⟨z578164, hz578164⟩ : ∃ z : Int32, z = g578047 + Int32.ofInt 1 := ⟨_, rfl⟩
                                  have ez578164 : z578164.toInt = g578047.toInt + 1 := gI_inc hz578164 (by decide) bg578047' (by decide) (by decide)
                                  have bz578164 : gB z578164 1 1000001 := ⟨by omega, by omega⟩
                                  refine G_iinc (L' := [(5, .int z578164), (6, .ref q577494), (4, .ref q577483), (3, .int g577452), (2, .int g576277), (0, .ref q408007), (1, .ref q408008)]) z578164 1 dr_cX17_weigh_189 rfl hz578164.symm (Nat.le_of_ble_eq_true rfl) rfl ?_
                                  refine G_goto 74 dr_cX17_weigh_192 (by decide +kernel) ?_
                                  have hT578165 : RS D I P408005 F578149 γ el := RS_set hT578049 n578151 ht408037 (by decide) ⟨f578152, he578160⟩
                                  refine G_lv (L' := [(5, .int z578164), (4, .ref q577483), (3, .int g577452), (2, .int g576277), (0, .ref q408007), (1, .ref q408008)]) [0, 2, 3, 4, 5, 6] rfl ?_
                                  exact ih74_578052 F578149 z578164 (gB_w bz578164 (by decide) (by decide)) hT578165 hs578161 kp578162 kp578163 (fun k e1 ht => kt74_578053 k e1 (fun R c1 c2 c3 c4 c5 c6 c7 c8 c9 c10 c11 c12 c13 c14 c15 c16 c17 => c3 F578048 g578047 q577493 p578066 q577494 p578096 o578114 p578101 o578124 p578102 o578135 p578099 f578146 z578147 z578148 f578152 F578149 z578164 k e1 bg578047 hT578049 hs578050 x578051 x578052 fq578062 fq578073 fq578074 r578084 fq578085 r578092 fq578093 fq578108 bo578114 ht578115 r578117 fq578118 bo578124 ht578126 r578128 fq578129 bo578135 ht578137 r578141 fq578142 fq578143 he578145 hz578147 hz578148 hf578152 n578151 he578160 ez578164 (ht R c1 c2 c3 c4 c5 c6 c7 c8 c9 c10 c11 c12 c13 c14 c15 c16 c17))) (mz_up ez578164 (Int.le_trans bg578047'.2 (by decide)) hm74_578052)
                              · have r578166 : o578124.toInt ≠ 0 := gj_neq hc578127 (show Int32.toInt 0 = 0 by decide)
                                have bo578124' : gB o578124 1 1 := gB_t1 bo578124 r578166
                                refine G_aload_n 5 dr_cX17_weigh_153 rfl ?_
                                have fq578167 : fR (F578048 q408007) 5 = (γ 9 5) := by rw [he578060]; rfl
                                refine Gp_get 5 hm578061 he578060 dr_cX17_weigh_154 (gk_X17 D I) (Nat.le_of_ble_eq_true rfl) wr_7_79 rfl ?_
                                refine G_aload 0 dr_cX17_weigh_157 rfl ?_
                                have fq578168 : fI (F578048 q577494) 2 = p578098 := by rw [he578095]; rfl
                                refine Gp_get 2 hm578094 he578095 dr_cX17_weigh_159 (gk_X15 D I) (Nat.le_of_ble_eq_true rfl) wr_9_186 rfl ?_
                                refine G_dup2_11 dr_cX17_weigh_162 rfl rfl ?_
                                have hm578169 : (γ 9 5) ∈ P408005 := RS_m hT578049 ht408037 (by decide)
                                obtain ⟨f578171, he578170⟩ := show rk_17 I (F578048 (γ 9 5)) from RS_o hT578049 ht408037
                                refine Gp_iald 0 hm578169 he578170 dr_cX17_weigh_163 rfl (gB_inr (by omega) (by omega)) (G_nam fun z578172 hz578172 => ?_)
                                have bz578172 : gB z578172 (-2147483648) 2147483647 := gB_any z578172
                                refine G_iload_n 3 dr_cX17_weigh_164 rfl ?_
                                refine G_iadd dr_cX17_weigh_165 (G_nam fun z578173 hz578173 => ?_)
                                have bz578173 : gB z578173 (-2147483648) 2147483647 := gB_any z578173
                                refine Gp_iast 0 hm578169 he578170 dr_cX17_weigh_166 rfl (gB_inr (by omega) (by omega)) (fun F578174 e578175 n578176 => ?_)
                                obtain ⟨f578177, hf578177⟩ : ∃ z, z = upd f578171 p578098.toNatClampNeg z578173 := ⟨_, rfl⟩
                                rw [← hf578177] at e578175
                                have he578178 : F578174 q408008 = .inr (18, [.ref q576290, .ref q576291, .int p576292, .int p576293]) := (n578176 q408008 (rn_oa he578055 he578170)).trans he578055
                                have he578179 : F578174 q576290 = .inr (4, [.int p577464, .ref q577466, .int p577465]) := (n578176 q576290 (rn_oa he578056 he578170)).trans he578056
                                have he578180 : F578174 q577466 = .inl (I (.object "java/lang/Object"), n577480, .inr (.inr (.inr (.inr f577481)))) := (n578176 q577466 (rn_ref_num he578057 he578170)).trans he578057
                                have he578181 : F578174 q577483 = .inr (17, [.ref q577493, .ref q577494, .int p577495, .int p577496]) := (n578176 q577483 (rn_oa he578058 he578170)).trans he578058
                                have he578182 : F578174 q408007 = .inr (22, [.ref (γ 9 0), .ref (γ 9 1), .ref (γ 9 2), .ref (γ 9 3), .ref (γ 9 4), .ref (γ 9 5), .ref (γ 9 6), .ref (γ 9 7), .ref (γ 9 8), .int p408015, .int p408016, .int p408017, .int p408018, .int p408019, .int p408020, .ref (γ 9 15), .ref (γ 9 16), .ref (γ 9 17), .ref (γ 9 18), .ref (γ 9 19), .ref (γ 9 20), .ref (γ 9 21), .ref (γ 9 22), .int p408021, .int p408022, .int p408023, .int p408024, .int p408025, .ref q408013, .ref (γ 9 29), .int p408026, .ref (γ 9 31), .int p408027, .int p408028, .int p408029, .ref q408014]) := (n578176 q408007 (rn_oa he578060 he578170)).trans he578060
                                have he578183 : F578174 q577493 = .inr (4, [.int p578065, .ref q578067, .int p578066]) := (n578176 q577493 (rn_oa he578064 he578170)).trans he578064
                                have he578184 : F578174 q577494 = .inr (20, [.int p578096, .int p578097, .int p578098, .int p578099, .int p578100, .int p578101, .int p578102]) := (n578176 q577494 (rn_oa he578095 he578170)).trans he578095
                                have he578185 : F578174 (γ 9 5) = .inl (I .int, 2000, .inl f578177) := e578175
                                have hs578186 : rStr γ [] F408006 F578174 := rStr_put hs578050 n578176 ht408037 (by decide)
                                have kp578187 : F578174 q408007 = F408006 q408007 := (n578176 q408007 (rn_ty htq408007 ht408037 (by decide))).trans x578051
                                have kp578188 : F578174 (γ 9 3) = F408006 (γ 9 3) := (n578176 (γ 9 3) (rn_ty ht408035 ht408037 (by decide))).trans x578052
                                refine G_aload 0 dr_cX17_weigh_167 rfl ?_
                                have hT578189 : RS D I P408005 F578174 γ el := RS_set hT578049 n578176 ht408037 (by decide) ⟨f578177, he578185⟩
                                have fq578190 : fI (F578174 q577494) 0 = p578096 := by rw [he578184]; rfl
                                have fq578191 : fI (F578174 q577494) 6 = p578102 := by rw [he578184]; rfl
                                refine Gw_callV (As := []) (gV_ok D I) (cp_1699_Row_usesB l hl0 D I P408005 F578174 q577494 p578096 p578097 p578098 p578099 p578100 p578101 p578102 hm578094 he578184 bp578096 bp578097 bp578100 bp578101 bp578102) dr_cX17_weigh_169 ⟨wr_10_196, wr_1_39, wr_10_199, by decide, rfl, (Nat.le_of_ble_eq_true rfl), (Nat.le_of_ble_eq_true rfl)⟩ wr_10_197 wr_10_198 hm578094 he578184 rfl (show 0 + 0 ≤ 0 by first | omega | decide) (show 0 + 0 ≤ 0 by first | omega | decide) (Nat.le_of_ble_eq_true rfl) (fun r578195 w578196 dc578192 ds578193 hp578194 => ?_) (fun _ _ _ _ _ z => z.elim)
                                obtain ⟨o578197, rfl, rfl, hdc, hds, bo578197, x578198, ht578199⟩ := hp578194
                                change G _ _ _ _ _ _ _ (.int o578197 :: _) _ _ _
                                refine G_widen (cs' := 0) (sl' := 0) (by omega) (by omega) ?_
                                refine G_if_eq 189 dr_cX17_weigh_172 (by decide +kernel) (fun hc578200 => ?_) (fun hc578200 => ?_)
                                · have r578201 : o578197.toInt = 0 := gj_eq hc578200 (show Int32.toInt 0 = 0 by decide)
                                  have bo578197' : gB o578197 0 0 := gB_t0 r578201
                                  obtain ⟨z578202, hz578202⟩ : ∃ z : Int32, z = g578047 + Int32.ofInt 1 := ⟨_, rfl⟩
                                  have ez578202 : z578202.toInt = g578047.toInt + 1 := gI_inc hz578202 (by decide) bg578047' (by decide) (by decide)
                                  have bz578202 : gB z578202 1 1000001 := ⟨by omega, by omega⟩
                                  refine G_iinc (L' := [(5, .int z578202), (6, .ref q577494), (4, .ref q577483), (3, .int g577452), (2, .int g576277), (0, .ref q408007), (1, .ref q408008)]) z578202 1 dr_cX17_weigh_189 rfl hz578202.symm (Nat.le_of_ble_eq_true rfl) rfl ?_
                                  refine G_goto 74 dr_cX17_weigh_192 (by decide +kernel) ?_
                                  refine G_lv (L' := [(5, .int z578202), (4, .ref q577483), (3, .int g577452), (2, .int g576277), (0, .ref q408007), (1, .ref q408008)]) [0, 2, 3, 4, 5, 6] rfl ?_
                                  exact ih74_578052 F578174 z578202 (gB_w bz578202 (by decide) (by decide)) hT578189 hs578186 kp578187 kp578188 (fun k e1 ht => kt74_578053 k e1 (fun R c1 c2 c3 c4 c5 c6 c7 c8 c9 c10 c11 c12 c13 c14 c15 c16 c17 => c4 F578048 g578047 q577493 p578066 q577494 p578096 o578114 p578101 o578124 p578098 f578171 z578172 z578173 f578177 F578174 p578102 o578197 z578202 k e1 bg578047 hT578049 hs578050 x578051 x578052 fq578062 fq578073 fq578074 r578084 fq578085 r578092 fq578093 fq578108 bo578114 ht578115 r578117 fq578118 bo578124 ht578126 r578166 fq578167 fq578168 he578170 hz578172 hz578173 hf578177 n578176 he578185 fq578190 fq578191 bo578197 ht578199 r578201 ez578202 (ht R c1 c2 c3 c4 c5 c6 c7 c8 c9 c10 c11 c12 c13 c14 c15 c16 c17))) (mz_up ez578202 (Int.le_trans bg578047'.2 (by decide)) hm74_578052)
                                · have r578203 : o578197.toInt ≠ 0 := gj_neq hc578200 (show Int32.toInt 0 = 0 by decide)
                                  have bo578197' : gB o578197 1 1 := gB_t1 bo578197 r578203
                                  refine G_aload_n 5 dr_cX17_weigh_175 rfl ?_
                                  have fq578204 : fR (F578174 q408007) 5 = (γ 9 5) := by rw [he578182]; rfl
                                  refine Gp_get 5 hm578061 he578182 dr_cX17_weigh_176 (gk_X17 D I) (Nat.le_of_ble_eq_true rfl) wr_7_79 rfl ?_
                                  refine G_aload 0 dr_cX17_weigh_179 rfl ?_
                                  have fq578205 : fI (F578174 q577494) 3 = p578099 := by rw [he578184]; rfl
                                  refine Gp_get 3 hm578094 he578184 dr_cX17_weigh_181 (gk_X15 D I) (Nat.le_of_ble_eq_true rfl) wr_9_190 rfl ?_
                                  refine G_dup2_11 dr_cX17_weigh_184 rfl rfl ?_
                                  refine Gp_iald 0 hm578169 he578185 dr_cX17_weigh_185 rfl (gB_inr (by omega) (by omega)) (G_nam fun z578206 hz578206 => ?_)
                                  have bz578206 : gB z578206 (-2147483648) 2147483647 := gB_any z578206
                                  refine G_iload_n 3 dr_cX17_weigh_186 rfl ?_
                                  refine G_iadd dr_cX17_weigh_187 (G_nam fun z578207 hz578207 => ?_)
                                  have bz578207 : gB z578207 (-2147483648) 2147483647 := gB_any z578207
                                  refine Gp_iast 0 hm578169 he578185 dr_cX17_weigh_188 rfl (gB_inr (by omega) (by omega)) (fun F578208 e578209 n578210 => ?_)
                                  obtain ⟨f578211, hf578211⟩ : ∃ z, z = upd f578177 p578099.toNatClampNeg z578207 := ⟨_, rfl⟩
                                  rw [← hf578211] at e578209
                                  have he578212 : F578208 q408008 = .inr (18, [.ref q576290, .ref q576291, .int p576292, .int p576293]) := (n578210 q408008 (rn_oa he578178 he578185)).trans he578178
                                  have he578213 : F578208 q576290 = .inr (4, [.int p577464, .ref q577466, .int p577465]) := (n578210 q576290 (rn_oa he578179 he578185)).trans he578179
                                  have he578214 : F578208 q577466 = .inl (I (.object "java/lang/Object"), n577480, .inr (.inr (.inr (.inr f577481)))) := (n578210 q577466 (rn_ref_num he578180 he578185)).trans he578180
                                  have he578215 : F578208 q577483 = .inr (17, [.ref q577493, .ref q577494, .int p577495, .int p577496]) := (n578210 q577483 (rn_oa he578181 he578185)).trans he578181
                                  have he578216 : F578208 q408007 = .inr (22, [.ref (γ 9 0), .ref (γ 9 1), .ref (γ 9 2), .ref (γ 9 3), .ref (γ 9 4), .ref (γ 9 5), .ref (γ 9 6), .ref (γ 9 7), .ref (γ 9 8), .int p408015, .int p408016, .int p408017, .int p408018, .int p408019, .int p408020, .ref (γ 9 15), .ref (γ 9 16), .ref (γ 9 17), .ref (γ 9 18), .ref (γ 9 19), .ref (γ 9 20), .ref (γ 9 21), .ref (γ 9 22), .int p408021, .int p408022, .int p408023, .int p408024, .int p408025, .ref q408013, .ref (γ 9 29), .int p408026, .ref (γ 9 31), .int p408027, .int p408028, .int p408029, .ref q408014]) := (n578210 q408007 (rn_oa he578182 he578185)).trans he578182
                                  have he578217 : F578208 q577493 = .inr (4, [.int p578065, .ref q578067, .int p578066]) := (n578210 q577493 (rn_oa he578183 he578185)).trans he578183
                                  have he578218 : F578208 q577494 = .inr (20, [.int p578096, .int p578097, .int p578098, .int p578099, .int p578100, .int p578101, .int p578102]) := (n578210 q577494 (rn_oa he578184 he578185)).trans he578184
                                  have he578219 : F578208 (γ 9 5) = .inl (I .int, 2000, .inl f578211) := e578209
                                  have hs578220 : rStr γ [] F408006 F578208 := rStr_put hs578186 n578210 ht408037 (by decide)
                                  have kp578221 : F578208 q408007 = F408006 q408007 := (n578210 q408007 (rn_ty htq408007 ht408037 (by decide))).trans kp578187
                                  have kp578222 : F578208 (γ 9 3) = F408006 (γ 9 3) := (n578210 (γ 9 3) (rn_ty ht408035 ht408037 (by decide))).trans kp578188
                                  obtain ⟨z578223, hz578223⟩ : ∃ z : Int32, z = g578047 + Int32.ofInt 1 := ⟨_, rfl⟩
                                  have ez578223 : z578223.toInt = g578047.toInt + 1 := gI_inc hz578223 (by decide) bg578047' (by decide) (by decide)
                                  have bz578223 : gB z578223 1 1000001 := ⟨by omega, by omega⟩
                                  refine G_iinc (L' := [(5, .int z578223), (6, .ref q577494), (4, .ref q577483), (3, .int g577452), (2, .int g576277), (0, .ref q408007), (1, .ref q408008)]) z578223 1 dr_cX17_weigh_189 rfl hz578223.symm (Nat.le_of_ble_eq_true rfl) rfl ?_
                                  refine G_goto 74 dr_cX17_weigh_192 (by decide +kernel) ?_
                                  have hT578224 : RS D I P408005 F578208 γ el := RS_set hT578189 n578210 ht408037 (by decide) ⟨f578211, he578219⟩
                                  refine G_lv (L' := [(5, .int z578223), (4, .ref q577483), (3, .int g577452), (2, .int g576277), (0, .ref q408007), (1, .ref q408008)]) [0, 2, 3, 4, 5, 6] rfl ?_
                                  exact ih74_578052 F578208 z578223 (gB_w bz578223 (by decide) (by decide)) hT578224 hs578220 kp578221 kp578222 (fun k e1 ht => kt74_578053 k e1 (fun R c1 c2 c3 c4 c5 c6 c7 c8 c9 c10 c11 c12 c13 c14 c15 c16 c17 => c5 F578048 g578047 q577493 p578066 q577494 p578096 o578114 p578101 o578124 p578098 f578171 z578172 z578173 f578177 F578174 p578102 o578197 p578099 z578206 z578207 f578211 F578208 z578223 k e1 bg578047 hT578049 hs578050 x578051 x578052 fq578062 fq578073 fq578074 r578084 fq578085 r578092 fq578093 fq578108 bo578114 ht578115 r578117 fq578118 bo578124 ht578126 r578166 fq578167 fq578168 he578170 hz578172 hz578173 hf578177 n578176 he578185 fq578190 fq578191 bo578197 ht578199 r578203 fq578204 fq578205 he578185 hz578206 hz578207 hf578211 n578210 he578219 ez578223 (ht R c1 c2 c3 c4 c5 c6 c7 c8 c9 c10 c11 c12 c13 c14 c15 c16 c17))) (mz_up ez578223 (Int.le_trans bg578047'.2 (by decide)) hm74_578052)
                            · have r578225 : o578114.toInt ≠ 0 := gj_neq hc578116 (show Int32.toInt 0 = 0 by decide)
                              have bo578114' : gB o578114 1 1 := gB_t1 bo578114 r578225
                              refine G_aload_n 5 dr_cX17_weigh_131 rfl ?_
                              have fq578226 : fR (F578048 q408007) 5 = (γ 9 5) := by rw [he578060]; rfl
                              refine Gp_get 5 hm578061 he578060 dr_cX17_weigh_132 (gk_X17 D I) (Nat.le_of_ble_eq_true rfl) wr_7_79 rfl ?_
                              refine G_aload 0 dr_cX17_weigh_135 rfl ?_
                              have fq578227 : fI (F578048 q577494) 1 = p578097 := by rw [he578095]; rfl
                              refine Gp_get 1 hm578094 he578095 dr_cX17_weigh_137 (gk_X15 D I) (Nat.le_of_ble_eq_true rfl) wr_9_182 rfl ?_
                              refine G_dup2_11 dr_cX17_weigh_140 rfl rfl ?_
                              have hm578228 : (γ 9 5) ∈ P408005 := RS_m hT578049 ht408037 (by decide)
                              obtain ⟨f578230, he578229⟩ := show rk_17 I (F578048 (γ 9 5)) from RS_o hT578049 ht408037
                              refine Gp_iald 0 hm578228 he578229 dr_cX17_weigh_141 rfl (gB_in bp578097 (by decide) (by decide)) (G_nam fun z578231 hz578231 => ?_)
                              have bz578231 : gB z578231 (-2147483648) 2147483647 := gB_any z578231
                              refine G_iload_n 3 dr_cX17_weigh_142 rfl ?_
                              refine G_iadd dr_cX17_weigh_143 (G_nam fun z578232 hz578232 => ?_)
                              have bz578232 : gB z578232 (-2147483648) 2147483647 := gB_any z578232
                              refine Gp_iast 0 hm578228 he578229 dr_cX17_weigh_144 rfl (gB_in bp578097 (by decide) (by decide)) (fun F578233 e578234 n578235 => ?_)
                              obtain ⟨f578236, hf578236⟩ : ∃ z, z = upd f578230 p578097.toNatClampNeg z578232 := ⟨_, rfl⟩
                              rw [← hf578236] at e578234
                              have he578237 : F578233 q408008 = .inr (18, [.ref q576290, .ref q576291, .int p576292, .int p576293]) := (n578235 q408008 (rn_oa he578055 he578229)).trans he578055
                              have he578238 : F578233 q576290 = .inr (4, [.int p577464, .ref q577466, .int p577465]) := (n578235 q576290 (rn_oa he578056 he578229)).trans he578056
                              have he578239 : F578233 q577466 = .inl (I (.object "java/lang/Object"), n577480, .inr (.inr (.inr (.inr f577481)))) := (n578235 q577466 (rn_ref_num he578057 he578229)).trans he578057
                              have he578240 : F578233 q577483 = .inr (17, [.ref q577493, .ref q577494, .int p577495, .int p577496]) := (n578235 q577483 (rn_oa he578058 he578229)).trans he578058
                              have he578241 : F578233 q408007 = .inr (22, [.ref (γ 9 0), .ref (γ 9 1), .ref (γ 9 2), .ref (γ 9 3), .ref (γ 9 4), .ref (γ 9 5), .ref (γ 9 6), .ref (γ 9 7), .ref (γ 9 8), .int p408015, .int p408016, .int p408017, .int p408018, .int p408019, .int p408020, .ref (γ 9 15), .ref (γ 9 16), .ref (γ 9 17), .ref (γ 9 18), .ref (γ 9 19), .ref (γ 9 20), .ref (γ 9 21), .ref (γ 9 22), .int p408021, .int p408022, .int p408023, .int p408024, .int p408025, .ref q408013, .ref (γ 9 29), .int p408026, .ref (γ 9 31), .int p408027, .int p408028, .int p408029, .ref q408014]) := (n578235 q408007 (rn_oa he578060 he578229)).trans he578060
                              have he578242 : F578233 q577493 = .inr (4, [.int p578065, .ref q578067, .int p578066]) := (n578235 q577493 (rn_oa he578064 he578229)).trans he578064
                              have he578243 : F578233 q577494 = .inr (20, [.int p578096, .int p578097, .int p578098, .int p578099, .int p578100, .int p578101, .int p578102]) := (n578235 q577494 (rn_oa he578095 he578229)).trans he578095
                              have he578244 : F578233 (γ 9 5) = .inl (I .int, 2000, .inl f578236) := e578234
                              have hs578245 : rStr γ [] F408006 F578233 := rStr_put hs578050 n578235 ht408037 (by decide)
                              have kp578246 : F578233 q408007 = F408006 q408007 := (n578235 q408007 (rn_ty htq408007 ht408037 (by decide))).trans x578051
                              have kp578247 : F578233 (γ 9 3) = F408006 (γ 9 3) := (n578235 (γ 9 3) (rn_ty ht408035 ht408037 (by decide))).trans x578052
                              refine G_aload 0 dr_cX17_weigh_145 rfl ?_
                              have hT578248 : RS D I P408005 F578233 γ el := RS_set hT578049 n578235 ht408037 (by decide) ⟨f578236, he578244⟩
                              have fq578249 : fI (F578233 q577494) 0 = p578096 := by rw [he578243]; rfl
                              have fq578250 : fI (F578233 q577494) 5 = p578101 := by rw [he578243]; rfl
                              refine Gw_callV (As := []) (gV_ok D I) (cp_1675_Row_usesA l hl0 D I P408005 F578233 q577494 p578096 p578097 p578098 p578099 p578100 p578101 p578102 hm578094 he578243 bp578096 bp578097 bp578100 bp578101 bp578102) dr_cX17_weigh_147 ⟨wr_10_192, wr_1_39, wr_10_195, by decide, rfl, (Nat.le_of_ble_eq_true rfl), (Nat.le_of_ble_eq_true rfl)⟩ wr_10_193 wr_10_194 hm578094 he578243 rfl (show 0 + 0 ≤ 0 by first | omega | decide) (show 0 + 0 ≤ 0 by first | omega | decide) (Nat.le_of_ble_eq_true rfl) (fun r578254 w578255 dc578251 ds578252 hp578253 => ?_) (fun _ _ _ _ _ z => z.elim)
                              obtain ⟨o578256, rfl, rfl, hdc, hds, bo578256, x578257, ht578258⟩ := hp578253
                              change G _ _ _ _ _ _ _ (.int o578256 :: _) _ _ _
                              refine G_widen (cs' := 0) (sl' := 0) (by omega) (by omega) ?_
                              refine G_if_eq 167 dr_cX17_weigh_150 (by decide +kernel) (fun hc578259 => ?_) (fun hc578259 => ?_)
                              · have r578260 : o578256.toInt = 0 := gj_eq hc578259 (show Int32.toInt 0 = 0 by decide)
                                have bo578256' : gB o578256 0 0 := gB_t0 r578260
                                refine G_aload 0 dr_cX17_weigh_167 rfl ?_
                                have fq578261 : fI (F578233 q577494) 6 = p578102 := by rw [he578243]; rfl
                                refine Gw_callV (As := []) (gV_ok D I) (cp_1699_Row_usesB l hl0 D I P408005 F578233 q577494 p578096 p578097 p578098 p578099 p578100 p578101 p578102 hm578094 he578243 bp578096 bp578097 bp578100 bp578101 bp578102) dr_cX17_weigh_169 ⟨wr_10_196, wr_1_39, wr_10_199, by decide, rfl, (Nat.le_of_ble_eq_true rfl), (Nat.le_of_ble_eq_true rfl)⟩ wr_10_197 wr_10_198 hm578094 he578243 rfl (show 0 + 0 ≤ 0 by first | omega | decide) (show 0 + 0 ≤ 0 by first | omega | decide) (Nat.le_of_ble_eq_true rfl) (fun r578265 w578266 dc578262 ds578263 hp578264 => ?_) (fun _ _ _ _ _ z => z.elim)
                                obtain ⟨o578267, rfl, rfl, hdc, hds, bo578267, x578268, ht578269⟩ := hp578264
                                change G _ _ _ _ _ _ _ (.int o578267 :: _) _ _ _
                                refine G_widen (cs' := 0) (sl' := 0) (by omega) (by omega) ?_
                                refine G_if_eq 189 dr_cX17_weigh_172 (by decide +kernel) (fun hc578270 => ?_) (fun hc578270 => ?_)
                                · have r578271 : o578267.toInt = 0 := gj_eq hc578270 (show Int32.toInt 0 = 0 by decide)
                                  have bo578267' : gB o578267 0 0 := gB_t0 r578271
                                  obtain ⟨z578272, hz578272⟩ : ∃ z : Int32, z = g578047 + Int32.ofInt 1 := ⟨_, rfl⟩
                                  have ez578272 : z578272.toInt = g578047.toInt + 1 := gI_inc hz578272 (by decide) bg578047' (by decide) (by decide)
                                  have bz578272 : gB z578272 1 1000001 := ⟨by omega, by omega⟩
                                  refine G_iinc (L' := [(5, .int z578272), (6, .ref q577494), (4, .ref q577483), (3, .int g577452), (2, .int g576277), (0, .ref q408007), (1, .ref q408008)]) z578272 1 dr_cX17_weigh_189 rfl hz578272.symm (Nat.le_of_ble_eq_true rfl) rfl ?_
                                  refine G_goto 74 dr_cX17_weigh_192 (by decide +kernel) ?_
                                  refine G_lv (L' := [(5, .int z578272), (4, .ref q577483), (3, .int g577452), (2, .int g576277), (0, .ref q408007), (1, .ref q408008)]) [0, 2, 3, 4, 5, 6] rfl ?_
                                  exact ih74_578052 F578233 z578272 (gB_w bz578272 (by decide) (by decide)) hT578248 hs578245 kp578246 kp578247 (fun k e1 ht => kt74_578053 k e1 (fun R c1 c2 c3 c4 c5 c6 c7 c8 c9 c10 c11 c12 c13 c14 c15 c16 c17 => c6 F578048 g578047 q577493 p578066 q577494 p578096 o578114 p578097 f578230 z578231 z578232 f578236 F578233 p578101 o578256 p578102 o578267 z578272 k e1 bg578047 hT578049 hs578050 x578051 x578052 fq578062 fq578073 fq578074 r578084 fq578085 r578092 fq578093 fq578108 bo578114 ht578115 r578225 fq578226 fq578227 he578229 hz578231 hz578232 hf578236 n578235 he578244 fq578249 fq578250 bo578256 ht578258 r578260 fq578261 bo578267 ht578269 r578271 ez578272 (ht R c1 c2 c3 c4 c5 c6 c7 c8 c9 c10 c11 c12 c13 c14 c15 c16 c17))) (mz_up ez578272 (Int.le_trans bg578047'.2 (by decide)) hm74_578052)
                                · have r578273 : o578267.toInt ≠ 0 := gj_neq hc578270 (show Int32.toInt 0 = 0 by decide)
                                  have bo578267' : gB o578267 1 1 := gB_t1 bo578267 r578273
                                  refine G_aload_n 5 dr_cX17_weigh_175 rfl ?_
                                  have fq578274 : fR (F578233 q408007) 5 = (γ 9 5) := by rw [he578241]; rfl
                                  refine Gp_get 5 hm578061 he578241 dr_cX17_weigh_176 (gk_X17 D I) (Nat.le_of_ble_eq_true rfl) wr_7_79 rfl ?_
                                  refine G_aload 0 dr_cX17_weigh_179 rfl ?_
                                  have fq578275 : fI (F578233 q577494) 3 = p578099 := by rw [he578243]; rfl
                                  refine Gp_get 3 hm578094 he578243 dr_cX17_weigh_181 (gk_X15 D I) (Nat.le_of_ble_eq_true rfl) wr_9_190 rfl ?_
                                  refine G_dup2_11 dr_cX17_weigh_184 rfl rfl ?_
                                  refine Gp_iald 0 hm578228 he578244 dr_cX17_weigh_185 rfl (gB_inr (by omega) (by omega)) (G_nam fun z578276 hz578276 => ?_)
                                  have bz578276 : gB z578276 (-2147483648) 2147483647 := gB_any z578276
                                  refine G_iload_n 3 dr_cX17_weigh_186 rfl ?_
                                  refine G_iadd dr_cX17_weigh_187 (G_nam fun z578277 hz578277 => ?_)
                                  have bz578277 : gB z578277 (-2147483648) 2147483647 := gB_any z578277
                                  refine Gp_iast 0 hm578228 he578244 dr_cX17_weigh_188 rfl (gB_inr (by omega) (by omega)) (fun F578278 e578279 n578280 => ?_)
                                  obtain ⟨f578281, hf578281⟩ : ∃ z, z = upd f578236 p578099.toNatClampNeg z578277 := ⟨_, rfl⟩
                                  rw [← hf578281] at e578279
                                  have he578282 : F578278 q408008 = .inr (18, [.ref q576290, .ref q576291, .int p576292, .int p576293]) := (n578280 q408008 (rn_oa he578237 he578244)).trans he578237
                                  have he578283 : F578278 q576290 = .inr (4, [.int p577464, .ref q577466, .int p577465]) := (n578280 q576290 (rn_oa he578238 he578244)).trans he578238
                                  have he578284 : F578278 q577466 = .inl (I (.object "java/lang/Object"), n577480, .inr (.inr (.inr (.inr f577481)))) := (n578280 q577466 (rn_ref_num he578239 he578244)).trans he578239
                                  have he578285 : F578278 q577483 = .inr (17, [.ref q577493, .ref q577494, .int p577495, .int p577496]) := (n578280 q577483 (rn_oa he578240 he578244)).trans he578240
                                  have he578286 : F578278 q408007 = .inr (22, [.ref (γ 9 0), .ref (γ 9 1), .ref (γ 9 2), .ref (γ 9 3), .ref (γ 9 4), .ref (γ 9 5), .ref (γ 9 6), .ref (γ 9 7), .ref (γ 9 8), .int p408015, .int p408016, .int p408017, .int p408018, .int p408019, .int p408020, .ref (γ 9 15), .ref (γ 9 16), .ref (γ 9 17), .ref (γ 9 18), .ref (γ 9 19), .ref (γ 9 20), .ref (γ 9 21), .ref (γ 9 22), .int p408021, .int p408022, .int p408023, .int p408024, .int p408025, .ref q408013, .ref (γ 9 29), .int p408026, .ref (γ 9 31), .int p408027, .int p408028, .int p408029, .ref q408014]) := (n578280 q408007 (rn_oa he578241 he578244)).trans he578241
                                  have he578287 : F578278 q577493 = .inr (4, [.int p578065, .ref q578067, .int p578066]) := (n578280 q577493 (rn_oa he578242 he578244)).trans he578242
                                  have he578288 : F578278 q577494 = .inr (20, [.int p578096, .int p578097, .int p578098, .int p578099, .int p578100, .int p578101, .int p578102]) := (n578280 q577494 (rn_oa he578243 he578244)).trans he578243
                                  have he578289 : F578278 (γ 9 5) = .inl (I .int, 2000, .inl f578281) := e578279
                                  have hs578290 : rStr γ [] F408006 F578278 := rStr_put hs578245 n578280 ht408037 (by decide)
                                  have kp578291 : F578278 q408007 = F408006 q408007 := (n578280 q408007 (rn_ty htq408007 ht408037 (by decide))).trans kp578246
                                  have kp578292 : F578278 (γ 9 3) = F408006 (γ 9 3) := (n578280 (γ 9 3) (rn_ty ht408035 ht408037 (by decide))).trans kp578247
                                  obtain ⟨z578293, hz578293⟩ : ∃ z : Int32, z = g578047 + Int32.ofInt 1 := ⟨_, rfl⟩
                                  have ez578293 : z578293.toInt = g578047.toInt + 1 := gI_inc hz578293 (by decide) bg578047' (by decide) (by decide)
                                  have bz578293 : gB z578293 1 1000001 := ⟨by omega, by omega⟩
                                  refine G_iinc (L' := [(5, .int z578293), (6, .ref q577494), (4, .ref q577483), (3, .int g577452), (2, .int g576277), (0, .ref q408007), (1, .ref q408008)]) z578293 1 dr_cX17_weigh_189 rfl hz578293.symm (Nat.le_of_ble_eq_true rfl) rfl ?_
                                  refine G_goto 74 dr_cX17_weigh_192 (by decide +kernel) ?_
                                  have hT578294 : RS D I P408005 F578278 γ el := RS_set hT578248 n578280 ht408037 (by decide) ⟨f578281, he578289⟩
                                  refine G_lv (L' := [(5, .int z578293), (4, .ref q577483), (3, .int g577452), (2, .int g576277), (0, .ref q408007), (1, .ref q408008)]) [0, 2, 3, 4, 5, 6] rfl ?_
                                  exact ih74_578052 F578278 z578293 (gB_w bz578293 (by decide) (by decide)) hT578294 hs578290 kp578291 kp578292 (fun k e1 ht => kt74_578053 k e1 (fun R c1 c2 c3 c4 c5 c6 c7 c8 c9 c10 c11 c12 c13 c14 c15 c16 c17 => c7 F578048 g578047 q577493 p578066 q577494 p578096 o578114 p578097 f578230 z578231 z578232 f578236 F578233 p578101 o578256 p578102 o578267 p578099 z578276 z578277 f578281 F578278 z578293 k e1 bg578047 hT578049 hs578050 x578051 x578052 fq578062 fq578073 fq578074 r578084 fq578085 r578092 fq578093 fq578108 bo578114 ht578115 r578225 fq578226 fq578227 he578229 hz578231 hz578232 hf578236 n578235 he578244 fq578249 fq578250 bo578256 ht578258 r578260 fq578261 bo578267 ht578269 r578273 fq578274 fq578275 he578244 hz578276 hz578277 hf578281 n578280 he578289 ez578293 (ht R c1 c2 c3 c4 c5 c6 c7 c8 c9 c10 c11 c12 c13 c14 c15 c16 c17))) (mz_up ez578293 (Int.le_trans bg578047'.2 (by decide)) hm74_578052)
                              · have r578295 : o578256.toInt ≠ 0 := gj_neq hc578259 (show Int32.toInt 0 = 0 by decide)
                                have bo578256' : gB o578256 1 1 := gB_t1 bo578256 r578295
                                refine G_aload_n 5 dr_cX17_weigh_153 rfl ?_
                                have fq578296 : fR (F578233 q408007) 5 = (γ 9 5) := by rw [he578241]; rfl
                                refine Gp_get 5 hm578061 he578241 dr_cX17_weigh_154 (gk_X17 D I) (Nat.le_of_ble_eq_true rfl) wr_7_79 rfl ?_
                                refine G_aload 0 dr_cX17_weigh_157 rfl ?_
                                have fq578297 : fI (F578233 q577494) 2 = p578098 := by rw [he578243]; rfl
                                refine Gp_get 2 hm578094 he578243 dr_cX17_weigh_159 (gk_X15 D I) (Nat.le_of_ble_eq_true rfl) wr_9_186 rfl ?_
                                refine G_dup2_11 dr_cX17_weigh_162 rfl rfl ?_
                                refine Gp_iald 0 hm578228 he578244 dr_cX17_weigh_163 rfl (gB_inr (by omega) (by omega)) (G_nam fun z578298 hz578298 => ?_)
                                have bz578298 : gB z578298 (-2147483648) 2147483647 := gB_any z578298
                                refine G_iload_n 3 dr_cX17_weigh_164 rfl ?_
                                refine G_iadd dr_cX17_weigh_165 (G_nam fun z578299 hz578299 => ?_)
                                have bz578299 : gB z578299 (-2147483648) 2147483647 := gB_any z578299
                                refine Gp_iast 0 hm578228 he578244 dr_cX17_weigh_166 rfl (gB_inr (by omega) (by omega)) (fun F578300 e578301 n578302 => ?_)
                                obtain ⟨f578303, hf578303⟩ : ∃ z, z = upd f578236 p578098.toNatClampNeg z578299 := ⟨_, rfl⟩
                                rw [← hf578303] at e578301
                                have he578304 : F578300 q408008 = .inr (18, [.ref q576290, .ref q576291, .int p576292, .int p576293]) := (n578302 q408008 (rn_oa he578237 he578244)).trans he578237
                                have he578305 : F578300 q576290 = .inr (4, [.int p577464, .ref q577466, .int p577465]) := (n578302 q576290 (rn_oa he578238 he578244)).trans he578238
                                have he578306 : F578300 q577466 = .inl (I (.object "java/lang/Object"), n577480, .inr (.inr (.inr (.inr f577481)))) := (n578302 q577466 (rn_ref_num he578239 he578244)).trans he578239
                                have he578307 : F578300 q577483 = .inr (17, [.ref q577493, .ref q577494, .int p577495, .int p577496]) := (n578302 q577483 (rn_oa he578240 he578244)).trans he578240
                                have he578308 : F578300 q408007 = .inr (22, [.ref (γ 9 0), .ref (γ 9 1), .ref (γ 9 2), .ref (γ 9 3), .ref (γ 9 4), .ref (γ 9 5), .ref (γ 9 6), .ref (γ 9 7), .ref (γ 9 8), .int p408015, .int p408016, .int p408017, .int p408018, .int p408019, .int p408020, .ref (γ 9 15), .ref (γ 9 16), .ref (γ 9 17), .ref (γ 9 18), .ref (γ 9 19), .ref (γ 9 20), .ref (γ 9 21), .ref (γ 9 22), .int p408021, .int p408022, .int p408023, .int p408024, .int p408025, .ref q408013, .ref (γ 9 29), .int p408026, .ref (γ 9 31), .int p408027, .int p408028, .int p408029, .ref q408014]) := (n578302 q408007 (rn_oa he578241 he578244)).trans he578241
                                have he578309 : F578300 q577493 = .inr (4, [.int p578065, .ref q578067, .int p578066]) := (n578302 q577493 (rn_oa he578242 he578244)).trans he578242
                                have he578310 : F578300 q577494 = .inr (20, [.int p578096, .int p578097, .int p578098, .int p578099, .int p578100, .int p578101, .int p578102]) := (n578302 q577494 (rn_oa he578243 he578244)).trans he578243
                                have he578311 : F578300 (γ 9 5) = .inl (I .int, 2000, .inl f578303) := e578301
                                have hs578312 : rStr γ [] F408006 F578300 := rStr_put hs578245 n578302 ht408037 (by decide)
                                have kp578313 : F578300 q408007 = F408006 q408007 := (n578302 q408007 (rn_ty htq408007 ht408037 (by decide))).trans kp578246
                                have kp578314 : F578300 (γ 9 3) = F408006 (γ 9 3) := (n578302 (γ 9 3) (rn_ty ht408035 ht408037 (by decide))).trans kp578247
                                refine G_aload 0 dr_cX17_weigh_167 rfl ?_
                                have hT578315 : RS D I P408005 F578300 γ el := RS_set hT578248 n578302 ht408037 (by decide) ⟨f578303, he578311⟩
                                have fq578316 : fI (F578300 q577494) 0 = p578096 := by rw [he578310]; rfl
                                have fq578317 : fI (F578300 q577494) 6 = p578102 := by rw [he578310]; rfl
                                refine Gw_callV (As := []) (gV_ok D I) (cp_1699_Row_usesB l hl0 D I P408005 F578300 q577494 p578096 p578097 p578098 p578099 p578100 p578101 p578102 hm578094 he578310 bp578096 bp578097 bp578100 bp578101 bp578102) dr_cX17_weigh_169 ⟨wr_10_196, wr_1_39, wr_10_199, by decide, rfl, (Nat.le_of_ble_eq_true rfl), (Nat.le_of_ble_eq_true rfl)⟩ wr_10_197 wr_10_198 hm578094 he578310 rfl (show 0 + 0 ≤ 0 by first | omega | decide) (show 0 + 0 ≤ 0 by first | omega | decide) (Nat.le_of_ble_eq_true rfl) (fun r578321 w578322 dc578318 ds578319 hp578320 => ?_) (fun _ _ _ _ _ z => z.elim)
                                obtain ⟨o578323, rfl, rfl, hdc, hds, bo578323, x578324, ht578325⟩ := hp578320
                                change G _ _ _ _ _ _ _ (.int o578323 :: _) _ _ _
                                refine G_widen (cs' := 0) (sl' := 0) (by omega) (by omega) ?_
                                refine G_if_eq 189 dr_cX17_weigh_172 (by decide +kernel) (fun hc578326 => ?_) (fun hc578326 => ?_)
                                · have r578327 : o578323.toInt = 0 := gj_eq hc578326 (show Int32.toInt 0 = 0 by decide)
                                  have bo578323' : gB o578323 0 0 := gB_t0 r578327
                                  obtain ⟨z578328, hz578328⟩ : ∃ z : Int32, z = g578047 + Int32.ofInt 1 := ⟨_, rfl⟩
                                  have ez578328 : z578328.toInt = g578047.toInt + 1 := gI_inc hz578328 (by decide) bg578047' (by decide) (by decide)
                                  have bz578328 : gB z578328 1 1000001 := ⟨by omega, by omega⟩
                                  refine G_iinc (L' := [(5, .int z578328), (6, .ref q577494), (4, .ref q577483), (3, .int g577452), (2, .int g576277), (0, .ref q408007), (1, .ref q408008)]) z578328 1 dr_cX17_weigh_189 rfl hz578328.symm (Nat.le_of_ble_eq_true rfl) rfl ?_
                                  refine G_goto 74 dr_cX17_weigh_192 (by decide +kernel) ?_
                                  refine G_lv (L' := [(5, .int z578328), (4, .ref q577483), (3, .int g577452), (2, .int g576277), (0, .ref q408007), (1, .ref q408008)]) [0, 2, 3, 4, 5, 6] rfl ?_
                                  exact ih74_578052 F578300 z578328 (gB_w bz578328 (by decide) (by decide)) hT578315 hs578312 kp578313 kp578314 (fun k e1 ht => kt74_578053 k e1 (fun R c1 c2 c3 c4 c5 c6 c7 c8 c9 c10 c11 c12 c13 c14 c15 c16 c17 => c8 F578048 g578047 q577493 p578066 q577494 p578096 o578114 p578097 f578230 z578231 z578232 f578236 F578233 p578101 o578256 p578098 z578298 z578299 f578303 F578300 p578102 o578323 z578328 k e1 bg578047 hT578049 hs578050 x578051 x578052 fq578062 fq578073 fq578074 r578084 fq578085 r578092 fq578093 fq578108 bo578114 ht578115 r578225 fq578226 fq578227 he578229 hz578231 hz578232 hf578236 n578235 he578244 fq578249 fq578250 bo578256 ht578258 r578295 fq578296 fq578297 he578244 hz578298 hz578299 hf578303 n578302 he578311 fq578316 fq578317 bo578323 ht578325 r578327 ez578328 (ht R c1 c2 c3 c4 c5 c6 c7 c8 c9 c10 c11 c12 c13 c14 c15 c16 c17))) (mz_up ez578328 (Int.le_trans bg578047'.2 (by decide)) hm74_578052)
                                · have r578329 : o578323.toInt ≠ 0 := gj_neq hc578326 (show Int32.toInt 0 = 0 by decide)
                                  have bo578323' : gB o578323 1 1 := gB_t1 bo578323 r578329
                                  refine G_aload_n 5 dr_cX17_weigh_175 rfl ?_
                                  have fq578330 : fR (F578300 q408007) 5 = (γ 9 5) := by rw [he578308]; rfl
                                  refine Gp_get 5 hm578061 he578308 dr_cX17_weigh_176 (gk_X17 D I) (Nat.le_of_ble_eq_true rfl) wr_7_79 rfl ?_
                                  refine G_aload 0 dr_cX17_weigh_179 rfl ?_
                                  have fq578331 : fI (F578300 q577494) 3 = p578099 := by rw [he578310]; rfl
                                  refine Gp_get 3 hm578094 he578310 dr_cX17_weigh_181 (gk_X15 D I) (Nat.le_of_ble_eq_true rfl) wr_9_190 rfl ?_
                                  refine G_dup2_11 dr_cX17_weigh_184 rfl rfl ?_
                                  refine Gp_iald 0 hm578228 he578311 dr_cX17_weigh_185 rfl (gB_inr (by omega) (by omega)) (G_nam fun z578332 hz578332 => ?_)
                                  have bz578332 : gB z578332 (-2147483648) 2147483647 := gB_any z578332
                                  refine G_iload_n 3 dr_cX17_weigh_186 rfl ?_
                                  refine G_iadd dr_cX17_weigh_187 (G_nam fun z578333 hz578333 => ?_)
                                  have bz578333 : gB z578333 (-2147483648) 2147483647 := gB_any z578333
                                  refine Gp_iast 0 hm578228 he578311 dr_cX17_weigh_188 rfl (gB_inr (by omega) (by omega)) (fun F578334 e578335 n578336 => ?_)
                                  obtain ⟨f578337, hf578337⟩ : ∃ z, z = upd f578303 p578099.toNatClampNeg z578333 := ⟨_, rfl⟩
                                  rw [← hf578337] at e578335
                                  have he578338 : F578334 q408008 = .inr (18, [.ref q576290, .ref q576291, .int p576292, .int p576293]) := (n578336 q408008 (rn_oa he578304 he578311)).trans he578304
                                  have he578339 : F578334 q576290 = .inr (4, [.int p577464, .ref q577466, .int p577465]) := (n578336 q576290 (rn_oa he578305 he578311)).trans he578305
                                  have he578340 : F578334 q577466 = .inl (I (.object "java/lang/Object"), n577480, .inr (.inr (.inr (.inr f577481)))) := (n578336 q577466 (rn_ref_num he578306 he578311)).trans he578306
                                  have he578341 : F578334 q577483 = .inr (17, [.ref q577493, .ref q577494, .int p577495, .int p577496]) := (n578336 q577483 (rn_oa he578307 he578311)).trans he578307
                                  have he578342 : F578334 q408007 = .inr (22, [.ref (γ 9 0), .ref (γ 9 1), .ref (γ 9 2), .ref (γ 9 3), .ref (γ 9 4), .ref (γ 9 5), .ref (γ 9 6), .ref (γ 9 7), .ref (γ 9 8), .int p408015, .int p408016, .int p408017, .int p408018, .int p408019, .int p408020, .ref (γ 9 15), .ref (γ 9 16), .ref (γ 9 17), .ref (γ 9 18), .ref (γ 9 19), .ref (γ 9 20), .ref (γ 9 21), .ref (γ 9 22), .int p408021, .int p408022, .int p408023, .int p408024, .int p408025, .ref q408013, .ref (γ 9 29), .int p408026, .ref (γ 9 31), .int p408027, .int p408028, .int p408029, .ref q408014]) := (n578336 q408007 (rn_oa he578308 he578311)).trans he578308
                                  have he578343 : F578334 q577493 = .inr (4, [.int p578065, .ref q578067, .int p578066]) := (n578336 q577493 (rn_oa he578309 he578311)).trans he578309
                                  have he578344 : F578334 q577494 = .inr (20, [.int p578096, .int p578097, .int p578098, .int p578099, .int p578100, .int p578101, .int p578102]) := (n578336 q577494 (rn_oa he578310 he578311)).trans he578310
                                  have he578345 : F578334 (γ 9 5) = .inl (I .int, 2000, .inl f578337) := e578335
                                  have hs578346 : rStr γ [] F408006 F578334 := rStr_put hs578312 n578336 ht408037 (by decide)
                                  have kp578347 : F578334 q408007 = F408006 q408007 := (n578336 q408007 (rn_ty htq408007 ht408037 (by decide))).trans kp578313
                                  have kp578348 : F578334 (γ 9 3) = F408006 (γ 9 3) := (n578336 (γ 9 3) (rn_ty ht408035 ht408037 (by decide))).trans kp578314
                                  obtain ⟨z578349, hz578349⟩ : ∃ z : Int32, z = g578047 + Int32.ofInt 1 := ⟨_, rfl⟩
                                  have ez578349 : z578349.toInt = g578047.toInt + 1 := gI_inc hz578349 (by decide) bg578047' (by decide) (by decide)
                                  have bz578349 : gB z578349 1 1000001 := ⟨by omega, by omega⟩
                                  refine G_iinc (L' := [(5, .int z578349), (6, .ref q577494), (4, .ref q577483), (3, .int g577452), (2, .int g576277), (0, .ref q408007), (1, .ref q408008)]) z578349 1 dr_cX17_weigh_189 rfl hz578349.symm (Nat.le_of_ble_eq_true rfl) rfl ?_
                                  refine G_goto 74 dr_cX17_weigh_192 (by decide +kernel) ?_
                                  have hT578350 : RS D I P408005 F578334 γ el := RS_set hT578315 n578336 ht408037 (by decide) ⟨f578337, he578345⟩
                                  refine G_lv (L' := [(5, .int z578349), (4, .ref q577483), (3, .int g577452), (2, .int g576277), (0, .ref q408007), (1, .ref q408008)]) [0, 2, 3, 4, 5, 6] rfl ?_
                                  exact ih74_578052 F578334 z578349 (gB_w bz578349 (by decide) (by decide)) hT578350 hs578346 kp578347 kp578348 (fun k e1 ht => kt74_578053 k e1 (fun R c1 c2 c3 c4 c5 c6 c7 c8 c9 c10 c11 c12 c13 c14 c15 c16 c17 => c9 F578048 g578047 q577493 p578066 q577494 p578096 o578114 p578097 f578230 z578231 z578232 f578236 F578233 p578101 o578256 p578098 z578298 z578299 f578303 F578300 p578102 o578323 p578099 z578332 z578333 f578337 F578334 z578349 k e1 bg578047 hT578049 hs578050 x578051 x578052 fq578062 fq578073 fq578074 r578084 fq578085 r578092 fq578093 fq578108 bo578114 ht578115 r578225 fq578226 fq578227 he578229 hz578231 hz578232 hf578236 n578235 he578244 fq578249 fq578250 bo578256 ht578258 r578295 fq578296 fq578297 he578244 hz578298 hz578299 hf578303 n578302 he578311 fq578316 fq578317 bo578323 ht578325 r578329 fq578330 fq578331 he578311 hz578332 hz578333 hf578337 n578336 he578345 ez578349 (ht R c1 c2 c3 c4 c5 c6 c7 c8 c9 c10 c11 c12 c13 c14 c15 c16 c17))) (mz_up ez578349 (Int.le_trans bg578047'.2 (by decide)) hm74_578052)
                          · have r578351 : g578047.toInt < p578066.toInt := gC_nle hc578091
                            have bg578047'' : gB g578047 0 999999 := ⟨by omega, by omega⟩
                            have bp578066' : gB p578066 1 1000000 := ⟨by omega, by omega⟩
                            refine G_aload 1 dr_cX17_weigh_100 rfl ?_
                            refine Gp_get 0 hm577491 he578058 dr_cX17_weigh_102 (gk_X12 D I) (Nat.le_of_ble_eq_true rfl) wr_9_220 rfl ?_
                            refine G_iload 0 dr_cX17_weigh_105 rfl ?_
                            obtain ⟨r578352, r578353, n578360, f578361, r578354, r578355, r578356, r578357, r578358, r578359⟩ := rLC_n r578070 (by omega)
                            have hm578362 : q578067 ∈ P408005 := RS_m hT578049 r578352 (by decide)
                            obtain ⟨q578363, hx578364⟩ : ∃ x, x = el q577493 g578047.toInt.toNat := ⟨_, rfl⟩
                            have hx578365 : f578361 g578047.toNatClampNeg = some q578363 := (r578358 _ (show g578047.toInt.toNat < γ 2 q577493 by omega)).trans (by rw [hx578364])
                            have ht578366 : rKd γ q578363 1 := by rw [hx578364]; exact (r578071 _ (show g578047.toInt.toNat < γ 2 q577493 by omega)).1
                            have ht578367 : rFm γ q578363 q577493 := by rw [hx578364]; exact (r578071 _ (show g578047.toInt.toNat < γ 2 q577493 by omega)).2.1
                            refine Gw_callV (As := [.int g578047]) (gV_ok D I) (cp_22_ArrayList_get l hl0 D I P408005 F578048 q577493 q578067 g578047 p578065 p578066 f578361 n578360 q578363 hm578063 hm578362 he578064 r578354 (gB_w bg578047'' (by decide) (by decide)) (gB_w bp578066' (by decide) (by decide)) (by omega) (by omega) (by assumption) (by omega)) dr_cX17_weigh_107 ⟨wr_10_201, wr_1_18, wr_10_65, by decide, rfl, (Nat.le_of_ble_eq_true rfl), (Nat.le_of_ble_eq_true rfl)⟩ wr_10_63 wr_10_64 hm578063 he578064 rfl (show 0 + 0 ≤ 0 by first | omega | decide) (show 0 + 0 ≤ 0 by first | omega | decide) (Nat.le_of_ble_eq_true rfl) (fun r578371 w578372 dc578368 ds578369 hp578370 => ?_) (fun _ _ _ _ _ z => z.elim)
                            obtain ⟨rfl, rfl, hdc, hds, ht578373⟩ := hp578370
                            change G _ _ _ _ _ _ _ (.ref q578363 :: _) _ _ _
                            refine G_widen (cs' := 0) (sl' := 0) (by omega) (by omega) ?_
                            have hm578374 : q578363 ∈ P408005 := RS_m hT578049 ht578366 (by decide)
                            obtain ⟨p578376, p578377, p578378, p578379, p578380, p578381, p578382, he578375, bp578376, bp578377, bp578380, bp578381, bp578382, r578383, r578384, r578385, r578386, r578387⟩ := show rk_1 γ q578363 (F578048 q578363) from RS_o hT578049 ht578366
                            have bp578378 := gB_any p578378
                            have bp578379 := gB_any p578379
                            refine Gp_cast hm578374 he578375 rfl dr_cX17_weigh_110 wr_10_202 (gr_cast 1 rfl) ?_
                            refine G_goto 121 dr_cX17_weigh_113 (by decide +kernel) ?_
                            refine G_astore (L' := [(6, .ref q578363), (5, .int g578047), (4, .ref q577483), (3, .int g577452), (2, .int g576277), (0, .ref q408007), (1, .ref q408008)]) dr_cX17_weigh_121 (Nat.le_of_ble_eq_true rfl) rfl ?_
                            refine G_aload 0 dr_cX17_weigh_123 rfl ?_
                            have fq578388 : fI (F578048 q578363) 0 = p578376 := by rw [he578375]; rfl
                            refine Gw_callV (As := []) (gV_ok D I) (cp_1660_Row_sets l hl0 D I P408005 F578048 q578363 p578376 p578377 p578378 p578379 p578380 p578381 p578382 hm578374 he578375 bp578376 bp578377 bp578380 bp578381 bp578382) dr_cX17_weigh_125 ⟨wr_10_181, wr_1_39, wr_10_184, by decide, rfl, (Nat.le_of_ble_eq_true rfl), (Nat.le_of_ble_eq_true rfl)⟩ wr_10_182 wr_10_183 hm578374 he578375 rfl (show 0 + 0 ≤ 0 by first | omega | decide) (show 0 + 0 ≤ 0 by first | omega | decide) (Nat.le_of_ble_eq_true rfl) (fun r578392 w578393 dc578389 ds578390 hp578391 => ?_) (fun _ _ _ _ _ z => z.elim)
                            obtain ⟨o578394, rfl, rfl, hdc, hds, bo578394, ht578395⟩ := hp578391
                            change G _ _ _ _ _ _ _ (.int o578394 :: _) _ _ _
                            refine G_widen (cs' := 0) (sl' := 0) (by omega) (by omega) ?_
                            refine G_if_eq 145 dr_cX17_weigh_128 (by decide +kernel) (fun hc578396 => ?_) (fun hc578396 => ?_)
                            · have r578397 : o578394.toInt = 0 := gj_eq hc578396 (show Int32.toInt 0 = 0 by decide)
                              have bo578394' : gB o578394 0 0 := gB_t0 r578397
                              refine G_aload 0 dr_cX17_weigh_145 rfl ?_
                              have fq578398 : fI (F578048 q578363) 5 = p578381 := by rw [he578375]; rfl
                              refine Gw_callV (As := []) (gV_ok D I) (cp_1675_Row_usesA l hl0 D I P408005 F578048 q578363 p578376 p578377 p578378 p578379 p578380 p578381 p578382 hm578374 he578375 bp578376 bp578377 bp578380 bp578381 bp578382) dr_cX17_weigh_147 ⟨wr_10_192, wr_1_39, wr_10_195, by decide, rfl, (Nat.le_of_ble_eq_true rfl), (Nat.le_of_ble_eq_true rfl)⟩ wr_10_193 wr_10_194 hm578374 he578375 rfl (show 0 + 0 ≤ 0 by first | omega | decide) (show 0 + 0 ≤ 0 by first | omega | decide) (Nat.le_of_ble_eq_true rfl) (fun r578402 w578403 dc578399 ds578400 hp578401 => ?_) (fun _ _ _ _ _ z => z.elim)
                              obtain ⟨o578404, rfl, rfl, hdc, hds, bo578404, x578405, ht578406⟩ := hp578401
                              change G _ _ _ _ _ _ _ (.int o578404 :: _) _ _ _
                              refine G_widen (cs' := 0) (sl' := 0) (by omega) (by omega) ?_
                              refine G_if_eq 167 dr_cX17_weigh_150 (by decide +kernel) (fun hc578407 => ?_) (fun hc578407 => ?_)
                              · have r578408 : o578404.toInt = 0 := gj_eq hc578407 (show Int32.toInt 0 = 0 by decide)
                                have bo578404' : gB o578404 0 0 := gB_t0 r578408
                                refine G_aload 0 dr_cX17_weigh_167 rfl ?_
                                have fq578409 : fI (F578048 q578363) 6 = p578382 := by rw [he578375]; rfl
                                refine Gw_callV (As := []) (gV_ok D I) (cp_1699_Row_usesB l hl0 D I P408005 F578048 q578363 p578376 p578377 p578378 p578379 p578380 p578381 p578382 hm578374 he578375 bp578376 bp578377 bp578380 bp578381 bp578382) dr_cX17_weigh_169 ⟨wr_10_196, wr_1_39, wr_10_199, by decide, rfl, (Nat.le_of_ble_eq_true rfl), (Nat.le_of_ble_eq_true rfl)⟩ wr_10_197 wr_10_198 hm578374 he578375 rfl (show 0 + 0 ≤ 0 by first | omega | decide) (show 0 + 0 ≤ 0 by first | omega | decide) (Nat.le_of_ble_eq_true rfl) (fun r578413 w578414 dc578410 ds578411 hp578412 => ?_) (fun _ _ _ _ _ z => z.elim)
                                obtain ⟨o578415, rfl, rfl, hdc, hds, bo578415, x578416, ht578417⟩ := hp578412
                                change G _ _ _ _ _ _ _ (.int o578415 :: _) _ _ _
                                refine G_widen (cs' := 0) (sl' := 0) (by omega) (by omega) ?_
                                refine G_if_eq 189 dr_cX17_weigh_172 (by decide +kernel) (fun hc578418 => ?_) (fun hc578418 => ?_)
                                · have r578419 : o578415.toInt = 0 := gj_eq hc578418 (show Int32.toInt 0 = 0 by decide)
                                  have bo578415' : gB o578415 0 0 := gB_t0 r578419
                                  obtain ⟨z578420, hz578420⟩ : ∃ z : Int32, z = g578047 + Int32.ofInt 1 := ⟨_, rfl⟩
                                  have ez578420 : z578420.toInt = g578047.toInt + 1 := gI_inc hz578420 (by decide) bg578047'' (by decide) (by decide)
                                  have bz578420 : gB z578420 1 1000000 := ⟨by omega, by omega⟩
                                  refine G_iinc (L' := [(5, .int z578420), (6, .ref q578363), (4, .ref q577483), (3, .int g577452), (2, .int g576277), (0, .ref q408007), (1, .ref q408008)]) z578420 1 dr_cX17_weigh_189 rfl hz578420.symm (Nat.le_of_ble_eq_true rfl) rfl ?_
                                  refine G_goto 74 dr_cX17_weigh_192 (by decide +kernel) ?_
                                  refine G_lv (L' := [(5, .int z578420), (4, .ref q577483), (3, .int g577452), (2, .int g576277), (0, .ref q408007), (1, .ref q408008)]) [0, 2, 3, 4, 5, 6] rfl ?_
                                  exact ih74_578052 F578048 z578420 (gB_w bz578420 (by decide) (by decide)) hT578049 hs578050 x578051 x578052 (fun k e1 ht => kt74_578053 k e1 (fun R c1 c2 c3 c4 c5 c6 c7 c8 c9 c10 c11 c12 c13 c14 c15 c16 c17 => c10 F578048 g578047 q577493 p578066 q578363 p578376 o578394 p578381 o578404 p578382 o578415 z578420 k e1 bg578047 hT578049 hs578050 x578051 x578052 fq578062 fq578073 fq578074 r578084 fq578085 r578351 hx578364 ht578373 fq578388 bo578394 ht578395 r578397 fq578398 bo578404 ht578406 r578408 fq578409 bo578415 ht578417 r578419 ez578420 (ht R c1 c2 c3 c4 c5 c6 c7 c8 c9 c10 c11 c12 c13 c14 c15 c16 c17))) (mz_up ez578420 (Int.le_trans bg578047''.2 (by decide)) hm74_578052)
                                · have r578421 : o578415.toInt ≠ 0 := gj_neq hc578418 (show Int32.toInt 0 = 0 by decide)
                                  have bo578415' : gB o578415 1 1 := gB_t1 bo578415 r578421
                                  refine G_aload_n 5 dr_cX17_weigh_175 rfl ?_
                                  have fq578422 : fR (F578048 q408007) 5 = (γ 9 5) := by rw [he578060]; rfl
                                  refine Gp_get 5 hm578061 he578060 dr_cX17_weigh_176 (gk_X17 D I) (Nat.le_of_ble_eq_true rfl) wr_7_79 rfl ?_
                                  refine G_aload 0 dr_cX17_weigh_179 rfl ?_
                                  have fq578423 : fI (F578048 q578363) 3 = p578379 := by rw [he578375]; rfl
                                  refine Gp_get 3 hm578374 he578375 dr_cX17_weigh_181 (gk_X15 D I) (Nat.le_of_ble_eq_true rfl) wr_9_190 rfl ?_
                                  refine G_dup2_11 dr_cX17_weigh_184 rfl rfl ?_
                                  have hm578424 : (γ 9 5) ∈ P408005 := RS_m hT578049 ht408037 (by decide)
                                  obtain ⟨f578426, he578425⟩ := show rk_17 I (F578048 (γ 9 5)) from RS_o hT578049 ht408037
                                  refine Gp_iald 0 hm578424 he578425 dr_cX17_weigh_185 rfl (gB_inr (by omega) (by omega)) (G_nam fun z578427 hz578427 => ?_)
                                  have bz578427 : gB z578427 (-2147483648) 2147483647 := gB_any z578427
                                  refine G_iload_n 3 dr_cX17_weigh_186 rfl ?_
                                  refine G_iadd dr_cX17_weigh_187 (G_nam fun z578428 hz578428 => ?_)
                                  have bz578428 : gB z578428 (-2147483648) 2147483647 := gB_any z578428
                                  refine Gp_iast 0 hm578424 he578425 dr_cX17_weigh_188 rfl (gB_inr (by omega) (by omega)) (fun F578429 e578430 n578431 => ?_)
                                  obtain ⟨f578432, hf578432⟩ : ∃ z, z = upd f578426 p578379.toNatClampNeg z578428 := ⟨_, rfl⟩
                                  rw [← hf578432] at e578430
                                  have he578433 : F578429 q408008 = .inr (18, [.ref q576290, .ref q576291, .int p576292, .int p576293]) := (n578431 q408008 (rn_oa he578055 he578425)).trans he578055
                                  have he578434 : F578429 q576290 = .inr (4, [.int p577464, .ref q577466, .int p577465]) := (n578431 q576290 (rn_oa he578056 he578425)).trans he578056
                                  have he578435 : F578429 q577466 = .inl (I (.object "java/lang/Object"), n577480, .inr (.inr (.inr (.inr f577481)))) := (n578431 q577466 (rn_ref_num he578057 he578425)).trans he578057
                                  have he578436 : F578429 q577483 = .inr (17, [.ref q577493, .ref q577494, .int p577495, .int p577496]) := (n578431 q577483 (rn_oa he578058 he578425)).trans he578058
                                  have he578437 : F578429 q408007 = .inr (22, [.ref (γ 9 0), .ref (γ 9 1), .ref (γ 9 2), .ref (γ 9 3), .ref (γ 9 4), .ref (γ 9 5), .ref (γ 9 6), .ref (γ 9 7), .ref (γ 9 8), .int p408015, .int p408016, .int p408017, .int p408018, .int p408019, .int p408020, .ref (γ 9 15), .ref (γ 9 16), .ref (γ 9 17), .ref (γ 9 18), .ref (γ 9 19), .ref (γ 9 20), .ref (γ 9 21), .ref (γ 9 22), .int p408021, .int p408022, .int p408023, .int p408024, .int p408025, .ref q408013, .ref (γ 9 29), .int p408026, .ref (γ 9 31), .int p408027, .int p408028, .int p408029, .ref q408014]) := (n578431 q408007 (rn_oa he578060 he578425)).trans he578060
                                  have he578438 : F578429 q577493 = .inr (4, [.int p578065, .ref q578067, .int p578066]) := (n578431 q577493 (rn_oa he578064 he578425)).trans he578064
                                  have he578439 : F578429 q578067 = .inl (I (.object "java/lang/Object"), n578360, .inr (.inr (.inr (.inr f578361)))) := (n578431 q578067 (rn_ref_num r578354 he578425)).trans r578354
                                  have he578440 : F578429 q578363 = .inr (20, [.int p578376, .int p578377, .int p578378, .int p578379, .int p578380, .int p578381, .int p578382]) := (n578431 q578363 (rn_oa he578375 he578425)).trans he578375
                                  have he578441 : F578429 (γ 9 5) = .inl (I .int, 2000, .inl f578432) := e578430
                                  have hs578442 : rStr γ [] F408006 F578429 := rStr_put hs578050 n578431 ht408037 (by decide)
                                  have kp578443 : F578429 q408007 = F408006 q408007 := (n578431 q408007 (rn_ty htq408007 ht408037 (by decide))).trans x578051
                                  have kp578444 : F578429 (γ 9 3) = F408006 (γ 9 3) := (n578431 (γ 9 3) (rn_ty ht408035 ht408037 (by decide))).trans x578052
                                  obtain ⟨z578445, hz578445⟩ : ∃ z : Int32, z = g578047 + Int32.ofInt 1 := ⟨_, rfl⟩
                                  have ez578445 : z578445.toInt = g578047.toInt + 1 := gI_inc hz578445 (by decide) bg578047'' (by decide) (by decide)
                                  have bz578445 : gB z578445 1 1000000 := ⟨by omega, by omega⟩
                                  refine G_iinc (L' := [(5, .int z578445), (6, .ref q578363), (4, .ref q577483), (3, .int g577452), (2, .int g576277), (0, .ref q408007), (1, .ref q408008)]) z578445 1 dr_cX17_weigh_189 rfl hz578445.symm (Nat.le_of_ble_eq_true rfl) rfl ?_
                                  refine G_goto 74 dr_cX17_weigh_192 (by decide +kernel) ?_
                                  have hT578446 : RS D I P408005 F578429 γ el := RS_set hT578049 n578431 ht408037 (by decide) ⟨f578432, he578441⟩
                                  refine G_lv (L' := [(5, .int z578445), (4, .ref q577483), (3, .int g577452), (2, .int g576277), (0, .ref q408007), (1, .ref q408008)]) [0, 2, 3, 4, 5, 6] rfl ?_
                                  exact ih74_578052 F578429 z578445 (gB_w bz578445 (by decide) (by decide)) hT578446 hs578442 kp578443 kp578444 (fun k e1 ht => kt74_578053 k e1 (fun R c1 c2 c3 c4 c5 c6 c7 c8 c9 c10 c11 c12 c13 c14 c15 c16 c17 => c11 F578048 g578047 q577493 p578066 q578363 p578376 o578394 p578381 o578404 p578382 o578415 p578379 f578426 z578427 z578428 f578432 F578429 z578445 k e1 bg578047 hT578049 hs578050 x578051 x578052 fq578062 fq578073 fq578074 r578084 fq578085 r578351 hx578364 ht578373 fq578388 bo578394 ht578395 r578397 fq578398 bo578404 ht578406 r578408 fq578409 bo578415 ht578417 r578421 fq578422 fq578423 he578425 hz578427 hz578428 hf578432 n578431 he578441 ez578445 (ht R c1 c2 c3 c4 c5 c6 c7 c8 c9 c10 c11 c12 c13 c14 c15 c16 c17))) (mz_up ez578445 (Int.le_trans bg578047''.2 (by decide)) hm74_578052)
                              · have r578447 : o578404.toInt ≠ 0 := gj_neq hc578407 (show Int32.toInt 0 = 0 by decide)
                                have bo578404' : gB o578404 1 1 := gB_t1 bo578404 r578447
                                refine G_aload_n 5 dr_cX17_weigh_153 rfl ?_
                                have fq578448 : fR (F578048 q408007) 5 = (γ 9 5) := by rw [he578060]; rfl
                                refine Gp_get 5 hm578061 he578060 dr_cX17_weigh_154 (gk_X17 D I) (Nat.le_of_ble_eq_true rfl) wr_7_79 rfl ?_
                                refine G_aload 0 dr_cX17_weigh_157 rfl ?_
                                have fq578449 : fI (F578048 q578363) 2 = p578378 := by rw [he578375]; rfl
                                refine Gp_get 2 hm578374 he578375 dr_cX17_weigh_159 (gk_X15 D I) (Nat.le_of_ble_eq_true rfl) wr_9_186 rfl ?_
                                refine G_dup2_11 dr_cX17_weigh_162 rfl rfl ?_
                                have hm578450 : (γ 9 5) ∈ P408005 := RS_m hT578049 ht408037 (by decide)
                                obtain ⟨f578452, he578451⟩ := show rk_17 I (F578048 (γ 9 5)) from RS_o hT578049 ht408037
                                refine Gp_iald 0 hm578450 he578451 dr_cX17_weigh_163 rfl (gB_inr (by omega) (by omega)) (G_nam fun z578453 hz578453 => ?_)
                                have bz578453 : gB z578453 (-2147483648) 2147483647 := gB_any z578453
                                refine G_iload_n 3 dr_cX17_weigh_164 rfl ?_
                                refine G_iadd dr_cX17_weigh_165 (G_nam fun z578454 hz578454 => ?_)
                                have bz578454 : gB z578454 (-2147483648) 2147483647 := gB_any z578454
                                refine Gp_iast 0 hm578450 he578451 dr_cX17_weigh_166 rfl (gB_inr (by omega) (by omega)) (fun F578455 e578456 n578457 => ?_)
                                obtain ⟨f578458, hf578458⟩ : ∃ z, z = upd f578452 p578378.toNatClampNeg z578454 := ⟨_, rfl⟩
                                rw [← hf578458] at e578456
                                have he578459 : F578455 q408008 = .inr (18, [.ref q576290, .ref q576291, .int p576292, .int p576293]) := (n578457 q408008 (rn_oa he578055 he578451)).trans he578055
                                have he578460 : F578455 q576290 = .inr (4, [.int p577464, .ref q577466, .int p577465]) := (n578457 q576290 (rn_oa he578056 he578451)).trans he578056
                                have he578461 : F578455 q577466 = .inl (I (.object "java/lang/Object"), n577480, .inr (.inr (.inr (.inr f577481)))) := (n578457 q577466 (rn_ref_num he578057 he578451)).trans he578057
                                have he578462 : F578455 q577483 = .inr (17, [.ref q577493, .ref q577494, .int p577495, .int p577496]) := (n578457 q577483 (rn_oa he578058 he578451)).trans he578058
                                have he578463 : F578455 q408007 = .inr (22, [.ref (γ 9 0), .ref (γ 9 1), .ref (γ 9 2), .ref (γ 9 3), .ref (γ 9 4), .ref (γ 9 5), .ref (γ 9 6), .ref (γ 9 7), .ref (γ 9 8), .int p408015, .int p408016, .int p408017, .int p408018, .int p408019, .int p408020, .ref (γ 9 15), .ref (γ 9 16), .ref (γ 9 17), .ref (γ 9 18), .ref (γ 9 19), .ref (γ 9 20), .ref (γ 9 21), .ref (γ 9 22), .int p408021, .int p408022, .int p408023, .int p408024, .int p408025, .ref q408013, .ref (γ 9 29), .int p408026, .ref (γ 9 31), .int p408027, .int p408028, .int p408029, .ref q408014]) := (n578457 q408007 (rn_oa he578060 he578451)).trans he578060
                                have he578464 : F578455 q577493 = .inr (4, [.int p578065, .ref q578067, .int p578066]) := (n578457 q577493 (rn_oa he578064 he578451)).trans he578064
                                have he578465 : F578455 q578067 = .inl (I (.object "java/lang/Object"), n578360, .inr (.inr (.inr (.inr f578361)))) := (n578457 q578067 (rn_ref_num r578354 he578451)).trans r578354
                                have he578466 : F578455 q578363 = .inr (20, [.int p578376, .int p578377, .int p578378, .int p578379, .int p578380, .int p578381, .int p578382]) := (n578457 q578363 (rn_oa he578375 he578451)).trans he578375
                                have he578467 : F578455 (γ 9 5) = .inl (I .int, 2000, .inl f578458) := e578456
                                have hs578468 : rStr γ [] F408006 F578455 := rStr_put hs578050 n578457 ht408037 (by decide)
                                have kp578469 : F578455 q408007 = F408006 q408007 := (n578457 q408007 (rn_ty htq408007 ht408037 (by decide))).trans x578051
                                have kp578470 : F578455 (γ 9 3) = F408006 (γ 9 3) := (n578457 (γ 9 3) (rn_ty ht408035 ht408037 (by decide))).trans x578052
                                refine G_aload 0 dr_cX17_weigh_167 rfl ?_
                                have hT578471 : RS D I P408005 F578455 γ el := RS_set hT578049 n578457 ht408037 (by decide) ⟨f578458, he578467⟩
                                have fq578472 : fI (F578455 q578363) 0 = p578376 := by rw [he578466]; rfl
                                have fq578473 : fI (F578455 q578363) 6 = p578382 := by rw [he578466]; rfl
                                refine Gw_callV (As := []) (gV_ok D I) (cp_1699_Row_usesB l hl0 D I P408005 F578455 q578363 p578376 p578377 p578378 p578379 p578380 p578381 p578382 hm578374 he578466 bp578376 bp578377 bp578380 bp578381 bp578382) dr_cX17_weigh_169 ⟨wr_10_196, wr_1_39, wr_10_199, by decide, rfl, (Nat.le_of_ble_eq_true rfl), (Nat.le_of_ble_eq_true rfl)⟩ wr_10_197 wr_10_198 hm578374 he578466 rfl (show 0 + 0 ≤ 0 by first | omega | decide) (show 0 + 0 ≤ 0 by first | omega | decide) (Nat.le_of_ble_eq_true rfl) (fun r578477 w578478 dc578474 ds578475 hp578476 => ?_) (fun _ _ _ _ _ z => z.elim)
                                obtain ⟨o578479, rfl, rfl, hdc, hds, bo578479, x578480, ht578481⟩ := hp578476
                                change G _ _ _ _ _ _ _ (.int o578479 :: _) _ _ _
                                refine G_widen (cs' := 0) (sl' := 0) (by omega) (by omega) ?_
                                refine G_if_eq 189 dr_cX17_weigh_172 (by decide +kernel) (fun hc578482 => ?_) (fun hc578482 => ?_)
                                · have r578483 : o578479.toInt = 0 := gj_eq hc578482 (show Int32.toInt 0 = 0 by decide)
                                  have bo578479' : gB o578479 0 0 := gB_t0 r578483
                                  obtain ⟨z578484, hz578484⟩ : ∃ z : Int32, z = g578047 + Int32.ofInt 1 := ⟨_, rfl⟩
                                  have ez578484 : z578484.toInt = g578047.toInt + 1 := gI_inc hz578484 (by decide) bg578047'' (by decide) (by decide)
                                  have bz578484 : gB z578484 1 1000000 := ⟨by omega, by omega⟩
                                  refine G_iinc (L' := [(5, .int z578484), (6, .ref q578363), (4, .ref q577483), (3, .int g577452), (2, .int g576277), (0, .ref q408007), (1, .ref q408008)]) z578484 1 dr_cX17_weigh_189 rfl hz578484.symm (Nat.le_of_ble_eq_true rfl) rfl ?_
                                  refine G_goto 74 dr_cX17_weigh_192 (by decide +kernel) ?_
                                  refine G_lv (L' := [(5, .int z578484), (4, .ref q577483), (3, .int g577452), (2, .int g576277), (0, .ref q408007), (1, .ref q408008)]) [0, 2, 3, 4, 5, 6] rfl ?_
                                  exact ih74_578052 F578455 z578484 (gB_w bz578484 (by decide) (by decide)) hT578471 hs578468 kp578469 kp578470 (fun k e1 ht => kt74_578053 k e1 (fun R c1 c2 c3 c4 c5 c6 c7 c8 c9 c10 c11 c12 c13 c14 c15 c16 c17 => c12 F578048 g578047 q577493 p578066 q578363 p578376 o578394 p578381 o578404 p578378 f578452 z578453 z578454 f578458 F578455 p578382 o578479 z578484 k e1 bg578047 hT578049 hs578050 x578051 x578052 fq578062 fq578073 fq578074 r578084 fq578085 r578351 hx578364 ht578373 fq578388 bo578394 ht578395 r578397 fq578398 bo578404 ht578406 r578447 fq578448 fq578449 he578451 hz578453 hz578454 hf578458 n578457 he578467 fq578472 fq578473 bo578479 ht578481 r578483 ez578484 (ht R c1 c2 c3 c4 c5 c6 c7 c8 c9 c10 c11 c12 c13 c14 c15 c16 c17))) (mz_up ez578484 (Int.le_trans bg578047''.2 (by decide)) hm74_578052)
                                · have r578485 : o578479.toInt ≠ 0 := gj_neq hc578482 (show Int32.toInt 0 = 0 by decide)
                                  have bo578479' : gB o578479 1 1 := gB_t1 bo578479 r578485
                                  refine G_aload_n 5 dr_cX17_weigh_175 rfl ?_
                                  have fq578486 : fR (F578455 q408007) 5 = (γ 9 5) := by rw [he578463]; rfl
                                  refine Gp_get 5 hm578061 he578463 dr_cX17_weigh_176 (gk_X17 D I) (Nat.le_of_ble_eq_true rfl) wr_7_79 rfl ?_
                                  refine G_aload 0 dr_cX17_weigh_179 rfl ?_
                                  have fq578487 : fI (F578455 q578363) 3 = p578379 := by rw [he578466]; rfl
                                  refine Gp_get 3 hm578374 he578466 dr_cX17_weigh_181 (gk_X15 D I) (Nat.le_of_ble_eq_true rfl) wr_9_190 rfl ?_
                                  refine G_dup2_11 dr_cX17_weigh_184 rfl rfl ?_
                                  refine Gp_iald 0 hm578450 he578467 dr_cX17_weigh_185 rfl (gB_inr (by omega) (by omega)) (G_nam fun z578488 hz578488 => ?_)
                                  have bz578488 : gB z578488 (-2147483648) 2147483647 := gB_any z578488
                                  refine G_iload_n 3 dr_cX17_weigh_186 rfl ?_
                                  refine G_iadd dr_cX17_weigh_187 (G_nam fun z578489 hz578489 => ?_)
                                  have bz578489 : gB z578489 (-2147483648) 2147483647 := gB_any z578489
                                  refine Gp_iast 0 hm578450 he578467 dr_cX17_weigh_188 rfl (gB_inr (by omega) (by omega)) (fun F578490 e578491 n578492 => ?_)
                                  obtain ⟨f578493, hf578493⟩ : ∃ z, z = upd f578458 p578379.toNatClampNeg z578489 := ⟨_, rfl⟩
                                  rw [← hf578493] at e578491
                                  have he578494 : F578490 q408008 = .inr (18, [.ref q576290, .ref q576291, .int p576292, .int p576293]) := (n578492 q408008 (rn_oa he578459 he578467)).trans he578459
                                  have he578495 : F578490 q576290 = .inr (4, [.int p577464, .ref q577466, .int p577465]) := (n578492 q576290 (rn_oa he578460 he578467)).trans he578460
                                  have he578496 : F578490 q577466 = .inl (I (.object "java/lang/Object"), n577480, .inr (.inr (.inr (.inr f577481)))) := (n578492 q577466 (rn_ref_num he578461 he578467)).trans he578461
                                  have he578497 : F578490 q577483 = .inr (17, [.ref q577493, .ref q577494, .int p577495, .int p577496]) := (n578492 q577483 (rn_oa he578462 he578467)).trans he578462
                                  have he578498 : F578490 q408007 = .inr (22, [.ref (γ 9 0), .ref (γ 9 1), .ref (γ 9 2), .ref (γ 9 3), .ref (γ 9 4), .ref (γ 9 5), .ref (γ 9 6), .ref (γ 9 7), .ref (γ 9 8), .int p408015, .int p408016, .int p408017, .int p408018, .int p408019, .int p408020, .ref (γ 9 15), .ref (γ 9 16), .ref (γ 9 17), .ref (γ 9 18), .ref (γ 9 19), .ref (γ 9 20), .ref (γ 9 21), .ref (γ 9 22), .int p408021, .int p408022, .int p408023, .int p408024, .int p408025, .ref q408013, .ref (γ 9 29), .int p408026, .ref (γ 9 31), .int p408027, .int p408028, .int p408029, .ref q408014]) := (n578492 q408007 (rn_oa he578463 he578467)).trans he578463
                                  have he578499 : F578490 q577493 = .inr (4, [.int p578065, .ref q578067, .int p578066]) := (n578492 q577493 (rn_oa he578464 he578467)).trans he578464
                                  have he578500 : F578490 q578067 = .inl (I (.object "java/lang/Object"), n578360, .inr (.inr (.inr (.inr f578361)))) := (n578492 q578067 (rn_ref_num he578465 he578467)).trans he578465
                                  have he578501 : F578490 q578363 = .inr (20, [.int p578376, .int p578377, .int p578378, .int p578379, .int p578380, .int p578381, .int p578382]) := (n578492 q578363 (rn_oa he578466 he578467)).trans he578466
                                  have he578502 : F578490 (γ 9 5) = .inl (I .int, 2000, .inl f578493) := e578491
                                  have hs578503 : rStr γ [] F408006 F578490 := rStr_put hs578468 n578492 ht408037 (by decide)
                                  have kp578504 : F578490 q408007 = F408006 q408007 := (n578492 q408007 (rn_ty htq408007 ht408037 (by decide))).trans kp578469
                                  have kp578505 : F578490 (γ 9 3) = F408006 (γ 9 3) := (n578492 (γ 9 3) (rn_ty ht408035 ht408037 (by decide))).trans kp578470
                                  obtain ⟨z578506, hz578506⟩ : ∃ z : Int32, z = g578047 + Int32.ofInt 1 := ⟨_, rfl⟩
                                  have ez578506 : z578506.toInt = g578047.toInt + 1 := gI_inc hz578506 (by decide) bg578047'' (by decide) (by decide)
                                  have bz578506 : gB z578506 1 1000000 := ⟨by omega, by omega⟩
                                  refine G_iinc (L' := [(5, .int z578506), (6, .ref q578363), (4, .ref q577483), (3, .int g577452), (2, .int g576277), (0, .ref q408007), (1, .ref q408008)]) z578506 1 dr_cX17_weigh_189 rfl hz578506.symm (Nat.le_of_ble_eq_true rfl) rfl ?_
                                  refine G_goto 74 dr_cX17_weigh_192 (by decide +kernel) ?_
                                  have hT578507 : RS D I P408005 F578490 γ el := RS_set hT578471 n578492 ht408037 (by decide) ⟨f578493, he578502⟩
                                  refine G_lv (L' := [(5, .int z578506), (4, .ref q577483), (3, .int g577452), (2, .int g576277), (0, .ref q408007), (1, .ref q408008)]) [0, 2, 3, 4, 5, 6] rfl ?_
                                  exact ih74_578052 F578490 z578506 (gB_w bz578506 (by decide) (by decide)) hT578507 hs578503 kp578504 kp578505 (fun k e1 ht => kt74_578053 k e1 (fun R c1 c2 c3 c4 c5 c6 c7 c8 c9 c10 c11 c12 c13 c14 c15 c16 c17 => c13 F578048 g578047 q577493 p578066 q578363 p578376 o578394 p578381 o578404 p578378 f578452 z578453 z578454 f578458 F578455 p578382 o578479 p578379 z578488 z578489 f578493 F578490 z578506 k e1 bg578047 hT578049 hs578050 x578051 x578052 fq578062 fq578073 fq578074 r578084 fq578085 r578351 hx578364 ht578373 fq578388 bo578394 ht578395 r578397 fq578398 bo578404 ht578406 r578447 fq578448 fq578449 he578451 hz578453 hz578454 hf578458 n578457 he578467 fq578472 fq578473 bo578479 ht578481 r578485 fq578486 fq578487 he578467 hz578488 hz578489 hf578493 n578492 he578502 ez578506 (ht R c1 c2 c3 c4 c5 c6 c7 c8 c9 c10 c11 c12 c13 c14 c15 c16 c17))) (mz_up ez578506 (Int.le_trans bg578047''.2 (by decide)) hm74_578052)
                            · have r578508 : o578394.toInt ≠ 0 := gj_neq hc578396 (show Int32.toInt 0 = 0 by decide)
                              have bo578394' : gB o578394 1 1 := gB_t1 bo578394 r578508
                              refine G_aload_n 5 dr_cX17_weigh_131 rfl ?_
                              have fq578509 : fR (F578048 q408007) 5 = (γ 9 5) := by rw [he578060]; rfl
                              refine Gp_get 5 hm578061 he578060 dr_cX17_weigh_132 (gk_X17 D I) (Nat.le_of_ble_eq_true rfl) wr_7_79 rfl ?_
                              refine G_aload 0 dr_cX17_weigh_135 rfl ?_
                              have fq578510 : fI (F578048 q578363) 1 = p578377 := by rw [he578375]; rfl
                              refine Gp_get 1 hm578374 he578375 dr_cX17_weigh_137 (gk_X15 D I) (Nat.le_of_ble_eq_true rfl) wr_9_182 rfl ?_
                              refine G_dup2_11 dr_cX17_weigh_140 rfl rfl ?_
                              have hm578511 : (γ 9 5) ∈ P408005 := RS_m hT578049 ht408037 (by decide)
                              obtain ⟨f578513, he578512⟩ := show rk_17 I (F578048 (γ 9 5)) from RS_o hT578049 ht408037
                              refine Gp_iald 0 hm578511 he578512 dr_cX17_weigh_141 rfl (gB_in bp578377 (by decide) (by decide)) (G_nam fun z578514 hz578514 => ?_)
                              have bz578514 : gB z578514 (-2147483648) 2147483647 := gB_any z578514
                              refine G_iload_n 3 dr_cX17_weigh_142 rfl ?_
                              refine G_iadd dr_cX17_weigh_143 (G_nam fun z578515 hz578515 => ?_)
                              have bz578515 : gB z578515 (-2147483648) 2147483647 := gB_any z578515
                              refine Gp_iast 0 hm578511 he578512 dr_cX17_weigh_144 rfl (gB_in bp578377 (by decide) (by decide)) (fun F578516 e578517 n578518 => ?_)
                              obtain ⟨f578519, hf578519⟩ : ∃ z, z = upd f578513 p578377.toNatClampNeg z578515 := ⟨_, rfl⟩
                              rw [← hf578519] at e578517
                              have he578520 : F578516 q408008 = .inr (18, [.ref q576290, .ref q576291, .int p576292, .int p576293]) := (n578518 q408008 (rn_oa he578055 he578512)).trans he578055
                              have he578521 : F578516 q576290 = .inr (4, [.int p577464, .ref q577466, .int p577465]) := (n578518 q576290 (rn_oa he578056 he578512)).trans he578056
                              have he578522 : F578516 q577466 = .inl (I (.object "java/lang/Object"), n577480, .inr (.inr (.inr (.inr f577481)))) := (n578518 q577466 (rn_ref_num he578057 he578512)).trans he578057
                              have he578523 : F578516 q577483 = .inr (17, [.ref q577493, .ref q577494, .int p577495, .int p577496]) := (n578518 q577483 (rn_oa he578058 he578512)).trans he578058
                              have he578524 : F578516 q408007 = .inr (22, [.ref (γ 9 0), .ref (γ 9 1), .ref (γ 9 2), .ref (γ 9 3), .ref (γ 9 4), .ref (γ 9 5), .ref (γ 9 6), .ref (γ 9 7), .ref (γ 9 8), .int p408015, .int p408016, .int p408017, .int p408018, .int p408019, .int p408020, .ref (γ 9 15), .ref (γ 9 16), .ref (γ 9 17), .ref (γ 9 18), .ref (γ 9 19), .ref (γ 9 20), .ref (γ 9 21), .ref (γ 9 22), .int p408021, .int p408022, .int p408023, .int p408024, .int p408025, .ref q408013, .ref (γ 9 29), .int p408026, .ref (γ 9 31), .int p408027, .int p408028, .int p408029, .ref q408014]) := (n578518 q408007 (rn_oa he578060 he578512)).trans he578060
                              have he578525 : F578516 q577493 = .inr (4, [.int p578065, .ref q578067, .int p578066]) := (n578518 q577493 (rn_oa he578064 he578512)).trans he578064
                              have he578526 : F578516 q578067 = .inl (I (.object "java/lang/Object"), n578360, .inr (.inr (.inr (.inr f578361)))) := (n578518 q578067 (rn_ref_num r578354 he578512)).trans r578354
                              have he578527 : F578516 q578363 = .inr (20, [.int p578376, .int p578377, .int p578378, .int p578379, .int p578380, .int p578381, .int p578382]) := (n578518 q578363 (rn_oa he578375 he578512)).trans he578375
                              have he578528 : F578516 (γ 9 5) = .inl (I .int, 2000, .inl f578519) := e578517
                              have hs578529 : rStr γ [] F408006 F578516 := rStr_put hs578050 n578518 ht408037 (by decide)
                              have kp578530 : F578516 q408007 = F408006 q408007 := (n578518 q408007 (rn_ty htq408007 ht408037 (by decide))).trans x578051
                              have kp578531 : F578516 (γ 9 3) = F408006 (γ 9 3) := (n578518 (γ 9 3) (rn_ty ht408035 ht408037 (by decide))).trans x578052
                              refine G_aload 0 dr_cX17_weigh_145 rfl ?_
                              have hT578532 : RS D I P408005 F578516 γ el := RS_set hT578049 n578518 ht408037 (by decide) ⟨f578519, he578528⟩
                              have fq578533 : fI (F578516 q578363) 0 = p578376 := by rw [he578527]; rfl
                              have fq578534 : fI (F578516 q578363) 5 = p578381 := by rw [he578527]; rfl
                              refine Gw_callV (As := []) (gV_ok D I) (cp_1675_Row_usesA l hl0 D I P408005 F578516 q578363 p578376 p578377 p578378 p578379 p578380 p578381 p578382 hm578374 he578527 bp578376 bp578377 bp578380 bp578381 bp578382) dr_cX17_weigh_147 ⟨wr_10_192, wr_1_39, wr_10_195, by decide, rfl, (Nat.le_of_ble_eq_true rfl), (Nat.le_of_ble_eq_true rfl)⟩ wr_10_193 wr_10_194 hm578374 he578527 rfl (show 0 + 0 ≤ 0 by first | omega | decide) (show 0 + 0 ≤ 0 by first | omega | decide) (Nat.le_of_ble_eq_true rfl) (fun r578538 w578539 dc578535 ds578536 hp578537 => ?_) (fun _ _ _ _ _ z => z.elim)
                              obtain ⟨o578540, rfl, rfl, hdc, hds, bo578540, x578541, ht578542⟩ := hp578537
                              change G _ _ _ _ _ _ _ (.int o578540 :: _) _ _ _
                              refine G_widen (cs' := 0) (sl' := 0) (by omega) (by omega) ?_
                              refine G_if_eq 167 dr_cX17_weigh_150 (by decide +kernel) (fun hc578543 => ?_) (fun hc578543 => ?_)
                              · have r578544 : o578540.toInt = 0 := gj_eq hc578543 (show Int32.toInt 0 = 0 by decide)
                                have bo578540' : gB o578540 0 0 := gB_t0 r578544
                                refine G_aload 0 dr_cX17_weigh_167 rfl ?_
                                have fq578545 : fI (F578516 q578363) 6 = p578382 := by rw [he578527]; rfl
                                refine Gw_callV (As := []) (gV_ok D I) (cp_1699_Row_usesB l hl0 D I P408005 F578516 q578363 p578376 p578377 p578378 p578379 p578380 p578381 p578382 hm578374 he578527 bp578376 bp578377 bp578380 bp578381 bp578382) dr_cX17_weigh_169 ⟨wr_10_196, wr_1_39, wr_10_199, by decide, rfl, (Nat.le_of_ble_eq_true rfl), (Nat.le_of_ble_eq_true rfl)⟩ wr_10_197 wr_10_198 hm578374 he578527 rfl (show 0 + 0 ≤ 0 by first | omega | decide) (show 0 + 0 ≤ 0 by first | omega | decide) (Nat.le_of_ble_eq_true rfl) (fun r578549 w578550 dc578546 ds578547 hp578548 => ?_) (fun _ _ _ _ _ z => z.elim)
                                obtain ⟨o578551, rfl, rfl, hdc, hds, bo578551, x578552, ht578553⟩ := hp578548
                                change G _ _ _ _ _ _ _ (.int o578551 :: _) _ _ _
                                refine G_widen (cs' := 0) (sl' := 0) (by omega) (by omega) ?_
                                refine G_if_eq 189 dr_cX17_weigh_172 (by decide +kernel) (fun hc578554 => ?_) (fun hc578554 => ?_)
                                · have r578555 : o578551.toInt = 0 := gj_eq hc578554 (show Int32.toInt 0 = 0 by decide)
                                  have bo578551' : gB o578551 0 0 := gB_t0 r578555
                                  obtain ⟨z578556, hz578556⟩ : ∃ z : Int32, z = g578047 + Int32.ofInt 1 := ⟨_, rfl⟩
                                  have ez578556 : z578556.toInt = g578047.toInt + 1 := gI_inc hz578556 (by decide) bg578047'' (by decide) (by decide)
                                  have bz578556 : gB z578556 1 1000000 := ⟨by omega, by omega⟩
                                  refine G_iinc (L' := [(5, .int z578556), (6, .ref q578363), (4, .ref q577483), (3, .int g577452), (2, .int g576277), (0, .ref q408007), (1, .ref q408008)]) z578556 1 dr_cX17_weigh_189 rfl hz578556.symm (Nat.le_of_ble_eq_true rfl) rfl ?_
                                  refine G_goto 74 dr_cX17_weigh_192 (by decide +kernel) ?_
                                  refine G_lv (L' := [(5, .int z578556), (4, .ref q577483), (3, .int g577452), (2, .int g576277), (0, .ref q408007), (1, .ref q408008)]) [0, 2, 3, 4, 5, 6] rfl ?_
                                  exact ih74_578052 F578516 z578556 (gB_w bz578556 (by decide) (by decide)) hT578532 hs578529 kp578530 kp578531 (fun k e1 ht => kt74_578053 k e1 (fun R c1 c2 c3 c4 c5 c6 c7 c8 c9 c10 c11 c12 c13 c14 c15 c16 c17 => c14 F578048 g578047 q577493 p578066 q578363 p578376 o578394 p578377 f578513 z578514 z578515 f578519 F578516 p578381 o578540 p578382 o578551 z578556 k e1 bg578047 hT578049 hs578050 x578051 x578052 fq578062 fq578073 fq578074 r578084 fq578085 r578351 hx578364 ht578373 fq578388 bo578394 ht578395 r578508 fq578509 fq578510 he578512 hz578514 hz578515 hf578519 n578518 he578528 fq578533 fq578534 bo578540 ht578542 r578544 fq578545 bo578551 ht578553 r578555 ez578556 (ht R c1 c2 c3 c4 c5 c6 c7 c8 c9 c10 c11 c12 c13 c14 c15 c16 c17))) (mz_up ez578556 (Int.le_trans bg578047''.2 (by decide)) hm74_578052)
                                · have r578557 : o578551.toInt ≠ 0 := gj_neq hc578554 (show Int32.toInt 0 = 0 by decide)
                                  have bo578551' : gB o578551 1 1 := gB_t1 bo578551 r578557
                                  refine G_aload_n 5 dr_cX17_weigh_175 rfl ?_
                                  have fq578558 : fR (F578516 q408007) 5 = (γ 9 5) := by rw [he578524]; rfl
                                  refine Gp_get 5 hm578061 he578524 dr_cX17_weigh_176 (gk_X17 D I) (Nat.le_of_ble_eq_true rfl) wr_7_79 rfl ?_
                                  refine G_aload 0 dr_cX17_weigh_179 rfl ?_
                                  have fq578559 : fI (F578516 q578363) 3 = p578379 := by rw [he578527]; rfl
                                  refine Gp_get 3 hm578374 he578527 dr_cX17_weigh_181 (gk_X15 D I) (Nat.le_of_ble_eq_true rfl) wr_9_190 rfl ?_
                                  refine G_dup2_11 dr_cX17_weigh_184 rfl rfl ?_
                                  refine Gp_iald 0 hm578511 he578528 dr_cX17_weigh_185 rfl (gB_inr (by omega) (by omega)) (G_nam fun z578560 hz578560 => ?_)
                                  have bz578560 : gB z578560 (-2147483648) 2147483647 := gB_any z578560
                                  refine G_iload_n 3 dr_cX17_weigh_186 rfl ?_
                                  refine G_iadd dr_cX17_weigh_187 (G_nam fun z578561 hz578561 => ?_)
                                  have bz578561 : gB z578561 (-2147483648) 2147483647 := gB_any z578561
                                  refine Gp_iast 0 hm578511 he578528 dr_cX17_weigh_188 rfl (gB_inr (by omega) (by omega)) (fun F578562 e578563 n578564 => ?_)
                                  obtain ⟨f578565, hf578565⟩ : ∃ z, z = upd f578519 p578379.toNatClampNeg z578561 := ⟨_, rfl⟩
                                  rw [← hf578565] at e578563
                                  have he578566 : F578562 q408008 = .inr (18, [.ref q576290, .ref q576291, .int p576292, .int p576293]) := (n578564 q408008 (rn_oa he578520 he578528)).trans he578520
                                  have he578567 : F578562 q576290 = .inr (4, [.int p577464, .ref q577466, .int p577465]) := (n578564 q576290 (rn_oa he578521 he578528)).trans he578521
                                  have he578568 : F578562 q577466 = .inl (I (.object "java/lang/Object"), n577480, .inr (.inr (.inr (.inr f577481)))) := (n578564 q577466 (rn_ref_num he578522 he578528)).trans he578522
                                  have he578569 : F578562 q577483 = .inr (17, [.ref q577493, .ref q577494, .int p577495, .int p577496]) := (n578564 q577483 (rn_oa he578523 he578528)).trans he578523
                                  have he578570 : F578562 q408007 = .inr (22, [.ref (γ 9 0), .ref (γ 9 1), .ref (γ 9 2), .ref (γ 9 3), .ref (γ 9 4), .ref (γ 9 5), .ref (γ 9 6), .ref (γ 9 7), .ref (γ 9 8), .int p408015, .int p408016, .int p408017, .int p408018, .int p408019, .int p408020, .ref (γ 9 15), .ref (γ 9 16), .ref (γ 9 17), .ref (γ 9 18), .ref (γ 9 19), .ref (γ 9 20), .ref (γ 9 21), .ref (γ 9 22), .int p408021, .int p408022, .int p408023, .int p408024, .int p408025, .ref q408013, .ref (γ 9 29), .int p408026, .ref (γ 9 31), .int p408027, .int p408028, .int p408029, .ref q408014]) := (n578564 q408007 (rn_oa he578524 he578528)).trans he578524
                                  have he578571 : F578562 q577493 = .inr (4, [.int p578065, .ref q578067, .int p578066]) := (n578564 q577493 (rn_oa he578525 he578528)).trans he578525
                                  have he578572 : F578562 q578067 = .inl (I (.object "java/lang/Object"), n578360, .inr (.inr (.inr (.inr f578361)))) := (n578564 q578067 (rn_ref_num he578526 he578528)).trans he578526
                                  have he578573 : F578562 q578363 = .inr (20, [.int p578376, .int p578377, .int p578378, .int p578379, .int p578380, .int p578381, .int p578382]) := (n578564 q578363 (rn_oa he578527 he578528)).trans he578527
                                  have he578574 : F578562 (γ 9 5) = .inl (I .int, 2000, .inl f578565) := e578563
                                  have hs578575 : rStr γ [] F408006 F578562 := rStr_put hs578529 n578564 ht408037 (by decide)
                                  have kp578576 : F578562 q408007 = F408006 q408007 := (n578564 q408007 (rn_ty htq408007 ht408037 (by decide))).trans kp578530
                                  have kp578577 : F578562 (γ 9 3) = F408006 (γ 9 3) := (n578564 (γ 9 3) (rn_ty ht408035 ht408037 (by decide))).trans kp578531
                                  obtain ⟨z578578, hz578578⟩ : ∃ z : Int32, z = g578047 + Int32.ofInt 1 := ⟨_, rfl⟩
                                  have ez578578 : z578578.toInt = g578047.toInt + 1 := gI_inc hz578578 (by decide) bg578047'' (by decide) (by decide)
                                  have bz578578 : gB z578578 1 1000000 := ⟨by omega, by omega⟩
                                  refine G_iinc (L' := [(5, .int z578578), (6, .ref q578363), (4, .ref q577483), (3, .int g577452), (2, .int g576277), (0, .ref q408007), (1, .ref q408008)]) z578578 1 dr_cX17_weigh_189 rfl hz578578.symm (Nat.le_of_ble_eq_true rfl) rfl ?_
                                  refine G_goto 74 dr_cX17_weigh_192 (by decide +kernel) ?_
                                  have hT578579 : RS D I P408005 F578562 γ el := RS_set hT578532 n578564 ht408037 (by decide) ⟨f578565, he578574⟩
                                  refine G_lv (L' := [(5, .int z578578), (4, .ref q577483), (3, .int g577452), (2, .int g576277), (0, .ref q408007), (1, .ref q408008)]) [0, 2, 3, 4, 5, 6] rfl ?_
                                  exact ih74_578052 F578562 z578578 (gB_w bz578578 (by decide) (by decide)) hT578579 hs578575 kp578576 kp578577 (fun k e1 ht => kt74_578053 k e1 (fun R c1 c2 c3 c4 c5 c6 c7 c8 c9 c10 c11 c12 c13 c14 c15 c16 c17 => c15 F578048 g578047 q577493 p578066 q578363 p578376 o578394 p578377 f578513 z578514 z578515 f578519 F578516 p578381 o578540 p578382 o578551 p578379 z578560 z578561 f578565 F578562 z578578 k e1 bg578047 hT578049 hs578050 x578051 x578052 fq578062 fq578073 fq578074 r578084 fq578085 r578351 hx578364 ht578373 fq578388 bo578394 ht578395 r578508 fq578509 fq578510 he578512 hz578514 hz578515 hf578519 n578518 he578528 fq578533 fq578534 bo578540 ht578542 r578544 fq578545 bo578551 ht578553 r578557 fq578558 fq578559 he578528 hz578560 hz578561 hf578565 n578564 he578574 ez578578 (ht R c1 c2 c3 c4 c5 c6 c7 c8 c9 c10 c11 c12 c13 c14 c15 c16 c17))) (mz_up ez578578 (Int.le_trans bg578047''.2 (by decide)) hm74_578052)
                              · have r578580 : o578540.toInt ≠ 0 := gj_neq hc578543 (show Int32.toInt 0 = 0 by decide)
                                have bo578540' : gB o578540 1 1 := gB_t1 bo578540 r578580
                                refine G_aload_n 5 dr_cX17_weigh_153 rfl ?_
                                have fq578581 : fR (F578516 q408007) 5 = (γ 9 5) := by rw [he578524]; rfl
                                refine Gp_get 5 hm578061 he578524 dr_cX17_weigh_154 (gk_X17 D I) (Nat.le_of_ble_eq_true rfl) wr_7_79 rfl ?_
                                refine G_aload 0 dr_cX17_weigh_157 rfl ?_
                                have fq578582 : fI (F578516 q578363) 2 = p578378 := by rw [he578527]; rfl
                                refine Gp_get 2 hm578374 he578527 dr_cX17_weigh_159 (gk_X15 D I) (Nat.le_of_ble_eq_true rfl) wr_9_186 rfl ?_
                                refine G_dup2_11 dr_cX17_weigh_162 rfl rfl ?_
                                refine Gp_iald 0 hm578511 he578528 dr_cX17_weigh_163 rfl (gB_inr (by omega) (by omega)) (G_nam fun z578583 hz578583 => ?_)
                                have bz578583 : gB z578583 (-2147483648) 2147483647 := gB_any z578583
                                refine G_iload_n 3 dr_cX17_weigh_164 rfl ?_
                                refine G_iadd dr_cX17_weigh_165 (G_nam fun z578584 hz578584 => ?_)
                                have bz578584 : gB z578584 (-2147483648) 2147483647 := gB_any z578584
                                refine Gp_iast 0 hm578511 he578528 dr_cX17_weigh_166 rfl (gB_inr (by omega) (by omega)) (fun F578585 e578586 n578587 => ?_)
                                obtain ⟨f578588, hf578588⟩ : ∃ z, z = upd f578519 p578378.toNatClampNeg z578584 := ⟨_, rfl⟩
                                rw [← hf578588] at e578586
                                have he578589 : F578585 q408008 = .inr (18, [.ref q576290, .ref q576291, .int p576292, .int p576293]) := (n578587 q408008 (rn_oa he578520 he578528)).trans he578520
                                have he578590 : F578585 q576290 = .inr (4, [.int p577464, .ref q577466, .int p577465]) := (n578587 q576290 (rn_oa he578521 he578528)).trans he578521
                                have he578591 : F578585 q577466 = .inl (I (.object "java/lang/Object"), n577480, .inr (.inr (.inr (.inr f577481)))) := (n578587 q577466 (rn_ref_num he578522 he578528)).trans he578522
                                have he578592 : F578585 q577483 = .inr (17, [.ref q577493, .ref q577494, .int p577495, .int p577496]) := (n578587 q577483 (rn_oa he578523 he578528)).trans he578523
                                have he578593 : F578585 q408007 = .inr (22, [.ref (γ 9 0), .ref (γ 9 1), .ref (γ 9 2), .ref (γ 9 3), .ref (γ 9 4), .ref (γ 9 5), .ref (γ 9 6), .ref (γ 9 7), .ref (γ 9 8), .int p408015, .int p408016, .int p408017, .int p408018, .int p408019, .int p408020, .ref (γ 9 15), .ref (γ 9 16), .ref (γ 9 17), .ref (γ 9 18), .ref (γ 9 19), .ref (γ 9 20), .ref (γ 9 21), .ref (γ 9 22), .int p408021, .int p408022, .int p408023, .int p408024, .int p408025, .ref q408013, .ref (γ 9 29), .int p408026, .ref (γ 9 31), .int p408027, .int p408028, .int p408029, .ref q408014]) := (n578587 q408007 (rn_oa he578524 he578528)).trans he578524
                                have he578594 : F578585 q577493 = .inr (4, [.int p578065, .ref q578067, .int p578066]) := (n578587 q577493 (rn_oa he578525 he578528)).trans he578525
                                have he578595 : F578585 q578067 = .inl (I (.object "java/lang/Object"), n578360, .inr (.inr (.inr (.inr f578361)))) := (n578587 q578067 (rn_ref_num he578526 he578528)).trans he578526
                                have he578596 : F578585 q578363 = .inr (20, [.int p578376, .int p578377, .int p578378, .int p578379, .int p578380, .int p578381, .int p578382]) := (n578587 q578363 (rn_oa he578527 he578528)).trans he578527
                                have he578597 : F578585 (γ 9 5) = .inl (I .int, 2000, .inl f578588) := e578586
                                have hs578598 : rStr γ [] F408006 F578585 := rStr_put hs578529 n578587 ht408037 (by decide)
                                have kp578599 : F578585 q408007 = F408006 q408007 := (n578587 q408007 (rn_ty htq408007 ht408037 (by decide))).trans kp578530
                                have kp578600 : F578585 (γ 9 3) = F408006 (γ 9 3) := (n578587 (γ 9 3) (rn_ty ht408035 ht408037 (by decide))).trans kp578531
                                refine G_aload 0 dr_cX17_weigh_167 rfl ?_
                                have hT578601 : RS D I P408005 F578585 γ el := RS_set hT578532 n578587 ht408037 (by decide) ⟨f578588, he578597⟩
                                have fq578602 : fI (F578585 q578363) 0 = p578376 := by rw [he578596]; rfl
                                have fq578603 : fI (F578585 q578363) 6 = p578382 := by rw [he578596]; rfl
                                refine Gw_callV (As := []) (gV_ok D I) (cp_1699_Row_usesB l hl0 D I P408005 F578585 q578363 p578376 p578377 p578378 p578379 p578380 p578381 p578382 hm578374 he578596 bp578376 bp578377 bp578380 bp578381 bp578382) dr_cX17_weigh_169 ⟨wr_10_196, wr_1_39, wr_10_199, by decide, rfl, (Nat.le_of_ble_eq_true rfl), (Nat.le_of_ble_eq_true rfl)⟩ wr_10_197 wr_10_198 hm578374 he578596 rfl (show 0 + 0 ≤ 0 by first | omega | decide) (show 0 + 0 ≤ 0 by first | omega | decide) (Nat.le_of_ble_eq_true rfl) (fun r578607 w578608 dc578604 ds578605 hp578606 => ?_) (fun _ _ _ _ _ z => z.elim)
                                obtain ⟨o578609, rfl, rfl, hdc, hds, bo578609, x578610, ht578611⟩ := hp578606
                                change G _ _ _ _ _ _ _ (.int o578609 :: _) _ _ _
                                refine G_widen (cs' := 0) (sl' := 0) (by omega) (by omega) ?_
                                refine G_if_eq 189 dr_cX17_weigh_172 (by decide +kernel) (fun hc578612 => ?_) (fun hc578612 => ?_)
                                · have r578613 : o578609.toInt = 0 := gj_eq hc578612 (show Int32.toInt 0 = 0 by decide)
                                  have bo578609' : gB o578609 0 0 := gB_t0 r578613
                                  obtain ⟨z578614, hz578614⟩ : ∃ z : Int32, z = g578047 + Int32.ofInt 1 := ⟨_, rfl⟩
                                  have ez578614 : z578614.toInt = g578047.toInt + 1 := gI_inc hz578614 (by decide) bg578047'' (by decide) (by decide)
                                  have bz578614 : gB z578614 1 1000000 := ⟨by omega, by omega⟩
                                  refine G_iinc (L' := [(5, .int z578614), (6, .ref q578363), (4, .ref q577483), (3, .int g577452), (2, .int g576277), (0, .ref q408007), (1, .ref q408008)]) z578614 1 dr_cX17_weigh_189 rfl hz578614.symm (Nat.le_of_ble_eq_true rfl) rfl ?_
                                  refine G_goto 74 dr_cX17_weigh_192 (by decide +kernel) ?_
                                  refine G_lv (L' := [(5, .int z578614), (4, .ref q577483), (3, .int g577452), (2, .int g576277), (0, .ref q408007), (1, .ref q408008)]) [0, 2, 3, 4, 5, 6] rfl ?_
                                  exact ih74_578052 F578585 z578614 (gB_w bz578614 (by decide) (by decide)) hT578601 hs578598 kp578599 kp578600 (fun k e1 ht => kt74_578053 k e1 (fun R c1 c2 c3 c4 c5 c6 c7 c8 c9 c10 c11 c12 c13 c14 c15 c16 c17 => c16 F578048 g578047 q577493 p578066 q578363 p578376 o578394 p578377 f578513 z578514 z578515 f578519 F578516 p578381 o578540 p578378 z578583 z578584 f578588 F578585 p578382 o578609 z578614 k e1 bg578047 hT578049 hs578050 x578051 x578052 fq578062 fq578073 fq578074 r578084 fq578085 r578351 hx578364 ht578373 fq578388 bo578394 ht578395 r578508 fq578509 fq578510 he578512 hz578514 hz578515 hf578519 n578518 he578528 fq578533 fq578534 bo578540 ht578542 r578580 fq578581 fq578582 he578528 hz578583 hz578584 hf578588 n578587 he578597 fq578602 fq578603 bo578609 ht578611 r578613 ez578614 (ht R c1 c2 c3 c4 c5 c6 c7 c8 c9 c10 c11 c12 c13 c14 c15 c16 c17))) (mz_up ez578614 (Int.le_trans bg578047''.2 (by decide)) hm74_578052)
                                · have r578615 : o578609.toInt ≠ 0 := gj_neq hc578612 (show Int32.toInt 0 = 0 by decide)
                                  have bo578609' : gB o578609 1 1 := gB_t1 bo578609 r578615
                                  refine G_aload_n 5 dr_cX17_weigh_175 rfl ?_
                                  have fq578616 : fR (F578585 q408007) 5 = (γ 9 5) := by rw [he578593]; rfl
                                  refine Gp_get 5 hm578061 he578593 dr_cX17_weigh_176 (gk_X17 D I) (Nat.le_of_ble_eq_true rfl) wr_7_79 rfl ?_
                                  refine G_aload 0 dr_cX17_weigh_179 rfl ?_
                                  have fq578617 : fI (F578585 q578363) 3 = p578379 := by rw [he578596]; rfl
                                  refine Gp_get 3 hm578374 he578596 dr_cX17_weigh_181 (gk_X15 D I) (Nat.le_of_ble_eq_true rfl) wr_9_190 rfl ?_
                                  refine G_dup2_11 dr_cX17_weigh_184 rfl rfl ?_
                                  refine Gp_iald 0 hm578511 he578597 dr_cX17_weigh_185 rfl (gB_inr (by omega) (by omega)) (G_nam fun z578618 hz578618 => ?_)
                                  have bz578618 : gB z578618 (-2147483648) 2147483647 := gB_any z578618
                                  refine G_iload_n 3 dr_cX17_weigh_186 rfl ?_
                                  refine G_iadd dr_cX17_weigh_187 (G_nam fun z578619 hz578619 => ?_)
                                  have bz578619 : gB z578619 (-2147483648) 2147483647 := gB_any z578619
                                  refine Gp_iast 0 hm578511 he578597 dr_cX17_weigh_188 rfl (gB_inr (by omega) (by omega)) (fun F578620 e578621 n578622 => ?_)
                                  obtain ⟨f578623, hf578623⟩ : ∃ z, z = upd f578588 p578379.toNatClampNeg z578619 := ⟨_, rfl⟩
                                  rw [← hf578623] at e578621
                                  have he578624 : F578620 q408008 = .inr (18, [.ref q576290, .ref q576291, .int p576292, .int p576293]) := (n578622 q408008 (rn_oa he578589 he578597)).trans he578589
                                  have he578625 : F578620 q576290 = .inr (4, [.int p577464, .ref q577466, .int p577465]) := (n578622 q576290 (rn_oa he578590 he578597)).trans he578590
                                  have he578626 : F578620 q577466 = .inl (I (.object "java/lang/Object"), n577480, .inr (.inr (.inr (.inr f577481)))) := (n578622 q577466 (rn_ref_num he578591 he578597)).trans he578591
                                  have he578627 : F578620 q577483 = .inr (17, [.ref q577493, .ref q577494, .int p577495, .int p577496]) := (n578622 q577483 (rn_oa he578592 he578597)).trans he578592
                                  have he578628 : F578620 q408007 = .inr (22, [.ref (γ 9 0), .ref (γ 9 1), .ref (γ 9 2), .ref (γ 9 3), .ref (γ 9 4), .ref (γ 9 5), .ref (γ 9 6), .ref (γ 9 7), .ref (γ 9 8), .int p408015, .int p408016, .int p408017, .int p408018, .int p408019, .int p408020, .ref (γ 9 15), .ref (γ 9 16), .ref (γ 9 17), .ref (γ 9 18), .ref (γ 9 19), .ref (γ 9 20), .ref (γ 9 21), .ref (γ 9 22), .int p408021, .int p408022, .int p408023, .int p408024, .int p408025, .ref q408013, .ref (γ 9 29), .int p408026, .ref (γ 9 31), .int p408027, .int p408028, .int p408029, .ref q408014]) := (n578622 q408007 (rn_oa he578593 he578597)).trans he578593
                                  have he578629 : F578620 q577493 = .inr (4, [.int p578065, .ref q578067, .int p578066]) := (n578622 q577493 (rn_oa he578594 he578597)).trans he578594
                                  have he578630 : F578620 q578067 = .inl (I (.object "java/lang/Object"), n578360, .inr (.inr (.inr (.inr f578361)))) := (n578622 q578067 (rn_ref_num he578595 he578597)).trans he578595
                                  have he578631 : F578620 q578363 = .inr (20, [.int p578376, .int p578377, .int p578378, .int p578379, .int p578380, .int p578381, .int p578382]) := (n578622 q578363 (rn_oa he578596 he578597)).trans he578596
                                  have he578632 : F578620 (γ 9 5) = .inl (I .int, 2000, .inl f578623) := e578621
                                  have hs578633 : rStr γ [] F408006 F578620 := rStr_put hs578598 n578622 ht408037 (by decide)
                                  have kp578634 : F578620 q408007 = F408006 q408007 := (n578622 q408007 (rn_ty htq408007 ht408037 (by decide))).trans kp578599
                                  have kp578635 : F578620 (γ 9 3) = F408006 (γ 9 3) := (n578622 (γ 9 3) (rn_ty ht408035 ht408037 (by decide))).trans kp578600
                                  obtain ⟨z578636, hz578636⟩ : ∃ z : Int32, z = g578047 + Int32.ofInt 1 := ⟨_, rfl⟩
                                  have ez578636 : z578636.toInt = g578047.toInt + 1 := gI_inc hz578636 (by decide) bg578047'' (by decide) (by decide)
                                  have bz578636 : gB z578636 1 1000000 := ⟨by omega, by omega⟩
                                  refine G_iinc (L' := [(5, .int z578636), (6, .ref q578363), (4, .ref q577483), (3, .int g577452), (2, .int g576277), (0, .ref q408007), (1, .ref q408008)]) z578636 1 dr_cX17_weigh_189 rfl hz578636.symm (Nat.le_of_ble_eq_true rfl) rfl ?_
                                  refine G_goto 74 dr_cX17_weigh_192 (by decide +kernel) ?_
                                  have hT578637 : RS D I P408005 F578620 γ el := RS_set hT578601 n578622 ht408037 (by decide) ⟨f578623, he578632⟩
                                  refine G_lv (L' := [(5, .int z578636), (4, .ref q577483), (3, .int g577452), (2, .int g576277), (0, .ref q408007), (1, .ref q408008)]) [0, 2, 3, 4, 5, 6] rfl ?_
                                  exact ih74_578052 F578620 z578636 (gB_w bz578636 (by decide) (by decide)) hT578637 hs578633 kp578634 kp578635 (fun k e1 ht => kt74_578053 k e1 (fun R c1 c2 c3 c4 c5 c6 c7 c8 c9 c10 c11 c12 c13 c14 c15 c16 c17 => c17 F578048 g578047 q577493 p578066 q578363 p578376 o578394 p578377 f578513 z578514 z578515 f578519 F578516 p578381 o578540 p578378 z578583 z578584 f578588 F578585 p578382 o578609 p578379 z578618 z578619 f578623 F578620 z578636 k e1 bg578047 hT578049 hs578050 x578051 x578052 fq578062 fq578073 fq578074 r578084 fq578085 r578351 hx578364 ht578373 fq578388 bo578394 ht578395 r578508 fq578509 fq578510 he578512 hz578514 hz578515 hf578519 n578518 he578528 fq578533 fq578534 bo578540 ht578542 r578580 fq578581 fq578582 he578528 hz578583 hz578584 hf578588 n578587 he578597 fq578602 fq578603 bo578609 ht578611 r578615 fq578616 fq578617 he578597 hz578618 hz578619 hf578623 n578622 he578632 ez578636 (ht R c1 c2 c3 c4 c5 c6 c7 c8 c9 c10 c11 c12 c13 c14 c15 c16 c17))) (mz_up ez578636 (Int.le_trans bg578047''.2 (by decide)) hm74_578052)
                    exact hlp74_578052 (((1000002 : Int) - 0).toNat + 1) F576278 0 (gB_w (gBl (show Int32.toInt 0 = 0 by decide)) (by decide) (by decide)) hT576279 hs576280 x576281 x576282 (fun k e1 ht => ht) (Nat.lt_succ_self _)
                  · have r578638 : g577451.toInt < z577458.toInt := gC_nle hc577459
                    have bg577451' : gB g577451 0 2147483646 := ⟨by omega, by omega⟩
                    have bz577458' : gB z577458 1 2147483647 := ⟨by omega, by omega⟩
                    refine G_iload_n 1 dr_cX17_weigh_53 rfl ?_
                    refine G_bipush 10 dr_cX17_weigh_54 (by decide +kernel) ?_
                    refine G_imul dr_cX17_weigh_56 (G_nam fun z578639 hz578639 => ?_)
                    have bz578639 : gB z578639 (-2147483648) 2147483647 := gB_any z578639
                    refine G_istore_n (L' := [(3, .int z578639), (4, .int g577451), (2, .int g576277), (0, .ref q408007), (1, .ref q408008)]) dr_cX17_weigh_57 (Nat.le_of_ble_eq_true rfl) rfl ?_
                    obtain ⟨z578640, hz578640⟩ : ∃ z : Int32, z = g577451 + Int32.ofInt 1 := ⟨_, rfl⟩
                    have ez578640 : z578640.toInt = g577451.toInt + 1 := gI_inc hz578640 (by decide) bg577451' (by decide) (by decide)
                    have bz578640 : gB z578640 1 2147483647 := ⟨by omega, by omega⟩
                    refine G_iinc (L' := [(4, .int z578640), (3, .int z578639), (2, .int g576277), (0, .ref q408007), (1, .ref q408008)]) z578640 1 dr_cX17_weigh_58 rfl hz578640.symm (Nat.le_of_ble_eq_true rfl) rfl ?_
                    refine G_goto 42 dr_cX17_weigh_61 (by decide +kernel) ?_
                    exact ih42_577452 z578640 z578639 (gB_w bz578640 (by decide) (by decide)) (fun k e1 ht => kt42_577453 k e1 (fun R c1 c2 => c2 g577451 g577452 f577457 z577458 z578639 z578640 k e1 bg577451 fq577454 he577456 hz577458 r578638 hz578639 ez578640 (ht R c1 c2))) (mz_up ez578640 (Int.le_trans bg577451'.2 (by decide)) hm42_577452)
              exact hlp42_577452 (((2147483648 : Int) - 0).toNat + 1) 0 1 (gB_w (gBl (show Int32.toInt 0 = 0 by decide)) (by decide) (by decide)) (fun k e1 ht => ht) (Nat.lt_succ_self _)
        exact hlp29_576282 (((1000001 : Int) - 0).toNat + 1) F573963 0 (gB_w (gBl (show Int32.toInt 0 = 0 by decide)) (by decide) (by decide)) hT573964 hs573965 x573966 x573967 (fun k e1 ht => ht) (Nat.lt_succ_self _)
      · have r578641 : g573962.toInt < 2000 := gj_nleL hc573973 (show Int32.toInt 2000 = 2000 by decide)
        have bg573962' : gB g573962 0 1999 := ⟨by omega, by omega⟩
        refine G_aload_n 1 dr_cX17_weigh_14 rfl ?_
        have fq578642 : fR (F573963 q408007) 5 = (γ 9 5) := by rw [he573971]; rfl
        refine Gp_get 5 hm573972 he573971 dr_cX17_weigh_15 (gk_X17 D I) (Nat.le_of_ble_eq_true rfl) wr_7_79 rfl ?_
        refine G_iload_n 0 dr_cX17_weigh_18 rfl ?_
        refine G_iconst 0 dr_cX17_weigh_19 (by decide +kernel) ?_
        have hm578643 : (γ 9 5) ∈ P408005 := RS_m hT573964 ht408037 (by decide)
        obtain ⟨f578645, he578644⟩ := show rk_17 I (F573963 (γ 9 5)) from RS_o hT573964 ht408037
        refine Gp_iast 0 hm578643 he578644 dr_cX17_weigh_20 rfl (gB_in bg573962' (by decide) (by decide)) (fun F578646 e578647 n578648 => ?_)
        obtain ⟨f578649, hf578649⟩ : ∃ z, z = upd f578645 g573962.toNatClampNeg 0 := ⟨_, rfl⟩
        rw [← hf578649] at e578647
        have he578650 : F578646 q408007 = .inr (22, [.ref (γ 9 0), .ref (γ 9 1), .ref (γ 9 2), .ref (γ 9 3), .ref (γ 9 4), .ref (γ 9 5), .ref (γ 9 6), .ref (γ 9 7), .ref (γ 9 8), .int p408015, .int p408016, .int p408017, .int p408018, .int p408019, .int p408020, .ref (γ 9 15), .ref (γ 9 16), .ref (γ 9 17), .ref (γ 9 18), .ref (γ 9 19), .ref (γ 9 20), .ref (γ 9 21), .ref (γ 9 22), .int p408021, .int p408022, .int p408023, .int p408024, .int p408025, .ref q408013, .ref (γ 9 29), .int p408026, .ref (γ 9 31), .int p408027, .int p408028, .int p408029, .ref q408014]) := (n578648 q408007 (rn_oa he573971 he578644)).trans he573971
        have he578651 : F578646 (γ 9 5) = .inl (I .int, 2000, .inl f578649) := e578647
        have hs578652 : rStr γ [] F408006 F578646 := rStr_put hs573965 n578648 ht408037 (by decide)
        have kp578653 : F578646 q408007 = F408006 q408007 := (n578648 q408007 (rn_ty htq408007 ht408037 (by decide))).trans x573966
        have kp578654 : F578646 (γ 9 3) = F408006 (γ 9 3) := (n578648 (γ 9 3) (rn_ty ht408035 ht408037 (by decide))).trans x573967
        obtain ⟨z578655, hz578655⟩ : ∃ z : Int32, z = g573962 + Int32.ofInt 1 := ⟨_, rfl⟩
        have ez578655 : z578655.toInt = g573962.toInt + 1 := gI_inc hz578655 (by decide) bg573962' (by decide) (by decide)
        have bz578655 : gB z578655 1 2000 := ⟨by omega, by omega⟩
        refine G_iinc (L' := [(2, .int z578655), (0, .ref q408007), (1, .ref q408008)]) z578655 0 dr_cX17_weigh_21 rfl hz578655.symm (Nat.le_of_ble_eq_true rfl) rfl ?_
        refine G_goto 7 dr_cX17_weigh_24 (by decide +kernel) ?_
        have hT578656 : RS D I P408005 F578646 γ el := RS_set hT573964 n578648 ht408037 (by decide) ⟨f578649, he578651⟩
        exact ih7_573967 F578646 z578655 (gB_w bz578655 (by decide) (by decide)) hT578656 hs578652 kp578653 kp578654 (fun k e1 ht => kt7_573968 k e1 (fun R c1 c2 => c2 F573963 g573962 f578645 f578649 F578646 z578655 k e1 bg573962 hT573964 hs573965 x573966 x573967 r578641 fq578642 he578644 hf578649 n578648 he578651 ez578655 (ht R c1 c2))) (mz_up ez578655 (Int.le_trans bg573962'.2 (by decide)) hm7_573967)
  exact hlp7_573967 (((2001 : Int) - 0).toNat + 1) F534207 0 (gB_w (gBl (show Int32.toInt 0 = 0 by decide)) (by decide) (by decide)) hT534208 hs534210 kp534211 kp534212 (fun k e1 ht => ht) (Nat.lt_succ_self _)
