theorem dr_cX17_weigh_0 : decode cX17_weigh 0 = .ok (.aload_n 0, 1) := by decide +kernel
theorem dr_cX17_weigh_1 : decode cX17_weigh 1 = .ok (.aload_n 1, 1) := by decide +kernel
theorem dr_cX17_weigh_2 : decode cX17_weigh 2 = .ok (.invokevirtual 170, 3) := by decide +kernel
theorem wr_11_33 : (Jvm.Cond.methodLink "SpillForgeModel" (170 : Nat) ({ cls := "SpillForgeModel", name := "findDepth", desc := "(LSpillForgeModel$Code;)V" } : Jvm.MethodName)) ∈ gw := gw_11 33 rfl rfl
theorem wr_11_36 : (Jvm.Cond.code ({ cls := "SpillForgeModel", name := "findDepth", desc := "(LSpillForgeModel$Code;)V" } : Jvm.MethodName) prog_14_method_14_code (13 : Nat) (Option.none : Option Jvm.ClassFile.FieldType)) ∈ gw := gw_11 36 rfl rfl
theorem wr_11_35 : (Jvm.Cond.instanceMethod ({ cls := "SpillForgeModel", name := "findDepth", desc := "(LSpillForgeModel$Code;)V" } : Jvm.MethodName)) ∈ gw := gw_11 35 rfl rfl
theorem wr_p_105 : Cond.selects "SpillForgeModel" ⟨"SpillForgeModel", "findDepth", "(LSpillForgeModel$Code;)V"⟩ ⟨"SpillForgeModel", "findDepth", "(LSpillForgeModel$Code;)V"⟩ ∈ gw := gw_p _ 105 rfl rfl rfl
theorem dr_cX17_weigh_5 : decode cX17_weigh 5 = .ok (.iconst 0, 1) := by decide +kernel
theorem dr_cX17_weigh_6 : decode cX17_weigh 6 = .ok (.istore_n 2, 1) := by decide +kernel
theorem dr_cX17_weigh_7 : decode cX17_weigh 7 = .ok (.iload_n 2, 1) := by decide +kernel
theorem dr_cX17_weigh_8 : decode cX17_weigh 8 = .ok (.sipush 2000, 3) := by decide +kernel
theorem dr_cX17_weigh_11 : decode cX17_weigh 11 = .ok (.if_icmp .ge 16, 3) := by decide +kernel
theorem dr_cX17_weigh_27 : decode cX17_weigh 27 = .ok (.iconst 0, 1) := by decide +kernel
theorem dr_cX17_weigh_28 : decode cX17_weigh 28 = .ok (.istore_n 2, 1) := by decide +kernel
theorem dr_cX17_weigh_29 : decode cX17_weigh 29 = .ok (.iload_n 2, 1) := by decide +kernel
theorem dr_cX17_weigh_30 : decode cX17_weigh 30 = .ok (.aload_n 1, 1) := by decide +kernel
theorem dr_cX17_weigh_31 : decode cX17_weigh 31 = .ok (.invokevirtual 96, 3) := by decide +kernel
theorem dr_cX17_weigh_34 : decode cX17_weigh 34 = .ok (.if_icmp .ge 167, 3) := by decide +kernel
theorem dr_cX17_weigh_201 : decode cX17_weigh 201 = .ok (.return_, 1) := by decide +kernel
theorem dr_cX17_weigh_37 : decode cX17_weigh 37 = .ok (.iconst 1, 1) := by decide +kernel
theorem dr_cX17_weigh_38 : decode cX17_weigh 38 = .ok (.istore_n 3, 1) := by decide +kernel
theorem dr_cX17_weigh_39 : decode cX17_weigh 39 = .ok (.iconst 0, 1) := by decide +kernel
theorem dr_cX17_weigh_40 : decode cX17_weigh 40 = .ok (.istore 4, 2) := by decide +kernel
theorem dr_cX17_weigh_42 : decode cX17_weigh 42 = .ok (.iload 4, 2) := by decide +kernel
theorem dr_cX17_weigh_44 : decode cX17_weigh 44 = .ok (.aload_n 0, 1) := by decide +kernel
theorem dr_cX17_weigh_45 : decode cX17_weigh 45 = .ok (.getfield 152, 3) := by decide +kernel
theorem dr_cX17_weigh_48 : decode cX17_weigh 48 = .ok (.iload_n 2, 1) := by decide +kernel
theorem dr_cX17_weigh_49 : decode cX17_weigh 49 = .ok (.iaload, 1) := by decide +kernel
theorem dr_cX17_weigh_50 : decode cX17_weigh 50 = .ok (.if_icmp .ge 14, 3) := by decide +kernel
theorem dr_cX17_weigh_64 : decode cX17_weigh 64 = .ok (.aload_n 1, 1) := by decide +kernel
theorem dr_cX17_weigh_65 : decode cX17_weigh 65 = .ok (.iload_n 2, 1) := by decide +kernel
theorem dr_cX17_weigh_66 : decode cX17_weigh 66 = .ok (.invokevirtual 101, 3) := by decide +kernel
theorem dr_cX17_weigh_69 : decode cX17_weigh 69 = .ok (.astore 4, 2) := by decide +kernel
theorem dr_cX17_weigh_71 : decode cX17_weigh 71 = .ok (.iconst 0, 1) := by decide +kernel
theorem dr_cX17_weigh_72 : decode cX17_weigh 72 = .ok (.istore 5, 2) := by decide +kernel
theorem dr_cX17_weigh_74 : decode cX17_weigh 74 = .ok (.iload 5, 2) := by decide +kernel
theorem dr_cX17_weigh_76 : decode cX17_weigh 76 = .ok (.aload 4, 2) := by decide +kernel
theorem dr_cX17_weigh_78 : decode cX17_weigh 78 = .ok (.getfield 117, 3) := by decide +kernel
theorem dr_cX17_weigh_81 : decode cX17_weigh 81 = .ok (.invokevirtual 121, 3) := by decide +kernel
theorem dr_cX17_weigh_84 : decode cX17_weigh 84 = .ok (.if_icmp .gt 111, 3) := by decide +kernel
theorem dr_cX17_weigh_195 : decode cX17_weigh 195 = .ok (.iinc 2 1, 3) := by decide +kernel
theorem dr_cX17_weigh_198 : decode cX17_weigh 198 = .ok (.goto (-169), 3) := by decide +kernel
theorem dr_cX17_weigh_87 : decode cX17_weigh 87 = .ok (.iload 5, 2) := by decide +kernel
theorem dr_cX17_weigh_89 : decode cX17_weigh 89 = .ok (.aload 4, 2) := by decide +kernel
theorem dr_cX17_weigh_91 : decode cX17_weigh 91 = .ok (.getfield 117, 3) := by decide +kernel
theorem dr_cX17_weigh_94 : decode cX17_weigh 94 = .ok (.invokevirtual 121, 3) := by decide +kernel
theorem dr_cX17_weigh_97 : decode cX17_weigh 97 = .ok (.if_icmp .ge 19, 3) := by decide +kernel
theorem dr_cX17_weigh_116 : decode cX17_weigh 116 = .ok (.aload 4, 2) := by decide +kernel
theorem dr_cX17_weigh_118 : decode cX17_weigh 118 = .ok (.getfield 109, 3) := by decide +kernel
theorem dr_cX17_weigh_121 : decode cX17_weigh 121 = .ok (.astore 6, 2) := by decide +kernel
theorem dr_cX17_weigh_123 : decode cX17_weigh 123 = .ok (.aload 6, 2) := by decide +kernel
theorem dr_cX17_weigh_125 : decode cX17_weigh 125 = .ok (.invokevirtual 48, 3) := by decide +kernel
theorem dr_cX17_weigh_128 : decode cX17_weigh 128 = .ok (.ifCond .eq 17, 3) := by decide +kernel
theorem dr_cX17_weigh_145 : decode cX17_weigh 145 = .ok (.aload 6, 2) := by decide +kernel
theorem dr_cX17_weigh_147 : decode cX17_weigh 147 = .ok (.invokevirtual 70, 3) := by decide +kernel
theorem dr_cX17_weigh_150 : decode cX17_weigh 150 = .ok (.ifCond .eq 17, 3) := by decide +kernel
theorem dr_cX17_weigh_167 : decode cX17_weigh 167 = .ok (.aload 6, 2) := by decide +kernel
theorem dr_cX17_weigh_169 : decode cX17_weigh 169 = .ok (.invokevirtual 76, 3) := by decide +kernel
theorem dr_cX17_weigh_172 : decode cX17_weigh 172 = .ok (.ifCond .eq 17, 3) := by decide +kernel
theorem dr_cX17_weigh_189 : decode cX17_weigh 189 = .ok (.iinc 5 1, 3) := by decide +kernel
theorem dr_cX17_weigh_192 : decode cX17_weigh 192 = .ok (.goto (-118), 3) := by decide +kernel
theorem dr_cX17_weigh_175 : decode cX17_weigh 175 = .ok (.aload_n 0, 1) := by decide +kernel
theorem dr_cX17_weigh_176 : decode cX17_weigh 176 = .ok (.getfield 174, 3) := by decide +kernel
theorem dr_cX17_weigh_179 : decode cX17_weigh 179 = .ok (.aload 6, 2) := by decide +kernel
theorem dr_cX17_weigh_181 : decode cX17_weigh 181 = .ok (.getfield 79, 3) := by decide +kernel
theorem dr_cX17_weigh_184 : decode cX17_weigh 184 = .ok (.dup2, 1) := by decide +kernel
theorem dr_cX17_weigh_185 : decode cX17_weigh 185 = .ok (.iaload, 1) := by decide +kernel
theorem dr_cX17_weigh_186 : decode cX17_weigh 186 = .ok (.iload_n 3, 1) := by decide +kernel
theorem dr_cX17_weigh_187 : decode cX17_weigh 187 = .ok (.iadd, 1) := by decide +kernel
theorem dr_cX17_weigh_188 : decode cX17_weigh 188 = .ok (.iastore, 1) := by decide +kernel
theorem dr_cX17_weigh_153 : decode cX17_weigh 153 = .ok (.aload_n 0, 1) := by decide +kernel
theorem dr_cX17_weigh_154 : decode cX17_weigh 154 = .ok (.getfield 174, 3) := by decide +kernel
theorem dr_cX17_weigh_157 : decode cX17_weigh 157 = .ok (.aload 6, 2) := by decide +kernel
theorem dr_cX17_weigh_159 : decode cX17_weigh 159 = .ok (.getfield 73, 3) := by decide +kernel
theorem dr_cX17_weigh_162 : decode cX17_weigh 162 = .ok (.dup2, 1) := by decide +kernel
theorem dr_cX17_weigh_163 : decode cX17_weigh 163 = .ok (.iaload, 1) := by decide +kernel
theorem dr_cX17_weigh_164 : decode cX17_weigh 164 = .ok (.iload_n 3, 1) := by decide +kernel
theorem dr_cX17_weigh_165 : decode cX17_weigh 165 = .ok (.iadd, 1) := by decide +kernel
theorem dr_cX17_weigh_166 : decode cX17_weigh 166 = .ok (.iastore, 1) := by decide +kernel
theorem dr_cX17_weigh_131 : decode cX17_weigh 131 = .ok (.aload_n 0, 1) := by decide +kernel
theorem dr_cX17_weigh_132 : decode cX17_weigh 132 = .ok (.getfield 174, 3) := by decide +kernel
theorem dr_cX17_weigh_135 : decode cX17_weigh 135 = .ok (.aload 6, 2) := by decide +kernel
theorem dr_cX17_weigh_137 : decode cX17_weigh 137 = .ok (.getfield 52, 3) := by decide +kernel
theorem dr_cX17_weigh_140 : decode cX17_weigh 140 = .ok (.dup2, 1) := by decide +kernel
theorem dr_cX17_weigh_141 : decode cX17_weigh 141 = .ok (.iaload, 1) := by decide +kernel
theorem dr_cX17_weigh_142 : decode cX17_weigh 142 = .ok (.iload_n 3, 1) := by decide +kernel
theorem dr_cX17_weigh_143 : decode cX17_weigh 143 = .ok (.iadd, 1) := by decide +kernel
theorem dr_cX17_weigh_144 : decode cX17_weigh 144 = .ok (.iastore, 1) := by decide +kernel
theorem dr_cX17_weigh_100 : decode cX17_weigh 100 = .ok (.aload 4, 2) := by decide +kernel
theorem dr_cX17_weigh_102 : decode cX17_weigh 102 = .ok (.getfield 117, 3) := by decide +kernel
theorem dr_cX17_weigh_105 : decode cX17_weigh 105 = .ok (.iload 5, 2) := by decide +kernel
theorem dr_cX17_weigh_107 : decode cX17_weigh 107 = .ok (.invokevirtual 124, 3) := by decide +kernel
theorem dr_cX17_weigh_110 : decode cX17_weigh 110 = .ok (.checkcast 40, 3) := by decide +kernel
theorem dr_cX17_weigh_113 : decode cX17_weigh 113 = .ok (.goto 8, 3) := by decide +kernel
theorem dr_cX17_weigh_53 : decode cX17_weigh 53 = .ok (.iload_n 3, 1) := by decide +kernel
theorem dr_cX17_weigh_54 : decode cX17_weigh 54 = .ok (.bipush 10, 2) := by decide +kernel
theorem dr_cX17_weigh_56 : decode cX17_weigh 56 = .ok (.imul, 1) := by decide +kernel
theorem dr_cX17_weigh_57 : decode cX17_weigh 57 = .ok (.istore_n 3, 1) := by decide +kernel
theorem dr_cX17_weigh_58 : decode cX17_weigh 58 = .ok (.iinc 4 1, 3) := by decide +kernel
theorem dr_cX17_weigh_61 : decode cX17_weigh 61 = .ok (.goto (-19), 3) := by decide +kernel
theorem dr_cX17_weigh_14 : decode cX17_weigh 14 = .ok (.aload_n 0, 1) := by decide +kernel
theorem dr_cX17_weigh_15 : decode cX17_weigh 15 = .ok (.getfield 174, 3) := by decide +kernel
theorem dr_cX17_weigh_18 : decode cX17_weigh 18 = .ok (.iload_n 2, 1) := by decide +kernel
theorem dr_cX17_weigh_19 : decode cX17_weigh 19 = .ok (.iconst 0, 1) := by decide +kernel
theorem dr_cX17_weigh_20 : decode cX17_weigh 20 = .ok (.iastore, 1) := by decide +kernel
theorem dr_cX17_weigh_21 : decode cX17_weigh 21 = .ok (.iinc 2 1, 3) := by decide +kernel
theorem dr_cX17_weigh_24 : decode cX17_weigh 24 = .ok (.goto (-17), 3) := by decide +kernel
abbrev ky_398573_SpillForgeModel_weigh : gKey := (cX17_weigh, 7, "SpillForgeModel", none, [], "weigh", fun _ _ => True)
def pt_398573_SpillForgeModel_weigh (D : va_G) (I : FieldType → ClassId) (γ el : Nat → Nat → Nat) (P398568 : List Nat) (F398569 : Nat → va_E) (q398570 : Nat) (q398571 : Nat) : Option Value → va_W → Nat → Nat → Prop := fun r w dc ds => ∃ (F563408 : Nat → va_E), r = none ∧ w = va_pl P398568 F563408 ∧ RS D I P398568 F563408 γ el ∧ rStr γ [] F398569 F563408 ∧ dc ≤ 0 ∧ ds ≤ 0 ∧ (F563408 q398570 = F398569 q398570) ∧ (F563408 (γ 9 3) = F398569 (γ 9 3))
set_option maxRecDepth 100000 in
set_option maxHeartbeats 4000000 in
theorem ct_398573_SpillForgeModel_weigh (l : Launch) (hl0 : l.stackTraces = false) (D : va_G) (I : FieldType → ClassId) (γ el : Nat → Nat → Nat) (P398568 : List Nat) (F398569 : Nat → va_E) (q398570 : Nat) (q398571 : Nat) (hT : RS D I P398568 F398569 γ el) (htq398570 : rKd γ q398570 10) (htq398571 : rKd γ q398571 9) (x398572 : 0 < γ 6 (γ 1 q398571)) : CtA (gV D I) l yX17_weigh cX17_weigh 7 none 6 144 0 0 [.ref q398570, .ref q398571] (va_pl P398568 F398569) (pt_398573_SpillForgeModel_weigh D I γ el P398568 F398569 q398570 q398571) gNA := by
  refine CtA_of hl0 (by decide) (Nat.le_of_ble_eq_true rfl) ?_
  have hm398574 : q398570 ∈ P398568 := RS_m hT htq398570 (by decide)
  refine rk10_e (show rk_10 γ (F398569 q398570) from RS_o hT htq398570) (fun q398576 q398577 p398578 p398579 p398580 p398581 p398582 p398583 p398584 p398585 p398586 p398587 p398588 p398589 p398590 p398591 p398592 he398575 hB398619 ht398593 ht398594 ht398595 ht398596 ht398597 ht398598 ht398599 ht398600 ht398601 ht398602 ht398603 ht398604 ht398605 ht398606 ht398607 ht398608 ht398609 ht398610 ht398611 ht398612 ht398613 ht398614 ht398615 ht398616 hB398620 => ?_)
  refine G_aload_n 0 dr_cX17_weigh_0 rfl ?_
  refine G_aload_n 1 dr_cX17_weigh_1 rfl ?_
  refine Gw_callV (As := [.ref q398571]) (gV_ok D I) (ct_398626_SpillForgeModel_findDepth l hl0 D I γ el P398568 F398569 q398570 q398571 hT htq398570 htq398571 (by omega)) dr_cX17_weigh_2 ⟨wr_11_33, wr_1_14, wr_11_36, by decide, rfl, (Nat.le_of_ble_eq_true rfl), (Nat.le_of_ble_eq_true rfl)⟩ wr_11_35 wr_p_105 hm398574 he398575 rfl (show 0 + 0 ≤ 0 by first | omega | decide) (show 0 + 0 ≤ 0 by first | omega | decide) (Nat.le_of_ble_eq_true rfl) (fun r520220 w520221 dc520217 ds520218 hp520219 => ?_) (fun _ _ _ _ _ z => z.elim)
  obtain ⟨F520224, rfl, rfl, hT520225, hs520226, hdc, hds, x520222, x520223⟩ := hp520219
  have hs520227 : rStr γ [] F398569 F520224 := rStr_tr (rStr_rf (γ := γ) (W := []) (F := F398569)) hs520226
  have kp520228 : F520224 q398570 = F398569 q398570 := x520222
  have kp520229 : F520224 (γ 9 3) = F398569 (γ 9 3) := x520223
  have he520230 : F520224 q398570 = .inr (22, [.ref (γ 9 0), .ref (γ 9 1), .ref (γ 9 2), .ref (γ 9 3), .ref (γ 9 4), .ref (γ 9 5), .ref (γ 9 6), .ref (γ 9 7), .ref (γ 9 8), .int p398578, .int p398579, .int p398580, .int p398581, .int p398582, .int p398583, .ref (γ 9 15), .ref (γ 9 16), .ref (γ 9 17), .ref (γ 9 18), .ref (γ 9 19), .ref (γ 9 20), .ref (γ 9 21), .ref (γ 9 22), .int p398584, .int p398585, .int p398586, .int p398587, .int p398588, .ref q398576, .ref (γ 9 29), .int p398589, .ref (γ 9 31), .int p398590, .int p398591, .int p398592, .ref q398577]) := (x520222).trans he398575
  change G _ _ _ _ _ _ _ _ _ _ _
  refine G_widen (cs' := 0) (sl' := 0) (by omega) (by omega) ?_
  refine G_iconst 0 dr_cX17_weigh_5 (by decide +kernel) ?_
  refine G_istore_n (L' := [(2, .int 0), (0, .ref q398570), (1, .ref q398571)]) dr_cX17_weigh_6 (Nat.le_of_ble_eq_true rfl) rfl ?_
  have hlp7_558904 : ∀ (n7_558904 : Nat) (F558900 : Nat → va_E) (g558899 : Int32), gB g558899 0 2000 → RS D I P398568 F558900 γ el → rStr γ [] F398569 F558900 → (F558900 q398570 = F398569 q398570) → (F558900 (γ 9 3) = F398569 (γ 9 3)) → ((2001 : Int) - g558899.toInt).toNat < n7_558904 → G (gV D I) l (gRm 6 144 0 0) (gMA (gV D I) (pt_398573_SpillForgeModel_weigh D I γ el P398568 F398569 q398570 q398571) gNA 0 0) ky_398573_SpillForgeModel_weigh 7 [(2, .int g558899), (0, .ref q398570), (1, .ref q398571)] [] (va_pl P398568 F558900) 0 0 := by
    intro n7_558904
    induction n7_558904 with
    | zero => intro F558900 g558899 bg558899 hT558901 hs558902 x558903 x558904 hm7_558904; exact absurd hm7_558904 (Nat.not_lt_zero _)
    | succ n7_558904 ih7_558904 =>
      intro F558900 g558899 bg558899 hT558901 hs558902 x558903 x558904 hm7_558904
      have hs558906 : rStr γ [] F520224 F558900 := fun b h0 hb hw => (hs558902 b h0 hb hw).trans (hs520227 b h0 hb hw).symm
      have hs558907 : rStr γ [] F398569 F558900 := rStr_tr hs520227 hs558906
      have he558908 : F558900 q398570 = .inr (22, [.ref (γ 9 0), .ref (γ 9 1), .ref (γ 9 2), .ref (γ 9 3), .ref (γ 9 4), .ref (γ 9 5), .ref (γ 9 6), .ref (γ 9 7), .ref (γ 9 8), .int p398578, .int p398579, .int p398580, .int p398581, .int p398582, .int p398583, .ref (γ 9 15), .ref (γ 9 16), .ref (γ 9 17), .ref (γ 9 18), .ref (γ 9 19), .ref (γ 9 20), .ref (γ 9 21), .ref (γ 9 22), .int p398584, .int p398585, .int p398586, .int p398587, .int p398588, .ref q398576, .ref (γ 9 29), .int p398589, .ref (γ 9 31), .int p398590, .int p398591, .int p398592, .ref q398577]) := x558903.trans he398575
      have hm558909 : q398570 ∈ P398568 := RS_m hT558901 htq398570 (by decide)
      refine G_iload_n 0 dr_cX17_weigh_7 rfl ?_
      refine G_sipush 2000 dr_cX17_weigh_8 (by decide +kernel) ?_
      refine G_icmp_ge 27 dr_cX17_weigh_11 (by decide +kernel) (fun hc558910 => ?_) (fun hc558910 => ?_)
      · have r558911 : 2000 ≤ g558899.toInt := gj_leL hc558910 (show Int32.toInt 2000 = 2000 by decide)
        have bg558899' : gB g558899 2000 2000 := ⟨by omega, by omega⟩
        refine G_iconst 0 dr_cX17_weigh_27 (by decide +kernel) ?_
        refine G_istore_n (L' := [(2, .int 0), (0, .ref q398570), (1, .ref q398571)]) dr_cX17_weigh_28 (Nat.le_of_ble_eq_true rfl) rfl ?_
        have hlp29_561156 : ∀ (n29_561156 : Nat) (F561152 : Nat → va_E) (g561151 : Int32), gB g561151 0 1000000 → RS D I P398568 F561152 γ el → rStr γ [] F398569 F561152 → (F561152 q398570 = F398569 q398570) → (F561152 (γ 9 3) = F398569 (γ 9 3)) → ((1000001 : Int) - g561151.toInt).toNat < n29_561156 → G (gV D I) l (gRm 6 144 0 0) (gMA (gV D I) (pt_398573_SpillForgeModel_weigh D I γ el P398568 F398569 q398570 q398571) gNA 0 0) ky_398573_SpillForgeModel_weigh 29 [(2, .int g561151), (0, .ref q398570), (1, .ref q398571)] [] (va_pl P398568 F561152) 0 0 := by
          intro n29_561156
          induction n29_561156 with
          | zero => intro F561152 g561151 bg561151 hT561153 hs561154 x561155 x561156 hm29_561156; exact absurd hm29_561156 (Nat.not_lt_zero _)
          | succ n29_561156 ih29_561156 =>
            intro F561152 g561151 bg561151 hT561153 hs561154 x561155 x561156 hm29_561156
            have hs561158 : rStr γ [] F558900 F561152 := fun b h0 hb hw => (hs561154 b h0 hb hw).trans (hs558902 b h0 hb hw).symm
            have hs561159 : rStr γ [] F398569 F561152 := rStr_tr hs558902 hs561158
            have he561160 : F561152 q398570 = .inr (22, [.ref (γ 9 0), .ref (γ 9 1), .ref (γ 9 2), .ref (γ 9 3), .ref (γ 9 4), .ref (γ 9 5), .ref (γ 9 6), .ref (γ 9 7), .ref (γ 9 8), .int p398578, .int p398579, .int p398580, .int p398581, .int p398582, .int p398583, .ref (γ 9 15), .ref (γ 9 16), .ref (γ 9 17), .ref (γ 9 18), .ref (γ 9 19), .ref (γ 9 20), .ref (γ 9 21), .ref (γ 9 22), .int p398584, .int p398585, .int p398586, .int p398587, .int p398588, .ref q398576, .ref (γ 9 29), .int p398589, .ref (γ 9 31), .int p398590, .int p398591, .int p398592, .ref q398577]) := x561155.trans he398575
            have hm561161 : q398570 ∈ P398568 := RS_m hT561153 htq398570 (by decide)
            refine G_iload_n 0 dr_cX17_weigh_29 rfl ?_
            refine G_aload_n 2 dr_cX17_weigh_30 rfl ?_
            have hm561162 : q398571 ∈ P398568 := RS_m hT561153 htq398571 (by decide)
            obtain ⟨q561164, q561165, p561166, p561167, he561163, ht561183, ht561168, ht561169, ht561170, ht561171, r561172, r561173, r561174, r561175, r561176, r561177, r561178, r561179, r561180, r561181, r561182⟩ := show rk_9 γ el q398571 (F561152 q398571) from RS_o hT561153 htq398571
            have bp561166 : gB p561166 0 1000000 := ⟨by omega, by omega⟩
            have bp561167 : gB p561167 0 1000000 := ⟨by omega, by omega⟩
            refine Gw_callV (As := []) (gV_ok D I) (cp_12496_Code_size l hl0 D I P398568 F561152 q398571 q561164 q561165 p561166 p561167 hm561162 he561163) dr_cX17_weigh_31 ⟨wr_10_156, wr_1_15, wr_9_127, by decide, rfl, (Nat.le_of_ble_eq_true rfl), (Nat.le_of_ble_eq_true rfl)⟩ wr_9_125 wr_9_126 hm561162 he561163 rfl (show 0 + 0 ≤ 0 by first | omega | decide) (show 0 + 0 ≤ 0 by first | omega | decide) (Nat.le_of_ble_eq_true rfl) (fun r561187 w561188 dc561184 ds561185 hp561186 => ?_) (fun _ _ _ _ _ z => z.elim)
            obtain ⟨rfl, rfl, hdc, hds⟩ := hp561186
            change G _ _ _ _ _ _ _ (.int p561167 :: _) _ _ _
            refine G_widen (cs' := 0) (sl' := 0) (by omega) (by omega) ?_
            refine G_icmp_ge 201 dr_cX17_weigh_34 (by decide +kernel) (fun hc561189 => ?_) (fun hc561189 => ?_)
            · have r561190 : p561167.toInt ≤ g561151.toInt := gC_le hc561189
              exact G_vretA dr_cX17_weigh_201 rfl (Nat.le_of_ble_eq_true rfl) (Nat.le_of_ble_eq_true rfl) ⟨F561152, rfl, rfl, hT561153, hs561154, (Nat.le_of_ble_eq_true rfl), (Nat.le_of_ble_eq_true rfl), x561155, x561156⟩
            · have r561191 : g561151.toInt < p561167.toInt := gC_nle hc561189
              have bg561151' : gB g561151 0 999999 := ⟨by omega, by omega⟩
              have bp561167' : gB p561167 1 1000000 := ⟨by omega, by omega⟩
              refine G_iconst 1 dr_cX17_weigh_37 (by decide +kernel) ?_
              refine G_istore_n (L' := [(3, .int 1), (2, .int g561151), (0, .ref q398570), (1, .ref q398571)]) dr_cX17_weigh_38 (Nat.le_of_ble_eq_true rfl) rfl ?_
              refine G_iconst 0 dr_cX17_weigh_39 (by decide +kernel) ?_
              refine G_istore (L' := [(4, .int 0), (3, .int 1), (2, .int g561151), (0, .ref q398570), (1, .ref q398571)]) dr_cX17_weigh_40 (Nat.le_of_ble_eq_true rfl) rfl ?_
              have hlp42_562293 : ∀ (n42_562293 : Nat) (g562292 : Int32) (g562293 : Int32), gB g562292 0 2147483647 → ((2147483648 : Int) - g562292.toInt).toNat < n42_562293 → G (gV D I) l (gRm 6 144 0 0) (gMA (gV D I) (pt_398573_SpillForgeModel_weigh D I γ el P398568 F398569 q398570 q398571) gNA 0 0) ky_398573_SpillForgeModel_weigh 42 [(4, .int g562292), (3, .int g562293), (2, .int g561151), (0, .ref q398570), (1, .ref q398571)] [] (va_pl P398568 F561152) 0 0 := by
                intro n42_562293
                induction n42_562293 with
                | zero => intro g562292 g562293 bg562292 hm42_562293; exact absurd hm42_562293 (Nat.not_lt_zero _)
                | succ n42_562293 ih42_562293 =>
                  intro g562292 g562293 bg562292 hm42_562293
                  have bg562293 := gB_any g562293
                  refine G_iload 0 dr_cX17_weigh_42 rfl ?_
                  refine G_aload_n 3 dr_cX17_weigh_44 rfl ?_
                  refine Gp_get 4 hm561161 he561160 dr_cX17_weigh_45 (gk_X17 D I) (Nat.le_of_ble_eq_true rfl) wr_7_78 rfl ?_
                  refine G_iload_n 2 dr_cX17_weigh_48 rfl ?_
                  have hm562295 : (γ 9 4) ∈ P398568 := RS_m hT561153 ht398599 (by decide)
                  obtain ⟨f562297, he562296⟩ := show rk_16 I (F561152 (γ 9 4)) from RS_o hT561153 ht398599
                  refine Gp_iald 0 hm562295 he562296 dr_cX17_weigh_49 rfl (gB_inr (by omega) (by omega)) (G_nam fun z562298 hz562298 => ?_)
                  have bz562298 : gB z562298 (-2147483648) 2147483647 := gB_any z562298
                  refine G_icmp_ge 64 dr_cX17_weigh_50 (by decide +kernel) (fun hc562299 => ?_) (fun hc562299 => ?_)
                  · have r562300 : z562298.toInt ≤ g562292.toInt := gC_le hc562299
                    refine G_aload_n 4 dr_cX17_weigh_64 rfl ?_
                    refine G_iload_n 2 dr_cX17_weigh_65 rfl ?_
                    have hm562301 : q561164 ∈ P398568 := RS_m hT561153 ht561168 (by decide)
                    obtain ⟨⟨p562303, p562304, q562305, he562302, r562306, r562307, r562308, r562310⟩, r562309⟩ := show rk_4 D I γ el F561152 q561164 from RS_o hT561153 ht561168
                    have bp562303 := gB_any p562303
                    have bp562304 : gB p562304 0 1000000 := ⟨by omega, by omega⟩
                    obtain ⟨r562311, r562312, n562319, f562320, r562313, r562314, r562315, r562316, r562317, r562318⟩ := rLC_n r562308 (by omega)
                    have hm562321 : q562305 ∈ P398568 := RS_m hT561153 r562311 (by decide)
                    obtain ⟨q562322, hx562323⟩ : ∃ x, x = el q561164 g561151.toInt.toNat := ⟨_, rfl⟩
                    have hx562324 : f562320 g561151.toNatClampNeg = some q562322 := (r562317 _ (show g561151.toInt.toNat < γ 2 q561164 by omega)).trans (by rw [hx562323])
                    have ht562327 : rKd γ q562322 2 := by rw [hx562323]; exact (r561179 _ (by omega)).resolve_right (fun z => absurd z.1 (by omega))
                    have ht562328 : rFm γ q562322 q561164 := by rw [hx562323]; exact (r562309 _ (show g561151.toInt.toNat < γ 2 q561164 by omega)).2.1
                    have hm562329 : q562322 ∈ P398568 := RS_m hT561153 ht562327 (by decide)
                    obtain ⟨q562331, q562332, p562333, p562334, he562330, ht562341, ht562335, ht562336, ht562337, ht562338, ht562339, bp562333, bp562334, r562340, r562342, r562343⟩ := show rk_2 γ q562322 (F561152 q562322) from RS_o hT561153 ht562327
                    refine Gw_callV (As := [.int g561151]) (gV_ok D I) (cp_7737_Code_get l hl0 D I P398568 F561152 q398571 q561164 q562305 g561151 q561165 p561166 p561167 p562303 p562304 f562320 n562319 q562322 q562331 q562332 p562333 p562334 hm561162 hm562301 hm562321 hm562329 he561163 he562302 r562313 he562330 (gB_w bg561151' (by decide) (by decide)) (gB_w bp562304 (by decide) (by decide)) (by omega) (by omega) (by assumption) (by omega)) dr_cX17_weigh_66 ⟨wr_10_157, wr_1_15, wr_10_137, by decide, rfl, (Nat.le_of_ble_eq_true rfl), (Nat.le_of_ble_eq_true rfl)⟩ wr_10_135 wr_10_136 hm561162 he561163 rfl (show 0 + 0 ≤ 0 by first | omega | decide) (show 0 + 0 ≤ 0 by first | omega | decide) (Nat.le_of_ble_eq_true rfl) (fun r562347 w562348 dc562344 ds562345 hp562346 => ?_) (fun _ _ _ _ _ z => z.elim)
                    obtain ⟨rfl, rfl, hdc, hds⟩ := hp562346
                    change G _ _ _ _ _ _ _ (.ref q562322 :: _) _ _ _
                    refine G_widen (cs' := 0) (sl' := 0) (by omega) (by omega) ?_
                    refine G_astore (L' := [(4, .ref q562322), (3, .int g562293), (2, .int g561151), (0, .ref q398570), (1, .ref q398571)]) dr_cX17_weigh_69 (Nat.le_of_ble_eq_true rfl) rfl ?_
                    refine G_iconst 0 dr_cX17_weigh_71 (by decide +kernel) ?_
                    refine G_istore (L' := [(5, .int 0), (4, .ref q562322), (3, .int g562293), (2, .int g561151), (0, .ref q398570), (1, .ref q398571)]) dr_cX17_weigh_72 (Nat.le_of_ble_eq_true rfl) rfl ?_
                    have hlp74_562873 : ∀ (n74_562873 : Nat) (F562869 : Nat → va_E) (g562868 : Int32), gB g562868 0 1000001 → RS D I P398568 F562869 γ el → rStr γ [] F398569 F562869 → (F562869 q398570 = F398569 q398570) → (F562869 (γ 9 3) = F398569 (γ 9 3)) → ((1000002 : Int) - g562868.toInt).toNat < n74_562873 → G (gV D I) l (gRm 6 144 0 0) (gMA (gV D I) (pt_398573_SpillForgeModel_weigh D I γ el P398568 F398569 q398570 q398571) gNA 0 0) ky_398573_SpillForgeModel_weigh 74 [(5, .int g562868), (4, .ref q562322), (3, .int g562293), (2, .int g561151), (0, .ref q398570), (1, .ref q398571)] [] (va_pl P398568 F562869) 0 0 := by
                      intro n74_562873
                      induction n74_562873 with
                      | zero => intro F562869 g562868 bg562868 hT562870 hs562871 x562872 x562873 hm74_562873; exact absurd hm74_562873 (Nat.not_lt_zero _)
                      | succ n74_562873 ih74_562873 =>
                        intro F562869 g562868 bg562868 hT562870 hs562871 x562872 x562873 hm74_562873
                        have hs562875 : rStr γ [] F561152 F562869 := fun b h0 hb hw => (hs562871 b h0 hb hw).trans (hs561154 b h0 hb hw).symm
                        have he562876 : F562869 q398571 = .inr (18, [.ref q561164, .ref q561165, .int p561166, .int p561167]) := (hs562875 q398571 (rT0 htq398571 (by decide)) (rT1 htq398571 (by decide)) (rT2 htq398571 (by decide))).trans he561163
                        have he562877 : F562869 q561164 = .inr (4, [.int p562303, .ref q562305, .int p562304]) := (hs562875 q561164 (rT0 ht561168 (by decide)) (rT1 ht561168 (by decide)) (rT2 ht561168 (by decide))).trans he562302
                        have he562878 : F562869 q562305 = .inl (I (.object "java/lang/Object"), n562319, .inr (.inr (.inr (.inr f562320)))) := (hs562875 q562305 (rT0 r562311 (by decide)) (rT1 r562311 (by decide)) (rT2 r562311 (by decide))).trans r562313
                        have he562879 : F562869 q562322 = .inr (17, [.ref q562331, .ref q562332, .int p562333, .int p562334]) := (hs562875 q562322 (rT0 ht562327 (by decide)) (rT1 ht562327 (by decide)) (rT2 ht562327 (by decide))).trans he562330
                        have hs562880 : rStr γ [] F398569 F562869 := rStr_tr hs561154 hs562875
                        have he562881 : F562869 q398570 = .inr (22, [.ref (γ 9 0), .ref (γ 9 1), .ref (γ 9 2), .ref (γ 9 3), .ref (γ 9 4), .ref (γ 9 5), .ref (γ 9 6), .ref (γ 9 7), .ref (γ 9 8), .int p398578, .int p398579, .int p398580, .int p398581, .int p398582, .int p398583, .ref (γ 9 15), .ref (γ 9 16), .ref (γ 9 17), .ref (γ 9 18), .ref (γ 9 19), .ref (γ 9 20), .ref (γ 9 21), .ref (γ 9 22), .int p398584, .int p398585, .int p398586, .int p398587, .int p398588, .ref q398576, .ref (γ 9 29), .int p398589, .ref (γ 9 31), .int p398590, .int p398591, .int p398592, .ref q398577]) := x562872.trans he398575
                        have hm562882 : q398570 ∈ P398568 := RS_m hT562870 htq398570 (by decide)
                        refine G_iload 0 dr_cX17_weigh_74 rfl ?_
                        refine G_aload 1 dr_cX17_weigh_76 rfl ?_
                        refine Gp_get 0 hm562329 he562879 dr_cX17_weigh_78 (gk_X12 D I) (Nat.le_of_ble_eq_true rfl) wr_9_216 rfl ?_
                        have hm562883 : q562331 ∈ P398568 := RS_m hT562870 ht562335 (by decide)
                        obtain ⟨⟨p562885, p562886, q562887, he562884, r562888, r562889, r562890, r562892⟩, r562891⟩ := show rk_3 D I γ el F562869 q562331 from RS_o hT562870 ht562335
                        have bp562885 := gB_any p562885
                        have bp562886 : gB p562886 0 1000000 := ⟨by omega, by omega⟩
                        refine Gw_callV (As := []) (gV_ok D I) (cp_7_ArrayList_size l hl0 D I P398568 F562869 q562331 p562885 q562887 p562886 hm562883 he562884 (gB_w bp562886 (by decide) (by decide))) dr_cX17_weigh_81 ⟨wr_10_196, wr_1_18, wr_9_156, by decide, rfl, (Nat.le_of_ble_eq_true rfl), (Nat.le_of_ble_eq_true rfl)⟩ wr_9_154 wr_9_155 hm562883 he562884 rfl (show 0 + 0 ≤ 0 by first | omega | decide) (show 0 + 0 ≤ 0 by first | omega | decide) (Nat.le_of_ble_eq_true rfl) (fun r562896 w562897 dc562893 ds562894 hp562895 => ?_) (fun _ _ _ _ _ z => z.elim)
                        obtain ⟨rfl, rfl, hdc, hds⟩ := hp562895
                        change G _ _ _ _ _ _ _ (.int p562886 :: _) _ _ _
                        refine G_widen (cs' := 0) (sl' := 0) (by omega) (by omega) ?_
                        refine G_icmp_gt 195 dr_cX17_weigh_84 (by decide +kernel) (fun hc562898 => ?_) (fun hc562898 => ?_)
                        · have r562899 : p562886.toInt < g562868.toInt := gC_lt hc562898
                          have bg562868' : gB g562868 1 1000001 := ⟨by omega, by omega⟩
                          obtain ⟨z562900, hz562900⟩ : ∃ z : Int32, z = g561151 + Int32.ofInt 1 := ⟨_, rfl⟩
                          have ez562900 : z562900.toInt = g561151.toInt + 1 := gI_inc hz562900 (by decide) bg561151' (by decide) (by decide)
                          have bz562900 : gB z562900 1 1000000 := ⟨by omega, by omega⟩
                          refine G_iinc (L' := [(2, .int z562900), (5, .int g562868), (4, .ref q562322), (3, .int g562293), (0, .ref q398570), (1, .ref q398571)]) z562900 3 dr_cX17_weigh_195 rfl hz562900.symm (Nat.le_of_ble_eq_true rfl) rfl ?_
                          refine G_goto 29 dr_cX17_weigh_198 (by decide +kernel) ?_
                          refine G_lv (L' := [(2, .int z562900), (0, .ref q398570), (1, .ref q398571)]) [0, 4, 5] rfl ?_
                          exact ih29_561156 F562869 z562900 (gB_w bz562900 (by decide) (by decide)) hT562870 hs562871 x562872 x562873 (mz_up ez562900 (Int.le_trans bg561151'.2 (by decide)) hm29_561156)
                        · have r562901 : g562868.toInt ≤ p562886.toInt := gC_nlt hc562898
                          have bg562868' : gB g562868 0 1000000 := ⟨by omega, by omega⟩
                          refine G_iload 0 dr_cX17_weigh_87 rfl ?_
                          refine G_aload 1 dr_cX17_weigh_89 rfl ?_
                          refine Gp_get 0 hm562329 he562879 dr_cX17_weigh_91 (gk_X12 D I) (Nat.le_of_ble_eq_true rfl) wr_9_216 rfl ?_
                          refine Gw_callV (As := []) (gV_ok D I) (cp_7_ArrayList_size l hl0 D I P398568 F562869 q562331 p562885 q562887 p562886 hm562883 he562884 (gB_w bp562886 (by decide) (by decide))) dr_cX17_weigh_94 ⟨wr_10_196, wr_1_18, wr_9_156, by decide, rfl, (Nat.le_of_ble_eq_true rfl), (Nat.le_of_ble_eq_true rfl)⟩ wr_9_154 wr_9_155 hm562883 he562884 rfl (show 0 + 0 ≤ 0 by first | omega | decide) (show 0 + 0 ≤ 0 by first | omega | decide) (Nat.le_of_ble_eq_true rfl) (fun r562905 w562906 dc562902 ds562903 hp562904 => ?_) (fun _ _ _ _ _ z => z.elim)
                          obtain ⟨rfl, rfl, hdc, hds⟩ := hp562904
                          change G _ _ _ _ _ _ _ (.int p562886 :: _) _ _ _
                          refine G_widen (cs' := 0) (sl' := 0) (by omega) (by omega) ?_
                          refine G_icmp_ge 116 dr_cX17_weigh_97 (by decide +kernel) (fun hc562907 => ?_) (fun hc562907 => ?_)
                          · have r562908 : p562886.toInt ≤ g562868.toInt := gC_le hc562907
                            refine G_aload 1 dr_cX17_weigh_116 rfl ?_
                            refine Gp_get 1 hm562329 he562879 dr_cX17_weigh_118 (gk_X12 D I) (Nat.le_of_ble_eq_true rfl) wr_9_219 rfl ?_
                            refine G_astore (L' := [(6, .ref q562332), (5, .int g562868), (4, .ref q562322), (3, .int g562293), (2, .int g561151), (0, .ref q398570), (1, .ref q398571)]) dr_cX17_weigh_121 (Nat.le_of_ble_eq_true rfl) rfl ?_
                            refine G_aload 0 dr_cX17_weigh_123 rfl ?_
                            have hm562909 : q562332 ∈ P398568 := RS_m hT562870 ht562337 (by decide)
                            obtain ⟨p562911, p562912, p562913, p562914, p562915, p562916, p562917, he562910, bp562911, bp562912, bp562915, bp562916, bp562917, r562918, r562919, r562920, r562921, r562922⟩ := show rk_1 γ q562332 (F562869 q562332) from RS_o hT562870 ht562337
                            have bp562913 := gB_any p562913
                            have bp562914 := gB_any p562914
                            refine Gw_callV (As := []) (gV_ok D I) (cp_1654_Row_sets l hl0 D I P398568 F562869 q562332 p562911 p562912 p562913 p562914 p562915 p562916 p562917 hm562909 he562910 bp562911 bp562912 bp562915 bp562916 bp562917) dr_cX17_weigh_125 ⟨wr_10_177, wr_1_39, wr_10_180, by decide, rfl, (Nat.le_of_ble_eq_true rfl), (Nat.le_of_ble_eq_true rfl)⟩ wr_10_178 wr_10_179 hm562909 he562910 rfl (show 0 + 0 ≤ 0 by first | omega | decide) (show 0 + 0 ≤ 0 by first | omega | decide) (Nat.le_of_ble_eq_true rfl) (fun r562926 w562927 dc562923 ds562924 hp562925 => ?_) (fun _ _ _ _ _ z => z.elim)
                            obtain ⟨o562928, rfl, rfl, hdc, hds, bo562928⟩ := hp562925
                            change G _ _ _ _ _ _ _ (.int o562928 :: _) _ _ _
                            refine G_widen (cs' := 0) (sl' := 0) (by omega) (by omega) ?_
                            refine G_if_eq 145 dr_cX17_weigh_128 (by decide +kernel) (fun hc562929 => ?_) (fun hc562929 => ?_)
                            · have r562930 : o562928.toInt = 0 := gj_eq hc562929 (show Int32.toInt 0 = 0 by decide)
                              have bo562928' : gB o562928 0 0 := gB_t0 r562930
                              refine G_aload 0 dr_cX17_weigh_145 rfl ?_
                              refine Gw_callV (As := []) (gV_ok D I) (cp_1669_Row_usesA l hl0 D I P398568 F562869 q562332 p562911 p562912 p562913 p562914 p562915 p562916 p562917 hm562909 he562910 bp562911 bp562912 bp562915 bp562916 bp562917) dr_cX17_weigh_147 ⟨wr_10_188, wr_1_39, wr_10_191, by decide, rfl, (Nat.le_of_ble_eq_true rfl), (Nat.le_of_ble_eq_true rfl)⟩ wr_10_189 wr_10_190 hm562909 he562910 rfl (show 0 + 0 ≤ 0 by first | omega | decide) (show 0 + 0 ≤ 0 by first | omega | decide) (Nat.le_of_ble_eq_true rfl) (fun r562934 w562935 dc562931 ds562932 hp562933 => ?_) (fun _ _ _ _ _ z => z.elim)
                              obtain ⟨o562936, rfl, rfl, hdc, hds, bo562936, x562937⟩ := hp562933
                              change G _ _ _ _ _ _ _ (.int o562936 :: _) _ _ _
                              refine G_widen (cs' := 0) (sl' := 0) (by omega) (by omega) ?_
                              refine G_if_eq 167 dr_cX17_weigh_150 (by decide +kernel) (fun hc562938 => ?_) (fun hc562938 => ?_)
                              · have r562939 : o562936.toInt = 0 := gj_eq hc562938 (show Int32.toInt 0 = 0 by decide)
                                have bo562936' : gB o562936 0 0 := gB_t0 r562939
                                refine G_aload 0 dr_cX17_weigh_167 rfl ?_
                                refine Gw_callV (As := []) (gV_ok D I) (cp_1693_Row_usesB l hl0 D I P398568 F562869 q562332 p562911 p562912 p562913 p562914 p562915 p562916 p562917 hm562909 he562910 bp562911 bp562912 bp562915 bp562916 bp562917) dr_cX17_weigh_169 ⟨wr_10_192, wr_1_39, wr_10_195, by decide, rfl, (Nat.le_of_ble_eq_true rfl), (Nat.le_of_ble_eq_true rfl)⟩ wr_10_193 wr_10_194 hm562909 he562910 rfl (show 0 + 0 ≤ 0 by first | omega | decide) (show 0 + 0 ≤ 0 by first | omega | decide) (Nat.le_of_ble_eq_true rfl) (fun r562943 w562944 dc562940 ds562941 hp562942 => ?_) (fun _ _ _ _ _ z => z.elim)
                                obtain ⟨o562945, rfl, rfl, hdc, hds, bo562945, x562946⟩ := hp562942
                                change G _ _ _ _ _ _ _ (.int o562945 :: _) _ _ _
                                refine G_widen (cs' := 0) (sl' := 0) (by omega) (by omega) ?_
                                refine G_if_eq 189 dr_cX17_weigh_172 (by decide +kernel) (fun hc562947 => ?_) (fun hc562947 => ?_)
                                · have r562948 : o562945.toInt = 0 := gj_eq hc562947 (show Int32.toInt 0 = 0 by decide)
                                  have bo562945' : gB o562945 0 0 := gB_t0 r562948
                                  obtain ⟨z562949, hz562949⟩ : ∃ z : Int32, z = g562868 + Int32.ofInt 1 := ⟨_, rfl⟩
                                  have ez562949 : z562949.toInt = g562868.toInt + 1 := gI_inc hz562949 (by decide) bg562868' (by decide) (by decide)
                                  have bz562949 : gB z562949 1 1000001 := ⟨by omega, by omega⟩
                                  refine G_iinc (L' := [(5, .int z562949), (6, .ref q562332), (4, .ref q562322), (3, .int g562293), (2, .int g561151), (0, .ref q398570), (1, .ref q398571)]) z562949 1 dr_cX17_weigh_189 rfl hz562949.symm (Nat.le_of_ble_eq_true rfl) rfl ?_
                                  refine G_goto 74 dr_cX17_weigh_192 (by decide +kernel) ?_
                                  refine G_lv (L' := [(5, .int z562949), (4, .ref q562322), (3, .int g562293), (2, .int g561151), (0, .ref q398570), (1, .ref q398571)]) [0, 2, 3, 4, 5, 6] rfl ?_
                                  exact ih74_562873 F562869 z562949 (gB_w bz562949 (by decide) (by decide)) hT562870 hs562871 x562872 x562873 (mz_up ez562949 (Int.le_trans bg562868'.2 (by decide)) hm74_562873)
                                · have r562950 : o562945.toInt ≠ 0 := gj_neq hc562947 (show Int32.toInt 0 = 0 by decide)
                                  have bo562945' : gB o562945 1 1 := gB_t1 bo562945 r562950
                                  refine G_aload_n 5 dr_cX17_weigh_175 rfl ?_
                                  refine Gp_get 5 hm562882 he562881 dr_cX17_weigh_176 (gk_X17 D I) (Nat.le_of_ble_eq_true rfl) wr_7_79 rfl ?_
                                  refine G_aload 0 dr_cX17_weigh_179 rfl ?_
                                  refine Gp_get 3 hm562909 he562910 dr_cX17_weigh_181 (gk_X15 D I) (Nat.le_of_ble_eq_true rfl) wr_9_186 rfl ?_
                                  refine G_dup2_11 dr_cX17_weigh_184 rfl rfl ?_
                                  have hm562951 : (γ 9 5) ∈ P398568 := RS_m hT562870 ht398600 (by decide)
                                  obtain ⟨f562953, he562952⟩ := show rk_17 I (F562869 (γ 9 5)) from RS_o hT562870 ht398600
                                  refine Gp_iald 0 hm562951 he562952 dr_cX17_weigh_185 rfl (gB_inr (by omega) (by omega)) (G_nam fun z562954 hz562954 => ?_)
                                  have bz562954 : gB z562954 (-2147483648) 2147483647 := gB_any z562954
                                  refine G_iload_n 3 dr_cX17_weigh_186 rfl ?_
                                  refine G_iadd dr_cX17_weigh_187 (G_nam fun z562955 hz562955 => ?_)
                                  have bz562955 : gB z562955 (-2147483648) 2147483647 := gB_any z562955
                                  refine Gp_iast 0 hm562951 he562952 dr_cX17_weigh_188 rfl (gB_inr (by omega) (by omega)) (fun F562956 e562957 n562958 => ?_)
                                  obtain ⟨f562959, hf562959⟩ : ∃ z, z = upd f562953 p562914.toNatClampNeg z562955 := ⟨_, rfl⟩
                                  rw [← hf562959] at e562957
                                  have he562960 : F562956 q398571 = .inr (18, [.ref q561164, .ref q561165, .int p561166, .int p561167]) := (n562958 q398571 (rn_oa he562876 he562952)).trans he562876
                                  have he562961 : F562956 q561164 = .inr (4, [.int p562303, .ref q562305, .int p562304]) := (n562958 q561164 (rn_oa he562877 he562952)).trans he562877
                                  have he562962 : F562956 q562305 = .inl (I (.object "java/lang/Object"), n562319, .inr (.inr (.inr (.inr f562320)))) := (n562958 q562305 (rn_ref_num he562878 he562952)).trans he562878
                                  have he562963 : F562956 q562322 = .inr (17, [.ref q562331, .ref q562332, .int p562333, .int p562334]) := (n562958 q562322 (rn_oa he562879 he562952)).trans he562879
                                  have he562964 : F562956 q398570 = .inr (22, [.ref (γ 9 0), .ref (γ 9 1), .ref (γ 9 2), .ref (γ 9 3), .ref (γ 9 4), .ref (γ 9 5), .ref (γ 9 6), .ref (γ 9 7), .ref (γ 9 8), .int p398578, .int p398579, .int p398580, .int p398581, .int p398582, .int p398583, .ref (γ 9 15), .ref (γ 9 16), .ref (γ 9 17), .ref (γ 9 18), .ref (γ 9 19), .ref (γ 9 20), .ref (γ 9 21), .ref (γ 9 22), .int p398584, .int p398585, .int p398586, .int p398587, .int p398588, .ref q398576, .ref (γ 9 29), .int p398589, .ref (γ 9 31), .int p398590, .int p398591, .int p398592, .ref q398577]) := (n562958 q398570 (rn_oa he562881 he562952)).trans he562881
                                  have he562965 : F562956 q562331 = .inr (4, [.int p562885, .ref q562887, .int p562886]) := (n562958 q562331 (rn_oa he562884 he562952)).trans he562884
                                  have he562966 : F562956 q562332 = .inr (20, [.int p562911, .int p562912, .int p562913, .int p562914, .int p562915, .int p562916, .int p562917]) := (n562958 q562332 (rn_oa he562910 he562952)).trans he562910
                                  have he562967 : F562956 (γ 9 5) = .inl (I .int, 2000, .inl f562959) := e562957
                                  have hs562968 : rStr γ [] F398569 F562956 := rStr_put hs562871 n562958 ht398600 (by decide)
                                  have kp562969 : F562956 q398570 = F398569 q398570 := (n562958 q398570 (rn_ty htq398570 ht398600 (by decide))).trans x562872
                                  have kp562970 : F562956 (γ 9 3) = F398569 (γ 9 3) := (n562958 (γ 9 3) (rn_ty ht398598 ht398600 (by decide))).trans x562873
                                  obtain ⟨z562971, hz562971⟩ : ∃ z : Int32, z = g562868 + Int32.ofInt 1 := ⟨_, rfl⟩
                                  have ez562971 : z562971.toInt = g562868.toInt + 1 := gI_inc hz562971 (by decide) bg562868' (by decide) (by decide)
                                  have bz562971 : gB z562971 1 1000001 := ⟨by omega, by omega⟩
                                  refine G_iinc (L' := [(5, .int z562971), (6, .ref q562332), (4, .ref q562322), (3, .int g562293), (2, .int g561151), (0, .ref q398570), (1, .ref q398571)]) z562971 1 dr_cX17_weigh_189 rfl hz562971.symm (Nat.le_of_ble_eq_true rfl) rfl ?_
                                  refine G_goto 74 dr_cX17_weigh_192 (by decide +kernel) ?_
                                  have hT562972 : RS D I P398568 F562956 γ el := RS_set hT562870 n562958 ht398600 (by decide) ⟨f562959, he562967⟩
                                  refine G_lv (L' := [(5, .int z562971), (4, .ref q562322), (3, .int g562293), (2, .int g561151), (0, .ref q398570), (1, .ref q398571)]) [0, 2, 3, 4, 5, 6] rfl ?_
                                  exact ih74_562873 F562956 z562971 (gB_w bz562971 (by decide) (by decide)) hT562972 hs562968 kp562969 kp562970 (mz_up ez562971 (Int.le_trans bg562868'.2 (by decide)) hm74_562873)
                              · have r562973 : o562936.toInt ≠ 0 := gj_neq hc562938 (show Int32.toInt 0 = 0 by decide)
                                have bo562936' : gB o562936 1 1 := gB_t1 bo562936 r562973
                                refine G_aload_n 5 dr_cX17_weigh_153 rfl ?_
                                refine Gp_get 5 hm562882 he562881 dr_cX17_weigh_154 (gk_X17 D I) (Nat.le_of_ble_eq_true rfl) wr_7_79 rfl ?_
                                refine G_aload 0 dr_cX17_weigh_157 rfl ?_
                                refine Gp_get 2 hm562909 he562910 dr_cX17_weigh_159 (gk_X15 D I) (Nat.le_of_ble_eq_true rfl) wr_9_182 rfl ?_
                                refine G_dup2_11 dr_cX17_weigh_162 rfl rfl ?_
                                have hm562974 : (γ 9 5) ∈ P398568 := RS_m hT562870 ht398600 (by decide)
                                obtain ⟨f562976, he562975⟩ := show rk_17 I (F562869 (γ 9 5)) from RS_o hT562870 ht398600
                                refine Gp_iald 0 hm562974 he562975 dr_cX17_weigh_163 rfl (gB_inr (by omega) (by omega)) (G_nam fun z562977 hz562977 => ?_)
                                have bz562977 : gB z562977 (-2147483648) 2147483647 := gB_any z562977
                                refine G_iload_n 3 dr_cX17_weigh_164 rfl ?_
                                refine G_iadd dr_cX17_weigh_165 (G_nam fun z562978 hz562978 => ?_)
                                have bz562978 : gB z562978 (-2147483648) 2147483647 := gB_any z562978
                                refine Gp_iast 0 hm562974 he562975 dr_cX17_weigh_166 rfl (gB_inr (by omega) (by omega)) (fun F562979 e562980 n562981 => ?_)
                                obtain ⟨f562982, hf562982⟩ : ∃ z, z = upd f562976 p562913.toNatClampNeg z562978 := ⟨_, rfl⟩
                                rw [← hf562982] at e562980
                                have he562983 : F562979 q398571 = .inr (18, [.ref q561164, .ref q561165, .int p561166, .int p561167]) := (n562981 q398571 (rn_oa he562876 he562975)).trans he562876
                                have he562984 : F562979 q561164 = .inr (4, [.int p562303, .ref q562305, .int p562304]) := (n562981 q561164 (rn_oa he562877 he562975)).trans he562877
                                have he562985 : F562979 q562305 = .inl (I (.object "java/lang/Object"), n562319, .inr (.inr (.inr (.inr f562320)))) := (n562981 q562305 (rn_ref_num he562878 he562975)).trans he562878
                                have he562986 : F562979 q562322 = .inr (17, [.ref q562331, .ref q562332, .int p562333, .int p562334]) := (n562981 q562322 (rn_oa he562879 he562975)).trans he562879
                                have he562987 : F562979 q398570 = .inr (22, [.ref (γ 9 0), .ref (γ 9 1), .ref (γ 9 2), .ref (γ 9 3), .ref (γ 9 4), .ref (γ 9 5), .ref (γ 9 6), .ref (γ 9 7), .ref (γ 9 8), .int p398578, .int p398579, .int p398580, .int p398581, .int p398582, .int p398583, .ref (γ 9 15), .ref (γ 9 16), .ref (γ 9 17), .ref (γ 9 18), .ref (γ 9 19), .ref (γ 9 20), .ref (γ 9 21), .ref (γ 9 22), .int p398584, .int p398585, .int p398586, .int p398587, .int p398588, .ref q398576, .ref (γ 9 29), .int p398589, .ref (γ 9 31), .int p398590, .int p398591, .int p398592, .ref q398577]) := (n562981 q398570 (rn_oa he562881 he562975)).trans he562881
                                have he562988 : F562979 q562331 = .inr (4, [.int p562885, .ref q562887, .int p562886]) := (n562981 q562331 (rn_oa he562884 he562975)).trans he562884
                                have he562989 : F562979 q562332 = .inr (20, [.int p562911, .int p562912, .int p562913, .int p562914, .int p562915, .int p562916, .int p562917]) := (n562981 q562332 (rn_oa he562910 he562975)).trans he562910
                                have he562990 : F562979 (γ 9 5) = .inl (I .int, 2000, .inl f562982) := e562980
                                have hs562991 : rStr γ [] F398569 F562979 := rStr_put hs562871 n562981 ht398600 (by decide)
                                have kp562992 : F562979 q398570 = F398569 q398570 := (n562981 q398570 (rn_ty htq398570 ht398600 (by decide))).trans x562872
                                have kp562993 : F562979 (γ 9 3) = F398569 (γ 9 3) := (n562981 (γ 9 3) (rn_ty ht398598 ht398600 (by decide))).trans x562873
                                refine G_aload 0 dr_cX17_weigh_167 rfl ?_
                                have hT562994 : RS D I P398568 F562979 γ el := RS_set hT562870 n562981 ht398600 (by decide) ⟨f562982, he562990⟩
                                refine Gw_callV (As := []) (gV_ok D I) (cp_1693_Row_usesB l hl0 D I P398568 F562979 q562332 p562911 p562912 p562913 p562914 p562915 p562916 p562917 hm562909 he562989 bp562911 bp562912 bp562915 bp562916 bp562917) dr_cX17_weigh_169 ⟨wr_10_192, wr_1_39, wr_10_195, by decide, rfl, (Nat.le_of_ble_eq_true rfl), (Nat.le_of_ble_eq_true rfl)⟩ wr_10_193 wr_10_194 hm562909 he562989 rfl (show 0 + 0 ≤ 0 by first | omega | decide) (show 0 + 0 ≤ 0 by first | omega | decide) (Nat.le_of_ble_eq_true rfl) (fun r562998 w562999 dc562995 ds562996 hp562997 => ?_) (fun _ _ _ _ _ z => z.elim)
                                obtain ⟨o563000, rfl, rfl, hdc, hds, bo563000, x563001⟩ := hp562997
                                change G _ _ _ _ _ _ _ (.int o563000 :: _) _ _ _
                                refine G_widen (cs' := 0) (sl' := 0) (by omega) (by omega) ?_
                                refine G_if_eq 189 dr_cX17_weigh_172 (by decide +kernel) (fun hc563002 => ?_) (fun hc563002 => ?_)
                                · have r563003 : o563000.toInt = 0 := gj_eq hc563002 (show Int32.toInt 0 = 0 by decide)
                                  have bo563000' : gB o563000 0 0 := gB_t0 r563003
                                  obtain ⟨z563004, hz563004⟩ : ∃ z : Int32, z = g562868 + Int32.ofInt 1 := ⟨_, rfl⟩
                                  have ez563004 : z563004.toInt = g562868.toInt + 1 := gI_inc hz563004 (by decide) bg562868' (by decide) (by decide)
                                  have bz563004 : gB z563004 1 1000001 := ⟨by omega, by omega⟩
                                  refine G_iinc (L' := [(5, .int z563004), (6, .ref q562332), (4, .ref q562322), (3, .int g562293), (2, .int g561151), (0, .ref q398570), (1, .ref q398571)]) z563004 1 dr_cX17_weigh_189 rfl hz563004.symm (Nat.le_of_ble_eq_true rfl) rfl ?_
                                  refine G_goto 74 dr_cX17_weigh_192 (by decide +kernel) ?_
                                  refine G_lv (L' := [(5, .int z563004), (4, .ref q562322), (3, .int g562293), (2, .int g561151), (0, .ref q398570), (1, .ref q398571)]) [0, 2, 3, 4, 5, 6] rfl ?_
                                  exact ih74_562873 F562979 z563004 (gB_w bz563004 (by decide) (by decide)) hT562994 hs562991 kp562992 kp562993 (mz_up ez563004 (Int.le_trans bg562868'.2 (by decide)) hm74_562873)
                                · have r563005 : o563000.toInt ≠ 0 := gj_neq hc563002 (show Int32.toInt 0 = 0 by decide)
                                  have bo563000' : gB o563000 1 1 := gB_t1 bo563000 r563005
                                  refine G_aload_n 5 dr_cX17_weigh_175 rfl ?_
                                  refine Gp_get 5 hm562882 he562987 dr_cX17_weigh_176 (gk_X17 D I) (Nat.le_of_ble_eq_true rfl) wr_7_79 rfl ?_
                                  refine G_aload 0 dr_cX17_weigh_179 rfl ?_
                                  refine Gp_get 3 hm562909 he562989 dr_cX17_weigh_181 (gk_X15 D I) (Nat.le_of_ble_eq_true rfl) wr_9_186 rfl ?_
                                  refine G_dup2_11 dr_cX17_weigh_184 rfl rfl ?_
                                  refine Gp_iald 0 hm562974 he562990 dr_cX17_weigh_185 rfl (gB_inr (by omega) (by omega)) (G_nam fun z563006 hz563006 => ?_)
                                  have bz563006 : gB z563006 (-2147483648) 2147483647 := gB_any z563006
                                  refine G_iload_n 3 dr_cX17_weigh_186 rfl ?_
                                  refine G_iadd dr_cX17_weigh_187 (G_nam fun z563007 hz563007 => ?_)
                                  have bz563007 : gB z563007 (-2147483648) 2147483647 := gB_any z563007
                                  refine Gp_iast 0 hm562974 he562990 dr_cX17_weigh_188 rfl (gB_inr (by omega) (by omega)) (fun F563008 e563009 n563010 => ?_)
                                  obtain ⟨f563011, hf563011⟩ : ∃ z, z = upd f562982 p562914.toNatClampNeg z563007 := ⟨_, rfl⟩
                                  rw [← hf563011] at e563009
                                  have he563012 : F563008 q398571 = .inr (18, [.ref q561164, .ref q561165, .int p561166, .int p561167]) := (n563010 q398571 (rn_oa he562983 he562990)).trans he562983
                                  have he563013 : F563008 q561164 = .inr (4, [.int p562303, .ref q562305, .int p562304]) := (n563010 q561164 (rn_oa he562984 he562990)).trans he562984
                                  have he563014 : F563008 q562305 = .inl (I (.object "java/lang/Object"), n562319, .inr (.inr (.inr (.inr f562320)))) := (n563010 q562305 (rn_ref_num he562985 he562990)).trans he562985
                                  have he563015 : F563008 q562322 = .inr (17, [.ref q562331, .ref q562332, .int p562333, .int p562334]) := (n563010 q562322 (rn_oa he562986 he562990)).trans he562986
                                  have he563016 : F563008 q398570 = .inr (22, [.ref (γ 9 0), .ref (γ 9 1), .ref (γ 9 2), .ref (γ 9 3), .ref (γ 9 4), .ref (γ 9 5), .ref (γ 9 6), .ref (γ 9 7), .ref (γ 9 8), .int p398578, .int p398579, .int p398580, .int p398581, .int p398582, .int p398583, .ref (γ 9 15), .ref (γ 9 16), .ref (γ 9 17), .ref (γ 9 18), .ref (γ 9 19), .ref (γ 9 20), .ref (γ 9 21), .ref (γ 9 22), .int p398584, .int p398585, .int p398586, .int p398587, .int p398588, .ref q398576, .ref (γ 9 29), .int p398589, .ref (γ 9 31), .int p398590, .int p398591, .int p398592, .ref q398577]) := (n563010 q398570 (rn_oa he562987 he562990)).trans he562987
                                  have he563017 : F563008 q562331 = .inr (4, [.int p562885, .ref q562887, .int p562886]) := (n563010 q562331 (rn_oa he562988 he562990)).trans he562988
                                  have he563018 : F563008 q562332 = .inr (20, [.int p562911, .int p562912, .int p562913, .int p562914, .int p562915, .int p562916, .int p562917]) := (n563010 q562332 (rn_oa he562989 he562990)).trans he562989
                                  have he563019 : F563008 (γ 9 5) = .inl (I .int, 2000, .inl f563011) := e563009
                                  have hs563020 : rStr γ [] F398569 F563008 := rStr_put hs562991 n563010 ht398600 (by decide)
                                  have kp563021 : F563008 q398570 = F398569 q398570 := (n563010 q398570 (rn_ty htq398570 ht398600 (by decide))).trans kp562992
                                  have kp563022 : F563008 (γ 9 3) = F398569 (γ 9 3) := (n563010 (γ 9 3) (rn_ty ht398598 ht398600 (by decide))).trans kp562993
                                  obtain ⟨z563023, hz563023⟩ : ∃ z : Int32, z = g562868 + Int32.ofInt 1 := ⟨_, rfl⟩
                                  have ez563023 : z563023.toInt = g562868.toInt + 1 := gI_inc hz563023 (by decide) bg562868' (by decide) (by decide)
                                  have bz563023 : gB z563023 1 1000001 := ⟨by omega, by omega⟩
                                  refine G_iinc (L' := [(5, .int z563023), (6, .ref q562332), (4, .ref q562322), (3, .int g562293), (2, .int g561151), (0, .ref q398570), (1, .ref q398571)]) z563023 1 dr_cX17_weigh_189 rfl hz563023.symm (Nat.le_of_ble_eq_true rfl) rfl ?_
                                  refine G_goto 74 dr_cX17_weigh_192 (by decide +kernel) ?_
                                  have hT563024 : RS D I P398568 F563008 γ el := RS_set hT562994 n563010 ht398600 (by decide) ⟨f563011, he563019⟩
                                  refine G_lv (L' := [(5, .int z563023), (4, .ref q562322), (3, .int g562293), (2, .int g561151), (0, .ref q398570), (1, .ref q398571)]) [0, 2, 3, 4, 5, 6] rfl ?_
                                  exact ih74_562873 F563008 z563023 (gB_w bz563023 (by decide) (by decide)) hT563024 hs563020 kp563021 kp563022 (mz_up ez563023 (Int.le_trans bg562868'.2 (by decide)) hm74_562873)
                            · have r563025 : o562928.toInt ≠ 0 := gj_neq hc562929 (show Int32.toInt 0 = 0 by decide)
                              have bo562928' : gB o562928 1 1 := gB_t1 bo562928 r563025
                              refine G_aload_n 5 dr_cX17_weigh_131 rfl ?_
                              refine Gp_get 5 hm562882 he562881 dr_cX17_weigh_132 (gk_X17 D I) (Nat.le_of_ble_eq_true rfl) wr_7_79 rfl ?_
                              refine G_aload 0 dr_cX17_weigh_135 rfl ?_
                              refine Gp_get 1 hm562909 he562910 dr_cX17_weigh_137 (gk_X15 D I) (Nat.le_of_ble_eq_true rfl) wr_9_178 rfl ?_
                              refine G_dup2_11 dr_cX17_weigh_140 rfl rfl ?_
                              have hm563026 : (γ 9 5) ∈ P398568 := RS_m hT562870 ht398600 (by decide)
                              obtain ⟨f563028, he563027⟩ := show rk_17 I (F562869 (γ 9 5)) from RS_o hT562870 ht398600
                              refine Gp_iald 0 hm563026 he563027 dr_cX17_weigh_141 rfl (gB_in bp562912 (by decide) (by decide)) (G_nam fun z563029 hz563029 => ?_)
                              have bz563029 : gB z563029 (-2147483648) 2147483647 := gB_any z563029
                              refine G_iload_n 3 dr_cX17_weigh_142 rfl ?_
                              refine G_iadd dr_cX17_weigh_143 (G_nam fun z563030 hz563030 => ?_)
                              have bz563030 : gB z563030 (-2147483648) 2147483647 := gB_any z563030
                              refine Gp_iast 0 hm563026 he563027 dr_cX17_weigh_144 rfl (gB_in bp562912 (by decide) (by decide)) (fun F563031 e563032 n563033 => ?_)
                              obtain ⟨f563034, hf563034⟩ : ∃ z, z = upd f563028 p562912.toNatClampNeg z563030 := ⟨_, rfl⟩
                              rw [← hf563034] at e563032
                              have he563035 : F563031 q398571 = .inr (18, [.ref q561164, .ref q561165, .int p561166, .int p561167]) := (n563033 q398571 (rn_oa he562876 he563027)).trans he562876
                              have he563036 : F563031 q561164 = .inr (4, [.int p562303, .ref q562305, .int p562304]) := (n563033 q561164 (rn_oa he562877 he563027)).trans he562877
                              have he563037 : F563031 q562305 = .inl (I (.object "java/lang/Object"), n562319, .inr (.inr (.inr (.inr f562320)))) := (n563033 q562305 (rn_ref_num he562878 he563027)).trans he562878
                              have he563038 : F563031 q562322 = .inr (17, [.ref q562331, .ref q562332, .int p562333, .int p562334]) := (n563033 q562322 (rn_oa he562879 he563027)).trans he562879
                              have he563039 : F563031 q398570 = .inr (22, [.ref (γ 9 0), .ref (γ 9 1), .ref (γ 9 2), .ref (γ 9 3), .ref (γ 9 4), .ref (γ 9 5), .ref (γ 9 6), .ref (γ 9 7), .ref (γ 9 8), .int p398578, .int p398579, .int p398580, .int p398581, .int p398582, .int p398583, .ref (γ 9 15), .ref (γ 9 16), .ref (γ 9 17), .ref (γ 9 18), .ref (γ 9 19), .ref (γ 9 20), .ref (γ 9 21), .ref (γ 9 22), .int p398584, .int p398585, .int p398586, .int p398587, .int p398588, .ref q398576, .ref (γ 9 29), .int p398589, .ref (γ 9 31), .int p398590, .int p398591, .int p398592, .ref q398577]) := (n563033 q398570 (rn_oa he562881 he563027)).trans he562881
                              have he563040 : F563031 q562331 = .inr (4, [.int p562885, .ref q562887, .int p562886]) := (n563033 q562331 (rn_oa he562884 he563027)).trans he562884
                              have he563041 : F563031 q562332 = .inr (20, [.int p562911, .int p562912, .int p562913, .int p562914, .int p562915, .int p562916, .int p562917]) := (n563033 q562332 (rn_oa he562910 he563027)).trans he562910
                              have he563042 : F563031 (γ 9 5) = .inl (I .int, 2000, .inl f563034) := e563032
                              have hs563043 : rStr γ [] F398569 F563031 := rStr_put hs562871 n563033 ht398600 (by decide)
                              have kp563044 : F563031 q398570 = F398569 q398570 := (n563033 q398570 (rn_ty htq398570 ht398600 (by decide))).trans x562872
                              have kp563045 : F563031 (γ 9 3) = F398569 (γ 9 3) := (n563033 (γ 9 3) (rn_ty ht398598 ht398600 (by decide))).trans x562873
                              refine G_aload 0 dr_cX17_weigh_145 rfl ?_
                              have hT563046 : RS D I P398568 F563031 γ el := RS_set hT562870 n563033 ht398600 (by decide) ⟨f563034, he563042⟩
                              refine Gw_callV (As := []) (gV_ok D I) (cp_1669_Row_usesA l hl0 D I P398568 F563031 q562332 p562911 p562912 p562913 p562914 p562915 p562916 p562917 hm562909 he563041 bp562911 bp562912 bp562915 bp562916 bp562917) dr_cX17_weigh_147 ⟨wr_10_188, wr_1_39, wr_10_191, by decide, rfl, (Nat.le_of_ble_eq_true rfl), (Nat.le_of_ble_eq_true rfl)⟩ wr_10_189 wr_10_190 hm562909 he563041 rfl (show 0 + 0 ≤ 0 by first | omega | decide) (show 0 + 0 ≤ 0 by first | omega | decide) (Nat.le_of_ble_eq_true rfl) (fun r563050 w563051 dc563047 ds563048 hp563049 => ?_) (fun _ _ _ _ _ z => z.elim)
                              obtain ⟨o563052, rfl, rfl, hdc, hds, bo563052, x563053⟩ := hp563049
                              change G _ _ _ _ _ _ _ (.int o563052 :: _) _ _ _
                              refine G_widen (cs' := 0) (sl' := 0) (by omega) (by omega) ?_
                              refine G_if_eq 167 dr_cX17_weigh_150 (by decide +kernel) (fun hc563054 => ?_) (fun hc563054 => ?_)
                              · have r563055 : o563052.toInt = 0 := gj_eq hc563054 (show Int32.toInt 0 = 0 by decide)
                                have bo563052' : gB o563052 0 0 := gB_t0 r563055
                                refine G_aload 0 dr_cX17_weigh_167 rfl ?_
                                refine Gw_callV (As := []) (gV_ok D I) (cp_1693_Row_usesB l hl0 D I P398568 F563031 q562332 p562911 p562912 p562913 p562914 p562915 p562916 p562917 hm562909 he563041 bp562911 bp562912 bp562915 bp562916 bp562917) dr_cX17_weigh_169 ⟨wr_10_192, wr_1_39, wr_10_195, by decide, rfl, (Nat.le_of_ble_eq_true rfl), (Nat.le_of_ble_eq_true rfl)⟩ wr_10_193 wr_10_194 hm562909 he563041 rfl (show 0 + 0 ≤ 0 by first | omega | decide) (show 0 + 0 ≤ 0 by first | omega | decide) (Nat.le_of_ble_eq_true rfl) (fun r563059 w563060 dc563056 ds563057 hp563058 => ?_) (fun _ _ _ _ _ z => z.elim)
                                obtain ⟨o563061, rfl, rfl, hdc, hds, bo563061, x563062⟩ := hp563058
                                change G _ _ _ _ _ _ _ (.int o563061 :: _) _ _ _
                                refine G_widen (cs' := 0) (sl' := 0) (by omega) (by omega) ?_
                                refine G_if_eq 189 dr_cX17_weigh_172 (by decide +kernel) (fun hc563063 => ?_) (fun hc563063 => ?_)
                                · have r563064 : o563061.toInt = 0 := gj_eq hc563063 (show Int32.toInt 0 = 0 by decide)
                                  have bo563061' : gB o563061 0 0 := gB_t0 r563064
                                  obtain ⟨z563065, hz563065⟩ : ∃ z : Int32, z = g562868 + Int32.ofInt 1 := ⟨_, rfl⟩
                                  have ez563065 : z563065.toInt = g562868.toInt + 1 := gI_inc hz563065 (by decide) bg562868' (by decide) (by decide)
                                  have bz563065 : gB z563065 1 1000001 := ⟨by omega, by omega⟩
                                  refine G_iinc (L' := [(5, .int z563065), (6, .ref q562332), (4, .ref q562322), (3, .int g562293), (2, .int g561151), (0, .ref q398570), (1, .ref q398571)]) z563065 1 dr_cX17_weigh_189 rfl hz563065.symm (Nat.le_of_ble_eq_true rfl) rfl ?_
                                  refine G_goto 74 dr_cX17_weigh_192 (by decide +kernel) ?_
                                  refine G_lv (L' := [(5, .int z563065), (4, .ref q562322), (3, .int g562293), (2, .int g561151), (0, .ref q398570), (1, .ref q398571)]) [0, 2, 3, 4, 5, 6] rfl ?_
                                  exact ih74_562873 F563031 z563065 (gB_w bz563065 (by decide) (by decide)) hT563046 hs563043 kp563044 kp563045 (mz_up ez563065 (Int.le_trans bg562868'.2 (by decide)) hm74_562873)
                                · have r563066 : o563061.toInt ≠ 0 := gj_neq hc563063 (show Int32.toInt 0 = 0 by decide)
                                  have bo563061' : gB o563061 1 1 := gB_t1 bo563061 r563066
                                  refine G_aload_n 5 dr_cX17_weigh_175 rfl ?_
                                  refine Gp_get 5 hm562882 he563039 dr_cX17_weigh_176 (gk_X17 D I) (Nat.le_of_ble_eq_true rfl) wr_7_79 rfl ?_
                                  refine G_aload 0 dr_cX17_weigh_179 rfl ?_
                                  refine Gp_get 3 hm562909 he563041 dr_cX17_weigh_181 (gk_X15 D I) (Nat.le_of_ble_eq_true rfl) wr_9_186 rfl ?_
                                  refine G_dup2_11 dr_cX17_weigh_184 rfl rfl ?_
                                  refine Gp_iald 0 hm563026 he563042 dr_cX17_weigh_185 rfl (gB_inr (by omega) (by omega)) (G_nam fun z563067 hz563067 => ?_)
                                  have bz563067 : gB z563067 (-2147483648) 2147483647 := gB_any z563067
                                  refine G_iload_n 3 dr_cX17_weigh_186 rfl ?_
                                  refine G_iadd dr_cX17_weigh_187 (G_nam fun z563068 hz563068 => ?_)
                                  have bz563068 : gB z563068 (-2147483648) 2147483647 := gB_any z563068
                                  refine Gp_iast 0 hm563026 he563042 dr_cX17_weigh_188 rfl (gB_inr (by omega) (by omega)) (fun F563069 e563070 n563071 => ?_)
                                  obtain ⟨f563072, hf563072⟩ : ∃ z, z = upd f563034 p562914.toNatClampNeg z563068 := ⟨_, rfl⟩
                                  rw [← hf563072] at e563070
                                  have he563073 : F563069 q398571 = .inr (18, [.ref q561164, .ref q561165, .int p561166, .int p561167]) := (n563071 q398571 (rn_oa he563035 he563042)).trans he563035
                                  have he563074 : F563069 q561164 = .inr (4, [.int p562303, .ref q562305, .int p562304]) := (n563071 q561164 (rn_oa he563036 he563042)).trans he563036
                                  have he563075 : F563069 q562305 = .inl (I (.object "java/lang/Object"), n562319, .inr (.inr (.inr (.inr f562320)))) := (n563071 q562305 (rn_ref_num he563037 he563042)).trans he563037
                                  have he563076 : F563069 q562322 = .inr (17, [.ref q562331, .ref q562332, .int p562333, .int p562334]) := (n563071 q562322 (rn_oa he563038 he563042)).trans he563038
                                  have he563077 : F563069 q398570 = .inr (22, [.ref (γ 9 0), .ref (γ 9 1), .ref (γ 9 2), .ref (γ 9 3), .ref (γ 9 4), .ref (γ 9 5), .ref (γ 9 6), .ref (γ 9 7), .ref (γ 9 8), .int p398578, .int p398579, .int p398580, .int p398581, .int p398582, .int p398583, .ref (γ 9 15), .ref (γ 9 16), .ref (γ 9 17), .ref (γ 9 18), .ref (γ 9 19), .ref (γ 9 20), .ref (γ 9 21), .ref (γ 9 22), .int p398584, .int p398585, .int p398586, .int p398587, .int p398588, .ref q398576, .ref (γ 9 29), .int p398589, .ref (γ 9 31), .int p398590, .int p398591, .int p398592, .ref q398577]) := (n563071 q398570 (rn_oa he563039 he563042)).trans he563039
                                  have he563078 : F563069 q562331 = .inr (4, [.int p562885, .ref q562887, .int p562886]) := (n563071 q562331 (rn_oa he563040 he563042)).trans he563040
                                  have he563079 : F563069 q562332 = .inr (20, [.int p562911, .int p562912, .int p562913, .int p562914, .int p562915, .int p562916, .int p562917]) := (n563071 q562332 (rn_oa he563041 he563042)).trans he563041
                                  have he563080 : F563069 (γ 9 5) = .inl (I .int, 2000, .inl f563072) := e563070
                                  have hs563081 : rStr γ [] F398569 F563069 := rStr_put hs563043 n563071 ht398600 (by decide)
                                  have kp563082 : F563069 q398570 = F398569 q398570 := (n563071 q398570 (rn_ty htq398570 ht398600 (by decide))).trans kp563044
                                  have kp563083 : F563069 (γ 9 3) = F398569 (γ 9 3) := (n563071 (γ 9 3) (rn_ty ht398598 ht398600 (by decide))).trans kp563045
                                  obtain ⟨z563084, hz563084⟩ : ∃ z : Int32, z = g562868 + Int32.ofInt 1 := ⟨_, rfl⟩
                                  have ez563084 : z563084.toInt = g562868.toInt + 1 := gI_inc hz563084 (by decide) bg562868' (by decide) (by decide)
                                  have bz563084 : gB z563084 1 1000001 := ⟨by omega, by omega⟩
                                  refine G_iinc (L' := [(5, .int z563084), (6, .ref q562332), (4, .ref q562322), (3, .int g562293), (2, .int g561151), (0, .ref q398570), (1, .ref q398571)]) z563084 1 dr_cX17_weigh_189 rfl hz563084.symm (Nat.le_of_ble_eq_true rfl) rfl ?_
                                  refine G_goto 74 dr_cX17_weigh_192 (by decide +kernel) ?_
                                  have hT563085 : RS D I P398568 F563069 γ el := RS_set hT563046 n563071 ht398600 (by decide) ⟨f563072, he563080⟩
                                  refine G_lv (L' := [(5, .int z563084), (4, .ref q562322), (3, .int g562293), (2, .int g561151), (0, .ref q398570), (1, .ref q398571)]) [0, 2, 3, 4, 5, 6] rfl ?_
                                  exact ih74_562873 F563069 z563084 (gB_w bz563084 (by decide) (by decide)) hT563085 hs563081 kp563082 kp563083 (mz_up ez563084 (Int.le_trans bg562868'.2 (by decide)) hm74_562873)
                              · have r563086 : o563052.toInt ≠ 0 := gj_neq hc563054 (show Int32.toInt 0 = 0 by decide)
                                have bo563052' : gB o563052 1 1 := gB_t1 bo563052 r563086
                                refine G_aload_n 5 dr_cX17_weigh_153 rfl ?_
                                refine Gp_get 5 hm562882 he563039 dr_cX17_weigh_154 (gk_X17 D I) (Nat.le_of_ble_eq_true rfl) wr_7_79 rfl ?_
                                refine G_aload 0 dr_cX17_weigh_157 rfl ?_
                                refine Gp_get 2 hm562909 he563041 dr_cX17_weigh_159 (gk_X15 D I) (Nat.le_of_ble_eq_true rfl) wr_9_182 rfl ?_
                                refine G_dup2_11 dr_cX17_weigh_162 rfl rfl ?_
                                refine Gp_iald 0 hm563026 he563042 dr_cX17_weigh_163 rfl (gB_inr (by omega) (by omega)) (G_nam fun z563087 hz563087 => ?_)
                                have bz563087 : gB z563087 (-2147483648) 2147483647 := gB_any z563087
                                refine G_iload_n 3 dr_cX17_weigh_164 rfl ?_
                                refine G_iadd dr_cX17_weigh_165 (G_nam fun z563088 hz563088 => ?_)
                                have bz563088 : gB z563088 (-2147483648) 2147483647 := gB_any z563088
                                refine Gp_iast 0 hm563026 he563042 dr_cX17_weigh_166 rfl (gB_inr (by omega) (by omega)) (fun F563089 e563090 n563091 => ?_)
                                obtain ⟨f563092, hf563092⟩ : ∃ z, z = upd f563034 p562913.toNatClampNeg z563088 := ⟨_, rfl⟩
                                rw [← hf563092] at e563090
                                have he563093 : F563089 q398571 = .inr (18, [.ref q561164, .ref q561165, .int p561166, .int p561167]) := (n563091 q398571 (rn_oa he563035 he563042)).trans he563035
                                have he563094 : F563089 q561164 = .inr (4, [.int p562303, .ref q562305, .int p562304]) := (n563091 q561164 (rn_oa he563036 he563042)).trans he563036
                                have he563095 : F563089 q562305 = .inl (I (.object "java/lang/Object"), n562319, .inr (.inr (.inr (.inr f562320)))) := (n563091 q562305 (rn_ref_num he563037 he563042)).trans he563037
                                have he563096 : F563089 q562322 = .inr (17, [.ref q562331, .ref q562332, .int p562333, .int p562334]) := (n563091 q562322 (rn_oa he563038 he563042)).trans he563038
                                have he563097 : F563089 q398570 = .inr (22, [.ref (γ 9 0), .ref (γ 9 1), .ref (γ 9 2), .ref (γ 9 3), .ref (γ 9 4), .ref (γ 9 5), .ref (γ 9 6), .ref (γ 9 7), .ref (γ 9 8), .int p398578, .int p398579, .int p398580, .int p398581, .int p398582, .int p398583, .ref (γ 9 15), .ref (γ 9 16), .ref (γ 9 17), .ref (γ 9 18), .ref (γ 9 19), .ref (γ 9 20), .ref (γ 9 21), .ref (γ 9 22), .int p398584, .int p398585, .int p398586, .int p398587, .int p398588, .ref q398576, .ref (γ 9 29), .int p398589, .ref (γ 9 31), .int p398590, .int p398591, .int p398592, .ref q398577]) := (n563091 q398570 (rn_oa he563039 he563042)).trans he563039
                                have he563098 : F563089 q562331 = .inr (4, [.int p562885, .ref q562887, .int p562886]) := (n563091 q562331 (rn_oa he563040 he563042)).trans he563040
                                have he563099 : F563089 q562332 = .inr (20, [.int p562911, .int p562912, .int p562913, .int p562914, .int p562915, .int p562916, .int p562917]) := (n563091 q562332 (rn_oa he563041 he563042)).trans he563041
                                have he563100 : F563089 (γ 9 5) = .inl (I .int, 2000, .inl f563092) := e563090
                                have hs563101 : rStr γ [] F398569 F563089 := rStr_put hs563043 n563091 ht398600 (by decide)
                                have kp563102 : F563089 q398570 = F398569 q398570 := (n563091 q398570 (rn_ty htq398570 ht398600 (by decide))).trans kp563044
                                have kp563103 : F563089 (γ 9 3) = F398569 (γ 9 3) := (n563091 (γ 9 3) (rn_ty ht398598 ht398600 (by decide))).trans kp563045
                                refine G_aload 0 dr_cX17_weigh_167 rfl ?_
                                have hT563104 : RS D I P398568 F563089 γ el := RS_set hT563046 n563091 ht398600 (by decide) ⟨f563092, he563100⟩
                                refine Gw_callV (As := []) (gV_ok D I) (cp_1693_Row_usesB l hl0 D I P398568 F563089 q562332 p562911 p562912 p562913 p562914 p562915 p562916 p562917 hm562909 he563099 bp562911 bp562912 bp562915 bp562916 bp562917) dr_cX17_weigh_169 ⟨wr_10_192, wr_1_39, wr_10_195, by decide, rfl, (Nat.le_of_ble_eq_true rfl), (Nat.le_of_ble_eq_true rfl)⟩ wr_10_193 wr_10_194 hm562909 he563099 rfl (show 0 + 0 ≤ 0 by first | omega | decide) (show 0 + 0 ≤ 0 by first | omega | decide) (Nat.le_of_ble_eq_true rfl) (fun r563108 w563109 dc563105 ds563106 hp563107 => ?_) (fun _ _ _ _ _ z => z.elim)
                                obtain ⟨o563110, rfl, rfl, hdc, hds, bo563110, x563111⟩ := hp563107
                                change G _ _ _ _ _ _ _ (.int o563110 :: _) _ _ _
                                refine G_widen (cs' := 0) (sl' := 0) (by omega) (by omega) ?_
                                refine G_if_eq 189 dr_cX17_weigh_172 (by decide +kernel) (fun hc563112 => ?_) (fun hc563112 => ?_)
                                · have r563113 : o563110.toInt = 0 := gj_eq hc563112 (show Int32.toInt 0 = 0 by decide)
                                  have bo563110' : gB o563110 0 0 := gB_t0 r563113
                                  obtain ⟨z563114, hz563114⟩ : ∃ z : Int32, z = g562868 + Int32.ofInt 1 := ⟨_, rfl⟩
                                  have ez563114 : z563114.toInt = g562868.toInt + 1 := gI_inc hz563114 (by decide) bg562868' (by decide) (by decide)
                                  have bz563114 : gB z563114 1 1000001 := ⟨by omega, by omega⟩
                                  refine G_iinc (L' := [(5, .int z563114), (6, .ref q562332), (4, .ref q562322), (3, .int g562293), (2, .int g561151), (0, .ref q398570), (1, .ref q398571)]) z563114 1 dr_cX17_weigh_189 rfl hz563114.symm (Nat.le_of_ble_eq_true rfl) rfl ?_
                                  refine G_goto 74 dr_cX17_weigh_192 (by decide +kernel) ?_
                                  refine G_lv (L' := [(5, .int z563114), (4, .ref q562322), (3, .int g562293), (2, .int g561151), (0, .ref q398570), (1, .ref q398571)]) [0, 2, 3, 4, 5, 6] rfl ?_
                                  exact ih74_562873 F563089 z563114 (gB_w bz563114 (by decide) (by decide)) hT563104 hs563101 kp563102 kp563103 (mz_up ez563114 (Int.le_trans bg562868'.2 (by decide)) hm74_562873)
                                · have r563115 : o563110.toInt ≠ 0 := gj_neq hc563112 (show Int32.toInt 0 = 0 by decide)
                                  have bo563110' : gB o563110 1 1 := gB_t1 bo563110 r563115
                                  refine G_aload_n 5 dr_cX17_weigh_175 rfl ?_
                                  refine Gp_get 5 hm562882 he563097 dr_cX17_weigh_176 (gk_X17 D I) (Nat.le_of_ble_eq_true rfl) wr_7_79 rfl ?_
                                  refine G_aload 0 dr_cX17_weigh_179 rfl ?_
                                  refine Gp_get 3 hm562909 he563099 dr_cX17_weigh_181 (gk_X15 D I) (Nat.le_of_ble_eq_true rfl) wr_9_186 rfl ?_
                                  refine G_dup2_11 dr_cX17_weigh_184 rfl rfl ?_
                                  refine Gp_iald 0 hm563026 he563100 dr_cX17_weigh_185 rfl (gB_inr (by omega) (by omega)) (G_nam fun z563116 hz563116 => ?_)
                                  have bz563116 : gB z563116 (-2147483648) 2147483647 := gB_any z563116
                                  refine G_iload_n 3 dr_cX17_weigh_186 rfl ?_
                                  refine G_iadd dr_cX17_weigh_187 (G_nam fun z563117 hz563117 => ?_)
                                  have bz563117 : gB z563117 (-2147483648) 2147483647 := gB_any z563117
                                  refine Gp_iast 0 hm563026 he563100 dr_cX17_weigh_188 rfl (gB_inr (by omega) (by omega)) (fun F563118 e563119 n563120 => ?_)
                                  obtain ⟨f563121, hf563121⟩ : ∃ z, z = upd f563092 p562914.toNatClampNeg z563117 := ⟨_, rfl⟩
                                  rw [← hf563121] at e563119
                                  have he563122 : F563118 q398571 = .inr (18, [.ref q561164, .ref q561165, .int p561166, .int p561167]) := (n563120 q398571 (rn_oa he563093 he563100)).trans he563093
                                  have he563123 : F563118 q561164 = .inr (4, [.int p562303, .ref q562305, .int p562304]) := (n563120 q561164 (rn_oa he563094 he563100)).trans he563094
                                  have he563124 : F563118 q562305 = .inl (I (.object "java/lang/Object"), n562319, .inr (.inr (.inr (.inr f562320)))) := (n563120 q562305 (rn_ref_num he563095 he563100)).trans he563095
                                  have he563125 : F563118 q562322 = .inr (17, [.ref q562331, .ref q562332, .int p562333, .int p562334]) := (n563120 q562322 (rn_oa he563096 he563100)).trans he563096
                                  have he563126 : F563118 q398570 = .inr (22, [.ref (γ 9 0), .ref (γ 9 1), .ref (γ 9 2), .ref (γ 9 3), .ref (γ 9 4), .ref (γ 9 5), .ref (γ 9 6), .ref (γ 9 7), .ref (γ 9 8), .int p398578, .int p398579, .int p398580, .int p398581, .int p398582, .int p398583, .ref (γ 9 15), .ref (γ 9 16), .ref (γ 9 17), .ref (γ 9 18), .ref (γ 9 19), .ref (γ 9 20), .ref (γ 9 21), .ref (γ 9 22), .int p398584, .int p398585, .int p398586, .int p398587, .int p398588, .ref q398576, .ref (γ 9 29), .int p398589, .ref (γ 9 31), .int p398590, .int p398591, .int p398592, .ref q398577]) := (n563120 q398570 (rn_oa he563097 he563100)).trans he563097
                                  have he563127 : F563118 q562331 = .inr (4, [.int p562885, .ref q562887, .int p562886]) := (n563120 q562331 (rn_oa he563098 he563100)).trans he563098
                                  have he563128 : F563118 q562332 = .inr (20, [.int p562911, .int p562912, .int p562913, .int p562914, .int p562915, .int p562916, .int p562917]) := (n563120 q562332 (rn_oa he563099 he563100)).trans he563099
                                  have he563129 : F563118 (γ 9 5) = .inl (I .int, 2000, .inl f563121) := e563119
                                  have hs563130 : rStr γ [] F398569 F563118 := rStr_put hs563101 n563120 ht398600 (by decide)
                                  have kp563131 : F563118 q398570 = F398569 q398570 := (n563120 q398570 (rn_ty htq398570 ht398600 (by decide))).trans kp563102
                                  have kp563132 : F563118 (γ 9 3) = F398569 (γ 9 3) := (n563120 (γ 9 3) (rn_ty ht398598 ht398600 (by decide))).trans kp563103
                                  obtain ⟨z563133, hz563133⟩ : ∃ z : Int32, z = g562868 + Int32.ofInt 1 := ⟨_, rfl⟩
                                  have ez563133 : z563133.toInt = g562868.toInt + 1 := gI_inc hz563133 (by decide) bg562868' (by decide) (by decide)
                                  have bz563133 : gB z563133 1 1000001 := ⟨by omega, by omega⟩
                                  refine G_iinc (L' := [(5, .int z563133), (6, .ref q562332), (4, .ref q562322), (3, .int g562293), (2, .int g561151), (0, .ref q398570), (1, .ref q398571)]) z563133 1 dr_cX17_weigh_189 rfl hz563133.symm (Nat.le_of_ble_eq_true rfl) rfl ?_
                                  refine G_goto 74 dr_cX17_weigh_192 (by decide +kernel) ?_
                                  have hT563134 : RS D I P398568 F563118 γ el := RS_set hT563104 n563120 ht398600 (by decide) ⟨f563121, he563129⟩
                                  refine G_lv (L' := [(5, .int z563133), (4, .ref q562322), (3, .int g562293), (2, .int g561151), (0, .ref q398570), (1, .ref q398571)]) [0, 2, 3, 4, 5, 6] rfl ?_
                                  exact ih74_562873 F563118 z563133 (gB_w bz563133 (by decide) (by decide)) hT563134 hs563130 kp563131 kp563132 (mz_up ez563133 (Int.le_trans bg562868'.2 (by decide)) hm74_562873)
                          · have r563135 : g562868.toInt < p562886.toInt := gC_nle hc562907
                            have bg562868'' : gB g562868 0 999999 := ⟨by omega, by omega⟩
                            have bp562886' : gB p562886 1 1000000 := ⟨by omega, by omega⟩
                            refine G_aload 1 dr_cX17_weigh_100 rfl ?_
                            refine Gp_get 0 hm562329 he562879 dr_cX17_weigh_102 (gk_X12 D I) (Nat.le_of_ble_eq_true rfl) wr_9_216 rfl ?_
                            refine G_iload 0 dr_cX17_weigh_105 rfl ?_
                            obtain ⟨r563136, r563137, n563144, f563145, r563138, r563139, r563140, r563141, r563142, r563143⟩ := rLC_n r562890 (by omega)
                            have hm563146 : q562887 ∈ P398568 := RS_m hT562870 r563136 (by decide)
                            obtain ⟨q563147, hx563148⟩ : ∃ x, x = el q562331 g562868.toInt.toNat := ⟨_, rfl⟩
                            have hx563149 : f563145 g562868.toNatClampNeg = some q563147 := (r563142 _ (show g562868.toInt.toNat < γ 2 q562331 by omega)).trans (by rw [hx563148])
                            have ht563150 : rKd γ q563147 1 := by rw [hx563148]; exact (r562891 _ (show g562868.toInt.toNat < γ 2 q562331 by omega)).1
                            have ht563151 : rFm γ q563147 q562331 := by rw [hx563148]; exact (r562891 _ (show g562868.toInt.toNat < γ 2 q562331 by omega)).2.1
                            refine Gw_callV (As := [.int g562868]) (gV_ok D I) (cp_22_ArrayList_get l hl0 D I P398568 F562869 q562331 q562887 g562868 p562885 p562886 f563145 n563144 q563147 hm562883 hm563146 he562884 r563138 (gB_w bg562868'' (by decide) (by decide)) (gB_w bp562886' (by decide) (by decide)) (by omega) (by omega) (by assumption) (by omega)) dr_cX17_weigh_107 ⟨wr_10_197, wr_1_18, wr_10_61, by decide, rfl, (Nat.le_of_ble_eq_true rfl), (Nat.le_of_ble_eq_true rfl)⟩ wr_10_59 wr_10_60 hm562883 he562884 rfl (show 0 + 0 ≤ 0 by first | omega | decide) (show 0 + 0 ≤ 0 by first | omega | decide) (Nat.le_of_ble_eq_true rfl) (fun r563155 w563156 dc563152 ds563153 hp563154 => ?_) (fun _ _ _ _ _ z => z.elim)
                            obtain ⟨rfl, rfl, hdc, hds⟩ := hp563154
                            change G _ _ _ _ _ _ _ (.ref q563147 :: _) _ _ _
                            refine G_widen (cs' := 0) (sl' := 0) (by omega) (by omega) ?_
                            have hm563157 : q563147 ∈ P398568 := RS_m hT562870 ht563150 (by decide)
                            obtain ⟨p563159, p563160, p563161, p563162, p563163, p563164, p563165, he563158, bp563159, bp563160, bp563163, bp563164, bp563165, r563166, r563167, r563168, r563169, r563170⟩ := show rk_1 γ q563147 (F562869 q563147) from RS_o hT562870 ht563150
                            have bp563161 := gB_any p563161
                            have bp563162 := gB_any p563162
                            refine Gp_cast hm563157 he563158 rfl dr_cX17_weigh_110 wr_10_198 (gr_cast 1 rfl) ?_
                            refine G_goto 121 dr_cX17_weigh_113 (by decide +kernel) ?_
                            refine G_astore (L' := [(6, .ref q563147), (5, .int g562868), (4, .ref q562322), (3, .int g562293), (2, .int g561151), (0, .ref q398570), (1, .ref q398571)]) dr_cX17_weigh_121 (Nat.le_of_ble_eq_true rfl) rfl ?_
                            refine G_aload 0 dr_cX17_weigh_123 rfl ?_
                            refine Gw_callV (As := []) (gV_ok D I) (cp_1654_Row_sets l hl0 D I P398568 F562869 q563147 p563159 p563160 p563161 p563162 p563163 p563164 p563165 hm563157 he563158 bp563159 bp563160 bp563163 bp563164 bp563165) dr_cX17_weigh_125 ⟨wr_10_177, wr_1_39, wr_10_180, by decide, rfl, (Nat.le_of_ble_eq_true rfl), (Nat.le_of_ble_eq_true rfl)⟩ wr_10_178 wr_10_179 hm563157 he563158 rfl (show 0 + 0 ≤ 0 by first | omega | decide) (show 0 + 0 ≤ 0 by first | omega | decide) (Nat.le_of_ble_eq_true rfl) (fun r563174 w563175 dc563171 ds563172 hp563173 => ?_) (fun _ _ _ _ _ z => z.elim)
                            obtain ⟨o563176, rfl, rfl, hdc, hds, bo563176⟩ := hp563173
                            change G _ _ _ _ _ _ _ (.int o563176 :: _) _ _ _
                            refine G_widen (cs' := 0) (sl' := 0) (by omega) (by omega) ?_
                            refine G_if_eq 145 dr_cX17_weigh_128 (by decide +kernel) (fun hc563177 => ?_) (fun hc563177 => ?_)
                            · have r563178 : o563176.toInt = 0 := gj_eq hc563177 (show Int32.toInt 0 = 0 by decide)
                              have bo563176' : gB o563176 0 0 := gB_t0 r563178
                              refine G_aload 0 dr_cX17_weigh_145 rfl ?_
                              refine Gw_callV (As := []) (gV_ok D I) (cp_1669_Row_usesA l hl0 D I P398568 F562869 q563147 p563159 p563160 p563161 p563162 p563163 p563164 p563165 hm563157 he563158 bp563159 bp563160 bp563163 bp563164 bp563165) dr_cX17_weigh_147 ⟨wr_10_188, wr_1_39, wr_10_191, by decide, rfl, (Nat.le_of_ble_eq_true rfl), (Nat.le_of_ble_eq_true rfl)⟩ wr_10_189 wr_10_190 hm563157 he563158 rfl (show 0 + 0 ≤ 0 by first | omega | decide) (show 0 + 0 ≤ 0 by first | omega | decide) (Nat.le_of_ble_eq_true rfl) (fun r563182 w563183 dc563179 ds563180 hp563181 => ?_) (fun _ _ _ _ _ z => z.elim)
                              obtain ⟨o563184, rfl, rfl, hdc, hds, bo563184, x563185⟩ := hp563181
                              change G _ _ _ _ _ _ _ (.int o563184 :: _) _ _ _
                              refine G_widen (cs' := 0) (sl' := 0) (by omega) (by omega) ?_
                              refine G_if_eq 167 dr_cX17_weigh_150 (by decide +kernel) (fun hc563186 => ?_) (fun hc563186 => ?_)
                              · have r563187 : o563184.toInt = 0 := gj_eq hc563186 (show Int32.toInt 0 = 0 by decide)
                                have bo563184' : gB o563184 0 0 := gB_t0 r563187
                                refine G_aload 0 dr_cX17_weigh_167 rfl ?_
                                refine Gw_callV (As := []) (gV_ok D I) (cp_1693_Row_usesB l hl0 D I P398568 F562869 q563147 p563159 p563160 p563161 p563162 p563163 p563164 p563165 hm563157 he563158 bp563159 bp563160 bp563163 bp563164 bp563165) dr_cX17_weigh_169 ⟨wr_10_192, wr_1_39, wr_10_195, by decide, rfl, (Nat.le_of_ble_eq_true rfl), (Nat.le_of_ble_eq_true rfl)⟩ wr_10_193 wr_10_194 hm563157 he563158 rfl (show 0 + 0 ≤ 0 by first | omega | decide) (show 0 + 0 ≤ 0 by first | omega | decide) (Nat.le_of_ble_eq_true rfl) (fun r563191 w563192 dc563188 ds563189 hp563190 => ?_) (fun _ _ _ _ _ z => z.elim)
                                obtain ⟨o563193, rfl, rfl, hdc, hds, bo563193, x563194⟩ := hp563190
                                change G _ _ _ _ _ _ _ (.int o563193 :: _) _ _ _
                                refine G_widen (cs' := 0) (sl' := 0) (by omega) (by omega) ?_
                                refine G_if_eq 189 dr_cX17_weigh_172 (by decide +kernel) (fun hc563195 => ?_) (fun hc563195 => ?_)
                                · have r563196 : o563193.toInt = 0 := gj_eq hc563195 (show Int32.toInt 0 = 0 by decide)
                                  have bo563193' : gB o563193 0 0 := gB_t0 r563196
                                  obtain ⟨z563197, hz563197⟩ : ∃ z : Int32, z = g562868 + Int32.ofInt 1 := ⟨_, rfl⟩
                                  have ez563197 : z563197.toInt = g562868.toInt + 1 := gI_inc hz563197 (by decide) bg562868'' (by decide) (by decide)
                                  have bz563197 : gB z563197 1 1000000 := ⟨by omega, by omega⟩
                                  refine G_iinc (L' := [(5, .int z563197), (6, .ref q563147), (4, .ref q562322), (3, .int g562293), (2, .int g561151), (0, .ref q398570), (1, .ref q398571)]) z563197 1 dr_cX17_weigh_189 rfl hz563197.symm (Nat.le_of_ble_eq_true rfl) rfl ?_
                                  refine G_goto 74 dr_cX17_weigh_192 (by decide +kernel) ?_
                                  refine G_lv (L' := [(5, .int z563197), (4, .ref q562322), (3, .int g562293), (2, .int g561151), (0, .ref q398570), (1, .ref q398571)]) [0, 2, 3, 4, 5, 6] rfl ?_
                                  exact ih74_562873 F562869 z563197 (gB_w bz563197 (by decide) (by decide)) hT562870 hs562871 x562872 x562873 (mz_up ez563197 (Int.le_trans bg562868''.2 (by decide)) hm74_562873)
                                · have r563198 : o563193.toInt ≠ 0 := gj_neq hc563195 (show Int32.toInt 0 = 0 by decide)
                                  have bo563193' : gB o563193 1 1 := gB_t1 bo563193 r563198
                                  refine G_aload_n 5 dr_cX17_weigh_175 rfl ?_
                                  refine Gp_get 5 hm562882 he562881 dr_cX17_weigh_176 (gk_X17 D I) (Nat.le_of_ble_eq_true rfl) wr_7_79 rfl ?_
                                  refine G_aload 0 dr_cX17_weigh_179 rfl ?_
                                  refine Gp_get 3 hm563157 he563158 dr_cX17_weigh_181 (gk_X15 D I) (Nat.le_of_ble_eq_true rfl) wr_9_186 rfl ?_
                                  refine G_dup2_11 dr_cX17_weigh_184 rfl rfl ?_
                                  have hm563199 : (γ 9 5) ∈ P398568 := RS_m hT562870 ht398600 (by decide)
                                  obtain ⟨f563201, he563200⟩ := show rk_17 I (F562869 (γ 9 5)) from RS_o hT562870 ht398600
                                  refine Gp_iald 0 hm563199 he563200 dr_cX17_weigh_185 rfl (gB_inr (by omega) (by omega)) (G_nam fun z563202 hz563202 => ?_)
                                  have bz563202 : gB z563202 (-2147483648) 2147483647 := gB_any z563202
                                  refine G_iload_n 3 dr_cX17_weigh_186 rfl ?_
                                  refine G_iadd dr_cX17_weigh_187 (G_nam fun z563203 hz563203 => ?_)
                                  have bz563203 : gB z563203 (-2147483648) 2147483647 := gB_any z563203
                                  refine Gp_iast 0 hm563199 he563200 dr_cX17_weigh_188 rfl (gB_inr (by omega) (by omega)) (fun F563204 e563205 n563206 => ?_)
                                  obtain ⟨f563207, hf563207⟩ : ∃ z, z = upd f563201 p563162.toNatClampNeg z563203 := ⟨_, rfl⟩
                                  rw [← hf563207] at e563205
                                  have he563208 : F563204 q398571 = .inr (18, [.ref q561164, .ref q561165, .int p561166, .int p561167]) := (n563206 q398571 (rn_oa he562876 he563200)).trans he562876
                                  have he563209 : F563204 q561164 = .inr (4, [.int p562303, .ref q562305, .int p562304]) := (n563206 q561164 (rn_oa he562877 he563200)).trans he562877
                                  have he563210 : F563204 q562305 = .inl (I (.object "java/lang/Object"), n562319, .inr (.inr (.inr (.inr f562320)))) := (n563206 q562305 (rn_ref_num he562878 he563200)).trans he562878
                                  have he563211 : F563204 q562322 = .inr (17, [.ref q562331, .ref q562332, .int p562333, .int p562334]) := (n563206 q562322 (rn_oa he562879 he563200)).trans he562879
                                  have he563212 : F563204 q398570 = .inr (22, [.ref (γ 9 0), .ref (γ 9 1), .ref (γ 9 2), .ref (γ 9 3), .ref (γ 9 4), .ref (γ 9 5), .ref (γ 9 6), .ref (γ 9 7), .ref (γ 9 8), .int p398578, .int p398579, .int p398580, .int p398581, .int p398582, .int p398583, .ref (γ 9 15), .ref (γ 9 16), .ref (γ 9 17), .ref (γ 9 18), .ref (γ 9 19), .ref (γ 9 20), .ref (γ 9 21), .ref (γ 9 22), .int p398584, .int p398585, .int p398586, .int p398587, .int p398588, .ref q398576, .ref (γ 9 29), .int p398589, .ref (γ 9 31), .int p398590, .int p398591, .int p398592, .ref q398577]) := (n563206 q398570 (rn_oa he562881 he563200)).trans he562881
                                  have he563213 : F563204 q562331 = .inr (4, [.int p562885, .ref q562887, .int p562886]) := (n563206 q562331 (rn_oa he562884 he563200)).trans he562884
                                  have he563214 : F563204 q562887 = .inl (I (.object "java/lang/Object"), n563144, .inr (.inr (.inr (.inr f563145)))) := (n563206 q562887 (rn_ref_num r563138 he563200)).trans r563138
                                  have he563215 : F563204 q563147 = .inr (20, [.int p563159, .int p563160, .int p563161, .int p563162, .int p563163, .int p563164, .int p563165]) := (n563206 q563147 (rn_oa he563158 he563200)).trans he563158
                                  have he563216 : F563204 (γ 9 5) = .inl (I .int, 2000, .inl f563207) := e563205
                                  have hs563217 : rStr γ [] F398569 F563204 := rStr_put hs562871 n563206 ht398600 (by decide)
                                  have kp563218 : F563204 q398570 = F398569 q398570 := (n563206 q398570 (rn_ty htq398570 ht398600 (by decide))).trans x562872
                                  have kp563219 : F563204 (γ 9 3) = F398569 (γ 9 3) := (n563206 (γ 9 3) (rn_ty ht398598 ht398600 (by decide))).trans x562873
                                  obtain ⟨z563220, hz563220⟩ : ∃ z : Int32, z = g562868 + Int32.ofInt 1 := ⟨_, rfl⟩
                                  have ez563220 : z563220.toInt = g562868.toInt + 1 := gI_inc hz563220 (by decide) bg562868'' (by decide) (by decide)
                                  have bz563220 : gB z563220 1 1000000 := ⟨by omega, by omega⟩
                                  refine G_iinc (L' := [(5, .int z563220), (6, .ref q563147), (4, .ref q562322), (3, .int g562293), (2, .int g561151), (0, .ref q398570), (1, .ref q398571)]) z563220 1 dr_cX17_weigh_189 rfl hz563220.symm (Nat.le_of_ble_eq_true rfl) rfl ?_
                                  refine G_goto 74 dr_cX17_weigh_192 (by decide +kernel) ?_
                                  have hT563221 : RS D I P398568 F563204 γ el := RS_set hT562870 n563206 ht398600 (by decide) ⟨f563207, he563216⟩
                                  refine G_lv (L' := [(5, .int z563220), (4, .ref q562322), (3, .int g562293), (2, .int g561151), (0, .ref q398570), (1, .ref q398571)]) [0, 2, 3, 4, 5, 6] rfl ?_
                                  exact ih74_562873 F563204 z563220 (gB_w bz563220 (by decide) (by decide)) hT563221 hs563217 kp563218 kp563219 (mz_up ez563220 (Int.le_trans bg562868''.2 (by decide)) hm74_562873)
                              · have r563222 : o563184.toInt ≠ 0 := gj_neq hc563186 (show Int32.toInt 0 = 0 by decide)
                                have bo563184' : gB o563184 1 1 := gB_t1 bo563184 r563222
                                refine G_aload_n 5 dr_cX17_weigh_153 rfl ?_
                                refine Gp_get 5 hm562882 he562881 dr_cX17_weigh_154 (gk_X17 D I) (Nat.le_of_ble_eq_true rfl) wr_7_79 rfl ?_
                                refine G_aload 0 dr_cX17_weigh_157 rfl ?_
                                refine Gp_get 2 hm563157 he563158 dr_cX17_weigh_159 (gk_X15 D I) (Nat.le_of_ble_eq_true rfl) wr_9_182 rfl ?_
                                refine G_dup2_11 dr_cX17_weigh_162 rfl rfl ?_
                                have hm563223 : (γ 9 5) ∈ P398568 := RS_m hT562870 ht398600 (by decide)
                                obtain ⟨f563225, he563224⟩ := show rk_17 I (F562869 (γ 9 5)) from RS_o hT562870 ht398600
                                refine Gp_iald 0 hm563223 he563224 dr_cX17_weigh_163 rfl (gB_inr (by omega) (by omega)) (G_nam fun z563226 hz563226 => ?_)
                                have bz563226 : gB z563226 (-2147483648) 2147483647 := gB_any z563226
                                refine G_iload_n 3 dr_cX17_weigh_164 rfl ?_
                                refine G_iadd dr_cX17_weigh_165 (G_nam fun z563227 hz563227 => ?_)
                                have bz563227 : gB z563227 (-2147483648) 2147483647 := gB_any z563227
                                refine Gp_iast 0 hm563223 he563224 dr_cX17_weigh_166 rfl (gB_inr (by omega) (by omega)) (fun F563228 e563229 n563230 => ?_)
                                obtain ⟨f563231, hf563231⟩ : ∃ z, z = upd f563225 p563161.toNatClampNeg z563227 := ⟨_, rfl⟩
                                rw [← hf563231] at e563229
                                have he563232 : F563228 q398571 = .inr (18, [.ref q561164, .ref q561165, .int p561166, .int p561167]) := (n563230 q398571 (rn_oa he562876 he563224)).trans he562876
                                have he563233 : F563228 q561164 = .inr (4, [.int p562303, .ref q562305, .int p562304]) := (n563230 q561164 (rn_oa he562877 he563224)).trans he562877
                                have he563234 : F563228 q562305 = .inl (I (.object "java/lang/Object"), n562319, .inr (.inr (.inr (.inr f562320)))) := (n563230 q562305 (rn_ref_num he562878 he563224)).trans he562878
                                have he563235 : F563228 q562322 = .inr (17, [.ref q562331, .ref q562332, .int p562333, .int p562334]) := (n563230 q562322 (rn_oa he562879 he563224)).trans he562879
                                have he563236 : F563228 q398570 = .inr (22, [.ref (γ 9 0), .ref (γ 9 1), .ref (γ 9 2), .ref (γ 9 3), .ref (γ 9 4), .ref (γ 9 5), .ref (γ 9 6), .ref (γ 9 7), .ref (γ 9 8), .int p398578, .int p398579, .int p398580, .int p398581, .int p398582, .int p398583, .ref (γ 9 15), .ref (γ 9 16), .ref (γ 9 17), .ref (γ 9 18), .ref (γ 9 19), .ref (γ 9 20), .ref (γ 9 21), .ref (γ 9 22), .int p398584, .int p398585, .int p398586, .int p398587, .int p398588, .ref q398576, .ref (γ 9 29), .int p398589, .ref (γ 9 31), .int p398590, .int p398591, .int p398592, .ref q398577]) := (n563230 q398570 (rn_oa he562881 he563224)).trans he562881
                                have he563237 : F563228 q562331 = .inr (4, [.int p562885, .ref q562887, .int p562886]) := (n563230 q562331 (rn_oa he562884 he563224)).trans he562884
                                have he563238 : F563228 q562887 = .inl (I (.object "java/lang/Object"), n563144, .inr (.inr (.inr (.inr f563145)))) := (n563230 q562887 (rn_ref_num r563138 he563224)).trans r563138
                                have he563239 : F563228 q563147 = .inr (20, [.int p563159, .int p563160, .int p563161, .int p563162, .int p563163, .int p563164, .int p563165]) := (n563230 q563147 (rn_oa he563158 he563224)).trans he563158
                                have he563240 : F563228 (γ 9 5) = .inl (I .int, 2000, .inl f563231) := e563229
                                have hs563241 : rStr γ [] F398569 F563228 := rStr_put hs562871 n563230 ht398600 (by decide)
                                have kp563242 : F563228 q398570 = F398569 q398570 := (n563230 q398570 (rn_ty htq398570 ht398600 (by decide))).trans x562872
                                have kp563243 : F563228 (γ 9 3) = F398569 (γ 9 3) := (n563230 (γ 9 3) (rn_ty ht398598 ht398600 (by decide))).trans x562873
                                refine G_aload 0 dr_cX17_weigh_167 rfl ?_
                                have hT563244 : RS D I P398568 F563228 γ el := RS_set hT562870 n563230 ht398600 (by decide) ⟨f563231, he563240⟩
                                refine Gw_callV (As := []) (gV_ok D I) (cp_1693_Row_usesB l hl0 D I P398568 F563228 q563147 p563159 p563160 p563161 p563162 p563163 p563164 p563165 hm563157 he563239 bp563159 bp563160 bp563163 bp563164 bp563165) dr_cX17_weigh_169 ⟨wr_10_192, wr_1_39, wr_10_195, by decide, rfl, (Nat.le_of_ble_eq_true rfl), (Nat.le_of_ble_eq_true rfl)⟩ wr_10_193 wr_10_194 hm563157 he563239 rfl (show 0 + 0 ≤ 0 by first | omega | decide) (show 0 + 0 ≤ 0 by first | omega | decide) (Nat.le_of_ble_eq_true rfl) (fun r563248 w563249 dc563245 ds563246 hp563247 => ?_) (fun _ _ _ _ _ z => z.elim)
                                obtain ⟨o563250, rfl, rfl, hdc, hds, bo563250, x563251⟩ := hp563247
                                change G _ _ _ _ _ _ _ (.int o563250 :: _) _ _ _
                                refine G_widen (cs' := 0) (sl' := 0) (by omega) (by omega) ?_
                                refine G_if_eq 189 dr_cX17_weigh_172 (by decide +kernel) (fun hc563252 => ?_) (fun hc563252 => ?_)
                                · have r563253 : o563250.toInt = 0 := gj_eq hc563252 (show Int32.toInt 0 = 0 by decide)
                                  have bo563250' : gB o563250 0 0 := gB_t0 r563253
                                  obtain ⟨z563254, hz563254⟩ : ∃ z : Int32, z = g562868 + Int32.ofInt 1 := ⟨_, rfl⟩
                                  have ez563254 : z563254.toInt = g562868.toInt + 1 := gI_inc hz563254 (by decide) bg562868'' (by decide) (by decide)
                                  have bz563254 : gB z563254 1 1000000 := ⟨by omega, by omega⟩
                                  refine G_iinc (L' := [(5, .int z563254), (6, .ref q563147), (4, .ref q562322), (3, .int g562293), (2, .int g561151), (0, .ref q398570), (1, .ref q398571)]) z563254 1 dr_cX17_weigh_189 rfl hz563254.symm (Nat.le_of_ble_eq_true rfl) rfl ?_
                                  refine G_goto 74 dr_cX17_weigh_192 (by decide +kernel) ?_
                                  refine G_lv (L' := [(5, .int z563254), (4, .ref q562322), (3, .int g562293), (2, .int g561151), (0, .ref q398570), (1, .ref q398571)]) [0, 2, 3, 4, 5, 6] rfl ?_
                                  exact ih74_562873 F563228 z563254 (gB_w bz563254 (by decide) (by decide)) hT563244 hs563241 kp563242 kp563243 (mz_up ez563254 (Int.le_trans bg562868''.2 (by decide)) hm74_562873)
                                · have r563255 : o563250.toInt ≠ 0 := gj_neq hc563252 (show Int32.toInt 0 = 0 by decide)
                                  have bo563250' : gB o563250 1 1 := gB_t1 bo563250 r563255
                                  refine G_aload_n 5 dr_cX17_weigh_175 rfl ?_
                                  refine Gp_get 5 hm562882 he563236 dr_cX17_weigh_176 (gk_X17 D I) (Nat.le_of_ble_eq_true rfl) wr_7_79 rfl ?_
                                  refine G_aload 0 dr_cX17_weigh_179 rfl ?_
                                  refine Gp_get 3 hm563157 he563239 dr_cX17_weigh_181 (gk_X15 D I) (Nat.le_of_ble_eq_true rfl) wr_9_186 rfl ?_
                                  refine G_dup2_11 dr_cX17_weigh_184 rfl rfl ?_
                                  refine Gp_iald 0 hm563223 he563240 dr_cX17_weigh_185 rfl (gB_inr (by omega) (by omega)) (G_nam fun z563256 hz563256 => ?_)
                                  have bz563256 : gB z563256 (-2147483648) 2147483647 := gB_any z563256
                                  refine G_iload_n 3 dr_cX17_weigh_186 rfl ?_
                                  refine G_iadd dr_cX17_weigh_187 (G_nam fun z563257 hz563257 => ?_)
                                  have bz563257 : gB z563257 (-2147483648) 2147483647 := gB_any z563257
                                  refine Gp_iast 0 hm563223 he563240 dr_cX17_weigh_188 rfl (gB_inr (by omega) (by omega)) (fun F563258 e563259 n563260 => ?_)
                                  obtain ⟨f563261, hf563261⟩ : ∃ z, z = upd f563231 p563162.toNatClampNeg z563257 := ⟨_, rfl⟩
                                  rw [← hf563261] at e563259
                                  have he563262 : F563258 q398571 = .inr (18, [.ref q561164, .ref q561165, .int p561166, .int p561167]) := (n563260 q398571 (rn_oa he563232 he563240)).trans he563232
                                  have he563263 : F563258 q561164 = .inr (4, [.int p562303, .ref q562305, .int p562304]) := (n563260 q561164 (rn_oa he563233 he563240)).trans he563233
                                  have he563264 : F563258 q562305 = .inl (I (.object "java/lang/Object"), n562319, .inr (.inr (.inr (.inr f562320)))) := (n563260 q562305 (rn_ref_num he563234 he563240)).trans he563234
                                  have he563265 : F563258 q562322 = .inr (17, [.ref q562331, .ref q562332, .int p562333, .int p562334]) := (n563260 q562322 (rn_oa he563235 he563240)).trans he563235
                                  have he563266 : F563258 q398570 = .inr (22, [.ref (γ 9 0), .ref (γ 9 1), .ref (γ 9 2), .ref (γ 9 3), .ref (γ 9 4), .ref (γ 9 5), .ref (γ 9 6), .ref (γ 9 7), .ref (γ 9 8), .int p398578, .int p398579, .int p398580, .int p398581, .int p398582, .int p398583, .ref (γ 9 15), .ref (γ 9 16), .ref (γ 9 17), .ref (γ 9 18), .ref (γ 9 19), .ref (γ 9 20), .ref (γ 9 21), .ref (γ 9 22), .int p398584, .int p398585, .int p398586, .int p398587, .int p398588, .ref q398576, .ref (γ 9 29), .int p398589, .ref (γ 9 31), .int p398590, .int p398591, .int p398592, .ref q398577]) := (n563260 q398570 (rn_oa he563236 he563240)).trans he563236
                                  have he563267 : F563258 q562331 = .inr (4, [.int p562885, .ref q562887, .int p562886]) := (n563260 q562331 (rn_oa he563237 he563240)).trans he563237
                                  have he563268 : F563258 q562887 = .inl (I (.object "java/lang/Object"), n563144, .inr (.inr (.inr (.inr f563145)))) := (n563260 q562887 (rn_ref_num he563238 he563240)).trans he563238
                                  have he563269 : F563258 q563147 = .inr (20, [.int p563159, .int p563160, .int p563161, .int p563162, .int p563163, .int p563164, .int p563165]) := (n563260 q563147 (rn_oa he563239 he563240)).trans he563239
                                  have he563270 : F563258 (γ 9 5) = .inl (I .int, 2000, .inl f563261) := e563259
                                  have hs563271 : rStr γ [] F398569 F563258 := rStr_put hs563241 n563260 ht398600 (by decide)
                                  have kp563272 : F563258 q398570 = F398569 q398570 := (n563260 q398570 (rn_ty htq398570 ht398600 (by decide))).trans kp563242
                                  have kp563273 : F563258 (γ 9 3) = F398569 (γ 9 3) := (n563260 (γ 9 3) (rn_ty ht398598 ht398600 (by decide))).trans kp563243
                                  obtain ⟨z563274, hz563274⟩ : ∃ z : Int32, z = g562868 + Int32.ofInt 1 := ⟨_, rfl⟩
                                  have ez563274 : z563274.toInt = g562868.toInt + 1 := gI_inc hz563274 (by decide) bg562868'' (by decide) (by decide)
                                  have bz563274 : gB z563274 1 1000000 := ⟨by omega, by omega⟩
                                  refine G_iinc (L' := [(5, .int z563274), (6, .ref q563147), (4, .ref q562322), (3, .int g562293), (2, .int g561151), (0, .ref q398570), (1, .ref q398571)]) z563274 1 dr_cX17_weigh_189 rfl hz563274.symm (Nat.le_of_ble_eq_true rfl) rfl ?_
                                  refine G_goto 74 dr_cX17_weigh_192 (by decide +kernel) ?_
                                  have hT563275 : RS D I P398568 F563258 γ el := RS_set hT563244 n563260 ht398600 (by decide) ⟨f563261, he563270⟩
                                  refine G_lv (L' := [(5, .int z563274), (4, .ref q562322), (3, .int g562293), (2, .int g561151), (0, .ref q398570), (1, .ref q398571)]) [0, 2, 3, 4, 5, 6] rfl ?_
                                  exact ih74_562873 F563258 z563274 (gB_w bz563274 (by decide) (by decide)) hT563275 hs563271 kp563272 kp563273 (mz_up ez563274 (Int.le_trans bg562868''.2 (by decide)) hm74_562873)
                            · have r563276 : o563176.toInt ≠ 0 := gj_neq hc563177 (show Int32.toInt 0 = 0 by decide)
                              have bo563176' : gB o563176 1 1 := gB_t1 bo563176 r563276
                              refine G_aload_n 5 dr_cX17_weigh_131 rfl ?_
                              refine Gp_get 5 hm562882 he562881 dr_cX17_weigh_132 (gk_X17 D I) (Nat.le_of_ble_eq_true rfl) wr_7_79 rfl ?_
                              refine G_aload 0 dr_cX17_weigh_135 rfl ?_
                              refine Gp_get 1 hm563157 he563158 dr_cX17_weigh_137 (gk_X15 D I) (Nat.le_of_ble_eq_true rfl) wr_9_178 rfl ?_
                              refine G_dup2_11 dr_cX17_weigh_140 rfl rfl ?_
                              have hm563277 : (γ 9 5) ∈ P398568 := RS_m hT562870 ht398600 (by decide)
                              obtain ⟨f563279, he563278⟩ := show rk_17 I (F562869 (γ 9 5)) from RS_o hT562870 ht398600
                              refine Gp_iald 0 hm563277 he563278 dr_cX17_weigh_141 rfl (gB_in bp563160 (by decide) (by decide)) (G_nam fun z563280 hz563280 => ?_)
                              have bz563280 : gB z563280 (-2147483648) 2147483647 := gB_any z563280
                              refine G_iload_n 3 dr_cX17_weigh_142 rfl ?_
                              refine G_iadd dr_cX17_weigh_143 (G_nam fun z563281 hz563281 => ?_)
                              have bz563281 : gB z563281 (-2147483648) 2147483647 := gB_any z563281
                              refine Gp_iast 0 hm563277 he563278 dr_cX17_weigh_144 rfl (gB_in bp563160 (by decide) (by decide)) (fun F563282 e563283 n563284 => ?_)
                              obtain ⟨f563285, hf563285⟩ : ∃ z, z = upd f563279 p563160.toNatClampNeg z563281 := ⟨_, rfl⟩
                              rw [← hf563285] at e563283
                              have he563286 : F563282 q398571 = .inr (18, [.ref q561164, .ref q561165, .int p561166, .int p561167]) := (n563284 q398571 (rn_oa he562876 he563278)).trans he562876
                              have he563287 : F563282 q561164 = .inr (4, [.int p562303, .ref q562305, .int p562304]) := (n563284 q561164 (rn_oa he562877 he563278)).trans he562877
                              have he563288 : F563282 q562305 = .inl (I (.object "java/lang/Object"), n562319, .inr (.inr (.inr (.inr f562320)))) := (n563284 q562305 (rn_ref_num he562878 he563278)).trans he562878
                              have he563289 : F563282 q562322 = .inr (17, [.ref q562331, .ref q562332, .int p562333, .int p562334]) := (n563284 q562322 (rn_oa he562879 he563278)).trans he562879
                              have he563290 : F563282 q398570 = .inr (22, [.ref (γ 9 0), .ref (γ 9 1), .ref (γ 9 2), .ref (γ 9 3), .ref (γ 9 4), .ref (γ 9 5), .ref (γ 9 6), .ref (γ 9 7), .ref (γ 9 8), .int p398578, .int p398579, .int p398580, .int p398581, .int p398582, .int p398583, .ref (γ 9 15), .ref (γ 9 16), .ref (γ 9 17), .ref (γ 9 18), .ref (γ 9 19), .ref (γ 9 20), .ref (γ 9 21), .ref (γ 9 22), .int p398584, .int p398585, .int p398586, .int p398587, .int p398588, .ref q398576, .ref (γ 9 29), .int p398589, .ref (γ 9 31), .int p398590, .int p398591, .int p398592, .ref q398577]) := (n563284 q398570 (rn_oa he562881 he563278)).trans he562881
                              have he563291 : F563282 q562331 = .inr (4, [.int p562885, .ref q562887, .int p562886]) := (n563284 q562331 (rn_oa he562884 he563278)).trans he562884
                              have he563292 : F563282 q562887 = .inl (I (.object "java/lang/Object"), n563144, .inr (.inr (.inr (.inr f563145)))) := (n563284 q562887 (rn_ref_num r563138 he563278)).trans r563138
                              have he563293 : F563282 q563147 = .inr (20, [.int p563159, .int p563160, .int p563161, .int p563162, .int p563163, .int p563164, .int p563165]) := (n563284 q563147 (rn_oa he563158 he563278)).trans he563158
                              have he563294 : F563282 (γ 9 5) = .inl (I .int, 2000, .inl f563285) := e563283
                              have hs563295 : rStr γ [] F398569 F563282 := rStr_put hs562871 n563284 ht398600 (by decide)
                              have kp563296 : F563282 q398570 = F398569 q398570 := (n563284 q398570 (rn_ty htq398570 ht398600 (by decide))).trans x562872
                              have kp563297 : F563282 (γ 9 3) = F398569 (γ 9 3) := (n563284 (γ 9 3) (rn_ty ht398598 ht398600 (by decide))).trans x562873
                              refine G_aload 0 dr_cX17_weigh_145 rfl ?_
                              have hT563298 : RS D I P398568 F563282 γ el := RS_set hT562870 n563284 ht398600 (by decide) ⟨f563285, he563294⟩
                              refine Gw_callV (As := []) (gV_ok D I) (cp_1669_Row_usesA l hl0 D I P398568 F563282 q563147 p563159 p563160 p563161 p563162 p563163 p563164 p563165 hm563157 he563293 bp563159 bp563160 bp563163 bp563164 bp563165) dr_cX17_weigh_147 ⟨wr_10_188, wr_1_39, wr_10_191, by decide, rfl, (Nat.le_of_ble_eq_true rfl), (Nat.le_of_ble_eq_true rfl)⟩ wr_10_189 wr_10_190 hm563157 he563293 rfl (show 0 + 0 ≤ 0 by first | omega | decide) (show 0 + 0 ≤ 0 by first | omega | decide) (Nat.le_of_ble_eq_true rfl) (fun r563302 w563303 dc563299 ds563300 hp563301 => ?_) (fun _ _ _ _ _ z => z.elim)
                              obtain ⟨o563304, rfl, rfl, hdc, hds, bo563304, x563305⟩ := hp563301
                              change G _ _ _ _ _ _ _ (.int o563304 :: _) _ _ _
                              refine G_widen (cs' := 0) (sl' := 0) (by omega) (by omega) ?_
                              refine G_if_eq 167 dr_cX17_weigh_150 (by decide +kernel) (fun hc563306 => ?_) (fun hc563306 => ?_)
                              · have r563307 : o563304.toInt = 0 := gj_eq hc563306 (show Int32.toInt 0 = 0 by decide)
                                have bo563304' : gB o563304 0 0 := gB_t0 r563307
                                refine G_aload 0 dr_cX17_weigh_167 rfl ?_
                                refine Gw_callV (As := []) (gV_ok D I) (cp_1693_Row_usesB l hl0 D I P398568 F563282 q563147 p563159 p563160 p563161 p563162 p563163 p563164 p563165 hm563157 he563293 bp563159 bp563160 bp563163 bp563164 bp563165) dr_cX17_weigh_169 ⟨wr_10_192, wr_1_39, wr_10_195, by decide, rfl, (Nat.le_of_ble_eq_true rfl), (Nat.le_of_ble_eq_true rfl)⟩ wr_10_193 wr_10_194 hm563157 he563293 rfl (show 0 + 0 ≤ 0 by first | omega | decide) (show 0 + 0 ≤ 0 by first | omega | decide) (Nat.le_of_ble_eq_true rfl) (fun r563311 w563312 dc563308 ds563309 hp563310 => ?_) (fun _ _ _ _ _ z => z.elim)
                                obtain ⟨o563313, rfl, rfl, hdc, hds, bo563313, x563314⟩ := hp563310
                                change G _ _ _ _ _ _ _ (.int o563313 :: _) _ _ _
                                refine G_widen (cs' := 0) (sl' := 0) (by omega) (by omega) ?_
                                refine G_if_eq 189 dr_cX17_weigh_172 (by decide +kernel) (fun hc563315 => ?_) (fun hc563315 => ?_)
                                · have r563316 : o563313.toInt = 0 := gj_eq hc563315 (show Int32.toInt 0 = 0 by decide)
                                  have bo563313' : gB o563313 0 0 := gB_t0 r563316
                                  obtain ⟨z563317, hz563317⟩ : ∃ z : Int32, z = g562868 + Int32.ofInt 1 := ⟨_, rfl⟩
                                  have ez563317 : z563317.toInt = g562868.toInt + 1 := gI_inc hz563317 (by decide) bg562868'' (by decide) (by decide)
                                  have bz563317 : gB z563317 1 1000000 := ⟨by omega, by omega⟩
                                  refine G_iinc (L' := [(5, .int z563317), (6, .ref q563147), (4, .ref q562322), (3, .int g562293), (2, .int g561151), (0, .ref q398570), (1, .ref q398571)]) z563317 1 dr_cX17_weigh_189 rfl hz563317.symm (Nat.le_of_ble_eq_true rfl) rfl ?_
                                  refine G_goto 74 dr_cX17_weigh_192 (by decide +kernel) ?_
                                  refine G_lv (L' := [(5, .int z563317), (4, .ref q562322), (3, .int g562293), (2, .int g561151), (0, .ref q398570), (1, .ref q398571)]) [0, 2, 3, 4, 5, 6] rfl ?_
                                  exact ih74_562873 F563282 z563317 (gB_w bz563317 (by decide) (by decide)) hT563298 hs563295 kp563296 kp563297 (mz_up ez563317 (Int.le_trans bg562868''.2 (by decide)) hm74_562873)
                                · have r563318 : o563313.toInt ≠ 0 := gj_neq hc563315 (show Int32.toInt 0 = 0 by decide)
                                  have bo563313' : gB o563313 1 1 := gB_t1 bo563313 r563318
                                  refine G_aload_n 5 dr_cX17_weigh_175 rfl ?_
                                  refine Gp_get 5 hm562882 he563290 dr_cX17_weigh_176 (gk_X17 D I) (Nat.le_of_ble_eq_true rfl) wr_7_79 rfl ?_
                                  refine G_aload 0 dr_cX17_weigh_179 rfl ?_
                                  refine Gp_get 3 hm563157 he563293 dr_cX17_weigh_181 (gk_X15 D I) (Nat.le_of_ble_eq_true rfl) wr_9_186 rfl ?_
                                  refine G_dup2_11 dr_cX17_weigh_184 rfl rfl ?_
                                  refine Gp_iald 0 hm563277 he563294 dr_cX17_weigh_185 rfl (gB_inr (by omega) (by omega)) (G_nam fun z563319 hz563319 => ?_)
                                  have bz563319 : gB z563319 (-2147483648) 2147483647 := gB_any z563319
                                  refine G_iload_n 3 dr_cX17_weigh_186 rfl ?_
                                  refine G_iadd dr_cX17_weigh_187 (G_nam fun z563320 hz563320 => ?_)
                                  have bz563320 : gB z563320 (-2147483648) 2147483647 := gB_any z563320
                                  refine Gp_iast 0 hm563277 he563294 dr_cX17_weigh_188 rfl (gB_inr (by omega) (by omega)) (fun F563321 e563322 n563323 => ?_)
                                  obtain ⟨f563324, hf563324⟩ : ∃ z, z = upd f563285 p563162.toNatClampNeg z563320 := ⟨_, rfl⟩
                                  rw [← hf563324] at e563322
                                  have he563325 : F563321 q398571 = .inr (18, [.ref q561164, .ref q561165, .int p561166, .int p561167]) := (n563323 q398571 (rn_oa he563286 he563294)).trans he563286
                                  have he563326 : F563321 q561164 = .inr (4, [.int p562303, .ref q562305, .int p562304]) := (n563323 q561164 (rn_oa he563287 he563294)).trans he563287
                                  have he563327 : F563321 q562305 = .inl (I (.object "java/lang/Object"), n562319, .inr (.inr (.inr (.inr f562320)))) := (n563323 q562305 (rn_ref_num he563288 he563294)).trans he563288
                                  have he563328 : F563321 q562322 = .inr (17, [.ref q562331, .ref q562332, .int p562333, .int p562334]) := (n563323 q562322 (rn_oa he563289 he563294)).trans he563289
                                  have he563329 : F563321 q398570 = .inr (22, [.ref (γ 9 0), .ref (γ 9 1), .ref (γ 9 2), .ref (γ 9 3), .ref (γ 9 4), .ref (γ 9 5), .ref (γ 9 6), .ref (γ 9 7), .ref (γ 9 8), .int p398578, .int p398579, .int p398580, .int p398581, .int p398582, .int p398583, .ref (γ 9 15), .ref (γ 9 16), .ref (γ 9 17), .ref (γ 9 18), .ref (γ 9 19), .ref (γ 9 20), .ref (γ 9 21), .ref (γ 9 22), .int p398584, .int p398585, .int p398586, .int p398587, .int p398588, .ref q398576, .ref (γ 9 29), .int p398589, .ref (γ 9 31), .int p398590, .int p398591, .int p398592, .ref q398577]) := (n563323 q398570 (rn_oa he563290 he563294)).trans he563290
                                  have he563330 : F563321 q562331 = .inr (4, [.int p562885, .ref q562887, .int p562886]) := (n563323 q562331 (rn_oa he563291 he563294)).trans he563291
                                  have he563331 : F563321 q562887 = .inl (I (.object "java/lang/Object"), n563144, .inr (.inr (.inr (.inr f563145)))) := (n563323 q562887 (rn_ref_num he563292 he563294)).trans he563292
                                  have he563332 : F563321 q563147 = .inr (20, [.int p563159, .int p563160, .int p563161, .int p563162, .int p563163, .int p563164, .int p563165]) := (n563323 q563147 (rn_oa he563293 he563294)).trans he563293
                                  have he563333 : F563321 (γ 9 5) = .inl (I .int, 2000, .inl f563324) := e563322
                                  have hs563334 : rStr γ [] F398569 F563321 := rStr_put hs563295 n563323 ht398600 (by decide)
                                  have kp563335 : F563321 q398570 = F398569 q398570 := (n563323 q398570 (rn_ty htq398570 ht398600 (by decide))).trans kp563296
                                  have kp563336 : F563321 (γ 9 3) = F398569 (γ 9 3) := (n563323 (γ 9 3) (rn_ty ht398598 ht398600 (by decide))).trans kp563297
                                  obtain ⟨z563337, hz563337⟩ : ∃ z : Int32, z = g562868 + Int32.ofInt 1 := ⟨_, rfl⟩
                                  have ez563337 : z563337.toInt = g562868.toInt + 1 := gI_inc hz563337 (by decide) bg562868'' (by decide) (by decide)
                                  have bz563337 : gB z563337 1 1000000 := ⟨by omega, by omega⟩
                                  refine G_iinc (L' := [(5, .int z563337), (6, .ref q563147), (4, .ref q562322), (3, .int g562293), (2, .int g561151), (0, .ref q398570), (1, .ref q398571)]) z563337 1 dr_cX17_weigh_189 rfl hz563337.symm (Nat.le_of_ble_eq_true rfl) rfl ?_
                                  refine G_goto 74 dr_cX17_weigh_192 (by decide +kernel) ?_
                                  have hT563338 : RS D I P398568 F563321 γ el := RS_set hT563298 n563323 ht398600 (by decide) ⟨f563324, he563333⟩
                                  refine G_lv (L' := [(5, .int z563337), (4, .ref q562322), (3, .int g562293), (2, .int g561151), (0, .ref q398570), (1, .ref q398571)]) [0, 2, 3, 4, 5, 6] rfl ?_
                                  exact ih74_562873 F563321 z563337 (gB_w bz563337 (by decide) (by decide)) hT563338 hs563334 kp563335 kp563336 (mz_up ez563337 (Int.le_trans bg562868''.2 (by decide)) hm74_562873)
                              · have r563339 : o563304.toInt ≠ 0 := gj_neq hc563306 (show Int32.toInt 0 = 0 by decide)
                                have bo563304' : gB o563304 1 1 := gB_t1 bo563304 r563339
                                refine G_aload_n 5 dr_cX17_weigh_153 rfl ?_
                                refine Gp_get 5 hm562882 he563290 dr_cX17_weigh_154 (gk_X17 D I) (Nat.le_of_ble_eq_true rfl) wr_7_79 rfl ?_
                                refine G_aload 0 dr_cX17_weigh_157 rfl ?_
                                refine Gp_get 2 hm563157 he563293 dr_cX17_weigh_159 (gk_X15 D I) (Nat.le_of_ble_eq_true rfl) wr_9_182 rfl ?_
                                refine G_dup2_11 dr_cX17_weigh_162 rfl rfl ?_
                                refine Gp_iald 0 hm563277 he563294 dr_cX17_weigh_163 rfl (gB_inr (by omega) (by omega)) (G_nam fun z563340 hz563340 => ?_)
                                have bz563340 : gB z563340 (-2147483648) 2147483647 := gB_any z563340
                                refine G_iload_n 3 dr_cX17_weigh_164 rfl ?_
                                refine G_iadd dr_cX17_weigh_165 (G_nam fun z563341 hz563341 => ?_)
                                have bz563341 : gB z563341 (-2147483648) 2147483647 := gB_any z563341
                                refine Gp_iast 0 hm563277 he563294 dr_cX17_weigh_166 rfl (gB_inr (by omega) (by omega)) (fun F563342 e563343 n563344 => ?_)
                                obtain ⟨f563345, hf563345⟩ : ∃ z, z = upd f563285 p563161.toNatClampNeg z563341 := ⟨_, rfl⟩
                                rw [← hf563345] at e563343
                                have he563346 : F563342 q398571 = .inr (18, [.ref q561164, .ref q561165, .int p561166, .int p561167]) := (n563344 q398571 (rn_oa he563286 he563294)).trans he563286
                                have he563347 : F563342 q561164 = .inr (4, [.int p562303, .ref q562305, .int p562304]) := (n563344 q561164 (rn_oa he563287 he563294)).trans he563287
                                have he563348 : F563342 q562305 = .inl (I (.object "java/lang/Object"), n562319, .inr (.inr (.inr (.inr f562320)))) := (n563344 q562305 (rn_ref_num he563288 he563294)).trans he563288
                                have he563349 : F563342 q562322 = .inr (17, [.ref q562331, .ref q562332, .int p562333, .int p562334]) := (n563344 q562322 (rn_oa he563289 he563294)).trans he563289
                                have he563350 : F563342 q398570 = .inr (22, [.ref (γ 9 0), .ref (γ 9 1), .ref (γ 9 2), .ref (γ 9 3), .ref (γ 9 4), .ref (γ 9 5), .ref (γ 9 6), .ref (γ 9 7), .ref (γ 9 8), .int p398578, .int p398579, .int p398580, .int p398581, .int p398582, .int p398583, .ref (γ 9 15), .ref (γ 9 16), .ref (γ 9 17), .ref (γ 9 18), .ref (γ 9 19), .ref (γ 9 20), .ref (γ 9 21), .ref (γ 9 22), .int p398584, .int p398585, .int p398586, .int p398587, .int p398588, .ref q398576, .ref (γ 9 29), .int p398589, .ref (γ 9 31), .int p398590, .int p398591, .int p398592, .ref q398577]) := (n563344 q398570 (rn_oa he563290 he563294)).trans he563290
                                have he563351 : F563342 q562331 = .inr (4, [.int p562885, .ref q562887, .int p562886]) := (n563344 q562331 (rn_oa he563291 he563294)).trans he563291
                                have he563352 : F563342 q562887 = .inl (I (.object "java/lang/Object"), n563144, .inr (.inr (.inr (.inr f563145)))) := (n563344 q562887 (rn_ref_num he563292 he563294)).trans he563292
                                have he563353 : F563342 q563147 = .inr (20, [.int p563159, .int p563160, .int p563161, .int p563162, .int p563163, .int p563164, .int p563165]) := (n563344 q563147 (rn_oa he563293 he563294)).trans he563293
                                have he563354 : F563342 (γ 9 5) = .inl (I .int, 2000, .inl f563345) := e563343
                                have hs563355 : rStr γ [] F398569 F563342 := rStr_put hs563295 n563344 ht398600 (by decide)
                                have kp563356 : F563342 q398570 = F398569 q398570 := (n563344 q398570 (rn_ty htq398570 ht398600 (by decide))).trans kp563296
                                have kp563357 : F563342 (γ 9 3) = F398569 (γ 9 3) := (n563344 (γ 9 3) (rn_ty ht398598 ht398600 (by decide))).trans kp563297
                                refine G_aload 0 dr_cX17_weigh_167 rfl ?_
                                have hT563358 : RS D I P398568 F563342 γ el := RS_set hT563298 n563344 ht398600 (by decide) ⟨f563345, he563354⟩
                                refine Gw_callV (As := []) (gV_ok D I) (cp_1693_Row_usesB l hl0 D I P398568 F563342 q563147 p563159 p563160 p563161 p563162 p563163 p563164 p563165 hm563157 he563353 bp563159 bp563160 bp563163 bp563164 bp563165) dr_cX17_weigh_169 ⟨wr_10_192, wr_1_39, wr_10_195, by decide, rfl, (Nat.le_of_ble_eq_true rfl), (Nat.le_of_ble_eq_true rfl)⟩ wr_10_193 wr_10_194 hm563157 he563353 rfl (show 0 + 0 ≤ 0 by first | omega | decide) (show 0 + 0 ≤ 0 by first | omega | decide) (Nat.le_of_ble_eq_true rfl) (fun r563362 w563363 dc563359 ds563360 hp563361 => ?_) (fun _ _ _ _ _ z => z.elim)
                                obtain ⟨o563364, rfl, rfl, hdc, hds, bo563364, x563365⟩ := hp563361
                                change G _ _ _ _ _ _ _ (.int o563364 :: _) _ _ _
                                refine G_widen (cs' := 0) (sl' := 0) (by omega) (by omega) ?_
                                refine G_if_eq 189 dr_cX17_weigh_172 (by decide +kernel) (fun hc563366 => ?_) (fun hc563366 => ?_)
                                · have r563367 : o563364.toInt = 0 := gj_eq hc563366 (show Int32.toInt 0 = 0 by decide)
                                  have bo563364' : gB o563364 0 0 := gB_t0 r563367
                                  obtain ⟨z563368, hz563368⟩ : ∃ z : Int32, z = g562868 + Int32.ofInt 1 := ⟨_, rfl⟩
                                  have ez563368 : z563368.toInt = g562868.toInt + 1 := gI_inc hz563368 (by decide) bg562868'' (by decide) (by decide)
                                  have bz563368 : gB z563368 1 1000000 := ⟨by omega, by omega⟩
                                  refine G_iinc (L' := [(5, .int z563368), (6, .ref q563147), (4, .ref q562322), (3, .int g562293), (2, .int g561151), (0, .ref q398570), (1, .ref q398571)]) z563368 1 dr_cX17_weigh_189 rfl hz563368.symm (Nat.le_of_ble_eq_true rfl) rfl ?_
                                  refine G_goto 74 dr_cX17_weigh_192 (by decide +kernel) ?_
                                  refine G_lv (L' := [(5, .int z563368), (4, .ref q562322), (3, .int g562293), (2, .int g561151), (0, .ref q398570), (1, .ref q398571)]) [0, 2, 3, 4, 5, 6] rfl ?_
                                  exact ih74_562873 F563342 z563368 (gB_w bz563368 (by decide) (by decide)) hT563358 hs563355 kp563356 kp563357 (mz_up ez563368 (Int.le_trans bg562868''.2 (by decide)) hm74_562873)
                                · have r563369 : o563364.toInt ≠ 0 := gj_neq hc563366 (show Int32.toInt 0 = 0 by decide)
                                  have bo563364' : gB o563364 1 1 := gB_t1 bo563364 r563369
                                  refine G_aload_n 5 dr_cX17_weigh_175 rfl ?_
                                  refine Gp_get 5 hm562882 he563350 dr_cX17_weigh_176 (gk_X17 D I) (Nat.le_of_ble_eq_true rfl) wr_7_79 rfl ?_
                                  refine G_aload 0 dr_cX17_weigh_179 rfl ?_
                                  refine Gp_get 3 hm563157 he563353 dr_cX17_weigh_181 (gk_X15 D I) (Nat.le_of_ble_eq_true rfl) wr_9_186 rfl ?_
                                  refine G_dup2_11 dr_cX17_weigh_184 rfl rfl ?_
                                  refine Gp_iald 0 hm563277 he563354 dr_cX17_weigh_185 rfl (gB_inr (by omega) (by omega)) (G_nam fun z563370 hz563370 => ?_)
                                  have bz563370 : gB z563370 (-2147483648) 2147483647 := gB_any z563370
                                  refine G_iload_n 3 dr_cX17_weigh_186 rfl ?_
                                  refine G_iadd dr_cX17_weigh_187 (G_nam fun z563371 hz563371 => ?_)
                                  have bz563371 : gB z563371 (-2147483648) 2147483647 := gB_any z563371
                                  refine Gp_iast 0 hm563277 he563354 dr_cX17_weigh_188 rfl (gB_inr (by omega) (by omega)) (fun F563372 e563373 n563374 => ?_)
                                  obtain ⟨f563375, hf563375⟩ : ∃ z, z = upd f563345 p563162.toNatClampNeg z563371 := ⟨_, rfl⟩
                                  rw [← hf563375] at e563373
                                  have he563376 : F563372 q398571 = .inr (18, [.ref q561164, .ref q561165, .int p561166, .int p561167]) := (n563374 q398571 (rn_oa he563346 he563354)).trans he563346
                                  have he563377 : F563372 q561164 = .inr (4, [.int p562303, .ref q562305, .int p562304]) := (n563374 q561164 (rn_oa he563347 he563354)).trans he563347
                                  have he563378 : F563372 q562305 = .inl (I (.object "java/lang/Object"), n562319, .inr (.inr (.inr (.inr f562320)))) := (n563374 q562305 (rn_ref_num he563348 he563354)).trans he563348
                                  have he563379 : F563372 q562322 = .inr (17, [.ref q562331, .ref q562332, .int p562333, .int p562334]) := (n563374 q562322 (rn_oa he563349 he563354)).trans he563349
                                  have he563380 : F563372 q398570 = .inr (22, [.ref (γ 9 0), .ref (γ 9 1), .ref (γ 9 2), .ref (γ 9 3), .ref (γ 9 4), .ref (γ 9 5), .ref (γ 9 6), .ref (γ 9 7), .ref (γ 9 8), .int p398578, .int p398579, .int p398580, .int p398581, .int p398582, .int p398583, .ref (γ 9 15), .ref (γ 9 16), .ref (γ 9 17), .ref (γ 9 18), .ref (γ 9 19), .ref (γ 9 20), .ref (γ 9 21), .ref (γ 9 22), .int p398584, .int p398585, .int p398586, .int p398587, .int p398588, .ref q398576, .ref (γ 9 29), .int p398589, .ref (γ 9 31), .int p398590, .int p398591, .int p398592, .ref q398577]) := (n563374 q398570 (rn_oa he563350 he563354)).trans he563350
                                  have he563381 : F563372 q562331 = .inr (4, [.int p562885, .ref q562887, .int p562886]) := (n563374 q562331 (rn_oa he563351 he563354)).trans he563351
                                  have he563382 : F563372 q562887 = .inl (I (.object "java/lang/Object"), n563144, .inr (.inr (.inr (.inr f563145)))) := (n563374 q562887 (rn_ref_num he563352 he563354)).trans he563352
                                  have he563383 : F563372 q563147 = .inr (20, [.int p563159, .int p563160, .int p563161, .int p563162, .int p563163, .int p563164, .int p563165]) := (n563374 q563147 (rn_oa he563353 he563354)).trans he563353
                                  have he563384 : F563372 (γ 9 5) = .inl (I .int, 2000, .inl f563375) := e563373
                                  have hs563385 : rStr γ [] F398569 F563372 := rStr_put hs563355 n563374 ht398600 (by decide)
                                  have kp563386 : F563372 q398570 = F398569 q398570 := (n563374 q398570 (rn_ty htq398570 ht398600 (by decide))).trans kp563356
                                  have kp563387 : F563372 (γ 9 3) = F398569 (γ 9 3) := (n563374 (γ 9 3) (rn_ty ht398598 ht398600 (by decide))).trans kp563357
                                  obtain ⟨z563388, hz563388⟩ : ∃ z : Int32, z = g562868 + Int32.ofInt 1 := ⟨_, rfl⟩
                                  have ez563388 : z563388.toInt = g562868.toInt + 1 := gI_inc hz563388 (by decide) bg562868'' (by decide) (by decide)
                                  have bz563388 : gB z563388 1 1000000 := ⟨by omega, by omega⟩
                                  refine G_iinc (L' := [(5, .int z563388), (6, .ref q563147), (4, .ref q562322), (3, .int g562293), (2, .int g561151), (0, .ref q398570), (1, .ref q398571)]) z563388 1 dr_cX17_weigh_189 rfl hz563388.symm (Nat.le_of_ble_eq_true rfl) rfl ?_
                                  refine G_goto 74 dr_cX17_weigh_192 (by decide +kernel) ?_
                                  have hT563389 : RS D I P398568 F563372 γ el := RS_set hT563358 n563374 ht398600 (by decide) ⟨f563375, he563384⟩
                                  refine G_lv (L' := [(5, .int z563388), (4, .ref q562322), (3, .int g562293), (2, .int g561151), (0, .ref q398570), (1, .ref q398571)]) [0, 2, 3, 4, 5, 6] rfl ?_
                                  exact ih74_562873 F563372 z563388 (gB_w bz563388 (by decide) (by decide)) hT563389 hs563385 kp563386 kp563387 (mz_up ez563388 (Int.le_trans bg562868''.2 (by decide)) hm74_562873)
                    exact hlp74_562873 (((1000002 : Int) - 0).toNat + 1) F561152 0 (gB_w (gBl (show Int32.toInt 0 = 0 by decide)) (by decide) (by decide)) hT561153 hs561154 x561155 x561156 (Nat.lt_succ_self _)
                  · have r563390 : g562292.toInt < z562298.toInt := gC_nle hc562299
                    have bg562292' : gB g562292 0 2147483646 := ⟨by omega, by omega⟩
                    have bz562298' : gB z562298 1 2147483647 := ⟨by omega, by omega⟩
                    refine G_iload_n 1 dr_cX17_weigh_53 rfl ?_
                    refine G_bipush 10 dr_cX17_weigh_54 (by decide +kernel) ?_
                    refine G_imul dr_cX17_weigh_56 (G_nam fun z563391 hz563391 => ?_)
                    have bz563391 : gB z563391 (-2147483648) 2147483647 := gB_any z563391
                    refine G_istore_n (L' := [(3, .int z563391), (4, .int g562292), (2, .int g561151), (0, .ref q398570), (1, .ref q398571)]) dr_cX17_weigh_57 (Nat.le_of_ble_eq_true rfl) rfl ?_
                    obtain ⟨z563392, hz563392⟩ : ∃ z : Int32, z = g562292 + Int32.ofInt 1 := ⟨_, rfl⟩
                    have ez563392 : z563392.toInt = g562292.toInt + 1 := gI_inc hz563392 (by decide) bg562292' (by decide) (by decide)
                    have bz563392 : gB z563392 1 2147483647 := ⟨by omega, by omega⟩
                    refine G_iinc (L' := [(4, .int z563392), (3, .int z563391), (2, .int g561151), (0, .ref q398570), (1, .ref q398571)]) z563392 1 dr_cX17_weigh_58 rfl hz563392.symm (Nat.le_of_ble_eq_true rfl) rfl ?_
                    refine G_goto 42 dr_cX17_weigh_61 (by decide +kernel) ?_
                    exact ih42_562293 z563392 z563391 (gB_w bz563392 (by decide) (by decide)) (mz_up ez563392 (Int.le_trans bg562292'.2 (by decide)) hm42_562293)
              exact hlp42_562293 (((2147483648 : Int) - 0).toNat + 1) 0 1 (gB_w (gBl (show Int32.toInt 0 = 0 by decide)) (by decide) (by decide)) (Nat.lt_succ_self _)
        exact hlp29_561156 (((1000001 : Int) - 0).toNat + 1) F558900 0 (gB_w (gBl (show Int32.toInt 0 = 0 by decide)) (by decide) (by decide)) hT558901 hs558902 x558903 x558904 (Nat.lt_succ_self _)
      · have r563393 : g558899.toInt < 2000 := gj_nleL hc558910 (show Int32.toInt 2000 = 2000 by decide)
        have bg558899' : gB g558899 0 1999 := ⟨by omega, by omega⟩
        refine G_aload_n 1 dr_cX17_weigh_14 rfl ?_
        refine Gp_get 5 hm558909 he558908 dr_cX17_weigh_15 (gk_X17 D I) (Nat.le_of_ble_eq_true rfl) wr_7_79 rfl ?_
        refine G_iload_n 0 dr_cX17_weigh_18 rfl ?_
        refine G_iconst 0 dr_cX17_weigh_19 (by decide +kernel) ?_
        have hm563394 : (γ 9 5) ∈ P398568 := RS_m hT558901 ht398600 (by decide)
        obtain ⟨f563396, he563395⟩ := show rk_17 I (F558900 (γ 9 5)) from RS_o hT558901 ht398600
        refine Gp_iast 0 hm563394 he563395 dr_cX17_weigh_20 rfl (gB_in bg558899' (by decide) (by decide)) (fun F563397 e563398 n563399 => ?_)
        obtain ⟨f563400, hf563400⟩ : ∃ z, z = upd f563396 g558899.toNatClampNeg 0 := ⟨_, rfl⟩
        rw [← hf563400] at e563398
        have he563401 : F563397 q398570 = .inr (22, [.ref (γ 9 0), .ref (γ 9 1), .ref (γ 9 2), .ref (γ 9 3), .ref (γ 9 4), .ref (γ 9 5), .ref (γ 9 6), .ref (γ 9 7), .ref (γ 9 8), .int p398578, .int p398579, .int p398580, .int p398581, .int p398582, .int p398583, .ref (γ 9 15), .ref (γ 9 16), .ref (γ 9 17), .ref (γ 9 18), .ref (γ 9 19), .ref (γ 9 20), .ref (γ 9 21), .ref (γ 9 22), .int p398584, .int p398585, .int p398586, .int p398587, .int p398588, .ref q398576, .ref (γ 9 29), .int p398589, .ref (γ 9 31), .int p398590, .int p398591, .int p398592, .ref q398577]) := (n563399 q398570 (rn_oa he558908 he563395)).trans he558908
        have he563402 : F563397 (γ 9 5) = .inl (I .int, 2000, .inl f563400) := e563398
        have hs563403 : rStr γ [] F398569 F563397 := rStr_put hs558902 n563399 ht398600 (by decide)
        have kp563404 : F563397 q398570 = F398569 q398570 := (n563399 q398570 (rn_ty htq398570 ht398600 (by decide))).trans x558903
        have kp563405 : F563397 (γ 9 3) = F398569 (γ 9 3) := (n563399 (γ 9 3) (rn_ty ht398598 ht398600 (by decide))).trans x558904
        obtain ⟨z563406, hz563406⟩ : ∃ z : Int32, z = g558899 + Int32.ofInt 1 := ⟨_, rfl⟩
        have ez563406 : z563406.toInt = g558899.toInt + 1 := gI_inc hz563406 (by decide) bg558899' (by decide) (by decide)
        have bz563406 : gB z563406 1 2000 := ⟨by omega, by omega⟩
        refine G_iinc (L' := [(2, .int z563406), (0, .ref q398570), (1, .ref q398571)]) z563406 0 dr_cX17_weigh_21 rfl hz563406.symm (Nat.le_of_ble_eq_true rfl) rfl ?_
        refine G_goto 7 dr_cX17_weigh_24 (by decide +kernel) ?_
        have hT563407 : RS D I P398568 F563397 γ el := RS_set hT558901 n563399 ht398600 (by decide) ⟨f563400, he563402⟩
        exact ih7_558904 F563397 z563406 (gB_w bz563406 (by decide) (by decide)) hT563407 hs563403 kp563404 kp563405 (mz_up ez563406 (Int.le_trans bg558899'.2 (by decide)) hm7_558904)
  exact hlp7_558904 (((2001 : Int) - 0).toNat + 1) F520224 0 (gB_w (gBl (show Int32.toInt 0 = 0 by decide)) (by decide) (by decide)) hT520225 hs520227 kp520228 kp520229 (Nat.lt_succ_self _)
