abbrev ky_336786_SpillForgeModel_next : gKey := (cX17_next, 7, "SpillForgeModel", (some FieldType.int), [], "next", fun _ _ => True)
def pt_336786_SpillForgeModel_next (D : va_G) (I : FieldType → ClassId) (γ el : Nat → Nat → Nat) (P336782 : List Nat) (F336783 : Nat → va_E) (q336784 : Nat) (p336785 : Int32) : Option Value → va_W → Nat → Nat → Prop := fun r w dc ds => ∃ (o337504 : Int32), r = some (.int o337504) ∧ w = va_pl P336782 F336783 ∧ dc ≤ 0 ∧ ds ≤ 0 ∧ gB o337504 (-1) 1999 ∧ (gIp (0 ≤ o337504.toInt) (rSd (cB (F336783 (γ 9 18))) (o337504.toInt : Int).toNat)) ∧ (gIp (o337504.toInt < 0) (∀ m : Nat, ¬ rSd (cB (F336783 (γ 9 18))) m)) ∧ tr_RModel_next D I γ el F336783 q336784 p336785 o337504
set_option maxRecDepth 100000 in
set_option maxHeartbeats 4000000 in
theorem ct_336786_SpillForgeModel_next (l : Launch) (hl0 : l.stackTraces = false) (D : va_G) (I : FieldType → ClassId) (γ el : Nat → Nat → Nat) (P336782 : List Nat) (F336783 : Nat → va_E) (q336784 : Nat) (p336785 : Int32) (hT : RS D I P336782 F336783 γ el) (htq336784 : rKd γ q336784 10) : CtA (gV D I) l yX17_next cX17_next 7 (some FieldType.int) 0 0 0 0 [.ref q336784, .int p336785] (va_pl P336782 F336783) (pt_336786_SpillForgeModel_next D I γ el P336782 F336783 q336784 p336785) gNA := by
  refine CtA_of hl0 (by decide) (Nat.le_of_ble_eq_true rfl) ?_
  have bp336785 := gB_any p336785
  have hm336787 : q336784 ∈ P336782 := RS_m hT htq336784 (by decide)
  obtain ⟨q336789, q336790, p336791, p336792, p336793, p336794, p336795, p336796, p336797, p336798, p336799, p336800, p336801, p336802, p336803, p336804, p336805, he336788, hB336832, ht336806, ht336807, ht336808, ht336809, ht336810, ht336811, ht336812, ht336813, ht336814, ht336815, ht336816, ht336817, ht336818, ht336819, ht336820, ht336821, ht336822, ht336823, ht336824, ht336825, ht336826, ht336827, ht336828, ht336829, hB336833⟩ := show rk_10 γ (F336783 q336784) from RS_o hT htq336784
  have hm336834 : (γ 9 18) ∈ P336782 := RS_m hT ht336820 (by decide)
  obtain ⟨f336836, he336835, bf336836⟩ := show rk_15 I (F336783 (γ 9 18)) from RS_o hT ht336820
  refine G_iconst 0 dr_cX17_next_0 (by decide +kernel) ?_
  refine G_istore_n (L' := [(2, .int 0), (0, .ref q336784), (1, .int p336785)]) dr_cX17_next_1 (Nat.le_of_ble_eq_true rfl) rfl ?_
  have hlp2_337291 : ∀ (n2_337291 : Nat) (g337291 : Int32), gB g337291 0 2000 → (∀ (k : Nat) (e1 : Int32), tl_RModel_next_2 D I γ el F336783 q336784 p336785 g337291 k e1 → tl_RModel_next_2 D I γ el F336783 q336784 p336785 (0 : Int32) k e1) → ((2001 : Int) - g337291.toInt).toNat < n2_337291 → G (gV D I) l (gRm 0 0 0 0) (gMA (gV D I) (pt_336786_SpillForgeModel_next D I γ el P336782 F336783 q336784 p336785) gNA 0 0) ky_336786_SpillForgeModel_next 2 [(2, .int g337291), (0, .ref q336784), (1, .int p336785)] [] (va_pl P336782 F336783) 0 0 := by
    intro n2_337291
    induction n2_337291 with
    | zero => intro g337291 bg337291 kt2_337292 hm2_337291; exact absurd hm2_337291 (Nat.not_lt_zero _)
    | succ n2_337291 ih2_337291 =>
      intro g337291 bg337291 kt2_337292 hm2_337291
      refine G_iload_n 0 dr_cX17_next_2 rfl ?_
      refine G_sipush 2000 dr_cX17_next_3 (by decide +kernel) ?_
      refine G_icmp_ge 36 dr_cX17_next_6 (by decide +kernel) (fun hc337293 => ?_) (fun hc337293 => ?_)
      · have r337294 : 2000 ≤ g337291.toInt := gj_leL hc337293 (show Int32.toInt 2000 = 2000 by decide)
        have bg337291' : gB g337291 2000 2000 := ⟨by omega, by omega⟩
        have hx337295 : tl_RModel_next_2 D I γ el F336783 q336784 p336785 (0 : Int32) 36 (0 : Int32) := kt2_337292 36 (0 : Int32) (fun R c1 c2 c3 c4 => c1 g337291 bg337291 r337294)
        refine G_iconst (-1) dr_cX17_next_36 (by decide +kernel) ?_
        refine G_istore_n (L' := [(2, .int (-1)), (0, .ref q336784), (1, .int p336785)]) dr_cX17_next_37 (Nat.le_of_ble_eq_true rfl) rfl ?_
        refine G_iconst 0 dr_cX17_next_38 (by decide +kernel) ?_
        refine G_istore_n (L' := [(3, .int 0), (2, .int (-1)), (0, .ref q336784), (1, .int p336785)]) dr_cX17_next_39 (Nat.le_of_ble_eq_true rfl) rfl ?_
        have hlp40_337389 : ∀ (n40_337389 : Nat) (g337386 : Int32) (g337387 : Int32), gB g337386 0 2000 → gB g337387 (-1) 1999 → (gIp (g337387.toInt < 0) (∀ m : Nat, (m : Int) < g337386.toInt → ¬ rSd (cB (F336783 (γ 9 18))) m)) → (gIp (0 ≤ g337387.toInt) (rSd (cB (F336783 (γ 9 18))) (g337387.toInt : Int).toNat)) → (∀ (k : Nat) (e1 : Int32), tl_RModel_next_40 D I γ el F336783 q336784 g337386 g337387 k e1 → tl_RModel_next_40 D I γ el F336783 q336784 (0 : Int32) (-1 : Int32) k e1) → ((2001 : Int) - g337386.toInt).toNat < n40_337389 → G (gV D I) l (gRm 0 0 0 0) (gMA (gV D I) (pt_336786_SpillForgeModel_next D I γ el P336782 F336783 q336784 p336785) gNA 0 0) ky_336786_SpillForgeModel_next 40 [(3, .int g337386), (2, .int g337387), (0, .ref q336784), (1, .int p336785)] [] (va_pl P336782 F336783) 0 0 := by
          intro n40_337389
          induction n40_337389 with
          | zero => intro g337386 g337387 bg337386 bg337387 x337388 x337389 kt40_337390 hm40_337389; exact absurd hm40_337389 (Nat.not_lt_zero _)
          | succ n40_337389 ih40_337389 =>
            intro g337386 g337387 bg337386 bg337387 x337388 x337389 kt40_337390 hm40_337389
            refine G_iload_n 0 dr_cX17_next_40 rfl ?_
            refine G_sipush 2000 dr_cX17_next_41 (by decide +kernel) ?_
            refine G_icmp_ge 171 dr_cX17_next_44 (by decide +kernel) (fun hc337391 => ?_) (fun hc337391 => ?_)
            · have r337392 : 2000 ≤ g337386.toInt := gj_leL hc337391 (show Int32.toInt 2000 = 2000 by decide)
              have bg337386' : gB g337386 2000 2000 := ⟨by omega, by omega⟩
              have hx337393 : tl_RModel_next_40 D I γ el F336783 q336784 (0 : Int32) (-1 : Int32) 171 g337387 := kt40_337390 171 g337387 (fun R c1 c2 c3 c4 c5 c6 c7 c8 c9 c10 => c1 g337386 g337387 bg337386 bg337387 x337388 x337389 r337392)
              refine G_iload_n 1 dr_cX17_next_171 rfl ?_
              exact G_iretA dr_cX17_next_172 rfl (Nat.le_of_ble_eq_true rfl) (Nat.le_of_ble_eq_true rfl) ⟨g337387, rfl, rfl, (Nat.le_of_ble_eq_true rfl), (Nat.le_of_ble_eq_true rfl), bg337387, x337389, (fun h m hm => x337388 h m (by have := hm.1; omega) hm), (fun R c1 c2 => c1 g337387 hx337295 hx337393)⟩
            · have r337394 : g337386.toInt < 2000 := gj_nleL hc337391 (show Int32.toInt 2000 = 2000 by decide)
              have bg337386' : gB g337386 0 1999 := ⟨by omega, by omega⟩
              refine G_aload_n 2 dr_cX17_next_47 rfl ?_
              have fq337395 : fR (F336783 q336784) 18 = (γ 9 18) := by rw [he336788]; rfl
              refine Gp_get 18 hm336787 he336788 dr_cX17_next_48 (gk_X17 D I) (Nat.le_of_ble_eq_true rfl) wr_7_92 rfl ?_
              refine G_iload_n 0 dr_cX17_next_51 rfl ?_
              refine Gp_zald 3 hm336834 he336835 dr_cX17_next_52 rfl (gB_in bg337386' (by decide) (by decide)) (G_nam fun z337396 hz337396 => ?_)
              have bz337396 : gB z337396 0 1 := by rw [hz337396]; exact bf336836 _
              refine G_if_ne 59 dr_cX17_next_53 (by decide +kernel) (fun hc337397 => ?_) (fun hc337397 => ?_)
              · have r337398 : z337396.toInt ≠ 0 := gj_neq hc337397 (show Int32.toInt 0 = 0 by decide)
                have bz337396' : gB z337396 1 1 := ⟨by omega, by omega⟩
                refine G_iload_n 1 dr_cX17_next_59 rfl ?_
                refine G_if_ge 68 dr_cX17_next_60 (by decide +kernel) (fun hc337399 => ?_) (fun hc337399 => ?_)
                · have r337400 : 0 ≤ g337387.toInt := gj_leL hc337399 (show Int32.toInt 0 = 0 by decide)
                  have bg337387' : gB g337387 0 1999 := ⟨by omega, by omega⟩
                  refine G_iload_n 0 dr_cX17_next_68 rfl ?_
                  refine G_bipush 100 dr_cX17_next_69 (by decide +kernel) ?_
                  refine G_icmp_lt 78 dr_cX17_next_71 (by decide +kernel) (fun hc337401 => ?_) (fun hc337401 => ?_)
                  · have r337402 : g337386.toInt < 100 := gj_lt hc337401 (show Int32.toInt 100 = 100 by decide)
                    have bg337386'' : gB g337386 0 99 := ⟨by omega, by omega⟩
                    refine G_iconst 0 dr_cX17_next_78 (by decide +kernel) ?_
                    refine G_istore (L' := [(4, .int 0), (3, .int g337386), (2, .int g337387), (0, .ref q336784), (1, .int p336785)]) dr_cX17_next_79 (Nat.le_of_ble_eq_true rfl) rfl ?_
                    refine G_iload_n 2 dr_cX17_next_81 rfl ?_
                    refine G_bipush 100 dr_cX17_next_82 (by decide +kernel) ?_
                    refine G_icmp_lt 91 dr_cX17_next_84 (by decide +kernel) (fun hc337403 => ?_) (fun hc337403 => ?_)
                    · have r337404 : g337387.toInt < 100 := gj_lt hc337403 (show Int32.toInt 100 = 100 by decide)
                      have bg337387'' : gB g337387 0 99 := ⟨by omega, by omega⟩
                      refine G_iconst 0 dr_cX17_next_91 (by decide +kernel) ?_
                      refine G_istore (L' := [(5, .int 0), (4, .int 0), (3, .int g337386), (2, .int g337387), (0, .ref q336784), (1, .int p336785)]) dr_cX17_next_92 (Nat.le_of_ble_eq_true rfl) rfl ?_
                      refine G_iload 1 dr_cX17_next_94 rfl ?_
                      refine G_if_eq 107 dr_cX17_next_96 (by decide +kernel) (fun _ => ?_) (fun hc => absurd hc (by decide))
                      refine G_aload_n 4 dr_cX17_next_107 rfl ?_
                      have fq337405 : fR (F336783 q336784) 5 = (γ 9 5) := by rw [he336788]; rfl
                      refine Gp_get 5 hm336787 he336788 dr_cX17_next_108 (gk_X17 D I) (Nat.le_of_ble_eq_true rfl) wr_7_79 rfl ?_
                      refine G_iload_n 2 dr_cX17_next_111 rfl ?_
                      have hm337406 : (γ 9 5) ∈ P336782 := RS_m hT ht336813 (by decide)
                      obtain ⟨f337408, he337407⟩ := show rk_17 I (F336783 (γ 9 5)) from RS_o hT ht336813
                      refine Gp_iald 0 hm337406 he337407 dr_cX17_next_112 rfl (gB_in bg337386'' (by decide) (by decide)) (G_nam fun z337409 hz337409 => ?_)
                      have bz337409 : gB z337409 (-2147483648) 2147483647 := gB_any z337409
                      refine G_i2l dr_cX17_next_113 (G_namL fun u337410 hu337410 => ?_)
                      refine G_aload_n 4 dr_cX17_next_114 rfl ?_
                      have fq337411 : fR (F336783 q336784) 16 = (γ 9 16) := by rw [he336788]; rfl
                      refine Gp_get 16 hm336787 he336788 dr_cX17_next_115 (gk_X17 D I) (Nat.le_of_ble_eq_true rfl) wr_7_90 rfl ?_
                      refine G_iload_n 3 dr_cX17_next_118 rfl ?_
                      have hm337412 : (γ 9 16) ∈ P336782 := RS_m hT ht336818 (by decide)
                      obtain ⟨f337414, he337413⟩ := show rk_19 I (F336783 (γ 9 16)) from RS_o hT ht336818
                      refine Gp_iald 0 hm337412 he337413 dr_cX17_next_119 rfl (gB_in bg337387'' (by decide) (by decide)) (G_nam fun z337415 hz337415 => ?_)
                      have bz337415 : gB z337415 (-2147483648) 2147483647 := gB_any z337415
                      refine G_i2l dr_cX17_next_120 (G_namL fun u337416 hu337416 => ?_)
                      refine G_lmul dr_cX17_next_121 (G_namL fun u337417 hu337417 => ?_)
                      refine G_aload_n 4 dr_cX17_next_122 rfl ?_
                      refine Gp_get 5 hm336787 he336788 dr_cX17_next_123 (gk_X17 D I) (Nat.le_of_ble_eq_true rfl) wr_7_79 rfl ?_
                      refine G_iload_n 3 dr_cX17_next_126 rfl ?_
                      refine Gp_iald 0 hm337406 he337407 dr_cX17_next_127 rfl (gB_in bg337387'' (by decide) (by decide)) (G_nam fun z337418 hz337418 => ?_)
                      have bz337418 : gB z337418 (-2147483648) 2147483647 := gB_any z337418
                      refine G_i2l dr_cX17_next_128 (G_namL fun u337419 hu337419 => ?_)
                      refine G_aload_n 4 dr_cX17_next_129 rfl ?_
                      refine Gp_get 16 hm336787 he336788 dr_cX17_next_130 (gk_X17 D I) (Nat.le_of_ble_eq_true rfl) wr_7_90 rfl ?_
                      refine G_iload_n 2 dr_cX17_next_133 rfl ?_
                      refine Gp_iald 0 hm337412 he337413 dr_cX17_next_134 rfl (gB_in bg337386'' (by decide) (by decide)) (G_nam fun z337420 hz337420 => ?_)
                      have bz337420 : gB z337420 (-2147483648) 2147483647 := gB_any z337420
                      refine G_i2l dr_cX17_next_135 (G_namL fun u337421 hu337421 => ?_)
                      refine G_lmul dr_cX17_next_136 (G_namL fun u337422 hu337422 => ?_)
                      refine G_lcmp dr_cX17_next_137 (G_nam fun z337423 hz337423 => ?_)
                      have bz337423 : gB z337423 (-1) 1 := gB_cmp hz337423
                      refine G_if_ge 145 dr_cX17_next_138 (by decide +kernel) (fun hc337424 => ?_) (fun hc337424 => ?_)
                      · have r337425 : 0 ≤ z337423.toInt := gj_leL hc337424 (show Int32.toInt 0 = 0 by decide)
                        have bz337423' : gB z337423 0 1 := ⟨by omega, by omega⟩
                        refine G_iconst 0 dr_cX17_next_145 (by decide +kernel) ?_
                        refine G_istore (L' := [(6, .int 0), (5, .int 0), (4, .int 0), (3, .int g337386), (2, .int g337387), (0, .ref q336784), (1, .int p336785)]) dr_cX17_next_146 (Nat.le_of_ble_eq_true rfl) rfl ?_
                        refine G_iload 2 dr_cX17_next_148 rfl ?_
                        refine G_if_ne 158 dr_cX17_next_150 (by decide +kernel) (fun hc => absurd hc (by decide)) (fun _ => ?_)
                        refine G_iload 1 dr_cX17_next_153 rfl ?_
                        refine G_if_ne 163 dr_cX17_next_155 (by decide +kernel) (fun hc => absurd hc (by decide)) (fun _ => ?_)
                        refine G_iload 0 dr_cX17_next_158 rfl ?_
                        refine G_if_eq 165 dr_cX17_next_160 (by decide +kernel) (fun _ => ?_) (fun hc => absurd hc (by decide))
                        obtain ⟨z337426, hz337426⟩ : ∃ z : Int32, z = g337386 + Int32.ofInt 1 := ⟨_, rfl⟩
                        have ez337426 : z337426.toInt = g337386.toInt + 1 := gI_inc hz337426 (by decide) bg337386'' (by decide) (by decide)
                        have bz337426 : gB z337426 1 100 := ⟨by omega, by omega⟩
                        refine G_iinc (L' := [(3, .int z337426), (6, .int 0), (5, .int 0), (4, .int 0), (2, .int g337387), (0, .ref q336784), (1, .int p336785)]) z337426 3 dr_cX17_next_165 rfl hz337426.symm (Nat.le_of_ble_eq_true rfl) rfl ?_
                        refine G_goto 40 dr_cX17_next_168 (by decide +kernel) ?_
                        refine G_lv (L' := [(3, .int z337426), (2, .int g337387), (0, .ref q336784), (1, .int p336785)]) [0, 4, 5, 6] rfl ?_
                        exact ih40_337389 z337426 g337387 (gB_w bz337426 (by decide) (by decide)) (gB_w bg337387'' (by decide) (by decide)) (by first | exact fun h => absurd h (by omega) | exact fun h => (by rw [ez337426]; rw [cB_of he336835]; have q := x337388; rw [cB_of he336835] at q; exact nx_0 (q h) hz337396 (by omega) rfl)) x337389 (fun k e1 ht => kt40_337390 k e1 (fun R c1 c2 c3 c4 c5 c6 c7 c8 c9 c10 => c2 g337386 g337387 f336836 z337396 f337408 z337409 u337410 f337414 z337415 u337416 u337417 z337418 u337419 z337420 u337421 u337422 z337423 z337426 k e1 bg337386 bg337387 x337388 x337389 r337394 fq337395 he336835 hz337396 bz337396 r337398 r337400 r337402 r337404 fq337405 he337407 hz337409 hu337410 fq337411 he337413 hz337415 hu337416 hu337417 hz337418 hu337419 hz337420 hu337421 hu337422 hz337423 r337425 ez337426 (ht R c1 c2 c3 c4 c5 c6 c7 c8 c9 c10))) (by omega)
                      · have r337427 : z337423.toInt < 0 := gj_nleL hc337424 (show Int32.toInt 0 = 0 by decide)
                        have bz337423' : gB z337423 (-1) (-1) := ⟨by omega, by omega⟩
                        have lhc337424 := gC_cmpS hz337423 (by omega)
                        refine G_iconst 1 dr_cX17_next_141 (by decide +kernel) ?_
                        refine G_goto 146 dr_cX17_next_142 (by decide +kernel) ?_
                        refine G_istore (L' := [(6, .int 1), (5, .int 0), (4, .int 0), (3, .int g337386), (2, .int g337387), (0, .ref q336784), (1, .int p336785)]) dr_cX17_next_146 (Nat.le_of_ble_eq_true rfl) rfl ?_
                        refine G_iload 2 dr_cX17_next_148 rfl ?_
                        refine G_if_ne 158 dr_cX17_next_150 (by decide +kernel) (fun hc => absurd hc (by decide)) (fun _ => ?_)
                        refine G_iload 1 dr_cX17_next_153 rfl ?_
                        refine G_if_ne 163 dr_cX17_next_155 (by decide +kernel) (fun hc => absurd hc (by decide)) (fun _ => ?_)
                        refine G_iload 0 dr_cX17_next_158 rfl ?_
                        refine G_if_eq 165 dr_cX17_next_160 (by decide +kernel) (fun hc => absurd hc (by decide)) (fun _ => ?_)
                        refine G_iload_n 3 dr_cX17_next_163 rfl ?_
                        refine G_istore_n (L' := [(2, .int g337386), (6, .int 1), (5, .int 0), (4, .int 0), (3, .int g337386), (0, .ref q336784), (1, .int p336785)]) dr_cX17_next_164 (Nat.le_of_ble_eq_true rfl) rfl ?_
                        obtain ⟨z337428, hz337428⟩ : ∃ z : Int32, z = g337386 + Int32.ofInt 1 := ⟨_, rfl⟩
                        have ez337428 : z337428.toInt = g337386.toInt + 1 := gI_inc hz337428 (by decide) bg337386'' (by decide) (by decide)
                        have bz337428 : gB z337428 1 100 := ⟨by omega, by omega⟩
                        refine G_iinc (L' := [(3, .int z337428), (2, .int g337386), (6, .int 1), (5, .int 0), (4, .int 0), (0, .ref q336784), (1, .int p336785)]) z337428 4 dr_cX17_next_165 rfl hz337428.symm (Nat.le_of_ble_eq_true rfl) rfl ?_
                        refine G_goto 40 dr_cX17_next_168 (by decide +kernel) ?_
                        refine G_lv (L' := [(3, .int z337428), (2, .int g337386), (0, .ref q336784), (1, .int p336785)]) [0, 1, 5, 6] rfl ?_
                        exact ih40_337389 z337428 g337386 (gB_w bz337428 (by decide) (by decide)) (gB_w bg337386'' (by decide) (by decide)) (by first | exact fun h => absurd h (by omega) | exact fun h => (by rw [ez337428]; rw [cB_of he336835]; have q := x337388; rw [cB_of he336835] at q; exact nx_0 (q h) hz337396 (by omega) rfl)) (fun _ => by rw [cB_of he336835]; exact sd_of hz337396 (by omega) (by omega) (by omega)) (fun k e1 ht => kt40_337390 k e1 (fun R c1 c2 c3 c4 c5 c6 c7 c8 c9 c10 => c3 g337386 g337387 f336836 z337396 f337408 z337409 u337410 f337414 z337415 u337416 u337417 z337418 u337419 z337420 u337421 u337422 z337423 z337428 k e1 bg337386 bg337387 x337388 x337389 r337394 fq337395 he336835 hz337396 bz337396 r337398 r337400 r337402 r337404 fq337405 he337407 hz337409 hu337410 fq337411 he337413 hz337415 hu337416 hu337417 hz337418 hu337419 hz337420 hu337421 hu337422 hz337423 r337427 ez337428 (ht R c1 c2 c3 c4 c5 c6 c7 c8 c9 c10))) (by omega)
                    · have r337429 : 100 ≤ g337387.toInt := gj_nlt hc337403 (show Int32.toInt 100 = 100 by decide)
                      have bg337387'' : gB g337387 100 1999 := ⟨by omega, by omega⟩
                      refine G_iconst 1 dr_cX17_next_87 (by decide +kernel) ?_
                      refine G_goto 92 dr_cX17_next_88 (by decide +kernel) ?_
                      refine G_istore (L' := [(5, .int 1), (4, .int 0), (3, .int g337386), (2, .int g337387), (0, .ref q336784), (1, .int p336785)]) dr_cX17_next_92 (Nat.le_of_ble_eq_true rfl) rfl ?_
                      refine G_iload 1 dr_cX17_next_94 rfl ?_
                      refine G_if_eq 107 dr_cX17_next_96 (by decide +kernel) (fun _ => ?_) (fun hc => absurd hc (by decide))
                      refine G_aload_n 4 dr_cX17_next_107 rfl ?_
                      have fq337430 : fR (F336783 q336784) 5 = (γ 9 5) := by rw [he336788]; rfl
                      refine Gp_get 5 hm336787 he336788 dr_cX17_next_108 (gk_X17 D I) (Nat.le_of_ble_eq_true rfl) wr_7_79 rfl ?_
                      refine G_iload_n 2 dr_cX17_next_111 rfl ?_
                      have hm337431 : (γ 9 5) ∈ P336782 := RS_m hT ht336813 (by decide)
                      obtain ⟨f337433, he337432⟩ := show rk_17 I (F336783 (γ 9 5)) from RS_o hT ht336813
                      refine Gp_iald 0 hm337431 he337432 dr_cX17_next_112 rfl (gB_in bg337386'' (by decide) (by decide)) (G_nam fun z337434 hz337434 => ?_)
                      have bz337434 : gB z337434 (-2147483648) 2147483647 := gB_any z337434
                      refine G_i2l dr_cX17_next_113 (G_namL fun u337435 hu337435 => ?_)
                      refine G_aload_n 4 dr_cX17_next_114 rfl ?_
                      have fq337436 : fR (F336783 q336784) 16 = (γ 9 16) := by rw [he336788]; rfl
                      refine Gp_get 16 hm336787 he336788 dr_cX17_next_115 (gk_X17 D I) (Nat.le_of_ble_eq_true rfl) wr_7_90 rfl ?_
                      refine G_iload_n 3 dr_cX17_next_118 rfl ?_
                      have hm337437 : (γ 9 16) ∈ P336782 := RS_m hT ht336818 (by decide)
                      obtain ⟨f337439, he337438⟩ := show rk_19 I (F336783 (γ 9 16)) from RS_o hT ht336818
                      refine Gp_iald 0 hm337437 he337438 dr_cX17_next_119 rfl (gB_in bg337387'' (by decide) (by decide)) (G_nam fun z337440 hz337440 => ?_)
                      have bz337440 : gB z337440 (-2147483648) 2147483647 := gB_any z337440
                      refine G_i2l dr_cX17_next_120 (G_namL fun u337441 hu337441 => ?_)
                      refine G_lmul dr_cX17_next_121 (G_namL fun u337442 hu337442 => ?_)
                      refine G_aload_n 4 dr_cX17_next_122 rfl ?_
                      refine Gp_get 5 hm336787 he336788 dr_cX17_next_123 (gk_X17 D I) (Nat.le_of_ble_eq_true rfl) wr_7_79 rfl ?_
                      refine G_iload_n 3 dr_cX17_next_126 rfl ?_
                      refine Gp_iald 0 hm337431 he337432 dr_cX17_next_127 rfl (gB_in bg337387'' (by decide) (by decide)) (G_nam fun z337443 hz337443 => ?_)
                      have bz337443 : gB z337443 (-2147483648) 2147483647 := gB_any z337443
                      refine G_i2l dr_cX17_next_128 (G_namL fun u337444 hu337444 => ?_)
                      refine G_aload_n 4 dr_cX17_next_129 rfl ?_
                      refine Gp_get 16 hm336787 he336788 dr_cX17_next_130 (gk_X17 D I) (Nat.le_of_ble_eq_true rfl) wr_7_90 rfl ?_
                      refine G_iload_n 2 dr_cX17_next_133 rfl ?_
                      refine Gp_iald 0 hm337437 he337438 dr_cX17_next_134 rfl (gB_in bg337386'' (by decide) (by decide)) (G_nam fun z337445 hz337445 => ?_)
                      have bz337445 : gB z337445 (-2147483648) 2147483647 := gB_any z337445
                      refine G_i2l dr_cX17_next_135 (G_namL fun u337446 hu337446 => ?_)
                      refine G_lmul dr_cX17_next_136 (G_namL fun u337447 hu337447 => ?_)
                      refine G_lcmp dr_cX17_next_137 (G_nam fun z337448 hz337448 => ?_)
                      have bz337448 : gB z337448 (-1) 1 := gB_cmp hz337448
                      refine G_if_ge 145 dr_cX17_next_138 (by decide +kernel) (fun hc337449 => ?_) (fun hc337449 => ?_)
                      · have r337450 : 0 ≤ z337448.toInt := gj_leL hc337449 (show Int32.toInt 0 = 0 by decide)
                        have bz337448' : gB z337448 0 1 := ⟨by omega, by omega⟩
                        refine G_iconst 0 dr_cX17_next_145 (by decide +kernel) ?_
                        refine G_istore (L' := [(6, .int 0), (5, .int 1), (4, .int 0), (3, .int g337386), (2, .int g337387), (0, .ref q336784), (1, .int p336785)]) dr_cX17_next_146 (Nat.le_of_ble_eq_true rfl) rfl ?_
                        refine G_iload 2 dr_cX17_next_148 rfl ?_
                        refine G_if_ne 158 dr_cX17_next_150 (by decide +kernel) (fun hc => absurd hc (by decide)) (fun _ => ?_)
                        refine G_iload 1 dr_cX17_next_153 rfl ?_
                        refine G_if_ne 163 dr_cX17_next_155 (by decide +kernel) (fun _ => ?_) (fun hc => absurd hc (by decide))
                        refine G_iload_n 3 dr_cX17_next_163 rfl ?_
                        refine G_istore_n (L' := [(2, .int g337386), (6, .int 0), (5, .int 1), (4, .int 0), (3, .int g337386), (0, .ref q336784), (1, .int p336785)]) dr_cX17_next_164 (Nat.le_of_ble_eq_true rfl) rfl ?_
                        obtain ⟨z337451, hz337451⟩ : ∃ z : Int32, z = g337386 + Int32.ofInt 1 := ⟨_, rfl⟩
                        have ez337451 : z337451.toInt = g337386.toInt + 1 := gI_inc hz337451 (by decide) bg337386'' (by decide) (by decide)
                        have bz337451 : gB z337451 1 100 := ⟨by omega, by omega⟩
                        refine G_iinc (L' := [(3, .int z337451), (2, .int g337386), (6, .int 0), (5, .int 1), (4, .int 0), (0, .ref q336784), (1, .int p336785)]) z337451 4 dr_cX17_next_165 rfl hz337451.symm (Nat.le_of_ble_eq_true rfl) rfl ?_
                        refine G_goto 40 dr_cX17_next_168 (by decide +kernel) ?_
                        refine G_lv (L' := [(3, .int z337451), (2, .int g337386), (0, .ref q336784), (1, .int p336785)]) [0, 1, 5, 6] rfl ?_
                        exact ih40_337389 z337451 g337386 (gB_w bz337451 (by decide) (by decide)) (gB_w bg337386'' (by decide) (by decide)) (by first | exact fun h => absurd h (by omega) | exact fun h => (by rw [ez337451]; rw [cB_of he336835]; have q := x337388; rw [cB_of he336835] at q; exact nx_0 (q h) hz337396 (by omega) rfl)) (fun _ => by rw [cB_of he336835]; exact sd_of hz337396 (by omega) (by omega) (by omega)) (fun k e1 ht => kt40_337390 k e1 (fun R c1 c2 c3 c4 c5 c6 c7 c8 c9 c10 => c4 g337386 g337387 f336836 z337396 f337433 z337434 u337435 f337439 z337440 u337441 u337442 z337443 u337444 z337445 u337446 u337447 z337448 z337451 k e1 bg337386 bg337387 x337388 x337389 r337394 fq337395 he336835 hz337396 bz337396 r337398 r337400 r337402 r337429 fq337430 he337432 hz337434 hu337435 fq337436 he337438 hz337440 hu337441 hu337442 hz337443 hu337444 hz337445 hu337446 hu337447 hz337448 r337450 ez337451 (ht R c1 c2 c3 c4 c5 c6 c7 c8 c9 c10))) (by omega)
                      · have r337452 : z337448.toInt < 0 := gj_nleL hc337449 (show Int32.toInt 0 = 0 by decide)
                        have bz337448' : gB z337448 (-1) (-1) := ⟨by omega, by omega⟩
                        have lhc337449 := gC_cmpS hz337448 (by omega)
                        refine G_iconst 1 dr_cX17_next_141 (by decide +kernel) ?_
                        refine G_goto 146 dr_cX17_next_142 (by decide +kernel) ?_
                        refine G_istore (L' := [(6, .int 1), (5, .int 1), (4, .int 0), (3, .int g337386), (2, .int g337387), (0, .ref q336784), (1, .int p336785)]) dr_cX17_next_146 (Nat.le_of_ble_eq_true rfl) rfl ?_
                        refine G_iload 2 dr_cX17_next_148 rfl ?_
                        refine G_if_ne 158 dr_cX17_next_150 (by decide +kernel) (fun hc => absurd hc (by decide)) (fun _ => ?_)
                        refine G_iload 1 dr_cX17_next_153 rfl ?_
                        refine G_if_ne 163 dr_cX17_next_155 (by decide +kernel) (fun _ => ?_) (fun hc => absurd hc (by decide))
                        refine G_iload_n 3 dr_cX17_next_163 rfl ?_
                        refine G_istore_n (L' := [(2, .int g337386), (6, .int 1), (5, .int 1), (4, .int 0), (3, .int g337386), (0, .ref q336784), (1, .int p336785)]) dr_cX17_next_164 (Nat.le_of_ble_eq_true rfl) rfl ?_
                        obtain ⟨z337453, hz337453⟩ : ∃ z : Int32, z = g337386 + Int32.ofInt 1 := ⟨_, rfl⟩
                        have ez337453 : z337453.toInt = g337386.toInt + 1 := gI_inc hz337453 (by decide) bg337386'' (by decide) (by decide)
                        have bz337453 : gB z337453 1 100 := ⟨by omega, by omega⟩
                        refine G_iinc (L' := [(3, .int z337453), (2, .int g337386), (6, .int 1), (5, .int 1), (4, .int 0), (0, .ref q336784), (1, .int p336785)]) z337453 4 dr_cX17_next_165 rfl hz337453.symm (Nat.le_of_ble_eq_true rfl) rfl ?_
                        refine G_goto 40 dr_cX17_next_168 (by decide +kernel) ?_
                        refine G_lv (L' := [(3, .int z337453), (2, .int g337386), (0, .ref q336784), (1, .int p336785)]) [0, 1, 5, 6] rfl ?_
                        exact ih40_337389 z337453 g337386 (gB_w bz337453 (by decide) (by decide)) (gB_w bg337386'' (by decide) (by decide)) (by first | exact fun h => absurd h (by omega) | exact fun h => (by rw [ez337453]; rw [cB_of he336835]; have q := x337388; rw [cB_of he336835] at q; exact nx_0 (q h) hz337396 (by omega) rfl)) (fun _ => by rw [cB_of he336835]; exact sd_of hz337396 (by omega) (by omega) (by omega)) (fun k e1 ht => kt40_337390 k e1 (fun R c1 c2 c3 c4 c5 c6 c7 c8 c9 c10 => c5 g337386 g337387 f336836 z337396 f337433 z337434 u337435 f337439 z337440 u337441 u337442 z337443 u337444 z337445 u337446 u337447 z337448 z337453 k e1 bg337386 bg337387 x337388 x337389 r337394 fq337395 he336835 hz337396 bz337396 r337398 r337400 r337402 r337429 fq337430 he337432 hz337434 hu337435 fq337436 he337438 hz337440 hu337441 hu337442 hz337443 hu337444 hz337445 hu337446 hu337447 hz337448 r337452 ez337453 (ht R c1 c2 c3 c4 c5 c6 c7 c8 c9 c10))) (by omega)
                  · have r337454 : 100 ≤ g337386.toInt := gj_nlt hc337401 (show Int32.toInt 100 = 100 by decide)
                    have bg337386'' : gB g337386 100 1999 := ⟨by omega, by omega⟩
                    refine G_iconst 1 dr_cX17_next_74 (by decide +kernel) ?_
                    refine G_goto 79 dr_cX17_next_75 (by decide +kernel) ?_
                    refine G_istore (L' := [(4, .int 1), (3, .int g337386), (2, .int g337387), (0, .ref q336784), (1, .int p336785)]) dr_cX17_next_79 (Nat.le_of_ble_eq_true rfl) rfl ?_
                    refine G_iload_n 2 dr_cX17_next_81 rfl ?_
                    refine G_bipush 100 dr_cX17_next_82 (by decide +kernel) ?_
                    refine G_icmp_lt 91 dr_cX17_next_84 (by decide +kernel) (fun hc337455 => ?_) (fun hc337455 => ?_)
                    · have r337456 : g337387.toInt < 100 := gj_lt hc337455 (show Int32.toInt 100 = 100 by decide)
                      have bg337387'' : gB g337387 0 99 := ⟨by omega, by omega⟩
                      refine G_iconst 0 dr_cX17_next_91 (by decide +kernel) ?_
                      refine G_istore (L' := [(5, .int 0), (4, .int 1), (3, .int g337386), (2, .int g337387), (0, .ref q336784), (1, .int p336785)]) dr_cX17_next_92 (Nat.le_of_ble_eq_true rfl) rfl ?_
                      refine G_iload 1 dr_cX17_next_94 rfl ?_
                      refine G_if_eq 107 dr_cX17_next_96 (by decide +kernel) (fun hc => absurd hc (by decide)) (fun _ => ?_)
                      refine G_iload 0 dr_cX17_next_99 rfl ?_
                      refine G_if_ne 107 dr_cX17_next_101 (by decide +kernel) (fun hc => absurd hc (by decide)) (fun _ => ?_)
                      refine G_goto 165 dr_cX17_next_104 (by decide +kernel) ?_
                      obtain ⟨z337457, hz337457⟩ : ∃ z : Int32, z = g337386 + Int32.ofInt 1 := ⟨_, rfl⟩
                      have ez337457 : z337457.toInt = g337386.toInt + 1 := gI_inc hz337457 (by decide) bg337386'' (by decide) (by decide)
                      have bz337457 : gB z337457 101 2000 := ⟨by omega, by omega⟩
                      refine G_iinc (L' := [(3, .int z337457), (5, .int 0), (4, .int 1), (2, .int g337387), (0, .ref q336784), (1, .int p336785)]) z337457 2 dr_cX17_next_165 rfl hz337457.symm (Nat.le_of_ble_eq_true rfl) rfl ?_
                      refine G_goto 40 dr_cX17_next_168 (by decide +kernel) ?_
                      refine G_lv (L' := [(3, .int z337457), (2, .int g337387), (0, .ref q336784), (1, .int p336785)]) [0, 3, 4, 5] rfl ?_
                      exact ih40_337389 z337457 g337387 (gB_w bz337457 (by decide) (by decide)) (gB_w bg337387'' (by decide) (by decide)) (by first | exact fun h => absurd h (by omega) | exact fun h => (by rw [ez337457]; rw [cB_of he336835]; have q := x337388; rw [cB_of he336835] at q; exact nx_0 (q h) hz337396 (by omega) rfl)) x337389 (fun k e1 ht => kt40_337390 k e1 (fun R c1 c2 c3 c4 c5 c6 c7 c8 c9 c10 => c6 g337386 g337387 f336836 z337396 z337457 k e1 bg337386 bg337387 x337388 x337389 r337394 fq337395 he336835 hz337396 bz337396 r337398 r337400 r337454 r337456 ez337457 (ht R c1 c2 c3 c4 c5 c6 c7 c8 c9 c10))) (by omega)
                    · have r337458 : 100 ≤ g337387.toInt := gj_nlt hc337455 (show Int32.toInt 100 = 100 by decide)
                      have bg337387'' : gB g337387 100 1999 := ⟨by omega, by omega⟩
                      refine G_iconst 1 dr_cX17_next_87 (by decide +kernel) ?_
                      refine G_goto 92 dr_cX17_next_88 (by decide +kernel) ?_
                      refine G_istore (L' := [(5, .int 1), (4, .int 1), (3, .int g337386), (2, .int g337387), (0, .ref q336784), (1, .int p336785)]) dr_cX17_next_92 (Nat.le_of_ble_eq_true rfl) rfl ?_
                      refine G_iload 1 dr_cX17_next_94 rfl ?_
                      refine G_if_eq 107 dr_cX17_next_96 (by decide +kernel) (fun hc => absurd hc (by decide)) (fun _ => ?_)
                      refine G_iload 0 dr_cX17_next_99 rfl ?_
                      refine G_if_ne 107 dr_cX17_next_101 (by decide +kernel) (fun _ => ?_) (fun hc => absurd hc (by decide))
                      refine G_aload_n 4 dr_cX17_next_107 rfl ?_
                      have fq337459 : fR (F336783 q336784) 5 = (γ 9 5) := by rw [he336788]; rfl
                      refine Gp_get 5 hm336787 he336788 dr_cX17_next_108 (gk_X17 D I) (Nat.le_of_ble_eq_true rfl) wr_7_79 rfl ?_
                      refine G_iload_n 2 dr_cX17_next_111 rfl ?_
                      have hm337460 : (γ 9 5) ∈ P336782 := RS_m hT ht336813 (by decide)
                      obtain ⟨f337462, he337461⟩ := show rk_17 I (F336783 (γ 9 5)) from RS_o hT ht336813
                      refine Gp_iald 0 hm337460 he337461 dr_cX17_next_112 rfl (gB_in bg337386'' (by decide) (by decide)) (G_nam fun z337463 hz337463 => ?_)
                      have bz337463 : gB z337463 (-2147483648) 2147483647 := gB_any z337463
                      refine G_i2l dr_cX17_next_113 (G_namL fun u337464 hu337464 => ?_)
                      refine G_aload_n 4 dr_cX17_next_114 rfl ?_
                      have fq337465 : fR (F336783 q336784) 16 = (γ 9 16) := by rw [he336788]; rfl
                      refine Gp_get 16 hm336787 he336788 dr_cX17_next_115 (gk_X17 D I) (Nat.le_of_ble_eq_true rfl) wr_7_90 rfl ?_
                      refine G_iload_n 3 dr_cX17_next_118 rfl ?_
                      have hm337466 : (γ 9 16) ∈ P336782 := RS_m hT ht336818 (by decide)
                      obtain ⟨f337468, he337467⟩ := show rk_19 I (F336783 (γ 9 16)) from RS_o hT ht336818
                      refine Gp_iald 0 hm337466 he337467 dr_cX17_next_119 rfl (gB_in bg337387'' (by decide) (by decide)) (G_nam fun z337469 hz337469 => ?_)
                      have bz337469 : gB z337469 (-2147483648) 2147483647 := gB_any z337469
                      refine G_i2l dr_cX17_next_120 (G_namL fun u337470 hu337470 => ?_)
                      refine G_lmul dr_cX17_next_121 (G_namL fun u337471 hu337471 => ?_)
                      refine G_aload_n 4 dr_cX17_next_122 rfl ?_
                      refine Gp_get 5 hm336787 he336788 dr_cX17_next_123 (gk_X17 D I) (Nat.le_of_ble_eq_true rfl) wr_7_79 rfl ?_
                      refine G_iload_n 3 dr_cX17_next_126 rfl ?_
                      refine Gp_iald 0 hm337460 he337461 dr_cX17_next_127 rfl (gB_in bg337387'' (by decide) (by decide)) (G_nam fun z337472 hz337472 => ?_)
                      have bz337472 : gB z337472 (-2147483648) 2147483647 := gB_any z337472
                      refine G_i2l dr_cX17_next_128 (G_namL fun u337473 hu337473 => ?_)
                      refine G_aload_n 4 dr_cX17_next_129 rfl ?_
                      refine Gp_get 16 hm336787 he336788 dr_cX17_next_130 (gk_X17 D I) (Nat.le_of_ble_eq_true rfl) wr_7_90 rfl ?_
                      refine G_iload_n 2 dr_cX17_next_133 rfl ?_
                      refine Gp_iald 0 hm337466 he337467 dr_cX17_next_134 rfl (gB_in bg337386'' (by decide) (by decide)) (G_nam fun z337474 hz337474 => ?_)
                      have bz337474 : gB z337474 (-2147483648) 2147483647 := gB_any z337474
                      refine G_i2l dr_cX17_next_135 (G_namL fun u337475 hu337475 => ?_)
                      refine G_lmul dr_cX17_next_136 (G_namL fun u337476 hu337476 => ?_)
                      refine G_lcmp dr_cX17_next_137 (G_nam fun z337477 hz337477 => ?_)
                      have bz337477 : gB z337477 (-1) 1 := gB_cmp hz337477
                      refine G_if_ge 145 dr_cX17_next_138 (by decide +kernel) (fun hc337478 => ?_) (fun hc337478 => ?_)
                      · have r337479 : 0 ≤ z337477.toInt := gj_leL hc337478 (show Int32.toInt 0 = 0 by decide)
                        have bz337477' : gB z337477 0 1 := ⟨by omega, by omega⟩
                        refine G_iconst 0 dr_cX17_next_145 (by decide +kernel) ?_
                        refine G_istore (L' := [(6, .int 0), (5, .int 1), (4, .int 1), (3, .int g337386), (2, .int g337387), (0, .ref q336784), (1, .int p336785)]) dr_cX17_next_146 (Nat.le_of_ble_eq_true rfl) rfl ?_
                        refine G_iload 2 dr_cX17_next_148 rfl ?_
                        refine G_if_ne 158 dr_cX17_next_150 (by decide +kernel) (fun _ => ?_) (fun hc => absurd hc (by decide))
                        refine G_iload 0 dr_cX17_next_158 rfl ?_
                        refine G_if_eq 165 dr_cX17_next_160 (by decide +kernel) (fun _ => ?_) (fun hc => absurd hc (by decide))
                        obtain ⟨z337480, hz337480⟩ : ∃ z : Int32, z = g337386 + Int32.ofInt 1 := ⟨_, rfl⟩
                        have ez337480 : z337480.toInt = g337386.toInt + 1 := gI_inc hz337480 (by decide) bg337386'' (by decide) (by decide)
                        have bz337480 : gB z337480 101 2000 := ⟨by omega, by omega⟩
                        refine G_iinc (L' := [(3, .int z337480), (6, .int 0), (5, .int 1), (4, .int 1), (2, .int g337387), (0, .ref q336784), (1, .int p336785)]) z337480 3 dr_cX17_next_165 rfl hz337480.symm (Nat.le_of_ble_eq_true rfl) rfl ?_
                        refine G_goto 40 dr_cX17_next_168 (by decide +kernel) ?_
                        refine G_lv (L' := [(3, .int z337480), (2, .int g337387), (0, .ref q336784), (1, .int p336785)]) [0, 4, 5, 6] rfl ?_
                        exact ih40_337389 z337480 g337387 (gB_w bz337480 (by decide) (by decide)) (gB_w bg337387'' (by decide) (by decide)) (by first | exact fun h => absurd h (by omega) | exact fun h => (by rw [ez337480]; rw [cB_of he336835]; have q := x337388; rw [cB_of he336835] at q; exact nx_0 (q h) hz337396 (by omega) rfl)) x337389 (fun k e1 ht => kt40_337390 k e1 (fun R c1 c2 c3 c4 c5 c6 c7 c8 c9 c10 => c7 g337386 g337387 f336836 z337396 f337462 z337463 u337464 f337468 z337469 u337470 u337471 z337472 u337473 z337474 u337475 u337476 z337477 z337480 k e1 bg337386 bg337387 x337388 x337389 r337394 fq337395 he336835 hz337396 bz337396 r337398 r337400 r337454 r337458 fq337459 he337461 hz337463 hu337464 fq337465 he337467 hz337469 hu337470 hu337471 hz337472 hu337473 hz337474 hu337475 hu337476 hz337477 r337479 ez337480 (ht R c1 c2 c3 c4 c5 c6 c7 c8 c9 c10))) (by omega)
                      · have r337481 : z337477.toInt < 0 := gj_nleL hc337478 (show Int32.toInt 0 = 0 by decide)
                        have bz337477' : gB z337477 (-1) (-1) := ⟨by omega, by omega⟩
                        have lhc337478 := gC_cmpS hz337477 (by omega)
                        refine G_iconst 1 dr_cX17_next_141 (by decide +kernel) ?_
                        refine G_goto 146 dr_cX17_next_142 (by decide +kernel) ?_
                        refine G_istore (L' := [(6, .int 1), (5, .int 1), (4, .int 1), (3, .int g337386), (2, .int g337387), (0, .ref q336784), (1, .int p336785)]) dr_cX17_next_146 (Nat.le_of_ble_eq_true rfl) rfl ?_
                        refine G_iload 2 dr_cX17_next_148 rfl ?_
                        refine G_if_ne 158 dr_cX17_next_150 (by decide +kernel) (fun _ => ?_) (fun hc => absurd hc (by decide))
                        refine G_iload 0 dr_cX17_next_158 rfl ?_
                        refine G_if_eq 165 dr_cX17_next_160 (by decide +kernel) (fun hc => absurd hc (by decide)) (fun _ => ?_)
                        refine G_iload_n 3 dr_cX17_next_163 rfl ?_
                        refine G_istore_n (L' := [(2, .int g337386), (6, .int 1), (5, .int 1), (4, .int 1), (3, .int g337386), (0, .ref q336784), (1, .int p336785)]) dr_cX17_next_164 (Nat.le_of_ble_eq_true rfl) rfl ?_
                        obtain ⟨z337482, hz337482⟩ : ∃ z : Int32, z = g337386 + Int32.ofInt 1 := ⟨_, rfl⟩
                        have ez337482 : z337482.toInt = g337386.toInt + 1 := gI_inc hz337482 (by decide) bg337386'' (by decide) (by decide)
                        have bz337482 : gB z337482 101 2000 := ⟨by omega, by omega⟩
                        refine G_iinc (L' := [(3, .int z337482), (2, .int g337386), (6, .int 1), (5, .int 1), (4, .int 1), (0, .ref q336784), (1, .int p336785)]) z337482 4 dr_cX17_next_165 rfl hz337482.symm (Nat.le_of_ble_eq_true rfl) rfl ?_
                        refine G_goto 40 dr_cX17_next_168 (by decide +kernel) ?_
                        refine G_lv (L' := [(3, .int z337482), (2, .int g337386), (0, .ref q336784), (1, .int p336785)]) [0, 1, 5, 6] rfl ?_
                        exact ih40_337389 z337482 g337386 (gB_w bz337482 (by decide) (by decide)) (gB_w bg337386'' (by decide) (by decide)) (by first | exact fun h => absurd h (by omega) | exact fun h => (by rw [ez337482]; rw [cB_of he336835]; have q := x337388; rw [cB_of he336835] at q; exact nx_0 (q h) hz337396 (by omega) rfl)) (fun _ => by rw [cB_of he336835]; exact sd_of hz337396 (by omega) (by omega) (by omega)) (fun k e1 ht => kt40_337390 k e1 (fun R c1 c2 c3 c4 c5 c6 c7 c8 c9 c10 => c8 g337386 g337387 f336836 z337396 f337462 z337463 u337464 f337468 z337469 u337470 u337471 z337472 u337473 z337474 u337475 u337476 z337477 z337482 k e1 bg337386 bg337387 x337388 x337389 r337394 fq337395 he336835 hz337396 bz337396 r337398 r337400 r337454 r337458 fq337459 he337461 hz337463 hu337464 fq337465 he337467 hz337469 hu337470 hu337471 hz337472 hu337473 hz337474 hu337475 hu337476 hz337477 r337481 ez337482 (ht R c1 c2 c3 c4 c5 c6 c7 c8 c9 c10))) (by omega)
                · have r337483 : g337387.toInt < 0 := gj_nleL hc337399 (show Int32.toInt 0 = 0 by decide)
                  have bg337387' : gB g337387 (-1) (-1) := ⟨by omega, by omega⟩
                  refine G_iload_n 0 dr_cX17_next_63 rfl ?_
                  refine G_istore_n (L' := [(2, .int g337386), (3, .int g337386), (0, .ref q336784), (1, .int p336785)]) dr_cX17_next_64 (Nat.le_of_ble_eq_true rfl) rfl ?_
                  refine G_goto 165 dr_cX17_next_65 (by decide +kernel) ?_
                  obtain ⟨z337484, hz337484⟩ : ∃ z : Int32, z = g337386 + Int32.ofInt 1 := ⟨_, rfl⟩
                  have ez337484 : z337484.toInt = g337386.toInt + 1 := gI_inc hz337484 (by decide) bg337386' (by decide) (by decide)
                  have bz337484 : gB z337484 1 2000 := ⟨by omega, by omega⟩
                  refine G_iinc (L' := [(3, .int z337484), (2, .int g337386), (0, .ref q336784), (1, .int p336785)]) z337484 1 dr_cX17_next_165 rfl hz337484.symm (Nat.le_of_ble_eq_true rfl) rfl ?_
                  refine G_goto 40 dr_cX17_next_168 (by decide +kernel) ?_
                  exact ih40_337389 z337484 g337386 (gB_w bz337484 (by decide) (by decide)) (gB_w bg337386' (by decide) (by decide)) (by first | exact fun h => absurd h (by omega) | exact fun h => (by rw [ez337484]; rw [cB_of he336835]; have q := x337388; rw [cB_of he336835] at q; exact nx_0 (q h) hz337396 (by omega) rfl)) (fun _ => by rw [cB_of he336835]; exact sd_of hz337396 (by omega) (by omega) (by omega)) (fun k e1 ht => kt40_337390 k e1 (fun R c1 c2 c3 c4 c5 c6 c7 c8 c9 c10 => c9 g337386 g337387 f336836 z337396 z337484 k e1 bg337386 bg337387 x337388 x337389 r337394 fq337395 he336835 hz337396 bz337396 r337398 r337483 ez337484 (ht R c1 c2 c3 c4 c5 c6 c7 c8 c9 c10))) (by omega)
              · have r337485 : z337396.toInt = 0 := gj_eq hc337397 (show Int32.toInt 0 = 0 by decide)
                have bz337396' : gB z337396 0 0 := ⟨by omega, by omega⟩
                refine G_goto 165 dr_cX17_next_56 (by decide +kernel) ?_
                obtain ⟨z337486, hz337486⟩ : ∃ z : Int32, z = g337386 + Int32.ofInt 1 := ⟨_, rfl⟩
                have ez337486 : z337486.toInt = g337386.toInt + 1 := gI_inc hz337486 (by decide) bg337386' (by decide) (by decide)
                have bz337486 : gB z337486 1 2000 := ⟨by omega, by omega⟩
                refine G_iinc (L' := [(3, .int z337486), (2, .int g337387), (0, .ref q336784), (1, .int p336785)]) z337486 0 dr_cX17_next_165 rfl hz337486.symm (Nat.le_of_ble_eq_true rfl) rfl ?_
                refine G_goto 40 dr_cX17_next_168 (by decide +kernel) ?_
                exact ih40_337389 z337486 g337387 (gB_w bz337486 (by decide) (by decide)) bg337387 (by first | exact fun h => absurd h (by omega) | exact fun h => (by rw [ez337486]; rw [cB_of he336835]; have q := x337388; rw [cB_of he336835] at q; exact nx_0 (q h) hz337396 (by omega) rfl)) x337389 (fun k e1 ht => kt40_337390 k e1 (fun R c1 c2 c3 c4 c5 c6 c7 c8 c9 c10 => c10 g337386 g337387 f336836 z337396 z337486 k e1 bg337386 bg337387 x337388 x337389 r337394 fq337395 he336835 hz337396 bz337396 r337485 ez337486 (ht R c1 c2 c3 c4 c5 c6 c7 c8 c9 c10))) (by omega)
        exact hlp40_337389 (((2001 : Int) - 0).toNat + 1) 0 (-1) (gB_w (gBl (show Int32.toInt 0 = 0 by decide)) (by decide) (by decide)) (gB_w (gBl (show Int32.toInt (-1) = (-1) by decide)) (by decide) (by decide)) (fun _ m hm => absurd hm (by have qa : Int32.toInt 0 = 0 := (by decide); omega)) (fun h => absurd h (by decide)) (fun k e1 ht => ht) (Nat.lt_succ_self _)
      · have r337487 : g337291.toInt < 2000 := gj_nleL hc337293 (show Int32.toInt 2000 = 2000 by decide)
        have bg337291' : gB g337291 0 1999 := ⟨by omega, by omega⟩
        refine G_aload_n 1 dr_cX17_next_9 rfl ?_
        have fq337488 : fR (F336783 q336784) 18 = (γ 9 18) := by rw [he336788]; rfl
        refine Gp_get 18 hm336787 he336788 dr_cX17_next_10 (gk_X17 D I) (Nat.le_of_ble_eq_true rfl) wr_7_92 rfl ?_
        refine G_iload_n 0 dr_cX17_next_13 rfl ?_
        refine Gp_zald 3 hm336834 he336835 dr_cX17_next_14 rfl (gB_in bg337291' (by decide) (by decide)) (G_nam fun z337489 hz337489 => ?_)
        have bz337489 : gB z337489 0 1 := by rw [hz337489]; exact bf336836 _
        refine G_if_eq 30 dr_cX17_next_15 (by decide +kernel) (fun hc337490 => ?_) (fun hc337490 => ?_)
        · have r337491 : z337489.toInt = 0 := gj_eq hc337490 (show Int32.toInt 0 = 0 by decide)
          have bz337489' : gB z337489 0 0 := ⟨by omega, by omega⟩
          obtain ⟨z337492, hz337492⟩ : ∃ z : Int32, z = g337291 + Int32.ofInt 1 := ⟨_, rfl⟩
          have ez337492 : z337492.toInt = g337291.toInt + 1 := gI_inc hz337492 (by decide) bg337291' (by decide) (by decide)
          have bz337492 : gB z337492 1 2000 := ⟨by omega, by omega⟩
          refine G_iinc (L' := [(2, .int z337492), (0, .ref q336784), (1, .int p336785)]) z337492 0 dr_cX17_next_30 rfl hz337492.symm (Nat.le_of_ble_eq_true rfl) rfl ?_
          refine G_goto 2 dr_cX17_next_33 (by decide +kernel) ?_
          exact ih2_337291 z337492 (gB_w bz337492 (by decide) (by decide)) (fun k e1 ht => kt2_337292 k e1 (fun R c1 c2 c3 c4 => c2 g337291 f336836 z337489 z337492 k e1 bg337291 r337487 fq337488 he336835 hz337489 bz337489 r337491 ez337492 (ht R c1 c2 c3 c4))) (by omega)
        · have r337493 : z337489.toInt ≠ 0 := gj_neq hc337490 (show Int32.toInt 0 = 0 by decide)
          have bz337489' : gB z337489 1 1 := ⟨by omega, by omega⟩
          refine G_aload_n 1 dr_cX17_next_18 rfl ?_
          have fq337494 : fR (F336783 q336784) 16 = (γ 9 16) := by rw [he336788]; rfl
          refine Gp_get 16 hm336787 he336788 dr_cX17_next_19 (gk_X17 D I) (Nat.le_of_ble_eq_true rfl) wr_7_90 rfl ?_
          refine G_iload_n 0 dr_cX17_next_22 rfl ?_
          have hm337495 : (γ 9 16) ∈ P336782 := RS_m hT ht336818 (by decide)
          obtain ⟨f337497, he337496⟩ := show rk_19 I (F336783 (γ 9 16)) from RS_o hT ht336818
          refine Gp_iald 0 hm337495 he337496 dr_cX17_next_23 rfl (gB_in bg337291' (by decide) (by decide)) (G_nam fun z337498 hz337498 => ?_)
          have bz337498 : gB z337498 (-2147483648) 2147483647 := gB_any z337498
          refine G_iload_n 2 dr_cX17_next_24 rfl ?_
          refine G_icmp_ge 30 dr_cX17_next_25 (by decide +kernel) (fun hc337499 => ?_) (fun hc337499 => ?_)
          · have r337500 : p336785.toInt ≤ z337498.toInt := gC_le hc337499
            obtain ⟨z337501, hz337501⟩ : ∃ z : Int32, z = g337291 + Int32.ofInt 1 := ⟨_, rfl⟩
            have ez337501 : z337501.toInt = g337291.toInt + 1 := gI_inc hz337501 (by decide) bg337291' (by decide) (by decide)
            have bz337501 : gB z337501 1 2000 := ⟨by omega, by omega⟩
            refine G_iinc (L' := [(2, .int z337501), (0, .ref q336784), (1, .int p336785)]) z337501 0 dr_cX17_next_30 rfl hz337501.symm (Nat.le_of_ble_eq_true rfl) rfl ?_
            refine G_goto 2 dr_cX17_next_33 (by decide +kernel) ?_
            exact ih2_337291 z337501 (gB_w bz337501 (by decide) (by decide)) (fun k e1 ht => kt2_337292 k e1 (fun R c1 c2 c3 c4 => c3 g337291 f336836 z337489 f337497 z337498 z337501 k e1 bg337291 r337487 fq337488 he336835 hz337489 bz337489 r337493 fq337494 he337496 hz337498 r337500 ez337501 (ht R c1 c2 c3 c4))) (by omega)
          · have r337502 : z337498.toInt < p336785.toInt := gC_nle hc337499
            have bz337498' : gB z337498 (-2147483648) 2147483646 := ⟨by omega, by omega⟩
            have bp336785' : gB p336785 (-2147483647) 2147483647 := ⟨by omega, by omega⟩
            have hx337503 : tl_RModel_next_2 D I γ el F336783 q336784 p336785 (0 : Int32) 28 g337291 := kt2_337292 28 g337291 (fun R c1 c2 c3 c4 => c4 g337291 f336836 z337489 f337497 z337498 bg337291 r337487 fq337488 he336835 hz337489 bz337489 r337493 fq337494 he337496 hz337498 r337502)
            refine G_iload_n 0 dr_cX17_next_28 rfl ?_
            exact G_iretA dr_cX17_next_29 rfl (Nat.le_of_ble_eq_true rfl) (Nat.le_of_ble_eq_true rfl) ⟨g337291, rfl, rfl, (Nat.le_of_ble_eq_true rfl), (Nat.le_of_ble_eq_true rfl), (gB_w bg337291' (by decide) (by decide)), (fun _ => by rw [cB_of he336835]; exact sd_of hz337489 (by omega) (by omega) (by omega)), (fun h => absurd h (by omega)), (fun R c1 c2 => c2 g337291 hx337503)⟩
  exact hlp2_337291 (((2001 : Int) - 0).toNat + 1) 0 (gB_w (gBl (show Int32.toInt 0 = 0 by decide)) (by decide) (by decide)) (fun k e1 ht => ht) (Nat.lt_succ_self _)
/- tl_RModel_colours_165: l7, l5; out: l5 -/
def tl_RModel_colours_165 (D : va_G) (I : FieldType → ClassId) (γ el : Nat → Nat → Nat) (F_1 : Nat → va_E) (q0 : Nat) (c1 : Int32) (s1 : Int32) (s2 : Int64) (k : Nat) (e1 : Int64) : Prop := ∀ R : (Int32) → (Int64) → Nat → (Int64) → Prop,
  (∀ (l7_2 : Int32) (l5_2 : Int64), gB l7_2 0 2000 → lb_Q l5_2 (32) → 2000 ≤ l7_2.toInt → R l7_2 l5_2 218 l5_2) →
  (∀ (l7_2 : Int32) (l5_2 : Int64) (x1 : Nat → Int32) (x2 : Int32) (x3 : Int32) (k : Nat) (e1 : Int64), gB l7_2 0 2000 → lb_Q l5_2 (32) → l7_2.toInt < 2000 → fR (F_1 q0) 17 = (γ 9 17) → F_1 (γ 9 17) = .inl (I .int, 2000, .inl x1) → x2 = x1 l7_2.toNatClampNeg → gB x2 (-1) 31 → x2.toInt < 0 → x3.toInt = l7_2.toInt + 1 → R x3 l5_2 k e1 → R l7_2 l5_2 k e1) →
  (∀ (l7_2 : Int32) (l5_2 : Int64) (x1 : Nat → Int32) (x2 : Int32) (x3 : Nat) (x4 : Nat → Int64) (x5 : Int32) (k : Nat) (e1 : Int64), gB l7_2 0 2000 → lb_Q l5_2 (32) → l7_2.toInt < 2000 → fR (F_1 q0) 17 = (γ 9 17) → F_1 (γ 9 17) = .inl (I .int, 2000, .inl x1) → x2 = x1 l7_2.toNatClampNeg → gB x2 (-1) 31 → 0 ≤ x2.toInt → fR (F_1 q0) 1 = (γ 9 1) → x3 = γ 11 c1.toInt.toNat → F_1 x3 = .inl (I .long, 32, .inr (.inl x4)) → tr_RModel_has l7_2 x4 (0 : Int32) → x5.toInt = l7_2.toInt + 1 → R x5 l5_2 k e1 → R l7_2 l5_2 k e1) →
  (∀ (l7_2 : Int32) (l5_2 : Int64) (x1 : Nat → Int32) (x2 : Int32) (x3 : Nat) (x4 : Nat → Int64) (x5 : Int64) (x6 : Int64) (x7 : Int32) (k : Nat) (e1 : Int64), gB l7_2 0 2000 → lb_Q l5_2 (32) → l7_2.toInt < 2000 → fR (F_1 q0) 17 = (γ 9 17) → F_1 (γ 9 17) = .inl (I .int, 2000, .inl x1) → x2 = x1 l7_2.toNatClampNeg → gB x2 (-1) 31 → 0 ≤ x2.toInt → fR (F_1 q0) 1 = (γ 9 1) → x3 = γ 11 c1.toInt.toNat → F_1 x3 = .inl (I .long, 32, .inr (.inl x4)) → tr_RModel_has l7_2 x4 (1 : Int32) → x5 = (1 : Int64) <<< (x2.toInt64 &&& 63) → x6 = l5_2 ||| x5 → x7.toInt = l7_2.toInt + 1 → R x7 x6 k e1 → R l7_2 l5_2 k e1) →
  R s1 s2 k e1
/- tl_RModel_colours_144: F, l3, l2; out: l3, F -/
def tl_RModel_colours_144 (D : va_G) (I : FieldType → ClassId) (γ el : Nat → Nat → Nat) (P : List Nat) (F : Nat → va_E) (q0 : Nat) (a1 : Int32) (s1 : Nat → va_E) (s2 : Int32) (s3 : Int32) (k : Nat) (e1 : Int32) (e2 : Nat → va_E) : Prop := ∀ R : (Nat → va_E) → (Int32) → (Int32) → Nat → (Int32) → (Nat → va_E) → Prop,
  (∀ (F_1 : Nat → va_E) (l3_1 : Int32) (l2_1 : Int32), gB l3_1 0 2000 → gB l2_1 0 2000 → RS D I P F_1 γ el → rStr γ [] F F_1 → ((gIp (l3_1.toInt = 0) (∀ m : Nat, rSd (cB (F_1 (γ 9 3))) m → (∃ i : Nat, (i : Int) < l2_1.toInt ∧ (cB (F_1 (γ 9 15)) i).toInt = m) ∨ 0 ≤ (cB (F_1 (γ 9 17)) m).toInt))) → (l3_1.toInt + l2_1.toInt ≤ 2000) → (F_1 q0 = F q0) → (F_1 (γ 9 3) = F (γ 9 3)) → l2_1.toInt ≤ 0 → R F_1 l3_1 l2_1 253 l3_1 F_1) →
  (∀ (F_1 : Nat → va_E) (l3_1 : Int32) (l2_1 : Int32) (x1 : Int32) (x2 : Nat → Int32) (x3 : Int32) (x4 : Int64) (x5 : Int64) (x6 : Int32) (x7 : Int32) (k : Nat) (e1 : Int32) (e2 : Nat → va_E), gB l3_1 0 2000 → gB l2_1 0 2000 → RS D I P F_1 γ el → rStr γ [] F F_1 → ((gIp (l3_1.toInt = 0) (∀ m : Nat, rSd (cB (F_1 (γ 9 3))) m → (∃ i : Nat, (i : Int) < l2_1.toInt ∧ (cB (F_1 (γ 9 15)) i).toInt = m) ∨ 0 ≤ (cB (F_1 (γ 9 17)) m).toInt))) → (l3_1.toInt + l2_1.toInt ≤ 2000) → (F_1 q0 = F q0) → (F_1 (γ 9 3) = F (γ 9 3)) → 0 < l2_1.toInt → x1.toInt = l2_1.toInt + (-1) → fR (F_1 q0) 15 = (γ 9 15) → F_1 (γ 9 15) = .inl (I .int, 2000, .inl x2) → x3 = x2 x1.toNatClampNeg → gB x3 0 1999 → tl_RModel_colours_165 D I γ el F_1 q0 x3 (0 : Int32) (0 : Int64) 218 x4 → x5 = x4 ^^^ (-1 : Int64) → (0 ≤ x6.toInt ∧ x6.toInt ≤ 63 ∧ x5.toBitVec.getLsbD x6.toInt.toNat = true ∧ ∀ i, i < x6.toInt.toNat → x5.toBitVec.getLsbD i = false) → a1.toInt ≤ x6.toInt → x7.toInt = l3_1.toInt + 1 → R F_1 x7 x1 k e1 e2 → R F_1 l3_1 l2_1 k e1 e2) →
  (∀ (F_1 : Nat → va_E) (l3_1 : Int32) (l2_1 : Int32) (x1 : Int32) (x2 : Nat → Int32) (x3 : Int32) (x4 : Int64) (x5 : Int64) (x6 : Int32) (x7 : Nat → Int32) (x8 : Nat → Int32) (x9 : Nat → va_E) (k : Nat) (e1 : Int32) (e2 : Nat → va_E), gB l3_1 0 2000 → gB l2_1 0 2000 → RS D I P F_1 γ el → rStr γ [] F F_1 → ((gIp (l3_1.toInt = 0) (∀ m : Nat, rSd (cB (F_1 (γ 9 3))) m → (∃ i : Nat, (i : Int) < l2_1.toInt ∧ (cB (F_1 (γ 9 15)) i).toInt = m) ∨ 0 ≤ (cB (F_1 (γ 9 17)) m).toInt))) → (l3_1.toInt + l2_1.toInt ≤ 2000) → (F_1 q0 = F q0) → (F_1 (γ 9 3) = F (γ 9 3)) → 0 < l2_1.toInt → x1.toInt = l2_1.toInt + (-1) → fR (F_1 q0) 15 = (γ 9 15) → F_1 (γ 9 15) = .inl (I .int, 2000, .inl x2) → x3 = x2 x1.toNatClampNeg → gB x3 0 1999 → tl_RModel_colours_165 D I γ el F_1 q0 x3 (0 : Int32) (0 : Int64) 218 x4 → x5 = x4 ^^^ (-1 : Int64) → (0 ≤ x6.toInt ∧ x6.toInt ≤ 63 ∧ x5.toBitVec.getLsbD x6.toInt.toNat = true ∧ ∀ i, i < x6.toInt.toNat → x5.toBitVec.getLsbD i = false) → x6.toInt < a1.toInt → fR (F_1 q0) 17 = (γ 9 17) → F_1 (γ 9 17) = .inl (I .int, 2000, .inl x7) → x8 = upd x7 x3.toNatClampNeg x6 → (∀ b, b ≠ (γ 9 17) → x9 b = F_1 b) → x9 (γ 9 17) = .inl (I .int, 2000, .inl x8) → R x9 l3_1 x1 k e1 e2 → R F_1 l3_1 l2_1 k e1 e2) →
  R s1 s2 s3 k e1 e2
/- tl_RModel_colours_94: F, l4; out: F -/
def tl_RModel_colours_94 (D : va_G) (I : FieldType → ClassId) (γ el : Nat → Nat → Nat) (P : List Nat) (F : Nat → va_E) (c1 : Int32) (F_1 : Nat → va_E) (q0 : Nat) (l3_1 : Int32) (s1 : Nat → va_E) (s2 : Int32) (k : Nat) (e1 : Nat → va_E) : Prop := ∀ R : (Nat → va_E) → (Int32) → Nat → (Nat → va_E) → Prop,
  (∀ (F_2 : Nat → va_E) (l4_2 : Int32), gB l4_2 0 2000 → RS D I P F_2 γ el → rStr γ [] F F_2 → ((∀ m : Nat, rSd (cB (F_2 (γ 9 3))) m → rSd (cB (F_2 (γ 9 18))) m ∨ ∃ i : Nat, (i : Int) < c1.toInt ∧ (cB (F_2 (γ 9 15)) i).toInt = m)) → (rcn (cB (F_2 (γ 9 18))) 2000 + (c1.toInt : Int).toNat ≤ 2000) → (rcn (cB (F_2 (γ 9 18))) 2000 + 1 ≤ rcn (cB (F_1 (γ 9 18))) 2000) → (F_2 q0 = F q0) → (F_2 (γ 9 3) = F (γ 9 3)) → 2000 ≤ l4_2.toInt → R F_2 l4_2 133 F_2) →
  (∀ (F_2 : Nat → va_E) (l4_2 : Int32) (x1 : Nat) (x2 : Nat → Int64) (x3 : Int32) (k : Nat) (e1 : Nat → va_E), gB l4_2 0 2000 → RS D I P F_2 γ el → rStr γ [] F F_2 → ((∀ m : Nat, rSd (cB (F_2 (γ 9 3))) m → rSd (cB (F_2 (γ 9 18))) m ∨ ∃ i : Nat, (i : Int) < c1.toInt ∧ (cB (F_2 (γ 9 15)) i).toInt = m)) → (rcn (cB (F_2 (γ 9 18))) 2000 + (c1.toInt : Int).toNat ≤ 2000) → (rcn (cB (F_2 (γ 9 18))) 2000 + 1 ≤ rcn (cB (F_1 (γ 9 18))) 2000) → (F_2 q0 = F q0) → (F_2 (γ 9 3) = F (γ 9 3)) → l4_2.toInt < 2000 → fR (F_2 q0) 1 = (γ 9 1) → x1 = γ 11 l3_1.toInt.toNat → F_2 x1 = .inl (I .long, 32, .inr (.inl x2)) → tr_RModel_has l4_2 x2 (0 : Int32) → x3.toInt = l4_2.toInt + 1 → R F_2 x3 k e1 → R F_2 l4_2 k e1) →
  (∀ (F_2 : Nat → va_E) (l4_2 : Int32) (x1 : Nat) (x2 : Nat → Int64) (x3 : Nat → Int32) (x4 : Int32) (x5 : Int32) (x6 : Nat → Int32) (x7 : Nat → va_E) (x8 : Int32) (k : Nat) (e1 : Nat → va_E), gB l4_2 0 2000 → RS D I P F_2 γ el → rStr γ [] F F_2 → ((∀ m : Nat, rSd (cB (F_2 (γ 9 3))) m → rSd (cB (F_2 (γ 9 18))) m ∨ ∃ i : Nat, (i : Int) < c1.toInt ∧ (cB (F_2 (γ 9 15)) i).toInt = m)) → (rcn (cB (F_2 (γ 9 18))) 2000 + (c1.toInt : Int).toNat ≤ 2000) → (rcn (cB (F_2 (γ 9 18))) 2000 + 1 ≤ rcn (cB (F_1 (γ 9 18))) 2000) → (F_2 q0 = F q0) → (F_2 (γ 9 3) = F (γ 9 3)) → l4_2.toInt < 2000 → fR (F_2 q0) 1 = (γ 9 1) → x1 = γ 11 l3_1.toInt.toNat → F_2 x1 = .inl (I .long, 32, .inr (.inl x2)) → tr_RModel_has l4_2 x2 (1 : Int32) → fR (F_2 q0) 16 = (γ 9 16) → F_2 (γ 9 16) = .inl (I .int, 2000, .inl x3) → x4 = x3 l4_2.toNatClampNeg → x5 = x4 - (1 : Int32) → x6 = upd x3 l4_2.toNatClampNeg x5 → (∀ b, b ≠ (γ 9 16) → x7 b = F_2 b) → x7 (γ 9 16) = .inl (I .int, 2000, .inl x6) → x8.toInt = l4_2.toInt + 1 → R x7 x8 k e1 → R F_2 l4_2 k e1) →
  R s1 s2 k e1
/- tl_RModel_colours_70: F, l3, l2; out: l2, F -/
def tl_RModel_colours_70 (D : va_G) (I : FieldType → ClassId) (γ el : Nat → Nat → Nat) (P : List Nat) (F : Nat → va_E) (q0 : Nat) (a1 : Int32) (s1 : Nat → va_E) (s2 : Int32) (s3 : Int32) (k : Nat) (e1 : Int32) (e2 : Nat → va_E) : Prop := ∀ R : (Nat → va_E) → (Int32) → (Int32) → Nat → (Int32) → (Nat → va_E) → Prop,
  (∀ (F_1 : Nat → va_E) (l3_1 : Int32) (l2_1 : Int32), gB l3_1 (-1) 1999 → gB l2_1 0 2000 → RS D I P F_1 γ el → rStr γ [] F F_1 → ((∀ m : Nat, rSd (cB (F_1 (γ 9 3))) m → rSd (cB (F_1 (γ 9 18))) m ∨ ∃ i : Nat, (i : Int) < l2_1.toInt ∧ (cB (F_1 (γ 9 15)) i).toInt = m)) → (rcn (cB (F_1 (γ 9 18))) 2000 + (l2_1.toInt : Int).toNat ≤ 2000) → (gIp (0 ≤ l3_1.toInt) (rSd (cB (F_1 (γ 9 18))) (l3_1.toInt : Int).toNat)) → ((gIp (l3_1.toInt < 0) (∀ m : Nat, ¬ rSd (cB (F_1 (γ 9 18))) m))) → (F_1 q0 = F q0) → (F_1 (γ 9 3) = F (γ 9 3)) → l3_1.toInt < 0 → R F_1 l3_1 l2_1 142 l2_1 F_1) →
  (∀ (F_1 : Nat → va_E) (l3_1 : Int32) (l2_1 : Int32) (x1 : Nat → Int32) (x2 : Nat → Int32) (x3 : Nat → va_E) (x4 : Int32) (x5 : Nat → Int32) (x6 : Nat → Int32) (x7 : Nat → va_E) (x8 : Nat → va_E) (x9 : Int32) (k : Nat) (e1 : Int32) (e2 : Nat → va_E), gB l3_1 (-1) 1999 → gB l2_1 0 2000 → RS D I P F_1 γ el → rStr γ [] F F_1 → ((∀ m : Nat, rSd (cB (F_1 (γ 9 3))) m → rSd (cB (F_1 (γ 9 18))) m ∨ ∃ i : Nat, (i : Int) < l2_1.toInt ∧ (cB (F_1 (γ 9 15)) i).toInt = m)) → (rcn (cB (F_1 (γ 9 18))) 2000 + (l2_1.toInt : Int).toNat ≤ 2000) → (gIp (0 ≤ l3_1.toInt) (rSd (cB (F_1 (γ 9 18))) (l3_1.toInt : Int).toNat)) → ((gIp (l3_1.toInt < 0) (∀ m : Nat, ¬ rSd (cB (F_1 (γ 9 18))) m))) → (F_1 q0 = F q0) → (F_1 (γ 9 3) = F (γ 9 3)) → 0 ≤ l3_1.toInt → fR (F_1 q0) 15 = (γ 9 15) → F_1 (γ 9 15) = .inl (I .int, 2000, .inl x1) → x2 = upd x1 l2_1.toNatClampNeg l3_1 → (∀ b, b ≠ (γ 9 15) → x3 b = F_1 b) → x3 (γ 9 15) = .inl (I .int, 2000, .inl x2) → x4.toInt = l2_1.toInt + 1 → fR (x3 q0) 18 = (γ 9 18) → x3 (γ 9 18) = .inl (I .boolean, 2000, .inl x5) → x6 = upd x5 l3_1.toNatClampNeg (vp_nar .boolean 0) → (∀ b, b ≠ (γ 9 18) → x7 b = x3 b) → x7 (γ 9 18) = .inl (I .boolean, 2000, .inl x6) → tl_RModel_colours_94 D I γ el P F x4 F_1 q0 l3_1 x7 (0 : Int32) 133 x8 → gB x9 (-1) 1999 → (gIp (0 ≤ x9.toInt) (rSd (cB (x8 (γ 9 18))) (x9.toInt : Int).toNat)) → ((gIp (x9.toInt < 0) (∀ m : Nat, ¬ rSd (cB (x8 (γ 9 18))) m))) → tr_RModel_next D I γ el x8 q0 a1 x9 → R x8 x9 x4 k e1 e2 → R F_1 l3_1 l2_1 k e1 e2) →
  R s1 s2 s3 k e1 e2
/- tl_RModel_colours_2: F, l2; out: F -/
def tl_RModel_colours_2 (D : va_G) (I : FieldType → ClassId) (γ el : Nat → Nat → Nat) (P : List Nat) (F : Nat → va_E) (q0 : Nat) (s1 : Nat → va_E) (s2 : Int32) (k : Nat) (e1 : Nat → va_E) : Prop := ∀ R : (Nat → va_E) → (Int32) → Nat → (Nat → va_E) → Prop,
  (∀ (F_1 : Nat → va_E) (l2_1 : Int32), gB l2_1 0 2000 → RS D I P F_1 γ el → rStr γ [] F F_1 → ((∀ m : Nat, (m : Int) < l2_1.toInt → rSd (cB (F_1 (γ 9 3))) m → rSd (cB (F_1 (γ 9 18))) m)) → (F_1 q0 = F q0) → (F_1 (γ 9 3) = F (γ 9 3)) → 2000 ≤ l2_1.toInt → R F_1 l2_1 62 F_1) →
  (∀ (F_1 : Nat → va_E) (l2_1 : Int32) (x1 : Nat → Int32) (x2 : Int32) (x3 : Nat → Int32) (x4 : Nat → Int32) (x5 : Nat → va_E) (x6 : Nat → Int32) (x7 : Nat → Int32) (x8 : Nat → va_E) (x9 : Nat → Int32) (x10 : Nat → Int32) (x11 : Nat → va_E) (x12 : Int32) (k : Nat) (e1 : Nat → va_E), gB l2_1 0 2000 → RS D I P F_1 γ el → rStr γ [] F F_1 → ((∀ m : Nat, (m : Int) < l2_1.toInt → rSd (cB (F_1 (γ 9 3))) m → rSd (cB (F_1 (γ 9 18))) m)) → (F_1 q0 = F q0) → (F_1 (γ 9 3) = F (γ 9 3)) → l2_1.toInt < 2000 → fR (F_1 q0) 18 = (γ 9 18) → fR (F_1 q0) 3 = (γ 9 3) → F_1 (γ 9 3) = .inl (I .boolean, 2000, .inl x1) → x2 = x1 l2_1.toNatClampNeg → gB x2 0 1 → F_1 (γ 9 18) = .inl (I .boolean, 2000, .inl x3) → x4 = upd x3 l2_1.toNatClampNeg (vp_nar .boolean x2) → (∀ b, b ≠ (γ 9 18) → x5 b = F_1 b) → x5 (γ 9 18) = .inl (I .boolean, 2000, .inl x4) → fR (x5 q0) 16 = (γ 9 16) → fR (x5 q0) 3 = (γ 9 3) → x5 (γ 9 3) = .inl (I .boolean, 2000, .inl x1) → x2.toInt = 0 → x5 (γ 9 16) = .inl (I .int, 2000, .inl x6) → x7 = upd x6 l2_1.toNatClampNeg 0 → (∀ b, b ≠ (γ 9 16) → x8 b = x5 b) → x8 (γ 9 16) = .inl (I .int, 2000, .inl x7) → fR (x8 q0) 17 = (γ 9 17) → x8 (γ 9 17) = .inl (I .int, 2000, .inl x9) → x10 = upd x9 l2_1.toNatClampNeg (-1) → (∀ b, b ≠ (γ 9 17) → x11 b = x8 b) → x11 (γ 9 17) = .inl (I .int, 2000, .inl x10) → x12.toInt = l2_1.toInt + 1 → R x11 x12 k e1 → R F_1 l2_1 k e1) →
  (∀ (F_1 : Nat → va_E) (l2_1 : Int32) (x1 : Nat → Int32) (x2 : Int32) (x3 : Nat → Int32) (x4 : Nat → Int32) (x5 : Nat → va_E) (x6 : Nat) (x7 : Nat → Int64) (x8 : Int32) (x9 : Nat → Int32) (x10 : Nat → Int32) (x11 : Nat → va_E) (x12 : Nat → Int32) (x13 : Nat → Int32) (x14 : Nat → va_E) (x15 : Int32) (k : Nat) (e1 : Nat → va_E), gB l2_1 0 2000 → RS D I P F_1 γ el → rStr γ [] F F_1 → ((∀ m : Nat, (m : Int) < l2_1.toInt → rSd (cB (F_1 (γ 9 3))) m → rSd (cB (F_1 (γ 9 18))) m)) → (F_1 q0 = F q0) → (F_1 (γ 9 3) = F (γ 9 3)) → l2_1.toInt < 2000 → fR (F_1 q0) 18 = (γ 9 18) → fR (F_1 q0) 3 = (γ 9 3) → F_1 (γ 9 3) = .inl (I .boolean, 2000, .inl x1) → x2 = x1 l2_1.toNatClampNeg → gB x2 0 1 → F_1 (γ 9 18) = .inl (I .boolean, 2000, .inl x3) → x4 = upd x3 l2_1.toNatClampNeg (vp_nar .boolean x2) → (∀ b, b ≠ (γ 9 18) → x5 b = F_1 b) → x5 (γ 9 18) = .inl (I .boolean, 2000, .inl x4) → fR (x5 q0) 16 = (γ 9 16) → fR (x5 q0) 3 = (γ 9 3) → x5 (γ 9 3) = .inl (I .boolean, 2000, .inl x1) → x2.toInt ≠ 0 → fR (x5 q0) 1 = (γ 9 1) → x6 = γ 11 l2_1.toInt.toNat → x5 x6 = .inl (I .long, 32, .inr (.inl x7)) → tr_RModel_count x7 x8 → x5 (γ 9 16) = .inl (I .int, 2000, .inl x9) → x10 = upd x9 l2_1.toNatClampNeg x8 → (∀ b, b ≠ (γ 9 16) → x11 b = x5 b) → x11 (γ 9 16) = .inl (I .int, 2000, .inl x10) → fR (x11 q0) 17 = (γ 9 17) → x11 (γ 9 17) = .inl (I .int, 2000, .inl x12) → x13 = upd x12 l2_1.toNatClampNeg (-1) → (∀ b, b ≠ (γ 9 17) → x14 b = x11 b) → x14 (γ 9 17) = .inl (I .int, 2000, .inl x13) → x15.toInt = l2_1.toInt + 1 → R x14 x15 k e1 → R F_1 l2_1 k e1) →
  R s1 s2 k e1
/- tr_RModel_colours: result, F -/
def tr_RModel_colours (D : va_G) (I : FieldType → ClassId) (γ el : Nat → Nat → Nat) (P : List Nat) (F : Nat → va_E) (q0 : Nat) (a1 : Int32) (o1 : Int32) (o2 : Nat → va_E) : Prop := ∀ R : (Int32) → (Nat → va_E) → Prop,
  (∀ (x1 : Nat → va_E) (x2 : Int32) (x3 : Int32) (x4 : Nat → va_E) (x5 : Int32) (x6 : Nat → va_E), tl_RModel_colours_2 D I γ el P F q0 F (0 : Int32) 62 x1 → gB x2 (-1) 1999 → (gIp (0 ≤ x2.toInt) (rSd (cB (x1 (γ 9 18))) (x2.toInt : Int).toNat)) → ((gIp (x2.toInt < 0) (∀ m : Nat, ¬ rSd (cB (x1 (γ 9 18))) m))) → tr_RModel_next D I γ el x1 q0 a1 x2 → tl_RModel_colours_70 D I γ el P F q0 a1 x1 x2 (0 : Int32) 142 x3 x4 → tl_RModel_colours_144 D I γ el P F q0 a1 x4 (0 : Int32) x3 253 x5 x6 → R x5 x6) →
  R o1 o2
