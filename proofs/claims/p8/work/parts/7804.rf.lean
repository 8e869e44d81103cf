theorem dr_cX17_next_0 : decode cX17_next 0 = .ok (.iconst 0, 1) := by decide +kernel
theorem dr_cX17_next_1 : decode cX17_next 1 = .ok (.istore_n 2, 1) := by decide +kernel
theorem dr_cX17_next_2 : decode cX17_next 2 = .ok (.iload_n 2, 1) := by decide +kernel
theorem dr_cX17_next_3 : decode cX17_next 3 = .ok (.sipush 2000, 3) := by decide +kernel
theorem dr_cX17_next_6 : decode cX17_next 6 = .ok (.if_icmp .ge 30, 3) := by decide +kernel
theorem dr_cX17_next_36 : decode cX17_next 36 = .ok (.iconst (-1), 1) := by decide +kernel
theorem dr_cX17_next_37 : decode cX17_next 37 = .ok (.istore_n 2, 1) := by decide +kernel
theorem dr_cX17_next_38 : decode cX17_next 38 = .ok (.iconst 0, 1) := by decide +kernel
theorem dr_cX17_next_39 : decode cX17_next 39 = .ok (.istore_n 3, 1) := by decide +kernel
theorem dr_cX17_next_40 : decode cX17_next 40 = .ok (.iload_n 3, 1) := by decide +kernel
theorem dr_cX17_next_41 : decode cX17_next 41 = .ok (.sipush 2000, 3) := by decide +kernel
theorem dr_cX17_next_44 : decode cX17_next 44 = .ok (.if_icmp .ge 127, 3) := by decide +kernel
theorem dr_cX17_next_171 : decode cX17_next 171 = .ok (.iload_n 2, 1) := by decide +kernel
theorem dr_cX17_next_172 : decode cX17_next 172 = .ok (.ireturn, 1) := by decide +kernel
theorem dr_cX17_next_47 : decode cX17_next 47 = .ok (.aload_n 0, 1) := by decide +kernel
theorem dr_cX17_next_48 : decode cX17_next 48 = .ok (.getfield 206, 3) := by decide +kernel
theorem wr_7_92 : (Jvm.Cond.fieldLink "SpillForgeModel" (206 : Nat) "SpillForgeModel" "there" "[Z") ∈ gw := gw_7 92 rfl rfl
theorem dr_cX17_next_51 : decode cX17_next 51 = .ok (.iload_n 3, 1) := by decide +kernel
theorem dr_cX17_next_52 : decode cX17_next 52 = .ok (.baload, 1) := by decide +kernel
theorem dr_cX17_next_53 : decode cX17_next 53 = .ok (.ifCond .ne 6, 3) := by decide +kernel
theorem dr_cX17_next_59 : decode cX17_next 59 = .ok (.iload_n 2, 1) := by decide +kernel
theorem dr_cX17_next_60 : decode cX17_next 60 = .ok (.ifCond .ge 8, 3) := by decide +kernel
theorem dr_cX17_next_68 : decode cX17_next 68 = .ok (.iload_n 3, 1) := by decide +kernel
theorem dr_cX17_next_69 : decode cX17_next 69 = .ok (.bipush 100, 2) := by decide +kernel
theorem dr_cX17_next_71 : decode cX17_next 71 = .ok (.if_icmp .lt 7, 3) := by decide +kernel
theorem dr_cX17_next_78 : decode cX17_next 78 = .ok (.iconst 0, 1) := by decide +kernel
theorem dr_cX17_next_79 : decode cX17_next 79 = .ok (.istore 4, 2) := by decide +kernel
theorem dr_cX17_next_81 : decode cX17_next 81 = .ok (.iload_n 2, 1) := by decide +kernel
theorem dr_cX17_next_82 : decode cX17_next 82 = .ok (.bipush 100, 2) := by decide +kernel
theorem dr_cX17_next_84 : decode cX17_next 84 = .ok (.if_icmp .lt 7, 3) := by decide +kernel
theorem dr_cX17_next_91 : decode cX17_next 91 = .ok (.iconst 0, 1) := by decide +kernel
theorem dr_cX17_next_92 : decode cX17_next 92 = .ok (.istore 5, 2) := by decide +kernel
theorem dr_cX17_next_94 : decode cX17_next 94 = .ok (.iload 4, 2) := by decide +kernel
theorem dr_cX17_next_96 : decode cX17_next 96 = .ok (.ifCond .eq 11, 3) := by decide +kernel
theorem dr_cX17_next_107 : decode cX17_next 107 = .ok (.aload_n 0, 1) := by decide +kernel
theorem dr_cX17_next_108 : decode cX17_next 108 = .ok (.getfield 174, 3) := by decide +kernel
theorem wr_7_79 : (Jvm.Cond.fieldLink "SpillForgeModel" (174 : Nat) "SpillForgeModel" "weight" "[I") ∈ gw := gw_7 79 rfl rfl
theorem dr_cX17_next_111 : decode cX17_next 111 = .ok (.iload_n 3, 1) := by decide +kernel
theorem dr_cX17_next_112 : decode cX17_next 112 = .ok (.iaload, 1) := by decide +kernel
theorem dr_cX17_next_113 : decode cX17_next 113 = .ok (.i2l, 1) := by decide +kernel
theorem dr_cX17_next_114 : decode cX17_next 114 = .ok (.aload_n 0, 1) := by decide +kernel
theorem dr_cX17_next_115 : decode cX17_next 115 = .ok (.getfield 209, 3) := by decide +kernel
theorem wr_7_90 : (Jvm.Cond.fieldLink "SpillForgeModel" (209 : Nat) "SpillForgeModel" "left" "[I") ∈ gw := gw_7 90 rfl rfl
theorem dr_cX17_next_118 : decode cX17_next 118 = .ok (.iload_n 2, 1) := by decide +kernel
theorem dr_cX17_next_119 : decode cX17_next 119 = .ok (.iaload, 1) := by decide +kernel
theorem dr_cX17_next_120 : decode cX17_next 120 = .ok (.i2l, 1) := by decide +kernel
theorem dr_cX17_next_121 : decode cX17_next 121 = .ok (.lmul, 1) := by decide +kernel
theorem dr_cX17_next_122 : decode cX17_next 122 = .ok (.aload_n 0, 1) := by decide +kernel
theorem dr_cX17_next_123 : decode cX17_next 123 = .ok (.getfield 174, 3) := by decide +kernel
theorem dr_cX17_next_126 : decode cX17_next 126 = .ok (.iload_n 2, 1) := by decide +kernel
theorem dr_cX17_next_127 : decode cX17_next 127 = .ok (.iaload, 1) := by decide +kernel
theorem dr_cX17_next_128 : decode cX17_next 128 = .ok (.i2l, 1) := by decide +kernel
theorem dr_cX17_next_129 : decode cX17_next 129 = .ok (.aload_n 0, 1) := by decide +kernel
theorem dr_cX17_next_130 : decode cX17_next 130 = .ok (.getfield 209, 3) := by decide +kernel
theorem dr_cX17_next_133 : decode cX17_next 133 = .ok (.iload_n 3, 1) := by decide +kernel
theorem dr_cX17_next_134 : decode cX17_next 134 = .ok (.iaload, 1) := by decide +kernel
theorem dr_cX17_next_135 : decode cX17_next 135 = .ok (.i2l, 1) := by decide +kernel
theorem dr_cX17_next_136 : decode cX17_next 136 = .ok (.lmul, 1) := by decide +kernel
theorem dr_cX17_next_137 : decode cX17_next 137 = .ok (.lcmp, 1) := by decide +kernel
theorem dr_cX17_next_138 : decode cX17_next 138 = .ok (.ifCond .ge 7, 3) := by decide +kernel
theorem dr_cX17_next_145 : decode cX17_next 145 = .ok (.iconst 0, 1) := by decide +kernel
theorem dr_cX17_next_146 : decode cX17_next 146 = .ok (.istore 6, 2) := by decide +kernel
theorem dr_cX17_next_148 : decode cX17_next 148 = .ok (.iload 4, 2) := by decide +kernel
theorem dr_cX17_next_150 : decode cX17_next 150 = .ok (.ifCond .ne 8, 3) := by decide +kernel
theorem dr_cX17_next_153 : decode cX17_next 153 = .ok (.iload 5, 2) := by decide +kernel
theorem dr_cX17_next_155 : decode cX17_next 155 = .ok (.ifCond .ne 8, 3) := by decide +kernel
theorem dr_cX17_next_158 : decode cX17_next 158 = .ok (.iload 6, 2) := by decide +kernel
theorem dr_cX17_next_160 : decode cX17_next 160 = .ok (.ifCond .eq 5, 3) := by decide +kernel
theorem dr_cX17_next_165 : decode cX17_next 165 = .ok (.iinc 3 1, 3) := by decide +kernel
theorem dr_cX17_next_168 : decode cX17_next 168 = .ok (.goto (-128), 3) := by decide +kernel
theorem dr_cX17_next_141 : decode cX17_next 141 = .ok (.iconst 1, 1) := by decide +kernel
theorem dr_cX17_next_142 : decode cX17_next 142 = .ok (.goto 4, 3) := by decide +kernel
theorem dr_cX17_next_163 : decode cX17_next 163 = .ok (.iload_n 3, 1) := by decide +kernel
theorem dr_cX17_next_164 : decode cX17_next 164 = .ok (.istore_n 2, 1) := by decide +kernel
theorem dr_cX17_next_87 : decode cX17_next 87 = .ok (.iconst 1, 1) := by decide +kernel
theorem dr_cX17_next_88 : decode cX17_next 88 = .ok (.goto 4, 3) := by decide +kernel
theorem dr_cX17_next_74 : decode cX17_next 74 = .ok (.iconst 1, 1) := by decide +kernel
theorem dr_cX17_next_75 : decode cX17_next 75 = .ok (.goto 4, 3) := by decide +kernel
theorem dr_cX17_next_99 : decode cX17_next 99 = .ok (.iload 5, 2) := by decide +kernel
theorem dr_cX17_next_101 : decode cX17_next 101 = .ok (.ifCond .ne 6, 3) := by decide +kernel
theorem dr_cX17_next_104 : decode cX17_next 104 = .ok (.goto 61, 3) := by decide +kernel
theorem dr_cX17_next_63 : decode cX17_next 63 = .ok (.iload_n 3, 1) := by decide +kernel
theorem dr_cX17_next_64 : decode cX17_next 64 = .ok (.istore_n 2, 1) := by decide +kernel
theorem dr_cX17_next_65 : decode cX17_next 65 = .ok (.goto 100, 3) := by decide +kernel
theorem dr_cX17_next_56 : decode cX17_next 56 = .ok (.goto 109, 3) := by decide +kernel
theorem dr_cX17_next_9 : decode cX17_next 9 = .ok (.aload_n 0, 1) := by decide +kernel
theorem dr_cX17_next_10 : decode cX17_next 10 = .ok (.getfield 206, 3) := by decide +kernel
theorem dr_cX17_next_13 : decode cX17_next 13 = .ok (.iload_n 2, 1) := by decide +kernel
theorem dr_cX17_next_14 : decode cX17_next 14 = .ok (.baload, 1) := by decide +kernel
theorem dr_cX17_next_15 : decode cX17_next 15 = .ok (.ifCond .eq 15, 3) := by decide +kernel
theorem dr_cX17_next_30 : decode cX17_next 30 = .ok (.iinc 2 1, 3) := by decide +kernel
theorem dr_cX17_next_33 : decode cX17_next 33 = .ok (.goto (-31), 3) := by decide +kernel
theorem dr_cX17_next_18 : decode cX17_next 18 = .ok (.aload_n 0, 1) := by decide +kernel
theorem dr_cX17_next_19 : decode cX17_next 19 = .ok (.getfield 209, 3) := by decide +kernel
theorem dr_cX17_next_22 : decode cX17_next 22 = .ok (.iload_n 2, 1) := by decide +kernel
theorem dr_cX17_next_23 : decode cX17_next 23 = .ok (.iaload, 1) := by decide +kernel
theorem dr_cX17_next_24 : decode cX17_next 24 = .ok (.iload_n 1, 1) := by decide +kernel
theorem dr_cX17_next_25 : decode cX17_next 25 = .ok (.if_icmp .ge 5, 3) := by decide +kernel
theorem dr_cX17_next_28 : decode cX17_next 28 = .ok (.iload_n 2, 1) := by decide +kernel
theorem dr_cX17_next_29 : decode cX17_next 29 = .ok (.ireturn, 1) := by decide +kernel
abbrev ky_18500_SpillForgeModel_next : gKey := (cX17_next, 7, "SpillForgeModel", (some FieldType.int), [], "next", fun _ _ => True)
def pt_18500_SpillForgeModel_next (D : va_G) (I : FieldType → ClassId) (γ el : Nat → Nat → Nat) (P18496 : List Nat) (F18497 : Nat → va_E) (q18498 : Nat) (p18499 : Int32) : Option Value → va_W → Nat → Nat → Prop := fun r w dc ds => ∃ (o20064 : Int32), r = some (.int o20064) ∧ w = va_pl P18496 F18497 ∧ dc ≤ 0 ∧ ds ≤ 0 ∧ gB o20064 (-1) 1999 ∧ tr_RModel_next D I γ el F18497 q18498 p18499 o20064
set_option maxRecDepth 100000 in
set_option maxHeartbeats 4000000 in
theorem ct_18500_SpillForgeModel_next (l : Launch) (hl0 : l.stackTraces = false) (D : va_G) (I : FieldType → ClassId) (γ el : Nat → Nat → Nat) (P18496 : List Nat) (F18497 : Nat → va_E) (q18498 : Nat) (p18499 : Int32) (hT : RS D I P18496 F18497 γ el) (htq18498 : rKd γ q18498 10) : CtA (gV D I) l yX17_next cX17_next 7 (some FieldType.int) 0 0 0 0 [.ref q18498, .int p18499] (va_pl P18496 F18497) (pt_18500_SpillForgeModel_next D I γ el P18496 F18497 q18498 p18499) gNA := by
  refine CtA_of hl0 (by decide) (Nat.le_of_ble_eq_true rfl) ?_
  have bp18499 := gB_any p18499
  refine G_iconst 0 dr_cX17_next_0 (by decide +kernel) ?_
  refine G_istore_n (L' := [(2, .int 0), (0, .ref q18498), (1, .int p18499)]) dr_cX17_next_1 (Nat.le_of_ble_eq_true rfl) rfl ?_
  have hlp2_19703 : ∀ (n2_19703 : Nat) (g19703 : Int32), gB g19703 0 2000 → (∀ (k : Nat) (e1 : Int32), tl_RModel_next_2 D I γ el F18497 q18498 p18499 g19703 k e1 → tl_RModel_next_2 D I γ el F18497 q18498 p18499 (0 : Int32) k e1) → ((2001 : Int) - g19703.toInt).toNat < n2_19703 → G (gV D I) l (gRm 0 0 0 0) (gMA (gV D I) (pt_18500_SpillForgeModel_next D I γ el P18496 F18497 q18498 p18499) gNA 0 0) ky_18500_SpillForgeModel_next 2 [(2, .int g19703), (0, .ref q18498), (1, .int p18499)] [] (va_pl P18496 F18497) 0 0 := by
    intro n2_19703
    induction n2_19703 with
    | zero => intro g19703 bg19703 kt2_19704 hm2_19703; exact absurd hm2_19703 (Nat.not_lt_zero _)
    | succ n2_19703 ih2_19703 =>
      intro g19703 bg19703 kt2_19704 hm2_19703
      refine G_iload_n 0 dr_cX17_next_2 rfl ?_
      refine G_sipush 2000 dr_cX17_next_3 (by decide +kernel) ?_
      refine G_icmp_ge 36 dr_cX17_next_6 (by decide +kernel) (fun hc19705 => ?_) (fun hc19705 => ?_)
      · have r19706 : 2000 ≤ g19703.toInt := gj_leL hc19705 (show Int32.toInt 2000 = 2000 by decide)
        have bg19703' : gB g19703 2000 2000 := ⟨by omega, by omega⟩
        have hx19707 : tl_RModel_next_2 D I γ el F18497 q18498 p18499 (0 : Int32) 36 (0 : Int32) := kt2_19704 36 (0 : Int32) (fun R c1 c2 c3 c4 => c1 g19703 bg19703 r19706)
        refine G_iconst (-1) dr_cX17_next_36 (by decide +kernel) ?_
        refine G_istore_n (L' := [(2, .int (-1)), (0, .ref q18498), (1, .int p18499)]) dr_cX17_next_37 (Nat.le_of_ble_eq_true rfl) rfl ?_
        refine G_iconst 0 dr_cX17_next_38 (by decide +kernel) ?_
        refine G_istore_n (L' := [(3, .int 0), (2, .int (-1)), (0, .ref q18498), (1, .int p18499)]) dr_cX17_next_39 (Nat.le_of_ble_eq_true rfl) rfl ?_
        have hlp40_19849 : ∀ (n40_19849 : Nat) (g19848 : Int32) (g19849 : Int32), gB g19848 0 2000 → gB g19849 (-1) 1999 → (∀ (k : Nat) (e1 : Int32), tl_RModel_next_40 D I γ el F18497 q18498 g19848 g19849 k e1 → tl_RModel_next_40 D I γ el F18497 q18498 (0 : Int32) (-1 : Int32) k e1) → ((2001 : Int) - g19848.toInt).toNat < n40_19849 → G (gV D I) l (gRm 0 0 0 0) (gMA (gV D I) (pt_18500_SpillForgeModel_next D I γ el P18496 F18497 q18498 p18499) gNA 0 0) ky_18500_SpillForgeModel_next 40 [(3, .int g19848), (2, .int g19849), (0, .ref q18498), (1, .int p18499)] [] (va_pl P18496 F18497) 0 0 := by
          intro n40_19849
          induction n40_19849 with
          | zero => intro g19848 g19849 bg19848 bg19849 kt40_19850 hm40_19849; exact absurd hm40_19849 (Nat.not_lt_zero _)
          | succ n40_19849 ih40_19849 =>
            intro g19848 g19849 bg19848 bg19849 kt40_19850 hm40_19849
            refine G_iload_n 0 dr_cX17_next_40 rfl ?_
            refine G_sipush 2000 dr_cX17_next_41 (by decide +kernel) ?_
            refine G_icmp_ge 171 dr_cX17_next_44 (by decide +kernel) (fun hc19851 => ?_) (fun hc19851 => ?_)
            · have r19852 : 2000 ≤ g19848.toInt := gj_leL hc19851 (show Int32.toInt 2000 = 2000 by decide)
              have bg19848' : gB g19848 2000 2000 := ⟨by omega, by omega⟩
              have hx19853 : tl_RModel_next_40 D I γ el F18497 q18498 (0 : Int32) (-1 : Int32) 171 g19849 := kt40_19850 171 g19849 (fun R c1 c2 c3 c4 c5 c6 c7 c8 c9 c10 => c1 g19848 g19849 bg19848 bg19849 r19852)
              refine G_iload_n 1 dr_cX17_next_171 rfl ?_
              exact G_iretA dr_cX17_next_172 rfl (Nat.le_of_ble_eq_true rfl) (Nat.le_of_ble_eq_true rfl) ⟨g19849, rfl, rfl, (Nat.le_of_ble_eq_true rfl), (Nat.le_of_ble_eq_true rfl), bg19849, (fun R c1 c2 => c1 g19849 hx19707 hx19853)⟩
            · have r19854 : g19848.toInt < 2000 := gj_nleL hc19851 (show Int32.toInt 2000 = 2000 by decide)
              have bg19848' : gB g19848 0 1999 := ⟨by omega, by omega⟩
              refine G_aload_n 2 dr_cX17_next_47 rfl ?_
              have hm19855 : q18498 ∈ P18496 := RS_m hT htq18498 (by decide)
              obtain ⟨q19857, q19858, p19859, p19860, p19861, p19862, p19863, p19864, p19865, p19866, p19867, p19868, p19869, p19870, p19871, p19872, p19873, he19856, hB19900, ht19874, ht19875, ht19876, ht19877, ht19878, ht19879, ht19880, ht19881, ht19882, ht19883, ht19884, ht19885, ht19886, ht19887, ht19888, ht19889, ht19890, ht19891, ht19892, ht19893, ht19894, ht19895, ht19896, ht19897, hB19901⟩ := show rk_10 γ (F18497 q18498) from RS_o hT htq18498
              have fq19902 : fR (F18497 q18498) 18 = (γ 9 18) := by rw [he19856]; rfl
              refine Gp_get 18 hm19855 he19856 dr_cX17_next_48 (gk_X17 D I) (Nat.le_of_ble_eq_true rfl) wr_7_92 rfl ?_
              refine G_iload_n 0 dr_cX17_next_51 rfl ?_
              have hm19903 : (γ 9 18) ∈ P18496 := RS_m hT ht19888 (by decide)
              obtain ⟨f19905, he19904, bf19905⟩ := show rk_15 I (F18497 (γ 9 18)) from RS_o hT ht19888
              refine Gp_zald 3 hm19903 he19904 dr_cX17_next_52 rfl (gB_in bg19848' (by decide) (by decide)) (G_nam fun z19906 hz19906 => ?_)
              have bz19906 : gB z19906 0 1 := by rw [hz19906]; exact bf19905 _
              refine G_if_ne 59 dr_cX17_next_53 (by decide +kernel) (fun hc19907 => ?_) (fun hc19907 => ?_)
              · have r19908 : z19906.toInt ≠ 0 := gj_neq hc19907 (show Int32.toInt 0 = 0 by decide)
                have bz19906' : gB z19906 1 1 := ⟨by omega, by omega⟩
                refine G_iload_n 1 dr_cX17_next_59 rfl ?_
                refine G_if_ge 68 dr_cX17_next_60 (by decide +kernel) (fun hc19909 => ?_) (fun hc19909 => ?_)
                · have r19910 : 0 ≤ g19849.toInt := gj_leL hc19909 (show Int32.toInt 0 = 0 by decide)
                  have bg19849' : gB g19849 0 1999 := ⟨by omega, by omega⟩
                  refine G_iload_n 0 dr_cX17_next_68 rfl ?_
                  refine G_bipush 100 dr_cX17_next_69 (by decide +kernel) ?_
                  refine G_icmp_lt 78 dr_cX17_next_71 (by decide +kernel) (fun hc19911 => ?_) (fun hc19911 => ?_)
                  · have r19912 : g19848.toInt < 100 := gj_lt hc19911 (show Int32.toInt 100 = 100 by decide)
                    have bg19848'' : gB g19848 0 99 := ⟨by omega, by omega⟩
                    refine G_iconst 0 dr_cX17_next_78 (by decide +kernel) ?_
                    refine G_istore (L' := [(4, .int 0), (3, .int g19848), (2, .int g19849), (0, .ref q18498), (1, .int p18499)]) dr_cX17_next_79 (Nat.le_of_ble_eq_true rfl) rfl ?_
                    refine G_iload_n 2 dr_cX17_next_81 rfl ?_
                    refine G_bipush 100 dr_cX17_next_82 (by decide +kernel) ?_
                    refine G_icmp_lt 91 dr_cX17_next_84 (by decide +kernel) (fun hc19913 => ?_) (fun hc19913 => ?_)
                    · have r19914 : g19849.toInt < 100 := gj_lt hc19913 (show Int32.toInt 100 = 100 by decide)
                      have bg19849'' : gB g19849 0 99 := ⟨by omega, by omega⟩
                      refine G_iconst 0 dr_cX17_next_91 (by decide +kernel) ?_
                      refine G_istore (L' := [(5, .int 0), (4, .int 0), (3, .int g19848), (2, .int g19849), (0, .ref q18498), (1, .int p18499)]) dr_cX17_next_92 (Nat.le_of_ble_eq_true rfl) rfl ?_
                      refine G_iload 1 dr_cX17_next_94 rfl ?_
                      refine G_if_eq 107 dr_cX17_next_96 (by decide +kernel) (fun _ => ?_) (fun hc => absurd hc (by decide))
                      refine G_aload_n 4 dr_cX17_next_107 rfl ?_
                      have fq19915 : fR (F18497 q18498) 5 = (γ 9 5) := by rw [he19856]; rfl
                      refine Gp_get 5 hm19855 he19856 dr_cX17_next_108 (gk_X17 D I) (Nat.le_of_ble_eq_true rfl) wr_7_79 rfl ?_
                      refine G_iload_n 2 dr_cX17_next_111 rfl ?_
                      have hm19916 : (γ 9 5) ∈ P18496 := RS_m hT ht19881 (by decide)
                      obtain ⟨f19918, he19917⟩ := show rk_17 I (F18497 (γ 9 5)) from RS_o hT ht19881
                      refine Gp_iald 0 hm19916 he19917 dr_cX17_next_112 rfl (gB_in bg19848'' (by decide) (by decide)) (G_nam fun z19919 hz19919 => ?_)
                      have bz19919 : gB z19919 (-2147483648) 2147483647 := gB_any z19919
                      refine G_i2l dr_cX17_next_113 (G_namL fun u19920 hu19920 => ?_)
                      refine G_aload_n 4 dr_cX17_next_114 rfl ?_
                      have fq19921 : fR (F18497 q18498) 16 = (γ 9 16) := by rw [he19856]; rfl
                      refine Gp_get 16 hm19855 he19856 dr_cX17_next_115 (gk_X17 D I) (Nat.le_of_ble_eq_true rfl) wr_7_90 rfl ?_
                      refine G_iload_n 3 dr_cX17_next_118 rfl ?_
                      have hm19922 : (γ 9 16) ∈ P18496 := RS_m hT ht19886 (by decide)
                      obtain ⟨f19924, he19923⟩ := show rk_19 I (F18497 (γ 9 16)) from RS_o hT ht19886
                      refine Gp_iald 0 hm19922 he19923 dr_cX17_next_119 rfl (gB_in bg19849'' (by decide) (by decide)) (G_nam fun z19925 hz19925 => ?_)
                      have bz19925 : gB z19925 (-2147483648) 2147483647 := gB_any z19925
                      refine G_i2l dr_cX17_next_120 (G_namL fun u19926 hu19926 => ?_)
                      refine G_lmul dr_cX17_next_121 (G_namL fun u19927 hu19927 => ?_)
                      refine G_aload_n 4 dr_cX17_next_122 rfl ?_
                      refine Gp_get 5 hm19855 he19856 dr_cX17_next_123 (gk_X17 D I) (Nat.le_of_ble_eq_true rfl) wr_7_79 rfl ?_
                      refine G_iload_n 3 dr_cX17_next_126 rfl ?_
                      refine Gp_iald 0 hm19916 he19917 dr_cX17_next_127 rfl (gB_in bg19849'' (by decide) (by decide)) (G_nam fun z19928 hz19928 => ?_)
                      have bz19928 : gB z19928 (-2147483648) 2147483647 := gB_any z19928
                      refine G_i2l dr_cX17_next_128 (G_namL fun u19929 hu19929 => ?_)
                      refine G_aload_n 4 dr_cX17_next_129 rfl ?_
                      refine Gp_get 16 hm19855 he19856 dr_cX17_next_130 (gk_X17 D I) (Nat.le_of_ble_eq_true rfl) wr_7_90 rfl ?_
                      refine G_iload_n 2 dr_cX17_next_133 rfl ?_
                      refine Gp_iald 0 hm19922 he19923 dr_cX17_next_134 rfl (gB_in bg19848'' (by decide) (by decide)) (G_nam fun z19930 hz19930 => ?_)
                      have bz19930 : gB z19930 (-2147483648) 2147483647 := gB_any z19930
                      refine G_i2l dr_cX17_next_135 (G_namL fun u19931 hu19931 => ?_)
                      refine G_lmul dr_cX17_next_136 (G_namL fun u19932 hu19932 => ?_)
                      refine G_lcmp dr_cX17_next_137 (G_nam fun z19933 hz19933 => ?_)
                      have bz19933 : gB z19933 (-1) 1 := gB_cmp hz19933
                      refine G_if_ge 145 dr_cX17_next_138 (by decide +kernel) (fun hc19934 => ?_) (fun hc19934 => ?_)
                      · have r19935 : 0 ≤ z19933.toInt := gj_leL hc19934 (show Int32.toInt 0 = 0 by decide)
                        have bz19933' : gB z19933 0 1 := ⟨by omega, by omega⟩
                        refine G_iconst 0 dr_cX17_next_145 (by decide +kernel) ?_
                        refine G_istore (L' := [(6, .int 0), (5, .int 0), (4, .int 0), (3, .int g19848), (2, .int g19849), (0, .ref q18498), (1, .int p18499)]) dr_cX17_next_146 (Nat.le_of_ble_eq_true rfl) rfl ?_
                        refine G_iload 2 dr_cX17_next_148 rfl ?_
                        refine G_if_ne 158 dr_cX17_next_150 (by decide +kernel) (fun hc => absurd hc (by decide)) (fun _ => ?_)
                        refine G_iload 1 dr_cX17_next_153 rfl ?_
                        refine G_if_ne 163 dr_cX17_next_155 (by decide +kernel) (fun hc => absurd hc (by decide)) (fun _ => ?_)
                        refine G_iload 0 dr_cX17_next_158 rfl ?_
                        refine G_if_eq 165 dr_cX17_next_160 (by decide +kernel) (fun _ => ?_) (fun hc => absurd hc (by decide))
                        obtain ⟨z19936, hz19936⟩ : ∃ z : Int32, z = g19848 + Int32.ofInt 1 := ⟨_, rfl⟩
                        have ez19936 : z19936.toInt = g19848.toInt + 1 := gI_inc hz19936 (by decide) bg19848'' (by decide) (by decide)
                        have bz19936 : gB z19936 1 100 := ⟨by omega, by omega⟩
                        refine G_iinc (L' := [(3, .int z19936), (6, .int 0), (5, .int 0), (4, .int 0), (2, .int g19849), (0, .ref q18498), (1, .int p18499)]) z19936 3 dr_cX17_next_165 rfl hz19936.symm (Nat.le_of_ble_eq_true rfl) rfl ?_
                        refine G_goto 40 dr_cX17_next_168 (by decide +kernel) ?_
                        refine G_lv (L' := [(3, .int z19936), (2, .int g19849), (0, .ref q18498), (1, .int p18499)]) [0, 4, 5, 6] rfl ?_
                        exact ih40_19849 z19936 g19849 (gB_w bz19936 (by decide) (by decide)) (gB_w bg19849'' (by decide) (by decide)) (fun k e1 ht => kt40_19850 k e1 (fun R c1 c2 c3 c4 c5 c6 c7 c8 c9 c10 => c2 g19848 g19849 f19905 z19906 f19918 z19919 u19920 f19924 z19925 u19926 u19927 z19928 u19929 z19930 u19931 u19932 z19933 z19936 k e1 bg19848 bg19849 r19854 fq19902 he19904 hz19906 bz19906 r19908 r19910 r19912 r19914 fq19915 he19917 hz19919 hu19920 fq19921 he19923 hz19925 hu19926 hu19927 hz19928 hu19929 hz19930 hu19931 hu19932 hz19933 r19935 ez19936 (ht R c1 c2 c3 c4 c5 c6 c7 c8 c9 c10))) (by omega)
                      · have r19937 : z19933.toInt < 0 := gj_nleL hc19934 (show Int32.toInt 0 = 0 by decide)
                        have bz19933' : gB z19933 (-1) (-1) := ⟨by omega, by omega⟩
                        have lhc19934 := gC_cmpS hz19933 (by omega)
                        refine G_iconst 1 dr_cX17_next_141 (by decide +kernel) ?_
                        refine G_goto 146 dr_cX17_next_142 (by decide +kernel) ?_
                        refine G_istore (L' := [(6, .int 1), (5, .int 0), (4, .int 0), (3, .int g19848), (2, .int g19849), (0, .ref q18498), (1, .int p18499)]) dr_cX17_next_146 (Nat.le_of_ble_eq_true rfl) rfl ?_
                        refine G_iload 2 dr_cX17_next_148 rfl ?_
                        refine G_if_ne 158 dr_cX17_next_150 (by decide +kernel) (fun hc => absurd hc (by decide)) (fun _ => ?_)
                        refine G_iload 1 dr_cX17_next_153 rfl ?_
                        refine G_if_ne 163 dr_cX17_next_155 (by decide +kernel) (fun hc => absurd hc (by decide)) (fun _ => ?_)
                        refine G_iload 0 dr_cX17_next_158 rfl ?_
                        refine G_if_eq 165 dr_cX17_next_160 (by decide +kernel) (fun hc => absurd hc (by decide)) (fun _ => ?_)
                        refine G_iload_n 3 dr_cX17_next_163 rfl ?_
                        refine G_istore_n (L' := [(2, .int g19848), (6, .int 1), (5, .int 0), (4, .int 0), (3, .int g19848), (0, .ref q18498), (1, .int p18499)]) dr_cX17_next_164 (Nat.le_of_ble_eq_true rfl) rfl ?_
                        obtain ⟨z19938, hz19938⟩ : ∃ z : Int32, z = g19848 + Int32.ofInt 1 := ⟨_, rfl⟩
                        have ez19938 : z19938.toInt = g19848.toInt + 1 := gI_inc hz19938 (by decide) bg19848'' (by decide) (by decide)
                        have bz19938 : gB z19938 1 100 := ⟨by omega, by omega⟩
                        refine G_iinc (L' := [(3, .int z19938), (2, .int g19848), (6, .int 1), (5, .int 0), (4, .int 0), (0, .ref q18498), (1, .int p18499)]) z19938 4 dr_cX17_next_165 rfl hz19938.symm (Nat.le_of_ble_eq_true rfl) rfl ?_
                        refine G_goto 40 dr_cX17_next_168 (by decide +kernel) ?_
                        refine G_lv (L' := [(3, .int z19938), (2, .int g19848), (0, .ref q18498), (1, .int p18499)]) [0, 1, 5, 6] rfl ?_
                        exact ih40_19849 z19938 g19848 (gB_w bz19938 (by decide) (by decide)) (gB_w bg19848'' (by decide) (by decide)) (fun k e1 ht => kt40_19850 k e1 (fun R c1 c2 c3 c4 c5 c6 c7 c8 c9 c10 => c3 g19848 g19849 f19905 z19906 f19918 z19919 u19920 f19924 z19925 u19926 u19927 z19928 u19929 z19930 u19931 u19932 z19933 z19938 k e1 bg19848 bg19849 r19854 fq19902 he19904 hz19906 bz19906 r19908 r19910 r19912 r19914 fq19915 he19917 hz19919 hu19920 fq19921 he19923 hz19925 hu19926 hu19927 hz19928 hu19929 hz19930 hu19931 hu19932 hz19933 r19937 ez19938 (ht R c1 c2 c3 c4 c5 c6 c7 c8 c9 c10))) (by omega)
                    · have r19939 : 100 ≤ g19849.toInt := gj_nlt hc19913 (show Int32.toInt 100 = 100 by decide)
                      have bg19849'' : gB g19849 100 1999 := ⟨by omega, by omega⟩
                      refine G_iconst 1 dr_cX17_next_87 (by decide +kernel) ?_
                      refine G_goto 92 dr_cX17_next_88 (by decide +kernel) ?_
                      refine G_istore (L' := [(5, .int 1), (4, .int 0), (3, .int g19848), (2, .int g19849), (0, .ref q18498), (1, .int p18499)]) dr_cX17_next_92 (Nat.le_of_ble_eq_true rfl) rfl ?_
                      refine G_iload 1 dr_cX17_next_94 rfl ?_
                      refine G_if_eq 107 dr_cX17_next_96 (by decide +kernel) (fun _ => ?_) (fun hc => absurd hc (by decide))
                      refine G_aload_n 4 dr_cX17_next_107 rfl ?_
                      have fq19940 : fR (F18497 q18498) 5 = (γ 9 5) := by rw [he19856]; rfl
                      refine Gp_get 5 hm19855 he19856 dr_cX17_next_108 (gk_X17 D I) (Nat.le_of_ble_eq_true rfl) wr_7_79 rfl ?_
                      refine G_iload_n 2 dr_cX17_next_111 rfl ?_
                      have hm19941 : (γ 9 5) ∈ P18496 := RS_m hT ht19881 (by decide)
                      obtain ⟨f19943, he19942⟩ := show rk_17 I (F18497 (γ 9 5)) from RS_o hT ht19881
                      refine Gp_iald 0 hm19941 he19942 dr_cX17_next_112 rfl (gB_in bg19848'' (by decide) (by decide)) (G_nam fun z19944 hz19944 => ?_)
                      have bz19944 : gB z19944 (-2147483648) 2147483647 := gB_any z19944
                      refine G_i2l dr_cX17_next_113 (G_namL fun u19945 hu19945 => ?_)
                      refine G_aload_n 4 dr_cX17_next_114 rfl ?_
                      have fq19946 : fR (F18497 q18498) 16 = (γ 9 16) := by rw [he19856]; rfl
                      refine Gp_get 16 hm19855 he19856 dr_cX17_next_115 (gk_X17 D I) (Nat.le_of_ble_eq_true rfl) wr_7_90 rfl ?_
                      refine G_iload_n 3 dr_cX17_next_118 rfl ?_
                      have hm19947 : (γ 9 16) ∈ P18496 := RS_m hT ht19886 (by decide)
                      obtain ⟨f19949, he19948⟩ := show rk_19 I (F18497 (γ 9 16)) from RS_o hT ht19886
                      refine Gp_iald 0 hm19947 he19948 dr_cX17_next_119 rfl (gB_in bg19849'' (by decide) (by decide)) (G_nam fun z19950 hz19950 => ?_)
                      have bz19950 : gB z19950 (-2147483648) 2147483647 := gB_any z19950
                      refine G_i2l dr_cX17_next_120 (G_namL fun u19951 hu19951 => ?_)
                      refine G_lmul dr_cX17_next_121 (G_namL fun u19952 hu19952 => ?_)
                      refine G_aload_n 4 dr_cX17_next_122 rfl ?_
                      refine Gp_get 5 hm19855 he19856 dr_cX17_next_123 (gk_X17 D I) (Nat.le_of_ble_eq_true rfl) wr_7_79 rfl ?_
                      refine G_iload_n 3 dr_cX17_next_126 rfl ?_
                      refine Gp_iald 0 hm19941 he19942 dr_cX17_next_127 rfl (gB_in bg19849'' (by decide) (by decide)) (G_nam fun z19953 hz19953 => ?_)
                      have bz19953 : gB z19953 (-2147483648) 2147483647 := gB_any z19953
                      refine G_i2l dr_cX17_next_128 (G_namL fun u19954 hu19954 => ?_)
                      refine G_aload_n 4 dr_cX17_next_129 rfl ?_
                      refine Gp_get 16 hm19855 he19856 dr_cX17_next_130 (gk_X17 D I) (Nat.le_of_ble_eq_true rfl) wr_7_90 rfl ?_
                      refine G_iload_n 2 dr_cX17_next_133 rfl ?_
                      refine Gp_iald 0 hm19947 he19948 dr_cX17_next_134 rfl (gB_in bg19848'' (by decide) (by decide)) (G_nam fun z19955 hz19955 => ?_)
                      have bz19955 : gB z19955 (-2147483648) 2147483647 := gB_any z19955
                      refine G_i2l dr_cX17_next_135 (G_namL fun u19956 hu19956 => ?_)
                      refine G_lmul dr_cX17_next_136 (G_namL fun u19957 hu19957 => ?_)
                      refine G_lcmp dr_cX17_next_137 (G_nam fun z19958 hz19958 => ?_)
                      have bz19958 : gB z19958 (-1) 1 := gB_cmp hz19958
                      refine G_if_ge 145 dr_cX17_next_138 (by decide +kernel) (fun hc19959 => ?_) (fun hc19959 => ?_)
                      · have r19960 : 0 ≤ z19958.toInt := gj_leL hc19959 (show Int32.toInt 0 = 0 by decide)
                        have bz19958' : gB z19958 0 1 := ⟨by omega, by omega⟩
                        refine G_iconst 0 dr_cX17_next_145 (by decide +kernel) ?_
                        refine G_istore (L' := [(6, .int 0), (5, .int 1), (4, .int 0), (3, .int g19848), (2, .int g19849), (0, .ref q18498), (1, .int p18499)]) dr_cX17_next_146 (Nat.le_of_ble_eq_true rfl) rfl ?_
                        refine G_iload 2 dr_cX17_next_148 rfl ?_
                        refine G_if_ne 158 dr_cX17_next_150 (by decide +kernel) (fun hc => absurd hc (by decide)) (fun _ => ?_)
                        refine G_iload 1 dr_cX17_next_153 rfl ?_
                        refine G_if_ne 163 dr_cX17_next_155 (by decide +kernel) (fun _ => ?_) (fun hc => absurd hc (by decide))
                        refine G_iload_n 3 dr_cX17_next_163 rfl ?_
                        refine G_istore_n (L' := [(2, .int g19848), (6, .int 0), (5, .int 1), (4, .int 0), (3, .int g19848), (0, .ref q18498), (1, .int p18499)]) dr_cX17_next_164 (Nat.le_of_ble_eq_true rfl) rfl ?_
                        obtain ⟨z19961, hz19961⟩ : ∃ z : Int32, z = g19848 + Int32.ofInt 1 := ⟨_, rfl⟩
                        have ez19961 : z19961.toInt = g19848.toInt + 1 := gI_inc hz19961 (by decide) bg19848'' (by decide) (by decide)
                        have bz19961 : gB z19961 1 100 := ⟨by omega, by omega⟩
                        refine G_iinc (L' := [(3, .int z19961), (2, .int g19848), (6, .int 0), (5, .int 1), (4, .int 0), (0, .ref q18498), (1, .int p18499)]) z19961 4 dr_cX17_next_165 rfl hz19961.symm (Nat.le_of_ble_eq_true rfl) rfl ?_
                        refine G_goto 40 dr_cX17_next_168 (by decide +kernel) ?_
                        refine G_lv (L' := [(3, .int z19961), (2, .int g19848), (0, .ref q18498), (1, .int p18499)]) [0, 1, 5, 6] rfl ?_
                        exact ih40_19849 z19961 g19848 (gB_w bz19961 (by decide) (by decide)) (gB_w bg19848'' (by decide) (by decide)) (fun k e1 ht => kt40_19850 k e1 (fun R c1 c2 c3 c4 c5 c6 c7 c8 c9 c10 => c4 g19848 g19849 f19905 z19906 f19943 z19944 u19945 f19949 z19950 u19951 u19952 z19953 u19954 z19955 u19956 u19957 z19958 z19961 k e1 bg19848 bg19849 r19854 fq19902 he19904 hz19906 bz19906 r19908 r19910 r19912 r19939 fq19940 he19942 hz19944 hu19945 fq19946 he19948 hz19950 hu19951 hu19952 hz19953 hu19954 hz19955 hu19956 hu19957 hz19958 r19960 ez19961 (ht R c1 c2 c3 c4 c5 c6 c7 c8 c9 c10))) (by omega)
                      · have r19962 : z19958.toInt < 0 := gj_nleL hc19959 (show Int32.toInt 0 = 0 by decide)
                        have bz19958' : gB z19958 (-1) (-1) := ⟨by omega, by omega⟩
                        have lhc19959 := gC_cmpS hz19958 (by omega)
                        refine G_iconst 1 dr_cX17_next_141 (by decide +kernel) ?_
                        refine G_goto 146 dr_cX17_next_142 (by decide +kernel) ?_
                        refine G_istore (L' := [(6, .int 1), (5, .int 1), (4, .int 0), (3, .int g19848), (2, .int g19849), (0, .ref q18498), (1, .int p18499)]) dr_cX17_next_146 (Nat.le_of_ble_eq_true rfl) rfl ?_
                        refine G_iload 2 dr_cX17_next_148 rfl ?_
                        refine G_if_ne 158 dr_cX17_next_150 (by decide +kernel) (fun hc => absurd hc (by decide)) (fun _ => ?_)
                        refine G_iload 1 dr_cX17_next_153 rfl ?_
                        refine G_if_ne 163 dr_cX17_next_155 (by decide +kernel) (fun _ => ?_) (fun hc => absurd hc (by decide))
                        refine G_iload_n 3 dr_cX17_next_163 rfl ?_
                        refine G_istore_n (L' := [(2, .int g19848), (6, .int 1), (5, .int 1), (4, .int 0), (3, .int g19848), (0, .ref q18498), (1, .int p18499)]) dr_cX17_next_164 (Nat.le_of_ble_eq_true rfl) rfl ?_
                        obtain ⟨z19963, hz19963⟩ : ∃ z : Int32, z = g19848 + Int32.ofInt 1 := ⟨_, rfl⟩
                        have ez19963 : z19963.toInt = g19848.toInt + 1 := gI_inc hz19963 (by decide) bg19848'' (by decide) (by decide)
                        have bz19963 : gB z19963 1 100 := ⟨by omega, by omega⟩
                        refine G_iinc (L' := [(3, .int z19963), (2, .int g19848), (6, .int 1), (5, .int 1), (4, .int 0), (0, .ref q18498), (1, .int p18499)]) z19963 4 dr_cX17_next_165 rfl hz19963.symm (Nat.le_of_ble_eq_true rfl) rfl ?_
                        refine G_goto 40 dr_cX17_next_168 (by decide +kernel) ?_
                        refine G_lv (L' := [(3, .int z19963), (2, .int g19848), (0, .ref q18498), (1, .int p18499)]) [0, 1, 5, 6] rfl ?_
                        exact ih40_19849 z19963 g19848 (gB_w bz19963 (by decide) (by decide)) (gB_w bg19848'' (by decide) (by decide)) (fun k e1 ht => kt40_19850 k e1 (fun R c1 c2 c3 c4 c5 c6 c7 c8 c9 c10 => c5 g19848 g19849 f19905 z19906 f19943 z19944 u19945 f19949 z19950 u19951 u19952 z19953 u19954 z19955 u19956 u19957 z19958 z19963 k e1 bg19848 bg19849 r19854 fq19902 he19904 hz19906 bz19906 r19908 r19910 r19912 r19939 fq19940 he19942 hz19944 hu19945 fq19946 he19948 hz19950 hu19951 hu19952 hz19953 hu19954 hz19955 hu19956 hu19957 hz19958 r19962 ez19963 (ht R c1 c2 c3 c4 c5 c6 c7 c8 c9 c10))) (by omega)
                  · have r19964 : 100 ≤ g19848.toInt := gj_nlt hc19911 (show Int32.toInt 100 = 100 by decide)
                    have bg19848'' : gB g19848 100 1999 := ⟨by omega, by omega⟩
                    refine G_iconst 1 dr_cX17_next_74 (by decide +kernel) ?_
                    refine G_goto 79 dr_cX17_next_75 (by decide +kernel) ?_
                    refine G_istore (L' := [(4, .int 1), (3, .int g19848), (2, .int g19849), (0, .ref q18498), (1, .int p18499)]) dr_cX17_next_79 (Nat.le_of_ble_eq_true rfl) rfl ?_
                    refine G_iload_n 2 dr_cX17_next_81 rfl ?_
                    refine G_bipush 100 dr_cX17_next_82 (by decide +kernel) ?_
                    refine G_icmp_lt 91 dr_cX17_next_84 (by decide +kernel) (fun hc19965 => ?_) (fun hc19965 => ?_)
                    · have r19966 : g19849.toInt < 100 := gj_lt hc19965 (show Int32.toInt 100 = 100 by decide)
                      have bg19849'' : gB g19849 0 99 := ⟨by omega, by omega⟩
                      refine G_iconst 0 dr_cX17_next_91 (by decide +kernel) ?_
                      refine G_istore (L' := [(5, .int 0), (4, .int 1), (3, .int g19848), (2, .int g19849), (0, .ref q18498), (1, .int p18499)]) dr_cX17_next_92 (Nat.le_of_ble_eq_true rfl) rfl ?_
                      refine G_iload 1 dr_cX17_next_94 rfl ?_
                      refine G_if_eq 107 dr_cX17_next_96 (by decide +kernel) (fun hc => absurd hc (by decide)) (fun _ => ?_)
                      refine G_iload 0 dr_cX17_next_99 rfl ?_
                      refine G_if_ne 107 dr_cX17_next_101 (by decide +kernel) (fun hc => absurd hc (by decide)) (fun _ => ?_)
                      refine G_goto 165 dr_cX17_next_104 (by decide +kernel) ?_
                      obtain ⟨z19967, hz19967⟩ : ∃ z : Int32, z = g19848 + Int32.ofInt 1 := ⟨_, rfl⟩
                      have ez19967 : z19967.toInt = g19848.toInt + 1 := gI_inc hz19967 (by decide) bg19848'' (by decide) (by decide)
                      have bz19967 : gB z19967 101 2000 := ⟨by omega, by omega⟩
                      refine G_iinc (L' := [(3, .int z19967), (5, .int 0), (4, .int 1), (2, .int g19849), (0, .ref q18498), (1, .int p18499)]) z19967 2 dr_cX17_next_165 rfl hz19967.symm (Nat.le_of_ble_eq_true rfl) rfl ?_
                      refine G_goto 40 dr_cX17_next_168 (by decide +kernel) ?_
                      refine G_lv (L' := [(3, .int z19967), (2, .int g19849), (0, .ref q18498), (1, .int p18499)]) [0, 3, 4, 5] rfl ?_
                      exact ih40_19849 z19967 g19849 (gB_w bz19967 (by decide) (by decide)) (gB_w bg19849'' (by decide) (by decide)) (fun k e1 ht => kt40_19850 k e1 (fun R c1 c2 c3 c4 c5 c6 c7 c8 c9 c10 => c6 g19848 g19849 f19905 z19906 z19967 k e1 bg19848 bg19849 r19854 fq19902 he19904 hz19906 bz19906 r19908 r19910 r19964 r19966 ez19967 (ht R c1 c2 c3 c4 c5 c6 c7 c8 c9 c10))) (by omega)
                    · have r19968 : 100 ≤ g19849.toInt := gj_nlt hc19965 (show Int32.toInt 100 = 100 by decide)
                      have bg19849'' : gB g19849 100 1999 := ⟨by omega, by omega⟩
                      refine G_iconst 1 dr_cX17_next_87 (by decide +kernel) ?_
                      refine G_goto 92 dr_cX17_next_88 (by decide +kernel) ?_
                      refine G_istore (L' := [(5, .int 1), (4, .int 1), (3, .int g19848), (2, .int g19849), (0, .ref q18498), (1, .int p18499)]) dr_cX17_next_92 (Nat.le_of_ble_eq_true rfl) rfl ?_
                      refine G_iload 1 dr_cX17_next_94 rfl ?_
                      refine G_if_eq 107 dr_cX17_next_96 (by decide +kernel) (fun hc => absurd hc (by decide)) (fun _ => ?_)
                      refine G_iload 0 dr_cX17_next_99 rfl ?_
                      refine G_if_ne 107 dr_cX17_next_101 (by decide +kernel) (fun _ => ?_) (fun hc => absurd hc (by decide))
                      refine G_aload_n 4 dr_cX17_next_107 rfl ?_
                      have fq19969 : fR (F18497 q18498) 5 = (γ 9 5) := by rw [he19856]; rfl
                      refine Gp_get 5 hm19855 he19856 dr_cX17_next_108 (gk_X17 D I) (Nat.le_of_ble_eq_true rfl) wr_7_79 rfl ?_
                      refine G_iload_n 2 dr_cX17_next_111 rfl ?_
                      have hm19970 : (γ 9 5) ∈ P18496 := RS_m hT ht19881 (by decide)
                      obtain ⟨f19972, he19971⟩ := show rk_17 I (F18497 (γ 9 5)) from RS_o hT ht19881
                      refine Gp_iald 0 hm19970 he19971 dr_cX17_next_112 rfl (gB_in bg19848'' (by decide) (by decide)) (G_nam fun z19973 hz19973 => ?_)
                      have bz19973 : gB z19973 (-2147483648) 2147483647 := gB_any z19973
                      refine G_i2l dr_cX17_next_113 (G_namL fun u19974 hu19974 => ?_)
                      refine G_aload_n 4 dr_cX17_next_114 rfl ?_
                      have fq19975 : fR (F18497 q18498) 16 = (γ 9 16) := by rw [he19856]; rfl
                      refine Gp_get 16 hm19855 he19856 dr_cX17_next_115 (gk_X17 D I) (Nat.le_of_ble_eq_true rfl) wr_7_90 rfl ?_
                      refine G_iload_n 3 dr_cX17_next_118 rfl ?_
                      have hm19976 : (γ 9 16) ∈ P18496 := RS_m hT ht19886 (by decide)
                      obtain ⟨f19978, he19977⟩ := show rk_19 I (F18497 (γ 9 16)) from RS_o hT ht19886
                      refine Gp_iald 0 hm19976 he19977 dr_cX17_next_119 rfl (gB_in bg19849'' (by decide) (by decide)) (G_nam fun z19979 hz19979 => ?_)
                      have bz19979 : gB z19979 (-2147483648) 2147483647 := gB_any z19979
                      refine G_i2l dr_cX17_next_120 (G_namL fun u19980 hu19980 => ?_)
                      refine G_lmul dr_cX17_next_121 (G_namL fun u19981 hu19981 => ?_)
                      refine G_aload_n 4 dr_cX17_next_122 rfl ?_
                      refine Gp_get 5 hm19855 he19856 dr_cX17_next_123 (gk_X17 D I) (Nat.le_of_ble_eq_true rfl) wr_7_79 rfl ?_
                      refine G_iload_n 3 dr_cX17_next_126 rfl ?_
                      refine Gp_iald 0 hm19970 he19971 dr_cX17_next_127 rfl (gB_in bg19849'' (by decide) (by decide)) (G_nam fun z19982 hz19982 => ?_)
                      have bz19982 : gB z19982 (-2147483648) 2147483647 := gB_any z19982
                      refine G_i2l dr_cX17_next_128 (G_namL fun u19983 hu19983 => ?_)
                      refine G_aload_n 4 dr_cX17_next_129 rfl ?_
                      refine Gp_get 16 hm19855 he19856 dr_cX17_next_130 (gk_X17 D I) (Nat.le_of_ble_eq_true rfl) wr_7_90 rfl ?_
                      refine G_iload_n 2 dr_cX17_next_133 rfl ?_
                      refine Gp_iald 0 hm19976 he19977 dr_cX17_next_134 rfl (gB_in bg19848'' (by decide) (by decide)) (G_nam fun z19984 hz19984 => ?_)
                      have bz19984 : gB z19984 (-2147483648) 2147483647 := gB_any z19984
                      refine G_i2l dr_cX17_next_135 (G_namL fun u19985 hu19985 => ?_)
                      refine G_lmul dr_cX17_next_136 (G_namL fun u19986 hu19986 => ?_)
                      refine G_lcmp dr_cX17_next_137 (G_nam fun z19987 hz19987 => ?_)
                      have bz19987 : gB z19987 (-1) 1 := gB_cmp hz19987
                      refine G_if_ge 145 dr_cX17_next_138 (by decide +kernel) (fun hc19988 => ?_) (fun hc19988 => ?_)
                      · have r19989 : 0 ≤ z19987.toInt := gj_leL hc19988 (show Int32.toInt 0 = 0 by decide)
                        have bz19987' : gB z19987 0 1 := ⟨by omega, by omega⟩
                        refine G_iconst 0 dr_cX17_next_145 (by decide +kernel) ?_
                        refine G_istore (L' := [(6, .int 0), (5, .int 1), (4, .int 1), (3, .int g19848), (2, .int g19849), (0, .ref q18498), (1, .int p18499)]) dr_cX17_next_146 (Nat.le_of_ble_eq_true rfl) rfl ?_
                        refine G_iload 2 dr_cX17_next_148 rfl ?_
                        refine G_if_ne 158 dr_cX17_next_150 (by decide +kernel) (fun _ => ?_) (fun hc => absurd hc (by decide))
                        refine G_iload 0 dr_cX17_next_158 rfl ?_
                        refine G_if_eq 165 dr_cX17_next_160 (by decide +kernel) (fun _ => ?_) (fun hc => absurd hc (by decide))
                        obtain ⟨z19990, hz19990⟩ : ∃ z : Int32, z = g19848 + Int32.ofInt 1 := ⟨_, rfl⟩
                        have ez19990 : z19990.toInt = g19848.toInt + 1 := gI_inc hz19990 (by decide) bg19848'' (by decide) (by decide)
                        have bz19990 : gB z19990 101 2000 := ⟨by omega, by omega⟩
                        refine G_iinc (L' := [(3, .int z19990), (6, .int 0), (5, .int 1), (4, .int 1), (2, .int g19849), (0, .ref q18498), (1, .int p18499)]) z19990 3 dr_cX17_next_165 rfl hz19990.symm (Nat.le_of_ble_eq_true rfl) rfl ?_
                        refine G_goto 40 dr_cX17_next_168 (by decide +kernel) ?_
                        refine G_lv (L' := [(3, .int z19990), (2, .int g19849), (0, .ref q18498), (1, .int p18499)]) [0, 4, 5, 6] rfl ?_
                        exact ih40_19849 z19990 g19849 (gB_w bz19990 (by decide) (by decide)) (gB_w bg19849'' (by decide) (by decide)) (fun k e1 ht => kt40_19850 k e1 (fun R c1 c2 c3 c4 c5 c6 c7 c8 c9 c10 => c7 g19848 g19849 f19905 z19906 f19972 z19973 u19974 f19978 z19979 u19980 u19981 z19982 u19983 z19984 u19985 u19986 z19987 z19990 k e1 bg19848 bg19849 r19854 fq19902 he19904 hz19906 bz19906 r19908 r19910 r19964 r19968 fq19969 he19971 hz19973 hu19974 fq19975 he19977 hz19979 hu19980 hu19981 hz19982 hu19983 hz19984 hu19985 hu19986 hz19987 r19989 ez19990 (ht R c1 c2 c3 c4 c5 c6 c7 c8 c9 c10))) (by omega)
                      · have r19991 : z19987.toInt < 0 := gj_nleL hc19988 (show Int32.toInt 0 = 0 by decide)
                        have bz19987' : gB z19987 (-1) (-1) := ⟨by omega, by omega⟩
                        have lhc19988 := gC_cmpS hz19987 (by omega)
                        refine G_iconst 1 dr_cX17_next_141 (by decide +kernel) ?_
                        refine G_goto 146 dr_cX17_next_142 (by decide +kernel) ?_
                        refine G_istore (L' := [(6, .int 1), (5, .int 1), (4, .int 1), (3, .int g19848), (2, .int g19849), (0, .ref q18498), (1, .int p18499)]) dr_cX17_next_146 (Nat.le_of_ble_eq_true rfl) rfl ?_
                        refine G_iload 2 dr_cX17_next_148 rfl ?_
                        refine G_if_ne 158 dr_cX17_next_150 (by decide +kernel) (fun _ => ?_) (fun hc => absurd hc (by decide))
                        refine G_iload 0 dr_cX17_next_158 rfl ?_
                        refine G_if_eq 165 dr_cX17_next_160 (by decide +kernel) (fun hc => absurd hc (by decide)) (fun _ => ?_)
                        refine G_iload_n 3 dr_cX17_next_163 rfl ?_
                        refine G_istore_n (L' := [(2, .int g19848), (6, .int 1), (5, .int 1), (4, .int 1), (3, .int g19848), (0, .ref q18498), (1, .int p18499)]) dr_cX17_next_164 (Nat.le_of_ble_eq_true rfl) rfl ?_
                        obtain ⟨z19992, hz19992⟩ : ∃ z : Int32, z = g19848 + Int32.ofInt 1 := ⟨_, rfl⟩
                        have ez19992 : z19992.toInt = g19848.toInt + 1 := gI_inc hz19992 (by decide) bg19848'' (by decide) (by decide)
                        have bz19992 : gB z19992 101 2000 := ⟨by omega, by omega⟩
                        refine G_iinc (L' := [(3, .int z19992), (2, .int g19848), (6, .int 1), (5, .int 1), (4, .int 1), (0, .ref q18498), (1, .int p18499)]) z19992 4 dr_cX17_next_165 rfl hz19992.symm (Nat.le_of_ble_eq_true rfl) rfl ?_
                        refine G_goto 40 dr_cX17_next_168 (by decide +kernel) ?_
                        refine G_lv (L' := [(3, .int z19992), (2, .int g19848), (0, .ref q18498), (1, .int p18499)]) [0, 1, 5, 6] rfl ?_
                        exact ih40_19849 z19992 g19848 (gB_w bz19992 (by decide) (by decide)) (gB_w bg19848'' (by decide) (by decide)) (fun k e1 ht => kt40_19850 k e1 (fun R c1 c2 c3 c4 c5 c6 c7 c8 c9 c10 => c8 g19848 g19849 f19905 z19906 f19972 z19973 u19974 f19978 z19979 u19980 u19981 z19982 u19983 z19984 u19985 u19986 z19987 z19992 k e1 bg19848 bg19849 r19854 fq19902 he19904 hz19906 bz19906 r19908 r19910 r19964 r19968 fq19969 he19971 hz19973 hu19974 fq19975 he19977 hz19979 hu19980 hu19981 hz19982 hu19983 hz19984 hu19985 hu19986 hz19987 r19991 ez19992 (ht R c1 c2 c3 c4 c5 c6 c7 c8 c9 c10))) (by omega)
                · have r19993 : g19849.toInt < 0 := gj_nleL hc19909 (show Int32.toInt 0 = 0 by decide)
                  have bg19849' : gB g19849 (-1) (-1) := ⟨by omega, by omega⟩
                  refine G_iload_n 0 dr_cX17_next_63 rfl ?_
                  refine G_istore_n (L' := [(2, .int g19848), (3, .int g19848), (0, .ref q18498), (1, .int p18499)]) dr_cX17_next_64 (Nat.le_of_ble_eq_true rfl) rfl ?_
                  refine G_goto 165 dr_cX17_next_65 (by decide +kernel) ?_
                  obtain ⟨z19994, hz19994⟩ : ∃ z : Int32, z = g19848 + Int32.ofInt 1 := ⟨_, rfl⟩
                  have ez19994 : z19994.toInt = g19848.toInt + 1 := gI_inc hz19994 (by decide) bg19848' (by decide) (by decide)
                  have bz19994 : gB z19994 1 2000 := ⟨by omega, by omega⟩
                  refine G_iinc (L' := [(3, .int z19994), (2, .int g19848), (0, .ref q18498), (1, .int p18499)]) z19994 1 dr_cX17_next_165 rfl hz19994.symm (Nat.le_of_ble_eq_true rfl) rfl ?_
                  refine G_goto 40 dr_cX17_next_168 (by decide +kernel) ?_
                  exact ih40_19849 z19994 g19848 (gB_w bz19994 (by decide) (by decide)) (gB_w bg19848' (by decide) (by decide)) (fun k e1 ht => kt40_19850 k e1 (fun R c1 c2 c3 c4 c5 c6 c7 c8 c9 c10 => c9 g19848 g19849 f19905 z19906 z19994 k e1 bg19848 bg19849 r19854 fq19902 he19904 hz19906 bz19906 r19908 r19993 ez19994 (ht R c1 c2 c3 c4 c5 c6 c7 c8 c9 c10))) (by omega)
              · have r19995 : z19906.toInt = 0 := gj_eq hc19907 (show Int32.toInt 0 = 0 by decide)
                have bz19906' : gB z19906 0 0 := ⟨by omega, by omega⟩
                refine G_goto 165 dr_cX17_next_56 (by decide +kernel) ?_
                obtain ⟨z19996, hz19996⟩ : ∃ z : Int32, z = g19848 + Int32.ofInt 1 := ⟨_, rfl⟩
                have ez19996 : z19996.toInt = g19848.toInt + 1 := gI_inc hz19996 (by decide) bg19848' (by decide) (by decide)
                have bz19996 : gB z19996 1 2000 := ⟨by omega, by omega⟩
                refine G_iinc (L' := [(3, .int z19996), (2, .int g19849), (0, .ref q18498), (1, .int p18499)]) z19996 0 dr_cX17_next_165 rfl hz19996.symm (Nat.le_of_ble_eq_true rfl) rfl ?_
                refine G_goto 40 dr_cX17_next_168 (by decide +kernel) ?_
                exact ih40_19849 z19996 g19849 (gB_w bz19996 (by decide) (by decide)) bg19849 (fun k e1 ht => kt40_19850 k e1 (fun R c1 c2 c3 c4 c5 c6 c7 c8 c9 c10 => c10 g19848 g19849 f19905 z19906 z19996 k e1 bg19848 bg19849 r19854 fq19902 he19904 hz19906 bz19906 r19995 ez19996 (ht R c1 c2 c3 c4 c5 c6 c7 c8 c9 c10))) (by omega)
        exact hlp40_19849 (((2001 : Int) - 0).toNat + 1) 0 (-1) (gB_w (gBl (show Int32.toInt 0 = 0 by decide)) (by decide) (by decide)) (gB_w (gBl (show Int32.toInt (-1) = (-1) by decide)) (by decide) (by decide)) (fun k e1 ht => ht) (Nat.lt_succ_self _)
      · have r19997 : g19703.toInt < 2000 := gj_nleL hc19705 (show Int32.toInt 2000 = 2000 by decide)
        have bg19703' : gB g19703 0 1999 := ⟨by omega, by omega⟩
        refine G_aload_n 1 dr_cX17_next_9 rfl ?_
        have hm19998 : q18498 ∈ P18496 := RS_m hT htq18498 (by decide)
        obtain ⟨q20000, q20001, p20002, p20003, p20004, p20005, p20006, p20007, p20008, p20009, p20010, p20011, p20012, p20013, p20014, p20015, p20016, he19999, hB20043, ht20017, ht20018, ht20019, ht20020, ht20021, ht20022, ht20023, ht20024, ht20025, ht20026, ht20027, ht20028, ht20029, ht20030, ht20031, ht20032, ht20033, ht20034, ht20035, ht20036, ht20037, ht20038, ht20039, ht20040, hB20044⟩ := show rk_10 γ (F18497 q18498) from RS_o hT htq18498
        have fq20045 : fR (F18497 q18498) 18 = (γ 9 18) := by rw [he19999]; rfl
        refine Gp_get 18 hm19998 he19999 dr_cX17_next_10 (gk_X17 D I) (Nat.le_of_ble_eq_true rfl) wr_7_92 rfl ?_
        refine G_iload_n 0 dr_cX17_next_13 rfl ?_
        have hm20046 : (γ 9 18) ∈ P18496 := RS_m hT ht20031 (by decide)
        obtain ⟨f20048, he20047, bf20048⟩ := show rk_15 I (F18497 (γ 9 18)) from RS_o hT ht20031
        refine Gp_zald 3 hm20046 he20047 dr_cX17_next_14 rfl (gB_in bg19703' (by decide) (by decide)) (G_nam fun z20049 hz20049 => ?_)
        have bz20049 : gB z20049 0 1 := by rw [hz20049]; exact bf20048 _
        refine G_if_eq 30 dr_cX17_next_15 (by decide +kernel) (fun hc20050 => ?_) (fun hc20050 => ?_)
        · have r20051 : z20049.toInt = 0 := gj_eq hc20050 (show Int32.toInt 0 = 0 by decide)
          have bz20049' : gB z20049 0 0 := ⟨by omega, by omega⟩
          obtain ⟨z20052, hz20052⟩ : ∃ z : Int32, z = g19703 + Int32.ofInt 1 := ⟨_, rfl⟩
          have ez20052 : z20052.toInt = g19703.toInt + 1 := gI_inc hz20052 (by decide) bg19703' (by decide) (by decide)
          have bz20052 : gB z20052 1 2000 := ⟨by omega, by omega⟩
          refine G_iinc (L' := [(2, .int z20052), (0, .ref q18498), (1, .int p18499)]) z20052 0 dr_cX17_next_30 rfl hz20052.symm (Nat.le_of_ble_eq_true rfl) rfl ?_
          refine G_goto 2 dr_cX17_next_33 (by decide +kernel) ?_
          exact ih2_19703 z20052 (gB_w bz20052 (by decide) (by decide)) (fun k e1 ht => kt2_19704 k e1 (fun R c1 c2 c3 c4 => c2 g19703 f20048 z20049 z20052 k e1 bg19703 r19997 fq20045 he20047 hz20049 bz20049 r20051 ez20052 (ht R c1 c2 c3 c4))) (by omega)
        · have r20053 : z20049.toInt ≠ 0 := gj_neq hc20050 (show Int32.toInt 0 = 0 by decide)
          have bz20049' : gB z20049 1 1 := ⟨by omega, by omega⟩
          refine G_aload_n 1 dr_cX17_next_18 rfl ?_
          have fq20054 : fR (F18497 q18498) 16 = (γ 9 16) := by rw [he19999]; rfl
          refine Gp_get 16 hm19998 he19999 dr_cX17_next_19 (gk_X17 D I) (Nat.le_of_ble_eq_true rfl) wr_7_90 rfl ?_
          refine G_iload_n 0 dr_cX17_next_22 rfl ?_
          have hm20055 : (γ 9 16) ∈ P18496 := RS_m hT ht20029 (by decide)
          obtain ⟨f20057, he20056⟩ := show rk_19 I (F18497 (γ 9 16)) from RS_o hT ht20029
          refine Gp_iald 0 hm20055 he20056 dr_cX17_next_23 rfl (gB_in bg19703' (by decide) (by decide)) (G_nam fun z20058 hz20058 => ?_)
          have bz20058 : gB z20058 (-2147483648) 2147483647 := gB_any z20058
          refine G_iload_n 2 dr_cX17_next_24 rfl ?_
          refine G_icmp_ge 30 dr_cX17_next_25 (by decide +kernel) (fun hc20059 => ?_) (fun hc20059 => ?_)
          · have r20060 : p18499.toInt ≤ z20058.toInt := gC_le hc20059
            obtain ⟨z20061, hz20061⟩ : ∃ z : Int32, z = g19703 + Int32.ofInt 1 := ⟨_, rfl⟩
            have ez20061 : z20061.toInt = g19703.toInt + 1 := gI_inc hz20061 (by decide) bg19703' (by decide) (by decide)
            have bz20061 : gB z20061 1 2000 := ⟨by omega, by omega⟩
            refine G_iinc (L' := [(2, .int z20061), (0, .ref q18498), (1, .int p18499)]) z20061 0 dr_cX17_next_30 rfl hz20061.symm (Nat.le_of_ble_eq_true rfl) rfl ?_
            refine G_goto 2 dr_cX17_next_33 (by decide +kernel) ?_
            exact ih2_19703 z20061 (gB_w bz20061 (by decide) (by decide)) (fun k e1 ht => kt2_19704 k e1 (fun R c1 c2 c3 c4 => c3 g19703 f20048 z20049 f20057 z20058 z20061 k e1 bg19703 r19997 fq20045 he20047 hz20049 bz20049 r20053 fq20054 he20056 hz20058 r20060 ez20061 (ht R c1 c2 c3 c4))) (by omega)
          · have r20062 : z20058.toInt < p18499.toInt := gC_nle hc20059
            have bz20058' : gB z20058 (-2147483648) 2147483646 := ⟨by omega, by omega⟩
            have bp18499' : gB p18499 (-2147483647) 2147483647 := ⟨by omega, by omega⟩
            have hx20063 : tl_RModel_next_2 D I γ el F18497 q18498 p18499 (0 : Int32) 28 g19703 := kt2_19704 28 g19703 (fun R c1 c2 c3 c4 => c4 g19703 f20048 z20049 f20057 z20058 bg19703 r19997 fq20045 he20047 hz20049 bz20049 r20053 fq20054 he20056 hz20058 r20062)
            refine G_iload_n 0 dr_cX17_next_28 rfl ?_
            exact G_iretA dr_cX17_next_29 rfl (Nat.le_of_ble_eq_true rfl) (Nat.le_of_ble_eq_true rfl) ⟨g19703, rfl, rfl, (Nat.le_of_ble_eq_true rfl), (Nat.le_of_ble_eq_true rfl), (gB_w bg19703' (by decide) (by decide)), (fun R c1 c2 => c2 g19703 hx20063)⟩
  exact hlp2_19703 (((2001 : Int) - 0).toNat + 1) 0 (gB_w (gBl (show Int32.toInt 0 = 0 by decide)) (by decide) (by decide)) (fun k e1 ht => ht) (Nat.lt_succ_self _)
/- tl_RModel_findDepth_342: F, l4; out: F -/
def tl_RModel_findDepth_342 (D : va_G) (I : FieldType → ClassId) (γ el : Nat → Nat → Nat) (P : List Nat) (F : Nat → va_E) (q1 : Nat) (q0 : Nat) (s1 : Nat → va_E) (s2 : Int32) (k : Nat) (e1 : Nat → va_E) : Prop := ∀ R : (Nat → va_E) → (Int32) → Nat → (Nat → va_E) → Prop,
  (∀ (F_1 : Nat → va_E) (l4_1 : Int32) (x1 : Int32), gB l4_1 0 1000000 → RS D I P F_1 γ el → rStr γ [] F F_1 → fI (F_1 q1) 3 = x1 → x1.toInt ≤ l4_1.toInt → R F_1 l4_1 375 F_1) →
  (∀ (F_1 : Nat → va_E) (l4_1 : Int32) (x1 : Int32) (x2 : Nat → Int32) (x3 : Int32) (x4 : Int32) (x5 : Nat → Int32) (x6 : Nat → va_E) (x7 : Int32) (k : Nat) (e1 : Nat → va_E), gB l4_1 0 1000000 → RS D I P F_1 γ el → rStr γ [] F F_1 → fI (F_1 q1) 3 = x1 → l4_1.toInt < x1.toInt → fR (F_1 q0) 4 = (γ 9 4) → F_1 (γ 9 4) = .inl (I .int, 40, .inl x2) → x3 = x2 l4_1.toNatClampNeg → (x3.toInt ≥ x4.toInt ∧ 4 ≥ x4.toInt ∧ (x4.toInt = x3.toInt ∨ x4.toInt = 4)) → x5 = upd x2 l4_1.toNatClampNeg x4 → (∀ b, b ≠ (γ 9 4) → x6 b = F_1 b) → x6 (γ 9 4) = .inl (I .int, 40, .inl x5) → x7.toInt = l4_1.toInt + 1 → R x6 x7 k e1 → R F_1 l4_1 k e1) →
  R s1 s2 k e1
/- tl_RModel_findDepth_300: F, l10; out: F -/
def tl_RModel_findDepth_300 (D : va_G) (I : FieldType → ClassId) (γ el : Nat → Nat → Nat) (P : List Nat) (F : Nat → va_E) (q1 : Nat) (q0 : Nat) (l7_2 : Int64) (s1 : Nat → va_E) (s2 : Int32) (k : Nat) (e1 : Nat → va_E) : Prop := ∀ R : (Nat → va_E) → (Int32) → Nat → (Nat → va_E) → Prop,
  (∀ (F_2 : Nat → va_E) (l10_2 : Int32) (x1 : Int32), gB l10_2 0 1000000 → RS D I P F_2 γ el → rStr γ [] F F_2 → fI (F_2 q1) 3 = x1 → x1.toInt ≤ l10_2.toInt → R F_2 l10_2 333 F_2) →
  (∀ (F_2 : Nat → va_E) (l10_2 : Int32) (x1 : Int32) (x2 : Nat → Int32) (x3 : Int32) (x4 : Int64) (x5 : Int64) (x6 : Int32) (x7 : Int32) (x8 : Nat → Int32) (x9 : Nat → va_E) (x10 : Int32) (k : Nat) (e1 : Nat → va_E), gB l10_2 0 1000000 → RS D I P F_2 γ el → rStr γ [] F F_2 → fI (F_2 q1) 3 = x1 → l10_2.toInt < x1.toInt → fR (F_2 q0) 4 = (γ 9 4) → F_2 (γ 9 4) = .inl (I .int, 40, .inl x2) → x3 = x2 l10_2.toNatClampNeg → x4 = (l7_2.toUInt64 >>> (l10_2.toInt64.toUInt64 &&& Int64.toUInt64 63)).toInt64 → x5 = x4 &&& (1 : Int64) → x6 = x5.toInt32 → x7 = x3 + x6 → x8 = upd x2 l10_2.toNatClampNeg x7 → (∀ b, b ≠ (γ 9 4) → x9 b = F_2 b) → x9 (γ 9 4) = .inl (I .int, 40, .inl x8) → x10.toInt = l10_2.toInt + 1 → R x9 x10 k e1 → R F_2 l10_2 k e1) →
  R s1 s2 k e1
/- tl_RModel_findDepth_199: l12, l11; out: l11 -/
def tl_RModel_findDepth_199 (D : va_G) (I : FieldType → ClassId) (γ el : Nat → Nat → Nat) (F_1 : Nat → va_E) (q1 : Nat) (l10_3 : Int32) (l4_1 : Int32) (l7_3 : Int64) (s1 : Int32) (s2 : Int32) (k : Nat) (e1 : Int32) : Prop := ∀ R : (Int32) → (Int32) → Nat → (Int32) → Prop,
  (∀ (l12_4 : Int32) (l11_4 : Int32) (x1 : Nat) (x2 : Nat) (x3 : Int32) (x4 : Int32) (x5 : Int32) (x6 : Nat) (x7 : Int32) (x8 : Int32), gB l12_4 0 2 → gB l11_4 0 1 → fR (F_1 q1) 0 = x1 → x2 = el x1 l10_3.toInt.toNat → fI (F_1 x1) 2 = x3 → tr_RCode_get l10_3 x3 → fI (F_1 x2) 2 = x4 → fI (F_1 x2) 3 = x5 → fR (F_1 x2) 1 = x6 → fI (F_1 x6) 0 = x7 → gB x8 0 2 → tr_RBlock_ways x4 x5 x7 x8 → x8.toInt ≤ l12_4.toInt → R l12_4 l11_4 268 l11_4) →
  (∀ (l12_4 : Int32) (l11_4 : Int32) (x1 : Nat) (x2 : Nat) (x3 : Int32) (x4 : Int32) (x5 : Int32) (x6 : Nat) (x7 : Int32) (x8 : Int32) (x9 : Int32) (k : Nat) (e1 : Int32), gB l12_4 0 2 → gB l11_4 0 1 → fR (F_1 q1) 0 = x1 → x2 = el x1 l10_3.toInt.toNat → fI (F_1 x1) 2 = x3 → tr_RCode_get l10_3 x3 → fI (F_1 x2) 2 = x4 → fI (F_1 x2) 3 = x5 → fR (F_1 x2) 1 = x6 → fI (F_1 x6) 0 = x7 → gB x8 0 2 → tr_RBlock_ways x4 x5 x7 x8 → l12_4.toInt < x8.toInt → l11_4.toInt ≠ 0 → x9.toInt = l12_4.toInt + 1 → R x9 (1 : Int32) k e1 → R l12_4 l11_4 k e1) →
  (∀ (l12_4 : Int32) (l11_4 : Int32) (x1 : Nat) (x2 : Nat) (x3 : Int32) (x4 : Int32) (x5 : Int32) (x6 : Nat) (x7 : Int32) (x8 : Int32) (x9 : Int32) (x10 : Int32) (k : Nat) (e1 : Int32), gB l12_4 0 2 → gB l11_4 0 1 → fR (F_1 q1) 0 = x1 → x2 = el x1 l10_3.toInt.toNat → fI (F_1 x1) 2 = x3 → tr_RCode_get l10_3 x3 → fI (F_1 x2) 2 = x4 → fI (F_1 x2) 3 = x5 → fR (F_1 x2) 1 = x6 → fI (F_1 x6) 0 = x7 → gB x8 0 2 → tr_RBlock_ways x4 x5 x7 x8 → l12_4.toInt < x8.toInt → l11_4.toInt = 0 → tr_RCode_get l10_3 x3 → gB x9 0 39 → tr_RBlock_way2 l12_4 x4 x5 x9 → x9.toInt = l4_1.toInt → x10.toInt = l12_4.toInt + 1 → R x10 (0 : Int32) k e1 → R l12_4 l11_4 k e1) →
  (∀ (l12_4 : Int32) (l11_4 : Int32) (x1 : Nat) (x2 : Nat) (x3 : Int32) (x4 : Int32) (x5 : Int32) (x6 : Nat) (x7 : Int32) (x8 : Int32) (x9 : Int32) (x10 : Int32) (x11 : Int64) (x12 : Int64) (x13 : Int32) (k : Nat) (e1 : Int32), gB l12_4 0 2 → gB l11_4 0 1 → fR (F_1 q1) 0 = x1 → x2 = el x1 l10_3.toInt.toNat → fI (F_1 x1) 2 = x3 → tr_RCode_get l10_3 x3 → fI (F_1 x2) 2 = x4 → fI (F_1 x2) 3 = x5 → fR (F_1 x2) 1 = x6 → fI (F_1 x6) 0 = x7 → gB x8 0 2 → tr_RBlock_ways x4 x5 x7 x8 → l12_4.toInt < x8.toInt → l11_4.toInt = 0 → tr_RCode_get l10_3 x3 → gB x9 0 39 → tr_RBlock_way2 l12_4 x4 x5 x9 → x9.toInt ≠ l4_1.toInt → tr_RCode_get l10_3 x3 → gB x10 0 39 → tr_RBlock_way2 l12_4 x4 x5 x10 → x11 = (l7_3.toUInt64 >>> (x10.toInt64.toUInt64 &&& Int64.toUInt64 63)).toInt64 → x12 = x11 &&& (1 : Int64) → x12 = (0 : Int64) → x13.toInt = l12_4.toInt + 1 → R x13 (0 : Int32) k e1 → R l12_4 l11_4 k e1) →
  (∀ (l12_4 : Int32) (l11_4 : Int32) (x1 : Nat) (x2 : Nat) (x3 : Int32) (x4 : Int32) (x5 : Int32) (x6 : Nat) (x7 : Int32) (x8 : Int32) (x9 : Int32) (x10 : Int32) (x11 : Int64) (x12 : Int64) (x13 : Int32) (k : Nat) (e1 : Int32), gB l12_4 0 2 → gB l11_4 0 1 → fR (F_1 q1) 0 = x1 → x2 = el x1 l10_3.toInt.toNat → fI (F_1 x1) 2 = x3 → tr_RCode_get l10_3 x3 → fI (F_1 x2) 2 = x4 → fI (F_1 x2) 3 = x5 → fR (F_1 x2) 1 = x6 → fI (F_1 x6) 0 = x7 → gB x8 0 2 → tr_RBlock_ways x4 x5 x7 x8 → l12_4.toInt < x8.toInt → l11_4.toInt = 0 → tr_RCode_get l10_3 x3 → gB x9 0 39 → tr_RBlock_way2 l12_4 x4 x5 x9 → x9.toInt ≠ l4_1.toInt → tr_RCode_get l10_3 x3 → gB x10 0 39 → tr_RBlock_way2 l12_4 x4 x5 x10 → x11 = (l7_3.toUInt64 >>> (x10.toInt64.toUInt64 &&& Int64.toUInt64 63)).toInt64 → x12 = x11 &&& (1 : Int64) → (¬ x12 = (0 : Int64)) → x13.toInt = l12_4.toInt + 1 → R x13 (1 : Int32) k e1 → R l12_4 l11_4 k e1) →
  R s1 s2 k e1
/- tl_RModel_findDepth_158: l10, l9, l7; out: l9, l7 -/
def tl_RModel_findDepth_158 (D : va_G) (I : FieldType → ClassId) (γ el : Nat → Nat → Nat) (l7_2 : Int64) (F_1 : Nat → va_E) (q1 : Nat) (c1 : Int64) (l4_1 : Int32) (s1 : Int32) (s2 : Int32) (s3 : Int64) (k : Nat) (e1 : Int32) (e2 : Int64) : Prop := ∀ R : (Int32) → (Int32) → (Int64) → Nat → (Int32) → (Int64) → Prop,
  (∀ (l10_3 : Int32) (l9_3 : Int32) (l7_3 : Int64) (x1 : Int32), gB l10_3 0 1000000 → gB l9_3 0 1 → rpop l7_3 ≤ 64 → rpop l7_2 + ((l9_3.toInt : Int)).toNat ≤ rpop l7_3 → fI (F_1 q1) 3 = x1 → x1.toInt ≤ l10_3.toInt → R l10_3 l9_3 l7_3 294 l9_3 l7_3) →
  (∀ (l10_3 : Int32) (l9_3 : Int32) (l7_3 : Int64) (x1 : Int32) (x2 : Int64) (x3 : Int64) (x4 : Int32) (k : Nat) (e1 : Int32) (e2 : Int64), gB l10_3 0 1000000 → gB l9_3 0 1 → rpop l7_3 ≤ 64 → rpop l7_2 + ((l9_3.toInt : Int)).toNat ≤ rpop l7_3 → fI (F_1 q1) 3 = x1 → l10_3.toInt < x1.toInt → x2 = (l7_3.toUInt64 >>> (l10_3.toInt64.toUInt64 &&& Int64.toUInt64 63)).toInt64 → x3 = x2 &&& (1 : Int64) → (¬ x3 = (0 : Int64)) → x4.toInt = l10_3.toInt + 1 → R x4 l9_3 l7_3 k e1 e2 → R l10_3 l9_3 l7_3 k e1 e2) →
  (∀ (l10_3 : Int32) (l9_3 : Int32) (l7_3 : Int64) (x1 : Int32) (x2 : Int64) (x3 : Int64) (x4 : Int64) (x5 : Int64) (x6 : Int32) (x7 : Int64) (x8 : Int64) (x9 : Int32) (k : Nat) (e1 : Int32) (e2 : Int64), gB l10_3 0 1000000 → gB l9_3 0 1 → rpop l7_3 ≤ 64 → rpop l7_2 + ((l9_3.toInt : Int)).toNat ≤ rpop l7_3 → fI (F_1 q1) 3 = x1 → l10_3.toInt < x1.toInt → x2 = (l7_3.toUInt64 >>> (l10_3.toInt64.toUInt64 &&& Int64.toUInt64 63)).toInt64 → x3 = x2 &&& (1 : Int64) → x3 = (0 : Int64) → x4 = (c1.toUInt64 >>> (l10_3.toInt64.toUInt64 &&& Int64.toUInt64 63)).toInt64 → x5 = x4 &&& (1 : Int64) → (¬ x5 = (0 : Int64)) → tl_RModel_findDepth_199 D I γ el F_1 q1 l10_3 l4_1 l7_3 (0 : Int32) (0 : Int32) 268 x6 → x6.toInt ≠ 0 → x7 = (1 : Int64) <<< (l10_3.toInt64 &&& 63) → x8 = l7_3 ||| x7 → x9.toInt = l10_3.toInt + 1 → R x9 (1 : Int32) x8 k e1 e2 → R l10_3 l9_3 l7_3 k e1 e2) →
  (∀ (l10_3 : Int32) (l9_3 : Int32) (l7_3 : Int64) (x1 : Int32) (x2 : Int64) (x3 : Int64) (x4 : Int64) (x5 : Int64) (x6 : Int32) (x7 : Int32) (k : Nat) (e1 : Int32) (e2 : Int64), gB l10_3 0 1000000 → gB l9_3 0 1 → rpop l7_3 ≤ 64 → rpop l7_2 + ((l9_3.toInt : Int)).toNat ≤ rpop l7_3 → fI (F_1 q1) 3 = x1 → l10_3.toInt < x1.toInt → x2 = (l7_3.toUInt64 >>> (l10_3.toInt64.toUInt64 &&& Int64.toUInt64 63)).toInt64 → x3 = x2 &&& (1 : Int64) → x3 = (0 : Int64) → x4 = (c1.toUInt64 >>> (l10_3.toInt64.toUInt64 &&& Int64.toUInt64 63)).toInt64 → x5 = x4 &&& (1 : Int64) → (¬ x5 = (0 : Int64)) → tl_RModel_findDepth_199 D I γ el F_1 q1 l10_3 l4_1 l7_3 (0 : Int32) (0 : Int32) 268 x6 → x6.toInt = 0 → x7.toInt = l10_3.toInt + 1 → R x7 l9_3 l7_3 k e1 e2 → R l10_3 l9_3 l7_3 k e1 e2) →
  (∀ (l10_3 : Int32) (l9_3 : Int32) (l7_3 : Int64) (x1 : Int32) (x2 : Int64) (x3 : Int64) (x4 : Int64) (x5 : Int64) (x6 : Int32) (k : Nat) (e1 : Int32) (e2 : Int64), gB l10_3 0 1000000 → gB l9_3 0 1 → rpop l7_3 ≤ 64 → rpop l7_2 + ((l9_3.toInt : Int)).toNat ≤ rpop l7_3 → fI (F_1 q1) 3 = x1 → l10_3.toInt < x1.toInt → x2 = (l7_3.toUInt64 >>> (l10_3.toInt64.toUInt64 &&& Int64.toUInt64 63)).toInt64 → x3 = x2 &&& (1 : Int64) → x3 = (0 : Int64) → x4 = (c1.toUInt64 >>> (l10_3.toInt64.toUInt64 &&& Int64.toUInt64 63)).toInt64 → x5 = x4 &&& (1 : Int64) → x5 = (0 : Int64) → x6.toInt = l10_3.toInt + 1 → R x6 l9_3 l7_3 k e1 e2 → R l10_3 l9_3 l7_3 k e1 e2) →
  R s1 s2 s3 k e1 e2
/- tl_RModel_findDepth_147: l9, l7; out: l7 -/
def tl_RModel_findDepth_147 (D : va_G) (I : FieldType → ClassId) (γ el : Nat → Nat → Nat) (F_1 : Nat → va_E) (q1 : Nat) (c1 : Int64) (l4_1 : Int32) (s1 : Int32) (s2 : Int64) (k : Nat) (e1 : Int64) : Prop := ∀ R : (Int32) → (Int64) → Nat → (Int64) → Prop,
  (∀ (l9_2 : Int32) (l7_2 : Int64), gB l9_2 0 1 → rpop l7_2 ≤ 64 → l9_2.toInt = 0 → R l9_2 l7_2 297 l7_2) →
  (∀ (l9_2 : Int32) (l7_2 : Int64) (x1 : Int32) (x2 : Int64) (k : Nat) (e1 : Int64), gB l9_2 0 1 → rpop l7_2 ≤ 64 → l9_2.toInt ≠ 0 → tl_RModel_findDepth_158 D I γ el l7_2 F_1 q1 c1 l4_1 (0 : Int32) (0 : Int32) l7_2 294 x1 x2 → R x1 x2 k e1 → R l9_2 l7_2 k e1) →
  R s1 s2 k e1
/- tl_RModel_findDepth_75: l9, l7; out: l7 -/
def tl_RModel_findDepth_75 (D : va_G) (I : FieldType → ClassId) (γ el : Nat → Nat → Nat) (F_1 : Nat → va_E) (q1 : Nat) (c1 : Int64) (l4_1 : Int32) (s1 : Int32) (s2 : Int64) (k : Nat) (e1 : Int64) : Prop := ∀ R : (Int32) → (Int64) → Nat → (Int64) → Prop,
  (∀ (l9_2 : Int32) (l7_2 : Int64) (x1 : Int32), gB l9_2 0 1000000 → fI (F_1 q1) 3 = x1 → x1.toInt ≤ l9_2.toInt → R l9_2 l7_2 125 l7_2) →
  (∀ (l9_2 : Int32) (l7_2 : Int64) (x1 : Int32) (x2 : Int64) (x3 : Int64) (x4 : Int32) (k : Nat) (e1 : Int64), gB l9_2 0 1000000 → fI (F_1 q1) 3 = x1 → l9_2.toInt < x1.toInt → x2 = (c1.toUInt64 >>> (l9_2.toInt64.toUInt64 &&& Int64.toUInt64 63)).toInt64 → x3 = x2 &&& (1 : Int64) → x3 = (0 : Int64) → x4.toInt = l9_2.toInt + 1 → R x4 l7_2 k e1 → R l9_2 l7_2 k e1) →
  (∀ (l9_2 : Int32) (l7_2 : Int64) (x1 : Int32) (x2 : Int64) (x3 : Int64) (x4 : Nat) (x5 : Nat) (x6 : Int32) (x7 : Int32) (x8 : Int32) (k : Nat) (e1 : Int64), gB l9_2 0 1000000 → fI (F_1 q1) 3 = x1 → l9_2.toInt < x1.toInt → x2 = (c1.toUInt64 >>> (l9_2.toInt64.toUInt64 &&& Int64.toUInt64 63)).toInt64 → x3 = x2 &&& (1 : Int64) → (¬ x3 = (0 : Int64)) → fR (F_1 q1) 0 = x4 → x5 = el x4 l9_2.toInt.toNat → fI (F_1 x4) 2 = x6 → tr_RCode_get l9_2 x6 → gB x7 0 1 → tr_RModel_leads D I γ el F_1 x5 l4_1 x7 → x7.toInt = 0 → x8.toInt = l9_2.toInt + 1 → R x8 l7_2 k e1 → R l9_2 l7_2 k e1) →
  (∀ (l9_2 : Int32) (l7_2 : Int64) (x1 : Int32) (x2 : Int64) (x3 : Int64) (x4 : Nat) (x5 : Nat) (x6 : Int32) (x7 : Int32) (x8 : Int64) (x9 : Int64) (x10 : Int32) (k : Nat) (e1 : Int64), gB l9_2 0 1000000 → fI (F_1 q1) 3 = x1 → l9_2.toInt < x1.toInt → x2 = (c1.toUInt64 >>> (l9_2.toInt64.toUInt64 &&& Int64.toUInt64 63)).toInt64 → x3 = x2 &&& (1 : Int64) → (¬ x3 = (0 : Int64)) → fR (F_1 q1) 0 = x4 → x5 = el x4 l9_2.toInt.toNat → fI (F_1 x4) 2 = x6 → tr_RCode_get l9_2 x6 → gB x7 0 1 → tr_RModel_leads D I γ el F_1 x5 l4_1 x7 → x7.toInt ≠ 0 → x8 = (1 : Int64) <<< (l9_2.toInt64 &&& 63) → x9 = l7_2 ||| x8 → x10.toInt = l9_2.toInt + 1 → R x10 x9 k e1 → R l9_2 l7_2 k e1) →
  R s1 s2 k e1
/- tl_RModel_findDepth_32: F, l4; out: F -/
def tl_RModel_findDepth_32 (D : va_G) (I : FieldType → ClassId) (γ el : Nat → Nat → Nat) (P : List Nat) (F : Nat → va_E) (q1 : Nat) (c1 : Int64) (q0 : Nat) (s1 : Nat → va_E) (s2 : Int32) (k : Nat) (e1 : Nat → va_E) : Prop := ∀ R : (Nat → va_E) → (Int32) → Nat → (Nat → va_E) → Prop,
  (∀ (F_1 : Nat → va_E) (l4_1 : Int32) (x1 : Int32), gB l4_1 0 1000000 → RS D I P F_1 γ el → rStr γ [] F F_1 → fI (F_1 q1) 3 = x1 → x1.toInt ≤ l4_1.toInt → R F_1 l4_1 339 F_1) →
  (∀ (F_1 : Nat → va_E) (l4_1 : Int32) (x1 : Int32) (x2 : Int64) (x3 : Int64) (x4 : Int64) (x5 : Int64) (x6 : Int64) (x7 : Int64) (x8 : Int64) (x9 : Int64) (x10 : Int64) (x11 : Nat → va_E) (x12 : Int32) (k : Nat) (e1 : Nat → va_E), gB l4_1 0 1000000 → RS D I P F_1 γ el → rStr γ [] F F_1 → fI (F_1 q1) 3 = x1 → l4_1.toInt < x1.toInt → x2 = (c1.toUInt64 >>> (l4_1.toInt64.toUInt64 &&& Int64.toUInt64 63)).toInt64 → x3 = x2 &&& (1 : Int64) → (¬ x3 = (0 : Int64)) → tr_RModel_reached D I γ el F_1 q1 l4_1 x4 → x5 = x4 ^^^ (-1 : Int64) → x6 = c1 &&& x5 → tl_RModel_findDepth_75 D I γ el F_1 q1 x6 l4_1 (0 : Int32) (0 : Int64) 125 x7 → (¬ x7 = (0 : Int64)) → x8 = (1 : Int64) <<< (l4_1.toInt64 &&& 63) → x9 = x7 ||| x8 → tl_RModel_findDepth_147 D I γ el F_1 q1 c1 l4_1 (1 : Int32) x9 297 x10 → tl_RModel_findDepth_300 D I γ el P F q1 q0 x10 F_1 (0 : Int32) 333 x11 → x12.toInt = l4_1.toInt + 1 → R x11 x12 k e1 → R F_1 l4_1 k e1) →
  (∀ (F_1 : Nat → va_E) (l4_1 : Int32) (x1 : Int32) (x2 : Int64) (x3 : Int64) (x4 : Int64) (x5 : Int64) (x6 : Int64) (x7 : Int64) (x8 : Int32) (k : Nat) (e1 : Nat → va_E), gB l4_1 0 1000000 → RS D I P F_1 γ el → rStr γ [] F F_1 → fI (F_1 q1) 3 = x1 → l4_1.toInt < x1.toInt → x2 = (c1.toUInt64 >>> (l4_1.toInt64.toUInt64 &&& Int64.toUInt64 63)).toInt64 → x3 = x2 &&& (1 : Int64) → (¬ x3 = (0 : Int64)) → tr_RModel_reached D I γ el F_1 q1 l4_1 x4 → x5 = x4 ^^^ (-1 : Int64) → x6 = c1 &&& x5 → tl_RModel_findDepth_75 D I γ el F_1 q1 x6 l4_1 (0 : Int32) (0 : Int64) 125 x7 → x7 = (0 : Int64) → x8.toInt = l4_1.toInt + 1 → R F_1 x8 k e1 → R F_1 l4_1 k e1) →
  (∀ (F_1 : Nat → va_E) (l4_1 : Int32) (x1 : Int32) (x2 : Int64) (x3 : Int64) (x4 : Int32) (k : Nat) (e1 : Nat → va_E), gB l4_1 0 1000000 → RS D I P F_1 γ el → rStr γ [] F F_1 → fI (F_1 q1) 3 = x1 → l4_1.toInt < x1.toInt → x2 = (c1.toUInt64 >>> (l4_1.toInt64.toUInt64 &&& Int64.toUInt64 63)).toInt64 → x3 = x2 &&& (1 : Int64) → x3 = (0 : Int64) → x4.toInt = l4_1.toInt + 1 → R F_1 x4 k e1 → R F_1 l4_1 k e1) →
  R s1 s2 k e1
/- tl_RModel_findDepth_2: F, l2; out: F -/
def tl_RModel_findDepth_2 (D : va_G) (I : FieldType → ClassId) (γ el : Nat → Nat → Nat) (P : List Nat) (F : Nat → va_E) (q1 : Nat) (q0 : Nat) (s1 : Nat → va_E) (s2 : Int32) (k : Nat) (e1 : Nat → va_E) : Prop := ∀ R : (Nat → va_E) → (Int32) → Nat → (Nat → va_E) → Prop,
  (∀ (F_1 : Nat → va_E) (l2_1 : Int32) (x1 : Int32), gB l2_1 0 1000000 → RS D I P F_1 γ el → rStr γ [] F F_1 → fI (F_1 q1) 3 = x1 → x1.toInt ≤ l2_1.toInt → R F_1 l2_1 23 F_1) →
  (∀ (F_1 : Nat → va_E) (l2_1 : Int32) (x1 : Int32) (x2 : Nat → Int32) (x3 : Nat → Int32) (x4 : Nat → va_E) (x5 : Int32) (k : Nat) (e1 : Nat → va_E), gB l2_1 0 1000000 → RS D I P F_1 γ el → rStr γ [] F F_1 → fI (F_1 q1) 3 = x1 → l2_1.toInt < x1.toInt → fR (F_1 q0) 4 = (γ 9 4) → F_1 (γ 9 4) = .inl (I .int, 40, .inl x2) → x3 = upd x2 l2_1.toNatClampNeg 0 → (∀ b, b ≠ (γ 9 4) → x4 b = F_1 b) → x4 (γ 9 4) = .inl (I .int, 40, .inl x3) → x5.toInt = l2_1.toInt + 1 → R x4 x5 k e1 → R F_1 l2_1 k e1) →
  R s1 s2 k e1
/- tr_RModel_findDepth: F -/
def tr_RModel_findDepth (D : va_G) (I : FieldType → ClassId) (γ el : Nat → Nat → Nat) (P : List Nat) (F : Nat → va_E) (q0 : Nat) (q1 : Nat) (o1 : Nat → va_E) : Prop := ∀ R : (Nat → va_E) → Prop,
  (∀ (x1 : Nat → va_E) (x2 : Int64) (x3 : Nat → va_E) (x4 : Nat → va_E), tl_RModel_findDepth_2 D I γ el P F q1 q0 F (0 : Int32) 23 x1 → tr_RModel_reached D I γ el x1 q1 (-1 : Int32) x2 → tl_RModel_findDepth_32 D I γ el P F q1 x2 q0 x1 (0 : Int32) 339 x3 → tl_RModel_findDepth_342 D I γ el P F q1 q0 x3 (0 : Int32) 375 x4 → R x4) →
  R o1
