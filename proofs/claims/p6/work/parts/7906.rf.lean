abbrev ky_336739_SpillForgeModel_next : gKey := (cX17_next, 7, "SpillForgeModel", (some FieldType.int), [], "next", fun _ _ => True)
def pt_336739_SpillForgeModel_next (D : va_G) (I : FieldType → ClassId) (γ el : Nat → Nat → Nat) (P336735 : List Nat) (F336736 : Nat → va_E) (q336737 : Nat) (p336738 : Int32) : Option Value → va_W → Nat → Nat → Prop := fun r w dc ds => ∃ (o337457 : Int32), r = some (.int o337457) ∧ w = va_pl P336735 F336736 ∧ dc ≤ 0 ∧ ds ≤ 0 ∧ gB o337457 (-1) 1999 ∧ (gIp (0 ≤ o337457.toInt) (rSd (cB (F336736 (γ 9 18))) (o337457.toInt : Int).toNat)) ∧ (gIp (o337457.toInt < 0) (∀ m : Nat, ¬ rSd (cB (F336736 (γ 9 18))) m)) ∧ tr_RModel_next D I γ el F336736 q336737 p336738 o337457
set_option maxRecDepth 100000 in
set_option maxHeartbeats 4000000 in
theorem ct_336739_SpillForgeModel_next (l : Launch) (hl0 : l.stackTraces = false) (D : va_G) (I : FieldType → ClassId) (γ el : Nat → Nat → Nat) (P336735 : List Nat) (F336736 : Nat → va_E) (q336737 : Nat) (p336738 : Int32) (hT : RS D I P336735 F336736 γ el) (htq336737 : rKd γ q336737 10) : CtA (gV D I) l yX17_next cX17_next 7 (some FieldType.int) 0 0 0 0 [.ref q336737, .int p336738] (va_pl P336735 F336736) (pt_336739_SpillForgeModel_next D I γ el P336735 F336736 q336737 p336738) gNA := by
  refine CtA_of hl0 (by decide) (Nat.le_of_ble_eq_true rfl) ?_
  have bp336738 := gB_any p336738
  have hm336740 : q336737 ∈ P336735 := RS_m hT htq336737 (by decide)
  obtain ⟨q336742, q336743, p336744, p336745, p336746, p336747, p336748, p336749, p336750, p336751, p336752, p336753, p336754, p336755, p336756, p336757, p336758, he336741, hB336785, ht336759, ht336760, ht336761, ht336762, ht336763, ht336764, ht336765, ht336766, ht336767, ht336768, ht336769, ht336770, ht336771, ht336772, ht336773, ht336774, ht336775, ht336776, ht336777, ht336778, ht336779, ht336780, ht336781, ht336782, hB336786⟩ := show rk_10 γ (F336736 q336737) from RS_o hT htq336737
  have hm336787 : (γ 9 18) ∈ P336735 := RS_m hT ht336773 (by decide)
  obtain ⟨f336789, he336788, bf336789⟩ := show rk_15 I (F336736 (γ 9 18)) from RS_o hT ht336773
  refine G_iconst 0 dr_cX17_next_0 (by decide +kernel) ?_
  refine G_istore_n (L' := [(2, .int 0), (0, .ref q336737), (1, .int p336738)]) dr_cX17_next_1 (Nat.le_of_ble_eq_true rfl) rfl ?_
  have hlp2_337244 : ∀ (n2_337244 : Nat) (g337244 : Int32), gB g337244 0 2000 → (∀ (k : Nat) (e1 : Int32), tl_RModel_next_2 D I γ el F336736 q336737 p336738 g337244 k e1 → tl_RModel_next_2 D I γ el F336736 q336737 p336738 (0 : Int32) k e1) → ((2001 : Int) - g337244.toInt).toNat < n2_337244 → G (gV D I) l (gRm 0 0 0 0) (gMA (gV D I) (pt_336739_SpillForgeModel_next D I γ el P336735 F336736 q336737 p336738) gNA 0 0) ky_336739_SpillForgeModel_next 2 [(2, .int g337244), (0, .ref q336737), (1, .int p336738)] [] (va_pl P336735 F336736) 0 0 := by
    intro n2_337244
    induction n2_337244 with
    | zero => intro g337244 bg337244 kt2_337245 hm2_337244; exact absurd hm2_337244 (Nat.not_lt_zero _)
    | succ n2_337244 ih2_337244 =>
      intro g337244 bg337244 kt2_337245 hm2_337244
      refine G_iload_n 0 dr_cX17_next_2 rfl ?_
      refine G_sipush 2000 dr_cX17_next_3 (by decide +kernel) ?_
      refine G_icmp_ge 36 dr_cX17_next_6 (by decide +kernel) (fun hc337246 => ?_) (fun hc337246 => ?_)
      · have r337247 : 2000 ≤ g337244.toInt := gj_leL hc337246 (show Int32.toInt 2000 = 2000 by decide)
        have bg337244' : gB g337244 2000 2000 := ⟨by omega, by omega⟩
        have hx337248 : tl_RModel_next_2 D I γ el F336736 q336737 p336738 (0 : Int32) 36 (0 : Int32) := kt2_337245 36 (0 : Int32) (fun R c1 c2 c3 c4 => c1 g337244 bg337244 r337247)
        refine G_iconst (-1) dr_cX17_next_36 (by decide +kernel) ?_
        refine G_istore_n (L' := [(2, .int (-1)), (0, .ref q336737), (1, .int p336738)]) dr_cX17_next_37 (Nat.le_of_ble_eq_true rfl) rfl ?_
        refine G_iconst 0 dr_cX17_next_38 (by decide +kernel) ?_
        refine G_istore_n (L' := [(3, .int 0), (2, .int (-1)), (0, .ref q336737), (1, .int p336738)]) dr_cX17_next_39 (Nat.le_of_ble_eq_true rfl) rfl ?_
        have hlp40_337342 : ∀ (n40_337342 : Nat) (g337339 : Int32) (g337340 : Int32), gB g337339 0 2000 → gB g337340 (-1) 1999 → (gIp (g337340.toInt < 0) (∀ m : Nat, (m : Int) < g337339.toInt → ¬ rSd (cB (F336736 (γ 9 18))) m)) → (gIp (0 ≤ g337340.toInt) (rSd (cB (F336736 (γ 9 18))) (g337340.toInt : Int).toNat)) → (∀ (k : Nat) (e1 : Int32), tl_RModel_next_40 D I γ el F336736 q336737 g337339 g337340 k e1 → tl_RModel_next_40 D I γ el F336736 q336737 (0 : Int32) (-1 : Int32) k e1) → ((2001 : Int) - g337339.toInt).toNat < n40_337342 → G (gV D I) l (gRm 0 0 0 0) (gMA (gV D I) (pt_336739_SpillForgeModel_next D I γ el P336735 F336736 q336737 p336738) gNA 0 0) ky_336739_SpillForgeModel_next 40 [(3, .int g337339), (2, .int g337340), (0, .ref q336737), (1, .int p336738)] [] (va_pl P336735 F336736) 0 0 := by
          intro n40_337342
          induction n40_337342 with
          | zero => intro g337339 g337340 bg337339 bg337340 x337341 x337342 kt40_337343 hm40_337342; exact absurd hm40_337342 (Nat.not_lt_zero _)
          | succ n40_337342 ih40_337342 =>
            intro g337339 g337340 bg337339 bg337340 x337341 x337342 kt40_337343 hm40_337342
            refine G_iload_n 0 dr_cX17_next_40 rfl ?_
            refine G_sipush 2000 dr_cX17_next_41 (by decide +kernel) ?_
            refine G_icmp_ge 171 dr_cX17_next_44 (by decide +kernel) (fun hc337344 => ?_) (fun hc337344 => ?_)
            · have r337345 : 2000 ≤ g337339.toInt := gj_leL hc337344 (show Int32.toInt 2000 = 2000 by decide)
              have bg337339' : gB g337339 2000 2000 := ⟨by omega, by omega⟩
              have hx337346 : tl_RModel_next_40 D I γ el F336736 q336737 (0 : Int32) (-1 : Int32) 171 g337340 := kt40_337343 171 g337340 (fun R c1 c2 c3 c4 c5 c6 c7 c8 c9 c10 => c1 g337339 g337340 bg337339 bg337340 x337341 x337342 r337345)
              refine G_iload_n 1 dr_cX17_next_171 rfl ?_
              exact G_iretA dr_cX17_next_172 rfl (Nat.le_of_ble_eq_true rfl) (Nat.le_of_ble_eq_true rfl) ⟨g337340, rfl, rfl, (Nat.le_of_ble_eq_true rfl), (Nat.le_of_ble_eq_true rfl), bg337340, x337342, (fun h m hm => x337341 h m (by have := hm.1; omega) hm), (fun R c1 c2 => c1 g337340 hx337248 hx337346)⟩
            · have r337347 : g337339.toInt < 2000 := gj_nleL hc337344 (show Int32.toInt 2000 = 2000 by decide)
              have bg337339' : gB g337339 0 1999 := ⟨by omega, by omega⟩
              refine G_aload_n 2 dr_cX17_next_47 rfl ?_
              have fq337348 : fR (F336736 q336737) 18 = (γ 9 18) := by rw [he336741]; rfl
              refine Gp_get 18 hm336740 he336741 dr_cX17_next_48 (gk_X17 D I) (Nat.le_of_ble_eq_true rfl) wr_7_92 rfl ?_
              refine G_iload_n 0 dr_cX17_next_51 rfl ?_
              refine Gp_zald 3 hm336787 he336788 dr_cX17_next_52 rfl (gB_in bg337339' (by decide) (by decide)) (G_nam fun z337349 hz337349 => ?_)
              have bz337349 : gB z337349 0 1 := by rw [hz337349]; exact bf336789 _
              refine G_if_ne 59 dr_cX17_next_53 (by decide +kernel) (fun hc337350 => ?_) (fun hc337350 => ?_)
              · have r337351 : z337349.toInt ≠ 0 := gj_neq hc337350 (show Int32.toInt 0 = 0 by decide)
                have bz337349' : gB z337349 1 1 := ⟨by omega, by omega⟩
                refine G_iload_n 1 dr_cX17_next_59 rfl ?_
                refine G_if_ge 68 dr_cX17_next_60 (by decide +kernel) (fun hc337352 => ?_) (fun hc337352 => ?_)
                · have r337353 : 0 ≤ g337340.toInt := gj_leL hc337352 (show Int32.toInt 0 = 0 by decide)
                  have bg337340' : gB g337340 0 1999 := ⟨by omega, by omega⟩
                  refine G_iload_n 0 dr_cX17_next_68 rfl ?_
                  refine G_bipush 100 dr_cX17_next_69 (by decide +kernel) ?_
                  refine G_icmp_lt 78 dr_cX17_next_71 (by decide +kernel) (fun hc337354 => ?_) (fun hc337354 => ?_)
                  · have r337355 : g337339.toInt < 100 := gj_lt hc337354 (show Int32.toInt 100 = 100 by decide)
                    have bg337339'' : gB g337339 0 99 := ⟨by omega, by omega⟩
                    refine G_iconst 0 dr_cX17_next_78 (by decide +kernel) ?_
                    refine G_istore (L' := [(4, .int 0), (3, .int g337339), (2, .int g337340), (0, .ref q336737), (1, .int p336738)]) dr_cX17_next_79 (Nat.le_of_ble_eq_true rfl) rfl ?_
                    refine G_iload_n 2 dr_cX17_next_81 rfl ?_
                    refine G_bipush 100 dr_cX17_next_82 (by decide +kernel) ?_
                    refine G_icmp_lt 91 dr_cX17_next_84 (by decide +kernel) (fun hc337356 => ?_) (fun hc337356 => ?_)
                    · have r337357 : g337340.toInt < 100 := gj_lt hc337356 (show Int32.toInt 100 = 100 by decide)
                      have bg337340'' : gB g337340 0 99 := ⟨by omega, by omega⟩
                      refine G_iconst 0 dr_cX17_next_91 (by decide +kernel) ?_
                      refine G_istore (L' := [(5, .int 0), (4, .int 0), (3, .int g337339), (2, .int g337340), (0, .ref q336737), (1, .int p336738)]) dr_cX17_next_92 (Nat.le_of_ble_eq_true rfl) rfl ?_
                      refine G_iload 1 dr_cX17_next_94 rfl ?_
                      refine G_if_eq 107 dr_cX17_next_96 (by decide +kernel) (fun _ => ?_) (fun hc => absurd hc (by decide))
                      refine G_aload_n 4 dr_cX17_next_107 rfl ?_
                      have fq337358 : fR (F336736 q336737) 5 = (γ 9 5) := by rw [he336741]; rfl
                      refine Gp_get 5 hm336740 he336741 dr_cX17_next_108 (gk_X17 D I) (Nat.le_of_ble_eq_true rfl) wr_7_79 rfl ?_
                      refine G_iload_n 2 dr_cX17_next_111 rfl ?_
                      have hm337359 : (γ 9 5) ∈ P336735 := RS_m hT ht336766 (by decide)
                      obtain ⟨f337361, he337360⟩ := show rk_17 I (F336736 (γ 9 5)) from RS_o hT ht336766
                      refine Gp_iald 0 hm337359 he337360 dr_cX17_next_112 rfl (gB_in bg337339'' (by decide) (by decide)) (G_nam fun z337362 hz337362 => ?_)
                      have bz337362 : gB z337362 (-2147483648) 2147483647 := gB_any z337362
                      refine G_i2l dr_cX17_next_113 (G_namL fun u337363 hu337363 => ?_)
                      refine G_aload_n 4 dr_cX17_next_114 rfl ?_
                      have fq337364 : fR (F336736 q336737) 16 = (γ 9 16) := by rw [he336741]; rfl
                      refine Gp_get 16 hm336740 he336741 dr_cX17_next_115 (gk_X17 D I) (Nat.le_of_ble_eq_true rfl) wr_7_90 rfl ?_
                      refine G_iload_n 3 dr_cX17_next_118 rfl ?_
                      have hm337365 : (γ 9 16) ∈ P336735 := RS_m hT ht336771 (by decide)
                      obtain ⟨f337367, he337366⟩ := show rk_19 I (F336736 (γ 9 16)) from RS_o hT ht336771
                      refine Gp_iald 0 hm337365 he337366 dr_cX17_next_119 rfl (gB_in bg337340'' (by decide) (by decide)) (G_nam fun z337368 hz337368 => ?_)
                      have bz337368 : gB z337368 (-2147483648) 2147483647 := gB_any z337368
                      refine G_i2l dr_cX17_next_120 (G_namL fun u337369 hu337369 => ?_)
                      refine G_lmul dr_cX17_next_121 (G_namL fun u337370 hu337370 => ?_)
                      refine G_aload_n 4 dr_cX17_next_122 rfl ?_
                      refine Gp_get 5 hm336740 he336741 dr_cX17_next_123 (gk_X17 D I) (Nat.le_of_ble_eq_true rfl) wr_7_79 rfl ?_
                      refine G_iload_n 3 dr_cX17_next_126 rfl ?_
                      refine Gp_iald 0 hm337359 he337360 dr_cX17_next_127 rfl (gB_in bg337340'' (by decide) (by decide)) (G_nam fun z337371 hz337371 => ?_)
                      have bz337371 : gB z337371 (-2147483648) 2147483647 := gB_any z337371
                      refine G_i2l dr_cX17_next_128 (G_namL fun u337372 hu337372 => ?_)
                      refine G_aload_n 4 dr_cX17_next_129 rfl ?_
                      refine Gp_get 16 hm336740 he336741 dr_cX17_next_130 (gk_X17 D I) (Nat.le_of_ble_eq_true rfl) wr_7_90 rfl ?_
                      refine G_iload_n 2 dr_cX17_next_133 rfl ?_
                      refine Gp_iald 0 hm337365 he337366 dr_cX17_next_134 rfl (gB_in bg337339'' (by decide) (by decide)) (G_nam fun z337373 hz337373 => ?_)
                      have bz337373 : gB z337373 (-2147483648) 2147483647 := gB_any z337373
                      refine G_i2l dr_cX17_next_135 (G_namL fun u337374 hu337374 => ?_)
                      refine G_lmul dr_cX17_next_136 (G_namL fun u337375 hu337375 => ?_)
                      refine G_lcmp dr_cX17_next_137 (G_nam fun z337376 hz337376 => ?_)
                      have bz337376 : gB z337376 (-1) 1 := gB_cmp hz337376
                      refine G_if_ge 145 dr_cX17_next_138 (by decide +kernel) (fun hc337377 => ?_) (fun hc337377 => ?_)
                      · have r337378 : 0 ≤ z337376.toInt := gj_leL hc337377 (show Int32.toInt 0 = 0 by decide)
                        have bz337376' : gB z337376 0 1 := ⟨by omega, by omega⟩
                        refine G_iconst 0 dr_cX17_next_145 (by decide +kernel) ?_
                        refine G_istore (L' := [(6, .int 0), (5, .int 0), (4, .int 0), (3, .int g337339), (2, .int g337340), (0, .ref q336737), (1, .int p336738)]) dr_cX17_next_146 (Nat.le_of_ble_eq_true rfl) rfl ?_
                        refine G_iload 2 dr_cX17_next_148 rfl ?_
                        refine G_if_ne 158 dr_cX17_next_150 (by decide +kernel) (fun hc => absurd hc (by decide)) (fun _ => ?_)
                        refine G_iload 1 dr_cX17_next_153 rfl ?_
                        refine G_if_ne 163 dr_cX17_next_155 (by decide +kernel) (fun hc => absurd hc (by decide)) (fun _ => ?_)
                        refine G_iload 0 dr_cX17_next_158 rfl ?_
                        refine G_if_eq 165 dr_cX17_next_160 (by decide +kernel) (fun _ => ?_) (fun hc => absurd hc (by decide))
                        obtain ⟨z337379, hz337379⟩ : ∃ z : Int32, z = g337339 + Int32.ofInt 1 := ⟨_, rfl⟩
                        have ez337379 : z337379.toInt = g337339.toInt + 1 := gI_inc hz337379 (by decide) bg337339'' (by decide) (by decide)
                        have bz337379 : gB z337379 1 100 := ⟨by omega, by omega⟩
                        refine G_iinc (L' := [(3, .int z337379), (6, .int 0), (5, .int 0), (4, .int 0), (2, .int g337340), (0, .ref q336737), (1, .int p336738)]) z337379 3 dr_cX17_next_165 rfl hz337379.symm (Nat.le_of_ble_eq_true rfl) rfl ?_
                        refine G_goto 40 dr_cX17_next_168 (by decide +kernel) ?_
                        refine G_lv (L' := [(3, .int z337379), (2, .int g337340), (0, .ref q336737), (1, .int p336738)]) [0, 4, 5, 6] rfl ?_
                        exact ih40_337342 z337379 g337340 (gB_w bz337379 (by decide) (by decide)) (gB_w bg337340'' (by decide) (by decide)) (by first | exact fun h => absurd h (by omega) | exact fun h => (by rw [ez337379]; rw [cB_of he336788]; have q := x337341; rw [cB_of he336788] at q; exact nx_0 (q h) hz337349 (by omega) rfl)) x337342 (fun k e1 ht => kt40_337343 k e1 (fun R c1 c2 c3 c4 c5 c6 c7 c8 c9 c10 => c2 g337339 g337340 f336789 z337349 f337361 z337362 u337363 f337367 z337368 u337369 u337370 z337371 u337372 z337373 u337374 u337375 z337376 z337379 k e1 bg337339 bg337340 x337341 x337342 r337347 fq337348 he336788 hz337349 bz337349 r337351 r337353 r337355 r337357 fq337358 he337360 hz337362 hu337363 fq337364 he337366 hz337368 hu337369 hu337370 hz337371 hu337372 hz337373 hu337374 hu337375 hz337376 r337378 ez337379 (ht R c1 c2 c3 c4 c5 c6 c7 c8 c9 c10))) (by omega)
                      · have r337380 : z337376.toInt < 0 := gj_nleL hc337377 (show Int32.toInt 0 = 0 by decide)
                        have bz337376' : gB z337376 (-1) (-1) := ⟨by omega, by omega⟩
                        have lhc337377 := gC_cmpS hz337376 (by omega)
                        refine G_iconst 1 dr_cX17_next_141 (by decide +kernel) ?_
                        refine G_goto 146 dr_cX17_next_142 (by decide +kernel) ?_
                        refine G_istore (L' := [(6, .int 1), (5, .int 0), (4, .int 0), (3, .int g337339), (2, .int g337340), (0, .ref q336737), (1, .int p336738)]) dr_cX17_next_146 (Nat.le_of_ble_eq_true rfl) rfl ?_
                        refine G_iload 2 dr_cX17_next_148 rfl ?_
                        refine G_if_ne 158 dr_cX17_next_150 (by decide +kernel) (fun hc => absurd hc (by decide)) (fun _ => ?_)
                        refine G_iload 1 dr_cX17_next_153 rfl ?_
                        refine G_if_ne 163 dr_cX17_next_155 (by decide +kernel) (fun hc => absurd hc (by decide)) (fun _ => ?_)
                        refine G_iload 0 dr_cX17_next_158 rfl ?_
                        refine G_if_eq 165 dr_cX17_next_160 (by decide +kernel) (fun hc => absurd hc (by decide)) (fun _ => ?_)
                        refine G_iload_n 3 dr_cX17_next_163 rfl ?_
                        refine G_istore_n (L' := [(2, .int g337339), (6, .int 1), (5, .int 0), (4, .int 0), (3, .int g337339), (0, .ref q336737), (1, .int p336738)]) dr_cX17_next_164 (Nat.le_of_ble_eq_true rfl) rfl ?_
                        obtain ⟨z337381, hz337381⟩ : ∃ z : Int32, z = g337339 + Int32.ofInt 1 := ⟨_, rfl⟩
                        have ez337381 : z337381.toInt = g337339.toInt + 1 := gI_inc hz337381 (by decide) bg337339'' (by decide) (by decide)
                        have bz337381 : gB z337381 1 100 := ⟨by omega, by omega⟩
                        refine G_iinc (L' := [(3, .int z337381), (2, .int g337339), (6, .int 1), (5, .int 0), (4, .int 0), (0, .ref q336737), (1, .int p336738)]) z337381 4 dr_cX17_next_165 rfl hz337381.symm (Nat.le_of_ble_eq_true rfl) rfl ?_
                        refine G_goto 40 dr_cX17_next_168 (by decide +kernel) ?_
                        refine G_lv (L' := [(3, .int z337381), (2, .int g337339), (0, .ref q336737), (1, .int p336738)]) [0, 1, 5, 6] rfl ?_
                        exact ih40_337342 z337381 g337339 (gB_w bz337381 (by decide) (by decide)) (gB_w bg337339'' (by decide) (by decide)) (by first | exact fun h => absurd h (by omega) | exact fun h => (by rw [ez337381]; rw [cB_of he336788]; have q := x337341; rw [cB_of he336788] at q; exact nx_0 (q h) hz337349 (by omega) rfl)) (fun _ => by rw [cB_of he336788]; exact sd_of hz337349 (by omega) (by omega) (by omega)) (fun k e1 ht => kt40_337343 k e1 (fun R c1 c2 c3 c4 c5 c6 c7 c8 c9 c10 => c3 g337339 g337340 f336789 z337349 f337361 z337362 u337363 f337367 z337368 u337369 u337370 z337371 u337372 z337373 u337374 u337375 z337376 z337381 k e1 bg337339 bg337340 x337341 x337342 r337347 fq337348 he336788 hz337349 bz337349 r337351 r337353 r337355 r337357 fq337358 he337360 hz337362 hu337363 fq337364 he337366 hz337368 hu337369 hu337370 hz337371 hu337372 hz337373 hu337374 hu337375 hz337376 r337380 ez337381 (ht R c1 c2 c3 c4 c5 c6 c7 c8 c9 c10))) (by omega)
                    · have r337382 : 100 ≤ g337340.toInt := gj_nlt hc337356 (show Int32.toInt 100 = 100 by decide)
                      have bg337340'' : gB g337340 100 1999 := ⟨by omega, by omega⟩
                      refine G_iconst 1 dr_cX17_next_87 (by decide +kernel) ?_
                      refine G_goto 92 dr_cX17_next_88 (by decide +kernel) ?_
                      refine G_istore (L' := [(5, .int 1), (4, .int 0), (3, .int g337339), (2, .int g337340), (0, .ref q336737), (1, .int p336738)]) dr_cX17_next_92 (Nat.le_of_ble_eq_true rfl) rfl ?_
                      refine G_iload 1 dr_cX17_next_94 rfl ?_
                      refine G_if_eq 107 dr_cX17_next_96 (by decide +kernel) (fun _ => ?_) (fun hc => absurd hc (by decide))
                      refine G_aload_n 4 dr_cX17_next_107 rfl ?_
                      have fq337383 : fR (F336736 q336737) 5 = (γ 9 5) := by rw [he336741]; rfl
                      refine Gp_get 5 hm336740 he336741 dr_cX17_next_108 (gk_X17 D I) (Nat.le_of_ble_eq_true rfl) wr_7_79 rfl ?_
                      refine G_iload_n 2 dr_cX17_next_111 rfl ?_
                      have hm337384 : (γ 9 5) ∈ P336735 := RS_m hT ht336766 (by decide)
                      obtain ⟨f337386, he337385⟩ := show rk_17 I (F336736 (γ 9 5)) from RS_o hT ht336766
                      refine Gp_iald 0 hm337384 he337385 dr_cX17_next_112 rfl (gB_in bg337339'' (by decide) (by decide)) (G_nam fun z337387 hz337387 => ?_)
                      have bz337387 : gB z337387 (-2147483648) 2147483647 := gB_any z337387
                      refine G_i2l dr_cX17_next_113 (G_namL fun u337388 hu337388 => ?_)
                      refine G_aload_n 4 dr_cX17_next_114 rfl ?_
                      have fq337389 : fR (F336736 q336737) 16 = (γ 9 16) := by rw [he336741]; rfl
                      refine Gp_get 16 hm336740 he336741 dr_cX17_next_115 (gk_X17 D I) (Nat.le_of_ble_eq_true rfl) wr_7_90 rfl ?_
                      refine G_iload_n 3 dr_cX17_next_118 rfl ?_
                      have hm337390 : (γ 9 16) ∈ P336735 := RS_m hT ht336771 (by decide)
                      obtain ⟨f337392, he337391⟩ := show rk_19 I (F336736 (γ 9 16)) from RS_o hT ht336771
                      refine Gp_iald 0 hm337390 he337391 dr_cX17_next_119 rfl (gB_in bg337340'' (by decide) (by decide)) (G_nam fun z337393 hz337393 => ?_)
                      have bz337393 : gB z337393 (-2147483648) 2147483647 := gB_any z337393
                      refine G_i2l dr_cX17_next_120 (G_namL fun u337394 hu337394 => ?_)
                      refine G_lmul dr_cX17_next_121 (G_namL fun u337395 hu337395 => ?_)
                      refine G_aload_n 4 dr_cX17_next_122 rfl ?_
                      refine Gp_get 5 hm336740 he336741 dr_cX17_next_123 (gk_X17 D I) (Nat.le_of_ble_eq_true rfl) wr_7_79 rfl ?_
                      refine G_iload_n 3 dr_cX17_next_126 rfl ?_
                      refine Gp_iald 0 hm337384 he337385 dr_cX17_next_127 rfl (gB_in bg337340'' (by decide) (by decide)) (G_nam fun z337396 hz337396 => ?_)
                      have bz337396 : gB z337396 (-2147483648) 2147483647 := gB_any z337396
                      refine G_i2l dr_cX17_next_128 (G_namL fun u337397 hu337397 => ?_)
                      refine G_aload_n 4 dr_cX17_next_129 rfl ?_
                      refine Gp_get 16 hm336740 he336741 dr_cX17_next_130 (gk_X17 D I) (Nat.le_of_ble_eq_true rfl) wr_7_90 rfl ?_
                      refine G_iload_n 2 dr_cX17_next_133 rfl ?_
                      refine Gp_iald 0 hm337390 he337391 dr_cX17_next_134 rfl (gB_in bg337339'' (by decide) (by decide)) (G_nam fun z337398 hz337398 => ?_)
                      have bz337398 : gB z337398 (-2147483648) 2147483647 := gB_any z337398
                      refine G_i2l dr_cX17_next_135 (G_namL fun u337399 hu337399 => ?_)
                      refine G_lmul dr_cX17_next_136 (G_namL fun u337400 hu337400 => ?_)
                      refine G_lcmp dr_cX17_next_137 (G_nam fun z337401 hz337401 => ?_)
                      have bz337401 : gB z337401 (-1) 1 := gB_cmp hz337401
                      refine G_if_ge 145 dr_cX17_next_138 (by decide +kernel) (fun hc337402 => ?_) (fun hc337402 => ?_)
                      · have r337403 : 0 ≤ z337401.toInt := gj_leL hc337402 (show Int32.toInt 0 = 0 by decide)
                        have bz337401' : gB z337401 0 1 := ⟨by omega, by omega⟩
                        refine G_iconst 0 dr_cX17_next_145 (by decide +kernel) ?_
                        refine G_istore (L' := [(6, .int 0), (5, .int 1), (4, .int 0), (3, .int g337339), (2, .int g337340), (0, .ref q336737), (1, .int p336738)]) dr_cX17_next_146 (Nat.le_of_ble_eq_true rfl) rfl ?_
                        refine G_iload 2 dr_cX17_next_148 rfl ?_
                        refine G_if_ne 158 dr_cX17_next_150 (by decide +kernel) (fun hc => absurd hc (by decide)) (fun _ => ?_)
                        refine G_iload 1 dr_cX17_next_153 rfl ?_
                        refine G_if_ne 163 dr_cX17_next_155 (by decide +kernel) (fun _ => ?_) (fun hc => absurd hc (by decide))
                        refine G_iload_n 3 dr_cX17_next_163 rfl ?_
                        refine G_istore_n (L' := [(2, .int g337339), (6, .int 0), (5, .int 1), (4, .int 0), (3, .int g337339), (0, .ref q336737), (1, .int p336738)]) dr_cX17_next_164 (Nat.le_of_ble_eq_true rfl) rfl ?_
                        obtain ⟨z337404, hz337404⟩ : ∃ z : Int32, z = g337339 + Int32.ofInt 1 := ⟨_, rfl⟩
                        have ez337404 : z337404.toInt = g337339.toInt + 1 := gI_inc hz337404 (by decide) bg337339'' (by decide) (by decide)
                        have bz337404 : gB z337404 1 100 := ⟨by omega, by omega⟩
                        refine G_iinc (L' := [(3, .int z337404), (2, .int g337339), (6, .int 0), (5, .int 1), (4, .int 0), (0, .ref q336737), (1, .int p336738)]) z337404 4 dr_cX17_next_165 rfl hz337404.symm (Nat.le_of_ble_eq_true rfl) rfl ?_
                        refine G_goto 40 dr_cX17_next_168 (by decide +kernel) ?_
                        refine G_lv (L' := [(3, .int z337404), (2, .int g337339), (0, .ref q336737), (1, .int p336738)]) [0, 1, 5, 6] rfl ?_
                        exact ih40_337342 z337404 g337339 (gB_w bz337404 (by decide) (by decide)) (gB_w bg337339'' (by decide) (by decide)) (by first | exact fun h => absurd h (by omega) | exact fun h => (by rw [ez337404]; rw [cB_of he336788]; have q := x337341; rw [cB_of he336788] at q; exact nx_0 (q h) hz337349 (by omega) rfl)) (fun _ => by rw [cB_of he336788]; exact sd_of hz337349 (by omega) (by omega) (by omega)) (fun k e1 ht => kt40_337343 k e1 (fun R c1 c2 c3 c4 c5 c6 c7 c8 c9 c10 => c4 g337339 g337340 f336789 z337349 f337386 z337387 u337388 f337392 z337393 u337394 u337395 z337396 u337397 z337398 u337399 u337400 z337401 z337404 k e1 bg337339 bg337340 x337341 x337342 r337347 fq337348 he336788 hz337349 bz337349 r337351 r337353 r337355 r337382 fq337383 he337385 hz337387 hu337388 fq337389 he337391 hz337393 hu337394 hu337395 hz337396 hu337397 hz337398 hu337399 hu337400 hz337401 r337403 ez337404 (ht R c1 c2 c3 c4 c5 c6 c7 c8 c9 c10))) (by omega)
                      · have r337405 : z337401.toInt < 0 := gj_nleL hc337402 (show Int32.toInt 0 = 0 by decide)
                        have bz337401' : gB z337401 (-1) (-1) := ⟨by omega, by omega⟩
                        have lhc337402 := gC_cmpS hz337401 (by omega)
                        refine G_iconst 1 dr_cX17_next_141 (by decide +kernel) ?_
                        refine G_goto 146 dr_cX17_next_142 (by decide +kernel) ?_
                        refine G_istore (L' := [(6, .int 1), (5, .int 1), (4, .int 0), (3, .int g337339), (2, .int g337340), (0, .ref q336737), (1, .int p336738)]) dr_cX17_next_146 (Nat.le_of_ble_eq_true rfl) rfl ?_
                        refine G_iload 2 dr_cX17_next_148 rfl ?_
                        refine G_if_ne 158 dr_cX17_next_150 (by decide +kernel) (fun hc => absurd hc (by decide)) (fun _ => ?_)
                        refine G_iload 1 dr_cX17_next_153 rfl ?_
                        refine G_if_ne 163 dr_cX17_next_155 (by decide +kernel) (fun _ => ?_) (fun hc => absurd hc (by decide))
                        refine G_iload_n 3 dr_cX17_next_163 rfl ?_
                        refine G_istore_n (L' := [(2, .int g337339), (6, .int 1), (5, .int 1), (4, .int 0), (3, .int g337339), (0, .ref q336737), (1, .int p336738)]) dr_cX17_next_164 (Nat.le_of_ble_eq_true rfl) rfl ?_
                        obtain ⟨z337406, hz337406⟩ : ∃ z : Int32, z = g337339 + Int32.ofInt 1 := ⟨_, rfl⟩
                        have ez337406 : z337406.toInt = g337339.toInt + 1 := gI_inc hz337406 (by decide) bg337339'' (by decide) (by decide)
                        have bz337406 : gB z337406 1 100 := ⟨by omega, by omega⟩
                        refine G_iinc (L' := [(3, .int z337406), (2, .int g337339), (6, .int 1), (5, .int 1), (4, .int 0), (0, .ref q336737), (1, .int p336738)]) z337406 4 dr_cX17_next_165 rfl hz337406.symm (Nat.le_of_ble_eq_true rfl) rfl ?_
                        refine G_goto 40 dr_cX17_next_168 (by decide +kernel) ?_
                        refine G_lv (L' := [(3, .int z337406), (2, .int g337339), (0, .ref q336737), (1, .int p336738)]) [0, 1, 5, 6] rfl ?_
                        exact ih40_337342 z337406 g337339 (gB_w bz337406 (by decide) (by decide)) (gB_w bg337339'' (by decide) (by decide)) (by first | exact fun h => absurd h (by omega) | exact fun h => (by rw [ez337406]; rw [cB_of he336788]; have q := x337341; rw [cB_of he336788] at q; exact nx_0 (q h) hz337349 (by omega) rfl)) (fun _ => by rw [cB_of he336788]; exact sd_of hz337349 (by omega) (by omega) (by omega)) (fun k e1 ht => kt40_337343 k e1 (fun R c1 c2 c3 c4 c5 c6 c7 c8 c9 c10 => c5 g337339 g337340 f336789 z337349 f337386 z337387 u337388 f337392 z337393 u337394 u337395 z337396 u337397 z337398 u337399 u337400 z337401 z337406 k e1 bg337339 bg337340 x337341 x337342 r337347 fq337348 he336788 hz337349 bz337349 r337351 r337353 r337355 r337382 fq337383 he337385 hz337387 hu337388 fq337389 he337391 hz337393 hu337394 hu337395 hz337396 hu337397 hz337398 hu337399 hu337400 hz337401 r337405 ez337406 (ht R c1 c2 c3 c4 c5 c6 c7 c8 c9 c10))) (by omega)
                  · have r337407 : 100 ≤ g337339.toInt := gj_nlt hc337354 (show Int32.toInt 100 = 100 by decide)
                    have bg337339'' : gB g337339 100 1999 := ⟨by omega, by omega⟩
                    refine G_iconst 1 dr_cX17_next_74 (by decide +kernel) ?_
                    refine G_goto 79 dr_cX17_next_75 (by decide +kernel) ?_
                    refine G_istore (L' := [(4, .int 1), (3, .int g337339), (2, .int g337340), (0, .ref q336737), (1, .int p336738)]) dr_cX17_next_79 (Nat.le_of_ble_eq_true rfl) rfl ?_
                    refine G_iload_n 2 dr_cX17_next_81 rfl ?_
                    refine G_bipush 100 dr_cX17_next_82 (by decide +kernel) ?_
                    refine G_icmp_lt 91 dr_cX17_next_84 (by decide +kernel) (fun hc337408 => ?_) (fun hc337408 => ?_)
                    · have r337409 : g337340.toInt < 100 := gj_lt hc337408 (show Int32.toInt 100 = 100 by decide)
                      have bg337340'' : gB g337340 0 99 := ⟨by omega, by omega⟩
                      refine G_iconst 0 dr_cX17_next_91 (by decide +kernel) ?_
                      refine G_istore (L' := [(5, .int 0), (4, .int 1), (3, .int g337339), (2, .int g337340), (0, .ref q336737), (1, .int p336738)]) dr_cX17_next_92 (Nat.le_of_ble_eq_true rfl) rfl ?_
                      refine G_iload 1 dr_cX17_next_94 rfl ?_
                      refine G_if_eq 107 dr_cX17_next_96 (by decide +kernel) (fun hc => absurd hc (by decide)) (fun _ => ?_)
                      refine G_iload 0 dr_cX17_next_99 rfl ?_
                      refine G_if_ne 107 dr_cX17_next_101 (by decide +kernel) (fun hc => absurd hc (by decide)) (fun _ => ?_)
                      refine G_goto 165 dr_cX17_next_104 (by decide +kernel) ?_
                      obtain ⟨z337410, hz337410⟩ : ∃ z : Int32, z = g337339 + Int32.ofInt 1 := ⟨_, rfl⟩
                      have ez337410 : z337410.toInt = g337339.toInt + 1 := gI_inc hz337410 (by decide) bg337339'' (by decide) (by decide)
                      have bz337410 : gB z337410 101 2000 := ⟨by omega, by omega⟩
                      refine G_iinc (L' := [(3, .int z337410), (5, .int 0), (4, .int 1), (2, .int g337340), (0, .ref q336737), (1, .int p336738)]) z337410 2 dr_cX17_next_165 rfl hz337410.symm (Nat.le_of_ble_eq_true rfl) rfl ?_
                      refine G_goto 40 dr_cX17_next_168 (by decide +kernel) ?_
                      refine G_lv (L' := [(3, .int z337410), (2, .int g337340), (0, .ref q336737), (1, .int p336738)]) [0, 3, 4, 5] rfl ?_
                      exact ih40_337342 z337410 g337340 (gB_w bz337410 (by decide) (by decide)) (gB_w bg337340'' (by decide) (by decide)) (by first | exact fun h => absurd h (by omega) | exact fun h => (by rw [ez337410]; rw [cB_of he336788]; have q := x337341; rw [cB_of he336788] at q; exact nx_0 (q h) hz337349 (by omega) rfl)) x337342 (fun k e1 ht => kt40_337343 k e1 (fun R c1 c2 c3 c4 c5 c6 c7 c8 c9 c10 => c6 g337339 g337340 f336789 z337349 z337410 k e1 bg337339 bg337340 x337341 x337342 r337347 fq337348 he336788 hz337349 bz337349 r337351 r337353 r337407 r337409 ez337410 (ht R c1 c2 c3 c4 c5 c6 c7 c8 c9 c10))) (by omega)
                    · have r337411 : 100 ≤ g337340.toInt := gj_nlt hc337408 (show Int32.toInt 100 = 100 by decide)
                      have bg337340'' : gB g337340 100 1999 := ⟨by omega, by omega⟩
                      refine G_iconst 1 dr_cX17_next_87 (by decide +kernel) ?_
                      refine G_goto 92 dr_cX17_next_88 (by decide +kernel) ?_
                      refine G_istore (L' := [(5, .int 1), (4, .int 1), (3, .int g337339), (2, .int g337340), (0, .ref q336737), (1, .int p336738)]) dr_cX17_next_92 (Nat.le_of_ble_eq_true rfl) rfl ?_
                      refine G_iload 1 dr_cX17_next_94 rfl ?_
                      refine G_if_eq 107 dr_cX17_next_96 (by decide +kernel) (fun hc => absurd hc (by decide)) (fun _ => ?_)
                      refine G_iload 0 dr_cX17_next_99 rfl ?_
                      refine G_if_ne 107 dr_cX17_next_101 (by decide +kernel) (fun _ => ?_) (fun hc => absurd hc (by decide))
                      refine G_aload_n 4 dr_cX17_next_107 rfl ?_
                      have fq337412 : fR (F336736 q336737) 5 = (γ 9 5) := by rw [he336741]; rfl
                      refine Gp_get 5 hm336740 he336741 dr_cX17_next_108 (gk_X17 D I) (Nat.le_of_ble_eq_true rfl) wr_7_79 rfl ?_
                      refine G_iload_n 2 dr_cX17_next_111 rfl ?_
                      have hm337413 : (γ 9 5) ∈ P336735 := RS_m hT ht336766 (by decide)
                      obtain ⟨f337415, he337414⟩ := show rk_17 I (F336736 (γ 9 5)) from RS_o hT ht336766
                      refine Gp_iald 0 hm337413 he337414 dr_cX17_next_112 rfl (gB_in bg337339'' (by decide) (by decide)) (G_nam fun z337416 hz337416 => ?_)
                      have bz337416 : gB z337416 (-2147483648) 2147483647 := gB_any z337416
                      refine G_i2l dr_cX17_next_113 (G_namL fun u337417 hu337417 => ?_)
                      refine G_aload_n 4 dr_cX17_next_114 rfl ?_
                      have fq337418 : fR (F336736 q336737) 16 = (γ 9 16) := by rw [he336741]; rfl
                      refine Gp_get 16 hm336740 he336741 dr_cX17_next_115 (gk_X17 D I) (Nat.le_of_ble_eq_true rfl) wr_7_90 rfl ?_
                      refine G_iload_n 3 dr_cX17_next_118 rfl ?_
                      have hm337419 : (γ 9 16) ∈ P336735 := RS_m hT ht336771 (by decide)
                      obtain ⟨f337421, he337420⟩ := show rk_19 I (F336736 (γ 9 16)) from RS_o hT ht336771
                      refine Gp_iald 0 hm337419 he337420 dr_cX17_next_119 rfl (gB_in bg337340'' (by decide) (by decide)) (G_nam fun z337422 hz337422 => ?_)
                      have bz337422 : gB z337422 (-2147483648) 2147483647 := gB_any z337422
                      refine G_i2l dr_cX17_next_120 (G_namL fun u337423 hu337423 => ?_)
                      refine G_lmul dr_cX17_next_121 (G_namL fun u337424 hu337424 => ?_)
                      refine G_aload_n 4 dr_cX17_next_122 rfl ?_
                      refine Gp_get 5 hm336740 he336741 dr_cX17_next_123 (gk_X17 D I) (Nat.le_of_ble_eq_true rfl) wr_7_79 rfl ?_
                      refine G_iload_n 3 dr_cX17_next_126 rfl ?_
                      refine Gp_iald 0 hm337413 he337414 dr_cX17_next_127 rfl (gB_in bg337340'' (by decide) (by decide)) (G_nam fun z337425 hz337425 => ?_)
                      have bz337425 : gB z337425 (-2147483648) 2147483647 := gB_any z337425
                      refine G_i2l dr_cX17_next_128 (G_namL fun u337426 hu337426 => ?_)
                      refine G_aload_n 4 dr_cX17_next_129 rfl ?_
                      refine Gp_get 16 hm336740 he336741 dr_cX17_next_130 (gk_X17 D I) (Nat.le_of_ble_eq_true rfl) wr_7_90 rfl ?_
                      refine G_iload_n 2 dr_cX17_next_133 rfl ?_
                      refine Gp_iald 0 hm337419 he337420 dr_cX17_next_134 rfl (gB_in bg337339'' (by decide) (by decide)) (G_nam fun z337427 hz337427 => ?_)
                      have bz337427 : gB z337427 (-2147483648) 2147483647 := gB_any z337427
                      refine G_i2l dr_cX17_next_135 (G_namL fun u337428 hu337428 => ?_)
                      refine G_lmul dr_cX17_next_136 (G_namL fun u337429 hu337429 => ?_)
                      refine G_lcmp dr_cX17_next_137 (G_nam fun z337430 hz337430 => ?_)
                      have bz337430 : gB z337430 (-1) 1 := gB_cmp hz337430
                      refine G_if_ge 145 dr_cX17_next_138 (by decide +kernel) (fun hc337431 => ?_) (fun hc337431 => ?_)
                      · have r337432 : 0 ≤ z337430.toInt := gj_leL hc337431 (show Int32.toInt 0 = 0 by decide)
                        have bz337430' : gB z337430 0 1 := ⟨by omega, by omega⟩
                        refine G_iconst 0 dr_cX17_next_145 (by decide +kernel) ?_
                        refine G_istore (L' := [(6, .int 0), (5, .int 1), (4, .int 1), (3, .int g337339), (2, .int g337340), (0, .ref q336737), (1, .int p336738)]) dr_cX17_next_146 (Nat.le_of_ble_eq_true rfl) rfl ?_
                        refine G_iload 2 dr_cX17_next_148 rfl ?_
                        refine G_if_ne 158 dr_cX17_next_150 (by decide +kernel) (fun _ => ?_) (fun hc => absurd hc (by decide))
                        refine G_iload 0 dr_cX17_next_158 rfl ?_
                        refine G_if_eq 165 dr_cX17_next_160 (by decide +kernel) (fun _ => ?_) (fun hc => absurd hc (by decide))
                        obtain ⟨z337433, hz337433⟩ : ∃ z : Int32, z = g337339 + Int32.ofInt 1 := ⟨_, rfl⟩
                        have ez337433 : z337433.toInt = g337339.toInt + 1 := gI_inc hz337433 (by decide) bg337339'' (by decide) (by decide)
                        have bz337433 : gB z337433 101 2000 := ⟨by omega, by omega⟩
                        refine G_iinc (L' := [(3, .int z337433), (6, .int 0), (5, .int 1), (4, .int 1), (2, .int g337340), (0, .ref q336737), (1, .int p336738)]) z337433 3 dr_cX17_next_165 rfl hz337433.symm (Nat.le_of_ble_eq_true rfl) rfl ?_
                        refine G_goto 40 dr_cX17_next_168 (by decide +kernel) ?_
                        refine G_lv (L' := [(3, .int z337433), (2, .int g337340), (0, .ref q336737), (1, .int p336738)]) [0, 4, 5, 6] rfl ?_
                        exact ih40_337342 z337433 g337340 (gB_w bz337433 (by decide) (by decide)) (gB_w bg337340'' (by decide) (by decide)) (by first | exact fun h => absurd h (by omega) | exact fun h => (by rw [ez337433]; rw [cB_of he336788]; have q := x337341; rw [cB_of he336788] at q; exact nx_0 (q h) hz337349 (by omega) rfl)) x337342 (fun k e1 ht => kt40_337343 k e1 (fun R c1 c2 c3 c4 c5 c6 c7 c8 c9 c10 => c7 g337339 g337340 f336789 z337349 f337415 z337416 u337417 f337421 z337422 u337423 u337424 z337425 u337426 z337427 u337428 u337429 z337430 z337433 k e1 bg337339 bg337340 x337341 x337342 r337347 fq337348 he336788 hz337349 bz337349 r337351 r337353 r337407 r337411 fq337412 he337414 hz337416 hu337417 fq337418 he337420 hz337422 hu337423 hu337424 hz337425 hu337426 hz337427 hu337428 hu337429 hz337430 r337432 ez337433 (ht R c1 c2 c3 c4 c5 c6 c7 c8 c9 c10))) (by omega)
                      · have r337434 : z337430.toInt < 0 := gj_nleL hc337431 (show Int32.toInt 0 = 0 by decide)
                        have bz337430' : gB z337430 (-1) (-1) := ⟨by omega, by omega⟩
                        have lhc337431 := gC_cmpS hz337430 (by omega)
                        refine G_iconst 1 dr_cX17_next_141 (by decide +kernel) ?_
                        refine G_goto 146 dr_cX17_next_142 (by decide +kernel) ?_
                        refine G_istore (L' := [(6, .int 1), (5, .int 1), (4, .int 1), (3, .int g337339), (2, .int g337340), (0, .ref q336737), (1, .int p336738)]) dr_cX17_next_146 (Nat.le_of_ble_eq_true rfl) rfl ?_
                        refine G_iload 2 dr_cX17_next_148 rfl ?_
                        refine G_if_ne 158 dr_cX17_next_150 (by decide +kernel) (fun _ => ?_) (fun hc => absurd hc (by decide))
                        refine G_iload 0 dr_cX17_next_158 rfl ?_
                        refine G_if_eq 165 dr_cX17_next_160 (by decide +kernel) (fun hc => absurd hc (by decide)) (fun _ => ?_)
                        refine G_iload_n 3 dr_cX17_next_163 rfl ?_
                        refine G_istore_n (L' := [(2, .int g337339), (6, .int 1), (5, .int 1), (4, .int 1), (3, .int g337339), (0, .ref q336737), (1, .int p336738)]) dr_cX17_next_164 (Nat.le_of_ble_eq_true rfl) rfl ?_
                        obtain ⟨z337435, hz337435⟩ : ∃ z : Int32, z = g337339 + Int32.ofInt 1 := ⟨_, rfl⟩
                        have ez337435 : z337435.toInt = g337339.toInt + 1 := gI_inc hz337435 (by decide) bg337339'' (by decide) (by decide)
                        have bz337435 : gB z337435 101 2000 := ⟨by omega, by omega⟩
                        refine G_iinc (L' := [(3, .int z337435), (2, .int g337339), (6, .int 1), (5, .int 1), (4, .int 1), (0, .ref q336737), (1, .int p336738)]) z337435 4 dr_cX17_next_165 rfl hz337435.symm (Nat.le_of_ble_eq_true rfl) rfl ?_
                        refine G_goto 40 dr_cX17_next_168 (by decide +kernel) ?_
                        refine G_lv (L' := [(3, .int z337435), (2, .int g337339), (0, .ref q336737), (1, .int p336738)]) [0, 1, 5, 6] rfl ?_
                        exact ih40_337342 z337435 g337339 (gB_w bz337435 (by decide) (by decide)) (gB_w bg337339'' (by decide) (by decide)) (by first | exact fun h => absurd h (by omega) | exact fun h => (by rw [ez337435]; rw [cB_of he336788]; have q := x337341; rw [cB_of he336788] at q; exact nx_0 (q h) hz337349 (by omega) rfl)) (fun _ => by rw [cB_of he336788]; exact sd_of hz337349 (by omega) (by omega) (by omega)) (fun k e1 ht => kt40_337343 k e1 (fun R c1 c2 c3 c4 c5 c6 c7 c8 c9 c10 => c8 g337339 g337340 f336789 z337349 f337415 z337416 u337417 f337421 z337422 u337423 u337424 z337425 u337426 z337427 u337428 u337429 z337430 z337435 k e1 bg337339 bg337340 x337341 x337342 r337347 fq337348 he336788 hz337349 bz337349 r337351 r337353 r337407 r337411 fq337412 he337414 hz337416 hu337417 fq337418 he337420 hz337422 hu337423 hu337424 hz337425 hu337426 hz337427 hu337428 hu337429 hz337430 r337434 ez337435 (ht R c1 c2 c3 c4 c5 c6 c7 c8 c9 c10))) (by omega)
                · have r337436 : g337340.toInt < 0 := gj_nleL hc337352 (show Int32.toInt 0 = 0 by decide)
                  have bg337340' : gB g337340 (-1) (-1) := ⟨by omega, by omega⟩
                  refine G_iload_n 0 dr_cX17_next_63 rfl ?_
                  refine G_istore_n (L' := [(2, .int g337339), (3, .int g337339), (0, .ref q336737), (1, .int p336738)]) dr_cX17_next_64 (Nat.le_of_ble_eq_true rfl) rfl ?_
                  refine G_goto 165 dr_cX17_next_65 (by decide +kernel) ?_
                  obtain ⟨z337437, hz337437⟩ : ∃ z : Int32, z = g337339 + Int32.ofInt 1 := ⟨_, rfl⟩
                  have ez337437 : z337437.toInt = g337339.toInt + 1 := gI_inc hz337437 (by decide) bg337339' (by decide) (by decide)
                  have bz337437 : gB z337437 1 2000 := ⟨by omega, by omega⟩
                  refine G_iinc (L' := [(3, .int z337437), (2, .int g337339), (0, .ref q336737), (1, .int p336738)]) z337437 1 dr_cX17_next_165 rfl hz337437.symm (Nat.le_of_ble_eq_true rfl) rfl ?_
                  refine G_goto 40 dr_cX17_next_168 (by decide +kernel) ?_
                  exact ih40_337342 z337437 g337339 (gB_w bz337437 (by decide) (by decide)) (gB_w bg337339' (by decide) (by decide)) (by first | exact fun h => absurd h (by omega) | exact fun h => (by rw [ez337437]; rw [cB_of he336788]; have q := x337341; rw [cB_of he336788] at q; exact nx_0 (q h) hz337349 (by omega) rfl)) (fun _ => by rw [cB_of he336788]; exact sd_of hz337349 (by omega) (by omega) (by omega)) (fun k e1 ht => kt40_337343 k e1 (fun R c1 c2 c3 c4 c5 c6 c7 c8 c9 c10 => c9 g337339 g337340 f336789 z337349 z337437 k e1 bg337339 bg337340 x337341 x337342 r337347 fq337348 he336788 hz337349 bz337349 r337351 r337436 ez337437 (ht R c1 c2 c3 c4 c5 c6 c7 c8 c9 c10))) (by omega)
              · have r337438 : z337349.toInt = 0 := gj_eq hc337350 (show Int32.toInt 0 = 0 by decide)
                have bz337349' : gB z337349 0 0 := ⟨by omega, by omega⟩
                refine G_goto 165 dr_cX17_next_56 (by decide +kernel) ?_
                obtain ⟨z337439, hz337439⟩ : ∃ z : Int32, z = g337339 + Int32.ofInt 1 := ⟨_, rfl⟩
                have ez337439 : z337439.toInt = g337339.toInt + 1 := gI_inc hz337439 (by decide) bg337339' (by decide) (by decide)
                have bz337439 : gB z337439 1 2000 := ⟨by omega, by omega⟩
                refine G_iinc (L' := [(3, .int z337439), (2, .int g337340), (0, .ref q336737), (1, .int p336738)]) z337439 0 dr_cX17_next_165 rfl hz337439.symm (Nat.le_of_ble_eq_true rfl) rfl ?_
                refine G_goto 40 dr_cX17_next_168 (by decide +kernel) ?_
                exact ih40_337342 z337439 g337340 (gB_w bz337439 (by decide) (by decide)) bg337340 (by first | exact fun h => absurd h (by omega) | exact fun h => (by rw [ez337439]; rw [cB_of he336788]; have q := x337341; rw [cB_of he336788] at q; exact nx_0 (q h) hz337349 (by omega) rfl)) x337342 (fun k e1 ht => kt40_337343 k e1 (fun R c1 c2 c3 c4 c5 c6 c7 c8 c9 c10 => c10 g337339 g337340 f336789 z337349 z337439 k e1 bg337339 bg337340 x337341 x337342 r337347 fq337348 he336788 hz337349 bz337349 r337438 ez337439 (ht R c1 c2 c3 c4 c5 c6 c7 c8 c9 c10))) (by omega)
        exact hlp40_337342 (((2001 : Int) - 0).toNat + 1) 0 (-1) (gB_w (gBl (show Int32.toInt 0 = 0 by decide)) (by decide) (by decide)) (gB_w (gBl (show Int32.toInt (-1) = (-1) by decide)) (by decide) (by decide)) (fun _ m hm => absurd hm (by have qa : Int32.toInt 0 = 0 := (by decide); omega)) (fun h => absurd h (by decide)) (fun k e1 ht => ht) (Nat.lt_succ_self _)
      · have r337440 : g337244.toInt < 2000 := gj_nleL hc337246 (show Int32.toInt 2000 = 2000 by decide)
        have bg337244' : gB g337244 0 1999 := ⟨by omega, by omega⟩
        refine G_aload_n 1 dr_cX17_next_9 rfl ?_
        have fq337441 : fR (F336736 q336737) 18 = (γ 9 18) := by rw [he336741]; rfl
        refine Gp_get 18 hm336740 he336741 dr_cX17_next_10 (gk_X17 D I) (Nat.le_of_ble_eq_true rfl) wr_7_92 rfl ?_
        refine G_iload_n 0 dr_cX17_next_13 rfl ?_
        refine Gp_zald 3 hm336787 he336788 dr_cX17_next_14 rfl (gB_in bg337244' (by decide) (by decide)) (G_nam fun z337442 hz337442 => ?_)
        have bz337442 : gB z337442 0 1 := by rw [hz337442]; exact bf336789 _
        refine G_if_eq 30 dr_cX17_next_15 (by decide +kernel) (fun hc337443 => ?_) (fun hc337443 => ?_)
        · have r337444 : z337442.toInt = 0 := gj_eq hc337443 (show Int32.toInt 0 = 0 by decide)
          have bz337442' : gB z337442 0 0 := ⟨by omega, by omega⟩
          obtain ⟨z337445, hz337445⟩ : ∃ z : Int32, z = g337244 + Int32.ofInt 1 := ⟨_, rfl⟩
          have ez337445 : z337445.toInt = g337244.toInt + 1 := gI_inc hz337445 (by decide) bg337244' (by decide) (by decide)
          have bz337445 : gB z337445 1 2000 := ⟨by omega, by omega⟩
          refine G_iinc (L' := [(2, .int z337445), (0, .ref q336737), (1, .int p336738)]) z337445 0 dr_cX17_next_30 rfl hz337445.symm (Nat.le_of_ble_eq_true rfl) rfl ?_
          refine G_goto 2 dr_cX17_next_33 (by decide +kernel) ?_
          exact ih2_337244 z337445 (gB_w bz337445 (by decide) (by decide)) (fun k e1 ht => kt2_337245 k e1 (fun R c1 c2 c3 c4 => c2 g337244 f336789 z337442 z337445 k e1 bg337244 r337440 fq337441 he336788 hz337442 bz337442 r337444 ez337445 (ht R c1 c2 c3 c4))) (by omega)
        · have r337446 : z337442.toInt ≠ 0 := gj_neq hc337443 (show Int32.toInt 0 = 0 by decide)
          have bz337442' : gB z337442 1 1 := ⟨by omega, by omega⟩
          refine G_aload_n 1 dr_cX17_next_18 rfl ?_
          have fq337447 : fR (F336736 q336737) 16 = (γ 9 16) := by rw [he336741]; rfl
          refine Gp_get 16 hm336740 he336741 dr_cX17_next_19 (gk_X17 D I) (Nat.le_of_ble_eq_true rfl) wr_7_90 rfl ?_
          refine G_iload_n 0 dr_cX17_next_22 rfl ?_
          have hm337448 : (γ 9 16) ∈ P336735 := RS_m hT ht336771 (by decide)
          obtain ⟨f337450, he337449⟩ := show rk_19 I (F336736 (γ 9 16)) from RS_o hT ht336771
          refine Gp_iald 0 hm337448 he337449 dr_cX17_next_23 rfl (gB_in bg337244' (by decide) (by decide)) (G_nam fun z337451 hz337451 => ?_)
          have bz337451 : gB z337451 (-2147483648) 2147483647 := gB_any z337451
          refine G_iload_n 2 dr_cX17_next_24 rfl ?_
          refine G_icmp_ge 30 dr_cX17_next_25 (by decide +kernel) (fun hc337452 => ?_) (fun hc337452 => ?_)
          · have r337453 : p336738.toInt ≤ z337451.toInt := gC_le hc337452
            obtain ⟨z337454, hz337454⟩ : ∃ z : Int32, z = g337244 + Int32.ofInt 1 := ⟨_, rfl⟩
            have ez337454 : z337454.toInt = g337244.toInt + 1 := gI_inc hz337454 (by decide) bg337244' (by decide) (by decide)
            have bz337454 : gB z337454 1 2000 := ⟨by omega, by omega⟩
            refine G_iinc (L' := [(2, .int z337454), (0, .ref q336737), (1, .int p336738)]) z337454 0 dr_cX17_next_30 rfl hz337454.symm (Nat.le_of_ble_eq_true rfl) rfl ?_
            refine G_goto 2 dr_cX17_next_33 (by decide +kernel) ?_
            exact ih2_337244 z337454 (gB_w bz337454 (by decide) (by decide)) (fun k e1 ht => kt2_337245 k e1 (fun R c1 c2 c3 c4 => c3 g337244 f336789 z337442 f337450 z337451 z337454 k e1 bg337244 r337440 fq337441 he336788 hz337442 bz337442 r337446 fq337447 he337449 hz337451 r337453 ez337454 (ht R c1 c2 c3 c4))) (by omega)
          · have r337455 : z337451.toInt < p336738.toInt := gC_nle hc337452
            have bz337451' : gB z337451 (-2147483648) 2147483646 := ⟨by omega, by omega⟩
            have bp336738' : gB p336738 (-2147483647) 2147483647 := ⟨by omega, by omega⟩
            have hx337456 : tl_RModel_next_2 D I γ el F336736 q336737 p336738 (0 : Int32) 28 g337244 := kt2_337245 28 g337244 (fun R c1 c2 c3 c4 => c4 g337244 f336789 z337442 f337450 z337451 bg337244 r337440 fq337441 he336788 hz337442 bz337442 r337446 fq337447 he337449 hz337451 r337455)
            refine G_iload_n 0 dr_cX17_next_28 rfl ?_
            exact G_iretA dr_cX17_next_29 rfl (Nat.le_of_ble_eq_true rfl) (Nat.le_of_ble_eq_true rfl) ⟨g337244, rfl, rfl, (Nat.le_of_ble_eq_true rfl), (Nat.le_of_ble_eq_true rfl), (gB_w bg337244' (by decide) (by decide)), (fun _ => by rw [cB_of he336788]; exact sd_of hz337442 (by omega) (by omega) (by omega)), (fun h => absurd h (by omega)), (fun R c1 c2 => c2 g337244 hx337456)⟩
  exact hlp2_337244 (((2001 : Int) - 0).toNat + 1) 0 (gB_w (gBl (show Int32.toInt 0 = 0 by decide)) (by decide) (by decide)) (fun k e1 ht => ht) (Nat.lt_succ_self _)
/- tl_RModel_colours_165: l7, l5; out: l5 -/
def tl_RModel_colours_165 (D : va_G) (I : FieldType → ClassId) (γ el : Nat → Nat → Nat) (F_1 : Nat → va_E) (q0 : Nat) (c1 : Int32) (s1 : Int32) (s2 : Int64) (k : Nat) (e1 : Int64) : Prop := ∀ R : (Int32) → (Int64) → Nat → (Int64) → Prop,
  (∀ (l7_2 : Int32) (l5_2 : Int64), gB l7_2 0 2000 → lb_Q l5_2 (32) → 2000 ≤ l7_2.toInt → R l7_2 l5_2 218 l5_2) →
  (∀ (l7_2 : Int32) (l5_2 : Int64) (x1 : Nat → Int32) (x2 : Int32) (x3 : Int32) (k : Nat) (e1 : Int64), gB l7_2 0 2000 → lb_Q l5_2 (32) → l7_2.toInt < 2000 → fR (F_1 q0) 17 = (γ 9 17) → F_1 (γ 9 17) = .inl (I .int, 2000, .inl x1) → x2 = x1 l7_2.toNatClampNeg → gB x2 (-1) 31 → x2.toInt < 0 → x3.toInt = l7_2.toInt + 1 → R x3 l5_2 k e1 → R l7_2 l5_2 k e1) →
  (∀ (l7_2 : Int32) (l5_2 : Int64) (x1 : Nat → Int32) (x2 : Int32) (x3 : Nat) (x4 : Nat → Int64) (x5 : Int32) (k : Nat) (e1 : Int64), gB l7_2 0 2000 → lb_Q l5_2 (32) → l7_2.toInt < 2000 → fR (F_1 q0) 17 = (γ 9 17) → F_1 (γ 9 17) = .inl (I .int, 2000, .inl x1) → x2 = x1 l7_2.toNatClampNeg → gB x2 (-1) 31 → 0 ≤ x2.toInt → fR (F_1 q0) 1 = (γ 9 1) → x3 = γ 11 c1.toInt.toNat → F_1 x3 = .inl (I .long, 32, .inr (.inl x4)) → tr_RModel_has l7_2 x4 (0 : Int32) → x5.toInt = l7_2.toInt + 1 → R x5 l5_2 k e1 → R l7_2 l5_2 k e1) →
  (∀ (l7_2 : Int32) (l5_2 : Int64) (x1 : Nat → Int32) (x2 : Int32) (x3 : Nat) (x4 : Nat → Int64) (x5 : Int64) (x6 : Int64) (x7 : Int32) (k : Nat) (e1 : Int64), gB l7_2 0 2000 → lb_Q l5_2 (32) → l7_2.toInt < 2000 → fR (F_1 q0) 17 = (γ 9 17) → F_1 (γ 9 17) = .inl (I .int, 2000, .inl x1) → x2 = x1 l7_2.toNatClampNeg → gB x2 (-1) 31 → 0 ≤ x2.toInt → fR (F_1 q0) 1 = (γ 9 1) → x3 = γ 11 c1.toInt.toNat → F_1 x3 = .inl (I .long, 32, .inr (.inl x4)) → tr_RModel_has l7_2 x4 (1 : Int32) → x5 = (1 : Int64) <<< (x2.toInt64 &&& 63) → x6 = l5_2 ||| x5 → x7.toInt = l7_2.toInt + 1 → R x7 x6 k e1 → R l7_2 l5_2 k e1) →
  R s1 s2 k e1
/- tl_RModel_colours_144: F, l3, l2; out: l3, F -/
def tl_RModel_colours_144 (D : va_G) (I : FieldType → ClassId) (γ el : Nat → Nat → Nat) (P : List Nat) (F : Nat → va_E) (q0 : Nat) (a1 : Int32) (s1 : Nat → va_E) (s2 : Int32) (s3 : Int32) (k : Nat) (e1 : Int32) (e2 : Nat → va_E) : Prop := ∀ R : (Nat → va_E) → (Int32) → (Int32) → Nat → (Int32) → (Nat → va_E) → Prop,
  (∀ (F_1 : Nat → va_E) (l3_1 : Int32) (l2_1 : Int32), gB l3_1 0 2000 → gB l2_1 0 2000 → RS D I P F_1 γ el → rStr γ [] F F_1 → ((gIp (l3_1.toInt = 0) (∀ m : Nat, rSd (cB (F_1 (γ 9 3))) m → (∃ i : Nat, (i : Int) < l2_1.toInt ∧ (cB (F_1 (γ 9 15)) i).toInt = m) ∨ 0 ≤ (cB (F_1 (γ 9 17)) m).toInt))) → (l3_1.toInt + l2_1.toInt ≤ 2000) → (F_1 q0 = F q0) → (F_1 (γ 9 3) = F (γ 9 3)) → l2_1.toInt ≤ 0 → R F_1 l3_1 l2_1 253 l3_1 F_1) →
  (∀ (F_1 : Nat → va_E) (l3_1 : Int32) (l2_1 : Int32) (x1 : Int32) (x2 : Nat → Int32) (x3 : Int32) (x4 : Int64) (x5 : Int64) (x6 : Int32) (x7 : Int32) (k : Nat) (e1 : Int32) (e2 : Nat → va_E), gB l3_1 0 2000 → gB l2_1 0 2000 → RS D I P F_1 γ el → rStr γ [] F F_1 → ((gIp (l3_1.toInt = 0) (∀ m : Nat, rSd (cB (F_1 (γ 9 3))) m → (∃ i : Nat, (i : Int) < l2_1.toInt ∧ (cB (F_1 (γ 9 15)) i).toInt = m) ∨ 0 ≤ (cB (F_1 (γ 9 17)) m).toInt))) → (l3_1.toInt + l2_1.toInt ≤ 2000) → (F_1 q0 = F q0) → (F_1 (γ 9 3) = F (γ 9 3)) → 0 < l2_1.toInt → x1.toInt = l2_1.toInt + (-1) → fR (F_1 q0) 15 = (γ 9 15) → F_1 (γ 9 15) = .inl (I .int, 2000, .inl x2) → x3 = x2 x1.toNatClampNeg → gB x3 0 1999 → tl_RModel_colours_165 D I γ el F_1 q0 x3 (0 : Int32) (0 : Int64) 218 x4 → x5 = x4 ^^^ (-1 : Int64) → (0 ≤ x6.toInt ∧ x6.toInt ≤ 63 ∧ x5.toBitVec.getLsbD x6.toInt.toNat = true ∧ ∀ i, i < x6.toInt.toNat → x5.toBitVec.getLsbD i = false) → a1.toInt ≤ x6.toInt → x7.toInt = l3_1.toInt + 1 → R F_1 x7 x1 k e1 e2 → R F_1 l3_1 l2_1 k e1 e2) →
  (∀ (F_1 : Nat → va_E) (l3_1 : Int32) (l2_1 : Int32) (x1 : Int32) (x2 : Nat → Int32) (x3 : Int32) (x4 : Int64) (x5 : Int64) (x6 : Int32) (x7 : Nat → Int32) (x8 : Nat → Int32) (x9 : Nat → va_E) (k : Nat) (e1 : Int32) (e2 : Nat → va_E), gB l3_1 0 2000 → gB l2_1 0 2000 → RS D I P F_1 γ el → rStr γ [] F F_1 → ((gIp (l3_1.toInt = 0) (∀ m : Nat, rSd (cB (F_1 (γ 9 3))) m → (∃ i : Nat, (i : Int) < l2_1.toInt ∧ (cB (F_1 (γ 9 15)) i).toInt = m) ∨ 0 ≤ (cB (F_1 (γ 9 17)) m).toInt))) → (l3_1.toInt + l2_1.toInt ≤ 2000) → (F_1 q0 = F q0) → (F_1 (γ 9 3) = F (γ 9 3)) → 0 < l2_1.toInt → x1.toInt = l2_1.toInt + (-1) → fR (F_1 q0) 15 = (γ 9 15) → F_1 (γ 9 15) = .inl (I .int, 2000, .inl x2) → x3 = x2 x1.toNatClampNeg → gB x3 0 1999 → tl_RModel_colours_165 D I γ el F_1 q0 x3 (0 : Int32) (0 : Int64) 218 x4 → x5 = x4 ^^^ (-1 : Int64) → (0 ≤ x6.toInt ∧ x6.toInt ≤ 63 ∧ x5.toBitVec.getLsbD x6.toInt.toNat = true ∧ ∀ i, i < x6.toInt.toNat → x5.toBitVec.getLsbD i = false) → x6.toInt < a1.toInt → fR (F_1 q0) 17 = (γ 9 17) → F_1 (γ 9 17) = .inl (I .int, 2000, .inl x7) → x8 = upd x7 x3.toNatClampNeg x6 → (∀ b, b ≠ (γ 9 17) → x9 b = F_1 b) → x9 (γ 9 17) = .inl (I .int, 2000, .inl x8) → R x9 l3_1 x1 k e1 e2 → R F_1 l3_1 l2_1 k e1 e2) →
  R s1 s2 s3 k e1 e2
/- tl_RModel_colours_94: F, l4; out: F -/
def tl_RModel_colours_94 (D : va_G) (I : FieldType → ClassId) (γ el : Nat → Nat → Nat) (P : List Nat) (F : Nat → va_E) (c1 : Int32) (F_1 : Nat → va_E) (q0 : Nat) (l3_1 : Int32) (s1 : Nat → va_E) (s2 : Int32) (k : Nat) (e1 : Nat → va_E) : Prop := ∀ R : (Nat → va_E) → (Int32) → Nat → (Nat → va_E) → Prop,
  (∀ (F_2 : Nat → va_E) (l4_2 : Int32), gB l4_2 0 2000 → RS D I P F_2 γ el → rStr γ [] F F_2 → ((∀ m : Nat, rSd (cB (F_2 (γ 9 3))) m → rSd (cB (F_2 (γ 9 18))) m ∨ ∃ i : Nat, (i : Int) < c1.toInt ∧ (cB (F_2 (γ 9 15)) i).toInt = m)) → (rcn (cB (F_2 (γ 9 18))) 2000 + (c1.toInt : Int).toNat ≤ 2000) → (rcn (cB (F_2 (γ 9 18))) 2000 + 1 ≤ rcn (cB (F_1 (γ 9 18))) 2000) → (F_2 q0 = F q0) → (F_2 (γ 9 3) = F (γ 9 3)) → 2000 ≤ l4_2.toInt → R F_2 l4_2 133 F_2) →
  (∀ (F_2 : Nat → va_E) (l4_2 : Int32) (x1 : Nat) (x2 : Nat → Int64) (x3 : Int32) (k : Nat) (e1 : Nat → va_E), gB l4_2 0 2000 → RS D I P F_2 γ el → rStr γ [] F F_2 → ((∀ m : Nat, rSd (cB (F_2 (γ 9 3))) m → rSd (cB (F_2 (γ 9 18))) m ∨ ∃ i : Nat, (i : Int) < c1.toInt ∧ (cB (F_2 (γ 9 15)) i).toInt = m)) → (rcn (cB (F_2 (γ 9 18))) 2000 + (c1.toInt : Int).toNat ≤ 2000) → (rcn (cB (F_2 (γ 9 18))) 2000 + 1 ≤ rcn (cB (F_1 (γ 9 18))) 2000) → (F_2 q0 = F q0) → (F_2 (γ 9 3) = F (γ 9 3)) → l4_2.toInt < 2000 → fR (F_2 q0) 1 = (γ 9 1) → x1 = γ 11 l3_1.toInt.toNat → F_2 x1 = .inl (I .long, 32, .inr (.inl x2)) → tr_RModel_has l4_2 x2 (0 : Int32) → x3.toInt = l4_2.toInt + 1 → R F_2 x3 k e1 → R F_2 l4_2 k e1) →
  (∀ (F_2 : Nat → va_E) (l4_2 : Int32) (x1 : Nat) (x2 : Nat → Int64) (x3 : Nat → Int32) (x4 : Int32) (x5 : Int32) (x6 : Nat → Int32) (x7 : Nat → va_E) (x8 : Int32) (k : Nat) (e1 : Nat → va_E), gB l4_2 0 2000 → RS D I P F_2 γ el → rStr γ [] F F_2 → ((∀ m : Nat, rSd (cB (F_2 (γ 9 3))) m → rSd (cB (F_2 (γ 9 18))) m ∨ ∃ i : Nat, (i : Int) < c1.toInt ∧ (cB (F_2 (γ 9 15)) i).toInt = m)) → (rcn (cB (F_2 (γ 9 18))) 2000 + (c1.toInt : Int).toNat ≤ 2000) → (rcn (cB (F_2 (γ 9 18))) 2000 + 1 ≤ rcn (cB (F_1 (γ 9 18))) 2000) → (F_2 q0 = F q0) → (F_2 (γ 9 3) = F (γ 9 3)) → l4_2.toInt < 2000 → fR (F_2 q0) 1 = (γ 9 1) → x1 = γ 11 l3_1.toInt.toNat → F_2 x1 = .inl (I .long, 32, .inr (.inl x2)) → tr_RModel_has l4_2 x2 (1 : Int32) → fR (F_2 q0) 16 = (γ 9 16) → F_2 (γ 9 16) = .inl (I .int, 2000, .inl x3) → x4 = x3 l4_2.toNatClampNeg → x5 = x4 - (1 : Int32) → x6 = upd x3 l4_2.toNatClampNeg x5 → (∀ b, b ≠ (γ 9 16) → x7 b = F_2 b) → x7 (γ 9 16) = .inl (I .int, 2000, .inl x6) → x8.toInt = l4_2.toInt + 1 → R x7 x8 k e1 → R F_2 l4_2 k e1) →
  R s1 s2 k e1
/- tl_RModel_colours_70: F, l3, l2; out: l2, F -/
def tl_RModel_colours_70 (D : va_G) (I : FieldType → ClassId) (γ el : Nat → Nat → Nat) (P : List Nat) (F : Nat → va_E) (q0 : Nat) (a1 : Int32) (s1 : Nat → va_E) (s2 : Int32) (s3 : Int32) (k : Nat) (e1 : Int32) (e2 : Nat → va_E) : Prop := ∀ R : (Nat → va_E) → (Int32) → (Int32) → Nat → (Int32) → (Nat → va_E) → Prop,
  (∀ (F_1 : Nat → va_E) (l3_1 : Int32) (l2_1 : Int32), gB l3_1 (-1) 1999 → gB l2_1 0 2000 → RS D I P F_1 γ el → rStr γ [] F F_1 → ((∀ m : Nat, rSd (cB (F_1 (γ 9 3))) m → rSd (cB (F_1 (γ 9 18))) m ∨ ∃ i : Nat, (i : Int) < l2_1.toInt ∧ (cB (F_1 (γ 9 15)) i).toInt = m)) → (rcn (cB (F_1 (γ 9 18))) 2000 + (l2_1.toInt : Int).toNat ≤ 2000) → (gIp (0 ≤ l3_1.toInt) (rSd (cB (F_1 (γ 9 18))) (l3_1.toInt : Int).toNat)) → ((gIp (l3_1.toInt < 0) (∀ m : Nat, ¬ rSd (cB (F_1 (γ 9 18))) m))) → (F_1 q0 = F q0) → (F_1 (γ 9 3) = F (γ 9 3)) → l3_1.toInt < 0 → R F_1 l3_1 l2_1 142 l2_1 F_1) →
  (∀ (F_1 : Nat → va_E) (l3_1 : Int32) (l2_1 : Int32) (x1 : Nat → Int32) (x2 : Nat → Int32) (x3 : Nat → va_E) (x4 : Int32) (x5 : Nat → Int32) (x6 : Nat → Int32) (x7 : Nat → va_E) (x8 : Nat → va_E) (x9 : Int32) (k : Nat) (e1 : Int32) (e2 : Nat → va_E), gB l3_1 (-1) 1999 → gB l2_1 0 2000 → RS D I P F_1 γ el → rStr γ [] F F_1 → ((∀ m : Nat, rSd (cB (F_1 (γ 9 3))) m → rSd (cB (F_1 (γ 9 18))) m ∨ ∃ i : Nat, (i : Int) < l2_1.toInt ∧ (cB (F_1 (γ 9 15)) i).toInt = m)) → (rcn (cB (F_1 (γ 9 18))) 2000 + (l2_1.toInt : Int).toNat ≤ 2000) → (gIp (0 ≤ l3_1.toInt) (rSd (cB (F_1 (γ 9 18))) (l3_1.toInt : Int).toNat)) → ((gIp (l3_1.toInt < 0) (∀ m : Nat, ¬ rSd (cB (F_1 (γ 9 18))) m))) → (F_1 q0 = F q0) → (F_1 (γ 9 3) = F (γ 9 3)) → 0 ≤ l3_1.toInt → fR (F_1 q0) 15 = (γ 9 15) → F_1 (γ 9 15) = .inl (I .int, 2000, .inl x1) → x2 = upd x1 l2_1.toNatClampNeg l3_1 → (∀ b, b ≠ (γ 9 15) → x3 b = F_1 b) → x3 (γ 9 15) = .inl (I .int, 2000, .inl x2) → x4.toInt = l2_1.toInt + 1 → fR (x3 q0) 18 = (γ 9 18) → x3 (γ 9 18) = .inl (I .boolean, 2000, .inl x5) → x6 = upd x5 l3_1.toNatClampNeg (vp_nar .boolean 0) → (∀ b, b ≠ (γ 9 18) → x7 b = x3 b) → x7 (γ 9 18) = .inl (I .boolean, 2000, .inl x6) → tl_RModel_colours_94 D I γ el P F x4 F_1 q0 l3_1 x7 (0 : Int32) 133 x8 → gB x9 (-1) 1999 → (gIp (0 ≤ x9.toInt) (rSd (cB (x8 (γ 9 18))) (x9.toInt : Int).toNat)) → ((gIp (x9.toInt < 0) (∀ m : Nat, ¬ rSd (cB (x8 (γ 9 18))) m))) → tr_RModel_next D I γ el x8 q0 a1 x9 → R x8 x9 x4 k e1 e2 → R F_1 l3_1 l2_1 k e1 e2) →
  R s1 s2 s3 k e1 e2
/- tl_RModel_colours_2: F, l2; out: F -/
def tl_RModel_colours_2 (D : va_G) (I : FieldType → ClassId) (γ el : Nat → Nat → Nat) (P : List Nat) (F : Nat → va_E) (q0 : Nat) (s1 : Nat → va_E) (s2 : Int32) (k : Nat) (e1 : Nat → va_E) : Prop := ∀ R : (Nat → va_E) → (Int32) → Nat → (Nat → va_E) → Prop,
  (∀ (F_1 : Nat → va_E) (l2_1 : Int32), gB l2_1 0 2000 → RS D I P F_1 γ el → rStr γ [] F F_1 → ((∀ m : Nat, (m : Int) < l2_1.toInt → rSd (cB (F_1 (γ 9 3))) m → rSd (cB (F_1 (γ 9 18))) m)) → (F_1 q0 = F q0) → (F_1 (γ 9 3) = F (γ 9 3)) → 2000 ≤ l2_1.toInt → R F_1 l2_1 62 F_1) →
  (∀ (F_1 : Nat → va_E) (l2_1 : Int32) (x1 : Nat → Int32) (x2 : Int32) (x3 : Nat → Int32) (x4 : Nat → Int32) (x5 : Nat → va_E) (x6 : Nat → Int32) (x7 : Nat → Int32) (x8 : Nat → va_E) (x9 : Nat → Int32) (x10 : Nat → Int32) (x11 : Nat → va_E) (x12 : Int32) (k : Nat) (e1 : Nat → va_E), gB l2_1 0 2000 → RS D I P F_1 γ el → rStr γ [] F F_1 → ((∀ m : Nat, (m : Int) < l2_1.toInt → rSd (cB (F_1 (γ 9 3))) m → rSd (cB (F_1 (γ 9 18))) m)) → (F_1 q0 = F q0) → (F_1 (γ 9 3) = F (γ 9 3)) → l2_1.toInt < 2000 → fR (F_1 q0) 18 = (γ 9 18) → fR (F_1 q0) 3 = (γ 9 3) → F_1 (γ 9 3) = .inl (I .boolean, 2000, .inl x1) → x2 = x1 l2_1.toNatClampNeg → gB x2 0 1 → F_1 (γ 9 18) = .inl (I .boolean, 2000, .inl x3) → x4 = upd x3 l2_1.toNatClampNeg (vp_nar .boolean x2) → (∀ b, b ≠ (γ 9 18) → x5 b = F_1 b) → x5 (γ 9 18) = .inl (I .boolean, 2000, .inl x4) → fR (x5 q0) 16 = (γ 9 16) → fR (x5 q0) 3 = (γ 9 3) → x5 (γ 9 3) = .inl (I .boolean, 2000, .inl x1) → x2.toInt = 0 → x5 (γ 9 16) = .inl (I .int, 2000, .inl x6) → x7 = upd x6 l2_1.toNatClampNeg 0 → (∀ b, b ≠ (γ 9 16) → x8 b = x5 b) → x8 (γ 9 16) = .inl (I .int, 2000, .inl x7) → fR (x8 q0) 17 = (γ 9 17) → x8 (γ 9 17) = .inl (I .int, 2000, .inl x9) → x10 = upd x9 l2_1.toNatClampNeg (-1) → (∀ b, b ≠ (γ 9 17) → x11 b = x8 b) → x11 (γ 9 17) = .inl (I .int, 2000, .inl x10) → x12.toInt = l2_1.toInt + 1 → R x11 x12 k e1 → R F_1 l2_1 k e1) →
  (∀ (F_1 : Nat → va_E) (l2_1 : Int32) (x1 : Nat → Int32) (x2 : Int32) (x3 : Nat → Int32) (x4 : Nat → Int32) (x5 : Nat → va_E) (x6 : Nat) (x7 : Nat → Int64) (x8 : Int32) (x9 : Nat → Int32) (x10 : Nat → Int32) (x11 : Nat → va_E) (x12 : Nat → Int32) (x13 : Nat → Int32) (x14 : Nat → va_E) (x15 : Int32) (k : Nat) (e1 : Nat → va_E), gB l2_1 0 2000 → RS D I P F_1 γ el → rStr γ [] F F_1 → ((∀ m : Nat, (m : Int) < l2_1.toInt → rSd (cB (F_1 (γ 9 3))) m → rSd (cB (F_1 (γ 9 18))) m)) → (F_1 q0 = F q0) → (F_1 (γ 9 3) = F (γ 9 3)) → l2_1.toInt < 2000 → fR (F_1 q0) 18 = (γ 9 18) → fR (F_1 q0) 3 = (γ 9 3) → F_1 (γ 9 3) = .inl (I .boolean, 2000, .inl x1) → x2 = x1 l2_1.toNatClampNeg → gB x2 0 1 → F_1 (γ 9 18) = .inl (I .boolean, 2000, .inl x3) → x4 = upd x3 l2_1.toNatClampNeg (vp_nar .boolean x2) → (∀ b, b ≠ (γ 9 18) → x5 b = F_1 b) → x5 (γ 9 18) = .inl (I .boolean, 2000, .inl x4) → fR (x5 q0) 16 = (γ 9 16) → fR (x5 q0) 3 = (γ 9 3) → x5 (γ 9 3) = .inl (I .boolean, 2000, .inl x1) → x2.toInt ≠ 0 → fR (x5 q0) 1 = (γ 9 1) → x6 = γ 11 l2_1.toInt.toNat → x5 x6 = .inl (I .long, 32, .inr (.inl x7)) → tr_RModel_count x7 x8 → x5 (γ 9 16) = .inl (I .int, 2000, .inl x9) → x10 = upd x9 l2_1.toNatClampNeg x8 → (∀ b, b ≠ (γ 9 16) → x11 b = x5 b) → x11 (γ 9 16) = .inl (I .int, 2000, .inl x10) → fR (x11 q0) 17 = (γ 9 17) → x11 (γ 9 17) = .inl (I .int, 2000, .inl x12) → x13 = upd x12 l2_1.toNatClampNeg (-1) → (∀ b, b ≠ (γ 9 17) → x14 b = x11 b) → x14 (γ 9 17) = .inl (I .int, 2000, .inl x13) → x15.toInt = l2_1.toInt + 1 → R x14 x15 k e1 → R F_1 l2_1 k e1) →
  R s1 s2 k e1
/- tr_RModel_colours: result, F -/
def tr_RModel_colours (D : va_G) (I : FieldType → ClassId) (γ el : Nat → Nat → Nat) (P : List Nat) (F : Nat → va_E) (q0 : Nat) (a1 : Int32) (o1 : Int32) (o2 : Nat → va_E) : Prop := ∀ R : (Int32) → (Nat → va_E) → Prop,
  (∀ (x1 : Nat → va_E) (x2 : Int32) (x3 : Int32) (x4 : Nat → va_E) (x5 : Int32) (x6 : Nat → va_E), tl_RModel_colours_2 D I γ el P F q0 F (0 : Int32) 62 x1 → gB x2 (-1) 1999 → (gIp (0 ≤ x2.toInt) (rSd (cB (x1 (γ 9 18))) (x2.toInt : Int).toNat)) → ((gIp (x2.toInt < 0) (∀ m : Nat, ¬ rSd (cB (x1 (γ 9 18))) m))) → tr_RModel_next D I γ el x1 q0 a1 x2 → tl_RModel_colours_70 D I γ el P F q0 a1 x1 x2 (0 : Int32) 142 x3 x4 → tl_RModel_colours_144 D I γ el P F q0 a1 x4 (0 : Int32) x3 253 x5 x6 → R x5 x6) →
  R o1 o2
