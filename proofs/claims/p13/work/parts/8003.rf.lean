abbrev ky_397058_SpillForgeModel_mayMerge : gKey := (cX17_mayMerge, 8, "SpillForgeModel", (some FieldType.boolean), [], "mayMerge", fun _ _ => True)
def pt_397058_SpillForgeModel_mayMerge (D : va_G) (I : FieldType → ClassId) (γ el : Nat → Nat → Nat) (P397052 : List Nat) (F397053 : Nat → va_E) (q397054 : Nat) (p397055 : Int32) (p397056 : Int32) (p397057 : Int32) : Option Value → va_W → Nat → Nat → Prop := fun r w dc ds => ∃ (o399045 : Int32), r = some (.int o399045) ∧ w = va_pl P397052 F397053 ∧ dc ≤ 0 ∧ ds ≤ 0 ∧ gB o399045 0 1 ∧ (o399045.toInt = 0 ∨ (p397055.toInt < 100 ∧ p397056.toInt < 100)) ∧ tr_RModel_mayMerge D I γ el F397053 q397054 p397055 p397056 p397057 o399045
set_option maxRecDepth 100000 in
set_option maxHeartbeats 4000000 in
theorem ct_397058_SpillForgeModel_mayMerge (l : Launch) (hl0 : l.stackTraces = false) (D : va_G) (I : FieldType → ClassId) (γ el : Nat → Nat → Nat) (P397052 : List Nat) (F397053 : Nat → va_E) (q397054 : Nat) (p397055 : Int32) (p397056 : Int32) (p397057 : Int32) (hT : RS D I P397052 F397053 γ el) (htq397054 : rKd γ q397054 10) (bp397055 : gB p397055 0 1999) (bp397056 : gB p397056 0 1999) : CtA (gV D I) l yX17_mayMerge cX17_mayMerge 8 (some FieldType.boolean) 2 43 0 0 [.ref q397054, .int p397055, .int p397056, .int p397057] (va_pl P397052 F397053) (pt_397058_SpillForgeModel_mayMerge D I γ el P397052 F397053 q397054 p397055 p397056 p397057) gNA := by
  refine CtA_of hl0 (by decide) (Nat.le_of_ble_eq_true rfl) ?_
  have bp397057 := gB_any p397057
  refine G_iload_n 1 dr_cX17_mayMerge_0 rfl ?_
  refine G_bipush 100 dr_cX17_mayMerge_1 (by decide +kernel) ?_
  refine G_icmp_ge 25 dr_cX17_mayMerge_3 (by decide +kernel) (fun hc397059 => ?_) (fun hc397059 => ?_)
  · have r397060 : 100 ≤ p397055.toInt := gj_leL hc397059 (show Int32.toInt 100 = 100 by decide)
    have bp397055' : gB p397055 100 1999 := ⟨by omega, by omega⟩
    refine G_iconst 0 dr_cX17_mayMerge_25 (by decide +kernel) ?_
    exact G_zretA FieldType.boolean dr_cX17_mayMerge_26 rfl rfl (Nat.le_of_ble_eq_true rfl) (Nat.le_of_ble_eq_true rfl) ⟨0, rfl, rfl, (Nat.le_of_ble_eq_true rfl), (Nat.le_of_ble_eq_true rfl), (gB_w (gBl (show Int32.toInt 0 = 0 by decide)) (by decide) (by decide)), (by have qa0 : Int32.toInt 0 = 0 := (by decide); omega), (fun R c1 c2 c3 c4 c5 => c1 r397060)⟩
  · have r397061 : p397055.toInt < 100 := gj_nleL hc397059 (show Int32.toInt 100 = 100 by decide)
    have bp397055' : gB p397055 0 99 := ⟨by omega, by omega⟩
    refine G_iload_n 2 dr_cX17_mayMerge_6 rfl ?_
    refine G_bipush 100 dr_cX17_mayMerge_7 (by decide +kernel) ?_
    refine G_icmp_ge 25 dr_cX17_mayMerge_9 (by decide +kernel) (fun hc397062 => ?_) (fun hc397062 => ?_)
    · have r397063 : 100 ≤ p397056.toInt := gj_leL hc397062 (show Int32.toInt 100 = 100 by decide)
      have bp397056' : gB p397056 100 1999 := ⟨by omega, by omega⟩
      refine G_iconst 0 dr_cX17_mayMerge_25 (by decide +kernel) ?_
      exact G_zretA FieldType.boolean dr_cX17_mayMerge_26 rfl rfl (Nat.le_of_ble_eq_true rfl) (Nat.le_of_ble_eq_true rfl) ⟨0, rfl, rfl, (Nat.le_of_ble_eq_true rfl), (Nat.le_of_ble_eq_true rfl), (gB_w (gBl (show Int32.toInt 0 = 0 by decide)) (by decide) (by decide)), (by have qa0 : Int32.toInt 0 = 0 := (by decide); omega), (fun R c1 c2 c3 c4 c5 => c2 r397061 r397063)⟩
    · have r397064 : p397056.toInt < 100 := gj_nleL hc397062 (show Int32.toInt 100 = 100 by decide)
      have bp397056' : gB p397056 0 99 := ⟨by omega, by omega⟩
      refine G_aload_n 0 dr_cX17_mayMerge_12 rfl ?_
      have hm397065 : q397054 ∈ P397052 := RS_m hT htq397054 (by decide)
      refine rk10_e (show rk_10 γ (F397053 q397054) from RS_o hT htq397054) (fun q397067 q397068 p397069 p397070 p397071 p397072 p397073 p397074 p397075 p397076 p397077 p397078 p397079 p397080 p397081 p397082 p397083 he397066 hB397110 ht397084 ht397085 ht397086 ht397087 ht397088 ht397089 ht397090 ht397091 ht397092 ht397093 ht397094 ht397095 ht397096 ht397097 ht397098 ht397099 ht397100 ht397101 ht397102 ht397103 ht397104 ht397105 ht397106 ht397107 hB397111 => ?_)
      have fq397112 : fR (F397053 q397054) 1 = (γ 9 1) := by rw [he397066]; rfl
      refine Gp_get 1 hm397065 he397066 dr_cX17_mayMerge_13 (gk_X17 D I) (Nat.le_of_ble_eq_true rfl) wr_7_75 rfl ?_
      refine G_iload_n 1 dr_cX17_mayMerge_16 rfl ?_
      have hm397113 : (γ 9 1) ∈ P397052 := RS_m hT ht397087 (by decide)
      obtain ⟨f397115, he397114, hg397116⟩ := show rk_13 I γ (F397053 (γ 9 1)) from RS_o hT ht397087
      obtain ⟨q397117, hx397119⟩ : ∃ x, x = γ 11 p397055.toInt.toNat := ⟨_, rfl⟩
      have ht397118 : rKd γ q397117 36 := by rw [hx397119]; exact (hg397116 _ (show p397055.toInt.toNat < 2000 by omega)).2.1
      refine Gp_aald 5 hm397113 he397114 dr_cX17_mayMerge_17 rfl rfl (gB_in bp397055' (by decide) (by decide)) ?_
      rw [show f397115 p397055.toNatClampNeg = some q397117 from (hg397116 _ (show p397055.toInt.toNat < 2000 by omega)).1.trans (by rw [hx397119])]
      change G _ _ _ _ _ _ _ (.ref q397117 :: _) _ _ _
      refine G_iload_n 2 dr_cX17_mayMerge_18 rfl ?_
      have hm397120 : q397117 ∈ P397052 := RS_m hT ht397118 (by decide)
      obtain ⟨f397122, he397121, wf397122⟩ := show rk_36 I (F397053 q397117) from RS_o hT ht397118
      refine Gw_callS (As := [.ref q397117, .int p397056]) (gV_ok D I) (cp_1845_SpillForgeModel_has l hl0 D I P397052 F397053 q397117 p397056 f397122 hm397120 he397121 (gB_w bp397056' (by decide) (by decide))) dr_cX17_mayMerge_19 ⟨wr_10_203, wr_1_14, wr_10_205, by decide, rfl, (Nat.le_of_ble_eq_true rfl), (Nat.le_of_ble_eq_true rfl)⟩ wr_10_204 (show 0 + 0 ≤ 0 by first | omega | decide) (show 0 + 0 ≤ 0 by first | omega | decide) (Nat.le_of_ble_eq_true rfl) (fun r397126 w397127 dc397123 ds397124 hp397125 => ?_) (fun _ _ _ _ _ z => z.elim)
      rcases hp397125 with ⟨z397128, z397129, rfl, rfl, hdc, hds, r397130, r397131, r397132, r397133, r397134⟩ | ⟨z397135, z397136, rfl, rfl, hdc, hds, r397137, r397138, r397139, r397140, r397141⟩
      · change G _ _ _ _ _ _ _ (.int 0 :: _) _ _ _
        refine G_widen (cs' := 0) (sl' := 0) (by omega) (by omega) ?_
        refine G_if_eq 27 dr_cX17_mayMerge_22 (by decide +kernel) (fun _ => ?_) (fun hc => absurd hc (by decide))
        refine G_iconst 0 dr_cX17_mayMerge_27 (by decide +kernel) ?_
        refine G_istore (L' := [(4, .int 0), (0, .ref q397054), (1, .int p397055), (2, .int p397056), (3, .int p397057)]) dr_cX17_mayMerge_28 (Nat.le_of_ble_eq_true rfl) rfl ?_
        refine G_iconst 0 dr_cX17_mayMerge_30 (by decide +kernel) ?_
        refine G_istore (L' := [(5, .int 0), (4, .int 0), (0, .ref q397054), (1, .int p397055), (2, .int p397056), (3, .int p397057)]) dr_cX17_mayMerge_31 (Nat.le_of_ble_eq_true rfl) rfl ?_
        have hlp33_398893 : ∀ (n33_398893 : Nat) (g398892 : Int32) (g398893 : Int32), gB g398892 0 2000 → (∀ (k : Nat) (e1 : Int32), tl_RModel_mayMerge_33 D I γ el F397053 q397054 p397055 p397056 p397057 g398892 g398893 k e1 → tl_RModel_mayMerge_33 D I γ el F397053 q397054 p397055 p397056 p397057 (0 : Int32) (0 : Int32) k e1) → ((2001 : Int) - g398892.toInt).toNat < n33_398893 → G (gV D I) l (gRm 2 43 0 0) (gMA (gV D I) (pt_397058_SpillForgeModel_mayMerge D I γ el P397052 F397053 q397054 p397055 p397056 p397057) gNA 0 0) ky_397058_SpillForgeModel_mayMerge 33 [(5, .int g398892), (4, .int g398893), (0, .ref q397054), (1, .int p397055), (2, .int p397056), (3, .int p397057)] [] (va_pl P397052 F397053) 0 0 := by
          intro n33_398893
          induction n33_398893 with
          | zero => intro g398892 g398893 bg398892 kt33_398894 hm33_398893; exact absurd hm33_398893 (Nat.not_lt_zero _)
          | succ n33_398893 ih33_398893 =>
            intro g398892 g398893 bg398892 kt33_398894 hm33_398893
            have bg398893 := gB_any g398893
            refine G_iload 0 dr_cX17_mayMerge_33 rfl ?_
            refine G_sipush 2000 dr_cX17_mayMerge_35 (by decide +kernel) ?_
            refine G_icmp_ge 126 dr_cX17_mayMerge_38 (by decide +kernel) (fun hc398895 => ?_) (fun hc398895 => ?_)
            · have r398896 : 2000 ≤ g398892.toInt := gj_leL hc398895 (show Int32.toInt 2000 = 2000 by decide)
              have bg398892' : gB g398892 2000 2000 := ⟨by omega, by omega⟩
              have hx398897 : tl_RModel_mayMerge_33 D I γ el F397053 q397054 p397055 p397056 p397057 (0 : Int32) (0 : Int32) 126 g398893 := kt33_398894 126 g398893 (fun R c1 c2 c3 c4 c5 c6 c7 c8 => c1 g398892 g398893 bg398892 r398896)
              refine G_iload 1 dr_cX17_mayMerge_126 rfl ?_
              refine G_iload_n 5 dr_cX17_mayMerge_128 rfl ?_
              refine G_icmp_ge 136 dr_cX17_mayMerge_129 (by decide +kernel) (fun hc398898 => ?_) (fun hc398898 => ?_)
              · have r398899 : p397057.toInt ≤ g398893.toInt := gC_le hc398898
                refine G_iconst 0 dr_cX17_mayMerge_136 (by decide +kernel) ?_
                exact G_zretA FieldType.boolean dr_cX17_mayMerge_137 rfl rfl (Nat.le_of_ble_eq_true rfl) (Nat.le_of_ble_eq_true rfl) ⟨0, rfl, rfl, (Nat.le_of_ble_eq_true rfl), (Nat.le_of_ble_eq_true rfl), (gB_w (gBl (show Int32.toInt 0 = 0 by decide)) (by decide) (by decide)), (by have qa0 : Int32.toInt 0 = 0 := (by decide); omega), (fun R c1 c2 c3 c4 c5 => c3 q397117 f397122 g398893 r397061 r397064 fq397112 hx397119 he397121 r397134 hx398897 r398899)⟩
              · have r398900 : g398893.toInt < p397057.toInt := gC_nle hc398898
                have bg398893' : gB g398893 (-2147483648) 2147483646 := ⟨by omega, by omega⟩
                have bp397057' : gB p397057 (-2147483647) 2147483647 := ⟨by omega, by omega⟩
                refine G_iconst 1 dr_cX17_mayMerge_132 (by decide +kernel) ?_
                refine G_goto 137 dr_cX17_mayMerge_133 (by decide +kernel) ?_
                exact G_zretA FieldType.boolean dr_cX17_mayMerge_137 rfl rfl (Nat.le_of_ble_eq_true rfl) (Nat.le_of_ble_eq_true rfl) ⟨1, rfl, rfl, (Nat.le_of_ble_eq_true rfl), (Nat.le_of_ble_eq_true rfl), (gB_w (gBl (show Int32.toInt 1 = 1 by decide)) (by decide) (by decide)), (by have qa0 : Int32.toInt 1 = 1 := (by decide); omega), (fun R c1 c2 c3 c4 c5 => c4 q397117 f397122 g398893 r397061 r397064 fq397112 hx397119 he397121 r397134 hx398897 r398900)⟩
            · have r398901 : g398892.toInt < 2000 := gj_nleL hc398895 (show Int32.toInt 2000 = 2000 by decide)
              have bg398892' : gB g398892 0 1999 := ⟨by omega, by omega⟩
              refine G_aload_n 2 dr_cX17_mayMerge_41 rfl ?_
              have fq398902 : fR (F397053 q397054) 1 = (γ 9 1) := by rw [he397066]; rfl
              refine Gp_get 1 hm397065 he397066 dr_cX17_mayMerge_42 (gk_X17 D I) (Nat.le_of_ble_eq_true rfl) wr_7_75 rfl ?_
              refine G_iload_n 3 dr_cX17_mayMerge_45 rfl ?_
              obtain ⟨q398903, hx398905⟩ : ∃ x, x = γ 11 p397055.toInt.toNat := ⟨_, rfl⟩
              have ht398904 : rKd γ q398903 36 := by rw [hx398905]; exact (hg397116 _ (show p397055.toInt.toNat < 2000 by omega)).2.1
              refine Gp_aald 5 hm397113 he397114 dr_cX17_mayMerge_46 rfl rfl (gB_in bp397055' (by decide) (by decide)) ?_
              rw [show f397115 p397055.toNatClampNeg = some q398903 from (hg397116 _ (show p397055.toInt.toNat < 2000 by omega)).1.trans (by rw [hx398905])]
              change G _ _ _ _ _ _ _ (.ref q398903 :: _) _ _ _
              refine G_iload 0 dr_cX17_mayMerge_47 rfl ?_
              have hm398906 : q398903 ∈ P397052 := RS_m hT ht398904 (by decide)
              obtain ⟨f398908, he398907, wf398908⟩ := show rk_36 I (F397053 q398903) from RS_o hT ht398904
              refine Gw_callS (As := [.ref q398903, .int g398892]) (gV_ok D I) (cp_1845_SpillForgeModel_has l hl0 D I P397052 F397053 q398903 g398892 f398908 hm398906 he398907 (gB_w bg398892' (by decide) (by decide))) dr_cX17_mayMerge_49 ⟨wr_10_203, wr_1_14, wr_10_205, by decide, rfl, (Nat.le_of_ble_eq_true rfl), (Nat.le_of_ble_eq_true rfl)⟩ wr_10_204 (show 0 + 0 ≤ 0 by first | omega | decide) (show 0 + 0 ≤ 0 by first | omega | decide) (Nat.le_of_ble_eq_true rfl) (fun r398912 w398913 dc398909 ds398910 hp398911 => ?_) (fun _ _ _ _ _ z => z.elim)
              rcases hp398911 with ⟨z398914, z398915, rfl, rfl, hdc, hds, r398916, r398917, r398918, r398919, r398920⟩ | ⟨z398921, z398922, rfl, rfl, hdc, hds, r398923, r398924, r398925, r398926, r398927⟩
              · change G _ _ _ _ _ _ _ (.int 0 :: _) _ _ _
                refine G_widen (cs' := 0) (sl' := 0) (by omega) (by omega) ?_
                refine G_istore (L' := [(6, .int 0), (5, .int g398892), (4, .int g398893), (0, .ref q397054), (1, .int p397055), (2, .int p397056), (3, .int p397057)]) dr_cX17_mayMerge_52 (Nat.le_of_ble_eq_true rfl) rfl ?_
                refine G_aload_n 3 dr_cX17_mayMerge_54 rfl ?_
                refine Gp_get 1 hm397065 he397066 dr_cX17_mayMerge_55 (gk_X17 D I) (Nat.le_of_ble_eq_true rfl) wr_7_75 rfl ?_
                refine G_iload_n 5 dr_cX17_mayMerge_58 rfl ?_
                obtain ⟨q398929, hx398931⟩ : ∃ x, x = γ 11 p397056.toInt.toNat := ⟨_, rfl⟩
                have ht398930 : rKd γ q398929 36 := by rw [hx398931]; exact (hg397116 _ (show p397056.toInt.toNat < 2000 by omega)).2.1
                refine Gp_aald 5 hm397113 he397114 dr_cX17_mayMerge_59 rfl rfl (gB_in bp397056' (by decide) (by decide)) ?_
                rw [show f397115 p397056.toNatClampNeg = some q398929 from (hg397116 _ (show p397056.toInt.toNat < 2000 by omega)).1.trans (by rw [hx398931])]
                change G _ _ _ _ _ _ _ (.ref q398929 :: _) _ _ _
                refine G_iload 1 dr_cX17_mayMerge_60 rfl ?_
                have hm398932 : q398929 ∈ P397052 := RS_m hT ht398930 (by decide)
                obtain ⟨f398934, he398933, wf398934⟩ := show rk_36 I (F397053 q398929) from RS_o hT ht398930
                refine Gw_callS (As := [.ref q398929, .int g398892]) (gV_ok D I) (cp_1845_SpillForgeModel_has l hl0 D I P397052 F397053 q398929 g398892 f398934 hm398932 he398933 (gB_w bg398892' (by decide) (by decide))) dr_cX17_mayMerge_62 ⟨wr_10_203, wr_1_14, wr_10_205, by decide, rfl, (Nat.le_of_ble_eq_true rfl), (Nat.le_of_ble_eq_true rfl)⟩ wr_10_204 (show 0 + 0 ≤ 0 by first | omega | decide) (show 0 + 0 ≤ 0 by first | omega | decide) (Nat.le_of_ble_eq_true rfl) (fun r398938 w398939 dc398935 ds398936 hp398937 => ?_) (fun _ _ _ _ _ z => z.elim)
                rcases hp398937 with ⟨z398940, z398941, rfl, rfl, hdc, hds, r398942, r398943, r398944, r398945, r398946⟩ | ⟨z398947, z398948, rfl, rfl, hdc, hds, r398949, r398950, r398951, r398952, r398953⟩
                · change G _ _ _ _ _ _ _ (.int 0 :: _) _ _ _
                  refine G_widen (cs' := 0) (sl' := 0) (by omega) (by omega) ?_
                  refine G_istore (L' := [(7, .int 0), (6, .int 0), (5, .int g398892), (4, .int g398893), (0, .ref q397054), (1, .int p397055), (2, .int p397056), (3, .int p397057)]) dr_cX17_mayMerge_65 (Nat.le_of_ble_eq_true rfl) rfl ?_
                  refine G_iload 1 dr_cX17_mayMerge_67 rfl ?_
                  refine G_if_ne 80 dr_cX17_mayMerge_69 (by decide +kernel) (fun hc => absurd hc (by decide)) (fun _ => ?_)
                  refine G_iload 0 dr_cX17_mayMerge_72 rfl ?_
                  refine G_if_ne 80 dr_cX17_mayMerge_74 (by decide +kernel) (fun hc => absurd hc (by decide)) (fun _ => ?_)
                  refine G_goto 120 dr_cX17_mayMerge_77 (by decide +kernel) ?_
                  obtain ⟨z398955, hz398955⟩ : ∃ z : Int32, z = g398892 + Int32.ofInt 1 := ⟨_, rfl⟩
                  have ez398955 : z398955.toInt = g398892.toInt + 1 := gI_inc hz398955 (by decide) bg398892' (by decide) (by decide)
                  have bz398955 : gB z398955 1 2000 := ⟨by omega, by omega⟩
                  refine G_iinc (L' := [(5, .int z398955), (7, .int 0), (6, .int 0), (4, .int g398893), (0, .ref q397054), (1, .int p397055), (2, .int p397056), (3, .int p397057)]) z398955 2 dr_cX17_mayMerge_120 rfl hz398955.symm (Nat.le_of_ble_eq_true rfl) rfl ?_
                  refine G_goto 33 dr_cX17_mayMerge_123 (by decide +kernel) ?_
                  refine G_lv (L' := [(5, .int z398955), (4, .int g398893), (0, .ref q397054), (1, .int p397055), (2, .int p397056), (3, .int p397057)]) [0, 3, 4, 5, 6, 7] rfl ?_
                  exact ih33_398893 z398955 g398893 (gB_w bz398955 (by decide) (by decide)) (fun k e1 ht => kt33_398894 k e1 (fun R c1 c2 c3 c4 c5 c6 c7 c8 => c2 g398892 g398893 q398903 f398908 q398929 f398934 z398955 k e1 bg398892 r398901 fq398902 hx398905 he398907 r398920 hx398931 he398933 r398946 ez398955 (ht R c1 c2 c3 c4 c5 c6 c7 c8))) (mz_up ez398955 (Int.le_trans bg398892'.2 (by decide)) hm33_398893)
                · change G _ _ _ _ _ _ _ (.int 1 :: _) _ _ _
                  refine G_widen (cs' := 0) (sl' := 0) (by omega) (by omega) ?_
                  refine G_istore (L' := [(7, .int 1), (6, .int 0), (5, .int g398892), (4, .int g398893), (0, .ref q397054), (1, .int p397055), (2, .int p397056), (3, .int p397057)]) dr_cX17_mayMerge_65 (Nat.le_of_ble_eq_true rfl) rfl ?_
                  refine G_iload 1 dr_cX17_mayMerge_67 rfl ?_
                  refine G_if_ne 80 dr_cX17_mayMerge_69 (by decide +kernel) (fun hc => absurd hc (by decide)) (fun _ => ?_)
                  refine G_iload 0 dr_cX17_mayMerge_72 rfl ?_
                  refine G_if_ne 80 dr_cX17_mayMerge_74 (by decide +kernel) (fun _ => ?_) (fun hc => absurd hc (by decide))
                  refine G_iload 3 dr_cX17_mayMerge_80 rfl ?_
                  refine G_aload_n 4 dr_cX17_mayMerge_82 rfl ?_
                  refine Gp_get 1 hm397065 he397066 dr_cX17_mayMerge_83 (gk_X17 D I) (Nat.le_of_ble_eq_true rfl) wr_7_75 rfl ?_
                  refine G_iload 2 dr_cX17_mayMerge_86 rfl ?_
                  obtain ⟨q398956, hx398958⟩ : ∃ x, x = γ 11 g398892.toInt.toNat := ⟨_, rfl⟩
                  have ht398957 : rKd γ q398956 36 := by rw [hx398958]; exact (hg397116 _ (show g398892.toInt.toNat < 2000 by omega)).2.1
                  refine Gp_aald 5 hm397113 he397114 dr_cX17_mayMerge_88 rfl rfl (gB_in bg398892' (by decide) (by decide)) ?_
                  rw [show f397115 g398892.toNatClampNeg = some q398956 from (hg397116 _ (show g398892.toInt.toNat < 2000 by omega)).1.trans (by rw [hx398958])]
                  change G _ _ _ _ _ _ _ (.ref q398956 :: _) _ _ _
                  have hm398959 : q398956 ∈ P397052 := RS_m hT ht398957 (by decide)
                  obtain ⟨f398961, he398960, wf398961⟩ := show rk_36 I (F397053 q398956) from RS_o hT ht398957
                  refine Gw_callS (As := [.ref q398956]) (gV_ok D I) (cp_1899_SpillForgeModel_count l hl0 D I P397052 F397053 q398956 f398961 hm398959 he398960) dr_cX17_mayMerge_89 ⟨wr_11_16, wr_1_14, wr_11_18, by decide, rfl, (Nat.le_of_ble_eq_true rfl), (Nat.le_of_ble_eq_true rfl)⟩ wr_11_17 (show 0 + 0 ≤ 0 by first | omega | decide) (show 0 + 0 ≤ 0 by first | omega | decide) (Nat.le_of_ble_eq_true rfl) (fun r398965 w398966 dc398962 ds398963 hp398964 => ?_) (fun _ _ _ _ _ z => z.elim)
                  obtain ⟨o398967, rfl, rfl, hdc, hds, ht398968⟩ := hp398964
                  have bo398967 := gB_any o398967
                  change G _ _ _ _ _ _ _ (.int o398967 :: _) _ _ _
                  refine G_widen (cs' := 0) (sl' := 0) (by omega) (by omega) ?_
                  refine G_iload 1 dr_cX17_mayMerge_92 rfl ?_
                  refine G_if_eq 106 dr_cX17_mayMerge_94 (by decide +kernel) (fun _ => ?_) (fun hc => absurd hc (by decide))
                  refine G_iconst 0 dr_cX17_mayMerge_106 (by decide +kernel) ?_
                  refine G_isub dr_cX17_mayMerge_107 (G_nam fun z398969 hz398969 => ?_)
                  have ez398969 : z398969.toInt = o398967.toInt - 0 := by rw [gI_sub hz398969 bo398967 (gBl (show Int32.toInt 0 = 0 by decide)) (by decide) (by decide), show Int32.toInt 0 = 0 from by decide]
                  have bz398969 : gB z398969 (-2147483648) 2147483647 := gB_sub (gI_sub hz398969 bo398967 (gBl (show Int32.toInt 0 = 0 by decide)) (by decide) (by decide)) bo398967 (gBl (show Int32.toInt 0 = 0 by decide)) (by decide) (by decide)
                  refine G_iload_n 7 dr_cX17_mayMerge_108 rfl ?_
                  refine G_icmp_lt 116 dr_cX17_mayMerge_109 (by decide +kernel) (fun hc398970 => ?_) (fun hc398970 => ?_)
                  · have r398971 : z398969.toInt < p397057.toInt := gC_lt hc398970
                    have bz398969' : gB z398969 (-2147483648) 2147483646 := ⟨by omega, by omega⟩
                    have bp397057' : gB p397057 (-2147483647) 2147483647 := ⟨by omega, by omega⟩
                    refine G_iconst 0 dr_cX17_mayMerge_116 (by decide +kernel) ?_
                    refine G_iadd dr_cX17_mayMerge_117 (G_nam fun z398972 hz398972 => ?_)
                    have ez398972 : z398972.toInt = g398893.toInt + 0 := by rw [gI_add hz398972 bg398893 (gBl (show Int32.toInt 0 = 0 by decide)) (by decide) (by decide), show Int32.toInt 0 = 0 from by decide]
                    have bz398972 : gB z398972 (-2147483648) 2147483647 := gB_add (gI_add hz398972 bg398893 (gBl (show Int32.toInt 0 = 0 by decide)) (by decide) (by decide)) bg398893 (gBl (show Int32.toInt 0 = 0 by decide)) (by decide) (by decide)
                    refine G_istore (L' := [(4, .int z398972), (7, .int 1), (6, .int 0), (5, .int g398892), (0, .ref q397054), (1, .int p397055), (2, .int p397056), (3, .int p397057)]) dr_cX17_mayMerge_118 (Nat.le_of_ble_eq_true rfl) rfl ?_
                    obtain ⟨z398973, hz398973⟩ : ∃ z : Int32, z = g398892 + Int32.ofInt 1 := ⟨_, rfl⟩
                    have ez398973 : z398973.toInt = g398892.toInt + 1 := gI_inc hz398973 (by decide) bg398892' (by decide) (by decide)
                    have bz398973 : gB z398973 1 2000 := ⟨by omega, by omega⟩
                    refine G_iinc (L' := [(5, .int z398973), (4, .int z398972), (7, .int 1), (6, .int 0), (0, .ref q397054), (1, .int p397055), (2, .int p397056), (3, .int p397057)]) z398973 3 dr_cX17_mayMerge_120 rfl hz398973.symm (Nat.le_of_ble_eq_true rfl) rfl ?_
                    refine G_goto 33 dr_cX17_mayMerge_123 (by decide +kernel) ?_
                    refine G_lv (L' := [(5, .int z398973), (4, .int z398972), (0, .ref q397054), (1, .int p397055), (2, .int p397056), (3, .int p397057)]) [0, 1, 4, 5, 6, 7] rfl ?_
                    exact ih33_398893 z398973 z398972 (gB_w bz398973 (by decide) (by decide)) (fun k e1 ht => kt33_398894 k e1 (fun R c1 c2 c3 c4 c5 c6 c7 c8 => c3 g398892 g398893 q398903 f398908 q398929 f398934 q398956 f398961 o398967 z398969 z398972 z398973 k e1 bg398892 r398901 fq398902 hx398905 he398907 r398920 hx398931 he398933 r398953 hx398958 he398960 ht398968 ez398969 r398971 ez398972 ez398973 (ht R c1 c2 c3 c4 c5 c6 c7 c8))) (mz_up ez398973 (Int.le_trans bg398892'.2 (by decide)) hm33_398893)
                  · have r398974 : p397057.toInt ≤ z398969.toInt := gC_nlt hc398970
                    refine G_iconst 1 dr_cX17_mayMerge_112 (by decide +kernel) ?_
                    refine G_goto 117 dr_cX17_mayMerge_113 (by decide +kernel) ?_
                    refine G_iadd dr_cX17_mayMerge_117 (G_nam fun z398975 hz398975 => ?_)
                    have bz398975 : gB z398975 (-2147483648) 2147483647 := gB_any z398975
                    refine G_istore (L' := [(4, .int z398975), (7, .int 1), (6, .int 0), (5, .int g398892), (0, .ref q397054), (1, .int p397055), (2, .int p397056), (3, .int p397057)]) dr_cX17_mayMerge_118 (Nat.le_of_ble_eq_true rfl) rfl ?_
                    obtain ⟨z398976, hz398976⟩ : ∃ z : Int32, z = g398892 + Int32.ofInt 1 := ⟨_, rfl⟩
                    have ez398976 : z398976.toInt = g398892.toInt + 1 := gI_inc hz398976 (by decide) bg398892' (by decide) (by decide)
                    have bz398976 : gB z398976 1 2000 := ⟨by omega, by omega⟩
                    refine G_iinc (L' := [(5, .int z398976), (4, .int z398975), (7, .int 1), (6, .int 0), (0, .ref q397054), (1, .int p397055), (2, .int p397056), (3, .int p397057)]) z398976 3 dr_cX17_mayMerge_120 rfl hz398976.symm (Nat.le_of_ble_eq_true rfl) rfl ?_
                    refine G_goto 33 dr_cX17_mayMerge_123 (by decide +kernel) ?_
                    refine G_lv (L' := [(5, .int z398976), (4, .int z398975), (0, .ref q397054), (1, .int p397055), (2, .int p397056), (3, .int p397057)]) [0, 1, 4, 5, 6, 7] rfl ?_
                    exact ih33_398893 z398976 z398975 (gB_w bz398976 (by decide) (by decide)) (fun k e1 ht => kt33_398894 k e1 (fun R c1 c2 c3 c4 c5 c6 c7 c8 => c4 g398892 g398893 q398903 f398908 q398929 f398934 q398956 f398961 o398967 z398969 z398975 z398976 k e1 bg398892 r398901 fq398902 hx398905 he398907 r398920 hx398931 he398933 r398953 hx398958 he398960 ht398968 ez398969 r398974 hz398975 ez398976 (ht R c1 c2 c3 c4 c5 c6 c7 c8))) (mz_up ez398976 (Int.le_trans bg398892'.2 (by decide)) hm33_398893)
              · change G _ _ _ _ _ _ _ (.int 1 :: _) _ _ _
                refine G_widen (cs' := 0) (sl' := 0) (by omega) (by omega) ?_
                refine G_istore (L' := [(6, .int 1), (5, .int g398892), (4, .int g398893), (0, .ref q397054), (1, .int p397055), (2, .int p397056), (3, .int p397057)]) dr_cX17_mayMerge_52 (Nat.le_of_ble_eq_true rfl) rfl ?_
                refine G_aload_n 3 dr_cX17_mayMerge_54 rfl ?_
                refine Gp_get 1 hm397065 he397066 dr_cX17_mayMerge_55 (gk_X17 D I) (Nat.le_of_ble_eq_true rfl) wr_7_75 rfl ?_
                refine G_iload_n 5 dr_cX17_mayMerge_58 rfl ?_
                obtain ⟨q398977, hx398979⟩ : ∃ x, x = γ 11 p397056.toInt.toNat := ⟨_, rfl⟩
                have ht398978 : rKd γ q398977 36 := by rw [hx398979]; exact (hg397116 _ (show p397056.toInt.toNat < 2000 by omega)).2.1
                refine Gp_aald 5 hm397113 he397114 dr_cX17_mayMerge_59 rfl rfl (gB_in bp397056' (by decide) (by decide)) ?_
                rw [show f397115 p397056.toNatClampNeg = some q398977 from (hg397116 _ (show p397056.toInt.toNat < 2000 by omega)).1.trans (by rw [hx398979])]
                change G _ _ _ _ _ _ _ (.ref q398977 :: _) _ _ _
                refine G_iload 1 dr_cX17_mayMerge_60 rfl ?_
                have hm398980 : q398977 ∈ P397052 := RS_m hT ht398978 (by decide)
                obtain ⟨f398982, he398981, wf398982⟩ := show rk_36 I (F397053 q398977) from RS_o hT ht398978
                refine Gw_callS (As := [.ref q398977, .int g398892]) (gV_ok D I) (cp_1845_SpillForgeModel_has l hl0 D I P397052 F397053 q398977 g398892 f398982 hm398980 he398981 (gB_w bg398892' (by decide) (by decide))) dr_cX17_mayMerge_62 ⟨wr_10_203, wr_1_14, wr_10_205, by decide, rfl, (Nat.le_of_ble_eq_true rfl), (Nat.le_of_ble_eq_true rfl)⟩ wr_10_204 (show 0 + 0 ≤ 0 by first | omega | decide) (show 0 + 0 ≤ 0 by first | omega | decide) (Nat.le_of_ble_eq_true rfl) (fun r398986 w398987 dc398983 ds398984 hp398985 => ?_) (fun _ _ _ _ _ z => z.elim)
                rcases hp398985 with ⟨z398988, z398989, rfl, rfl, hdc, hds, r398990, r398991, r398992, r398993, r398994⟩ | ⟨z398995, z398996, rfl, rfl, hdc, hds, r398997, r398998, r398999, r399000, r399001⟩
                · change G _ _ _ _ _ _ _ (.int 0 :: _) _ _ _
                  refine G_widen (cs' := 0) (sl' := 0) (by omega) (by omega) ?_
                  refine G_istore (L' := [(7, .int 0), (6, .int 1), (5, .int g398892), (4, .int g398893), (0, .ref q397054), (1, .int p397055), (2, .int p397056), (3, .int p397057)]) dr_cX17_mayMerge_65 (Nat.le_of_ble_eq_true rfl) rfl ?_
                  refine G_iload 1 dr_cX17_mayMerge_67 rfl ?_
                  refine G_if_ne 80 dr_cX17_mayMerge_69 (by decide +kernel) (fun _ => ?_) (fun hc => absurd hc (by decide))
                  refine G_iload 3 dr_cX17_mayMerge_80 rfl ?_
                  refine G_aload_n 4 dr_cX17_mayMerge_82 rfl ?_
                  refine Gp_get 1 hm397065 he397066 dr_cX17_mayMerge_83 (gk_X17 D I) (Nat.le_of_ble_eq_true rfl) wr_7_75 rfl ?_
                  refine G_iload 2 dr_cX17_mayMerge_86 rfl ?_
                  obtain ⟨q399003, hx399005⟩ : ∃ x, x = γ 11 g398892.toInt.toNat := ⟨_, rfl⟩
                  have ht399004 : rKd γ q399003 36 := by rw [hx399005]; exact (hg397116 _ (show g398892.toInt.toNat < 2000 by omega)).2.1
                  refine Gp_aald 5 hm397113 he397114 dr_cX17_mayMerge_88 rfl rfl (gB_in bg398892' (by decide) (by decide)) ?_
                  rw [show f397115 g398892.toNatClampNeg = some q399003 from (hg397116 _ (show g398892.toInt.toNat < 2000 by omega)).1.trans (by rw [hx399005])]
                  change G _ _ _ _ _ _ _ (.ref q399003 :: _) _ _ _
                  have hm399006 : q399003 ∈ P397052 := RS_m hT ht399004 (by decide)
                  obtain ⟨f399008, he399007, wf399008⟩ := show rk_36 I (F397053 q399003) from RS_o hT ht399004
                  refine Gw_callS (As := [.ref q399003]) (gV_ok D I) (cp_1899_SpillForgeModel_count l hl0 D I P397052 F397053 q399003 f399008 hm399006 he399007) dr_cX17_mayMerge_89 ⟨wr_11_16, wr_1_14, wr_11_18, by decide, rfl, (Nat.le_of_ble_eq_true rfl), (Nat.le_of_ble_eq_true rfl)⟩ wr_11_17 (show 0 + 0 ≤ 0 by first | omega | decide) (show 0 + 0 ≤ 0 by first | omega | decide) (Nat.le_of_ble_eq_true rfl) (fun r399012 w399013 dc399009 ds399010 hp399011 => ?_) (fun _ _ _ _ _ z => z.elim)
                  obtain ⟨o399014, rfl, rfl, hdc, hds, ht399015⟩ := hp399011
                  have bo399014 := gB_any o399014
                  change G _ _ _ _ _ _ _ (.int o399014 :: _) _ _ _
                  refine G_widen (cs' := 0) (sl' := 0) (by omega) (by omega) ?_
                  refine G_iload 1 dr_cX17_mayMerge_92 rfl ?_
                  refine G_if_eq 106 dr_cX17_mayMerge_94 (by decide +kernel) (fun hc => absurd hc (by decide)) (fun _ => ?_)
                  refine G_iload 0 dr_cX17_mayMerge_97 rfl ?_
                  refine G_if_eq 106 dr_cX17_mayMerge_99 (by decide +kernel) (fun _ => ?_) (fun hc => absurd hc (by decide))
                  refine G_iconst 0 dr_cX17_mayMerge_106 (by decide +kernel) ?_
                  refine G_isub dr_cX17_mayMerge_107 (G_nam fun z399016 hz399016 => ?_)
                  have ez399016 : z399016.toInt = o399014.toInt - 0 := by rw [gI_sub hz399016 bo399014 (gBl (show Int32.toInt 0 = 0 by decide)) (by decide) (by decide), show Int32.toInt 0 = 0 from by decide]
                  have bz399016 : gB z399016 (-2147483648) 2147483647 := gB_sub (gI_sub hz399016 bo399014 (gBl (show Int32.toInt 0 = 0 by decide)) (by decide) (by decide)) bo399014 (gBl (show Int32.toInt 0 = 0 by decide)) (by decide) (by decide)
                  refine G_iload_n 7 dr_cX17_mayMerge_108 rfl ?_
                  refine G_icmp_lt 116 dr_cX17_mayMerge_109 (by decide +kernel) (fun hc399017 => ?_) (fun hc399017 => ?_)
                  · have r399018 : z399016.toInt < p397057.toInt := gC_lt hc399017
                    have bz399016' : gB z399016 (-2147483648) 2147483646 := ⟨by omega, by omega⟩
                    have bp397057' : gB p397057 (-2147483647) 2147483647 := ⟨by omega, by omega⟩
                    refine G_iconst 0 dr_cX17_mayMerge_116 (by decide +kernel) ?_
                    refine G_iadd dr_cX17_mayMerge_117 (G_nam fun z399019 hz399019 => ?_)
                    have ez399019 : z399019.toInt = g398893.toInt + 0 := by rw [gI_add hz399019 bg398893 (gBl (show Int32.toInt 0 = 0 by decide)) (by decide) (by decide), show Int32.toInt 0 = 0 from by decide]
                    have bz399019 : gB z399019 (-2147483648) 2147483647 := gB_add (gI_add hz399019 bg398893 (gBl (show Int32.toInt 0 = 0 by decide)) (by decide) (by decide)) bg398893 (gBl (show Int32.toInt 0 = 0 by decide)) (by decide) (by decide)
                    refine G_istore (L' := [(4, .int z399019), (7, .int 0), (6, .int 1), (5, .int g398892), (0, .ref q397054), (1, .int p397055), (2, .int p397056), (3, .int p397057)]) dr_cX17_mayMerge_118 (Nat.le_of_ble_eq_true rfl) rfl ?_
                    obtain ⟨z399020, hz399020⟩ : ∃ z : Int32, z = g398892 + Int32.ofInt 1 := ⟨_, rfl⟩
                    have ez399020 : z399020.toInt = g398892.toInt + 1 := gI_inc hz399020 (by decide) bg398892' (by decide) (by decide)
                    have bz399020 : gB z399020 1 2000 := ⟨by omega, by omega⟩
                    refine G_iinc (L' := [(5, .int z399020), (4, .int z399019), (7, .int 0), (6, .int 1), (0, .ref q397054), (1, .int p397055), (2, .int p397056), (3, .int p397057)]) z399020 3 dr_cX17_mayMerge_120 rfl hz399020.symm (Nat.le_of_ble_eq_true rfl) rfl ?_
                    refine G_goto 33 dr_cX17_mayMerge_123 (by decide +kernel) ?_
                    refine G_lv (L' := [(5, .int z399020), (4, .int z399019), (0, .ref q397054), (1, .int p397055), (2, .int p397056), (3, .int p397057)]) [0, 1, 4, 5, 6, 7] rfl ?_
                    exact ih33_398893 z399020 z399019 (gB_w bz399020 (by decide) (by decide)) (fun k e1 ht => kt33_398894 k e1 (fun R c1 c2 c3 c4 c5 c6 c7 c8 => c5 g398892 g398893 q398903 f398908 q398977 f398982 q399003 f399008 o399014 z399016 z399019 z399020 k e1 bg398892 r398901 fq398902 hx398905 he398907 r398927 hx398979 he398981 r398994 hx399005 he399007 ht399015 ez399016 r399018 ez399019 ez399020 (ht R c1 c2 c3 c4 c5 c6 c7 c8))) (mz_up ez399020 (Int.le_trans bg398892'.2 (by decide)) hm33_398893)
                  · have r399021 : p397057.toInt ≤ z399016.toInt := gC_nlt hc399017
                    refine G_iconst 1 dr_cX17_mayMerge_112 (by decide +kernel) ?_
                    refine G_goto 117 dr_cX17_mayMerge_113 (by decide +kernel) ?_
                    refine G_iadd dr_cX17_mayMerge_117 (G_nam fun z399022 hz399022 => ?_)
                    have bz399022 : gB z399022 (-2147483648) 2147483647 := gB_any z399022
                    refine G_istore (L' := [(4, .int z399022), (7, .int 0), (6, .int 1), (5, .int g398892), (0, .ref q397054), (1, .int p397055), (2, .int p397056), (3, .int p397057)]) dr_cX17_mayMerge_118 (Nat.le_of_ble_eq_true rfl) rfl ?_
                    obtain ⟨z399023, hz399023⟩ : ∃ z : Int32, z = g398892 + Int32.ofInt 1 := ⟨_, rfl⟩
                    have ez399023 : z399023.toInt = g398892.toInt + 1 := gI_inc hz399023 (by decide) bg398892' (by decide) (by decide)
                    have bz399023 : gB z399023 1 2000 := ⟨by omega, by omega⟩
                    refine G_iinc (L' := [(5, .int z399023), (4, .int z399022), (7, .int 0), (6, .int 1), (0, .ref q397054), (1, .int p397055), (2, .int p397056), (3, .int p397057)]) z399023 3 dr_cX17_mayMerge_120 rfl hz399023.symm (Nat.le_of_ble_eq_true rfl) rfl ?_
                    refine G_goto 33 dr_cX17_mayMerge_123 (by decide +kernel) ?_
                    refine G_lv (L' := [(5, .int z399023), (4, .int z399022), (0, .ref q397054), (1, .int p397055), (2, .int p397056), (3, .int p397057)]) [0, 1, 4, 5, 6, 7] rfl ?_
                    exact ih33_398893 z399023 z399022 (gB_w bz399023 (by decide) (by decide)) (fun k e1 ht => kt33_398894 k e1 (fun R c1 c2 c3 c4 c5 c6 c7 c8 => c6 g398892 g398893 q398903 f398908 q398977 f398982 q399003 f399008 o399014 z399016 z399022 z399023 k e1 bg398892 r398901 fq398902 hx398905 he398907 r398927 hx398979 he398981 r398994 hx399005 he399007 ht399015 ez399016 r399021 hz399022 ez399023 (ht R c1 c2 c3 c4 c5 c6 c7 c8))) (mz_up ez399023 (Int.le_trans bg398892'.2 (by decide)) hm33_398893)
                · change G _ _ _ _ _ _ _ (.int 1 :: _) _ _ _
                  refine G_widen (cs' := 0) (sl' := 0) (by omega) (by omega) ?_
                  refine G_istore (L' := [(7, .int 1), (6, .int 1), (5, .int g398892), (4, .int g398893), (0, .ref q397054), (1, .int p397055), (2, .int p397056), (3, .int p397057)]) dr_cX17_mayMerge_65 (Nat.le_of_ble_eq_true rfl) rfl ?_
                  refine G_iload 1 dr_cX17_mayMerge_67 rfl ?_
                  refine G_if_ne 80 dr_cX17_mayMerge_69 (by decide +kernel) (fun _ => ?_) (fun hc => absurd hc (by decide))
                  refine G_iload 3 dr_cX17_mayMerge_80 rfl ?_
                  refine G_aload_n 4 dr_cX17_mayMerge_82 rfl ?_
                  refine Gp_get 1 hm397065 he397066 dr_cX17_mayMerge_83 (gk_X17 D I) (Nat.le_of_ble_eq_true rfl) wr_7_75 rfl ?_
                  refine G_iload 2 dr_cX17_mayMerge_86 rfl ?_
                  obtain ⟨q399024, hx399026⟩ : ∃ x, x = γ 11 g398892.toInt.toNat := ⟨_, rfl⟩
                  have ht399025 : rKd γ q399024 36 := by rw [hx399026]; exact (hg397116 _ (show g398892.toInt.toNat < 2000 by omega)).2.1
                  refine Gp_aald 5 hm397113 he397114 dr_cX17_mayMerge_88 rfl rfl (gB_in bg398892' (by decide) (by decide)) ?_
                  rw [show f397115 g398892.toNatClampNeg = some q399024 from (hg397116 _ (show g398892.toInt.toNat < 2000 by omega)).1.trans (by rw [hx399026])]
                  change G _ _ _ _ _ _ _ (.ref q399024 :: _) _ _ _
                  have hm399027 : q399024 ∈ P397052 := RS_m hT ht399025 (by decide)
                  obtain ⟨f399029, he399028, wf399029⟩ := show rk_36 I (F397053 q399024) from RS_o hT ht399025
                  refine Gw_callS (As := [.ref q399024]) (gV_ok D I) (cp_1899_SpillForgeModel_count l hl0 D I P397052 F397053 q399024 f399029 hm399027 he399028) dr_cX17_mayMerge_89 ⟨wr_11_16, wr_1_14, wr_11_18, by decide, rfl, (Nat.le_of_ble_eq_true rfl), (Nat.le_of_ble_eq_true rfl)⟩ wr_11_17 (show 0 + 0 ≤ 0 by first | omega | decide) (show 0 + 0 ≤ 0 by first | omega | decide) (Nat.le_of_ble_eq_true rfl) (fun r399033 w399034 dc399030 ds399031 hp399032 => ?_) (fun _ _ _ _ _ z => z.elim)
                  obtain ⟨o399035, rfl, rfl, hdc, hds, ht399036⟩ := hp399032
                  have bo399035 := gB_any o399035
                  change G _ _ _ _ _ _ _ (.int o399035 :: _) _ _ _
                  refine G_widen (cs' := 0) (sl' := 0) (by omega) (by omega) ?_
                  refine G_iload 1 dr_cX17_mayMerge_92 rfl ?_
                  refine G_if_eq 106 dr_cX17_mayMerge_94 (by decide +kernel) (fun hc => absurd hc (by decide)) (fun _ => ?_)
                  refine G_iload 0 dr_cX17_mayMerge_97 rfl ?_
                  refine G_if_eq 106 dr_cX17_mayMerge_99 (by decide +kernel) (fun hc => absurd hc (by decide)) (fun _ => ?_)
                  refine G_iconst 1 dr_cX17_mayMerge_102 (by decide +kernel) ?_
                  refine G_goto 107 dr_cX17_mayMerge_103 (by decide +kernel) ?_
                  refine G_isub dr_cX17_mayMerge_107 (G_nam fun z399037 hz399037 => ?_)
                  have bz399037 : gB z399037 (-2147483648) 2147483647 := gB_any z399037
                  refine G_iload_n 7 dr_cX17_mayMerge_108 rfl ?_
                  refine G_icmp_lt 116 dr_cX17_mayMerge_109 (by decide +kernel) (fun hc399038 => ?_) (fun hc399038 => ?_)
                  · have r399039 : z399037.toInt < p397057.toInt := gC_lt hc399038
                    have bz399037' : gB z399037 (-2147483648) 2147483646 := ⟨by omega, by omega⟩
                    have bp397057' : gB p397057 (-2147483647) 2147483647 := ⟨by omega, by omega⟩
                    refine G_iconst 0 dr_cX17_mayMerge_116 (by decide +kernel) ?_
                    refine G_iadd dr_cX17_mayMerge_117 (G_nam fun z399040 hz399040 => ?_)
                    have ez399040 : z399040.toInt = g398893.toInt + 0 := by rw [gI_add hz399040 bg398893 (gBl (show Int32.toInt 0 = 0 by decide)) (by decide) (by decide), show Int32.toInt 0 = 0 from by decide]
                    have bz399040 : gB z399040 (-2147483648) 2147483647 := gB_add (gI_add hz399040 bg398893 (gBl (show Int32.toInt 0 = 0 by decide)) (by decide) (by decide)) bg398893 (gBl (show Int32.toInt 0 = 0 by decide)) (by decide) (by decide)
                    refine G_istore (L' := [(4, .int z399040), (7, .int 1), (6, .int 1), (5, .int g398892), (0, .ref q397054), (1, .int p397055), (2, .int p397056), (3, .int p397057)]) dr_cX17_mayMerge_118 (Nat.le_of_ble_eq_true rfl) rfl ?_
                    obtain ⟨z399041, hz399041⟩ : ∃ z : Int32, z = g398892 + Int32.ofInt 1 := ⟨_, rfl⟩
                    have ez399041 : z399041.toInt = g398892.toInt + 1 := gI_inc hz399041 (by decide) bg398892' (by decide) (by decide)
                    have bz399041 : gB z399041 1 2000 := ⟨by omega, by omega⟩
                    refine G_iinc (L' := [(5, .int z399041), (4, .int z399040), (7, .int 1), (6, .int 1), (0, .ref q397054), (1, .int p397055), (2, .int p397056), (3, .int p397057)]) z399041 3 dr_cX17_mayMerge_120 rfl hz399041.symm (Nat.le_of_ble_eq_true rfl) rfl ?_
                    refine G_goto 33 dr_cX17_mayMerge_123 (by decide +kernel) ?_
                    refine G_lv (L' := [(5, .int z399041), (4, .int z399040), (0, .ref q397054), (1, .int p397055), (2, .int p397056), (3, .int p397057)]) [0, 1, 4, 5, 6, 7] rfl ?_
                    exact ih33_398893 z399041 z399040 (gB_w bz399041 (by decide) (by decide)) (fun k e1 ht => kt33_398894 k e1 (fun R c1 c2 c3 c4 c5 c6 c7 c8 => c7 g398892 g398893 q398903 f398908 q398977 f398982 q399024 f399029 o399035 z399037 z399040 z399041 k e1 bg398892 r398901 fq398902 hx398905 he398907 r398927 hx398979 he398981 r399001 hx399026 he399028 ht399036 hz399037 r399039 ez399040 ez399041 (ht R c1 c2 c3 c4 c5 c6 c7 c8))) (mz_up ez399041 (Int.le_trans bg398892'.2 (by decide)) hm33_398893)
                  · have r399042 : p397057.toInt ≤ z399037.toInt := gC_nlt hc399038
                    refine G_iconst 1 dr_cX17_mayMerge_112 (by decide +kernel) ?_
                    refine G_goto 117 dr_cX17_mayMerge_113 (by decide +kernel) ?_
                    refine G_iadd dr_cX17_mayMerge_117 (G_nam fun z399043 hz399043 => ?_)
                    have bz399043 : gB z399043 (-2147483648) 2147483647 := gB_any z399043
                    refine G_istore (L' := [(4, .int z399043), (7, .int 1), (6, .int 1), (5, .int g398892), (0, .ref q397054), (1, .int p397055), (2, .int p397056), (3, .int p397057)]) dr_cX17_mayMerge_118 (Nat.le_of_ble_eq_true rfl) rfl ?_
                    obtain ⟨z399044, hz399044⟩ : ∃ z : Int32, z = g398892 + Int32.ofInt 1 := ⟨_, rfl⟩
                    have ez399044 : z399044.toInt = g398892.toInt + 1 := gI_inc hz399044 (by decide) bg398892' (by decide) (by decide)
                    have bz399044 : gB z399044 1 2000 := ⟨by omega, by omega⟩
                    refine G_iinc (L' := [(5, .int z399044), (4, .int z399043), (7, .int 1), (6, .int 1), (0, .ref q397054), (1, .int p397055), (2, .int p397056), (3, .int p397057)]) z399044 3 dr_cX17_mayMerge_120 rfl hz399044.symm (Nat.le_of_ble_eq_true rfl) rfl ?_
                    refine G_goto 33 dr_cX17_mayMerge_123 (by decide +kernel) ?_
                    refine G_lv (L' := [(5, .int z399044), (4, .int z399043), (0, .ref q397054), (1, .int p397055), (2, .int p397056), (3, .int p397057)]) [0, 1, 4, 5, 6, 7] rfl ?_
                    exact ih33_398893 z399044 z399043 (gB_w bz399044 (by decide) (by decide)) (fun k e1 ht => kt33_398894 k e1 (fun R c1 c2 c3 c4 c5 c6 c7 c8 => c8 g398892 g398893 q398903 f398908 q398977 f398982 q399024 f399029 o399035 z399037 z399043 z399044 k e1 bg398892 r398901 fq398902 hx398905 he398907 r398927 hx398979 he398981 r399001 hx399026 he399028 ht399036 hz399037 r399042 hz399043 ez399044 (ht R c1 c2 c3 c4 c5 c6 c7 c8))) (mz_up ez399044 (Int.le_trans bg398892'.2 (by decide)) hm33_398893)
        exact hlp33_398893 (((2001 : Int) - 0).toNat + 1) 0 0 (gB_w (gBl (show Int32.toInt 0 = 0 by decide)) (by decide) (by decide)) (fun k e1 ht => ht) (Nat.lt_succ_self _)
      · change G _ _ _ _ _ _ _ (.int 1 :: _) _ _ _
        refine G_widen (cs' := 0) (sl' := 0) (by omega) (by omega) ?_
        refine G_if_eq 27 dr_cX17_mayMerge_22 (by decide +kernel) (fun hc => absurd hc (by decide)) (fun _ => ?_)
        refine G_iconst 0 dr_cX17_mayMerge_25 (by decide +kernel) ?_
        exact G_zretA FieldType.boolean dr_cX17_mayMerge_26 rfl rfl (Nat.le_of_ble_eq_true rfl) (Nat.le_of_ble_eq_true rfl) ⟨0, rfl, rfl, (Nat.le_of_ble_eq_true rfl), (Nat.le_of_ble_eq_true rfl), (gB_w (gBl (show Int32.toInt 0 = 0 by decide)) (by decide) (by decide)), (by have qa0 : Int32.toInt 0 = 0 := (by decide); omega), (fun R c1 c2 c3 c4 c5 => c5 q397117 f397122 r397061 r397064 fq397112 hx397119 he397121 r397141)⟩
/- tl_RModel_merge_20: l5; out: l6, l5 -/
def tl_RModel_merge_20 (D : va_G) (I : FieldType → ClassId) (γ0 el0 : Nat → Nat → Nat) (f : Nat) (F : Nat → va_E) (c1 : Nat) (c2 : Nat → Nat → Nat) (c3 : Nat → Nat → Nat) (q0 : Nat) (a2 : Int32) (s1 : Int32) (k : Nat) (e1 : Nat) (e2 : Int32) : Prop := ∀ R : (Int32) → Nat → (Nat) → (Int32) → Prop,
  (∀ (l5_2 : Int32) (x1 : Nat) (x2 : Int32), gB l5_2 0 1000000 → fR (F c1) 0 = x1 → x2.toInt = (c2 2 x1 : Int) → fI (F x1) 2 = x2 → x2.toInt ≤ l5_2.toInt → R l5_2 172 (0 : Nat) (0 : Int32)) →
  (∀ (l5_2 : Int32) (x1 : Nat) (x2 : Int32) (x3 : Nat) (x4 : Int32) (x5 : Int32) (k : Nat) (e1 : Nat) (e2 : Int32), gB l5_2 0 1000000 → fR (F c1) 0 = x1 → x2.toInt = (c2 2 x1 : Int) → fI (F x1) 2 = x2 → l5_2.toInt < x2.toInt → x3 = c3 x1 l5_2.toInt.toNat → tr_RArrayList_get l5_2 x2 → fI (F x3) 0 = x4 → x4.toInt ≠ 0 → x5.toInt = l5_2.toInt + 1 → R x5 k e1 e2 → R l5_2 k e1 e2) →
  (∀ (l5_2 : Int32) (x1 : Nat) (x2 : Int32) (x3 : Nat) (x4 : Int32) (x5 : Int32) (x6 : Int32) (k : Nat) (e1 : Nat) (e2 : Int32), gB l5_2 0 1000000 → fR (F c1) 0 = x1 → x2.toInt = (c2 2 x1 : Int) → fI (F x1) 2 = x2 → l5_2.toInt < x2.toInt → x3 = c3 x1 l5_2.toInt.toNat → tr_RArrayList_get l5_2 x2 → fI (F x3) 0 = x4 → x4.toInt = 0 → fI (F x3) 5 = x5 → x5.toInt = 0 → x6.toInt = l5_2.toInt + 1 → R x6 k e1 e2 → R l5_2 k e1 e2) →
  (∀ (l5_2 : Int32) (x1 : Nat) (x2 : Int32) (x3 : Nat) (x4 : Int32) (x5 : Int32) (x6 : Int32) (x7 : Int32), gB l5_2 0 1000000 → fR (F c1) 0 = x1 → x2.toInt = (c2 2 x1 : Int) → fI (F x1) 2 = x2 → l5_2.toInt < x2.toInt → x3 = c3 x1 l5_2.toInt.toNat → tr_RArrayList_get l5_2 x2 → fI (F x3) 0 = x4 → x4.toInt = 0 → fI (F x3) 5 = x5 → x5.toInt ≠ 0 → fI (F x3) 1 = x6 → fI (F x3) 2 = x7 → x6.toInt = x7.toInt → R l5_2 98 x3 l5_2) →
  (∀ (l5_2 : Int32) (x1 : Nat) (x2 : Int32) (x3 : Nat) (x4 : Int32) (x5 : Int32) (x6 : Int32) (x7 : Int32) (x8 : Int32), gB l5_2 0 1000000 → fR (F c1) 0 = x1 → x2.toInt = (c2 2 x1 : Int) → fI (F x1) 2 = x2 → l5_2.toInt < x2.toInt → x3 = c3 x1 l5_2.toInt.toNat → tr_RArrayList_get l5_2 x2 → fI (F x3) 0 = x4 → x4.toInt = 0 → fI (F x3) 5 = x5 → x5.toInt ≠ 0 → fI (F x3) 1 = x6 → fI (F x3) 2 = x7 → x6.toInt ≠ x7.toInt → gB x8 0 1 → ((x8.toInt = 0 ∨ (x6.toInt < 100 ∧ x7.toInt < 100))) → tr_RModel_mayMerge D I c2 c3 F q0 x6 x7 a2 x8 → x8.toInt ≠ 0 → R l5_2 98 x3 l5_2) →
  (∀ (l5_2 : Int32) (x1 : Nat) (x2 : Int32) (x3 : Nat) (x4 : Int32) (x5 : Int32) (x6 : Int32) (x7 : Int32) (x8 : Int32) (x9 : Int32) (k : Nat) (e1 : Nat) (e2 : Int32), gB l5_2 0 1000000 → fR (F c1) 0 = x1 → x2.toInt = (c2 2 x1 : Int) → fI (F x1) 2 = x2 → l5_2.toInt < x2.toInt → x3 = c3 x1 l5_2.toInt.toNat → tr_RArrayList_get l5_2 x2 → fI (F x3) 0 = x4 → x4.toInt = 0 → fI (F x3) 5 = x5 → x5.toInt ≠ 0 → fI (F x3) 1 = x6 → fI (F x3) 2 = x7 → x6.toInt ≠ x7.toInt → gB x8 0 1 → ((x8.toInt = 0 ∨ (x6.toInt < 100 ∧ x7.toInt < 100))) → tr_RModel_mayMerge D I c2 c3 F q0 x6 x7 a2 x8 → x8.toInt = 0 → x9.toInt = l5_2.toInt + 1 → R x9 k e1 e2 → R l5_2 k e1 e2) →
  R s1 k e1 e2
/- tl_RModel_merge_2: l3; out: l6, l5, l4 -/
def tl_RModel_merge_2 (D : va_G) (I : FieldType → ClassId) (γ0 el0 : Nat → Nat → Nat) (f : Nat) (F : Nat → va_E) (q1 : Nat) (c1 : Nat → Nat → Nat) (c2 : Nat → Nat → Nat) (q0 : Nat) (a2 : Int32) (s1 : Int32) (k : Nat) (e1 : Nat) (e2 : Int32) (e3 : Nat) : Prop := ∀ R : (Int32) → Nat → (Nat) → (Int32) → (Nat) → Prop,
  (∀ (l3_1 : Int32) (x1 : Int32), gB l3_1 0 1000000 → fI (F q1) 3 = x1 → x1.toInt ≤ l3_1.toInt → R l3_1 178 (0 : Nat) (0 : Int32) (0 : Nat)) →
  (∀ (l3_1 : Int32) (x1 : Int32) (x2 : Nat) (x3 : Nat) (x4 : Int32) (x5 : Int32) (k : Nat) (e1 : Nat) (e2 : Int32) (e3 : Nat), gB l3_1 0 1000000 → fI (F q1) 3 = x1 → l3_1.toInt < x1.toInt → fR (F q1) 0 = x2 → x3 = c1 x2 l3_1.toInt.toNat → fI (F x2) 2 = x4 → tr_RCode_get l3_1 x4 → tl_RModel_merge_20 D I γ0 el0 f F x3 c2 c1 q0 a2 (0 : Int32) 172 (0 : Nat) (0 : Int32) → x5.toInt = l3_1.toInt + 1 → R x5 k e1 e2 e3 → R l3_1 k e1 e2 e3) →
  (∀ (l3_1 : Int32) (x1 : Int32) (x2 : Nat) (x3 : Nat) (x4 : Int32) (x5 : Nat) (x6 : Int32), gB l3_1 0 1000000 → fI (F q1) 3 = x1 → l3_1.toInt < x1.toInt → fR (F q1) 0 = x2 → x3 = c1 x2 l3_1.toInt.toNat → fI (F x2) 2 = x4 → tr_RCode_get l3_1 x4 → tl_RModel_merge_20 D I γ0 el0 f F x3 c2 c1 q0 a2 (0 : Int32) 98 x5 x6 → R l3_1 98 x5 x6 x3) →
  R s1 k e1 e2 e3
/- tr_RModel_merge: result, P, F, gm, el -/
def tr_RModel_merge (D : va_G) (I : FieldType → ClassId) (γ0 el0 : Nat → Nat → Nat) (f : Nat) (P : List Nat) (F : Nat → va_E) (q0 : Nat) (q1 : Nat) (a2 : Int32) (o1 : Int32) (o2 : List Nat) (o3 : Nat → va_E) (o4 : Nat → Nat → Nat) (o5 : Nat → Nat → Nat) : Prop := ∀ R : (Int32) → (List Nat) → (Nat → va_E) → (Nat → Nat → Nat) → (Nat → Nat → Nat) → Prop,
  (∀ (x1 : Nat → Nat → Nat) (x2 : Nat → Nat → Nat), x1 = γ0 → x2 = el0 → tl_RModel_merge_2 D I γ0 el0 f F q1 x2 x1 q0 a2 (0 : Int32) 178 (0 : Nat) (0 : Int32) (0 : Nat) → R (0 : Int32) P F x1 x2) →
  (∀ (x1 : Nat → Nat → Nat) (x2 : Nat → Nat → Nat) (x3 : Nat) (x4 : Int32) (x5 : Nat) (x6 : Int32) (x7 : Int32) (x8 : Int32) (x9 : Int32) (x10 : Nat) (x11 : Nat → va_E) (x12 : Nat → Nat → Nat) (x13 : Nat → Nat → Nat) (x14 : Int32) (x15 : Int32) (x16 : Nat → va_E), x1 = γ0 → x2 = el0 → tl_RModel_merge_2 D I γ0 el0 f F q1 x2 x1 q0 a2 (0 : Int32) 98 x3 x4 x5 → fI (F x3) 1 = x6 → fI (F x3) 2 = x7 → (x6.toInt ≥ x8.toInt ∧ x7.toInt ≥ x8.toInt ∧ (x8.toInt = x6.toInt ∨ x8.toInt = x7.toInt)) → (x6.toInt ≤ x9.toInt ∧ x7.toInt ≤ x9.toInt ∧ (x9.toInt = x6.toInt ∨ x9.toInt = x7.toInt)) → fR (F x5) 0 = x10 → rDq D I P F x1 x2 f x10 x4.toInt.toNat x11 x12 x13 → fI (x11 q0) 13 = x14 → x15 = x14 + (1 : Int32) → (∀ b, b ≠ q0 → x16 b = x11 b) → x16 q0 = cF (x11 q0) 13 (.int x15) → x8.toInt = x9.toInt → R (1 : Int32) P x16 x12 x13) →
  (∀ (x1 : Nat → Nat → Nat) (x2 : Nat → Nat → Nat) (x3 : Nat) (x4 : Int32) (x5 : Nat) (x6 : Int32) (x7 : Int32) (x8 : Int32) (x9 : Int32) (x10 : Nat) (x11 : Nat → va_E) (x12 : Nat → Nat → Nat) (x13 : Nat → Nat → Nat) (x14 : Int32) (x15 : Int32) (x16 : Nat → va_E) (x17 : Nat → va_E), x1 = γ0 → x2 = el0 → tl_RModel_merge_2 D I γ0 el0 f F q1 x2 x1 q0 a2 (0 : Int32) 98 x3 x4 x5 → fI (F x3) 1 = x6 → fI (F x3) 2 = x7 → (x6.toInt ≥ x8.toInt ∧ x7.toInt ≥ x8.toInt ∧ (x8.toInt = x6.toInt ∨ x8.toInt = x7.toInt)) → (x6.toInt ≤ x9.toInt ∧ x7.toInt ≤ x9.toInt ∧ (x9.toInt = x6.toInt ∨ x9.toInt = x7.toInt)) → fR (F x5) 0 = x10 → rDq D I P F x1 x2 f x10 x4.toInt.toNat x11 x12 x13 → fI (x11 q0) 13 = x14 → x15 = x14 + (1 : Int32) → (∀ b, b ≠ q0 → x16 b = x11 b) → x16 q0 = cF (x11 q0) 13 (.int x15) → x8.toInt ≠ x9.toInt → RS D I P x17 x12 x13 → rStr x12 [1] x16 x17 → ((∀ N : Nat → Prop, N (x8.toInt : Int).toNat → x9.toInt < 100 → rPl x12 x13 x16 q1 (x12 6 (x12 1 q1)) (fun _ _ => rNx N) → rPl x12 x13 x17 q1 (x12 6 (x12 1 q1)) (fun _ _ => rNx N))) → rFk [1] x12 x16 x17 → rFs x12 (x12 1 q1) x16 x17 → tr_RModel_rename D I x12 x13 P x16 q1 x9 x8 x17 → R (1 : Int32) P x17 x12 x13) →
  R o1 o2 o3 o4 o5
abbrev ky_399053_SpillForgeModel_merge : gKey := (cX17_merge, 9, "SpillForgeModel", (some FieldType.boolean), [], "merge", fun _ _ => True)
def pg_399053_SpillForgeModel_merge (D : va_G) (I : FieldType → ClassId) (γ0 el0 : Nat → Nat → Nat) (f : Nat) (B : Nat) (P399047 : List Nat) (F399048 : Nat → va_E) (q399049 : Nat) (q399050 : Nat) (p399051 : Int32) : Option Value → va_W → Nat → Nat → Prop := fun r w dc ds => ∃ (P409832 : List Nat) (F409833 : Nat → va_E) (γ el : Nat → Nat → Nat) (o409831 : Int32), r = some (.int o409831) ∧ w = va_pl P409832 F409833 ∧ rSk f [] ([1, 3, 6] ++ npk) D I P399047 F399048 γ0 el0 P409832 F409833 γ el ∧ (18 * dc + rPh γ0 el0 f ≤ rPh γ el f ∧ ds + rPh γ0 el0 f ≤ rPh γ el f) ∧ rBd γ el f B ∧ gB o409831 0 1 ∧ γ 6 f = γ0 6 f ∧ γ 7 f = γ0 7 f ∧ γ 16 f = γ0 16 f ∧ γ 18 f = γ0 18 f ∧ (o409831.toInt = 0 ∨ rsum (fun i => γ 2 (γ 14 (el (γ 14 q399050) i))) (γ 6 f) + 1 ≤ rsum (fun i => γ0 2 (γ0 14 (el0 (γ0 14 q399050) i))) (γ0 6 f)) ∧ (∀ N : Nat → Prop, rPl γ0 el0 F399048 q399050 (γ0 6 f) (fun _ _ => rNx N) → rPl γ el F409833 q399050 (γ 6 f) (fun _ _ => rNx N)) ∧ (fI (F409833 q399049) 11).toInt = (fI (F399048 q399049) 11).toInt ∧ (fI (F409833 q399049) 14).toInt = (fI (F399048 q399049) 14).toInt ∧ (gIp (o409831.toInt = 0) (γ = γ0 ∧ el = el0 ∧ F409833 = F399048)) ∧ mKp (F399048 q399049) (F409833 q399049) ∧ tr_RModel_merge D I γ0 el0 f P399047 F399048 q399049 q399050 p399051 o409831 P409832 F409833 γ el
set_option maxRecDepth 100000 in
set_option maxHeartbeats 1500000 in
theorem cg_399053_SpillForgeModel_merge (l : Launch) (hl0 : l.stackTraces = false) (D : va_G) (I : FieldType → ClassId) (γ0 el0 : Nat → Nat → Nat) (f : Nat) (B : Nat) (P399047 : List Nat) (F399048 : Nat → va_E) (q399049 : Nat) (q399050 : Nat) (p399051 : Int32) (hT0 : RS D I P399047 F399048 γ0 el0) (hzq399049 : rKd γ0 q399049 10) (hzq399050 : rKd γ0 q399050 9) (hf0 : γ0 1 q399050 = f) (hB0 : rBd γ0 el0 f B) (hBk : B ≤ 100000) (x399052 : 0 < γ0 6 f) : CtA (gV D I) l yX17_merge cX17_merge 9 (some FieldType.boolean) 5 111 (((387 * B + 6000) - rPh γ0 el0 f) / 18) ((387 * B + 6000) - rPh γ0 el0 f) [.ref q399049, .ref q399050, .int p399051] (va_pl P399047 F399048) (pg_399053_SpillForgeModel_merge D I γ0 el0 f B P399047 F399048 q399049 q399050 p399051) gNA := by
  refine CtA_of hl0 (by decide) (Nat.le_of_ble_eq_true rfl) ?_
  have bp399051 := gB_any p399051
  obtain ⟨gm_0, hγ0⟩ : ∃ z, z = γ0 := ⟨_, rfl⟩
  obtain ⟨el_0, hel0⟩ : ∃ z, z = el0 := ⟨_, rfl⟩
  have hT : RS D I P399047 F399048 gm_0 el_0 := by rw [hγ0, hel0]; exact hT0
  have hst : rSk f [] ([1, 3, 6] ++ npk) D I P399047 F399048 γ0 el0 P399047 F399048 gm_0 el_0 := by rw [hγ0, hel0]; exact rSk_rf hT0
  have hph : rPh γ0 el0 f ≤ rPh gm_0 el_0 f := by rw [hγ0, hel0]; exact Nat.le_refl _
  have hB : rBd gm_0 el_0 f B := by rw [hγ0, hel0]; exact hB0
  have htq399049 : rKd gm_0 q399049 10 := by rw [hγ0]; exact hzq399049
  have htq399050 : rKd gm_0 q399050 9 := by rw [hγ0]; exact hzq399050
  have hf1 : gm_0 1 q399050 = f := by rw [hγ0]; exact hf0
  have x399052n : 0 < gm_0 6 f := by rw [hγ0]; exact x399052
  have pk399054 : rPh gm_0 el_0 f ≤ 387 * B + 6000 := rm_pk (rM_ge hT htq399050 hf1).1 (rM_bd hB)
  refine G_widen (cs' := ((rPh gm_0 el_0 f - rPh γ0 el0 f) / 18)) (sl' := (rPh gm_0 el_0 f - rPh γ0 el0 f)) (Nat.zero_le _) (Nat.zero_le _) ?_
  have e0_399055 : gm_0 6 f = γ0 6 f := by rw [hγ0]
  have e0_399056 : gm_0 7 f = γ0 7 f := by rw [hγ0]
  have e0_399057 : gm_0 16 f = γ0 16 f := by rw [hγ0]
  have e0_399058 : gm_0 18 f = γ0 18 f := by rw [hγ0]
  have e0_399059 : gm_0 19 f = γ0 19 f := by rw [hγ0]
  have v0_399060 : 0 < gm_0 6 (gm_0 1 q399050) := by rw [hf1, hγ0]; exact x399052
  have s0_399061 : rsum (fun i => gm_0 2 (gm_0 14 (el_0 (gm_0 14 q399050) i))) (gm_0 6 f) = rsum (fun i => γ0 2 (γ0 14 (el0 (γ0 14 q399050) i))) (γ0 6 f) := by rw [hγ0, hel0]
  have hm399062 : q399049 ∈ P399047 := RS_m hT htq399049 (by decide)
  obtain ⟨q399064, q399065, p399066, p399067, p399068, p399069, p399070, p399071, p399072, p399073, p399074, p399075, p399076, p399077, p399078, p399079, p399080, he399063, hB399107, ht399081, ht399082, ht399083, ht399084, ht399085, ht399086, ht399087, ht399088, ht399089, ht399090, ht399091, ht399092, ht399093, ht399094, ht399095, ht399096, ht399097, ht399098, ht399099, ht399100, ht399101, ht399102, ht399103, ht399104, hB399108⟩ := show rk_10 gm_0 (F399048 q399049) from RS_o hT htq399049
  have ac0_11 : (fI (F399048 q399049) 11).toInt = p399068.toInt := by rw [he399063]; rfl
  have ac0_14 : (fI (F399048 q399049) 14).toInt = p399071.toInt := by rw [he399063]; rfl
  have bp399068 : gB p399068 0 100 := (hB399107.2.2.1)
  have bp399071 : gB p399071 0 2000 := (hB399107.2.2.2.1)
  refine G_iconst 0 dr_cX17_merge_0 (by decide +kernel) ?_
  refine G_istore_n (L' := [(3, .int 0), (0, .ref q399049), (1, .ref q399050), (2, .int p399051)]) dr_cX17_merge_1 (Nat.le_of_ble_eq_true rfl) rfl ?_
  have hlp2_408998 : ∀ (n2_408998 : Nat) (g408998 : Int32), gB g408998 0 1000000 → (∀ (k : Nat) (e1 : Nat) (e2 : Int32) (e3 : Nat), tl_RModel_merge_2 D I γ0 el0 f F399048 q399050 el_0 gm_0 q399049 p399051 g408998 k e1 e2 e3 → tl_RModel_merge_2 D I γ0 el0 f F399048 q399050 el_0 gm_0 q399049 p399051 (0 : Int32) k e1 e2 e3) → ((1000001 : Int) - g408998.toInt).toNat < n2_408998 → G (gV D I) l (gRm 5 111 (((387 * B + 6000) - rPh γ0 el0 f) / 18) ((387 * B + 6000) - rPh γ0 el0 f)) (gMA (gV D I) (pg_399053_SpillForgeModel_merge D I γ0 el0 f B P399047 F399048 q399049 q399050 p399051) gNA (((387 * B + 6000) - rPh γ0 el0 f) / 18) ((387 * B + 6000) - rPh γ0 el0 f)) ky_399053_SpillForgeModel_merge 2 [(3, .int g408998), (0, .ref q399049), (1, .ref q399050), (2, .int p399051)] [] (va_pl P399047 F399048) ((rPh gm_0 el_0 f - rPh γ0 el0 f) / 18) (rPh gm_0 el_0 f - rPh γ0 el0 f) := by
    intro n2_408998
    induction n2_408998 with
    | zero => intro g408998 bg408998 kt2_408999 hm2_408998; exact absurd hm2_408998 (Nat.not_lt_zero _)
    | succ n2_408998 ih2_408998 =>
      intro g408998 bg408998 kt2_408999 hm2_408998
      refine G_iload_n 0 dr_cX17_merge_2 rfl ?_
      refine G_aload_n 2 dr_cX17_merge_3 rfl ?_
      have hm409000 : q399050 ∈ P399047 := RS_m hT htq399050 (by decide)
      obtain ⟨q409002, q409003, p409004, p409005, he409001, ht409021, ht409006, ht409007, ht409008, ht409009, r409010, r409011, r409012, r409013, r409014, r409015, r409016, r409017, r409018, r409019, r409020⟩ := show rk_9 gm_0 el_0 q399050 (F399048 q399050) from RS_o hT htq399050
      have bp409004 : gB p409004 0 1000000 := ⟨by omega, by omega⟩
      have bp409005 : gB p409005 0 1000000 := ⟨by omega, by omega⟩
      have hf409022 : gm_0 1 q409002 = f := (show gm_0 1 q409002 = gm_0 1 q399050 from ht409007).trans hf1
      have hf409023 : gm_0 1 q409003 = f := (show gm_0 1 q409003 = gm_0 1 q399050 from ht409009).trans hf1
      have r409024 : gm_0 6 (gm_0 1 q399050) = gm_0 6 f := by rw [hf1]
      have r409025 : gm_0 16 (gm_0 1 q399050) = gm_0 16 f := by rw [hf1]
      have r409026 : p409005.toInt = gm_0 6 f ∧ p409005.toInt ≤ 40 := by omega
      clear r409016
      have fq409027 : fI (F399048 q399050) 3 = p409005 := by rw [he409001]; rfl
      refine Gw_callV (As := []) (gV_ok D I) (cp_12780_Code_size l hl0 D I P399047 F399048 q399050 q409002 q409003 p409004 p409005 hm409000 he409001) dr_cX17_merge_4 ⟨wr_10_160, wr_1_15, wr_9_131, by decide, rfl, (Nat.le_of_ble_eq_true rfl), (Nat.le_of_ble_eq_true rfl)⟩ wr_9_129 wr_9_130 hm409000 he409001 rfl (rm_zc pk399054) (rm_zs pk399054) (Nat.le_of_ble_eq_true rfl) (fun r409031 w409032 dc409028 ds409029 hp409030 => ?_) (fun _ _ _ _ _ z => z.elim)
      obtain ⟨rfl, rfl, hdc, hds⟩ := hp409030
      change G _ _ _ _ _ _ _ (.int p409005 :: _) _ _ _
      refine G_widen (cs' := ((rPh gm_0 el_0 f - rPh γ0 el0 f) / 18)) (sl' := (rPh gm_0 el_0 f - rPh γ0 el0 f)) (rm_d0 hdc) (rm_d0 hds) ?_
      refine G_icmp_ge 178 dr_cX17_merge_7 (by decide +kernel) (fun hc409033 => ?_) (fun hc409033 => ?_)
      · have r409034 : p409005.toInt ≤ g408998.toInt := gC_le hc409033
        have hx409035 : tl_RModel_merge_2 D I γ0 el0 f F399048 q399050 el_0 gm_0 q399049 p399051 (0 : Int32) 178 (0 : Nat) (0 : Int32) (0 : Nat) := kt2_408999 178 (0 : Nat) (0 : Int32) (0 : Nat) (fun R c1 c2 c3 => c1 g408998 p409005 bg408998 fq409027 r409034)
        have ac409036 : (fI (F399048 q399049) 11).toInt = p399068.toInt := by rw [he399063]; rfl
        have ac409037 : (fI (F399048 q399049) 14).toInt = p399071.toInt := by rw [he399063]; rfl
        refine G_iconst 0 dr_cX17_merge_178 (by decide +kernel) ?_
        exact G_zretA FieldType.boolean dr_cX17_merge_179 rfl rfl (show ((rPh gm_0 el_0 f - rPh γ0 el0 f) / 18) ≤ (((387 * B + 6000) - rPh γ0 el0 f) / 18) by omega) (show (rPh gm_0 el_0 f - rPh γ0 el0 f) ≤ ((387 * B + 6000) - rPh γ0 el0 f) by omega) ⟨P399047, F399048, gm_0, el_0, 0, rfl, rfl, hst, ⟨by omega, by omega⟩, hB, (gB_w (gBl (show Int32.toInt 0 = 0 by decide)) (by decide) (by decide)), (by have qa0 : Int32.toInt 0 = 0 := (by decide); omega), (by have qa0 : Int32.toInt 0 = 0 := (by decide); omega), (by have qa0 : Int32.toInt 0 = 0 := (by decide); omega), (by have qa0 : Int32.toInt 0 = 0 := (by decide); omega), (Or.inl (by decide)), (fun N h => by rw [hγ0, hel0]; exact h), (by have qa0 : Int32.toInt 0 = 0 := (by decide); omega), (by have qa0 : Int32.toInt 0 = 0 := (by decide); omega), (fun _ => ⟨hγ0, hel0, rfl⟩), mKp_rf, (fun R c1 c2 c3 => c1 gm_0 el_0 hγ0 hel0 hx409035)⟩
      · have r409038 : g408998.toInt < p409005.toInt := gC_nle hc409033
        have bg408998' : gB g408998 0 999999 := ⟨by omega, by omega⟩
        have bp409005' : gB p409005 1 1000000 := ⟨by omega, by omega⟩
        refine G_aload_n 2 dr_cX17_merge_10 rfl ?_
        refine G_iload_n 0 dr_cX17_merge_11 rfl ?_
        have hm409039 : q409002 ∈ P399047 := RS_m hT ht409006 (by decide)
        obtain ⟨⟨p409041, p409042, q409043, he409040, r409044, r409045, r409046, r409048⟩, r409047⟩ := show rk_4 D I gm_0 el_0 F399048 q409002 from RS_o hT ht409006
        have bp409041 := gB_any p409041
        have bp409042 : gB p409042 0 1000000 := ⟨by omega, by omega⟩
        obtain ⟨r409049, r409050, n409057, f409058, r409051, r409052, r409053, r409054, r409055, r409056⟩ := rLC_n r409046 (by omega)
        have hm409059 : q409043 ∈ P399047 := RS_m hT r409049 (by decide)
        obtain ⟨q409060, hx409061⟩ : ∃ x, x = el_0 q409002 g408998.toInt.toNat := ⟨_, rfl⟩
        have fq409065 : fR (F399048 q399050) 0 = q409002 := by rw [he409001]; rfl
        have hx409062 : f409058 g408998.toNatClampNeg = some q409060 := (r409055 _ (show g408998.toInt.toNat < gm_0 2 q409002 by first | assumption | omega)).trans (by rw [hx409061])
        have ht409066 : rKd gm_0 q409060 2 := by rw [hx409061]; exact (r409017 _ (by omega)).resolve_right (fun z => absurd z.1 (by omega))
        have ht409067 : rFm gm_0 q409060 q409002 := by rw [hx409061]; exact (r409047 _ (show g408998.toInt.toNat < gm_0 2 q409002 by omega)).2.1
        have hm409068 : q409060 ∈ P399047 := RS_m hT ht409066 (by decide)
        obtain ⟨q409070, q409071, p409072, p409073, he409069, ht409080, ht409074, ht409075, ht409076, ht409077, ht409078, bp409072, bp409073, r409079, r409081, r409082⟩ := show rk_2 gm_0 q409060 (F399048 q409060) from RS_o hT ht409066
        have fq409083 : fI (F399048 q409002) 2 = p409042 := by rw [he409040]; rfl
        refine Gw_callV (As := [.int g408998]) (gV_ok D I) (cp_7901_Code_get l hl0 D I P399047 F399048 q399050 q409002 q409043 g408998 q409003 p409004 p409005 p409041 p409042 f409058 n409057 q409060 q409070 q409071 p409072 p409073 hm409000 hm409039 hm409059 hm409068 he409001 he409040 r409051 he409069 (gB_w bg408998' (by decide) (by decide)) (gB_w bp409042 (by decide) (by decide)) (by omega) (by omega) (by assumption) (by omega)) dr_cX17_merge_12 ⟨wr_10_161, wr_1_15, wr_10_141, by decide, rfl, (Nat.le_of_ble_eq_true rfl), (Nat.le_of_ble_eq_true rfl)⟩ wr_10_139 wr_10_140 hm409000 he409001 rfl (rm_zc pk399054) (rm_zs pk399054) (Nat.le_of_ble_eq_true rfl) (fun r409087 w409088 dc409084 ds409085 hp409086 => ?_) (fun _ _ _ _ _ z => z.elim)
        obtain ⟨rfl, rfl, hdc, hds, ht409089⟩ := hp409086
        change G _ _ _ _ _ _ _ (.ref q409060 :: _) _ _ _
        refine G_widen (cs' := ((rPh gm_0 el_0 f - rPh γ0 el0 f) / 18)) (sl' := (rPh gm_0 el_0 f - rPh γ0 el0 f)) (rm_d0 hdc) (rm_d0 hds) ?_
        have hf409090 : gm_0 1 q409060 = f := (show gm_0 1 q409060 = gm_0 1 q409002 from ht409067).trans ((show gm_0 1 q409002 = gm_0 1 q399050 from ht409007).trans hf1)
        have hf409091 : gm_0 1 q409070 = f := (show gm_0 1 q409070 = gm_0 1 q409060 from ht409075).trans hf409090
        have hf409092 : gm_0 1 q409071 = f := (show gm_0 1 q409071 = gm_0 1 q409060 from ht409077).trans hf409090
        have r409093 : gm_0 6 (gm_0 1 q409060) = gm_0 6 f := by rw [hf409090]
        have r409094 : gm_0 7 (gm_0 1 q409060) = gm_0 7 f := by rw [hf409090]
        have r409095 : gm_0 19 (gm_0 1 q409060) = gm_0 19 f := by rw [hf409090]
        have r409096 := r409079.resolve_left (by omega)
        clear r409079
        have r409097 : gm_0 2 (gm_0 14 q409060) = gm_0 2 q409070 := by rw [ht409080.1]
        have r409098 : g408998.toInt.toNat < gm_0 2 (gm_0 14 q399050) := by rw [ht409021.1]; omega
        have r409099 : el_0 (gm_0 14 q399050) g408998.toInt.toNat = q409060 := by rw [ht409021.1, hx409061]
        refine G_astore (L' := [(4, .ref q409060), (3, .int g408998), (0, .ref q399049), (1, .ref q399050), (2, .int p399051)]) dr_cX17_merge_15 (Nat.le_of_ble_eq_true rfl) rfl ?_
        refine G_iconst 0 dr_cX17_merge_17 (by decide +kernel) ?_
        refine G_istore (L' := [(5, .int 0), (4, .ref q409060), (3, .int g408998), (0, .ref q399049), (1, .ref q399050), (2, .int p399051)]) dr_cX17_merge_18 (Nat.le_of_ble_eq_true rfl) rfl ?_
        have hlp20_409447 : ∀ (n20_409447 : Nat) (g409447 : Int32), gB g409447 0 1000000 → (∀ (k : Nat) (e1 : Nat) (e2 : Int32), tl_RModel_merge_20 D I γ0 el0 f F399048 q409060 gm_0 el_0 q399049 p399051 g409447 k e1 e2 → tl_RModel_merge_20 D I γ0 el0 f F399048 q409060 gm_0 el_0 q399049 p399051 (0 : Int32) k e1 e2) → ((1000001 : Int) - g409447.toInt).toNat < n20_409447 → G (gV D I) l (gRm 5 111 (((387 * B + 6000) - rPh γ0 el0 f) / 18) ((387 * B + 6000) - rPh γ0 el0 f)) (gMA (gV D I) (pg_399053_SpillForgeModel_merge D I γ0 el0 f B P399047 F399048 q399049 q399050 p399051) gNA (((387 * B + 6000) - rPh γ0 el0 f) / 18) ((387 * B + 6000) - rPh γ0 el0 f)) ky_399053_SpillForgeModel_merge 20 [(5, .int g409447), (4, .ref q409060), (3, .int g408998), (0, .ref q399049), (1, .ref q399050), (2, .int p399051)] [] (va_pl P399047 F399048) ((rPh gm_0 el_0 f - rPh γ0 el0 f) / 18) (rPh gm_0 el_0 f - rPh γ0 el0 f) := by
          intro n20_409447
          induction n20_409447 with
          | zero => intro g409447 bg409447 kt20_409448 hm20_409447; exact absurd hm20_409447 (Nat.not_lt_zero _)
          | succ n20_409447 ih20_409447 =>
            intro g409447 bg409447 kt20_409448 hm20_409447
            refine G_iload 0 dr_cX17_merge_20 rfl ?_
            refine G_aload 1 dr_cX17_merge_22 rfl ?_
            have fq409449 : fR (F399048 q409060) 0 = q409070 := by rw [he409069]; rfl
            refine Gp_get 0 hm409068 he409069 dr_cX17_merge_24 (gk_X12 D I) (Nat.le_of_ble_eq_true rfl) wr_9_220 rfl ?_
            have hm409450 : q409070 ∈ P399047 := RS_m hT ht409074 (by decide)
            obtain ⟨⟨p409452, p409453, q409454, he409451, r409455, r409456, r409457, r409459⟩, r409458⟩ := show rk_3 D I gm_0 el_0 F399048 q409070 from RS_o hT ht409074
            have bp409452 := gB_any p409452
            have bp409453 : gB p409453 0 1000000 := ⟨by omega, by omega⟩
            have fq409460 : p409453.toInt = (gm_0 2 q409070 : Int) := by omega
            have fq409461 : fI (F399048 q409070) 2 = p409453 := by rw [he409451]; rfl
            refine Gw_callV (As := []) (gV_ok D I) (cp_7_ArrayList_size l hl0 D I P399047 F399048 q409070 p409452 q409454 p409453 hm409450 he409451 (gB_w bp409453 (by decide) (by decide))) dr_cX17_merge_27 ⟨wr_10_200, wr_1_18, wr_9_160, by decide, rfl, (Nat.le_of_ble_eq_true rfl), (Nat.le_of_ble_eq_true rfl)⟩ wr_9_158 wr_9_159 hm409450 he409451 rfl (rm_zc pk399054) (rm_zs pk399054) (Nat.le_of_ble_eq_true rfl) (fun r409465 w409466 dc409462 ds409463 hp409464 => ?_) (fun _ _ _ _ _ z => z.elim)
            obtain ⟨rfl, rfl, hdc, hds⟩ := hp409464
            change G _ _ _ _ _ _ _ (.int p409453 :: _) _ _ _
            refine G_widen (cs' := ((rPh gm_0 el_0 f - rPh γ0 el0 f) / 18)) (sl' := (rPh gm_0 el_0 f - rPh γ0 el0 f)) (rm_d0 hdc) (rm_d0 hds) ?_
            refine G_icmp_ge 172 dr_cX17_merge_30 (by decide +kernel) (fun hc409467 => ?_) (fun hc409467 => ?_)
            · have r409468 : p409453.toInt ≤ g409447.toInt := gC_le hc409467
              have hx409469 : tl_RModel_merge_20 D I γ0 el0 f F399048 q409060 gm_0 el_0 q399049 p399051 (0 : Int32) 172 (0 : Nat) (0 : Int32) := kt20_409448 172 (0 : Nat) (0 : Int32) (fun R c1 c2 c3 c4 c5 c6 => c1 g409447 q409070 p409453 bg409447 fq409449 fq409460 fq409461 r409468)
              obtain ⟨z409470, hz409470⟩ : ∃ z : Int32, z = g408998 + Int32.ofInt 1 := ⟨_, rfl⟩
              have ez409470 : z409470.toInt = g408998.toInt + 1 := gI_inc hz409470 (by decide) bg408998' (by decide) (by decide)
              have bz409470 : gB z409470 1 1000000 := ⟨by omega, by omega⟩
              refine G_iinc (L' := [(3, .int z409470), (5, .int g409447), (4, .ref q409060), (0, .ref q399049), (1, .ref q399050), (2, .int p399051)]) z409470 2 dr_cX17_merge_172 rfl hz409470.symm (Nat.le_of_ble_eq_true rfl) rfl ?_
              refine G_goto 2 dr_cX17_merge_175 (by decide +kernel) ?_
              refine G_lv (L' := [(3, .int z409470), (0, .ref q399049), (1, .ref q399050), (2, .int p399051)]) [0, 3, 4, 5] rfl ?_
              exact ih2_408998 z409470 (gB_w bz409470 (by decide) (by decide)) (fun k e1 e2 e3 ht => kt2_408999 k e1 e2 e3 (fun R c1 c2 c3 => c2 g408998 p409005 q409002 q409060 p409042 z409470 k e1 e2 e3 bg408998 fq409027 r409038 fq409065 hx409061 fq409083 ht409089 hx409469 ez409470 (ht R c1 c2 c3))) (by omega)
            · have r409471 : g409447.toInt < p409453.toInt := gC_nle hc409467
              have bg409447' : gB g409447 0 999999 := ⟨by omega, by omega⟩
              have bp409453' : gB p409453 1 1000000 := ⟨by omega, by omega⟩
              refine G_aload 1 dr_cX17_merge_33 rfl ?_
              refine Gp_get 0 hm409068 he409069 dr_cX17_merge_35 (gk_X12 D I) (Nat.le_of_ble_eq_true rfl) wr_9_220 rfl ?_
              refine G_iload 0 dr_cX17_merge_38 rfl ?_
              obtain ⟨r409472, r409473, n409480, f409481, r409474, r409475, r409476, r409477, r409478, r409479⟩ := rLC_n r409457 (by omega)
              have hm409482 : q409454 ∈ P399047 := RS_m hT r409472 (by decide)
              obtain ⟨q409483, hx409484⟩ : ∃ x, x = el_0 q409070 g409447.toInt.toNat := ⟨_, rfl⟩
              have hx409485 : f409481 g409447.toNatClampNeg = some q409483 := (r409478 _ (show g409447.toInt.toNat < gm_0 2 q409070 by first | assumption | omega)).trans (by rw [hx409484])
              have ht409486 : rKd gm_0 q409483 1 := by rw [hx409484]; exact (r409458 _ (show g409447.toInt.toNat < gm_0 2 q409070 by first | assumption | omega)).1
              have ht409487 : rFm gm_0 q409483 q409070 := by rw [hx409484]; exact (r409458 _ (show g409447.toInt.toNat < gm_0 2 q409070 by first | assumption | omega)).2.1
              have hf409488 : gm_0 1 q409483 = f := (show gm_0 1 q409483 = gm_0 1 q409070 from ht409487).trans hf409091
              refine Gw_callV (As := [.int g409447]) (gV_ok D I) (cp_22_ArrayList_get l hl0 D I P399047 F399048 q409070 q409454 g409447 p409452 p409453 f409481 n409480 q409483 hm409450 hm409482 he409451 r409474 (gB_w bg409447' (by decide) (by decide)) (gB_w bp409453' (by decide) (by decide)) (by omega) (by omega) (by assumption) (by omega)) dr_cX17_merge_40 ⟨wr_10_201, wr_1_18, wr_10_65, by decide, rfl, (Nat.le_of_ble_eq_true rfl), (Nat.le_of_ble_eq_true rfl)⟩ wr_10_63 wr_10_64 hm409450 he409451 rfl (rm_zc pk399054) (rm_zs pk399054) (Nat.le_of_ble_eq_true rfl) (fun r409492 w409493 dc409489 ds409490 hp409491 => ?_) (fun _ _ _ _ _ z => z.elim)
              obtain ⟨rfl, rfl, hdc, hds, ht409494⟩ := hp409491
              change G _ _ _ _ _ _ _ (.ref q409483 :: _) _ _ _
              refine G_widen (cs' := ((rPh gm_0 el_0 f - rPh γ0 el0 f) / 18)) (sl' := (rPh gm_0 el_0 f - rPh γ0 el0 f)) (rm_d0 hdc) (rm_d0 hds) ?_
              have hm409495 : q409483 ∈ P399047 := RS_m hT ht409486 (by decide)
              obtain ⟨p409497, p409498, p409499, p409500, p409501, p409502, p409503, he409496, bp409497, bp409498, bp409501, bp409502, bp409503, r409504, r409505, r409506, r409507, r409508⟩ := show rk_1 gm_0 q409483 (F399048 q409483) from RS_o hT ht409486
              have bp409499 := gB_any p409499
              have bp409500 := gB_any p409500
              have r409509 : gm_0 7 (gm_0 1 q409483) = gm_0 7 f := by rw [hf409488]
              refine Gp_cast hm409495 he409496 rfl dr_cX17_merge_43 wr_10_202 (gr_cast 1 rfl) ?_
              refine G_astore (L' := [(6, .ref q409483), (5, .int g409447), (4, .ref q409060), (3, .int g408998), (0, .ref q399049), (1, .ref q399050), (2, .int p399051)]) dr_cX17_merge_46 (Nat.le_of_ble_eq_true rfl) rfl ?_
              refine G_aload 0 dr_cX17_merge_48 rfl ?_
              have fq409510 : fI (F399048 q409483) 0 = p409497 := by rw [he409496]; rfl
              refine Gp_get 0 hm409495 he409496 dr_cX17_merge_50 (gk_X15 D I) (Nat.le_of_ble_eq_true rfl) wr_9_177 rfl ?_
              refine G_if_ne 166 dr_cX17_merge_53 (by decide +kernel) (fun hc409511 => ?_) (fun hc409511 => ?_)
              · have r409512 : p409497.toInt ≠ 0 := gj_neq hc409511 (show Int32.toInt 0 = 0 by decide)
                have bp409497' : gB p409497 1 32 := ⟨by omega, by omega⟩
                obtain ⟨z409513, hz409513⟩ : ∃ z : Int32, z = g409447 + Int32.ofInt 1 := ⟨_, rfl⟩
                have ez409513 : z409513.toInt = g409447.toInt + 1 := gI_inc hz409513 (by decide) bg409447' (by decide) (by decide)
                have bz409513 : gB z409513 1 1000000 := ⟨by omega, by omega⟩
                refine G_iinc (L' := [(5, .int z409513), (6, .ref q409483), (4, .ref q409060), (3, .int g408998), (0, .ref q399049), (1, .ref q399050), (2, .int p399051)]) z409513 1 dr_cX17_merge_166 rfl hz409513.symm (Nat.le_of_ble_eq_true rfl) rfl ?_
                refine G_goto 20 dr_cX17_merge_169 (by decide +kernel) ?_
                refine G_lv (L' := [(5, .int z409513), (4, .ref q409060), (3, .int g408998), (0, .ref q399049), (1, .ref q399050), (2, .int p399051)]) [0, 2, 3, 4, 5, 6] rfl ?_
                exact ih20_409447 z409513 (gB_w bz409513 (by decide) (by decide)) (fun k e1 e2 ht => kt20_409448 k e1 e2 (fun R c1 c2 c3 c4 c5 c6 => c2 g409447 q409070 p409453 q409483 p409497 z409513 k e1 e2 bg409447 fq409449 fq409460 fq409461 r409471 hx409484 ht409494 fq409510 r409512 ez409513 (ht R c1 c2 c3 c4 c5 c6))) (by omega)
              · have r409514 : p409497.toInt = 0 := gj_eq hc409511 (show Int32.toInt 0 = 0 by decide)
                have bp409497' : gB p409497 0 0 := ⟨by omega, by omega⟩
                refine G_aload 0 dr_cX17_merge_56 rfl ?_
                have fq409515 : fI (F399048 q409483) 5 = p409502 := by rw [he409496]; rfl
                refine Gp_get 5 hm409495 he409496 dr_cX17_merge_58 (gk_X15 D I) (Nat.le_of_ble_eq_true rfl) wr_9_197 rfl ?_
                refine G_if_eq 166 dr_cX17_merge_61 (by decide +kernel) (fun hc409516 => ?_) (fun hc409516 => ?_)
                · have r409517 : p409502.toInt = 0 := gj_eq hc409516 (show Int32.toInt 0 = 0 by decide)
                  have bp409502' : gB p409502 0 0 := ⟨by omega, by omega⟩
                  obtain ⟨z409518, hz409518⟩ : ∃ z : Int32, z = g409447 + Int32.ofInt 1 := ⟨_, rfl⟩
                  have ez409518 : z409518.toInt = g409447.toInt + 1 := gI_inc hz409518 (by decide) bg409447' (by decide) (by decide)
                  have bz409518 : gB z409518 1 1000000 := ⟨by omega, by omega⟩
                  refine G_iinc (L' := [(5, .int z409518), (6, .ref q409483), (4, .ref q409060), (3, .int g408998), (0, .ref q399049), (1, .ref q399050), (2, .int p399051)]) z409518 1 dr_cX17_merge_166 rfl hz409518.symm (Nat.le_of_ble_eq_true rfl) rfl ?_
                  refine G_goto 20 dr_cX17_merge_169 (by decide +kernel) ?_
                  refine G_lv (L' := [(5, .int z409518), (4, .ref q409060), (3, .int g408998), (0, .ref q399049), (1, .ref q399050), (2, .int p399051)]) [0, 2, 3, 4, 5, 6] rfl ?_
                  exact ih20_409447 z409518 (gB_w bz409518 (by decide) (by decide)) (fun k e1 e2 ht => kt20_409448 k e1 e2 (fun R c1 c2 c3 c4 c5 c6 => c3 g409447 q409070 p409453 q409483 p409497 p409502 z409518 k e1 e2 bg409447 fq409449 fq409460 fq409461 r409471 hx409484 ht409494 fq409510 r409514 fq409515 r409517 ez409518 (ht R c1 c2 c3 c4 c5 c6))) (by omega)
                · have r409519 : p409502.toInt ≠ 0 := gj_neq hc409516 (show Int32.toInt 0 = 0 by decide)
                  have bp409502' : gB p409502 1 1 := ⟨by omega, by omega⟩
                  refine G_aload 0 dr_cX17_merge_64 rfl ?_
                  have fq409520 : fI (F399048 q409483) 1 = p409498 := by rw [he409496]; rfl
                  refine Gp_get 1 hm409495 he409496 dr_cX17_merge_66 (gk_X15 D I) (Nat.le_of_ble_eq_true rfl) wr_9_182 rfl ?_
                  refine G_aload 0 dr_cX17_merge_69 rfl ?_
                  have fq409521 : fI (F399048 q409483) 2 = p409499 := by rw [he409496]; rfl
                  refine Gp_get 2 hm409495 he409496 dr_cX17_merge_71 (gk_X15 D I) (Nat.le_of_ble_eq_true rfl) wr_9_186 rfl ?_
                  refine G_icmp_eq 98 dr_cX17_merge_74 (by decide +kernel) (fun hc409522 => ?_) (fun hc409522 => ?_)
                  · have r409523 : p409498.toInt = p409499.toInt := gC_eq hc409522
                    have bp409499' : gB p409499 0 1999 := ⟨by omega, by omega⟩
                    have hx409524 : tl_RModel_merge_20 D I γ0 el0 f F399048 q409060 gm_0 el_0 q399049 p399051 (0 : Int32) 98 q409483 g409447 := kt20_409448 98 q409483 g409447 (fun R c1 c2 c3 c4 c5 c6 => c4 g409447 q409070 p409453 q409483 p409497 p409502 p409498 p409499 bg409447 fq409449 fq409460 fq409461 r409471 hx409484 ht409494 fq409510 r409514 fq409515 r409519 fq409520 fq409521 r409523)
                    have hx409525 : tl_RModel_merge_2 D I γ0 el0 f F399048 q399050 el_0 gm_0 q399049 p399051 (0 : Int32) 98 q409483 g409447 q409060 := kt2_408999 98 q409483 g409447 q409060 (fun R c1 c2 c3 => c3 g408998 p409005 q409002 q409060 p409042 q409483 g409447 bg408998 fq409027 r409038 fq409065 hx409061 fq409083 ht409089 hx409524)
                    refine G_aload 0 dr_cX17_merge_98 rfl ?_
                    have fq409526 : fI (F399048 q409483) 1 = p409498 := by rw [he409496]; rfl
                    refine Gp_get 1 hm409495 he409496 dr_cX17_merge_100 (gk_X15 D I) (Nat.le_of_ble_eq_true rfl) wr_9_182 rfl ?_
                    refine G_aload 0 dr_cX17_merge_103 rfl ?_
                    have fq409527 : fI (F399048 q409483) 2 = p409499 := by rw [he409496]; rfl
                    refine Gp_get 2 hm409495 he409496 dr_cX17_merge_105 (gk_X15 D I) (Nat.le_of_ble_eq_true rfl) wr_9_186 rfl ?_
                    refine G_mmin dr_cX17_merge_108 wr_11_20 wr_3_227 wr_1_6 wr_3_228 (Nat.le_of_ble_eq_true rfl) (Nat.le_of_ble_eq_true rfl) (show ((rPh gm_0 el_0 f - rPh γ0 el0 f) / 18) ≤ (((387 * B + 6000) - rPh γ0 el0 f) / 18) by first | omega | decide) (show (rPh gm_0 el_0 f - rPh γ0 el0 f) ≤ ((387 * B + 6000) - rPh γ0 el0 f) by first | omega | decide) (G_nam fun z409528 hz409528 => ?_)
                    have ez409528 : p409498.toInt ≥ z409528.toInt ∧ p409499.toInt ≥ z409528.toInt ∧ (z409528.toInt = p409498.toInt ∨ z409528.toInt = p409499.toInt) := by have := gI_min hz409528; omega
                    have bz409528 : gB z409528 0 1999 := ⟨by omega, by omega⟩
                    refine G_istore (L' := [(7, .int z409528), (6, .ref q409483), (5, .int g409447), (4, .ref q409060), (3, .int g408998), (0, .ref q399049), (1, .ref q399050), (2, .int p399051)]) dr_cX17_merge_111 (Nat.le_of_ble_eq_true rfl) rfl ?_
                    refine G_aload 1 dr_cX17_merge_113 rfl ?_
                    refine Gp_get 1 hm409495 he409496 dr_cX17_merge_115 (gk_X15 D I) (Nat.le_of_ble_eq_true rfl) wr_9_182 rfl ?_
                    refine G_aload 1 dr_cX17_merge_118 rfl ?_
                    refine Gp_get 2 hm409495 he409496 dr_cX17_merge_120 (gk_X15 D I) (Nat.le_of_ble_eq_true rfl) wr_9_186 rfl ?_
                    refine G_mmax dr_cX17_merge_123 wr_11_21 wr_1_140 wr_1_6 wr_1_141 (Nat.le_of_ble_eq_true rfl) (Nat.le_of_ble_eq_true rfl) (show ((rPh gm_0 el_0 f - rPh γ0 el0 f) / 18) ≤ (((387 * B + 6000) - rPh γ0 el0 f) / 18) by first | omega | decide) (show (rPh gm_0 el_0 f - rPh γ0 el0 f) ≤ ((387 * B + 6000) - rPh γ0 el0 f) by first | omega | decide) (G_nam fun z409529 hz409529 => ?_)
                    have ez409529 : p409498.toInt ≤ z409529.toInt ∧ p409499.toInt ≤ z409529.toInt ∧ (z409529.toInt = p409498.toInt ∨ z409529.toInt = p409499.toInt) := by have := gI_max hz409529; omega
                    have bz409529 : gB z409529 0 1999 := ⟨by omega, by omega⟩
                    refine G_istore (L' := [(8, .int z409529), (7, .int z409528), (6, .ref q409483), (5, .int g409447), (4, .ref q409060), (3, .int g408998), (0, .ref q399049), (1, .ref q399050), (2, .int p399051)]) dr_cX17_merge_126 (Nat.le_of_ble_eq_true rfl) rfl ?_
                    refine G_aload 4 dr_cX17_merge_128 rfl ?_
                    have fq409530 : fR (F399048 q409060) 0 = q409070 := by rw [he409069]; rfl
                    refine Gp_get 0 hm409068 he409069 dr_cX17_merge_130 (gk_X12 D I) (Nat.le_of_ble_eq_true rfl) wr_9_220 rfl ?_
                    refine G_iload 3 dr_cX17_merge_133 rfl ?_
                    have rg409531 := rM_ge hT htq399050 hf1
                    have rm409532 := rM_bd hB
                    have bd409533 := rBd_c hT htq399050 hf1 hB
                    have rc409534 := rc_at hT htq399050 hf1
                    have r409536 : gm_0 14 (el_0 (gm_0 14 q399050) g408998.toInt.toNat) = q409070 := by rw [r409099]; exact ht409080.1
                    have r409537 := rg409531.2.2 _ r409098
                    rw [r409536] at r409537
                    have r409538 := bd409533.2.2.2 _ r409098
                    rw [r409536] at r409538
                    obtain ⟨q409540, hq409540⟩ : ∃ x, x = el_0 q409070 g409447.toInt.toNat := ⟨_, rfl⟩
                    refine Gt_rem (c := q399050) (f := f) hl0 dr_cX17_merge_135 ⟨wr_11_22, wr_1_18, wr_11_25, by decide, rfl, (Nat.le_of_ble_eq_true rfl), (Nat.le_of_ble_eq_true rfl)⟩ wr_11_23 wr_11_24 hT ht409074 hf409091 htq399050 hf1 (by omega) (by omega) (rm_zc pk399054) (rm_zs pk399054) (Nat.le_of_ble_eq_true rfl) (fun F409535 gm_F409535 el_F409535 hq409539 => ?_)
                    rw [← hq409540]
                    have hq409541 := hq409539
                    have vv409553 := RS_valid hT0 hzq399050 hf0 x399052
                    rw [← hγ0] at vv409553
                    have sm409552 := rDq_sum (m := γ0 6 f) hT htq399050 hf1 (show g408998.toInt.toNat < γ0 6 f by omega) (by omega) r409536 (show g409447.toInt.toNat < _ by omega) hq409539
                    rw [hγ0, hel0] at sm409552
                    have dn409554 := fun (N : Nat → Prop) hN => rPl_dx (N := N) hT htq399050 hf1 hq409539 r409536 (show g408998.toInt.toNat < _ by omega) (show g409447.toInt.toNat < _ by omega) hN
                    rw [hγ0, hel0] at dn409554
                    have nm409555 := fun (N : Nat → Prop) hN => rPl_nm (N := N) (f := f) (j := g409447.toInt.toNat) hN (show g408998.toInt.toNat < _ by omega) r409536 (show g409447.toInt.toNat < _ by omega) hx409484.symm he409496 (by omega) (by omega)
                    rw [hγ0, hel0] at nm409555
                    obtain ⟨hk409542, h2409543, hel409544, hot409545, h16409546, h18409547, hnu409548, hr409549, hM409550, hBB409551⟩ := hq409539
                    have hk409556 := rSk_of hk409542
                    have r409557 : (fI (F409535 q399050) 3).toInt = (fI (F399048 q399050) 3).toInt := by rw [rSk_F hk409556 htq399050 (by decide) (by decide)]
                    have hT409558 := hk409556.1
                    have hs409559 := rSk_tr hst hk409556 (by decide) (by decide) (by decide)
                    have kp409560 : F409535 q399049 = F399048 q399049 := rSk_F hk409556 htq399049 (by decide) (by decide)
                    have r409561 := rSk_F hk409556 htq399049 (by decide) (by decide)
                    have ht409562 : rKd gm_F409535 q399049 10 := rSk_k hk409556 htq399049 (by decide) (by decide)
                    have ht409563 : rKd gm_F409535 q399050 9 := rSk_k hk409556 htq399050 (by decide) (by decide)
                    have hf409564 : gm_F409535 1 q399050 = f := rSk_1 hk409556 htq399050 (by decide) hf1
                    have ht409565 : rKd gm_F409535 q409060 2 := rSk_k hk409556 ht409066 (by decide) (by decide)
                    have hf409566 : gm_F409535 1 q409060 = f := rSk_1 hk409556 ht409066 (by decide) hf409090
                    have ht409567 : rKd gm_F409535 q409070 3 := rSk_k hk409556 ht409074 (by decide) (by decide)
                    have hf409568 : gm_F409535 1 q409070 = f := rSk_1 hk409556 ht409074 (by decide) hf409091
                    have ht409569 : rKd gm_F409535 q409483 1 := rSk_k hk409556 ht409486 (by decide) (by decide)
                    have hf409570 : gm_F409535 1 q409483 = f := rSk_1 hk409556 ht409486 (by decide) hf409488
                    have mk409571 : mKp (F399048 q399049) (F409535 q399049) := mKp_tr mKp_rf (mKp_eq (rSk_F hk409556 htq399049 (by decide) (by decide)))
                    have r409572 := (rSk_s hk409556 htq399050 (by decide)).2.1
                    have r409573 := hot409545 _ (by rw [rc409534.2.1]; decide) (fun q => by rw [q, show _ = 3 from ht409074] at rc409534; exact absurd rc409534.2.1 (by decide))
                    have r409574 : g408998.toInt.toNat < gm_F409535 2 (gm_F409535 14 q399050) := by rw [r409572, r409573.1]; exact r409098
                    have r409575 : el_F409535 (gm_F409535 14 q399050) g408998.toInt.toNat = q409060 := by rw [r409572, r409573.2]; exact r409099
                    have he409576 : F409535 q409483 = .inr (20, [.int p409497, .int p409498, .int p409499, .int p409500, .int p409501, .int p409502, .int p409503]) := (rSk_F hk409556 ht409486 (by decide) (by decide)).trans he409496
                    have hm409577 : q409483 ∈ P399047 := RS_m hT409558 ht409569 (by decide)
                    clear r409010 r409011 r409012 r409013 r409014 r409015 r409017 r409018 r409019 r409020 bp409004 bp409005 bp409072 bp409073 r409081 r409082 rg409531 rm409532 bd409533 rc409534 r409537 r409538
                    have hm409578 : q399049 ∈ P399047 := RS_m hT409558 ht409562 (by decide)
                    obtain ⟨q409580, q409581, p409582, p409583, p409584, p409585, p409586, p409587, p409588, p409589, p409590, p409591, p409592, p409593, p409594, p409595, p409596, he409579, hB409623, ht409597, ht409598, ht409599, ht409600, ht409601, ht409602, ht409603, ht409604, ht409605, ht409606, ht409607, ht409608, ht409609, ht409610, ht409611, ht409612, ht409613, ht409614, ht409615, ht409616, ht409617, ht409618, ht409619, ht409620, hB409624⟩ := show rk_10 gm_F409535 (F409535 q399049) from RS_o hT409558 ht409562
                    have r409625 : p409584.toInt = p399068.toInt := by have z : p409584 = p399068 := congrArg (fun e => fI e 11) (he409579.symm.trans (r409561.trans he399063)); rw [z]
                    have bp409584 : gB p409584 0 100 := (hB409623.2.2.1)
                    have r409626 : p409587.toInt = p399071.toInt := by have z : p409587 = p399071 := congrArg (fun e => fI e 14) (he409579.symm.trans (r409561.trans he399063)); rw [z]
                    have bp409587 : gB p409587 0 2000 := (hB409623.2.2.2.1)
                    obtain ⟨nu409627, nu409628, nu409629, nu409630⟩ := hnu409548
                    have hB409631 : rBd gm_F409535 el_F409535 f B := hBB409551 B hB
                    have hph409632 : rPh γ0 el0 f ≤ rPh gm_F409535 el_F409535 f := by rw [hr409549]; exact hph
                    have pk409633 : rPh gm_F409535 el_F409535 f ≤ 387 * B + 6000 := rm_pk (rM_ge hT409558 ht409563 hf409564).1 (rM_bd hB409631)
                    refine G_widen (cs' := ((rPh gm_F409535 el_F409535 f - rPh γ0 el0 f) / 18)) (sl' := (rPh gm_F409535 el_F409535 f - rPh γ0 el0 f)) (rm_ec hr409549) (rm_es hr409549) ?_
                    refine G_pop dr_cX17_merge_138 rfl ?_
                    refine G_aload_n 6 dr_cX17_merge_139 rfl ?_
                    refine G_dup dr_cX17_merge_140 rfl ?_
                    have fq409634 : fI (F409535 q399049) 13 = p409586 := by rw [he409579]; rfl
                    refine Gp_get 13 hm409578 he409579 dr_cX17_merge_141 (gk_X17 D I) (Nat.le_of_ble_eq_true rfl) wr_7_87 rfl ?_
                    have bp409586 : gB p409586 (-2147483648) 2147483647 := (gB_any p409586)
                    refine G_iconst 1 dr_cX17_merge_144 (by decide +kernel) ?_
                    refine G_iadd dr_cX17_merge_145 (G_nam fun z409635 hz409635 => ?_)
                    have bz409635 : gB z409635 (-2147483648) 2147483647 := gB_any z409635
                    refine Gp_put 13 hm409578 he409579 dr_cX17_merge_146 (gk_X17 D I) (Nat.le_of_ble_eq_true rfl) wr_7_87 rfl rfl rfl (Nat.le_of_ble_eq_true rfl) (fun F409636 e409637 n409638 => ?_)
                    have he409639 : F409636 q409483 = .inr (20, [.int p409497, .int p409498, .int p409499, .int p409500, .int p409501, .int p409502, .int p409503]) := (n409638 q409483 (rn_oo he409576 he409579 (by decide))).trans he409576
                    have he409640 : F409636 q399049 = .inr (22, [.ref (gm_F409535 9 0), .ref (gm_F409535 9 1), .ref (gm_F409535 9 2), .ref (gm_F409535 9 3), .ref (gm_F409535 9 4), .ref (gm_F409535 9 5), .ref (gm_F409535 9 6), .ref (gm_F409535 9 7), .ref (gm_F409535 9 8), .int p409582, .int p409583, .int p409584, .int p409585, .int z409635, .int p409587, .ref (gm_F409535 9 15), .ref (gm_F409535 9 16), .ref (gm_F409535 9 17), .ref (gm_F409535 9 18), .ref (gm_F409535 9 19), .ref (gm_F409535 9 20), .ref (gm_F409535 9 21), .ref (gm_F409535 9 22), .int p409588, .int p409589, .int p409590, .int p409591, .int p409592, .ref q409580, .ref (gm_F409535 9 29), .int p409593, .ref (gm_F409535 9 31), .int p409594, .int p409595, .int p409596, .ref q409581]) := e409637
                    have mk409641 : mKp (F399048 q399049) (F409636 q399049) := mKp_tr mk409571 (by rw [he409579, he409640]; exact ⟨rfl, rfl⟩)
                    have fq409642 : F409636 q399049 = cF (F409535 q399049) 13 (.int z409635) := by rw [he409640, he409579]; rfl
                    have hT409643 : RS D I P399047 F409636 gm_F409535 el_F409535 := RS_set hT409558 n409638 ht409562 (by decide) ⟨q409580, q409581, p409582, p409583, p409584, p409585, z409635, p409587, p409588, p409589, p409590, p409591, p409592, p409593, p409594, p409595, p409596, he409640, ⟨(hB409623.1), (hB409623.2.1), bp409584, bp409587, (hB409623.2.2.2.2.1), (hB409623.2.2.2.2.2.1), (hB409623.2.2.2.2.2.2.1), (hB409623.2.2.2.2.2.2.2.1), (hB409623.2.2.2.2.2.2.2.2)⟩, ht409597, ht409598, ht409599, ht409600, ht409601, ht409602, ht409603, ht409604, ht409605, ht409606, ht409607, ht409608, ht409609, ht409610, ht409611, ht409612, ht409613, ht409614, ht409615, ht409616, ht409617, ht409618, ht409619, ht409620, hB409624⟩
                    have hs409644 := rSk_put hs409559 hT409643 n409638 ht409562 (by decide) (by decide) (Or.inr (Or.inr (by decide)))
                    have dn409645 : ∀ N : Nat → Prop, rPl γ0 el0 F399048 q399050 (γ0 6 f) (fun _ _ => rNx N) → rPl gm_F409535 el_F409535 F409636 q399050 (gm_F409535 6 f) (fun _ _ => rNx N) := fun N hN => rPl_fr hT409558 ht409563 hf409564 (dn409554 N hN) (fun b hb _ => n409638 b (rn_ty (show rKd gm_F409535 b 1 from hb) ht409562 (by decide)))
                    refine G_iload 1 dr_cX17_merge_149 rfl ?_
                    refine G_iload 0 dr_cX17_merge_151 rfl ?_
                    refine G_icmp_eq 164 dr_cX17_merge_153 (by decide +kernel) (fun hc409646 => ?_) (fun hc409646 => ?_)
                    · have r409647 : z409528.toInt = z409529.toInt := gC_eq hc409646
                      have ac409648 : (fI (F409636 q399049) 11).toInt = p409584.toInt := by rw [he409640]; rfl
                      have ac409649 : (fI (F409636 q399049) 14).toInt = p409587.toInt := by rw [he409640]; rfl
                      refine G_iconst 1 dr_cX17_merge_164 (by decide +kernel) ?_
                      exact G_zretA FieldType.boolean dr_cX17_merge_165 rfl rfl (show ((rPh gm_F409535 el_F409535 f - rPh γ0 el0 f) / 18) ≤ (((387 * B + 6000) - rPh γ0 el0 f) / 18) by omega) (show (rPh gm_F409535 el_F409535 f - rPh γ0 el0 f) ≤ ((387 * B + 6000) - rPh γ0 el0 f) by omega) ⟨P399047, F409636, gm_F409535, el_F409535, 1, rfl, rfl, hs409644, ⟨by omega, by omega⟩, hB409631, (gB_w (gBl (show Int32.toInt 1 = 1 by decide)) (by decide) (by decide)), (by have qa0 : Int32.toInt 1 = 1 := (by decide); omega), (by have qa0 : Int32.toInt 1 = 1 := (by decide); omega), (by have qa0 : Int32.toInt 1 = 1 := (by decide); omega), (by have qa0 : Int32.toInt 1 = 1 := (by decide); omega), (Or.inr (by rw [show gm_F409535 6 f = γ0 6 f by omega]; exact Nat.le_of_eq sm409552)), dn409645, (by have qa0 : Int32.toInt 1 = 1 := (by decide); omega), (by have qa0 : Int32.toInt 1 = 1 := (by decide); omega), (fun h => absurd h (by decide)), mk409641, (fun R c1 c2 c3 => c2 gm_0 el_0 q409483 g409447 q409060 p409498 p409499 z409528 z409529 q409070 F409535 gm_F409535 el_F409535 p409586 z409635 F409636 hγ0 hel0 hx409525 fq409526 fq409527 ez409528 ez409529 fq409530 hq409541 fq409634 hz409635 n409638 fq409642 r409647)⟩
                    · have r409650 : z409528.toInt ≠ z409529.toInt := gC_ne hc409646
                      refine G_aload_n 7 dr_cX17_merge_156 rfl ?_
                      refine G_iload 0 dr_cX17_merge_157 rfl ?_
                      refine G_iload 1 dr_cX17_merge_159 rfl ?_
                      have v0_409651 : 0 < gm_F409535 6 (gm_F409535 1 q399050) := by rw [hf409564]; omega
                      refine Gw_callS (As := [.ref q399050, .int z409529, .int z409528]) (gV_ok D I) (ct_369991_SpillForgeModel_rename l hl0 D I gm_F409535 el_F409535 P399047 F409636 q399050 z409529 z409528 hT409643 ht409563 bz409529 bz409528 (by omega)) dr_cX17_merge_161 ⟨wr_11_30, wr_1_14, wr_11_32, by decide, rfl, (Nat.le_of_ble_eq_true rfl), (Nat.le_of_ble_eq_true rfl)⟩ wr_11_31 (rm_zc pk409633) (rm_zs pk409633) (Nat.le_of_ble_eq_true rfl) (fun r409655 w409656 dc409652 ds409653 hp409654 => ?_) (fun _ _ _ _ _ z => z.elim)
                      obtain ⟨F409661, rfl, rfl, hT409662, hs409663, hdc, hds, x409657, x409658, x409659, ht409660⟩ := hp409654
                      have hs409664 := rSk_str hs409644 hT409662 hs409663 (by decide) (by decide) (by decide) (Or.inr (rFs_e x409659 hf409564))
                      have kp409665 : F409661 q399049 = F409636 q399049 := x409658 q399049 (rT0 ht409562 (by decide)) (rT2 ht409562 (by decide))
                      have mk409666 : mKp (F399048 q399049) (F409661 q399049) := mKp_tr mk409641 (mKp_eq (x409658 q399049 (rT0 ht409562 (by decide)) (rT2 ht409562 (by decide))))
                      have he409667 : F409661 q399049 = .inr (22, [.ref (gm_F409535 9 0), .ref (gm_F409535 9 1), .ref (gm_F409535 9 2), .ref (gm_F409535 9 3), .ref (gm_F409535 9 4), .ref (gm_F409535 9 5), .ref (gm_F409535 9 6), .ref (gm_F409535 9 7), .ref (gm_F409535 9 8), .int p409582, .int p409583, .int p409584, .int p409585, .int z409635, .int p409587, .ref (gm_F409535 9 15), .ref (gm_F409535 9 16), .ref (gm_F409535 9 17), .ref (gm_F409535 9 18), .ref (gm_F409535 9 19), .ref (gm_F409535 9 20), .ref (gm_F409535 9 21), .ref (gm_F409535 9 22), .int p409588, .int p409589, .int p409590, .int p409591, .int p409592, .ref q409580, .ref (gm_F409535 9 29), .int p409593, .ref (gm_F409535 9 31), .int p409594, .int p409595, .int p409596, .ref q409581]) := (x409658 q399049 (rT0 ht409562 (by decide)) (rT2 ht409562 (by decide))).trans he409640
                      change G _ _ _ _ _ _ _ _ _ _ _
                      refine G_widen (cs' := ((rPh gm_F409535 el_F409535 f - rPh γ0 el0 f) / 18)) (sl' := (rPh gm_F409535 el_F409535 f - rPh γ0 el0 f)) (rm_d0 hdc) (rm_d0 hds) ?_
                      have dn409668 : ∀ N : Nat → Prop, rPl γ0 el0 F399048 q399050 (γ0 6 f) (fun _ _ => rNx N) → rPl gm_F409535 el_F409535 F409661 q399050 (gm_F409535 6 f) (fun _ _ => rNx N) := fun N hN => by have z := x409657 N ((show z409528.toInt = p409498.toInt ∨ z409528.toInt = p409499.toInt by omega).elim (fun e => by rw [e]; exact (nm409555 N hN).1) (fun e => by rw [e]; exact (nm409555 N hN).2)) (by omega); rw [hf409564] at z; exact z (dn409645 N hN)
                      have ac409669 : (fI (F409661 q399049) 11).toInt = p409584.toInt := by rw [he409667]; rfl
                      have ac409670 : (fI (F409661 q399049) 14).toInt = p409587.toInt := by rw [he409667]; rfl
                      refine G_iconst 1 dr_cX17_merge_164 (by decide +kernel) ?_
                      exact G_zretA FieldType.boolean dr_cX17_merge_165 rfl rfl (show ((rPh gm_F409535 el_F409535 f - rPh γ0 el0 f) / 18) ≤ (((387 * B + 6000) - rPh γ0 el0 f) / 18) by omega) (show (rPh gm_F409535 el_F409535 f - rPh γ0 el0 f) ≤ ((387 * B + 6000) - rPh γ0 el0 f) by omega) ⟨P399047, F409661, gm_F409535, el_F409535, 1, rfl, rfl, hs409664, ⟨by omega, by omega⟩, hB409631, (gB_w (gBl (show Int32.toInt 1 = 1 by decide)) (by decide) (by decide)), (by have qa0 : Int32.toInt 1 = 1 := (by decide); omega), (by have qa0 : Int32.toInt 1 = 1 := (by decide); omega), (by have qa0 : Int32.toInt 1 = 1 := (by decide); omega), (by have qa0 : Int32.toInt 1 = 1 := (by decide); omega), (Or.inr (by rw [show gm_F409535 6 f = γ0 6 f by omega]; exact Nat.le_of_eq sm409552)), dn409668, (by have qa0 : Int32.toInt 1 = 1 := (by decide); omega), (by have qa0 : Int32.toInt 1 = 1 := (by decide); omega), (fun h => absurd h (by decide)), mk409666, (fun R c1 c2 c3 => c3 gm_0 el_0 q409483 g409447 q409060 p409498 p409499 z409528 z409529 q409070 F409535 gm_F409535 el_F409535 p409586 z409635 F409636 F409661 hγ0 hel0 hx409525 fq409526 fq409527 ez409528 ez409529 fq409530 hq409541 fq409634 hz409635 n409638 fq409642 r409650 hT409662 hs409663 x409657 x409658 x409659 ht409660)⟩
                  · have r409671 : p409498.toInt ≠ p409499.toInt := gC_ne hc409522
                    refine G_aload_n 4 dr_cX17_merge_77 rfl ?_
                    refine G_aload 0 dr_cX17_merge_78 rfl ?_
                    refine Gp_get 1 hm409495 he409496 dr_cX17_merge_80 (gk_X15 D I) (Nat.le_of_ble_eq_true rfl) wr_9_182 rfl ?_
                    refine G_aload 0 dr_cX17_merge_83 rfl ?_
                    refine Gp_get 2 hm409495 he409496 dr_cX17_merge_85 (gk_X15 D I) (Nat.le_of_ble_eq_true rfl) wr_9_186 rfl ?_
                    refine G_iload_n 6 dr_cX17_merge_88 rfl ?_
                    refine Gw_callV (As := [.int p409498, .int p409499, .int p399051]) (gV_ok D I) (ct_397058_SpillForgeModel_mayMerge l hl0 D I gm_0 el_0 P399047 F399048 q399049 p409498 p409499 p399051 hT htq399049 bp409498 ⟨by omega, by omega⟩) dr_cX17_merge_89 ⟨wr_11_12, wr_1_14, wr_11_15, by decide, rfl, (Nat.le_of_ble_eq_true rfl), (Nat.le_of_ble_eq_true rfl)⟩ wr_11_14 wr_p_102 hm399062 he399063 rfl (rm_zc pk399054) (rm_zs pk399054) (Nat.le_of_ble_eq_true rfl) (fun r409675 w409676 dc409672 ds409673 hp409674 => ?_) (fun _ _ _ _ _ z => z.elim)
                    obtain ⟨o409677, rfl, rfl, hdc, hds, bo409677, x409678, ht409679⟩ := hp409674
                    change G _ _ _ _ _ _ _ (.int o409677 :: _) _ _ _
                    refine G_widen (cs' := ((rPh gm_0 el_0 f - rPh γ0 el0 f) / 18)) (sl' := (rPh gm_0 el_0 f - rPh γ0 el0 f)) (rm_d0 hdc) (rm_d0 hds) ?_
                    refine G_if_ne 98 dr_cX17_merge_92 (by decide +kernel) (fun hc409680 => ?_) (fun hc409680 => ?_)
                    · have r409681 : o409677.toInt ≠ 0 := gj_neq hc409680 (show Int32.toInt 0 = 0 by decide)
                      have bo409677' : gB o409677 1 1 := ⟨by omega, by omega⟩
                      have hx409682 : tl_RModel_merge_20 D I γ0 el0 f F399048 q409060 gm_0 el_0 q399049 p399051 (0 : Int32) 98 q409483 g409447 := kt20_409448 98 q409483 g409447 (fun R c1 c2 c3 c4 c5 c6 => c5 g409447 q409070 p409453 q409483 p409497 p409502 p409498 p409499 o409677 bg409447 fq409449 fq409460 fq409461 r409471 hx409484 ht409494 fq409510 r409514 fq409515 r409519 fq409520 fq409521 r409671 bo409677 x409678 ht409679 r409681)
                      have hx409683 : tl_RModel_merge_2 D I γ0 el0 f F399048 q399050 el_0 gm_0 q399049 p399051 (0 : Int32) 98 q409483 g409447 q409060 := kt2_408999 98 q409483 g409447 q409060 (fun R c1 c2 c3 => c3 g408998 p409005 q409002 q409060 p409042 q409483 g409447 bg408998 fq409027 r409038 fq409065 hx409061 fq409083 ht409089 hx409682)
                      have bp409499' : gB p409499 0 1999 := ⟨by omega, by omega⟩
                      refine G_aload 0 dr_cX17_merge_98 rfl ?_
                      have fq409684 : fI (F399048 q409483) 1 = p409498 := by rw [he409496]; rfl
                      refine Gp_get 1 hm409495 he409496 dr_cX17_merge_100 (gk_X15 D I) (Nat.le_of_ble_eq_true rfl) wr_9_182 rfl ?_
                      refine G_aload 0 dr_cX17_merge_103 rfl ?_
                      have fq409685 : fI (F399048 q409483) 2 = p409499 := by rw [he409496]; rfl
                      refine Gp_get 2 hm409495 he409496 dr_cX17_merge_105 (gk_X15 D I) (Nat.le_of_ble_eq_true rfl) wr_9_186 rfl ?_
                      refine G_mmin dr_cX17_merge_108 wr_11_20 wr_3_227 wr_1_6 wr_3_228 (Nat.le_of_ble_eq_true rfl) (Nat.le_of_ble_eq_true rfl) (show ((rPh gm_0 el_0 f - rPh γ0 el0 f) / 18) ≤ (((387 * B + 6000) - rPh γ0 el0 f) / 18) by first | omega | decide) (show (rPh gm_0 el_0 f - rPh γ0 el0 f) ≤ ((387 * B + 6000) - rPh γ0 el0 f) by first | omega | decide) (G_nam fun z409686 hz409686 => ?_)
                      have ez409686 : p409498.toInt ≥ z409686.toInt ∧ p409499.toInt ≥ z409686.toInt ∧ (z409686.toInt = p409498.toInt ∨ z409686.toInt = p409499.toInt) := by have := gI_min hz409686; omega
                      have bz409686 : gB z409686 0 1999 := ⟨by omega, by omega⟩
                      refine G_istore (L' := [(7, .int z409686), (6, .ref q409483), (5, .int g409447), (4, .ref q409060), (3, .int g408998), (0, .ref q399049), (1, .ref q399050), (2, .int p399051)]) dr_cX17_merge_111 (Nat.le_of_ble_eq_true rfl) rfl ?_
                      refine G_aload 1 dr_cX17_merge_113 rfl ?_
                      refine Gp_get 1 hm409495 he409496 dr_cX17_merge_115 (gk_X15 D I) (Nat.le_of_ble_eq_true rfl) wr_9_182 rfl ?_
                      refine G_aload 1 dr_cX17_merge_118 rfl ?_
                      refine Gp_get 2 hm409495 he409496 dr_cX17_merge_120 (gk_X15 D I) (Nat.le_of_ble_eq_true rfl) wr_9_186 rfl ?_
                      refine G_mmax dr_cX17_merge_123 wr_11_21 wr_1_140 wr_1_6 wr_1_141 (Nat.le_of_ble_eq_true rfl) (Nat.le_of_ble_eq_true rfl) (show ((rPh gm_0 el_0 f - rPh γ0 el0 f) / 18) ≤ (((387 * B + 6000) - rPh γ0 el0 f) / 18) by first | omega | decide) (show (rPh gm_0 el_0 f - rPh γ0 el0 f) ≤ ((387 * B + 6000) - rPh γ0 el0 f) by first | omega | decide) (G_nam fun z409687 hz409687 => ?_)
                      have ez409687 : p409498.toInt ≤ z409687.toInt ∧ p409499.toInt ≤ z409687.toInt ∧ (z409687.toInt = p409498.toInt ∨ z409687.toInt = p409499.toInt) := by have := gI_max hz409687; omega
                      have bz409687 : gB z409687 0 1999 := ⟨by omega, by omega⟩
                      refine G_istore (L' := [(8, .int z409687), (7, .int z409686), (6, .ref q409483), (5, .int g409447), (4, .ref q409060), (3, .int g408998), (0, .ref q399049), (1, .ref q399050), (2, .int p399051)]) dr_cX17_merge_126 (Nat.le_of_ble_eq_true rfl) rfl ?_
                      refine G_aload 4 dr_cX17_merge_128 rfl ?_
                      have fq409688 : fR (F399048 q409060) 0 = q409070 := by rw [he409069]; rfl
                      refine Gp_get 0 hm409068 he409069 dr_cX17_merge_130 (gk_X12 D I) (Nat.le_of_ble_eq_true rfl) wr_9_220 rfl ?_
                      refine G_iload 3 dr_cX17_merge_133 rfl ?_
                      have rg409689 := rM_ge hT htq399050 hf1
                      have rm409690 := rM_bd hB
                      have bd409691 := rBd_c hT htq399050 hf1 hB
                      have rc409692 := rc_at hT htq399050 hf1
                      have r409694 : gm_0 14 (el_0 (gm_0 14 q399050) g408998.toInt.toNat) = q409070 := by rw [r409099]; exact ht409080.1
                      have r409695 := rg409689.2.2 _ r409098
                      rw [r409694] at r409695
                      have r409696 := bd409691.2.2.2 _ r409098
                      rw [r409694] at r409696
                      obtain ⟨q409698, hq409698⟩ : ∃ x, x = el_0 q409070 g409447.toInt.toNat := ⟨_, rfl⟩
                      refine Gt_rem (c := q399050) (f := f) hl0 dr_cX17_merge_135 ⟨wr_11_22, wr_1_18, wr_11_25, by decide, rfl, (Nat.le_of_ble_eq_true rfl), (Nat.le_of_ble_eq_true rfl)⟩ wr_11_23 wr_11_24 hT ht409074 hf409091 htq399050 hf1 (by omega) (by omega) (rm_zc pk399054) (rm_zs pk399054) (Nat.le_of_ble_eq_true rfl) (fun F409693 gm_F409693 el_F409693 hq409697 => ?_)
                      rw [← hq409698]
                      have hq409699 := hq409697
                      have vv409711 := RS_valid hT0 hzq399050 hf0 x399052
                      rw [← hγ0] at vv409711
                      have sm409710 := rDq_sum (m := γ0 6 f) hT htq399050 hf1 (show g408998.toInt.toNat < γ0 6 f by omega) (by omega) r409694 (show g409447.toInt.toNat < _ by omega) hq409697
                      rw [hγ0, hel0] at sm409710
                      have dn409712 := fun (N : Nat → Prop) hN => rPl_dx (N := N) hT htq399050 hf1 hq409697 r409694 (show g408998.toInt.toNat < _ by omega) (show g409447.toInt.toNat < _ by omega) hN
                      rw [hγ0, hel0] at dn409712
                      have nm409713 := fun (N : Nat → Prop) hN => rPl_nm (N := N) (f := f) (j := g409447.toInt.toNat) hN (show g408998.toInt.toNat < _ by omega) r409694 (show g409447.toInt.toNat < _ by omega) hx409484.symm he409496 (by omega) (by omega)
                      rw [hγ0, hel0] at nm409713
                      obtain ⟨hk409700, h2409701, hel409702, hot409703, h16409704, h18409705, hnu409706, hr409707, hM409708, hBB409709⟩ := hq409697
                      have hk409714 := rSk_of hk409700
                      have r409715 : (fI (F409693 q399050) 3).toInt = (fI (F399048 q399050) 3).toInt := by rw [rSk_F hk409714 htq399050 (by decide) (by decide)]
                      have hT409716 := hk409714.1
                      have hs409717 := rSk_tr hst hk409714 (by decide) (by decide) (by decide)
                      have kp409718 : F409693 q399049 = F399048 q399049 := rSk_F hk409714 htq399049 (by decide) (by decide)
                      have r409719 := rSk_F hk409714 htq399049 (by decide) (by decide)
                      have ht409720 : rKd gm_F409693 q399049 10 := rSk_k hk409714 htq399049 (by decide) (by decide)
                      have ht409721 : rKd gm_F409693 q399050 9 := rSk_k hk409714 htq399050 (by decide) (by decide)
                      have hf409722 : gm_F409693 1 q399050 = f := rSk_1 hk409714 htq399050 (by decide) hf1
                      have ht409723 : rKd gm_F409693 q409060 2 := rSk_k hk409714 ht409066 (by decide) (by decide)
                      have hf409724 : gm_F409693 1 q409060 = f := rSk_1 hk409714 ht409066 (by decide) hf409090
                      have ht409725 : rKd gm_F409693 q409070 3 := rSk_k hk409714 ht409074 (by decide) (by decide)
                      have hf409726 : gm_F409693 1 q409070 = f := rSk_1 hk409714 ht409074 (by decide) hf409091
                      have ht409727 : rKd gm_F409693 q409483 1 := rSk_k hk409714 ht409486 (by decide) (by decide)
                      have hf409728 : gm_F409693 1 q409483 = f := rSk_1 hk409714 ht409486 (by decide) hf409488
                      have mk409729 : mKp (F399048 q399049) (F409693 q399049) := mKp_tr mKp_rf (mKp_eq (rSk_F hk409714 htq399049 (by decide) (by decide)))
                      have r409730 := (rSk_s hk409714 htq399050 (by decide)).2.1
                      have r409731 := hot409703 _ (by rw [rc409692.2.1]; decide) (fun q => by rw [q, show _ = 3 from ht409074] at rc409692; exact absurd rc409692.2.1 (by decide))
                      have r409732 : g408998.toInt.toNat < gm_F409693 2 (gm_F409693 14 q399050) := by rw [r409730, r409731.1]; exact r409098
                      have r409733 : el_F409693 (gm_F409693 14 q399050) g408998.toInt.toNat = q409060 := by rw [r409730, r409731.2]; exact r409099
                      have he409734 : F409693 q409483 = .inr (20, [.int p409497, .int p409498, .int p409499, .int p409500, .int p409501, .int p409502, .int p409503]) := (rSk_F hk409714 ht409486 (by decide) (by decide)).trans he409496
                      have hm409735 : q409483 ∈ P399047 := RS_m hT409716 ht409727 (by decide)
                      clear r409010 r409011 r409012 r409013 r409014 r409015 r409017 r409018 r409019 r409020 bp409004 bp409005 bp409072 bp409073 r409081 r409082 rg409689 rm409690 bd409691 rc409692 r409695 r409696
                      have hm409736 : q399049 ∈ P399047 := RS_m hT409716 ht409720 (by decide)
                      obtain ⟨q409738, q409739, p409740, p409741, p409742, p409743, p409744, p409745, p409746, p409747, p409748, p409749, p409750, p409751, p409752, p409753, p409754, he409737, hB409781, ht409755, ht409756, ht409757, ht409758, ht409759, ht409760, ht409761, ht409762, ht409763, ht409764, ht409765, ht409766, ht409767, ht409768, ht409769, ht409770, ht409771, ht409772, ht409773, ht409774, ht409775, ht409776, ht409777, ht409778, hB409782⟩ := show rk_10 gm_F409693 (F409693 q399049) from RS_o hT409716 ht409720
                      have r409783 : p409742.toInt = p399068.toInt := by have z : p409742 = p399068 := congrArg (fun e => fI e 11) (he409737.symm.trans (r409719.trans he399063)); rw [z]
                      have bp409742 : gB p409742 0 100 := (hB409781.2.2.1)
                      have r409784 : p409745.toInt = p399071.toInt := by have z : p409745 = p399071 := congrArg (fun e => fI e 14) (he409737.symm.trans (r409719.trans he399063)); rw [z]
                      have bp409745 : gB p409745 0 2000 := (hB409781.2.2.2.1)
                      obtain ⟨nu409785, nu409786, nu409787, nu409788⟩ := hnu409706
                      have hB409789 : rBd gm_F409693 el_F409693 f B := hBB409709 B hB
                      have hph409790 : rPh γ0 el0 f ≤ rPh gm_F409693 el_F409693 f := by rw [hr409707]; exact hph
                      have pk409791 : rPh gm_F409693 el_F409693 f ≤ 387 * B + 6000 := rm_pk (rM_ge hT409716 ht409721 hf409722).1 (rM_bd hB409789)
                      refine G_widen (cs' := ((rPh gm_F409693 el_F409693 f - rPh γ0 el0 f) / 18)) (sl' := (rPh gm_F409693 el_F409693 f - rPh γ0 el0 f)) (rm_ec hr409707) (rm_es hr409707) ?_
                      refine G_pop dr_cX17_merge_138 rfl ?_
                      refine G_aload_n 6 dr_cX17_merge_139 rfl ?_
                      refine G_dup dr_cX17_merge_140 rfl ?_
                      have fq409792 : fI (F409693 q399049) 13 = p409744 := by rw [he409737]; rfl
                      refine Gp_get 13 hm409736 he409737 dr_cX17_merge_141 (gk_X17 D I) (Nat.le_of_ble_eq_true rfl) wr_7_87 rfl ?_
                      have bp409744 : gB p409744 (-2147483648) 2147483647 := (gB_any p409744)
                      refine G_iconst 1 dr_cX17_merge_144 (by decide +kernel) ?_
                      refine G_iadd dr_cX17_merge_145 (G_nam fun z409793 hz409793 => ?_)
                      have bz409793 : gB z409793 (-2147483648) 2147483647 := gB_any z409793
                      refine Gp_put 13 hm409736 he409737 dr_cX17_merge_146 (gk_X17 D I) (Nat.le_of_ble_eq_true rfl) wr_7_87 rfl rfl rfl (Nat.le_of_ble_eq_true rfl) (fun F409794 e409795 n409796 => ?_)
                      have he409797 : F409794 q409483 = .inr (20, [.int p409497, .int p409498, .int p409499, .int p409500, .int p409501, .int p409502, .int p409503]) := (n409796 q409483 (rn_oo he409734 he409737 (by decide))).trans he409734
                      have he409798 : F409794 q399049 = .inr (22, [.ref (gm_F409693 9 0), .ref (gm_F409693 9 1), .ref (gm_F409693 9 2), .ref (gm_F409693 9 3), .ref (gm_F409693 9 4), .ref (gm_F409693 9 5), .ref (gm_F409693 9 6), .ref (gm_F409693 9 7), .ref (gm_F409693 9 8), .int p409740, .int p409741, .int p409742, .int p409743, .int z409793, .int p409745, .ref (gm_F409693 9 15), .ref (gm_F409693 9 16), .ref (gm_F409693 9 17), .ref (gm_F409693 9 18), .ref (gm_F409693 9 19), .ref (gm_F409693 9 20), .ref (gm_F409693 9 21), .ref (gm_F409693 9 22), .int p409746, .int p409747, .int p409748, .int p409749, .int p409750, .ref q409738, .ref (gm_F409693 9 29), .int p409751, .ref (gm_F409693 9 31), .int p409752, .int p409753, .int p409754, .ref q409739]) := e409795
                      have mk409799 : mKp (F399048 q399049) (F409794 q399049) := mKp_tr mk409729 (by rw [he409737, he409798]; exact ⟨rfl, rfl⟩)
                      have fq409800 : F409794 q399049 = cF (F409693 q399049) 13 (.int z409793) := by rw [he409798, he409737]; rfl
                      have hT409801 : RS D I P399047 F409794 gm_F409693 el_F409693 := RS_set hT409716 n409796 ht409720 (by decide) ⟨q409738, q409739, p409740, p409741, p409742, p409743, z409793, p409745, p409746, p409747, p409748, p409749, p409750, p409751, p409752, p409753, p409754, he409798, ⟨(hB409781.1), (hB409781.2.1), bp409742, bp409745, (hB409781.2.2.2.2.1), (hB409781.2.2.2.2.2.1), (hB409781.2.2.2.2.2.2.1), (hB409781.2.2.2.2.2.2.2.1), (hB409781.2.2.2.2.2.2.2.2)⟩, ht409755, ht409756, ht409757, ht409758, ht409759, ht409760, ht409761, ht409762, ht409763, ht409764, ht409765, ht409766, ht409767, ht409768, ht409769, ht409770, ht409771, ht409772, ht409773, ht409774, ht409775, ht409776, ht409777, ht409778, hB409782⟩
                      have hs409802 := rSk_put hs409717 hT409801 n409796 ht409720 (by decide) (by decide) (Or.inr (Or.inr (by decide)))
                      have dn409803 : ∀ N : Nat → Prop, rPl γ0 el0 F399048 q399050 (γ0 6 f) (fun _ _ => rNx N) → rPl gm_F409693 el_F409693 F409794 q399050 (gm_F409693 6 f) (fun _ _ => rNx N) := fun N hN => rPl_fr hT409716 ht409721 hf409722 (dn409712 N hN) (fun b hb _ => n409796 b (rn_ty (show rKd gm_F409693 b 1 from hb) ht409720 (by decide)))
                      refine G_iload 1 dr_cX17_merge_149 rfl ?_
                      refine G_iload 0 dr_cX17_merge_151 rfl ?_
                      refine G_icmp_eq 164 dr_cX17_merge_153 (by decide +kernel) (fun hc409804 => ?_) (fun hc409804 => ?_)
                      · have r409805 : z409686.toInt = z409687.toInt := gC_eq hc409804
                        have ac409806 : (fI (F409794 q399049) 11).toInt = p409742.toInt := by rw [he409798]; rfl
                        have ac409807 : (fI (F409794 q399049) 14).toInt = p409745.toInt := by rw [he409798]; rfl
                        refine G_iconst 1 dr_cX17_merge_164 (by decide +kernel) ?_
                        exact G_zretA FieldType.boolean dr_cX17_merge_165 rfl rfl (show ((rPh gm_F409693 el_F409693 f - rPh γ0 el0 f) / 18) ≤ (((387 * B + 6000) - rPh γ0 el0 f) / 18) by omega) (show (rPh gm_F409693 el_F409693 f - rPh γ0 el0 f) ≤ ((387 * B + 6000) - rPh γ0 el0 f) by omega) ⟨P399047, F409794, gm_F409693, el_F409693, 1, rfl, rfl, hs409802, ⟨by omega, by omega⟩, hB409789, (gB_w (gBl (show Int32.toInt 1 = 1 by decide)) (by decide) (by decide)), (by have qa0 : Int32.toInt 1 = 1 := (by decide); omega), (by have qa0 : Int32.toInt 1 = 1 := (by decide); omega), (by have qa0 : Int32.toInt 1 = 1 := (by decide); omega), (by have qa0 : Int32.toInt 1 = 1 := (by decide); omega), (Or.inr (by rw [show gm_F409693 6 f = γ0 6 f by omega]; exact Nat.le_of_eq sm409710)), dn409803, (by have qa0 : Int32.toInt 1 = 1 := (by decide); omega), (by have qa0 : Int32.toInt 1 = 1 := (by decide); omega), (fun h => absurd h (by decide)), mk409799, (fun R c1 c2 c3 => c2 gm_0 el_0 q409483 g409447 q409060 p409498 p409499 z409686 z409687 q409070 F409693 gm_F409693 el_F409693 p409744 z409793 F409794 hγ0 hel0 hx409683 fq409684 fq409685 ez409686 ez409687 fq409688 hq409699 fq409792 hz409793 n409796 fq409800 r409805)⟩
                      · have r409808 : z409686.toInt ≠ z409687.toInt := gC_ne hc409804
                        refine G_aload_n 7 dr_cX17_merge_156 rfl ?_
                        refine G_iload 0 dr_cX17_merge_157 rfl ?_
                        refine G_iload 1 dr_cX17_merge_159 rfl ?_
                        have v0_409809 : 0 < gm_F409693 6 (gm_F409693 1 q399050) := by rw [hf409722]; omega
                        refine Gw_callS (As := [.ref q399050, .int z409687, .int z409686]) (gV_ok D I) (ct_369991_SpillForgeModel_rename l hl0 D I gm_F409693 el_F409693 P399047 F409794 q399050 z409687 z409686 hT409801 ht409721 bz409687 bz409686 (by omega)) dr_cX17_merge_161 ⟨wr_11_30, wr_1_14, wr_11_32, by decide, rfl, (Nat.le_of_ble_eq_true rfl), (Nat.le_of_ble_eq_true rfl)⟩ wr_11_31 (rm_zc pk409791) (rm_zs pk409791) (Nat.le_of_ble_eq_true rfl) (fun r409813 w409814 dc409810 ds409811 hp409812 => ?_) (fun _ _ _ _ _ z => z.elim)
                        obtain ⟨F409819, rfl, rfl, hT409820, hs409821, hdc, hds, x409815, x409816, x409817, ht409818⟩ := hp409812
                        have hs409822 := rSk_str hs409802 hT409820 hs409821 (by decide) (by decide) (by decide) (Or.inr (rFs_e x409817 hf409722))
                        have kp409823 : F409819 q399049 = F409794 q399049 := x409816 q399049 (rT0 ht409720 (by decide)) (rT2 ht409720 (by decide))
                        have mk409824 : mKp (F399048 q399049) (F409819 q399049) := mKp_tr mk409799 (mKp_eq (x409816 q399049 (rT0 ht409720 (by decide)) (rT2 ht409720 (by decide))))
                        have he409825 : F409819 q399049 = .inr (22, [.ref (gm_F409693 9 0), .ref (gm_F409693 9 1), .ref (gm_F409693 9 2), .ref (gm_F409693 9 3), .ref (gm_F409693 9 4), .ref (gm_F409693 9 5), .ref (gm_F409693 9 6), .ref (gm_F409693 9 7), .ref (gm_F409693 9 8), .int p409740, .int p409741, .int p409742, .int p409743, .int z409793, .int p409745, .ref (gm_F409693 9 15), .ref (gm_F409693 9 16), .ref (gm_F409693 9 17), .ref (gm_F409693 9 18), .ref (gm_F409693 9 19), .ref (gm_F409693 9 20), .ref (gm_F409693 9 21), .ref (gm_F409693 9 22), .int p409746, .int p409747, .int p409748, .int p409749, .int p409750, .ref q409738, .ref (gm_F409693 9 29), .int p409751, .ref (gm_F409693 9 31), .int p409752, .int p409753, .int p409754, .ref q409739]) := (x409816 q399049 (rT0 ht409720 (by decide)) (rT2 ht409720 (by decide))).trans he409798
                        change G _ _ _ _ _ _ _ _ _ _ _
                        refine G_widen (cs' := ((rPh gm_F409693 el_F409693 f - rPh γ0 el0 f) / 18)) (sl' := (rPh gm_F409693 el_F409693 f - rPh γ0 el0 f)) (rm_d0 hdc) (rm_d0 hds) ?_
                        have dn409826 : ∀ N : Nat → Prop, rPl γ0 el0 F399048 q399050 (γ0 6 f) (fun _ _ => rNx N) → rPl gm_F409693 el_F409693 F409819 q399050 (gm_F409693 6 f) (fun _ _ => rNx N) := fun N hN => by have z := x409815 N ((show z409686.toInt = p409498.toInt ∨ z409686.toInt = p409499.toInt by omega).elim (fun e => by rw [e]; exact (nm409713 N hN).1) (fun e => by rw [e]; exact (nm409713 N hN).2)) (by omega); rw [hf409722] at z; exact z (dn409803 N hN)
                        have ac409827 : (fI (F409819 q399049) 11).toInt = p409742.toInt := by rw [he409825]; rfl
                        have ac409828 : (fI (F409819 q399049) 14).toInt = p409745.toInt := by rw [he409825]; rfl
                        refine G_iconst 1 dr_cX17_merge_164 (by decide +kernel) ?_
                        exact G_zretA FieldType.boolean dr_cX17_merge_165 rfl rfl (show ((rPh gm_F409693 el_F409693 f - rPh γ0 el0 f) / 18) ≤ (((387 * B + 6000) - rPh γ0 el0 f) / 18) by omega) (show (rPh gm_F409693 el_F409693 f - rPh γ0 el0 f) ≤ ((387 * B + 6000) - rPh γ0 el0 f) by omega) ⟨P399047, F409819, gm_F409693, el_F409693, 1, rfl, rfl, hs409822, ⟨by omega, by omega⟩, hB409789, (gB_w (gBl (show Int32.toInt 1 = 1 by decide)) (by decide) (by decide)), (by have qa0 : Int32.toInt 1 = 1 := (by decide); omega), (by have qa0 : Int32.toInt 1 = 1 := (by decide); omega), (by have qa0 : Int32.toInt 1 = 1 := (by decide); omega), (by have qa0 : Int32.toInt 1 = 1 := (by decide); omega), (Or.inr (by rw [show gm_F409693 6 f = γ0 6 f by omega]; exact Nat.le_of_eq sm409710)), dn409826, (by have qa0 : Int32.toInt 1 = 1 := (by decide); omega), (by have qa0 : Int32.toInt 1 = 1 := (by decide); omega), (fun h => absurd h (by decide)), mk409824, (fun R c1 c2 c3 => c3 gm_0 el_0 q409483 g409447 q409060 p409498 p409499 z409686 z409687 q409070 F409693 gm_F409693 el_F409693 p409744 z409793 F409794 F409819 hγ0 hel0 hx409683 fq409684 fq409685 ez409686 ez409687 fq409688 hq409699 fq409792 hz409793 n409796 fq409800 r409808 hT409820 hs409821 x409815 x409816 x409817 ht409818)⟩
                    · have r409829 : o409677.toInt = 0 := gj_eq hc409680 (show Int32.toInt 0 = 0 by decide)
                      have bo409677' : gB o409677 0 0 := ⟨by omega, by omega⟩
                      refine G_goto 166 dr_cX17_merge_95 (by decide +kernel) ?_
                      obtain ⟨z409830, hz409830⟩ : ∃ z : Int32, z = g409447 + Int32.ofInt 1 := ⟨_, rfl⟩
                      have ez409830 : z409830.toInt = g409447.toInt + 1 := gI_inc hz409830 (by decide) bg409447' (by decide) (by decide)
                      have bz409830 : gB z409830 1 1000000 := ⟨by omega, by omega⟩
                      refine G_iinc (L' := [(5, .int z409830), (6, .ref q409483), (4, .ref q409060), (3, .int g408998), (0, .ref q399049), (1, .ref q399050), (2, .int p399051)]) z409830 1 dr_cX17_merge_166 rfl hz409830.symm (Nat.le_of_ble_eq_true rfl) rfl ?_
                      refine G_goto 20 dr_cX17_merge_169 (by decide +kernel) ?_
                      refine G_lv (L' := [(5, .int z409830), (4, .ref q409060), (3, .int g408998), (0, .ref q399049), (1, .ref q399050), (2, .int p399051)]) [0, 2, 3, 4, 5, 6] rfl ?_
                      exact ih20_409447 z409830 (gB_w bz409830 (by decide) (by decide)) (fun k e1 e2 ht => kt20_409448 k e1 e2 (fun R c1 c2 c3 c4 c5 c6 => c6 g409447 q409070 p409453 q409483 p409497 p409502 p409498 p409499 o409677 z409830 k e1 e2 bg409447 fq409449 fq409460 fq409461 r409471 hx409484 ht409494 fq409510 r409514 fq409515 r409519 fq409520 fq409521 r409671 bo409677 x409678 ht409679 r409829 ez409830 (ht R c1 c2 c3 c4 c5 c6))) (by omega)
        exact hlp20_409447 (((1000001 : Int) - 0).toNat + 1) 0 (gB_w (gBl (show Int32.toInt 0 = 0 by decide)) (by decide) (by decide)) (fun k e1 e2 ht => ht) (Nat.lt_succ_self _)
  exact hlp2_408998 (((1000001 : Int) - 0).toNat + 1) 0 (gB_w (gBl (show Int32.toInt 0 = 0 by decide)) (by decide) (by decide)) (fun k e1 e2 e3 ht => ht) (Nat.lt_succ_self _)
/- tr_RModel_load: result, P, F, gm, el -/
def tr_RModel_load (D : va_G) (I : FieldType → ClassId) (γ0 el0 : Nat → Nat → Nat) (f : Nat) (P : List Nat) (F : Nat → va_E) (q0 : Nat) (q1 : Nat) (q2 : Nat) (a3 : Int32) (a4 : Int32) (o1 : Int32) (o2 : List Nat) (o3 : Nat → va_E) (o4 : Nat → Nat → Nat) (o5 : Nat → Nat → Nat) : Prop := ∀ R : (Int32) → (List Nat) → (Nat → va_E) → (Nat → Nat → Nat) → (Nat → Nat → Nat) → Prop,
  (∀ (x1 : Nat → Nat → Nat) (x2 : Nat → Nat → Nat) (x3 : Int32) (x4 : List Nat) (x5 : Nat → va_E) (x6 : Nat → Nat → Nat) (x7 : Nat → Nat → Nat) (x8 : Nat) (x9 : Nat) (x10 : Nat) (x11 : Nat → va_E) (x12 : Int32) (x13 : Nat → va_E) (x14 : Nat → va_E) (x15 : Nat) (x16 : List Nat) (x17 : Nat → va_E) (x18 : Nat → Nat → Nat) (x19 : Nat → Nat → Nat) (x20 : Nat) (x21 : Nat) (x22 : Int32) (x23 : Int32) (x24 : Nat → va_E), x1 = γ0 → x2 = el0 → fI (F q0) 14 = x3 → x3.toInt ≠ 2000 → rRq D I P F x1 x2 f q1 x4 x5 x6 x7 x8 x9 x10 → (∀ b, b ≠ x8 → x11 b = x5 b) → x11 x8 = cF (x5 x8) 0 (.int 21) → fI (x11 q0) 14 = x12 → (∀ b, b ≠ x8 → x13 b = x11 b) → x13 x8 = cF (x11 x8) 1 (.int x12) → (∀ b, b ≠ x8 → x14 b = x13 b) → x14 x8 = cF (x13 x8) 4 (.int a4) → fR (x14 q2) 0 = x15 → rIq D I x4 x14 x6 x7 f x15 a3.toInt.toNat x8 x16 x17 x18 x19 x20 x21 → fI (x17 q0) 14 = x22 → x23.toInt = x22.toInt + 1 → (∀ b, b ≠ q0 → x24 b = x17 b) → x24 q0 = cF (x17 q0) 14 (.int x23) → fI (x24 x8) 1 = x12 → R x12 x16 x24 x18 x19) →
  (∀ (x1 : Nat → Nat → Nat) (x2 : Nat → Nat → Nat) (x3 : Int32), x1 = γ0 → x2 = el0 → fI (F q0) 14 = x3 → x3.toInt = 2000 → R (-1 : Int32) P F x1 x2) →
  R o1 o2 o3 o4 o5
