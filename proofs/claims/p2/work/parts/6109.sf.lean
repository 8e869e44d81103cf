abbrev ky_13631_Signs_opOf : gKey := (cX9_opOf, 3, yX9_opOf.cls, (some FieldType.int), [], yX9_opOf.name, fun _ _ => True)
abbrev po_13631_Signs_opOf (I : FieldType → ClassId) (p13629 : Int32) (p13630 : Int32) : Option Value → va_W → Prop := fun r w => ∃ (o13747 : Int32), r = some (.int o13747) ∧ w = [] ∧ gB o13747 (-1) 13
set_option maxRecDepth 100000 in
set_option maxHeartbeats 4000000 in
theorem ct_13631_Signs_opOf (l : Launch) (hl0 : l.stackTraces = false) (D : va_G) (I : FieldType → ClassId) (p13629 : Int32) (p13630 : Int32)  : Ct (gV D I) l yX9_opOf cX9_opOf 3 (some FieldType.int) 4 85 0 0 [.int p13629, .int p13630] [] (po_13631_Signs_opOf I p13629 p13630) gN := by
  refine Ct_of hl0 (by decide) (Nat.le_of_ble_eq_true rfl) ?_
  have bp13629 := gB_any p13629
  have bp13630 := gB_any p13630
  refine G_iconst 0 d_cX9_opOf_0 (by decide +kernel) ?_
  refine G_istore_n (L' := [(2, .int 0), (0, .int p13629), (1, .int p13630)]) d_cX9_opOf_1 (Nat.le_of_ble_eq_true rfl) rfl ?_
  have hlp2_13728 : ∀ (n2_13728 : Nat) (g13728 : Int32), gB g13728 0 14 → ((15 : Int) - g13728.toInt).toNat < n2_13728 → G (gV D I) l (gRm 4 85 0 0) (gM (gV D I) (po_13631_Signs_opOf I p13629 p13630) gN 0 0) ky_13631_Signs_opOf 2 [(2, .int g13728), (0, .int p13629), (1, .int p13630)] [] [] 0 0 := by
    intro n2_13728
    induction n2_13728 with
    | zero => intro g13728 bg13728 hm2_13728; exact absurd hm2_13728 (Nat.not_lt_zero _)
    | succ n2_13728 ih2_13728 =>
      intro g13728 bg13728 hm2_13728
      refine G_iload_n 0 d_cX9_opOf_2 rfl ?_
      refine G_bipush 14 d_cX9_opOf_3 (by decide +kernel) ?_
      refine G_icmp_ge 42 d_cX9_opOf_5 (by decide +kernel) (fun hc13729 => ?_) (fun hc13729 => ?_)
      · have r13730 : 14 ≤ g13728.toInt := gj_leL hc13729 (show Int32.toInt 14 = 14 by decide)
        have bg13728' : gB g13728 14 14 := ⟨by omega, by omega⟩
        refine G_iconst (-1) d_cX9_opOf_42 (by decide +kernel) ?_
        exact G_iret d_cX9_opOf_43 rfl (Nat.le_of_ble_eq_true rfl) (Nat.le_of_ble_eq_true rfl) ⟨(-1), rfl, rfl, (gB_w (gBl (show Int32.toInt (-1) = (-1) by decide)) (by decide) (by decide))⟩
      · have r13731 : g13728.toInt < 14 := gj_nleL hc13729 (show Int32.toInt 14 = 14 by decide)
        have bg13728' : gB g13728 0 13 := ⟨by omega, by omega⟩
        refine G_ldcK (a := D.2 1000 5) d_cX9_opOf_8 (fun _ _ _ h => gx_vk 5 rfl rfl h) ?_
        have hl5_13731 : (sb_5.length : Int) = 28 := rfl
        refine G_iconst 2 d_cX9_opOf_10 (by decide +kernel) ?_
        refine G_iload_n 0 d_cX9_opOf_11 rfl ?_
        refine G_imul d_cX9_opOf_12 (G_nam fun z13733 hz13733 => ?_)
        have ez13733 : z13733.toInt = 2 * g13728.toInt := by rw [gI_mul hz13733 (gBl (show Int32.toInt 2 = 2 by decide)) bg13728' (by decide) (by decide) (by decide), show Int32.toInt 2 = 2 from by decide]
        have bz13733 : gB z13733 0 26 := gB_mul hz13733 (gBl (show Int32.toInt 2 = 2 by decide)) bg13728' (by decide) (by decide) (by decide) (by decide)
        refine G_callVk (As := [.int z13733]) (wr := []) (gV_ok D I) (ct_12994_String_charAt l hl0 D I (D.2 1000 5) (D.2 1001 5) sb_5 z13733 (gx_sc 5 rfl rfl) (by omega) (by omega) (by omega)) d_cX9_opOf_13 ⟨w_3_67, w_1_21, w_3_70, by decide, rfl, (Nat.le_of_ble_eq_true rfl), (Nat.le_of_ble_eq_true rfl)⟩ w_3_68 w_3_69 (fun _ _ _ h => ((gx_sc 5 rfl rfl) _ _ _ h).1) [] [] rfl rfl rfl rfl (by decide) (Nat.le_of_ble_eq_true rfl) (Nat.le_of_ble_eq_true rfl) (Nat.le_of_ble_eq_true rfl) (fun r w hp => ?_) (fun _ _ _ z => z.elim)
        obtain ⟨o13734, rfl, rfl, bo13734⟩ := hp
        change G _ _ _ _ _ _ _ (.int o13734 :: _) _ _ _
        refine G_ws (ws' := []) (cs' := 0) (sl' := 0) rfl rfl rfl ?_
        refine G_iload_n 1 d_cX9_opOf_16 rfl ?_
        refine G_icmp_ne 36 d_cX9_opOf_17 (by decide +kernel) (fun hc13735 => ?_) (fun hc13735 => ?_)
        · have r13736 : o13734.toInt ≠ p13629.toInt := gC_ne hc13735
          obtain ⟨z13737, hz13737⟩ : ∃ z : Int32, z = g13728 + Int32.ofInt 1 := ⟨_, rfl⟩
          have ez13737 : z13737.toInt = g13728.toInt + 1 := gI_inc hz13737 (by decide) bg13728' (by decide) (by decide)
          have bz13737 : gB z13737 1 14 := ⟨by omega, by omega⟩
          refine G_iinc (L' := [(2, .int z13737), (0, .int p13629), (1, .int p13630)]) z13737 0 d_cX9_opOf_36 rfl hz13737.symm (Nat.le_of_ble_eq_true rfl) rfl ?_
          refine G_goto 2 d_cX9_opOf_39 (by decide +kernel) ?_
          exact ih2_13728 z13737 (gB_w bz13737 (by decide) (by decide)) (by omega)
        · have r13738 : o13734.toInt = p13629.toInt := gC_eq hc13735
          have bp13629' : gB p13629 0 65535 := ⟨by omega, by omega⟩
          refine G_ldcK (a := D.2 1000 5) d_cX9_opOf_20 (fun _ _ _ h => gx_vk 5 rfl rfl h) ?_
          have hl5_13738 : (sb_5.length : Int) = 28 := rfl
          refine G_iconst 2 d_cX9_opOf_22 (by decide +kernel) ?_
          refine G_iload_n 0 d_cX9_opOf_23 rfl ?_
          refine G_imul d_cX9_opOf_24 (G_nam fun z13740 hz13740 => ?_)
          have ez13740 : z13740.toInt = 2 * g13728.toInt := by rw [gI_mul hz13740 (gBl (show Int32.toInt 2 = 2 by decide)) bg13728' (by decide) (by decide) (by decide), show Int32.toInt 2 = 2 from by decide]
          have bz13740 : gB z13740 0 26 := gB_mul hz13740 (gBl (show Int32.toInt 2 = 2 by decide)) bg13728' (by decide) (by decide) (by decide) (by decide)
          refine G_iconst 1 d_cX9_opOf_25 (by decide +kernel) ?_
          refine G_iadd d_cX9_opOf_26 (G_nam fun z13741 hz13741 => ?_)
          have ez13741 : z13741.toInt = z13740.toInt + 1 := by rw [gI_add hz13741 bz13740 (gBl (show Int32.toInt 1 = 1 by decide)) (by decide) (by decide), show Int32.toInt 1 = 1 from by decide]
          have bz13741 : gB z13741 1 27 := gB_add (gI_add hz13741 bz13740 (gBl (show Int32.toInt 1 = 1 by decide)) (by decide) (by decide)) bz13740 (gBl (show Int32.toInt 1 = 1 by decide)) (by decide) (by decide)
          refine G_callVk (As := [.int z13741]) (wr := []) (gV_ok D I) (ct_12994_String_charAt l hl0 D I (D.2 1000 5) (D.2 1001 5) sb_5 z13741 (gx_sc 5 rfl rfl) (by omega) (by omega) (by omega)) d_cX9_opOf_27 ⟨w_3_67, w_1_21, w_3_70, by decide, rfl, (Nat.le_of_ble_eq_true rfl), (Nat.le_of_ble_eq_true rfl)⟩ w_3_68 w_3_69 (fun _ _ _ h => ((gx_sc 5 rfl rfl) _ _ _ h).1) [] [] rfl rfl rfl rfl (by decide) (Nat.le_of_ble_eq_true rfl) (Nat.le_of_ble_eq_true rfl) (Nat.le_of_ble_eq_true rfl) (fun r w hp => ?_) (fun _ _ _ z => z.elim)
          obtain ⟨o13742, rfl, rfl, bo13742⟩ := hp
          change G _ _ _ _ _ _ _ (.int o13742 :: _) _ _ _
          refine G_ws (ws' := []) (cs' := 0) (sl' := 0) rfl rfl rfl ?_
          refine G_iload_n 2 d_cX9_opOf_30 rfl ?_
          refine G_icmp_ne 36 d_cX9_opOf_31 (by decide +kernel) (fun hc13743 => ?_) (fun hc13743 => ?_)
          · have r13744 : o13742.toInt ≠ p13630.toInt := gC_ne hc13743
            obtain ⟨z13745, hz13745⟩ : ∃ z : Int32, z = g13728 + Int32.ofInt 1 := ⟨_, rfl⟩
            have ez13745 : z13745.toInt = g13728.toInt + 1 := gI_inc hz13745 (by decide) bg13728' (by decide) (by decide)
            have bz13745 : gB z13745 1 14 := ⟨by omega, by omega⟩
            refine G_iinc (L' := [(2, .int z13745), (0, .int p13629), (1, .int p13630)]) z13745 0 d_cX9_opOf_36 rfl hz13745.symm (Nat.le_of_ble_eq_true rfl) rfl ?_
            refine G_goto 2 d_cX9_opOf_39 (by decide +kernel) ?_
            exact ih2_13728 z13745 (gB_w bz13745 (by decide) (by decide)) (by omega)
          · have r13746 : o13742.toInt = p13630.toInt := gC_eq hc13743
            have bp13630' : gB p13630 0 65535 := ⟨by omega, by omega⟩
            refine G_iload_n 0 d_cX9_opOf_34 rfl ?_
            exact G_iret d_cX9_opOf_35 rfl (Nat.le_of_ble_eq_true rfl) (Nat.le_of_ble_eq_true rfl) ⟨g13728, rfl, rfl, (gB_w bg13728' (by decide) (by decide))⟩
  exact hlp2_13728 (((15 : Int) - 0).toNat + 1) 0 (gB_w (gBl (show Int32.toInt 0 = 0 by decide)) (by decide) (by decide)) (Nat.lt_succ_self _)
abbrev ky_13760_Signs_takeMark : gKey := (cX9_takeMark, 4, yX9_takeMark.cls, none, [], yX9_takeMark.name, fun _ _ => True)
abbrev po_13760_Signs_takeMark (I : FieldType → ClassId) (q13748 : Nat) (q13749 : Nat) (q13750 : Nat) (p13751 : Int32) (p13752 : Int32) (p13753 : Int32) (p13754 : Int32) (p13755 : Int32) (p13756 : Int32) (p13757 : Int32) (f13758 : Nat → Int32) : Option Value → va_W → Prop := fun r w => ∃ (o13791 : Int32) (o13792 : Int32) (o13793 : Int32), r = none ∧ w = [(q13748, .inr (14, [.ref q13749, .int o13791, .int o13792, .int p13755, .int o13793])), (q13749, .inr (15, [.ref q13750, .int p13757])), (q13750, .inl (I .byte, 8192, .inl f13758))] ∧ gB o13791 0 7 ∧ gB o13792 (-1) 13 ∧ gB o13793 (-2147483648) 2147483647 ∧ (o13791.toInt ≠ 5 ∨ (0 ≤ o13792.toInt ∧ o13792.toInt ≤ 13))
set_option maxRecDepth 100000 in
set_option maxHeartbeats 4000000 in
theorem ct_13760_Signs_takeMark (l : Launch) (hl0 : l.stackTraces = false) (D : va_G) (I : FieldType → ClassId) (q13748 : Nat) (q13749 : Nat) (q13750 : Nat) (p13751 : Int32) (p13752 : Int32) (p13753 : Int32) (p13754 : Int32) (p13755 : Int32) (p13756 : Int32) (p13757 : Int32) (f13758 : Nat → Int32) (bp13757 : gB p13757 0 8192) (bf13758 : gF f13758 (-128) 127) (x13759 : (p13753.toInt ≠ 5 ∨ (0 ≤ p13754.toInt ∧ p13754.toInt ≤ 13))) : Ct (gV D I) l yX9_takeMark cX9_takeMark 4 none 5 107 0 0 [.ref q13748, .int p13751, .int p13752] [(q13748, .inr (14, [.ref q13749, .int p13753, .int p13754, .int p13755, .int p13756])), (q13749, .inr (15, [.ref q13750, .int p13757])), (q13750, .inl (I .byte, 8192, .inl f13758))] (po_13760_Signs_takeMark I q13748 q13749 q13750 p13751 p13752 p13753 p13754 p13755 p13756 p13757 f13758) gN := by
  refine Ct_of hl0 (by decide) (Nat.le_of_ble_eq_true rfl) ?_
  have bp13751 := gB_any p13751
  have bp13752 := gB_any p13752
  have bp13753 := gB_any p13753
  have bp13754 := gB_any p13754
  have bp13755 := gB_any p13755
  have bp13756 := gB_any p13756
  refine G_iload_n 1 d_cX9_takeMark_0 rfl ?_
  refine G_iload_n 2 d_cX9_takeMark_1 rfl ?_
  refine G_callS (As := [.int p13751, .int p13752]) (wr := [(q13748, .inr (14, [.ref q13749, .int p13753, .int p13754, .int p13755, .int p13756])), (q13749, .inr (15, [.ref q13750, .int p13757])), (q13750, .inl (I .byte, 8192, .inl f13758))]) (gV_ok D I) (ct_13631_Signs_opOf l hl0 D I p13751 p13752 ) d_cX9_takeMark_2 ⟨w_3_113, w_1_4, w_3_115, by decide, rfl, (Nat.le_of_ble_eq_true rfl), (Nat.le_of_ble_eq_true rfl)⟩ w_3_114 [] [0, 1, 2] rfl rfl rfl rfl (by decide) (Nat.le_of_ble_eq_true rfl) (Nat.le_of_ble_eq_true rfl) (Nat.le_of_ble_eq_true rfl) (fun r w hp => ?_) (fun _ _ _ z => z.elim)
  obtain ⟨o13761, rfl, rfl, bo13761⟩ := hp
  change G _ _ _ _ _ _ _ (.int o13761 :: _) _ _ _
  refine G_ws (ws' := [(q13748, .inr (14, [.ref q13749, .int p13753, .int p13754, .int p13755, .int p13756])), (q13749, .inr (15, [.ref q13750, .int p13757])), (q13750, .inl (I .byte, 8192, .inl f13758))]) (cs' := 0) (sl' := 0) rfl rfl rfl ?_
  refine G_istore_n (L' := [(3, .int o13761), (0, .ref q13748), (1, .int p13751), (2, .int p13752)]) d_cX9_takeMark_5 (Nat.le_of_ble_eq_true rfl) rfl ?_
  refine G_aload_n 1 d_cX9_takeMark_6 rfl ?_
  refine G_aload_n 1 d_cX9_takeMark_7 rfl ?_
  refine G_getf 0 3 d_cX9_takeMark_8 rfl (gk_X9 D I) (Nat.le_of_ble_eq_true rfl) w_1_82 rfl ?_
  refine G_iconst 2 d_cX9_takeMark_11 (by decide +kernel) ?_
  refine G_iadd d_cX9_takeMark_12 (G_nam fun z13762 hz13762 => ?_)
  have bz13762 : gB z13762 (-2147483648) 2147483647 := gB_any z13762
  refine G_putf (ws' := [(q13748, .inr (14, [.ref q13749, .int p13753, .int p13754, .int p13755, .int z13762])), (q13749, .inr (15, [.ref q13750, .int p13757])), (q13750, .inl (I .byte, 8192, .inl f13758))]) 0 4 d_cX9_takeMark_13 rfl (gk_X9 D I) (Nat.le_of_ble_eq_true rfl) w_1_83 rfl rfl rfl (Nat.le_of_ble_eq_true rfl) rfl ?_
  refine G_iload_n 0 d_cX9_takeMark_16 rfl ?_
  refine G_iconst (-1) d_cX9_takeMark_17 (by decide +kernel) ?_
  refine G_icmp_eq 27 d_cX9_takeMark_18 (by decide +kernel) (fun hc13763 => ?_) (fun hc13763 => ?_)
  · have r13764 : o13761.toInt = (-1) := gj_eq hc13763 (show Int32.toInt (-1) = (-1) by decide)
    have bo13761' : gB o13761 (-1) (-1) := ⟨by omega, by omega⟩
    refine G_iload_n 2 d_cX9_takeMark_27 rfl ?_
    refine G_bipush 32 d_cX9_takeMark_28 (by decide +kernel) ?_
    refine G_callS (As := [.int p13751, .int 32]) (wr := [(q13748, .inr (14, [.ref q13749, .int p13753, .int p13754, .int p13755, .int z13762])), (q13749, .inr (15, [.ref q13750, .int p13757])), (q13750, .inl (I .byte, 8192, .inl f13758))]) (gV_ok D I) (ct_13631_Signs_opOf l hl0 D I p13751 32 ) d_cX9_takeMark_30 ⟨w_3_113, w_1_4, w_3_115, by decide, rfl, (Nat.le_of_ble_eq_true rfl), (Nat.le_of_ble_eq_true rfl)⟩ w_3_114 [] [0, 1, 2] rfl rfl rfl rfl (by decide) (Nat.le_of_ble_eq_true rfl) (Nat.le_of_ble_eq_true rfl) (Nat.le_of_ble_eq_true rfl) (fun r w hp => ?_) (fun _ _ _ z => z.elim)
    obtain ⟨o13765, rfl, rfl, bo13765⟩ := hp
    change G _ _ _ _ _ _ _ (.int o13765 :: _) _ _ _
    refine G_ws (ws' := [(q13748, .inr (14, [.ref q13749, .int p13753, .int p13754, .int p13755, .int z13762])), (q13749, .inr (15, [.ref q13750, .int p13757])), (q13750, .inl (I .byte, 8192, .inl f13758))]) (cs' := 0) (sl' := 0) rfl rfl rfl ?_
    refine G_istore_n (L' := [(3, .int o13765), (0, .ref q13748), (1, .int p13751), (2, .int p13752)]) d_cX9_takeMark_33 (Nat.le_of_ble_eq_true rfl) rfl ?_
    refine G_aload_n 1 d_cX9_takeMark_34 rfl ?_
    refine G_aload_n 1 d_cX9_takeMark_35 rfl ?_
    refine G_getf 0 3 d_cX9_takeMark_36 rfl (gk_X9 D I) (Nat.le_of_ble_eq_true rfl) w_1_82 rfl ?_
    refine G_iconst 1 d_cX9_takeMark_39 (by decide +kernel) ?_
    refine G_iadd d_cX9_takeMark_40 (G_nam fun z13766 hz13766 => ?_)
    have bz13766 : gB z13766 (-2147483648) 2147483647 := gB_any z13766
    refine G_putf (ws' := [(q13748, .inr (14, [.ref q13749, .int p13753, .int p13754, .int p13755, .int z13766])), (q13749, .inr (15, [.ref q13750, .int p13757])), (q13750, .inl (I .byte, 8192, .inl f13758))]) 0 4 d_cX9_takeMark_41 rfl (gk_X9 D I) (Nat.le_of_ble_eq_true rfl) w_1_83 rfl rfl rfl (Nat.le_of_ble_eq_true rfl) rfl ?_
    refine G_aload_n 1 d_cX9_takeMark_44 rfl ?_
    refine G_iload_n 0 d_cX9_takeMark_45 rfl ?_
    refine G_putf (ws' := [(q13748, .inr (14, [.ref q13749, .int p13753, .int o13765, .int p13755, .int z13766])), (q13749, .inr (15, [.ref q13750, .int p13757])), (q13750, .inl (I .byte, 8192, .inl f13758))]) 0 2 d_cX9_takeMark_46 rfl (gk_X9 D I) (Nat.le_of_ble_eq_true rfl) w_1_81 rfl rfl rfl (Nat.le_of_ble_eq_true rfl) rfl ?_
    refine G_aload_n 1 d_cX9_takeMark_49 rfl ?_
    refine G_iload_n 0 d_cX9_takeMark_50 rfl ?_
    refine G_iconst (-1) d_cX9_takeMark_51 (by decide +kernel) ?_
    refine G_icmp_eq 59 d_cX9_takeMark_52 (by decide +kernel) (fun hc13767 => ?_) (fun hc13767 => ?_)
    · have r13768 : o13765.toInt = (-1) := gj_eq hc13767 (show Int32.toInt (-1) = (-1) by decide)
      have bo13765' : gB o13765 (-1) (-1) := ⟨by omega, by omega⟩
      refine G_iload_n 2 d_cX9_takeMark_59 rfl ?_
      refine G_bipush 58 d_cX9_takeMark_60 (by decide +kernel) ?_
      refine G_icmp_ne 70 d_cX9_takeMark_62 (by decide +kernel) (fun hc13769 => ?_) (fun hc13769 => ?_)
      · have r13770 : p13751.toInt ≠ 58 := gj_neq hc13769 (show Int32.toInt 58 = 58 by decide)
        refine G_iload_n 2 d_cX9_takeMark_70 rfl ?_
        refine G_bipush 61 d_cX9_takeMark_71 (by decide +kernel) ?_
        refine G_icmp_ne 81 d_cX9_takeMark_73 (by decide +kernel) (fun hc13771 => ?_) (fun hc13771 => ?_)
        · have r13772 : p13751.toInt ≠ 61 := gj_neq hc13771 (show Int32.toInt 61 = 61 by decide)
          refine G_iconst 0 d_cX9_takeMark_81 (by decide +kernel) ?_
          refine G_putf (ws' := [(q13748, .inr (14, [.ref q13749, .int 0, .int o13765, .int p13755, .int z13766])), (q13749, .inr (15, [.ref q13750, .int p13757])), (q13750, .inl (I .byte, 8192, .inl f13758))]) 0 1 d_cX9_takeMark_82 rfl (gk_X9 D I) (Nat.le_of_ble_eq_true rfl) w_1_80 rfl rfl rfl (Nat.le_of_ble_eq_true rfl) rfl ?_
          exact G_vret d_cX9_takeMark_85 rfl (Nat.le_of_ble_eq_true rfl) (Nat.le_of_ble_eq_true rfl) ⟨0, o13765, z13766, rfl, rfl, (gB_w (gBl (show Int32.toInt 0 = 0 by decide)) (by decide) (by decide)), (gB_w bo13765' (by decide) (by decide)), bz13766, (by have qa0 : Int32.toInt 0 = 0 := (by decide); omega)⟩
        · have r13773 : p13751.toInt = 61 := gj_eq hc13771 (show Int32.toInt 61 = 61 by decide)
          have bp13751' : gB p13751 61 61 := ⟨by omega, by omega⟩
          refine G_bipush 7 d_cX9_takeMark_76 (by decide +kernel) ?_
          refine G_goto 82 d_cX9_takeMark_78 (by decide +kernel) ?_
          refine G_putf (ws' := [(q13748, .inr (14, [.ref q13749, .int 7, .int o13765, .int p13755, .int z13766])), (q13749, .inr (15, [.ref q13750, .int p13757])), (q13750, .inl (I .byte, 8192, .inl f13758))]) 0 1 d_cX9_takeMark_82 rfl (gk_X9 D I) (Nat.le_of_ble_eq_true rfl) w_1_80 rfl rfl rfl (Nat.le_of_ble_eq_true rfl) rfl ?_
          exact G_vret d_cX9_takeMark_85 rfl (Nat.le_of_ble_eq_true rfl) (Nat.le_of_ble_eq_true rfl) ⟨7, o13765, z13766, rfl, rfl, (gB_w (gBl (show Int32.toInt 7 = 7 by decide)) (by decide) (by decide)), (gB_w bo13765' (by decide) (by decide)), bz13766, (by have qa0 : Int32.toInt 7 = 7 := (by decide); omega)⟩
      · have r13774 : p13751.toInt = 58 := gj_eq hc13769 (show Int32.toInt 58 = 58 by decide)
        have bp13751' : gB p13751 58 58 := ⟨by omega, by omega⟩
        refine G_bipush 6 d_cX9_takeMark_65 (by decide +kernel) ?_
        refine G_goto 82 d_cX9_takeMark_67 (by decide +kernel) ?_
        refine G_putf (ws' := [(q13748, .inr (14, [.ref q13749, .int 6, .int o13765, .int p13755, .int z13766])), (q13749, .inr (15, [.ref q13750, .int p13757])), (q13750, .inl (I .byte, 8192, .inl f13758))]) 0 1 d_cX9_takeMark_82 rfl (gk_X9 D I) (Nat.le_of_ble_eq_true rfl) w_1_80 rfl rfl rfl (Nat.le_of_ble_eq_true rfl) rfl ?_
        exact G_vret d_cX9_takeMark_85 rfl (Nat.le_of_ble_eq_true rfl) (Nat.le_of_ble_eq_true rfl) ⟨6, o13765, z13766, rfl, rfl, (gB_w (gBl (show Int32.toInt 6 = 6 by decide)) (by decide) (by decide)), (gB_w bo13765' (by decide) (by decide)), bz13766, (by have qa0 : Int32.toInt 6 = 6 := (by decide); omega)⟩
    · have r13775 : o13765.toInt ≠ (-1) := gj_neq hc13767 (show Int32.toInt (-1) = (-1) by decide)
      have bo13765' : gB o13765 0 13 := ⟨by omega, by omega⟩
      refine G_iconst 5 d_cX9_takeMark_55 (by decide +kernel) ?_
      refine G_goto 82 d_cX9_takeMark_56 (by decide +kernel) ?_
      refine G_putf (ws' := [(q13748, .inr (14, [.ref q13749, .int 5, .int o13765, .int p13755, .int z13766])), (q13749, .inr (15, [.ref q13750, .int p13757])), (q13750, .inl (I .byte, 8192, .inl f13758))]) 0 1 d_cX9_takeMark_82 rfl (gk_X9 D I) (Nat.le_of_ble_eq_true rfl) w_1_80 rfl rfl rfl (Nat.le_of_ble_eq_true rfl) rfl ?_
      exact G_vret d_cX9_takeMark_85 rfl (Nat.le_of_ble_eq_true rfl) (Nat.le_of_ble_eq_true rfl) ⟨5, o13765, z13766, rfl, rfl, (gB_w (gBl (show Int32.toInt 5 = 5 by decide)) (by decide) (by decide)), (gB_w bo13765' (by decide) (by decide)), bz13766, (by have qa0 : Int32.toInt 5 = 5 := (by decide); omega)⟩
  · have r13776 : o13761.toInt ≠ (-1) := gj_neq hc13763 (show Int32.toInt (-1) = (-1) by decide)
    have bo13761' : gB o13761 0 13 := ⟨by omega, by omega⟩
    refine G_iload_n 3 d_cX9_takeMark_21 rfl ?_
    refine G_bipush 32 d_cX9_takeMark_22 (by decide +kernel) ?_
    refine G_icmp_ne 44 d_cX9_takeMark_24 (by decide +kernel) (fun hc13777 => ?_) (fun hc13777 => ?_)
    · have r13778 : p13752.toInt ≠ 32 := gj_neq hc13777 (show Int32.toInt 32 = 32 by decide)
      refine G_aload_n 1 d_cX9_takeMark_44 rfl ?_
      refine G_iload_n 0 d_cX9_takeMark_45 rfl ?_
      refine G_putf (ws' := [(q13748, .inr (14, [.ref q13749, .int p13753, .int o13761, .int p13755, .int z13762])), (q13749, .inr (15, [.ref q13750, .int p13757])), (q13750, .inl (I .byte, 8192, .inl f13758))]) 0 2 d_cX9_takeMark_46 rfl (gk_X9 D I) (Nat.le_of_ble_eq_true rfl) w_1_81 rfl rfl rfl (Nat.le_of_ble_eq_true rfl) rfl ?_
      refine G_aload_n 1 d_cX9_takeMark_49 rfl ?_
      refine G_iload_n 0 d_cX9_takeMark_50 rfl ?_
      refine G_iconst (-1) d_cX9_takeMark_51 (by decide +kernel) ?_
      refine G_icmp_eq 59 d_cX9_takeMark_52 (by decide +kernel) (fun hc => absurd (show False by have := gj_eq hc (show Int32.toInt (-1) = (-1) by decide); omega) not_false) (fun _ => ?_)
      refine G_iconst 5 d_cX9_takeMark_55 (by decide +kernel) ?_
      refine G_goto 82 d_cX9_takeMark_56 (by decide +kernel) ?_
      refine G_putf (ws' := [(q13748, .inr (14, [.ref q13749, .int 5, .int o13761, .int p13755, .int z13762])), (q13749, .inr (15, [.ref q13750, .int p13757])), (q13750, .inl (I .byte, 8192, .inl f13758))]) 0 1 d_cX9_takeMark_82 rfl (gk_X9 D I) (Nat.le_of_ble_eq_true rfl) w_1_80 rfl rfl rfl (Nat.le_of_ble_eq_true rfl) rfl ?_
      exact G_vret d_cX9_takeMark_85 rfl (Nat.le_of_ble_eq_true rfl) (Nat.le_of_ble_eq_true rfl) ⟨5, o13761, z13762, rfl, rfl, (gB_w (gBl (show Int32.toInt 5 = 5 by decide)) (by decide) (by decide)), (gB_w bo13761' (by decide) (by decide)), bz13762, (by have qa0 : Int32.toInt 5 = 5 := (by decide); omega)⟩
    · have r13779 : p13752.toInt = 32 := gj_eq hc13777 (show Int32.toInt 32 = 32 by decide)
      have bp13752' : gB p13752 32 32 := ⟨by omega, by omega⟩
      refine G_iload_n 2 d_cX9_takeMark_27 rfl ?_
      refine G_bipush 32 d_cX9_takeMark_28 (by decide +kernel) ?_
      refine G_callS (As := [.int p13751, .int 32]) (wr := [(q13748, .inr (14, [.ref q13749, .int p13753, .int p13754, .int p13755, .int z13762])), (q13749, .inr (15, [.ref q13750, .int p13757])), (q13750, .inl (I .byte, 8192, .inl f13758))]) (gV_ok D I) (ct_13631_Signs_opOf l hl0 D I p13751 32 ) d_cX9_takeMark_30 ⟨w_3_113, w_1_4, w_3_115, by decide, rfl, (Nat.le_of_ble_eq_true rfl), (Nat.le_of_ble_eq_true rfl)⟩ w_3_114 [] [0, 1, 2] rfl rfl rfl rfl (by decide) (Nat.le_of_ble_eq_true rfl) (Nat.le_of_ble_eq_true rfl) (Nat.le_of_ble_eq_true rfl) (fun r w hp => ?_) (fun _ _ _ z => z.elim)
      obtain ⟨o13780, rfl, rfl, bo13780⟩ := hp
      change G _ _ _ _ _ _ _ (.int o13780 :: _) _ _ _
      refine G_ws (ws' := [(q13748, .inr (14, [.ref q13749, .int p13753, .int p13754, .int p13755, .int z13762])), (q13749, .inr (15, [.ref q13750, .int p13757])), (q13750, .inl (I .byte, 8192, .inl f13758))]) (cs' := 0) (sl' := 0) rfl rfl rfl ?_
      refine G_istore_n (L' := [(3, .int o13780), (0, .ref q13748), (1, .int p13751), (2, .int p13752)]) d_cX9_takeMark_33 (Nat.le_of_ble_eq_true rfl) rfl ?_
      refine G_aload_n 1 d_cX9_takeMark_34 rfl ?_
      refine G_aload_n 1 d_cX9_takeMark_35 rfl ?_
      refine G_getf 0 3 d_cX9_takeMark_36 rfl (gk_X9 D I) (Nat.le_of_ble_eq_true rfl) w_1_82 rfl ?_
      refine G_iconst 1 d_cX9_takeMark_39 (by decide +kernel) ?_
      refine G_iadd d_cX9_takeMark_40 (G_nam fun z13781 hz13781 => ?_)
      have bz13781 : gB z13781 (-2147483648) 2147483647 := gB_any z13781
      refine G_putf (ws' := [(q13748, .inr (14, [.ref q13749, .int p13753, .int p13754, .int p13755, .int z13781])), (q13749, .inr (15, [.ref q13750, .int p13757])), (q13750, .inl (I .byte, 8192, .inl f13758))]) 0 4 d_cX9_takeMark_41 rfl (gk_X9 D I) (Nat.le_of_ble_eq_true rfl) w_1_83 rfl rfl rfl (Nat.le_of_ble_eq_true rfl) rfl ?_
      refine G_aload_n 1 d_cX9_takeMark_44 rfl ?_
      refine G_iload_n 0 d_cX9_takeMark_45 rfl ?_
      refine G_putf (ws' := [(q13748, .inr (14, [.ref q13749, .int p13753, .int o13780, .int p13755, .int z13781])), (q13749, .inr (15, [.ref q13750, .int p13757])), (q13750, .inl (I .byte, 8192, .inl f13758))]) 0 2 d_cX9_takeMark_46 rfl (gk_X9 D I) (Nat.le_of_ble_eq_true rfl) w_1_81 rfl rfl rfl (Nat.le_of_ble_eq_true rfl) rfl ?_
      refine G_aload_n 1 d_cX9_takeMark_49 rfl ?_
      refine G_iload_n 0 d_cX9_takeMark_50 rfl ?_
      refine G_iconst (-1) d_cX9_takeMark_51 (by decide +kernel) ?_
      refine G_icmp_eq 59 d_cX9_takeMark_52 (by decide +kernel) (fun hc13782 => ?_) (fun hc13782 => ?_)
      · have r13783 : o13780.toInt = (-1) := gj_eq hc13782 (show Int32.toInt (-1) = (-1) by decide)
        have bo13780' : gB o13780 (-1) (-1) := ⟨by omega, by omega⟩
        refine G_iload_n 2 d_cX9_takeMark_59 rfl ?_
        refine G_bipush 58 d_cX9_takeMark_60 (by decide +kernel) ?_
        refine G_icmp_ne 70 d_cX9_takeMark_62 (by decide +kernel) (fun hc13784 => ?_) (fun hc13784 => ?_)
        · have r13785 : p13751.toInt ≠ 58 := gj_neq hc13784 (show Int32.toInt 58 = 58 by decide)
          refine G_iload_n 2 d_cX9_takeMark_70 rfl ?_
          refine G_bipush 61 d_cX9_takeMark_71 (by decide +kernel) ?_
          refine G_icmp_ne 81 d_cX9_takeMark_73 (by decide +kernel) (fun hc13786 => ?_) (fun hc13786 => ?_)
          · have r13787 : p13751.toInt ≠ 61 := gj_neq hc13786 (show Int32.toInt 61 = 61 by decide)
            refine G_iconst 0 d_cX9_takeMark_81 (by decide +kernel) ?_
            refine G_putf (ws' := [(q13748, .inr (14, [.ref q13749, .int 0, .int o13780, .int p13755, .int z13781])), (q13749, .inr (15, [.ref q13750, .int p13757])), (q13750, .inl (I .byte, 8192, .inl f13758))]) 0 1 d_cX9_takeMark_82 rfl (gk_X9 D I) (Nat.le_of_ble_eq_true rfl) w_1_80 rfl rfl rfl (Nat.le_of_ble_eq_true rfl) rfl ?_
            exact G_vret d_cX9_takeMark_85 rfl (Nat.le_of_ble_eq_true rfl) (Nat.le_of_ble_eq_true rfl) ⟨0, o13780, z13781, rfl, rfl, (gB_w (gBl (show Int32.toInt 0 = 0 by decide)) (by decide) (by decide)), (gB_w bo13780' (by decide) (by decide)), bz13781, (by have qa0 : Int32.toInt 0 = 0 := (by decide); omega)⟩
          · have r13788 : p13751.toInt = 61 := gj_eq hc13786 (show Int32.toInt 61 = 61 by decide)
            have bp13751' : gB p13751 61 61 := ⟨by omega, by omega⟩
            refine G_bipush 7 d_cX9_takeMark_76 (by decide +kernel) ?_
            refine G_goto 82 d_cX9_takeMark_78 (by decide +kernel) ?_
            refine G_putf (ws' := [(q13748, .inr (14, [.ref q13749, .int 7, .int o13780, .int p13755, .int z13781])), (q13749, .inr (15, [.ref q13750, .int p13757])), (q13750, .inl (I .byte, 8192, .inl f13758))]) 0 1 d_cX9_takeMark_82 rfl (gk_X9 D I) (Nat.le_of_ble_eq_true rfl) w_1_80 rfl rfl rfl (Nat.le_of_ble_eq_true rfl) rfl ?_
            exact G_vret d_cX9_takeMark_85 rfl (Nat.le_of_ble_eq_true rfl) (Nat.le_of_ble_eq_true rfl) ⟨7, o13780, z13781, rfl, rfl, (gB_w (gBl (show Int32.toInt 7 = 7 by decide)) (by decide) (by decide)), (gB_w bo13780' (by decide) (by decide)), bz13781, (by have qa0 : Int32.toInt 7 = 7 := (by decide); omega)⟩
        · have r13789 : p13751.toInt = 58 := gj_eq hc13784 (show Int32.toInt 58 = 58 by decide)
          have bp13751' : gB p13751 58 58 := ⟨by omega, by omega⟩
          refine G_bipush 6 d_cX9_takeMark_65 (by decide +kernel) ?_
          refine G_goto 82 d_cX9_takeMark_67 (by decide +kernel) ?_
          refine G_putf (ws' := [(q13748, .inr (14, [.ref q13749, .int 6, .int o13780, .int p13755, .int z13781])), (q13749, .inr (15, [.ref q13750, .int p13757])), (q13750, .inl (I .byte, 8192, .inl f13758))]) 0 1 d_cX9_takeMark_82 rfl (gk_X9 D I) (Nat.le_of_ble_eq_true rfl) w_1_80 rfl rfl rfl (Nat.le_of_ble_eq_true rfl) rfl ?_
          exact G_vret d_cX9_takeMark_85 rfl (Nat.le_of_ble_eq_true rfl) (Nat.le_of_ble_eq_true rfl) ⟨6, o13780, z13781, rfl, rfl, (gB_w (gBl (show Int32.toInt 6 = 6 by decide)) (by decide) (by decide)), (gB_w bo13780' (by decide) (by decide)), bz13781, (by have qa0 : Int32.toInt 6 = 6 := (by decide); omega)⟩
      · have r13790 : o13780.toInt ≠ (-1) := gj_neq hc13782 (show Int32.toInt (-1) = (-1) by decide)
        have bo13780' : gB o13780 0 13 := ⟨by omega, by omega⟩
        refine G_iconst 5 d_cX9_takeMark_55 (by decide +kernel) ?_
        refine G_goto 82 d_cX9_takeMark_56 (by decide +kernel) ?_
        refine G_putf (ws' := [(q13748, .inr (14, [.ref q13749, .int 5, .int o13780, .int p13755, .int z13781])), (q13749, .inr (15, [.ref q13750, .int p13757])), (q13750, .inl (I .byte, 8192, .inl f13758))]) 0 1 d_cX9_takeMark_82 rfl (gk_X9 D I) (Nat.le_of_ble_eq_true rfl) w_1_80 rfl rfl rfl (Nat.le_of_ble_eq_true rfl) rfl ?_
        exact G_vret d_cX9_takeMark_85 rfl (Nat.le_of_ble_eq_true rfl) (Nat.le_of_ble_eq_true rfl) ⟨5, o13780, z13781, rfl, rfl, (gB_w (gBl (show Int32.toInt 5 = 5 by decide)) (by decide) (by decide)), (gB_w bo13780' (by decide) (by decide)), bz13781, (by have qa0 : Int32.toInt 5 = 5 := (by decide); omega)⟩
abbrev ky_13804_Signs_advance : gKey := (cX9_advance, 4, yX9_advance.cls, none, [], yX9_advance.name, fun _ _ => True)
abbrev po_13804_Signs_advance (I : FieldType → ClassId) (q13794 : Nat) (q13795 : Nat) (q13796 : Nat) (p13797 : Int32) (p13798 : Int32) (p13799 : Int32) (p13800 : Int32) (p13801 : Int32) (f13802 : Nat → Int32) : Option Value → va_W → Prop := fun r w => ∃ (o14526 : Int32) (o14527 : Int32) (o14528 : Int32) (o14529 : Int32), r = none ∧ w = [(q13794, .inr (14, [.ref q13795, .int o14526, .int o14527, .int o14528, .int o14529])), (q13795, .inr (15, [.ref q13796, .int p13801])), (q13796, .inl (I .byte, 8192, .inl f13802))] ∧ gB o14526 0 12 ∧ gB o14527 (-2147483648) 2147483647 ∧ gB o14528 (-2147483648) 8192 ∧ gB o14529 (-2147483648) 2147483647 ∧ (o14526.toInt ≠ 5 ∨ (0 ≤ o14527.toInt ∧ o14527.toInt ≤ 13))
set_option maxRecDepth 100000 in
set_option maxHeartbeats 4000000 in
theorem ct_13804_Signs_advance (l : Launch) (hl0 : l.stackTraces = false) (D : va_G) (I : FieldType → ClassId) (q13794 : Nat) (q13795 : Nat) (q13796 : Nat) (p13797 : Int32) (p13798 : Int32) (p13799 : Int32) (p13800 : Int32) (p13801 : Int32) (f13802 : Nat → Int32) (bp13801 : gB p13801 0 8192) (bf13802 : gF f13802 (-128) 127) (x13803 : (p13797.toInt ≠ 5 ∨ (0 ≤ p13798.toInt ∧ p13798.toInt ≤ 13))) : Ct (gV D I) l yX9_advance cX9_advance 4 none 6 130 0 0 [.ref q13794] [(q13794, .inr (14, [.ref q13795, .int p13797, .int p13798, .int p13799, .int p13800])), (q13795, .inr (15, [.ref q13796, .int p13801])), (q13796, .inl (I .byte, 8192, .inl f13802))] (po_13804_Signs_advance I q13794 q13795 q13796 p13797 p13798 p13799 p13800 p13801 f13802) gN := by
  refine Ct_of hl0 (by decide) (Nat.le_of_ble_eq_true rfl) ?_
  have bp13797 := gB_any p13797
  have bp13798 := gB_any p13798
  have bp13799 := gB_any p13799
  have bp13800 := gB_any p13800
  refine G_aload_n 0 d_cX9_advance_0 rfl ?_
  refine G_getf 0 1 d_cX9_advance_1 rfl (gk_X9 D I) (Nat.le_of_ble_eq_true rfl) w_1_80 rfl ?_
  refine G_iconst 2 d_cX9_advance_4 (by decide +kernel) ?_
  refine G_icmp_eq 16 d_cX9_advance_5 (by decide +kernel) (fun hc13805 => ?_) (fun hc13805 => ?_)
  · have r13806 : p13797.toInt = 2 := gj_eq hc13805 (show Int32.toInt 2 = 2 by decide)
    have bp13797' : gB p13797 2 2 := ⟨by omega, by omega⟩
    refine G_iconst 1 d_cX9_advance_16 (by decide +kernel) ?_
    refine G_goto 21 d_cX9_advance_17 (by decide +kernel) ?_
    refine G_istore_n (L' := [(1, .int 1), (0, .ref q13794)]) d_cX9_advance_21 (Nat.le_of_ble_eq_true rfl) rfl ?_
    refine G_aload_n 1 d_cX9_advance_22 rfl ?_
    refine G_aload_n 1 d_cX9_advance_23 rfl ?_
    refine G_aload_n 1 d_cX9_advance_24 rfl ?_
    refine G_getf 0 4 d_cX9_advance_25 rfl (gk_X9 D I) (Nat.le_of_ble_eq_true rfl) w_1_83 rfl ?_
    refine G_callV (As := [.int p13800]) (wr := []) (gV_ok D I) (ct_326_Signs_skipBlanks l hl0 D I q13794 q13795 q13796 p13800 p13797 p13798 p13799 p13800 p13801 f13802 bp13801 bf13802 (by omega)) d_cX9_advance_28 ⟨w_3_12, w_1_4, w_3_15, by decide, rfl, (Nat.le_of_ble_eq_true rfl), (Nat.le_of_ble_eq_true rfl)⟩ w_3_14 w_p_0 0 rfl rfl [0, 1, 2] [] rfl rfl rfl rfl (by decide) (Nat.le_of_ble_eq_true rfl) (Nat.le_of_ble_eq_true rfl) (Nat.le_of_ble_eq_true rfl) (fun r w hp => ?_) (fun _ _ _ z => z.elim)
    obtain ⟨o13807, rfl, rfl, bo13807⟩ := hp
    change G _ _ _ _ _ _ _ (.int o13807 :: _) _ _ _
    refine G_ws (ws' := [(q13794, .inr (14, [.ref q13795, .int p13797, .int p13798, .int p13799, .int p13800])), (q13795, .inr (15, [.ref q13796, .int p13801])), (q13796, .inl (I .byte, 8192, .inl f13802))]) (cs' := 0) (sl' := 0) rfl rfl rfl ?_
    refine G_putf (ws' := [(q13794, .inr (14, [.ref q13795, .int p13797, .int p13798, .int o13807, .int p13800])), (q13795, .inr (15, [.ref q13796, .int p13801])), (q13796, .inl (I .byte, 8192, .inl f13802))]) 0 3 d_cX9_advance_31 rfl (gk_X9 D I) (Nat.le_of_ble_eq_true rfl) w_1_82 rfl rfl rfl (Nat.le_of_ble_eq_true rfl) rfl ?_
    refine G_aload_n 1 d_cX9_advance_34 rfl ?_
    refine G_getf 0 0 d_cX9_advance_35 rfl (gk_X9 D I) (Nat.le_of_ble_eq_true rfl) w_1_79 rfl ?_
    refine G_aload_n 1 d_cX9_advance_38 rfl ?_
    refine G_getf 0 3 d_cX9_advance_39 rfl (gk_X9 D I) (Nat.le_of_ble_eq_true rfl) w_1_82 rfl ?_
    refine G_callV (As := [.int o13807]) (wr := [(q13794, .inr (14, [.ref q13795, .int p13797, .int p13798, .int o13807, .int p13800]))]) (gV_ok D I) (ct_30_Tape_byteAt l hl0 D I q13795 q13796 o13807 p13801 f13802 bp13801 bf13802) d_cX9_advance_42 ⟨w_3_20, w_1_2, w_3_23, by decide, rfl, (Nat.le_of_ble_eq_true rfl), (Nat.le_of_ble_eq_true rfl)⟩ w_3_21 w_3_22 1 rfl rfl [1, 2] [0] rfl rfl rfl rfl (by decide) (Nat.le_of_ble_eq_true rfl) (Nat.le_of_ble_eq_true rfl) (Nat.le_of_ble_eq_true rfl) (fun r w hp => ?_) (fun _ _ _ z => z.elim)
    rcases hp with ⟨rfl, rfl, r13808⟩ | ⟨rfl, rfl, r13809, r13810⟩ | ⟨z13811, rfl, rfl, r13812, r13813, r13814⟩
    · have bo13807' : gB o13807 (-2147483648) (-1) := ⟨by omega, by omega⟩
      change G _ _ _ _ _ _ _ (.int (-1) :: _) _ _ _
      refine G_ws (ws' := [(q13794, .inr (14, [.ref q13795, .int p13797, .int p13798, .int o13807, .int p13800])), (q13795, .inr (15, [.ref q13796, .int p13801])), (q13796, .inl (I .byte, 8192, .inl f13802))]) (cs' := 0) (sl' := 0) rfl rfl rfl ?_
      refine G_istore_n (L' := [(2, .int (-1)), (1, .int 1), (0, .ref q13794)]) d_cX9_advance_45 (Nat.le_of_ble_eq_true rfl) rfl ?_
      refine G_aload_n 2 d_cX9_advance_46 rfl ?_
      refine G_getf 0 0 d_cX9_advance_47 rfl (gk_X9 D I) (Nat.le_of_ble_eq_true rfl) w_1_79 rfl ?_
      refine G_aload_n 2 d_cX9_advance_50 rfl ?_
      refine G_getf 0 3 d_cX9_advance_51 rfl (gk_X9 D I) (Nat.le_of_ble_eq_true rfl) w_1_82 rfl ?_
      refine G_iconst 1 d_cX9_advance_54 (by decide +kernel) ?_
      refine G_iadd d_cX9_advance_55 (G_nam fun z13815 hz13815 => ?_)
      have ez13815 : z13815.toInt = o13807.toInt + 1 := by rw [gI_add hz13815 bo13807' (gBl (show Int32.toInt 1 = 1 by decide)) (by decide) (by decide), show Int32.toInt 1 = 1 from by decide]
      have bz13815 : gB z13815 (-2147483647) 0 := gB_add (gI_add hz13815 bo13807' (gBl (show Int32.toInt 1 = 1 by decide)) (by decide) (by decide)) bo13807' (gBl (show Int32.toInt 1 = 1 by decide)) (by decide) (by decide)
      refine G_callV (As := [.int z13815]) (wr := [(q13794, .inr (14, [.ref q13795, .int p13797, .int p13798, .int o13807, .int p13800]))]) (gV_ok D I) (ct_30_Tape_byteAt l hl0 D I q13795 q13796 z13815 p13801 f13802 bp13801 bf13802) d_cX9_advance_56 ⟨w_3_20, w_1_2, w_3_23, by decide, rfl, (Nat.le_of_ble_eq_true rfl), (Nat.le_of_ble_eq_true rfl)⟩ w_3_21 w_3_22 1 rfl rfl [1, 2] [0] rfl rfl rfl rfl (by decide) (Nat.le_of_ble_eq_true rfl) (Nat.le_of_ble_eq_true rfl) (Nat.le_of_ble_eq_true rfl) (fun r w hp => ?_) (fun _ _ _ z => z.elim)
      rcases hp with ⟨rfl, rfl, r13816⟩ | ⟨rfl, rfl, r13817, r13818⟩ | ⟨z13819, rfl, rfl, r13820, r13821, r13822⟩
      · have bz13815' : gB z13815 (-2147483647) (-1) := ⟨by omega, by omega⟩
        change G _ _ _ _ _ _ _ (.int (-1) :: _) _ _ _
        refine G_ws (ws' := [(q13794, .inr (14, [.ref q13795, .int p13797, .int p13798, .int o13807, .int p13800])), (q13795, .inr (15, [.ref q13796, .int p13801])), (q13796, .inl (I .byte, 8192, .inl f13802))]) (cs' := 0) (sl' := 0) rfl rfl rfl ?_
        refine G_istore_n (L' := [(3, .int (-1)), (2, .int (-1)), (1, .int 1), (0, .ref q13794)]) d_cX9_advance_59 (Nat.le_of_ble_eq_true rfl) rfl ?_
        refine G_aload_n 3 d_cX9_advance_60 rfl ?_
        refine G_iconst 0 d_cX9_advance_61 (by decide +kernel) ?_
        refine G_putf (ws' := [(q13794, .inr (14, [.ref q13795, .int p13797, .int 0, .int o13807, .int p13800])), (q13795, .inr (15, [.ref q13796, .int p13801])), (q13796, .inl (I .byte, 8192, .inl f13802))]) 0 2 d_cX9_advance_62 rfl (gk_X9 D I) (Nat.le_of_ble_eq_true rfl) w_1_81 rfl rfl rfl (Nat.le_of_ble_eq_true rfl) rfl ?_
        refine G_iload_n 1 d_cX9_advance_65 rfl ?_
        refine G_iconst (-1) d_cX9_advance_66 (by decide +kernel) ?_
        refine G_icmp_ne 86 d_cX9_advance_67 (by decide +kernel) (fun hc => absurd hc (by decide)) (fun _ => ?_)
        refine G_aload_n 3 d_cX9_advance_70 rfl ?_
        refine G_iconst 1 d_cX9_advance_71 (by decide +kernel) ?_
        refine G_putf (ws' := [(q13794, .inr (14, [.ref q13795, .int 1, .int 0, .int o13807, .int p13800])), (q13795, .inr (15, [.ref q13796, .int p13801])), (q13796, .inl (I .byte, 8192, .inl f13802))]) 0 1 d_cX9_advance_72 rfl (gk_X9 D I) (Nat.le_of_ble_eq_true rfl) w_1_80 rfl rfl rfl (Nat.le_of_ble_eq_true rfl) rfl ?_
        refine G_aload_n 3 d_cX9_advance_75 rfl ?_
        refine G_aload_n 3 d_cX9_advance_76 rfl ?_
        refine G_getf 0 3 d_cX9_advance_77 rfl (gk_X9 D I) (Nat.le_of_ble_eq_true rfl) w_1_82 rfl ?_
        refine G_putf (ws' := [(q13794, .inr (14, [.ref q13795, .int 1, .int 0, .int o13807, .int o13807])), (q13795, .inr (15, [.ref q13796, .int p13801])), (q13796, .inl (I .byte, 8192, .inl f13802))]) 0 4 d_cX9_advance_80 rfl (gk_X9 D I) (Nat.le_of_ble_eq_true rfl) w_1_83 rfl rfl rfl (Nat.le_of_ble_eq_true rfl) rfl ?_
        refine G_goto 194 d_cX9_advance_83 (by decide +kernel) ?_
        exact G_vret d_cX9_advance_194 rfl (Nat.le_of_ble_eq_true rfl) (Nat.le_of_ble_eq_true rfl) ⟨1, 0, o13807, o13807, rfl, rfl, (gB_w (gBl (show Int32.toInt 1 = 1 by decide)) (by decide) (by decide)), (gB_w (gBl (show Int32.toInt 0 = 0 by decide)) (by decide) (by decide)), (gB_w bo13807' (by decide) (by decide)), (gB_w bo13807' (by decide) (by decide)), (by have qa0 : Int32.toInt (-1) = (-1) := (by decide); have qa1 : Int32.toInt 0 = 0 := (by decide); have qa2 : Int32.toInt 1 = 1 := (by decide); omega)⟩
      · have bz13815' : gB z13815 0 0 := ⟨by omega, by omega⟩
        have bp13801' : gB p13801 0 0 := ⟨by omega, by omega⟩
        change G _ _ _ _ _ _ _ (.int (-1) :: _) _ _ _
        refine G_ws (ws' := [(q13794, .inr (14, [.ref q13795, .int p13797, .int p13798, .int o13807, .int p13800])), (q13795, .inr (15, [.ref q13796, .int p13801])), (q13796, .inl (I .byte, 8192, .inl f13802))]) (cs' := 0) (sl' := 0) rfl rfl rfl ?_
        refine G_istore_n (L' := [(3, .int (-1)), (2, .int (-1)), (1, .int 1), (0, .ref q13794)]) d_cX9_advance_59 (Nat.le_of_ble_eq_true rfl) rfl ?_
        refine G_aload_n 3 d_cX9_advance_60 rfl ?_
        refine G_iconst 0 d_cX9_advance_61 (by decide +kernel) ?_
        refine G_putf (ws' := [(q13794, .inr (14, [.ref q13795, .int p13797, .int 0, .int o13807, .int p13800])), (q13795, .inr (15, [.ref q13796, .int p13801])), (q13796, .inl (I .byte, 8192, .inl f13802))]) 0 2 d_cX9_advance_62 rfl (gk_X9 D I) (Nat.le_of_ble_eq_true rfl) w_1_81 rfl rfl rfl (Nat.le_of_ble_eq_true rfl) rfl ?_
        refine G_iload_n 1 d_cX9_advance_65 rfl ?_
        refine G_iconst (-1) d_cX9_advance_66 (by decide +kernel) ?_
        refine G_icmp_ne 86 d_cX9_advance_67 (by decide +kernel) (fun hc => absurd hc (by decide)) (fun _ => ?_)
        refine G_aload_n 3 d_cX9_advance_70 rfl ?_
        refine G_iconst 1 d_cX9_advance_71 (by decide +kernel) ?_
        refine G_putf (ws' := [(q13794, .inr (14, [.ref q13795, .int 1, .int 0, .int o13807, .int p13800])), (q13795, .inr (15, [.ref q13796, .int p13801])), (q13796, .inl (I .byte, 8192, .inl f13802))]) 0 1 d_cX9_advance_72 rfl (gk_X9 D I) (Nat.le_of_ble_eq_true rfl) w_1_80 rfl rfl rfl (Nat.le_of_ble_eq_true rfl) rfl ?_
        refine G_aload_n 3 d_cX9_advance_75 rfl ?_
        refine G_aload_n 3 d_cX9_advance_76 rfl ?_
        refine G_getf 0 3 d_cX9_advance_77 rfl (gk_X9 D I) (Nat.le_of_ble_eq_true rfl) w_1_82 rfl ?_
        refine G_putf (ws' := [(q13794, .inr (14, [.ref q13795, .int 1, .int 0, .int o13807, .int o13807])), (q13795, .inr (15, [.ref q13796, .int p13801])), (q13796, .inl (I .byte, 8192, .inl f13802))]) 0 4 d_cX9_advance_80 rfl (gk_X9 D I) (Nat.le_of_ble_eq_true rfl) w_1_83 rfl rfl rfl (Nat.le_of_ble_eq_true rfl) rfl ?_
        refine G_goto 194 d_cX9_advance_83 (by decide +kernel) ?_
        exact G_vret d_cX9_advance_194 rfl (Nat.le_of_ble_eq_true rfl) (Nat.le_of_ble_eq_true rfl) ⟨1, 0, o13807, o13807, rfl, rfl, (gB_w (gBl (show Int32.toInt 1 = 1 by decide)) (by decide) (by decide)), (gB_w (gBl (show Int32.toInt 0 = 0 by decide)) (by decide) (by decide)), (gB_w bo13807' (by decide) (by decide)), (gB_w bo13807' (by decide) (by decide)), (by have qa0 : Int32.toInt (-1) = (-1) := (by decide); have qa1 : Int32.toInt 0 = 0 := (by decide); have qa2 : Int32.toInt 1 = 1 := (by decide); omega)⟩
      · have bz13815' : gB z13815 0 0 := ⟨by omega, by omega⟩
        have bp13801' : gB p13801 1 8192 := ⟨by omega, by omega⟩
        change G _ _ _ _ _ _ _ (.int z13819 :: _) _ _ _
        refine G_ws (ws' := [(q13794, .inr (14, [.ref q13795, .int p13797, .int p13798, .int o13807, .int p13800])), (q13795, .inr (15, [.ref q13796, .int p13801])), (q13796, .inl (I .byte, 8192, .inl f13802))]) (cs' := 0) (sl' := 0) rfl rfl rfl ?_
        refine G_istore_n (L' := [(3, .int z13819), (2, .int (-1)), (1, .int 1), (0, .ref q13794)]) d_cX9_advance_59 (Nat.le_of_ble_eq_true rfl) rfl ?_
        refine G_aload_n 3 d_cX9_advance_60 rfl ?_
        refine G_iconst 0 d_cX9_advance_61 (by decide +kernel) ?_
        refine G_putf (ws' := [(q13794, .inr (14, [.ref q13795, .int p13797, .int 0, .int o13807, .int p13800])), (q13795, .inr (15, [.ref q13796, .int p13801])), (q13796, .inl (I .byte, 8192, .inl f13802))]) 0 2 d_cX9_advance_62 rfl (gk_X9 D I) (Nat.le_of_ble_eq_true rfl) w_1_81 rfl rfl rfl (Nat.le_of_ble_eq_true rfl) rfl ?_
        refine G_iload_n 1 d_cX9_advance_65 rfl ?_
        refine G_iconst (-1) d_cX9_advance_66 (by decide +kernel) ?_
        refine G_icmp_ne 86 d_cX9_advance_67 (by decide +kernel) (fun hc => absurd hc (by decide)) (fun _ => ?_)
        refine G_aload_n 3 d_cX9_advance_70 rfl ?_
        refine G_iconst 1 d_cX9_advance_71 (by decide +kernel) ?_
        refine G_putf (ws' := [(q13794, .inr (14, [.ref q13795, .int 1, .int 0, .int o13807, .int p13800])), (q13795, .inr (15, [.ref q13796, .int p13801])), (q13796, .inl (I .byte, 8192, .inl f13802))]) 0 1 d_cX9_advance_72 rfl (gk_X9 D I) (Nat.le_of_ble_eq_true rfl) w_1_80 rfl rfl rfl (Nat.le_of_ble_eq_true rfl) rfl ?_
        refine G_aload_n 3 d_cX9_advance_75 rfl ?_
        refine G_aload_n 3 d_cX9_advance_76 rfl ?_
        refine G_getf 0 3 d_cX9_advance_77 rfl (gk_X9 D I) (Nat.le_of_ble_eq_true rfl) w_1_82 rfl ?_
        refine G_putf (ws' := [(q13794, .inr (14, [.ref q13795, .int 1, .int 0, .int o13807, .int o13807])), (q13795, .inr (15, [.ref q13796, .int p13801])), (q13796, .inl (I .byte, 8192, .inl f13802))]) 0 4 d_cX9_advance_80 rfl (gk_X9 D I) (Nat.le_of_ble_eq_true rfl) w_1_83 rfl rfl rfl (Nat.le_of_ble_eq_true rfl) rfl ?_
        refine G_goto 194 d_cX9_advance_83 (by decide +kernel) ?_
        exact G_vret d_cX9_advance_194 rfl (Nat.le_of_ble_eq_true rfl) (Nat.le_of_ble_eq_true rfl) ⟨1, 0, o13807, o13807, rfl, rfl, (gB_w (gBl (show Int32.toInt 1 = 1 by decide)) (by decide) (by decide)), (gB_w (gBl (show Int32.toInt 0 = 0 by decide)) (by decide) (by decide)), (gB_w bo13807' (by decide) (by decide)), (gB_w bo13807' (by decide) (by decide)), (by have qa0 : Int32.toInt (-1) = (-1) := (by decide); have qa1 : Int32.toInt 0 = 0 := (by decide); have qa2 : Int32.toInt 1 = 1 := (by decide); omega)⟩
    · have bo13807' : gB o13807 0 8192 := ⟨by omega, by omega⟩
      change G _ _ _ _ _ _ _ (.int (-1) :: _) _ _ _
      refine G_ws (ws' := [(q13794, .inr (14, [.ref q13795, .int p13797, .int p13798, .int o13807, .int p13800])), (q13795, .inr (15, [.ref q13796, .int p13801])), (q13796, .inl (I .byte, 8192, .inl f13802))]) (cs' := 0) (sl' := 0) rfl rfl rfl ?_
      refine G_istore_n (L' := [(2, .int (-1)), (1, .int 1), (0, .ref q13794)]) d_cX9_advance_45 (Nat.le_of_ble_eq_true rfl) rfl ?_
      refine G_aload_n 2 d_cX9_advance_46 rfl ?_
      refine G_getf 0 0 d_cX9_advance_47 rfl (gk_X9 D I) (Nat.le_of_ble_eq_true rfl) w_1_79 rfl ?_
      refine G_aload_n 2 d_cX9_advance_50 rfl ?_
      refine G_getf 0 3 d_cX9_advance_51 rfl (gk_X9 D I) (Nat.le_of_ble_eq_true rfl) w_1_82 rfl ?_
      refine G_iconst 1 d_cX9_advance_54 (by decide +kernel) ?_
      refine G_iadd d_cX9_advance_55 (G_nam fun z13823 hz13823 => ?_)
      have ez13823 : z13823.toInt = o13807.toInt + 1 := by rw [gI_add hz13823 bo13807' (gBl (show Int32.toInt 1 = 1 by decide)) (by decide) (by decide), show Int32.toInt 1 = 1 from by decide]
      have bz13823 : gB z13823 1 8193 := gB_add (gI_add hz13823 bo13807' (gBl (show Int32.toInt 1 = 1 by decide)) (by decide) (by decide)) bo13807' (gBl (show Int32.toInt 1 = 1 by decide)) (by decide) (by decide)
      refine G_callV (As := [.int z13823]) (wr := [(q13794, .inr (14, [.ref q13795, .int p13797, .int p13798, .int o13807, .int p13800]))]) (gV_ok D I) (ct_30_Tape_byteAt l hl0 D I q13795 q13796 z13823 p13801 f13802 bp13801 bf13802) d_cX9_advance_56 ⟨w_3_20, w_1_2, w_3_23, by decide, rfl, (Nat.le_of_ble_eq_true rfl), (Nat.le_of_ble_eq_true rfl)⟩ w_3_21 w_3_22 1 rfl rfl [1, 2] [0] rfl rfl rfl rfl (by decide) (Nat.le_of_ble_eq_true rfl) (Nat.le_of_ble_eq_true rfl) (Nat.le_of_ble_eq_true rfl) (fun r w hp => ?_) (fun _ _ _ z => z.elim)
      rcases hp with ⟨rfl, rfl, r13824⟩ | ⟨rfl, rfl, r13825, r13826⟩ | ⟨z13827, rfl, rfl, r13828, r13829, r13830⟩
      · exact absurd (show False by omega) not_false
      · change G _ _ _ _ _ _ _ (.int (-1) :: _) _ _ _
        refine G_ws (ws' := [(q13794, .inr (14, [.ref q13795, .int p13797, .int p13798, .int o13807, .int p13800])), (q13795, .inr (15, [.ref q13796, .int p13801])), (q13796, .inl (I .byte, 8192, .inl f13802))]) (cs' := 0) (sl' := 0) rfl rfl rfl ?_
        refine G_istore_n (L' := [(3, .int (-1)), (2, .int (-1)), (1, .int 1), (0, .ref q13794)]) d_cX9_advance_59 (Nat.le_of_ble_eq_true rfl) rfl ?_
        refine G_aload_n 3 d_cX9_advance_60 rfl ?_
        refine G_iconst 0 d_cX9_advance_61 (by decide +kernel) ?_
        refine G_putf (ws' := [(q13794, .inr (14, [.ref q13795, .int p13797, .int 0, .int o13807, .int p13800])), (q13795, .inr (15, [.ref q13796, .int p13801])), (q13796, .inl (I .byte, 8192, .inl f13802))]) 0 2 d_cX9_advance_62 rfl (gk_X9 D I) (Nat.le_of_ble_eq_true rfl) w_1_81 rfl rfl rfl (Nat.le_of_ble_eq_true rfl) rfl ?_
        refine G_iload_n 1 d_cX9_advance_65 rfl ?_
        refine G_iconst (-1) d_cX9_advance_66 (by decide +kernel) ?_
        refine G_icmp_ne 86 d_cX9_advance_67 (by decide +kernel) (fun hc => absurd hc (by decide)) (fun _ => ?_)
        refine G_aload_n 3 d_cX9_advance_70 rfl ?_
        refine G_iconst 1 d_cX9_advance_71 (by decide +kernel) ?_
        refine G_putf (ws' := [(q13794, .inr (14, [.ref q13795, .int 1, .int 0, .int o13807, .int p13800])), (q13795, .inr (15, [.ref q13796, .int p13801])), (q13796, .inl (I .byte, 8192, .inl f13802))]) 0 1 d_cX9_advance_72 rfl (gk_X9 D I) (Nat.le_of_ble_eq_true rfl) w_1_80 rfl rfl rfl (Nat.le_of_ble_eq_true rfl) rfl ?_
        refine G_aload_n 3 d_cX9_advance_75 rfl ?_
        refine G_aload_n 3 d_cX9_advance_76 rfl ?_
        refine G_getf 0 3 d_cX9_advance_77 rfl (gk_X9 D I) (Nat.le_of_ble_eq_true rfl) w_1_82 rfl ?_
        refine G_putf (ws' := [(q13794, .inr (14, [.ref q13795, .int 1, .int 0, .int o13807, .int o13807])), (q13795, .inr (15, [.ref q13796, .int p13801])), (q13796, .inl (I .byte, 8192, .inl f13802))]) 0 4 d_cX9_advance_80 rfl (gk_X9 D I) (Nat.le_of_ble_eq_true rfl) w_1_83 rfl rfl rfl (Nat.le_of_ble_eq_true rfl) rfl ?_
        refine G_goto 194 d_cX9_advance_83 (by decide +kernel) ?_
        exact G_vret d_cX9_advance_194 rfl (Nat.le_of_ble_eq_true rfl) (Nat.le_of_ble_eq_true rfl) ⟨1, 0, o13807, o13807, rfl, rfl, (gB_w (gBl (show Int32.toInt 1 = 1 by decide)) (by decide) (by decide)), (gB_w (gBl (show Int32.toInt 0 = 0 by decide)) (by decide) (by decide)), (gB_w bo13807' (by decide) (by decide)), (gB_w bo13807' (by decide) (by decide)), (by have qa0 : Int32.toInt (-1) = (-1) := (by decide); have qa1 : Int32.toInt 0 = 0 := (by decide); have qa2 : Int32.toInt 1 = 1 := (by decide); omega)⟩
      · have bz13823' : gB z13823 1 8191 := ⟨by omega, by omega⟩
        have bp13801' : gB p13801 2 8192 := ⟨by omega, by omega⟩
        change G _ _ _ _ _ _ _ (.int z13827 :: _) _ _ _
        refine G_ws (ws' := [(q13794, .inr (14, [.ref q13795, .int p13797, .int p13798, .int o13807, .int p13800])), (q13795, .inr (15, [.ref q13796, .int p13801])), (q13796, .inl (I .byte, 8192, .inl f13802))]) (cs' := 0) (sl' := 0) rfl rfl rfl ?_
        refine G_istore_n (L' := [(3, .int z13827), (2, .int (-1)), (1, .int 1), (0, .ref q13794)]) d_cX9_advance_59 (Nat.le_of_ble_eq_true rfl) rfl ?_
        refine G_aload_n 3 d_cX9_advance_60 rfl ?_
        refine G_iconst 0 d_cX9_advance_61 (by decide +kernel) ?_
        refine G_putf (ws' := [(q13794, .inr (14, [.ref q13795, .int p13797, .int 0, .int o13807, .int p13800])), (q13795, .inr (15, [.ref q13796, .int p13801])), (q13796, .inl (I .byte, 8192, .inl f13802))]) 0 2 d_cX9_advance_62 rfl (gk_X9 D I) (Nat.le_of_ble_eq_true rfl) w_1_81 rfl rfl rfl (Nat.le_of_ble_eq_true rfl) rfl ?_
        refine G_iload_n 1 d_cX9_advance_65 rfl ?_
        refine G_iconst (-1) d_cX9_advance_66 (by decide +kernel) ?_
        refine G_icmp_ne 86 d_cX9_advance_67 (by decide +kernel) (fun hc => absurd hc (by decide)) (fun _ => ?_)
        refine G_aload_n 3 d_cX9_advance_70 rfl ?_
        refine G_iconst 1 d_cX9_advance_71 (by decide +kernel) ?_
        refine G_putf (ws' := [(q13794, .inr (14, [.ref q13795, .int 1, .int 0, .int o13807, .int p13800])), (q13795, .inr (15, [.ref q13796, .int p13801])), (q13796, .inl (I .byte, 8192, .inl f13802))]) 0 1 d_cX9_advance_72 rfl (gk_X9 D I) (Nat.le_of_ble_eq_true rfl) w_1_80 rfl rfl rfl (Nat.le_of_ble_eq_true rfl) rfl ?_
        refine G_aload_n 3 d_cX9_advance_75 rfl ?_
        refine G_aload_n 3 d_cX9_advance_76 rfl ?_
        refine G_getf 0 3 d_cX9_advance_77 rfl (gk_X9 D I) (Nat.le_of_ble_eq_true rfl) w_1_82 rfl ?_
        refine G_putf (ws' := [(q13794, .inr (14, [.ref q13795, .int 1, .int 0, .int o13807, .int o13807])), (q13795, .inr (15, [.ref q13796, .int p13801])), (q13796, .inl (I .byte, 8192, .inl f13802))]) 0 4 d_cX9_advance_80 rfl (gk_X9 D I) (Nat.le_of_ble_eq_true rfl) w_1_83 rfl rfl rfl (Nat.le_of_ble_eq_true rfl) rfl ?_
        refine G_goto 194 d_cX9_advance_83 (by decide +kernel) ?_
        exact G_vret d_cX9_advance_194 rfl (Nat.le_of_ble_eq_true rfl) (Nat.le_of_ble_eq_true rfl) ⟨1, 0, o13807, o13807, rfl, rfl, (gB_w (gBl (show Int32.toInt 1 = 1 by decide)) (by decide) (by decide)), (gB_w (gBl (show Int32.toInt 0 = 0 by decide)) (by decide) (by decide)), (gB_w bo13807' (by decide) (by decide)), (gB_w bo13807' (by decide) (by decide)), (by have qa0 : Int32.toInt (-1) = (-1) := (by decide); have qa1 : Int32.toInt 0 = 0 := (by decide); have qa2 : Int32.toInt 1 = 1 := (by decide); omega)⟩
    · have bo13807' : gB o13807 0 8192 := ⟨by omega, by omega⟩
      have bo13807'' : gB o13807 0 8191 := ⟨by omega, by omega⟩
      have bp13801' : gB p13801 1 8192 := ⟨by omega, by omega⟩
      change G _ _ _ _ _ _ _ (.int z13811 :: _) _ _ _
      refine G_ws (ws' := [(q13794, .inr (14, [.ref q13795, .int p13797, .int p13798, .int o13807, .int p13800])), (q13795, .inr (15, [.ref q13796, .int p13801])), (q13796, .inl (I .byte, 8192, .inl f13802))]) (cs' := 0) (sl' := 0) rfl rfl rfl ?_
      refine G_istore_n (L' := [(2, .int z13811), (1, .int 1), (0, .ref q13794)]) d_cX9_advance_45 (Nat.le_of_ble_eq_true rfl) rfl ?_
      refine G_aload_n 2 d_cX9_advance_46 rfl ?_
      refine G_getf 0 0 d_cX9_advance_47 rfl (gk_X9 D I) (Nat.le_of_ble_eq_true rfl) w_1_79 rfl ?_
      refine G_aload_n 2 d_cX9_advance_50 rfl ?_
      refine G_getf 0 3 d_cX9_advance_51 rfl (gk_X9 D I) (Nat.le_of_ble_eq_true rfl) w_1_82 rfl ?_
      refine G_iconst 1 d_cX9_advance_54 (by decide +kernel) ?_
      refine G_iadd d_cX9_advance_55 (G_nam fun z13831 hz13831 => ?_)
      have ez13831 : z13831.toInt = o13807.toInt + 1 := by rw [gI_add hz13831 bo13807'' (gBl (show Int32.toInt 1 = 1 by decide)) (by decide) (by decide), show Int32.toInt 1 = 1 from by decide]
      have bz13831 : gB z13831 1 8192 := gB_add (gI_add hz13831 bo13807'' (gBl (show Int32.toInt 1 = 1 by decide)) (by decide) (by decide)) bo13807'' (gBl (show Int32.toInt 1 = 1 by decide)) (by decide) (by decide)
      refine G_callV (As := [.int z13831]) (wr := [(q13794, .inr (14, [.ref q13795, .int p13797, .int p13798, .int o13807, .int p13800]))]) (gV_ok D I) (ct_30_Tape_byteAt l hl0 D I q13795 q13796 z13831 p13801 f13802 (gB_w bp13801' (by decide) (by decide)) bf13802) d_cX9_advance_56 ⟨w_3_20, w_1_2, w_3_23, by decide, rfl, (Nat.le_of_ble_eq_true rfl), (Nat.le_of_ble_eq_true rfl)⟩ w_3_21 w_3_22 1 rfl rfl [1, 2] [0] rfl rfl rfl rfl (by decide) (Nat.le_of_ble_eq_true rfl) (Nat.le_of_ble_eq_true rfl) (Nat.le_of_ble_eq_true rfl) (fun r w hp => ?_) (fun _ _ _ z => z.elim)
      rcases hp with ⟨rfl, rfl, r13832⟩ | ⟨rfl, rfl, r13833, r13834⟩ | ⟨z13835, rfl, rfl, r13836, r13837, r13838⟩
      · exact absurd (show False by omega) not_false
      · change G _ _ _ _ _ _ _ (.int (-1) :: _) _ _ _
        refine G_ws (ws' := [(q13794, .inr (14, [.ref q13795, .int p13797, .int p13798, .int o13807, .int p13800])), (q13795, .inr (15, [.ref q13796, .int p13801])), (q13796, .inl (I .byte, 8192, .inl f13802))]) (cs' := 0) (sl' := 0) rfl rfl rfl ?_
        refine G_istore_n (L' := [(3, .int (-1)), (2, .int z13811), (1, .int 1), (0, .ref q13794)]) d_cX9_advance_59 (Nat.le_of_ble_eq_true rfl) rfl ?_
        refine G_aload_n 3 d_cX9_advance_60 rfl ?_
        refine G_iconst 0 d_cX9_advance_61 (by decide +kernel) ?_
        refine G_putf (ws' := [(q13794, .inr (14, [.ref q13795, .int p13797, .int 0, .int o13807, .int p13800])), (q13795, .inr (15, [.ref q13796, .int p13801])), (q13796, .inl (I .byte, 8192, .inl f13802))]) 0 2 d_cX9_advance_62 rfl (gk_X9 D I) (Nat.le_of_ble_eq_true rfl) w_1_81 rfl rfl rfl (Nat.le_of_ble_eq_true rfl) rfl ?_
        refine G_iload_n 1 d_cX9_advance_65 rfl ?_
        refine G_iconst (-1) d_cX9_advance_66 (by decide +kernel) ?_
        refine G_icmp_ne 86 d_cX9_advance_67 (by decide +kernel) (fun _ => ?_) (fun hc => absurd (show False by have := gj_eq hc (show Int32.toInt (-1) = (-1) by decide); omega) not_false)
        refine G_iload_n 1 d_cX9_advance_86 rfl ?_
        refine G_callS (As := [.int z13811]) (wr := [(q13794, .inr (14, [.ref q13795, .int p13797, .int 0, .int o13807, .int p13800])), (q13795, .inr (15, [.ref q13796, .int p13801])), (q13796, .inl (I .byte, 8192, .inl f13802))]) (gV_ok D I) (ct_300_Signs_isDigit l hl0 D I z13811 ) d_cX9_advance_87 ⟨w_3_24, w_1_4, w_3_26, by decide, rfl, (Nat.le_of_ble_eq_true rfl), (Nat.le_of_ble_eq_true rfl)⟩ w_3_25 [] [0, 1, 2] rfl rfl rfl rfl (by decide) (Nat.le_of_ble_eq_true rfl) (Nat.le_of_ble_eq_true rfl) (Nat.le_of_ble_eq_true rfl) (fun r w hp => ?_) (fun _ _ _ z => z.elim)
        rcases hp with ⟨rfl, rfl, r13839⟩ | ⟨rfl, rfl, r13840, r13841⟩ | ⟨rfl, rfl, r13842, r13843⟩
        · have r13814' : gB z13811 0 47 := ⟨by omega, by omega⟩
          change G _ _ _ _ _ _ _ (.int 0 :: _) _ _ _
          refine G_ws (ws' := [(q13794, .inr (14, [.ref q13795, .int p13797, .int 0, .int o13807, .int p13800])), (q13795, .inr (15, [.ref q13796, .int p13801])), (q13796, .inl (I .byte, 8192, .inl f13802))]) (cs' := 0) (sl' := 0) rfl rfl rfl ?_
          refine G_if_ne 110 d_cX9_advance_90 (by decide +kernel) (fun hc => absurd hc (by decide)) (fun _ => ?_)
          refine G_iload_n 1 d_cX9_advance_93 rfl ?_
          refine G_bipush 45 d_cX9_advance_94 (by decide +kernel) ?_
          refine G_icmp_ne 128 d_cX9_advance_96 (by decide +kernel) (fun hc13844 => ?_) (fun hc13844 => ?_)
          · have r13845 : z13811.toInt ≠ 45 := gj_neq hc13844 (show Int32.toInt 45 = 45 by decide)
            refine G_iload_n 1 d_cX9_advance_128 rfl ?_
            refine G_bipush 118 d_cX9_advance_129 (by decide +kernel) ?_
            refine G_icmp_ne 151 d_cX9_advance_131 (by decide +kernel) (fun _ => ?_) (fun hc => absurd (show False by have := gj_eq hc (show Int32.toInt 118 = 118 by decide); omega) not_false)
            refine G_iload_n 1 d_cX9_advance_151 rfl ?_
            refine G_bipush 98 d_cX9_advance_152 (by decide +kernel) ?_
            refine G_icmp_ne 174 d_cX9_advance_154 (by decide +kernel) (fun _ => ?_) (fun hc => absurd (show False by have := gj_eq hc (show Int32.toInt 98 = 98 by decide); omega) not_false)
            refine G_iload_n 1 d_cX9_advance_174 rfl ?_
            refine G_callS (As := [.int z13811]) (wr := [(q13794, .inr (14, [.ref q13795, .int p13797, .int 0, .int o13807, .int p13800])), (q13795, .inr (15, [.ref q13796, .int p13801])), (q13796, .inl (I .byte, 8192, .inl f13802))]) (gV_ok D I) (ct_308_Signs_isLetter l hl0 D I z13811 ) d_cX9_advance_175 ⟨w_3_45, w_1_4, w_3_47, by decide, rfl, (Nat.le_of_ble_eq_true rfl), (Nat.le_of_ble_eq_true rfl)⟩ w_3_46 [] [0, 1, 2] rfl rfl rfl rfl (by decide) (Nat.le_of_ble_eq_true rfl) (Nat.le_of_ble_eq_true rfl) (Nat.le_of_ble_eq_true rfl) (fun r w hp => ?_) (fun _ _ _ z => z.elim)
            rcases hp with ⟨rfl, rfl, r13846⟩ | ⟨rfl, rfl, r13847, r13848⟩ | ⟨rfl, rfl, r13849, r13850⟩
            · change G _ _ _ _ _ _ _ (.int 0 :: _) _ _ _
              refine G_ws (ws' := [(q13794, .inr (14, [.ref q13795, .int p13797, .int 0, .int o13807, .int p13800])), (q13795, .inr (15, [.ref q13796, .int p13801])), (q13796, .inl (I .byte, 8192, .inl f13802))]) (cs' := 0) (sl' := 0) rfl rfl rfl ?_
              refine G_if_eq 188 d_cX9_advance_178 (by decide +kernel) (fun _ => ?_) (fun hc => absurd hc (by decide))
              refine G_aload_n 3 d_cX9_advance_188 rfl ?_
              refine G_iload_n 1 d_cX9_advance_189 rfl ?_
              refine G_iload_n 0 d_cX9_advance_190 rfl ?_
              refine G_callV (As := [.int z13811, .int (-1)]) (wr := []) (gV_ok D I) (ct_13760_Signs_takeMark l hl0 D I q13794 q13795 q13796 z13811 (-1) p13797 0 o13807 p13800 p13801 f13802 (gB_w bp13801' (by decide) (by decide)) bf13802 (by have qa0 : Int32.toInt (-1) = (-1) := (by decide); have qa1 : Int32.toInt 0 = 0 := (by decide); omega)) d_cX9_advance_191 ⟨w_3_109, w_1_4, w_3_112, by decide, rfl, (Nat.le_of_ble_eq_true rfl), (Nat.le_of_ble_eq_true rfl)⟩ w_3_111 w_p_6 0 rfl rfl [0, 1, 2] [] rfl rfl rfl rfl (by decide) (Nat.le_of_ble_eq_true rfl) (Nat.le_of_ble_eq_true rfl) (Nat.le_of_ble_eq_true rfl) (fun r w hp => ?_) (fun _ _ _ z => z.elim)
              obtain ⟨o13851, o13852, o13853, rfl, rfl, bo13851, bo13852, bo13853, x13854⟩ := hp
              change G _ _ _ _ _ _ _ _ _ _ _
              refine G_ws (ws' := [(q13794, .inr (14, [.ref q13795, .int o13851, .int o13852, .int o13807, .int o13853])), (q13795, .inr (15, [.ref q13796, .int p13801])), (q13796, .inl (I .byte, 8192, .inl f13802))]) (cs' := 0) (sl' := 0) rfl rfl rfl ?_
              exact G_vret d_cX9_advance_194 rfl (Nat.le_of_ble_eq_true rfl) (Nat.le_of_ble_eq_true rfl) ⟨o13851, o13852, o13807, o13853, rfl, rfl, (gB_w bo13851 (by decide) (by decide)), (gB_w bo13852 (by decide) (by decide)), (gB_w bo13807'' (by decide) (by decide)), bo13853, (by have qa0 : Int32.toInt (-1) = (-1) := (by decide); have qa1 : Int32.toInt 1 = 1 := (by decide); omega)⟩
            · exact absurd (show False by omega) not_false
            · exact absurd (show False by omega) not_false
          · have r13855 : z13811.toInt = 45 := gj_eq hc13844 (show Int32.toInt 45 = 45 by decide)
            have r13814'' : gB z13811 45 45 := ⟨by omega, by omega⟩
            refine G_iload_n 0 d_cX9_advance_99 rfl ?_
            refine G_callS (As := [.int (-1)]) (wr := [(q13794, .inr (14, [.ref q13795, .int p13797, .int 0, .int o13807, .int p13800])), (q13795, .inr (15, [.ref q13796, .int p13801])), (q13796, .inl (I .byte, 8192, .inl f13802))]) (gV_ok D I) (ct_300_Signs_isDigit l hl0 D I (-1) ) d_cX9_advance_100 ⟨w_3_24, w_1_4, w_3_26, by decide, rfl, (Nat.le_of_ble_eq_true rfl), (Nat.le_of_ble_eq_true rfl)⟩ w_3_25 [] [0, 1, 2] rfl rfl rfl rfl (by decide) (Nat.le_of_ble_eq_true rfl) (Nat.le_of_ble_eq_true rfl) (Nat.le_of_ble_eq_true rfl) (fun r w hp => ?_) (fun _ _ _ z => z.elim)
            rcases hp with ⟨rfl, rfl, r13856⟩ | ⟨rfl, rfl, r13857, r13858⟩ | ⟨rfl, rfl, r13859, r13860⟩
            · rw [show Int32.toInt (-1) = (-1) from by decide] at r13856
              change G _ _ _ _ _ _ _ (.int 0 :: _) _ _ _
              refine G_ws (ws' := [(q13794, .inr (14, [.ref q13795, .int p13797, .int 0, .int o13807, .int p13800])), (q13795, .inr (15, [.ref q13796, .int p13801])), (q13796, .inl (I .byte, 8192, .inl f13802))]) (cs' := 0) (sl' := 0) rfl rfl rfl ?_
              refine G_if_eq 128 d_cX9_advance_103 (by decide +kernel) (fun _ => ?_) (fun hc => absurd hc (by decide))
              refine G_iload_n 1 d_cX9_advance_128 rfl ?_
              refine G_bipush 118 d_cX9_advance_129 (by decide +kernel) ?_
              refine G_icmp_ne 151 d_cX9_advance_131 (by decide +kernel) (fun _ => ?_) (fun hc => absurd (show False by have := gj_eq hc (show Int32.toInt 118 = 118 by decide); omega) not_false)
              refine G_iload_n 1 d_cX9_advance_151 rfl ?_
              refine G_bipush 98 d_cX9_advance_152 (by decide +kernel) ?_
              refine G_icmp_ne 174 d_cX9_advance_154 (by decide +kernel) (fun _ => ?_) (fun hc => absurd (show False by have := gj_eq hc (show Int32.toInt 98 = 98 by decide); omega) not_false)
              refine G_iload_n 1 d_cX9_advance_174 rfl ?_
              refine G_callS (As := [.int z13811]) (wr := [(q13794, .inr (14, [.ref q13795, .int p13797, .int 0, .int o13807, .int p13800])), (q13795, .inr (15, [.ref q13796, .int p13801])), (q13796, .inl (I .byte, 8192, .inl f13802))]) (gV_ok D I) (ct_308_Signs_isLetter l hl0 D I z13811 ) d_cX9_advance_175 ⟨w_3_45, w_1_4, w_3_47, by decide, rfl, (Nat.le_of_ble_eq_true rfl), (Nat.le_of_ble_eq_true rfl)⟩ w_3_46 [] [0, 1, 2] rfl rfl rfl rfl (by decide) (Nat.le_of_ble_eq_true rfl) (Nat.le_of_ble_eq_true rfl) (Nat.le_of_ble_eq_true rfl) (fun r w hp => ?_) (fun _ _ _ z => z.elim)
              rcases hp with ⟨rfl, rfl, r13861⟩ | ⟨rfl, rfl, r13862, r13863⟩ | ⟨rfl, rfl, r13864, r13865⟩
              · change G _ _ _ _ _ _ _ (.int 0 :: _) _ _ _
                refine G_ws (ws' := [(q13794, .inr (14, [.ref q13795, .int p13797, .int 0, .int o13807, .int p13800])), (q13795, .inr (15, [.ref q13796, .int p13801])), (q13796, .inl (I .byte, 8192, .inl f13802))]) (cs' := 0) (sl' := 0) rfl rfl rfl ?_
                refine G_if_eq 188 d_cX9_advance_178 (by decide +kernel) (fun _ => ?_) (fun hc => absurd hc (by decide))
                refine G_aload_n 3 d_cX9_advance_188 rfl ?_
                refine G_iload_n 1 d_cX9_advance_189 rfl ?_
                refine G_iload_n 0 d_cX9_advance_190 rfl ?_
                refine G_callV (As := [.int z13811, .int (-1)]) (wr := []) (gV_ok D I) (ct_13760_Signs_takeMark l hl0 D I q13794 q13795 q13796 z13811 (-1) p13797 0 o13807 p13800 p13801 f13802 (gB_w bp13801' (by decide) (by decide)) bf13802 (by have qa0 : Int32.toInt (-1) = (-1) := (by decide); have qa1 : Int32.toInt 0 = 0 := (by decide); omega)) d_cX9_advance_191 ⟨w_3_109, w_1_4, w_3_112, by decide, rfl, (Nat.le_of_ble_eq_true rfl), (Nat.le_of_ble_eq_true rfl)⟩ w_3_111 w_p_6 0 rfl rfl [0, 1, 2] [] rfl rfl rfl rfl (by decide) (Nat.le_of_ble_eq_true rfl) (Nat.le_of_ble_eq_true rfl) (Nat.le_of_ble_eq_true rfl) (fun r w hp => ?_) (fun _ _ _ z => z.elim)
                obtain ⟨o13866, o13867, o13868, rfl, rfl, bo13866, bo13867, bo13868, x13869⟩ := hp
                change G _ _ _ _ _ _ _ _ _ _ _
                refine G_ws (ws' := [(q13794, .inr (14, [.ref q13795, .int o13866, .int o13867, .int o13807, .int o13868])), (q13795, .inr (15, [.ref q13796, .int p13801])), (q13796, .inl (I .byte, 8192, .inl f13802))]) (cs' := 0) (sl' := 0) rfl rfl rfl ?_
                exact G_vret d_cX9_advance_194 rfl (Nat.le_of_ble_eq_true rfl) (Nat.le_of_ble_eq_true rfl) ⟨o13866, o13867, o13807, o13868, rfl, rfl, (gB_w bo13866 (by decide) (by decide)), (gB_w bo13867 (by decide) (by decide)), (gB_w bo13807'' (by decide) (by decide)), bo13868, (by have qa0 : Int32.toInt (-1) = (-1) := (by decide); have qa1 : Int32.toInt 1 = 1 := (by decide); omega)⟩
              · exact absurd (show False by omega) not_false
              · exact absurd (show False by omega) not_false
            · rw [show Int32.toInt (-1) = (-1) from by decide] at r13857
              exact absurd (show False by omega) not_false
            · rw [show Int32.toInt (-1) = (-1) from by decide] at r13859
              exact absurd (show False by omega) not_false
        · have r13814' : gB z13811 48 255 := ⟨by omega, by omega⟩
          have r13814'' : gB z13811 58 255 := ⟨by omega, by omega⟩
          change G _ _ _ _ _ _ _ (.int 0 :: _) _ _ _
          refine G_ws (ws' := [(q13794, .inr (14, [.ref q13795, .int p13797, .int 0, .int o13807, .int p13800])), (q13795, .inr (15, [.ref q13796, .int p13801])), (q13796, .inl (I .byte, 8192, .inl f13802))]) (cs' := 0) (sl' := 0) rfl rfl rfl ?_
          refine G_if_ne 110 d_cX9_advance_90 (by decide +kernel) (fun hc => absurd hc (by decide)) (fun _ => ?_)
          refine G_iload_n 1 d_cX9_advance_93 rfl ?_
          refine G_bipush 45 d_cX9_advance_94 (by decide +kernel) ?_
          refine G_icmp_ne 128 d_cX9_advance_96 (by decide +kernel) (fun _ => ?_) (fun hc => absurd (show False by have := gj_eq hc (show Int32.toInt 45 = 45 by decide); omega) not_false)
          refine G_iload_n 1 d_cX9_advance_128 rfl ?_
          refine G_bipush 118 d_cX9_advance_129 (by decide +kernel) ?_
          refine G_icmp_ne 151 d_cX9_advance_131 (by decide +kernel) (fun hc13870 => ?_) (fun hc13870 => ?_)
          · have r13871 : z13811.toInt ≠ 118 := gj_neq hc13870 (show Int32.toInt 118 = 118 by decide)
            refine G_iload_n 1 d_cX9_advance_151 rfl ?_
            refine G_bipush 98 d_cX9_advance_152 (by decide +kernel) ?_
            refine G_icmp_ne 174 d_cX9_advance_154 (by decide +kernel) (fun hc13872 => ?_) (fun hc13872 => ?_)
            · have r13873 : z13811.toInt ≠ 98 := gj_neq hc13872 (show Int32.toInt 98 = 98 by decide)
              refine G_iload_n 1 d_cX9_advance_174 rfl ?_
              refine G_callS (As := [.int z13811]) (wr := [(q13794, .inr (14, [.ref q13795, .int p13797, .int 0, .int o13807, .int p13800])), (q13795, .inr (15, [.ref q13796, .int p13801])), (q13796, .inl (I .byte, 8192, .inl f13802))]) (gV_ok D I) (ct_308_Signs_isLetter l hl0 D I z13811 ) d_cX9_advance_175 ⟨w_3_45, w_1_4, w_3_47, by decide, rfl, (Nat.le_of_ble_eq_true rfl), (Nat.le_of_ble_eq_true rfl)⟩ w_3_46 [] [0, 1, 2] rfl rfl rfl rfl (by decide) (Nat.le_of_ble_eq_true rfl) (Nat.le_of_ble_eq_true rfl) (Nat.le_of_ble_eq_true rfl) (fun r w hp => ?_) (fun _ _ _ z => z.elim)
              rcases hp with ⟨rfl, rfl, r13874⟩ | ⟨rfl, rfl, r13875, r13876⟩ | ⟨rfl, rfl, r13877, r13878⟩
              · have r13814''' : gB z13811 58 96 := ⟨by omega, by omega⟩
                change G _ _ _ _ _ _ _ (.int 0 :: _) _ _ _
                refine G_ws (ws' := [(q13794, .inr (14, [.ref q13795, .int p13797, .int 0, .int o13807, .int p13800])), (q13795, .inr (15, [.ref q13796, .int p13801])), (q13796, .inl (I .byte, 8192, .inl f13802))]) (cs' := 0) (sl' := 0) rfl rfl rfl ?_
                refine G_if_eq 188 d_cX9_advance_178 (by decide +kernel) (fun _ => ?_) (fun hc => absurd hc (by decide))
                refine G_aload_n 3 d_cX9_advance_188 rfl ?_
                refine G_iload_n 1 d_cX9_advance_189 rfl ?_
                refine G_iload_n 0 d_cX9_advance_190 rfl ?_
                refine G_callV (As := [.int z13811, .int (-1)]) (wr := []) (gV_ok D I) (ct_13760_Signs_takeMark l hl0 D I q13794 q13795 q13796 z13811 (-1) p13797 0 o13807 p13800 p13801 f13802 (gB_w bp13801' (by decide) (by decide)) bf13802 (by have qa0 : Int32.toInt (-1) = (-1) := (by decide); have qa1 : Int32.toInt 0 = 0 := (by decide); omega)) d_cX9_advance_191 ⟨w_3_109, w_1_4, w_3_112, by decide, rfl, (Nat.le_of_ble_eq_true rfl), (Nat.le_of_ble_eq_true rfl)⟩ w_3_111 w_p_6 0 rfl rfl [0, 1, 2] [] rfl rfl rfl rfl (by decide) (Nat.le_of_ble_eq_true rfl) (Nat.le_of_ble_eq_true rfl) (Nat.le_of_ble_eq_true rfl) (fun r w hp => ?_) (fun _ _ _ z => z.elim)
                obtain ⟨o13879, o13880, o13881, rfl, rfl, bo13879, bo13880, bo13881, x13882⟩ := hp
                change G _ _ _ _ _ _ _ _ _ _ _
                refine G_ws (ws' := [(q13794, .inr (14, [.ref q13795, .int o13879, .int o13880, .int o13807, .int o13881])), (q13795, .inr (15, [.ref q13796, .int p13801])), (q13796, .inl (I .byte, 8192, .inl f13802))]) (cs' := 0) (sl' := 0) rfl rfl rfl ?_
                exact G_vret d_cX9_advance_194 rfl (Nat.le_of_ble_eq_true rfl) (Nat.le_of_ble_eq_true rfl) ⟨o13879, o13880, o13807, o13881, rfl, rfl, (gB_w bo13879 (by decide) (by decide)), (gB_w bo13880 (by decide) (by decide)), (gB_w bo13807'' (by decide) (by decide)), bo13881, (by have qa0 : Int32.toInt (-1) = (-1) := (by decide); have qa1 : Int32.toInt 1 = 1 := (by decide); omega)⟩
              · have r13814''' : gB z13811 97 255 := ⟨by omega, by omega⟩
                have r13814'''' : gB z13811 123 255 := ⟨by omega, by omega⟩
                change G _ _ _ _ _ _ _ (.int 0 :: _) _ _ _
                refine G_ws (ws' := [(q13794, .inr (14, [.ref q13795, .int p13797, .int 0, .int o13807, .int p13800])), (q13795, .inr (15, [.ref q13796, .int p13801])), (q13796, .inl (I .byte, 8192, .inl f13802))]) (cs' := 0) (sl' := 0) rfl rfl rfl ?_
                refine G_if_eq 188 d_cX9_advance_178 (by decide +kernel) (fun _ => ?_) (fun hc => absurd hc (by decide))
                refine G_aload_n 3 d_cX9_advance_188 rfl ?_
                refine G_iload_n 1 d_cX9_advance_189 rfl ?_
                refine G_iload_n 0 d_cX9_advance_190 rfl ?_
                refine G_callV (As := [.int z13811, .int (-1)]) (wr := []) (gV_ok D I) (ct_13760_Signs_takeMark l hl0 D I q13794 q13795 q13796 z13811 (-1) p13797 0 o13807 p13800 p13801 f13802 (gB_w bp13801' (by decide) (by decide)) bf13802 (by have qa0 : Int32.toInt (-1) = (-1) := (by decide); have qa1 : Int32.toInt 0 = 0 := (by decide); omega)) d_cX9_advance_191 ⟨w_3_109, w_1_4, w_3_112, by decide, rfl, (Nat.le_of_ble_eq_true rfl), (Nat.le_of_ble_eq_true rfl)⟩ w_3_111 w_p_6 0 rfl rfl [0, 1, 2] [] rfl rfl rfl rfl (by decide) (Nat.le_of_ble_eq_true rfl) (Nat.le_of_ble_eq_true rfl) (Nat.le_of_ble_eq_true rfl) (fun r w hp => ?_) (fun _ _ _ z => z.elim)
                obtain ⟨o13883, o13884, o13885, rfl, rfl, bo13883, bo13884, bo13885, x13886⟩ := hp
                change G _ _ _ _ _ _ _ _ _ _ _
                refine G_ws (ws' := [(q13794, .inr (14, [.ref q13795, .int o13883, .int o13884, .int o13807, .int o13885])), (q13795, .inr (15, [.ref q13796, .int p13801])), (q13796, .inl (I .byte, 8192, .inl f13802))]) (cs' := 0) (sl' := 0) rfl rfl rfl ?_
                exact G_vret d_cX9_advance_194 rfl (Nat.le_of_ble_eq_true rfl) (Nat.le_of_ble_eq_true rfl) ⟨o13883, o13884, o13807, o13885, rfl, rfl, (gB_w bo13883 (by decide) (by decide)), (gB_w bo13884 (by decide) (by decide)), (gB_w bo13807'' (by decide) (by decide)), bo13885, (by have qa0 : Int32.toInt (-1) = (-1) := (by decide); have qa1 : Int32.toInt 1 = 1 := (by decide); omega)⟩
              · have r13814''' : gB z13811 97 255 := ⟨by omega, by omega⟩
                have r13814'''' : gB z13811 97 122 := ⟨by omega, by omega⟩
                change G _ _ _ _ _ _ _ (.int 1 :: _) _ _ _
                refine G_ws (ws' := [(q13794, .inr (14, [.ref q13795, .int p13797, .int 0, .int o13807, .int p13800])), (q13795, .inr (15, [.ref q13796, .int p13801])), (q13796, .inl (I .byte, 8192, .inl f13802))]) (cs' := 0) (sl' := 0) rfl rfl rfl ?_
                refine G_if_eq 188 d_cX9_advance_178 (by decide +kernel) (fun hc => absurd hc (by decide)) (fun _ => ?_)
                refine G_aload_n 3 d_cX9_advance_181 rfl ?_
                refine G_callV (As := []) (wr := []) (gV_ok D I) (ct_12941_Signs_takeWord l hl0 D I q13794 q13795 q13796 p13797 0 o13807 p13800 p13801 f13802 (gB_w bp13801' (by decide) (by decide)) bf13802 (by have qa0 : Int32.toInt 0 = 0 := (by decide); omega)) d_cX9_advance_182 ⟨w_3_48, w_1_4, w_3_51, by decide, rfl, (Nat.le_of_ble_eq_true rfl), (Nat.le_of_ble_eq_true rfl)⟩ w_3_50 w_p_4 0 rfl rfl [0, 1, 2] [] rfl rfl rfl rfl (by decide) (Nat.le_of_ble_eq_true rfl) (Nat.le_of_ble_eq_true rfl) (Nat.le_of_ble_eq_true rfl) (fun r w hp => ?_) (fun _ _ _ z => z.elim)
                obtain ⟨o13887, o13888, rfl, rfl, bo13887, bo13888, x13889⟩ := hp
                rw [show Int32.toInt 0 = 0 from by decide] at x13889
                change G _ _ _ _ _ _ _ _ _ _ _
                refine G_ws (ws' := [(q13794, .inr (14, [.ref q13795, .int o13887, .int 0, .int o13807, .int o13888])), (q13795, .inr (15, [.ref q13796, .int p13801])), (q13796, .inl (I .byte, 8192, .inl f13802))]) (cs' := 0) (sl' := 0) rfl rfl rfl ?_
                refine G_goto 194 d_cX9_advance_185 (by decide +kernel) ?_
                exact G_vret d_cX9_advance_194 rfl (Nat.le_of_ble_eq_true rfl) (Nat.le_of_ble_eq_true rfl) ⟨o13887, 0, o13807, o13888, rfl, rfl, bo13887, (gB_w (gBl (show Int32.toInt 0 = 0 by decide)) (by decide) (by decide)), (gB_w bo13807'' (by decide) (by decide)), bo13888, (by have qa0 : Int32.toInt (-1) = (-1) := (by decide); have qa1 : Int32.toInt 0 = 0 := (by decide); have qa2 : Int32.toInt 1 = 1 := (by decide); omega)⟩
            · have r13890 : z13811.toInt = 98 := gj_eq hc13872 (show Int32.toInt 98 = 98 by decide)
              have r13814''' : gB z13811 98 98 := ⟨by omega, by omega⟩
              refine G_iload_n 0 d_cX9_advance_157 rfl ?_
              refine G_callS (As := [.int (-1)]) (wr := [(q13794, .inr (14, [.ref q13795, .int p13797, .int 0, .int o13807, .int p13800])), (q13795, .inr (15, [.ref q13796, .int p13801])), (q13796, .inl (I .byte, 8192, .inl f13802))]) (gV_ok D I) (ct_300_Signs_isDigit l hl0 D I (-1) ) d_cX9_advance_158 ⟨w_3_24, w_1_4, w_3_26, by decide, rfl, (Nat.le_of_ble_eq_true rfl), (Nat.le_of_ble_eq_true rfl)⟩ w_3_25 [] [0, 1, 2] rfl rfl rfl rfl (by decide) (Nat.le_of_ble_eq_true rfl) (Nat.le_of_ble_eq_true rfl) (Nat.le_of_ble_eq_true rfl) (fun r w hp => ?_) (fun _ _ _ z => z.elim)
              rcases hp with ⟨rfl, rfl, r13891⟩ | ⟨rfl, rfl, r13892, r13893⟩ | ⟨rfl, rfl, r13894, r13895⟩
              · rw [show Int32.toInt (-1) = (-1) from by decide] at r13891
                change G _ _ _ _ _ _ _ (.int 0 :: _) _ _ _
                refine G_ws (ws' := [(q13794, .inr (14, [.ref q13795, .int p13797, .int 0, .int o13807, .int p13800])), (q13795, .inr (15, [.ref q13796, .int p13801])), (q13796, .inl (I .byte, 8192, .inl f13802))]) (cs' := 0) (sl' := 0) rfl rfl rfl ?_
                refine G_if_eq 174 d_cX9_advance_161 (by decide +kernel) (fun _ => ?_) (fun hc => absurd hc (by decide))
                refine G_iload_n 1 d_cX9_advance_174 rfl ?_
                refine G_callS (As := [.int z13811]) (wr := [(q13794, .inr (14, [.ref q13795, .int p13797, .int 0, .int o13807, .int p13800])), (q13795, .inr (15, [.ref q13796, .int p13801])), (q13796, .inl (I .byte, 8192, .inl f13802))]) (gV_ok D I) (ct_308_Signs_isLetter l hl0 D I z13811 ) d_cX9_advance_175 ⟨w_3_45, w_1_4, w_3_47, by decide, rfl, (Nat.le_of_ble_eq_true rfl), (Nat.le_of_ble_eq_true rfl)⟩ w_3_46 [] [0, 1, 2] rfl rfl rfl rfl (by decide) (Nat.le_of_ble_eq_true rfl) (Nat.le_of_ble_eq_true rfl) (Nat.le_of_ble_eq_true rfl) (fun r w hp => ?_) (fun _ _ _ z => z.elim)
                rcases hp with ⟨rfl, rfl, r13896⟩ | ⟨rfl, rfl, r13897, r13898⟩ | ⟨rfl, rfl, r13899, r13900⟩
                · exact absurd (show False by omega) not_false
                · exact absurd (show False by omega) not_false
                · change G _ _ _ _ _ _ _ (.int 1 :: _) _ _ _
                  refine G_ws (ws' := [(q13794, .inr (14, [.ref q13795, .int p13797, .int 0, .int o13807, .int p13800])), (q13795, .inr (15, [.ref q13796, .int p13801])), (q13796, .inl (I .byte, 8192, .inl f13802))]) (cs' := 0) (sl' := 0) rfl rfl rfl ?_
                  refine G_if_eq 188 d_cX9_advance_178 (by decide +kernel) (fun hc => absurd hc (by decide)) (fun _ => ?_)
                  refine G_aload_n 3 d_cX9_advance_181 rfl ?_
                  refine G_callV (As := []) (wr := []) (gV_ok D I) (ct_12941_Signs_takeWord l hl0 D I q13794 q13795 q13796 p13797 0 o13807 p13800 p13801 f13802 (gB_w bp13801' (by decide) (by decide)) bf13802 (by have qa0 : Int32.toInt 0 = 0 := (by decide); omega)) d_cX9_advance_182 ⟨w_3_48, w_1_4, w_3_51, by decide, rfl, (Nat.le_of_ble_eq_true rfl), (Nat.le_of_ble_eq_true rfl)⟩ w_3_50 w_p_4 0 rfl rfl [0, 1, 2] [] rfl rfl rfl rfl (by decide) (Nat.le_of_ble_eq_true rfl) (Nat.le_of_ble_eq_true rfl) (Nat.le_of_ble_eq_true rfl) (fun r w hp => ?_) (fun _ _ _ z => z.elim)
                  obtain ⟨o13901, o13902, rfl, rfl, bo13901, bo13902, x13903⟩ := hp
                  rw [show Int32.toInt 0 = 0 from by decide] at x13903
                  change G _ _ _ _ _ _ _ _ _ _ _
                  refine G_ws (ws' := [(q13794, .inr (14, [.ref q13795, .int o13901, .int 0, .int o13807, .int o13902])), (q13795, .inr (15, [.ref q13796, .int p13801])), (q13796, .inl (I .byte, 8192, .inl f13802))]) (cs' := 0) (sl' := 0) rfl rfl rfl ?_
                  refine G_goto 194 d_cX9_advance_185 (by decide +kernel) ?_
                  exact G_vret d_cX9_advance_194 rfl (Nat.le_of_ble_eq_true rfl) (Nat.le_of_ble_eq_true rfl) ⟨o13901, 0, o13807, o13902, rfl, rfl, bo13901, (gB_w (gBl (show Int32.toInt 0 = 0 by decide)) (by decide) (by decide)), (gB_w bo13807'' (by decide) (by decide)), bo13902, (by have qa0 : Int32.toInt (-1) = (-1) := (by decide); have qa1 : Int32.toInt 0 = 0 := (by decide); have qa2 : Int32.toInt 1 = 1 := (by decide); omega)⟩
              · rw [show Int32.toInt (-1) = (-1) from by decide] at r13892
                exact absurd (show False by omega) not_false
              · rw [show Int32.toInt (-1) = (-1) from by decide] at r13894
                exact absurd (show False by omega) not_false
          · have r13904 : z13811.toInt = 118 := gj_eq hc13870 (show Int32.toInt 118 = 118 by decide)
            have r13814''' : gB z13811 118 118 := ⟨by omega, by omega⟩
            refine G_iload_n 0 d_cX9_advance_134 rfl ?_
            refine G_callS (As := [.int (-1)]) (wr := [(q13794, .inr (14, [.ref q13795, .int p13797, .int 0, .int o13807, .int p13800])), (q13795, .inr (15, [.ref q13796, .int p13801])), (q13796, .inl (I .byte, 8192, .inl f13802))]) (gV_ok D I) (ct_300_Signs_isDigit l hl0 D I (-1) ) d_cX9_advance_135 ⟨w_3_24, w_1_4, w_3_26, by decide, rfl, (Nat.le_of_ble_eq_true rfl), (Nat.le_of_ble_eq_true rfl)⟩ w_3_25 [] [0, 1, 2] rfl rfl rfl rfl (by decide) (Nat.le_of_ble_eq_true rfl) (Nat.le_of_ble_eq_true rfl) (Nat.le_of_ble_eq_true rfl) (fun r w hp => ?_) (fun _ _ _ z => z.elim)
            rcases hp with ⟨rfl, rfl, r13905⟩ | ⟨rfl, rfl, r13906, r13907⟩ | ⟨rfl, rfl, r13908, r13909⟩
            · rw [show Int32.toInt (-1) = (-1) from by decide] at r13905
              change G _ _ _ _ _ _ _ (.int 0 :: _) _ _ _
              refine G_ws (ws' := [(q13794, .inr (14, [.ref q13795, .int p13797, .int 0, .int o13807, .int p13800])), (q13795, .inr (15, [.ref q13796, .int p13801])), (q13796, .inl (I .byte, 8192, .inl f13802))]) (cs' := 0) (sl' := 0) rfl rfl rfl ?_
              refine G_if_eq 151 d_cX9_advance_138 (by decide +kernel) (fun _ => ?_) (fun hc => absurd hc (by decide))
              refine G_iload_n 1 d_cX9_advance_151 rfl ?_
              refine G_bipush 98 d_cX9_advance_152 (by decide +kernel) ?_
              refine G_icmp_ne 174 d_cX9_advance_154 (by decide +kernel) (fun _ => ?_) (fun hc => absurd (show False by have := gj_eq hc (show Int32.toInt 98 = 98 by decide); omega) not_false)
              refine G_iload_n 1 d_cX9_advance_174 rfl ?_
              refine G_callS (As := [.int z13811]) (wr := [(q13794, .inr (14, [.ref q13795, .int p13797, .int 0, .int o13807, .int p13800])), (q13795, .inr (15, [.ref q13796, .int p13801])), (q13796, .inl (I .byte, 8192, .inl f13802))]) (gV_ok D I) (ct_308_Signs_isLetter l hl0 D I z13811 ) d_cX9_advance_175 ⟨w_3_45, w_1_4, w_3_47, by decide, rfl, (Nat.le_of_ble_eq_true rfl), (Nat.le_of_ble_eq_true rfl)⟩ w_3_46 [] [0, 1, 2] rfl rfl rfl rfl (by decide) (Nat.le_of_ble_eq_true rfl) (Nat.le_of_ble_eq_true rfl) (Nat.le_of_ble_eq_true rfl) (fun r w hp => ?_) (fun _ _ _ z => z.elim)
              rcases hp with ⟨rfl, rfl, r13910⟩ | ⟨rfl, rfl, r13911, r13912⟩ | ⟨rfl, rfl, r13913, r13914⟩
              · exact absurd (show False by omega) not_false
              · exact absurd (show False by omega) not_false
              · change G _ _ _ _ _ _ _ (.int 1 :: _) _ _ _
                refine G_ws (ws' := [(q13794, .inr (14, [.ref q13795, .int p13797, .int 0, .int o13807, .int p13800])), (q13795, .inr (15, [.ref q13796, .int p13801])), (q13796, .inl (I .byte, 8192, .inl f13802))]) (cs' := 0) (sl' := 0) rfl rfl rfl ?_
                refine G_if_eq 188 d_cX9_advance_178 (by decide +kernel) (fun hc => absurd hc (by decide)) (fun _ => ?_)
                refine G_aload_n 3 d_cX9_advance_181 rfl ?_
                refine G_callV (As := []) (wr := []) (gV_ok D I) (ct_12941_Signs_takeWord l hl0 D I q13794 q13795 q13796 p13797 0 o13807 p13800 p13801 f13802 (gB_w bp13801' (by decide) (by decide)) bf13802 (by have qa0 : Int32.toInt 0 = 0 := (by decide); omega)) d_cX9_advance_182 ⟨w_3_48, w_1_4, w_3_51, by decide, rfl, (Nat.le_of_ble_eq_true rfl), (Nat.le_of_ble_eq_true rfl)⟩ w_3_50 w_p_4 0 rfl rfl [0, 1, 2] [] rfl rfl rfl rfl (by decide) (Nat.le_of_ble_eq_true rfl) (Nat.le_of_ble_eq_true rfl) (Nat.le_of_ble_eq_true rfl) (fun r w hp => ?_) (fun _ _ _ z => z.elim)
                obtain ⟨o13915, o13916, rfl, rfl, bo13915, bo13916, x13917⟩ := hp
                rw [show Int32.toInt 0 = 0 from by decide] at x13917
                change G _ _ _ _ _ _ _ _ _ _ _
                refine G_ws (ws' := [(q13794, .inr (14, [.ref q13795, .int o13915, .int 0, .int o13807, .int o13916])), (q13795, .inr (15, [.ref q13796, .int p13801])), (q13796, .inl (I .byte, 8192, .inl f13802))]) (cs' := 0) (sl' := 0) rfl rfl rfl ?_
                refine G_goto 194 d_cX9_advance_185 (by decide +kernel) ?_
                exact G_vret d_cX9_advance_194 rfl (Nat.le_of_ble_eq_true rfl) (Nat.le_of_ble_eq_true rfl) ⟨o13915, 0, o13807, o13916, rfl, rfl, bo13915, (gB_w (gBl (show Int32.toInt 0 = 0 by decide)) (by decide) (by decide)), (gB_w bo13807'' (by decide) (by decide)), bo13916, (by have qa0 : Int32.toInt (-1) = (-1) := (by decide); have qa1 : Int32.toInt 0 = 0 := (by decide); have qa2 : Int32.toInt 1 = 1 := (by decide); omega)⟩
            · rw [show Int32.toInt (-1) = (-1) from by decide] at r13906
              exact absurd (show False by omega) not_false
            · rw [show Int32.toInt (-1) = (-1) from by decide] at r13908
              exact absurd (show False by omega) not_false
        · have r13814' : gB z13811 48 255 := ⟨by omega, by omega⟩
          have r13814'' : gB z13811 48 57 := ⟨by omega, by omega⟩
          change G _ _ _ _ _ _ _ (.int 1 :: _) _ _ _
          refine G_ws (ws' := [(q13794, .inr (14, [.ref q13795, .int p13797, .int 0, .int o13807, .int p13800])), (q13795, .inr (15, [.ref q13796, .int p13801])), (q13796, .inl (I .byte, 8192, .inl f13802))]) (cs' := 0) (sl' := 0) rfl rfl rfl ?_
          refine G_if_ne 110 d_cX9_advance_90 (by decide +kernel) (fun _ => ?_) (fun hc => absurd hc (by decide))
          refine G_aload_n 3 d_cX9_advance_110 rfl ?_
          refine G_iload_n 1 d_cX9_advance_111 rfl ?_
          refine G_bipush 45 d_cX9_advance_112 (by decide +kernel) ?_
          refine G_icmp_ne 121 d_cX9_advance_114 (by decide +kernel) (fun _ => ?_) (fun hc => absurd (show False by have := gj_eq hc (show Int32.toInt 45 = 45 by decide); omega) not_false)
          refine G_iconst 0 d_cX9_advance_121 (by decide +kernel) ?_
          refine G_callV (As := [.int 0]) (wr := []) (gV_ok D I) (ct_624_Signs_takeNumber l hl0 D I q13794 q13795 q13796 0 p13797 0 o13807 p13800 p13801 f13802 (gB_w (gBl (show Int32.toInt 0 = 0 by decide)) (by decide) (by decide)) (gB_w bp13801' (by decide) (by decide)) bf13802 (by have qa0 : Int32.toInt 0 = 0 := (by decide); omega)) d_cX9_advance_122 ⟨w_3_27, w_1_4, w_3_30, by decide, rfl, (Nat.le_of_ble_eq_true rfl), (Nat.le_of_ble_eq_true rfl)⟩ w_3_29 w_p_1 0 rfl rfl [0, 1, 2] [] rfl rfl rfl rfl (by decide) (Nat.le_of_ble_eq_true rfl) (Nat.le_of_ble_eq_true rfl) (Nat.le_of_ble_eq_true rfl) (fun r w hp => ?_) (fun _ _ _ z => z.elim)
          obtain ⟨o13918, o13919, o13920, rfl, rfl, bo13918, bo13919, bo13920, x13921⟩ := hp
          change G _ _ _ _ _ _ _ _ _ _ _
          refine G_ws (ws' := [(q13794, .inr (14, [.ref q13795, .int o13918, .int o13919, .int o13807, .int o13920])), (q13795, .inr (15, [.ref q13796, .int p13801])), (q13796, .inl (I .byte, 8192, .inl f13802))]) (cs' := 0) (sl' := 0) rfl rfl rfl ?_
          refine G_goto 194 d_cX9_advance_125 (by decide +kernel) ?_
          exact G_vret d_cX9_advance_194 rfl (Nat.le_of_ble_eq_true rfl) (Nat.le_of_ble_eq_true rfl) ⟨o13918, o13919, o13807, o13920, rfl, rfl, (gB_w bo13918 (by decide) (by decide)), bo13919, (gB_w bo13807'' (by decide) (by decide)), bo13920, (by have qa0 : Int32.toInt (-1) = (-1) := (by decide); have qa1 : Int32.toInt 1 = 1 := (by decide); omega)⟩
      · have bz13831' : gB z13831 1 8191 := ⟨by omega, by omega⟩
        have bp13801'' : gB p13801 2 8192 := ⟨by omega, by omega⟩
        change G _ _ _ _ _ _ _ (.int z13835 :: _) _ _ _
        refine G_ws (ws' := [(q13794, .inr (14, [.ref q13795, .int p13797, .int p13798, .int o13807, .int p13800])), (q13795, .inr (15, [.ref q13796, .int p13801])), (q13796, .inl (I .byte, 8192, .inl f13802))]) (cs' := 0) (sl' := 0) rfl rfl rfl ?_
        refine G_istore_n (L' := [(3, .int z13835), (2, .int z13811), (1, .int 1), (0, .ref q13794)]) d_cX9_advance_59 (Nat.le_of_ble_eq_true rfl) rfl ?_
        refine G_aload_n 3 d_cX9_advance_60 rfl ?_
        refine G_iconst 0 d_cX9_advance_61 (by decide +kernel) ?_
        refine G_putf (ws' := [(q13794, .inr (14, [.ref q13795, .int p13797, .int 0, .int o13807, .int p13800])), (q13795, .inr (15, [.ref q13796, .int p13801])), (q13796, .inl (I .byte, 8192, .inl f13802))]) 0 2 d_cX9_advance_62 rfl (gk_X9 D I) (Nat.le_of_ble_eq_true rfl) w_1_81 rfl rfl rfl (Nat.le_of_ble_eq_true rfl) rfl ?_
        refine G_iload_n 1 d_cX9_advance_65 rfl ?_
        refine G_iconst (-1) d_cX9_advance_66 (by decide +kernel) ?_
        refine G_icmp_ne 86 d_cX9_advance_67 (by decide +kernel) (fun _ => ?_) (fun hc => absurd (show False by have := gj_eq hc (show Int32.toInt (-1) = (-1) by decide); omega) not_false)
        refine G_iload_n 1 d_cX9_advance_86 rfl ?_
        refine G_callS (As := [.int z13811]) (wr := [(q13794, .inr (14, [.ref q13795, .int p13797, .int 0, .int o13807, .int p13800])), (q13795, .inr (15, [.ref q13796, .int p13801])), (q13796, .inl (I .byte, 8192, .inl f13802))]) (gV_ok D I) (ct_300_Signs_isDigit l hl0 D I z13811 ) d_cX9_advance_87 ⟨w_3_24, w_1_4, w_3_26, by decide, rfl, (Nat.le_of_ble_eq_true rfl), (Nat.le_of_ble_eq_true rfl)⟩ w_3_25 [] [0, 1, 2] rfl rfl rfl rfl (by decide) (Nat.le_of_ble_eq_true rfl) (Nat.le_of_ble_eq_true rfl) (Nat.le_of_ble_eq_true rfl) (fun r w hp => ?_) (fun _ _ _ z => z.elim)
        rcases hp with ⟨rfl, rfl, r13922⟩ | ⟨rfl, rfl, r13923, r13924⟩ | ⟨rfl, rfl, r13925, r13926⟩
        · have r13814' : gB z13811 0 47 := ⟨by omega, by omega⟩
          change G _ _ _ _ _ _ _ (.int 0 :: _) _ _ _
          refine G_ws (ws' := [(q13794, .inr (14, [.ref q13795, .int p13797, .int 0, .int o13807, .int p13800])), (q13795, .inr (15, [.ref q13796, .int p13801])), (q13796, .inl (I .byte, 8192, .inl f13802))]) (cs' := 0) (sl' := 0) rfl rfl rfl ?_
          refine G_if_ne 110 d_cX9_advance_90 (by decide +kernel) (fun hc => absurd hc (by decide)) (fun _ => ?_)
          refine G_iload_n 1 d_cX9_advance_93 rfl ?_
          refine G_bipush 45 d_cX9_advance_94 (by decide +kernel) ?_
          refine G_icmp_ne 128 d_cX9_advance_96 (by decide +kernel) (fun hc13927 => ?_) (fun hc13927 => ?_)
          · have r13928 : z13811.toInt ≠ 45 := gj_neq hc13927 (show Int32.toInt 45 = 45 by decide)
            refine G_iload_n 1 d_cX9_advance_128 rfl ?_
            refine G_bipush 118 d_cX9_advance_129 (by decide +kernel) ?_
            refine G_icmp_ne 151 d_cX9_advance_131 (by decide +kernel) (fun _ => ?_) (fun hc => absurd (show False by have := gj_eq hc (show Int32.toInt 118 = 118 by decide); omega) not_false)
            refine G_iload_n 1 d_cX9_advance_151 rfl ?_
            refine G_bipush 98 d_cX9_advance_152 (by decide +kernel) ?_
            refine G_icmp_ne 174 d_cX9_advance_154 (by decide +kernel) (fun _ => ?_) (fun hc => absurd (show False by have := gj_eq hc (show Int32.toInt 98 = 98 by decide); omega) not_false)
            refine G_iload_n 1 d_cX9_advance_174 rfl ?_
            refine G_callS (As := [.int z13811]) (wr := [(q13794, .inr (14, [.ref q13795, .int p13797, .int 0, .int o13807, .int p13800])), (q13795, .inr (15, [.ref q13796, .int p13801])), (q13796, .inl (I .byte, 8192, .inl f13802))]) (gV_ok D I) (ct_308_Signs_isLetter l hl0 D I z13811 ) d_cX9_advance_175 ⟨w_3_45, w_1_4, w_3_47, by decide, rfl, (Nat.le_of_ble_eq_true rfl), (Nat.le_of_ble_eq_true rfl)⟩ w_3_46 [] [0, 1, 2] rfl rfl rfl rfl (by decide) (Nat.le_of_ble_eq_true rfl) (Nat.le_of_ble_eq_true rfl) (Nat.le_of_ble_eq_true rfl) (fun r w hp => ?_) (fun _ _ _ z => z.elim)
            rcases hp with ⟨rfl, rfl, r13929⟩ | ⟨rfl, rfl, r13930, r13931⟩ | ⟨rfl, rfl, r13932, r13933⟩
            · change G _ _ _ _ _ _ _ (.int 0 :: _) _ _ _
              refine G_ws (ws' := [(q13794, .inr (14, [.ref q13795, .int p13797, .int 0, .int o13807, .int p13800])), (q13795, .inr (15, [.ref q13796, .int p13801])), (q13796, .inl (I .byte, 8192, .inl f13802))]) (cs' := 0) (sl' := 0) rfl rfl rfl ?_
              refine G_if_eq 188 d_cX9_advance_178 (by decide +kernel) (fun _ => ?_) (fun hc => absurd hc (by decide))
              refine G_aload_n 3 d_cX9_advance_188 rfl ?_
              refine G_iload_n 1 d_cX9_advance_189 rfl ?_
              refine G_iload_n 0 d_cX9_advance_190 rfl ?_
              refine G_callV (As := [.int z13811, .int z13835]) (wr := []) (gV_ok D I) (ct_13760_Signs_takeMark l hl0 D I q13794 q13795 q13796 z13811 z13835 p13797 0 o13807 p13800 p13801 f13802 (gB_w bp13801'' (by decide) (by decide)) bf13802 (by have qa0 : Int32.toInt 0 = 0 := (by decide); omega)) d_cX9_advance_191 ⟨w_3_109, w_1_4, w_3_112, by decide, rfl, (Nat.le_of_ble_eq_true rfl), (Nat.le_of_ble_eq_true rfl)⟩ w_3_111 w_p_6 0 rfl rfl [0, 1, 2] [] rfl rfl rfl rfl (by decide) (Nat.le_of_ble_eq_true rfl) (Nat.le_of_ble_eq_true rfl) (Nat.le_of_ble_eq_true rfl) (fun r w hp => ?_) (fun _ _ _ z => z.elim)
              obtain ⟨o13934, o13935, o13936, rfl, rfl, bo13934, bo13935, bo13936, x13937⟩ := hp
              change G _ _ _ _ _ _ _ _ _ _ _
              refine G_ws (ws' := [(q13794, .inr (14, [.ref q13795, .int o13934, .int o13935, .int o13807, .int o13936])), (q13795, .inr (15, [.ref q13796, .int p13801])), (q13796, .inl (I .byte, 8192, .inl f13802))]) (cs' := 0) (sl' := 0) rfl rfl rfl ?_
              exact G_vret d_cX9_advance_194 rfl (Nat.le_of_ble_eq_true rfl) (Nat.le_of_ble_eq_true rfl) ⟨o13934, o13935, o13807, o13936, rfl, rfl, (gB_w bo13934 (by decide) (by decide)), (gB_w bo13935 (by decide) (by decide)), (gB_w bo13807'' (by decide) (by decide)), bo13936, (by have qa0 : Int32.toInt 1 = 1 := (by decide); omega)⟩
            · exact absurd (show False by omega) not_false
            · exact absurd (show False by omega) not_false
          · have r13938 : z13811.toInt = 45 := gj_eq hc13927 (show Int32.toInt 45 = 45 by decide)
            have r13814'' : gB z13811 45 45 := ⟨by omega, by omega⟩
            refine G_iload_n 0 d_cX9_advance_99 rfl ?_
            refine G_callS (As := [.int z13835]) (wr := [(q13794, .inr (14, [.ref q13795, .int p13797, .int 0, .int o13807, .int p13800])), (q13795, .inr (15, [.ref q13796, .int p13801])), (q13796, .inl (I .byte, 8192, .inl f13802))]) (gV_ok D I) (ct_300_Signs_isDigit l hl0 D I z13835 ) d_cX9_advance_100 ⟨w_3_24, w_1_4, w_3_26, by decide, rfl, (Nat.le_of_ble_eq_true rfl), (Nat.le_of_ble_eq_true rfl)⟩ w_3_25 [] [0, 1, 2] rfl rfl rfl rfl (by decide) (Nat.le_of_ble_eq_true rfl) (Nat.le_of_ble_eq_true rfl) (Nat.le_of_ble_eq_true rfl) (fun r w hp => ?_) (fun _ _ _ z => z.elim)
            rcases hp with ⟨rfl, rfl, r13939⟩ | ⟨rfl, rfl, r13940, r13941⟩ | ⟨rfl, rfl, r13942, r13943⟩
            · have r13838' : gB z13835 0 47 := ⟨by omega, by omega⟩
              change G _ _ _ _ _ _ _ (.int 0 :: _) _ _ _
              refine G_ws (ws' := [(q13794, .inr (14, [.ref q13795, .int p13797, .int 0, .int o13807, .int p13800])), (q13795, .inr (15, [.ref q13796, .int p13801])), (q13796, .inl (I .byte, 8192, .inl f13802))]) (cs' := 0) (sl' := 0) rfl rfl rfl ?_
              refine G_if_eq 128 d_cX9_advance_103 (by decide +kernel) (fun _ => ?_) (fun hc => absurd hc (by decide))
              refine G_iload_n 1 d_cX9_advance_128 rfl ?_
              refine G_bipush 118 d_cX9_advance_129 (by decide +kernel) ?_
              refine G_icmp_ne 151 d_cX9_advance_131 (by decide +kernel) (fun _ => ?_) (fun hc => absurd (show False by have := gj_eq hc (show Int32.toInt 118 = 118 by decide); omega) not_false)
              refine G_iload_n 1 d_cX9_advance_151 rfl ?_
              refine G_bipush 98 d_cX9_advance_152 (by decide +kernel) ?_
              refine G_icmp_ne 174 d_cX9_advance_154 (by decide +kernel) (fun _ => ?_) (fun hc => absurd (show False by have := gj_eq hc (show Int32.toInt 98 = 98 by decide); omega) not_false)
              refine G_iload_n 1 d_cX9_advance_174 rfl ?_
              refine G_callS (As := [.int z13811]) (wr := [(q13794, .inr (14, [.ref q13795, .int p13797, .int 0, .int o13807, .int p13800])), (q13795, .inr (15, [.ref q13796, .int p13801])), (q13796, .inl (I .byte, 8192, .inl f13802))]) (gV_ok D I) (ct_308_Signs_isLetter l hl0 D I z13811 ) d_cX9_advance_175 ⟨w_3_45, w_1_4, w_3_47, by decide, rfl, (Nat.le_of_ble_eq_true rfl), (Nat.le_of_ble_eq_true rfl)⟩ w_3_46 [] [0, 1, 2] rfl rfl rfl rfl (by decide) (Nat.le_of_ble_eq_true rfl) (Nat.le_of_ble_eq_true rfl) (Nat.le_of_ble_eq_true rfl) (fun r w hp => ?_) (fun _ _ _ z => z.elim)
              rcases hp with ⟨rfl, rfl, r13944⟩ | ⟨rfl, rfl, r13945, r13946⟩ | ⟨rfl, rfl, r13947, r13948⟩
              · change G _ _ _ _ _ _ _ (.int 0 :: _) _ _ _
                refine G_ws (ws' := [(q13794, .inr (14, [.ref q13795, .int p13797, .int 0, .int o13807, .int p13800])), (q13795, .inr (15, [.ref q13796, .int p13801])), (q13796, .inl (I .byte, 8192, .inl f13802))]) (cs' := 0) (sl' := 0) rfl rfl rfl ?_
                refine G_if_eq 188 d_cX9_advance_178 (by decide +kernel) (fun _ => ?_) (fun hc => absurd hc (by decide))
                refine G_aload_n 3 d_cX9_advance_188 rfl ?_
                refine G_iload_n 1 d_cX9_advance_189 rfl ?_
                refine G_iload_n 0 d_cX9_advance_190 rfl ?_
                refine G_callV (As := [.int z13811, .int z13835]) (wr := []) (gV_ok D I) (ct_13760_Signs_takeMark l hl0 D I q13794 q13795 q13796 z13811 z13835 p13797 0 o13807 p13800 p13801 f13802 (gB_w bp13801'' (by decide) (by decide)) bf13802 (by have qa0 : Int32.toInt 0 = 0 := (by decide); omega)) d_cX9_advance_191 ⟨w_3_109, w_1_4, w_3_112, by decide, rfl, (Nat.le_of_ble_eq_true rfl), (Nat.le_of_ble_eq_true rfl)⟩ w_3_111 w_p_6 0 rfl rfl [0, 1, 2] [] rfl rfl rfl rfl (by decide) (Nat.le_of_ble_eq_true rfl) (Nat.le_of_ble_eq_true rfl) (Nat.le_of_ble_eq_true rfl) (fun r w hp => ?_) (fun _ _ _ z => z.elim)
                obtain ⟨o13949, o13950, o13951, rfl, rfl, bo13949, bo13950, bo13951, x13952⟩ := hp
                change G _ _ _ _ _ _ _ _ _ _ _
                refine G_ws (ws' := [(q13794, .inr (14, [.ref q13795, .int o13949, .int o13950, .int o13807, .int o13951])), (q13795, .inr (15, [.ref q13796, .int p13801])), (q13796, .inl (I .byte, 8192, .inl f13802))]) (cs' := 0) (sl' := 0) rfl rfl rfl ?_
                exact G_vret d_cX9_advance_194 rfl (Nat.le_of_ble_eq_true rfl) (Nat.le_of_ble_eq_true rfl) ⟨o13949, o13950, o13807, o13951, rfl, rfl, (gB_w bo13949 (by decide) (by decide)), (gB_w bo13950 (by decide) (by decide)), (gB_w bo13807'' (by decide) (by decide)), bo13951, (by have qa0 : Int32.toInt 1 = 1 := (by decide); omega)⟩
              · exact absurd (show False by omega) not_false
              · exact absurd (show False by omega) not_false
            · have r13838' : gB z13835 48 255 := ⟨by omega, by omega⟩
              have r13838'' : gB z13835 58 255 := ⟨by omega, by omega⟩
              change G _ _ _ _ _ _ _ (.int 0 :: _) _ _ _
              refine G_ws (ws' := [(q13794, .inr (14, [.ref q13795, .int p13797, .int 0, .int o13807, .int p13800])), (q13795, .inr (15, [.ref q13796, .int p13801])), (q13796, .inl (I .byte, 8192, .inl f13802))]) (cs' := 0) (sl' := 0) rfl rfl rfl ?_
              refine G_if_eq 128 d_cX9_advance_103 (by decide +kernel) (fun _ => ?_) (fun hc => absurd hc (by decide))
              refine G_iload_n 1 d_cX9_advance_128 rfl ?_
              refine G_bipush 118 d_cX9_advance_129 (by decide +kernel) ?_
              refine G_icmp_ne 151 d_cX9_advance_131 (by decide +kernel) (fun _ => ?_) (fun hc => absurd (show False by have := gj_eq hc (show Int32.toInt 118 = 118 by decide); omega) not_false)
              refine G_iload_n 1 d_cX9_advance_151 rfl ?_
              refine G_bipush 98 d_cX9_advance_152 (by decide +kernel) ?_
              refine G_icmp_ne 174 d_cX9_advance_154 (by decide +kernel) (fun _ => ?_) (fun hc => absurd (show False by have := gj_eq hc (show Int32.toInt 98 = 98 by decide); omega) not_false)
              refine G_iload_n 1 d_cX9_advance_174 rfl ?_
              refine G_callS (As := [.int z13811]) (wr := [(q13794, .inr (14, [.ref q13795, .int p13797, .int 0, .int o13807, .int p13800])), (q13795, .inr (15, [.ref q13796, .int p13801])), (q13796, .inl (I .byte, 8192, .inl f13802))]) (gV_ok D I) (ct_308_Signs_isLetter l hl0 D I z13811 ) d_cX9_advance_175 ⟨w_3_45, w_1_4, w_3_47, by decide, rfl, (Nat.le_of_ble_eq_true rfl), (Nat.le_of_ble_eq_true rfl)⟩ w_3_46 [] [0, 1, 2] rfl rfl rfl rfl (by decide) (Nat.le_of_ble_eq_true rfl) (Nat.le_of_ble_eq_true rfl) (Nat.le_of_ble_eq_true rfl) (fun r w hp => ?_) (fun _ _ _ z => z.elim)
              rcases hp with ⟨rfl, rfl, r13953⟩ | ⟨rfl, rfl, r13954, r13955⟩ | ⟨rfl, rfl, r13956, r13957⟩
              · change G _ _ _ _ _ _ _ (.int 0 :: _) _ _ _
                refine G_ws (ws' := [(q13794, .inr (14, [.ref q13795, .int p13797, .int 0, .int o13807, .int p13800])), (q13795, .inr (15, [.ref q13796, .int p13801])), (q13796, .inl (I .byte, 8192, .inl f13802))]) (cs' := 0) (sl' := 0) rfl rfl rfl ?_
                refine G_if_eq 188 d_cX9_advance_178 (by decide +kernel) (fun _ => ?_) (fun hc => absurd hc (by decide))
                refine G_aload_n 3 d_cX9_advance_188 rfl ?_
                refine G_iload_n 1 d_cX9_advance_189 rfl ?_
                refine G_iload_n 0 d_cX9_advance_190 rfl ?_
                refine G_callV (As := [.int z13811, .int z13835]) (wr := []) (gV_ok D I) (ct_13760_Signs_takeMark l hl0 D I q13794 q13795 q13796 z13811 z13835 p13797 0 o13807 p13800 p13801 f13802 (gB_w bp13801'' (by decide) (by decide)) bf13802 (by have qa0 : Int32.toInt 0 = 0 := (by decide); omega)) d_cX9_advance_191 ⟨w_3_109, w_1_4, w_3_112, by decide, rfl, (Nat.le_of_ble_eq_true rfl), (Nat.le_of_ble_eq_true rfl)⟩ w_3_111 w_p_6 0 rfl rfl [0, 1, 2] [] rfl rfl rfl rfl (by decide) (Nat.le_of_ble_eq_true rfl) (Nat.le_of_ble_eq_true rfl) (Nat.le_of_ble_eq_true rfl) (fun r w hp => ?_) (fun _ _ _ z => z.elim)
                obtain ⟨o13958, o13959, o13960, rfl, rfl, bo13958, bo13959, bo13960, x13961⟩ := hp
                change G _ _ _ _ _ _ _ _ _ _ _
                refine G_ws (ws' := [(q13794, .inr (14, [.ref q13795, .int o13958, .int o13959, .int o13807, .int o13960])), (q13795, .inr (15, [.ref q13796, .int p13801])), (q13796, .inl (I .byte, 8192, .inl f13802))]) (cs' := 0) (sl' := 0) rfl rfl rfl ?_
                exact G_vret d_cX9_advance_194 rfl (Nat.le_of_ble_eq_true rfl) (Nat.le_of_ble_eq_true rfl) ⟨o13958, o13959, o13807, o13960, rfl, rfl, (gB_w bo13958 (by decide) (by decide)), (gB_w bo13959 (by decide) (by decide)), (gB_w bo13807'' (by decide) (by decide)), bo13960, (by have qa0 : Int32.toInt 1 = 1 := (by decide); omega)⟩
              · exact absurd (show False by omega) not_false
              · exact absurd (show False by omega) not_false
            · have r13838' : gB z13835 48 255 := ⟨by omega, by omega⟩
              have r13838'' : gB z13835 48 57 := ⟨by omega, by omega⟩
              change G _ _ _ _ _ _ _ (.int 1 :: _) _ _ _
              refine G_ws (ws' := [(q13794, .inr (14, [.ref q13795, .int p13797, .int 0, .int o13807, .int p13800])), (q13795, .inr (15, [.ref q13796, .int p13801])), (q13796, .inl (I .byte, 8192, .inl f13802))]) (cs' := 0) (sl' := 0) rfl rfl rfl ?_
              refine G_if_eq 128 d_cX9_advance_103 (by decide +kernel) (fun hc => absurd hc (by decide)) (fun _ => ?_)
              refine G_iload_n 2 d_cX9_advance_106 rfl ?_
              refine G_if_ne 128 d_cX9_advance_107 (by decide +kernel) (fun _ => ?_) (fun hc => absurd hc (by decide))
              refine G_iload_n 1 d_cX9_advance_128 rfl ?_
              refine G_bipush 118 d_cX9_advance_129 (by decide +kernel) ?_
              refine G_icmp_ne 151 d_cX9_advance_131 (by decide +kernel) (fun _ => ?_) (fun hc => absurd (show False by have := gj_eq hc (show Int32.toInt 118 = 118 by decide); omega) not_false)
              refine G_iload_n 1 d_cX9_advance_151 rfl ?_
              refine G_bipush 98 d_cX9_advance_152 (by decide +kernel) ?_
              refine G_icmp_ne 174 d_cX9_advance_154 (by decide +kernel) (fun _ => ?_) (fun hc => absurd (show False by have := gj_eq hc (show Int32.toInt 98 = 98 by decide); omega) not_false)
              refine G_iload_n 1 d_cX9_advance_174 rfl ?_
              refine G_callS (As := [.int z13811]) (wr := [(q13794, .inr (14, [.ref q13795, .int p13797, .int 0, .int o13807, .int p13800])), (q13795, .inr (15, [.ref q13796, .int p13801])), (q13796, .inl (I .byte, 8192, .inl f13802))]) (gV_ok D I) (ct_308_Signs_isLetter l hl0 D I z13811 ) d_cX9_advance_175 ⟨w_3_45, w_1_4, w_3_47, by decide, rfl, (Nat.le_of_ble_eq_true rfl), (Nat.le_of_ble_eq_true rfl)⟩ w_3_46 [] [0, 1, 2] rfl rfl rfl rfl (by decide) (Nat.le_of_ble_eq_true rfl) (Nat.le_of_ble_eq_true rfl) (Nat.le_of_ble_eq_true rfl) (fun r w hp => ?_) (fun _ _ _ z => z.elim)
              rcases hp with ⟨rfl, rfl, r13962⟩ | ⟨rfl, rfl, r13963, r13964⟩ | ⟨rfl, rfl, r13965, r13966⟩
              · change G _ _ _ _ _ _ _ (.int 0 :: _) _ _ _
                refine G_ws (ws' := [(q13794, .inr (14, [.ref q13795, .int p13797, .int 0, .int o13807, .int p13800])), (q13795, .inr (15, [.ref q13796, .int p13801])), (q13796, .inl (I .byte, 8192, .inl f13802))]) (cs' := 0) (sl' := 0) rfl rfl rfl ?_
                refine G_if_eq 188 d_cX9_advance_178 (by decide +kernel) (fun _ => ?_) (fun hc => absurd hc (by decide))
                refine G_aload_n 3 d_cX9_advance_188 rfl ?_
                refine G_iload_n 1 d_cX9_advance_189 rfl ?_
                refine G_iload_n 0 d_cX9_advance_190 rfl ?_
                refine G_callV (As := [.int z13811, .int z13835]) (wr := []) (gV_ok D I) (ct_13760_Signs_takeMark l hl0 D I q13794 q13795 q13796 z13811 z13835 p13797 0 o13807 p13800 p13801 f13802 (gB_w bp13801'' (by decide) (by decide)) bf13802 (by have qa0 : Int32.toInt 0 = 0 := (by decide); omega)) d_cX9_advance_191 ⟨w_3_109, w_1_4, w_3_112, by decide, rfl, (Nat.le_of_ble_eq_true rfl), (Nat.le_of_ble_eq_true rfl)⟩ w_3_111 w_p_6 0 rfl rfl [0, 1, 2] [] rfl rfl rfl rfl (by decide) (Nat.le_of_ble_eq_true rfl) (Nat.le_of_ble_eq_true rfl) (Nat.le_of_ble_eq_true rfl) (fun r w hp => ?_) (fun _ _ _ z => z.elim)
                obtain ⟨o13967, o13968, o13969, rfl, rfl, bo13967, bo13968, bo13969, x13970⟩ := hp
                change G _ _ _ _ _ _ _ _ _ _ _
                refine G_ws (ws' := [(q13794, .inr (14, [.ref q13795, .int o13967, .int o13968, .int o13807, .int o13969])), (q13795, .inr (15, [.ref q13796, .int p13801])), (q13796, .inl (I .byte, 8192, .inl f13802))]) (cs' := 0) (sl' := 0) rfl rfl rfl ?_
                exact G_vret d_cX9_advance_194 rfl (Nat.le_of_ble_eq_true rfl) (Nat.le_of_ble_eq_true rfl) ⟨o13967, o13968, o13807, o13969, rfl, rfl, (gB_w bo13967 (by decide) (by decide)), (gB_w bo13968 (by decide) (by decide)), (gB_w bo13807'' (by decide) (by decide)), bo13969, (by have qa0 : Int32.toInt 1 = 1 := (by decide); omega)⟩
              · exact absurd (show False by omega) not_false
              · exact absurd (show False by omega) not_false
        · have r13814' : gB z13811 48 255 := ⟨by omega, by omega⟩
          have r13814'' : gB z13811 58 255 := ⟨by omega, by omega⟩
          change G _ _ _ _ _ _ _ (.int 0 :: _) _ _ _
          refine G_ws (ws' := [(q13794, .inr (14, [.ref q13795, .int p13797, .int 0, .int o13807, .int p13800])), (q13795, .inr (15, [.ref q13796, .int p13801])), (q13796, .inl (I .byte, 8192, .inl f13802))]) (cs' := 0) (sl' := 0) rfl rfl rfl ?_
          refine G_if_ne 110 d_cX9_advance_90 (by decide +kernel) (fun hc => absurd hc (by decide)) (fun _ => ?_)
          refine G_iload_n 1 d_cX9_advance_93 rfl ?_
          refine G_bipush 45 d_cX9_advance_94 (by decide +kernel) ?_
          refine G_icmp_ne 128 d_cX9_advance_96 (by decide +kernel) (fun _ => ?_) (fun hc => absurd (show False by have := gj_eq hc (show Int32.toInt 45 = 45 by decide); omega) not_false)
          refine G_iload_n 1 d_cX9_advance_128 rfl ?_
          refine G_bipush 118 d_cX9_advance_129 (by decide +kernel) ?_
          refine G_icmp_ne 151 d_cX9_advance_131 (by decide +kernel) (fun hc13971 => ?_) (fun hc13971 => ?_)
          · have r13972 : z13811.toInt ≠ 118 := gj_neq hc13971 (show Int32.toInt 118 = 118 by decide)
            refine G_iload_n 1 d_cX9_advance_151 rfl ?_
            refine G_bipush 98 d_cX9_advance_152 (by decide +kernel) ?_
            refine G_icmp_ne 174 d_cX9_advance_154 (by decide +kernel) (fun hc13973 => ?_) (fun hc13973 => ?_)
            · have r13974 : z13811.toInt ≠ 98 := gj_neq hc13973 (show Int32.toInt 98 = 98 by decide)
              refine G_iload_n 1 d_cX9_advance_174 rfl ?_
              refine G_callS (As := [.int z13811]) (wr := [(q13794, .inr (14, [.ref q13795, .int p13797, .int 0, .int o13807, .int p13800])), (q13795, .inr (15, [.ref q13796, .int p13801])), (q13796, .inl (I .byte, 8192, .inl f13802))]) (gV_ok D I) (ct_308_Signs_isLetter l hl0 D I z13811 ) d_cX9_advance_175 ⟨w_3_45, w_1_4, w_3_47, by decide, rfl, (Nat.le_of_ble_eq_true rfl), (Nat.le_of_ble_eq_true rfl)⟩ w_3_46 [] [0, 1, 2] rfl rfl rfl rfl (by decide) (Nat.le_of_ble_eq_true rfl) (Nat.le_of_ble_eq_true rfl) (Nat.le_of_ble_eq_true rfl) (fun r w hp => ?_) (fun _ _ _ z => z.elim)
              rcases hp with ⟨rfl, rfl, r13975⟩ | ⟨rfl, rfl, r13976, r13977⟩ | ⟨rfl, rfl, r13978, r13979⟩
              · have r13814''' : gB z13811 58 96 := ⟨by omega, by omega⟩
                change G _ _ _ _ _ _ _ (.int 0 :: _) _ _ _
                refine G_ws (ws' := [(q13794, .inr (14, [.ref q13795, .int p13797, .int 0, .int o13807, .int p13800])), (q13795, .inr (15, [.ref q13796, .int p13801])), (q13796, .inl (I .byte, 8192, .inl f13802))]) (cs' := 0) (sl' := 0) rfl rfl rfl ?_
                refine G_if_eq 188 d_cX9_advance_178 (by decide +kernel) (fun _ => ?_) (fun hc => absurd hc (by decide))
                refine G_aload_n 3 d_cX9_advance_188 rfl ?_
                refine G_iload_n 1 d_cX9_advance_189 rfl ?_
                refine G_iload_n 0 d_cX9_advance_190 rfl ?_
                refine G_callV (As := [.int z13811, .int z13835]) (wr := []) (gV_ok D I) (ct_13760_Signs_takeMark l hl0 D I q13794 q13795 q13796 z13811 z13835 p13797 0 o13807 p13800 p13801 f13802 (gB_w bp13801'' (by decide) (by decide)) bf13802 (by have qa0 : Int32.toInt 0 = 0 := (by decide); omega)) d_cX9_advance_191 ⟨w_3_109, w_1_4, w_3_112, by decide, rfl, (Nat.le_of_ble_eq_true rfl), (Nat.le_of_ble_eq_true rfl)⟩ w_3_111 w_p_6 0 rfl rfl [0, 1, 2] [] rfl rfl rfl rfl (by decide) (Nat.le_of_ble_eq_true rfl) (Nat.le_of_ble_eq_true rfl) (Nat.le_of_ble_eq_true rfl) (fun r w hp => ?_) (fun _ _ _ z => z.elim)
                obtain ⟨o13980, o13981, o13982, rfl, rfl, bo13980, bo13981, bo13982, x13983⟩ := hp
                change G _ _ _ _ _ _ _ _ _ _ _
                refine G_ws (ws' := [(q13794, .inr (14, [.ref q13795, .int o13980, .int o13981, .int o13807, .int o13982])), (q13795, .inr (15, [.ref q13796, .int p13801])), (q13796, .inl (I .byte, 8192, .inl f13802))]) (cs' := 0) (sl' := 0) rfl rfl rfl ?_
                exact G_vret d_cX9_advance_194 rfl (Nat.le_of_ble_eq_true rfl) (Nat.le_of_ble_eq_true rfl) ⟨o13980, o13981, o13807, o13982, rfl, rfl, (gB_w bo13980 (by decide) (by decide)), (gB_w bo13981 (by decide) (by decide)), (gB_w bo13807'' (by decide) (by decide)), bo13982, (by have qa0 : Int32.toInt 1 = 1 := (by decide); omega)⟩
              · have r13814''' : gB z13811 97 255 := ⟨by omega, by omega⟩
                have r13814'''' : gB z13811 123 255 := ⟨by omega, by omega⟩
                change G _ _ _ _ _ _ _ (.int 0 :: _) _ _ _
                refine G_ws (ws' := [(q13794, .inr (14, [.ref q13795, .int p13797, .int 0, .int o13807, .int p13800])), (q13795, .inr (15, [.ref q13796, .int p13801])), (q13796, .inl (I .byte, 8192, .inl f13802))]) (cs' := 0) (sl' := 0) rfl rfl rfl ?_
                refine G_if_eq 188 d_cX9_advance_178 (by decide +kernel) (fun _ => ?_) (fun hc => absurd hc (by decide))
                refine G_aload_n 3 d_cX9_advance_188 rfl ?_
                refine G_iload_n 1 d_cX9_advance_189 rfl ?_
                refine G_iload_n 0 d_cX9_advance_190 rfl ?_
                refine G_callV (As := [.int z13811, .int z13835]) (wr := []) (gV_ok D I) (ct_13760_Signs_takeMark l hl0 D I q13794 q13795 q13796 z13811 z13835 p13797 0 o13807 p13800 p13801 f13802 (gB_w bp13801'' (by decide) (by decide)) bf13802 (by have qa0 : Int32.toInt 0 = 0 := (by decide); omega)) d_cX9_advance_191 ⟨w_3_109, w_1_4, w_3_112, by decide, rfl, (Nat.le_of_ble_eq_true rfl), (Nat.le_of_ble_eq_true rfl)⟩ w_3_111 w_p_6 0 rfl rfl [0, 1, 2] [] rfl rfl rfl rfl (by decide) (Nat.le_of_ble_eq_true rfl) (Nat.le_of_ble_eq_true rfl) (Nat.le_of_ble_eq_true rfl) (fun r w hp => ?_) (fun _ _ _ z => z.elim)
                obtain ⟨o13984, o13985, o13986, rfl, rfl, bo13984, bo13985, bo13986, x13987⟩ := hp
                change G _ _ _ _ _ _ _ _ _ _ _
                refine G_ws (ws' := [(q13794, .inr (14, [.ref q13795, .int o13984, .int o13985, .int o13807, .int o13986])), (q13795, .inr (15, [.ref q13796, .int p13801])), (q13796, .inl (I .byte, 8192, .inl f13802))]) (cs' := 0) (sl' := 0) rfl rfl rfl ?_
                exact G_vret d_cX9_advance_194 rfl (Nat.le_of_ble_eq_true rfl) (Nat.le_of_ble_eq_true rfl) ⟨o13984, o13985, o13807, o13986, rfl, rfl, (gB_w bo13984 (by decide) (by decide)), (gB_w bo13985 (by decide) (by decide)), (gB_w bo13807'' (by decide) (by decide)), bo13986, (by have qa0 : Int32.toInt 1 = 1 := (by decide); omega)⟩
              · have r13814''' : gB z13811 97 255 := ⟨by omega, by omega⟩
                have r13814'''' : gB z13811 97 122 := ⟨by omega, by omega⟩
                change G _ _ _ _ _ _ _ (.int 1 :: _) _ _ _
                refine G_ws (ws' := [(q13794, .inr (14, [.ref q13795, .int p13797, .int 0, .int o13807, .int p13800])), (q13795, .inr (15, [.ref q13796, .int p13801])), (q13796, .inl (I .byte, 8192, .inl f13802))]) (cs' := 0) (sl' := 0) rfl rfl rfl ?_
                refine G_if_eq 188 d_cX9_advance_178 (by decide +kernel) (fun hc => absurd hc (by decide)) (fun _ => ?_)
                refine G_aload_n 3 d_cX9_advance_181 rfl ?_
                refine G_callV (As := []) (wr := []) (gV_ok D I) (ct_12941_Signs_takeWord l hl0 D I q13794 q13795 q13796 p13797 0 o13807 p13800 p13801 f13802 (gB_w bp13801'' (by decide) (by decide)) bf13802 (by have qa0 : Int32.toInt 0 = 0 := (by decide); omega)) d_cX9_advance_182 ⟨w_3_48, w_1_4, w_3_51, by decide, rfl, (Nat.le_of_ble_eq_true rfl), (Nat.le_of_ble_eq_true rfl)⟩ w_3_50 w_p_4 0 rfl rfl [0, 1, 2] [] rfl rfl rfl rfl (by decide) (Nat.le_of_ble_eq_true rfl) (Nat.le_of_ble_eq_true rfl) (Nat.le_of_ble_eq_true rfl) (fun r w hp => ?_) (fun _ _ _ z => z.elim)
                obtain ⟨o13988, o13989, rfl, rfl, bo13988, bo13989, x13990⟩ := hp
                rw [show Int32.toInt 0 = 0 from by decide] at x13990
                change G _ _ _ _ _ _ _ _ _ _ _
                refine G_ws (ws' := [(q13794, .inr (14, [.ref q13795, .int o13988, .int 0, .int o13807, .int o13989])), (q13795, .inr (15, [.ref q13796, .int p13801])), (q13796, .inl (I .byte, 8192, .inl f13802))]) (cs' := 0) (sl' := 0) rfl rfl rfl ?_
                refine G_goto 194 d_cX9_advance_185 (by decide +kernel) ?_
                exact G_vret d_cX9_advance_194 rfl (Nat.le_of_ble_eq_true rfl) (Nat.le_of_ble_eq_true rfl) ⟨o13988, 0, o13807, o13989, rfl, rfl, bo13988, (gB_w (gBl (show Int32.toInt 0 = 0 by decide)) (by decide) (by decide)), (gB_w bo13807'' (by decide) (by decide)), bo13989, (by have qa0 : Int32.toInt 0 = 0 := (by decide); have qa1 : Int32.toInt 1 = 1 := (by decide); omega)⟩
            · have r13991 : z13811.toInt = 98 := gj_eq hc13973 (show Int32.toInt 98 = 98 by decide)
              have r13814''' : gB z13811 98 98 := ⟨by omega, by omega⟩
              refine G_iload_n 0 d_cX9_advance_157 rfl ?_
              refine G_callS (As := [.int z13835]) (wr := [(q13794, .inr (14, [.ref q13795, .int p13797, .int 0, .int o13807, .int p13800])), (q13795, .inr (15, [.ref q13796, .int p13801])), (q13796, .inl (I .byte, 8192, .inl f13802))]) (gV_ok D I) (ct_300_Signs_isDigit l hl0 D I z13835 ) d_cX9_advance_158 ⟨w_3_24, w_1_4, w_3_26, by decide, rfl, (Nat.le_of_ble_eq_true rfl), (Nat.le_of_ble_eq_true rfl)⟩ w_3_25 [] [0, 1, 2] rfl rfl rfl rfl (by decide) (Nat.le_of_ble_eq_true rfl) (Nat.le_of_ble_eq_true rfl) (Nat.le_of_ble_eq_true rfl) (fun r w hp => ?_) (fun _ _ _ z => z.elim)
              rcases hp with ⟨rfl, rfl, r13992⟩ | ⟨rfl, rfl, r13993, r13994⟩ | ⟨rfl, rfl, r13995, r13996⟩
              · have r13838' : gB z13835 0 47 := ⟨by omega, by omega⟩
                change G _ _ _ _ _ _ _ (.int 0 :: _) _ _ _
                refine G_ws (ws' := [(q13794, .inr (14, [.ref q13795, .int p13797, .int 0, .int o13807, .int p13800])), (q13795, .inr (15, [.ref q13796, .int p13801])), (q13796, .inl (I .byte, 8192, .inl f13802))]) (cs' := 0) (sl' := 0) rfl rfl rfl ?_
                refine G_if_eq 174 d_cX9_advance_161 (by decide +kernel) (fun _ => ?_) (fun hc => absurd hc (by decide))
                refine G_iload_n 1 d_cX9_advance_174 rfl ?_
                refine G_callS (As := [.int z13811]) (wr := [(q13794, .inr (14, [.ref q13795, .int p13797, .int 0, .int o13807, .int p13800])), (q13795, .inr (15, [.ref q13796, .int p13801])), (q13796, .inl (I .byte, 8192, .inl f13802))]) (gV_ok D I) (ct_308_Signs_isLetter l hl0 D I z13811 ) d_cX9_advance_175 ⟨w_3_45, w_1_4, w_3_47, by decide, rfl, (Nat.le_of_ble_eq_true rfl), (Nat.le_of_ble_eq_true rfl)⟩ w_3_46 [] [0, 1, 2] rfl rfl rfl rfl (by decide) (Nat.le_of_ble_eq_true rfl) (Nat.le_of_ble_eq_true rfl) (Nat.le_of_ble_eq_true rfl) (fun r w hp => ?_) (fun _ _ _ z => z.elim)
                rcases hp with ⟨rfl, rfl, r13997⟩ | ⟨rfl, rfl, r13998, r13999⟩ | ⟨rfl, rfl, r14000, r14001⟩
                · exact absurd (show False by omega) not_false
                · exact absurd (show False by omega) not_false
                · change G _ _ _ _ _ _ _ (.int 1 :: _) _ _ _
                  refine G_ws (ws' := [(q13794, .inr (14, [.ref q13795, .int p13797, .int 0, .int o13807, .int p13800])), (q13795, .inr (15, [.ref q13796, .int p13801])), (q13796, .inl (I .byte, 8192, .inl f13802))]) (cs' := 0) (sl' := 0) rfl rfl rfl ?_
                  refine G_if_eq 188 d_cX9_advance_178 (by decide +kernel) (fun hc => absurd hc (by decide)) (fun _ => ?_)
                  refine G_aload_n 3 d_cX9_advance_181 rfl ?_
                  refine G_callV (As := []) (wr := []) (gV_ok D I) (ct_12941_Signs_takeWord l hl0 D I q13794 q13795 q13796 p13797 0 o13807 p13800 p13801 f13802 (gB_w bp13801'' (by decide) (by decide)) bf13802 (by have qa0 : Int32.toInt 0 = 0 := (by decide); omega)) d_cX9_advance_182 ⟨w_3_48, w_1_4, w_3_51, by decide, rfl, (Nat.le_of_ble_eq_true rfl), (Nat.le_of_ble_eq_true rfl)⟩ w_3_50 w_p_4 0 rfl rfl [0, 1, 2] [] rfl rfl rfl rfl (by decide) (Nat.le_of_ble_eq_true rfl) (Nat.le_of_ble_eq_true rfl) (Nat.le_of_ble_eq_true rfl) (fun r w hp => ?_) (fun _ _ _ z => z.elim)
                  obtain ⟨o14002, o14003, rfl, rfl, bo14002, bo14003, x14004⟩ := hp
                  rw [show Int32.toInt 0 = 0 from by decide] at x14004
                  change G _ _ _ _ _ _ _ _ _ _ _
                  refine G_ws (ws' := [(q13794, .inr (14, [.ref q13795, .int o14002, .int 0, .int o13807, .int o14003])), (q13795, .inr (15, [.ref q13796, .int p13801])), (q13796, .inl (I .byte, 8192, .inl f13802))]) (cs' := 0) (sl' := 0) rfl rfl rfl ?_
                  refine G_goto 194 d_cX9_advance_185 (by decide +kernel) ?_
                  exact G_vret d_cX9_advance_194 rfl (Nat.le_of_ble_eq_true rfl) (Nat.le_of_ble_eq_true rfl) ⟨o14002, 0, o13807, o14003, rfl, rfl, bo14002, (gB_w (gBl (show Int32.toInt 0 = 0 by decide)) (by decide) (by decide)), (gB_w bo13807'' (by decide) (by decide)), bo14003, (by have qa0 : Int32.toInt 0 = 0 := (by decide); have qa1 : Int32.toInt 1 = 1 := (by decide); omega)⟩
              · have r13838' : gB z13835 48 255 := ⟨by omega, by omega⟩
                have r13838'' : gB z13835 58 255 := ⟨by omega, by omega⟩
                change G _ _ _ _ _ _ _ (.int 0 :: _) _ _ _
                refine G_ws (ws' := [(q13794, .inr (14, [.ref q13795, .int p13797, .int 0, .int o13807, .int p13800])), (q13795, .inr (15, [.ref q13796, .int p13801])), (q13796, .inl (I .byte, 8192, .inl f13802))]) (cs' := 0) (sl' := 0) rfl rfl rfl ?_
                refine G_if_eq 174 d_cX9_advance_161 (by decide +kernel) (fun _ => ?_) (fun hc => absurd hc (by decide))
                refine G_iload_n 1 d_cX9_advance_174 rfl ?_
                refine G_callS (As := [.int z13811]) (wr := [(q13794, .inr (14, [.ref q13795, .int p13797, .int 0, .int o13807, .int p13800])), (q13795, .inr (15, [.ref q13796, .int p13801])), (q13796, .inl (I .byte, 8192, .inl f13802))]) (gV_ok D I) (ct_308_Signs_isLetter l hl0 D I z13811 ) d_cX9_advance_175 ⟨w_3_45, w_1_4, w_3_47, by decide, rfl, (Nat.le_of_ble_eq_true rfl), (Nat.le_of_ble_eq_true rfl)⟩ w_3_46 [] [0, 1, 2] rfl rfl rfl rfl (by decide) (Nat.le_of_ble_eq_true rfl) (Nat.le_of_ble_eq_true rfl) (Nat.le_of_ble_eq_true rfl) (fun r w hp => ?_) (fun _ _ _ z => z.elim)
                rcases hp with ⟨rfl, rfl, r14005⟩ | ⟨rfl, rfl, r14006, r14007⟩ | ⟨rfl, rfl, r14008, r14009⟩
                · exact absurd (show False by omega) not_false
                · exact absurd (show False by omega) not_false
                · change G _ _ _ _ _ _ _ (.int 1 :: _) _ _ _
                  refine G_ws (ws' := [(q13794, .inr (14, [.ref q13795, .int p13797, .int 0, .int o13807, .int p13800])), (q13795, .inr (15, [.ref q13796, .int p13801])), (q13796, .inl (I .byte, 8192, .inl f13802))]) (cs' := 0) (sl' := 0) rfl rfl rfl ?_
                  refine G_if_eq 188 d_cX9_advance_178 (by decide +kernel) (fun hc => absurd hc (by decide)) (fun _ => ?_)
                  refine G_aload_n 3 d_cX9_advance_181 rfl ?_
                  refine G_callV (As := []) (wr := []) (gV_ok D I) (ct_12941_Signs_takeWord l hl0 D I q13794 q13795 q13796 p13797 0 o13807 p13800 p13801 f13802 (gB_w bp13801'' (by decide) (by decide)) bf13802 (by have qa0 : Int32.toInt 0 = 0 := (by decide); omega)) d_cX9_advance_182 ⟨w_3_48, w_1_4, w_3_51, by decide, rfl, (Nat.le_of_ble_eq_true rfl), (Nat.le_of_ble_eq_true rfl)⟩ w_3_50 w_p_4 0 rfl rfl [0, 1, 2] [] rfl rfl rfl rfl (by decide) (Nat.le_of_ble_eq_true rfl) (Nat.le_of_ble_eq_true rfl) (Nat.le_of_ble_eq_true rfl) (fun r w hp => ?_) (fun _ _ _ z => z.elim)
                  obtain ⟨o14010, o14011, rfl, rfl, bo14010, bo14011, x14012⟩ := hp
                  rw [show Int32.toInt 0 = 0 from by decide] at x14012
                  change G _ _ _ _ _ _ _ _ _ _ _
                  refine G_ws (ws' := [(q13794, .inr (14, [.ref q13795, .int o14010, .int 0, .int o13807, .int o14011])), (q13795, .inr (15, [.ref q13796, .int p13801])), (q13796, .inl (I .byte, 8192, .inl f13802))]) (cs' := 0) (sl' := 0) rfl rfl rfl ?_
                  refine G_goto 194 d_cX9_advance_185 (by decide +kernel) ?_
                  exact G_vret d_cX9_advance_194 rfl (Nat.le_of_ble_eq_true rfl) (Nat.le_of_ble_eq_true rfl) ⟨o14010, 0, o13807, o14011, rfl, rfl, bo14010, (gB_w (gBl (show Int32.toInt 0 = 0 by decide)) (by decide) (by decide)), (gB_w bo13807'' (by decide) (by decide)), bo14011, (by have qa0 : Int32.toInt 0 = 0 := (by decide); have qa1 : Int32.toInt 1 = 1 := (by decide); omega)⟩
              · have r13838' : gB z13835 48 255 := ⟨by omega, by omega⟩
                have r13838'' : gB z13835 48 57 := ⟨by omega, by omega⟩
                change G _ _ _ _ _ _ _ (.int 1 :: _) _ _ _
                refine G_ws (ws' := [(q13794, .inr (14, [.ref q13795, .int p13797, .int 0, .int o13807, .int p13800])), (q13795, .inr (15, [.ref q13796, .int p13801])), (q13796, .inl (I .byte, 8192, .inl f13802))]) (cs' := 0) (sl' := 0) rfl rfl rfl ?_
                refine G_if_eq 174 d_cX9_advance_161 (by decide +kernel) (fun hc => absurd hc (by decide)) (fun _ => ?_)
                refine G_aload_n 3 d_cX9_advance_164 rfl ?_
                refine G_iconst 3 d_cX9_advance_165 (by decide +kernel) ?_
                refine G_bipush 40 d_cX9_advance_166 (by decide +kernel) ?_
                refine G_callV (As := [.int 3, .int 40]) (wr := []) (gV_ok D I) (ct_661_Signs_takeNamed l hl0 D I q13794 q13795 q13796 3 40 p13797 0 o13807 p13800 p13801 f13802 (gB_w (gBl (show Int32.toInt 3 = 3 by decide)) (by decide) (by decide)) (gB_w bp13801'' (by decide) (by decide)) bf13802 (by have qa0 : Int32.toInt 0 = 0 := (by decide); have qa1 : Int32.toInt 3 = 3 := (by decide); have qa2 : Int32.toInt 40 = 40 := (by decide); omega)) d_cX9_advance_168 ⟨w_3_41, w_1_4, w_3_44, by decide, rfl, (Nat.le_of_ble_eq_true rfl), (Nat.le_of_ble_eq_true rfl)⟩ w_3_43 w_p_3 0 rfl rfl [0, 1, 2] [] rfl rfl rfl rfl (by decide) (Nat.le_of_ble_eq_true rfl) (Nat.le_of_ble_eq_true rfl) (Nat.le_of_ble_eq_true rfl) (fun r w hp => ?_) (fun _ _ _ z => z.elim)
                obtain ⟨o14013, o14014, o14015, rfl, rfl, bo14013, bo14014, bo14015, x14016⟩ := hp
                change G _ _ _ _ _ _ _ _ _ _ _
                refine G_ws (ws' := [(q13794, .inr (14, [.ref q13795, .int o14013, .int o14014, .int o13807, .int o14015])), (q13795, .inr (15, [.ref q13796, .int p13801])), (q13796, .inl (I .byte, 8192, .inl f13802))]) (cs' := 0) (sl' := 0) rfl rfl rfl ?_
                refine G_goto 194 d_cX9_advance_171 (by decide +kernel) ?_
                exact G_vret d_cX9_advance_194 rfl (Nat.le_of_ble_eq_true rfl) (Nat.le_of_ble_eq_true rfl) ⟨o14013, o14014, o13807, o14015, rfl, rfl, (gB_w bo14013 (by decide) (by decide)), bo14014, (gB_w bo13807'' (by decide) (by decide)), bo14015, (by have qa0 : Int32.toInt 1 = 1 := (by decide); omega)⟩
          · have r14017 : z13811.toInt = 118 := gj_eq hc13971 (show Int32.toInt 118 = 118 by decide)
            have r13814''' : gB z13811 118 118 := ⟨by omega, by omega⟩
            refine G_iload_n 0 d_cX9_advance_134 rfl ?_
            refine G_callS (As := [.int z13835]) (wr := [(q13794, .inr (14, [.ref q13795, .int p13797, .int 0, .int o13807, .int p13800])), (q13795, .inr (15, [.ref q13796, .int p13801])), (q13796, .inl (I .byte, 8192, .inl f13802))]) (gV_ok D I) (ct_300_Signs_isDigit l hl0 D I z13835 ) d_cX9_advance_135 ⟨w_3_24, w_1_4, w_3_26, by decide, rfl, (Nat.le_of_ble_eq_true rfl), (Nat.le_of_ble_eq_true rfl)⟩ w_3_25 [] [0, 1, 2] rfl rfl rfl rfl (by decide) (Nat.le_of_ble_eq_true rfl) (Nat.le_of_ble_eq_true rfl) (Nat.le_of_ble_eq_true rfl) (fun r w hp => ?_) (fun _ _ _ z => z.elim)
            rcases hp with ⟨rfl, rfl, r14018⟩ | ⟨rfl, rfl, r14019, r14020⟩ | ⟨rfl, rfl, r14021, r14022⟩
            · have r13838' : gB z13835 0 47 := ⟨by omega, by omega⟩
              change G _ _ _ _ _ _ _ (.int 0 :: _) _ _ _
              refine G_ws (ws' := [(q13794, .inr (14, [.ref q13795, .int p13797, .int 0, .int o13807, .int p13800])), (q13795, .inr (15, [.ref q13796, .int p13801])), (q13796, .inl (I .byte, 8192, .inl f13802))]) (cs' := 0) (sl' := 0) rfl rfl rfl ?_
              refine G_if_eq 151 d_cX9_advance_138 (by decide +kernel) (fun _ => ?_) (fun hc => absurd hc (by decide))
              refine G_iload_n 1 d_cX9_advance_151 rfl ?_
              refine G_bipush 98 d_cX9_advance_152 (by decide +kernel) ?_
              refine G_icmp_ne 174 d_cX9_advance_154 (by decide +kernel) (fun _ => ?_) (fun hc => absurd (show False by have := gj_eq hc (show Int32.toInt 98 = 98 by decide); omega) not_false)
              refine G_iload_n 1 d_cX9_advance_174 rfl ?_
              refine G_callS (As := [.int z13811]) (wr := [(q13794, .inr (14, [.ref q13795, .int p13797, .int 0, .int o13807, .int p13800])), (q13795, .inr (15, [.ref q13796, .int p13801])), (q13796, .inl (I .byte, 8192, .inl f13802))]) (gV_ok D I) (ct_308_Signs_isLetter l hl0 D I z13811 ) d_cX9_advance_175 ⟨w_3_45, w_1_4, w_3_47, by decide, rfl, (Nat.le_of_ble_eq_true rfl), (Nat.le_of_ble_eq_true rfl)⟩ w_3_46 [] [0, 1, 2] rfl rfl rfl rfl (by decide) (Nat.le_of_ble_eq_true rfl) (Nat.le_of_ble_eq_true rfl) (Nat.le_of_ble_eq_true rfl) (fun r w hp => ?_) (fun _ _ _ z => z.elim)
              rcases hp with ⟨rfl, rfl, r14023⟩ | ⟨rfl, rfl, r14024, r14025⟩ | ⟨rfl, rfl, r14026, r14027⟩
              · exact absurd (show False by omega) not_false
              · exact absurd (show False by omega) not_false
              · change G _ _ _ _ _ _ _ (.int 1 :: _) _ _ _
                refine G_ws (ws' := [(q13794, .inr (14, [.ref q13795, .int p13797, .int 0, .int o13807, .int p13800])), (q13795, .inr (15, [.ref q13796, .int p13801])), (q13796, .inl (I .byte, 8192, .inl f13802))]) (cs' := 0) (sl' := 0) rfl rfl rfl ?_
                refine G_if_eq 188 d_cX9_advance_178 (by decide +kernel) (fun hc => absurd hc (by decide)) (fun _ => ?_)
                refine G_aload_n 3 d_cX9_advance_181 rfl ?_
                refine G_callV (As := []) (wr := []) (gV_ok D I) (ct_12941_Signs_takeWord l hl0 D I q13794 q13795 q13796 p13797 0 o13807 p13800 p13801 f13802 (gB_w bp13801'' (by decide) (by decide)) bf13802 (by have qa0 : Int32.toInt 0 = 0 := (by decide); omega)) d_cX9_advance_182 ⟨w_3_48, w_1_4, w_3_51, by decide, rfl, (Nat.le_of_ble_eq_true rfl), (Nat.le_of_ble_eq_true rfl)⟩ w_3_50 w_p_4 0 rfl rfl [0, 1, 2] [] rfl rfl rfl rfl (by decide) (Nat.le_of_ble_eq_true rfl) (Nat.le_of_ble_eq_true rfl) (Nat.le_of_ble_eq_true rfl) (fun r w hp => ?_) (fun _ _ _ z => z.elim)
                obtain ⟨o14028, o14029, rfl, rfl, bo14028, bo14029, x14030⟩ := hp
                rw [show Int32.toInt 0 = 0 from by decide] at x14030
                change G _ _ _ _ _ _ _ _ _ _ _
                refine G_ws (ws' := [(q13794, .inr (14, [.ref q13795, .int o14028, .int 0, .int o13807, .int o14029])), (q13795, .inr (15, [.ref q13796, .int p13801])), (q13796, .inl (I .byte, 8192, .inl f13802))]) (cs' := 0) (sl' := 0) rfl rfl rfl ?_
                refine G_goto 194 d_cX9_advance_185 (by decide +kernel) ?_
                exact G_vret d_cX9_advance_194 rfl (Nat.le_of_ble_eq_true rfl) (Nat.le_of_ble_eq_true rfl) ⟨o14028, 0, o13807, o14029, rfl, rfl, bo14028, (gB_w (gBl (show Int32.toInt 0 = 0 by decide)) (by decide) (by decide)), (gB_w bo13807'' (by decide) (by decide)), bo14029, (by have qa0 : Int32.toInt 0 = 0 := (by decide); have qa1 : Int32.toInt 1 = 1 := (by decide); omega)⟩
            · have r13838' : gB z13835 48 255 := ⟨by omega, by omega⟩
              have r13838'' : gB z13835 58 255 := ⟨by omega, by omega⟩
              change G _ _ _ _ _ _ _ (.int 0 :: _) _ _ _
              refine G_ws (ws' := [(q13794, .inr (14, [.ref q13795, .int p13797, .int 0, .int o13807, .int p13800])), (q13795, .inr (15, [.ref q13796, .int p13801])), (q13796, .inl (I .byte, 8192, .inl f13802))]) (cs' := 0) (sl' := 0) rfl rfl rfl ?_
              refine G_if_eq 151 d_cX9_advance_138 (by decide +kernel) (fun _ => ?_) (fun hc => absurd hc (by decide))
              refine G_iload_n 1 d_cX9_advance_151 rfl ?_
              refine G_bipush 98 d_cX9_advance_152 (by decide +kernel) ?_
              refine G_icmp_ne 174 d_cX9_advance_154 (by decide +kernel) (fun _ => ?_) (fun hc => absurd (show False by have := gj_eq hc (show Int32.toInt 98 = 98 by decide); omega) not_false)
              refine G_iload_n 1 d_cX9_advance_174 rfl ?_
              refine G_callS (As := [.int z13811]) (wr := [(q13794, .inr (14, [.ref q13795, .int p13797, .int 0, .int o13807, .int p13800])), (q13795, .inr (15, [.ref q13796, .int p13801])), (q13796, .inl (I .byte, 8192, .inl f13802))]) (gV_ok D I) (ct_308_Signs_isLetter l hl0 D I z13811 ) d_cX9_advance_175 ⟨w_3_45, w_1_4, w_3_47, by decide, rfl, (Nat.le_of_ble_eq_true rfl), (Nat.le_of_ble_eq_true rfl)⟩ w_3_46 [] [0, 1, 2] rfl rfl rfl rfl (by decide) (Nat.le_of_ble_eq_true rfl) (Nat.le_of_ble_eq_true rfl) (Nat.le_of_ble_eq_true rfl) (fun r w hp => ?_) (fun _ _ _ z => z.elim)
              rcases hp with ⟨rfl, rfl, r14031⟩ | ⟨rfl, rfl, r14032, r14033⟩ | ⟨rfl, rfl, r14034, r14035⟩
              · exact absurd (show False by omega) not_false
              · exact absurd (show False by omega) not_false
              · change G _ _ _ _ _ _ _ (.int 1 :: _) _ _ _
                refine G_ws (ws' := [(q13794, .inr (14, [.ref q13795, .int p13797, .int 0, .int o13807, .int p13800])), (q13795, .inr (15, [.ref q13796, .int p13801])), (q13796, .inl (I .byte, 8192, .inl f13802))]) (cs' := 0) (sl' := 0) rfl rfl rfl ?_
                refine G_if_eq 188 d_cX9_advance_178 (by decide +kernel) (fun hc => absurd hc (by decide)) (fun _ => ?_)
                refine G_aload_n 3 d_cX9_advance_181 rfl ?_
                refine G_callV (As := []) (wr := []) (gV_ok D I) (ct_12941_Signs_takeWord l hl0 D I q13794 q13795 q13796 p13797 0 o13807 p13800 p13801 f13802 (gB_w bp13801'' (by decide) (by decide)) bf13802 (by have qa0 : Int32.toInt 0 = 0 := (by decide); omega)) d_cX9_advance_182 ⟨w_3_48, w_1_4, w_3_51, by decide, rfl, (Nat.le_of_ble_eq_true rfl), (Nat.le_of_ble_eq_true rfl)⟩ w_3_50 w_p_4 0 rfl rfl [0, 1, 2] [] rfl rfl rfl rfl (by decide) (Nat.le_of_ble_eq_true rfl) (Nat.le_of_ble_eq_true rfl) (Nat.le_of_ble_eq_true rfl) (fun r w hp => ?_) (fun _ _ _ z => z.elim)
                obtain ⟨o14036, o14037, rfl, rfl, bo14036, bo14037, x14038⟩ := hp
                rw [show Int32.toInt 0 = 0 from by decide] at x14038
                change G _ _ _ _ _ _ _ _ _ _ _
                refine G_ws (ws' := [(q13794, .inr (14, [.ref q13795, .int o14036, .int 0, .int o13807, .int o14037])), (q13795, .inr (15, [.ref q13796, .int p13801])), (q13796, .inl (I .byte, 8192, .inl f13802))]) (cs' := 0) (sl' := 0) rfl rfl rfl ?_
                refine G_goto 194 d_cX9_advance_185 (by decide +kernel) ?_
                exact G_vret d_cX9_advance_194 rfl (Nat.le_of_ble_eq_true rfl) (Nat.le_of_ble_eq_true rfl) ⟨o14036, 0, o13807, o14037, rfl, rfl, bo14036, (gB_w (gBl (show Int32.toInt 0 = 0 by decide)) (by decide) (by decide)), (gB_w bo13807'' (by decide) (by decide)), bo14037, (by have qa0 : Int32.toInt 0 = 0 := (by decide); have qa1 : Int32.toInt 1 = 1 := (by decide); omega)⟩
            · have r13838' : gB z13835 48 255 := ⟨by omega, by omega⟩
              have r13838'' : gB z13835 48 57 := ⟨by omega, by omega⟩
              change G _ _ _ _ _ _ _ (.int 1 :: _) _ _ _
              refine G_ws (ws' := [(q13794, .inr (14, [.ref q13795, .int p13797, .int 0, .int o13807, .int p13800])), (q13795, .inr (15, [.ref q13796, .int p13801])), (q13796, .inl (I .byte, 8192, .inl f13802))]) (cs' := 0) (sl' := 0) rfl rfl rfl ?_
              refine G_if_eq 151 d_cX9_advance_138 (by decide +kernel) (fun hc => absurd hc (by decide)) (fun _ => ?_)
              refine G_aload_n 3 d_cX9_advance_141 rfl ?_
              refine G_iconst 2 d_cX9_advance_142 (by decide +kernel) ?_
              refine G_bipush 100 d_cX9_advance_143 (by decide +kernel) ?_
              refine G_callV (As := [.int 2, .int 100]) (wr := []) (gV_ok D I) (ct_661_Signs_takeNamed l hl0 D I q13794 q13795 q13796 2 100 p13797 0 o13807 p13800 p13801 f13802 (gB_w (gBl (show Int32.toInt 2 = 2 by decide)) (by decide) (by decide)) (gB_w bp13801'' (by decide) (by decide)) bf13802 (by have qa0 : Int32.toInt 0 = 0 := (by decide); have qa1 : Int32.toInt 2 = 2 := (by decide); have qa2 : Int32.toInt 100 = 100 := (by decide); omega)) d_cX9_advance_145 ⟨w_3_41, w_1_4, w_3_44, by decide, rfl, (Nat.le_of_ble_eq_true rfl), (Nat.le_of_ble_eq_true rfl)⟩ w_3_43 w_p_3 0 rfl rfl [0, 1, 2] [] rfl rfl rfl rfl (by decide) (Nat.le_of_ble_eq_true rfl) (Nat.le_of_ble_eq_true rfl) (Nat.le_of_ble_eq_true rfl) (fun r w hp => ?_) (fun _ _ _ z => z.elim)
              obtain ⟨o14039, o14040, o14041, rfl, rfl, bo14039, bo14040, bo14041, x14042⟩ := hp
              change G _ _ _ _ _ _ _ _ _ _ _
              refine G_ws (ws' := [(q13794, .inr (14, [.ref q13795, .int o14039, .int o14040, .int o13807, .int o14041])), (q13795, .inr (15, [.ref q13796, .int p13801])), (q13796, .inl (I .byte, 8192, .inl f13802))]) (cs' := 0) (sl' := 0) rfl rfl rfl ?_
              refine G_goto 194 d_cX9_advance_148 (by decide +kernel) ?_
              exact G_vret d_cX9_advance_194 rfl (Nat.le_of_ble_eq_true rfl) (Nat.le_of_ble_eq_true rfl) ⟨o14039, o14040, o13807, o14041, rfl, rfl, (gB_w bo14039 (by decide) (by decide)), bo14040, (gB_w bo13807'' (by decide) (by decide)), bo14041, (by have qa0 : Int32.toInt 1 = 1 := (by decide); omega)⟩
        · have r13814' : gB z13811 48 255 := ⟨by omega, by omega⟩
          have r13814'' : gB z13811 48 57 := ⟨by omega, by omega⟩
          change G _ _ _ _ _ _ _ (.int 1 :: _) _ _ _
          refine G_ws (ws' := [(q13794, .inr (14, [.ref q13795, .int p13797, .int 0, .int o13807, .int p13800])), (q13795, .inr (15, [.ref q13796, .int p13801])), (q13796, .inl (I .byte, 8192, .inl f13802))]) (cs' := 0) (sl' := 0) rfl rfl rfl ?_
          refine G_if_ne 110 d_cX9_advance_90 (by decide +kernel) (fun _ => ?_) (fun hc => absurd hc (by decide))
          refine G_aload_n 3 d_cX9_advance_110 rfl ?_
          refine G_iload_n 1 d_cX9_advance_111 rfl ?_
          refine G_bipush 45 d_cX9_advance_112 (by decide +kernel) ?_
          refine G_icmp_ne 121 d_cX9_advance_114 (by decide +kernel) (fun _ => ?_) (fun hc => absurd (show False by have := gj_eq hc (show Int32.toInt 45 = 45 by decide); omega) not_false)
          refine G_iconst 0 d_cX9_advance_121 (by decide +kernel) ?_
          refine G_callV (As := [.int 0]) (wr := []) (gV_ok D I) (ct_624_Signs_takeNumber l hl0 D I q13794 q13795 q13796 0 p13797 0 o13807 p13800 p13801 f13802 (gB_w (gBl (show Int32.toInt 0 = 0 by decide)) (by decide) (by decide)) (gB_w bp13801'' (by decide) (by decide)) bf13802 (by have qa0 : Int32.toInt 0 = 0 := (by decide); omega)) d_cX9_advance_122 ⟨w_3_27, w_1_4, w_3_30, by decide, rfl, (Nat.le_of_ble_eq_true rfl), (Nat.le_of_ble_eq_true rfl)⟩ w_3_29 w_p_1 0 rfl rfl [0, 1, 2] [] rfl rfl rfl rfl (by decide) (Nat.le_of_ble_eq_true rfl) (Nat.le_of_ble_eq_true rfl) (Nat.le_of_ble_eq_true rfl) (fun r w hp => ?_) (fun _ _ _ z => z.elim)
          obtain ⟨o14043, o14044, o14045, rfl, rfl, bo14043, bo14044, bo14045, x14046⟩ := hp
          change G _ _ _ _ _ _ _ _ _ _ _
          refine G_ws (ws' := [(q13794, .inr (14, [.ref q13795, .int o14043, .int o14044, .int o13807, .int o14045])), (q13795, .inr (15, [.ref q13796, .int p13801])), (q13796, .inl (I .byte, 8192, .inl f13802))]) (cs' := 0) (sl' := 0) rfl rfl rfl ?_
          refine G_goto 194 d_cX9_advance_125 (by decide +kernel) ?_
          exact G_vret d_cX9_advance_194 rfl (Nat.le_of_ble_eq_true rfl) (Nat.le_of_ble_eq_true rfl) ⟨o14043, o14044, o13807, o14045, rfl, rfl, (gB_w bo14043 (by decide) (by decide)), bo14044, (gB_w bo13807'' (by decide) (by decide)), bo14045, (by have qa0 : Int32.toInt 1 = 1 := (by decide); omega)⟩
  · have r14047 : p13797.toInt ≠ 2 := gj_neq hc13805 (show Int32.toInt 2 = 2 by decide)
    refine G_aload_n 0 d_cX9_advance_8 rfl ?_
    refine G_getf 0 1 d_cX9_advance_9 rfl (gk_X9 D I) (Nat.le_of_ble_eq_true rfl) w_1_80 rfl ?_
    refine G_iconst 4 d_cX9_advance_12 (by decide +kernel) ?_
    refine G_icmp_ne 20 d_cX9_advance_13 (by decide +kernel) (fun hc14048 => ?_) (fun hc14048 => ?_)
    · have r14049 : p13797.toInt ≠ 4 := gj_neq hc14048 (show Int32.toInt 4 = 4 by decide)
      refine G_iconst 0 d_cX9_advance_20 (by decide +kernel) ?_
      refine G_istore_n (L' := [(1, .int 0), (0, .ref q13794)]) d_cX9_advance_21 (Nat.le_of_ble_eq_true rfl) rfl ?_
      refine G_aload_n 1 d_cX9_advance_22 rfl ?_
      refine G_aload_n 1 d_cX9_advance_23 rfl ?_
      refine G_aload_n 1 d_cX9_advance_24 rfl ?_
      refine G_getf 0 4 d_cX9_advance_25 rfl (gk_X9 D I) (Nat.le_of_ble_eq_true rfl) w_1_83 rfl ?_
      refine G_callV (As := [.int p13800]) (wr := []) (gV_ok D I) (ct_326_Signs_skipBlanks l hl0 D I q13794 q13795 q13796 p13800 p13797 p13798 p13799 p13800 p13801 f13802 bp13801 bf13802 (by omega)) d_cX9_advance_28 ⟨w_3_12, w_1_4, w_3_15, by decide, rfl, (Nat.le_of_ble_eq_true rfl), (Nat.le_of_ble_eq_true rfl)⟩ w_3_14 w_p_0 0 rfl rfl [0, 1, 2] [] rfl rfl rfl rfl (by decide) (Nat.le_of_ble_eq_true rfl) (Nat.le_of_ble_eq_true rfl) (Nat.le_of_ble_eq_true rfl) (fun r w hp => ?_) (fun _ _ _ z => z.elim)
      obtain ⟨o14050, rfl, rfl, bo14050⟩ := hp
      change G _ _ _ _ _ _ _ (.int o14050 :: _) _ _ _
      refine G_ws (ws' := [(q13794, .inr (14, [.ref q13795, .int p13797, .int p13798, .int p13799, .int p13800])), (q13795, .inr (15, [.ref q13796, .int p13801])), (q13796, .inl (I .byte, 8192, .inl f13802))]) (cs' := 0) (sl' := 0) rfl rfl rfl ?_
      refine G_putf (ws' := [(q13794, .inr (14, [.ref q13795, .int p13797, .int p13798, .int o14050, .int p13800])), (q13795, .inr (15, [.ref q13796, .int p13801])), (q13796, .inl (I .byte, 8192, .inl f13802))]) 0 3 d_cX9_advance_31 rfl (gk_X9 D I) (Nat.le_of_ble_eq_true rfl) w_1_82 rfl rfl rfl (Nat.le_of_ble_eq_true rfl) rfl ?_
      refine G_aload_n 1 d_cX9_advance_34 rfl ?_
      refine G_getf 0 0 d_cX9_advance_35 rfl (gk_X9 D I) (Nat.le_of_ble_eq_true rfl) w_1_79 rfl ?_
      refine G_aload_n 1 d_cX9_advance_38 rfl ?_
      refine G_getf 0 3 d_cX9_advance_39 rfl (gk_X9 D I) (Nat.le_of_ble_eq_true rfl) w_1_82 rfl ?_
      refine G_callV (As := [.int o14050]) (wr := [(q13794, .inr (14, [.ref q13795, .int p13797, .int p13798, .int o14050, .int p13800]))]) (gV_ok D I) (ct_30_Tape_byteAt l hl0 D I q13795 q13796 o14050 p13801 f13802 bp13801 bf13802) d_cX9_advance_42 ⟨w_3_20, w_1_2, w_3_23, by decide, rfl, (Nat.le_of_ble_eq_true rfl), (Nat.le_of_ble_eq_true rfl)⟩ w_3_21 w_3_22 1 rfl rfl [1, 2] [0] rfl rfl rfl rfl (by decide) (Nat.le_of_ble_eq_true rfl) (Nat.le_of_ble_eq_true rfl) (Nat.le_of_ble_eq_true rfl) (fun r w hp => ?_) (fun _ _ _ z => z.elim)
      rcases hp with ⟨rfl, rfl, r14051⟩ | ⟨rfl, rfl, r14052, r14053⟩ | ⟨z14054, rfl, rfl, r14055, r14056, r14057⟩
      · have bo14050' : gB o14050 (-2147483648) (-1) := ⟨by omega, by omega⟩
        change G _ _ _ _ _ _ _ (.int (-1) :: _) _ _ _
        refine G_ws (ws' := [(q13794, .inr (14, [.ref q13795, .int p13797, .int p13798, .int o14050, .int p13800])), (q13795, .inr (15, [.ref q13796, .int p13801])), (q13796, .inl (I .byte, 8192, .inl f13802))]) (cs' := 0) (sl' := 0) rfl rfl rfl ?_
        refine G_istore_n (L' := [(2, .int (-1)), (1, .int 0), (0, .ref q13794)]) d_cX9_advance_45 (Nat.le_of_ble_eq_true rfl) rfl ?_
        refine G_aload_n 2 d_cX9_advance_46 rfl ?_
        refine G_getf 0 0 d_cX9_advance_47 rfl (gk_X9 D I) (Nat.le_of_ble_eq_true rfl) w_1_79 rfl ?_
        refine G_aload_n 2 d_cX9_advance_50 rfl ?_
        refine G_getf 0 3 d_cX9_advance_51 rfl (gk_X9 D I) (Nat.le_of_ble_eq_true rfl) w_1_82 rfl ?_
        refine G_iconst 1 d_cX9_advance_54 (by decide +kernel) ?_
        refine G_iadd d_cX9_advance_55 (G_nam fun z14058 hz14058 => ?_)
        have ez14058 : z14058.toInt = o14050.toInt + 1 := by rw [gI_add hz14058 bo14050' (gBl (show Int32.toInt 1 = 1 by decide)) (by decide) (by decide), show Int32.toInt 1 = 1 from by decide]
        have bz14058 : gB z14058 (-2147483647) 0 := gB_add (gI_add hz14058 bo14050' (gBl (show Int32.toInt 1 = 1 by decide)) (by decide) (by decide)) bo14050' (gBl (show Int32.toInt 1 = 1 by decide)) (by decide) (by decide)
        refine G_callV (As := [.int z14058]) (wr := [(q13794, .inr (14, [.ref q13795, .int p13797, .int p13798, .int o14050, .int p13800]))]) (gV_ok D I) (ct_30_Tape_byteAt l hl0 D I q13795 q13796 z14058 p13801 f13802 bp13801 bf13802) d_cX9_advance_56 ⟨w_3_20, w_1_2, w_3_23, by decide, rfl, (Nat.le_of_ble_eq_true rfl), (Nat.le_of_ble_eq_true rfl)⟩ w_3_21 w_3_22 1 rfl rfl [1, 2] [0] rfl rfl rfl rfl (by decide) (Nat.le_of_ble_eq_true rfl) (Nat.le_of_ble_eq_true rfl) (Nat.le_of_ble_eq_true rfl) (fun r w hp => ?_) (fun _ _ _ z => z.elim)
        rcases hp with ⟨rfl, rfl, r14059⟩ | ⟨rfl, rfl, r14060, r14061⟩ | ⟨z14062, rfl, rfl, r14063, r14064, r14065⟩
        · have bz14058' : gB z14058 (-2147483647) (-1) := ⟨by omega, by omega⟩
          change G _ _ _ _ _ _ _ (.int (-1) :: _) _ _ _
          refine G_ws (ws' := [(q13794, .inr (14, [.ref q13795, .int p13797, .int p13798, .int o14050, .int p13800])), (q13795, .inr (15, [.ref q13796, .int p13801])), (q13796, .inl (I .byte, 8192, .inl f13802))]) (cs' := 0) (sl' := 0) rfl rfl rfl ?_
          refine G_istore_n (L' := [(3, .int (-1)), (2, .int (-1)), (1, .int 0), (0, .ref q13794)]) d_cX9_advance_59 (Nat.le_of_ble_eq_true rfl) rfl ?_
          refine G_aload_n 3 d_cX9_advance_60 rfl ?_
          refine G_iconst 0 d_cX9_advance_61 (by decide +kernel) ?_
          refine G_putf (ws' := [(q13794, .inr (14, [.ref q13795, .int p13797, .int 0, .int o14050, .int p13800])), (q13795, .inr (15, [.ref q13796, .int p13801])), (q13796, .inl (I .byte, 8192, .inl f13802))]) 0 2 d_cX9_advance_62 rfl (gk_X9 D I) (Nat.le_of_ble_eq_true rfl) w_1_81 rfl rfl rfl (Nat.le_of_ble_eq_true rfl) rfl ?_
          refine G_iload_n 1 d_cX9_advance_65 rfl ?_
          refine G_iconst (-1) d_cX9_advance_66 (by decide +kernel) ?_
          refine G_icmp_ne 86 d_cX9_advance_67 (by decide +kernel) (fun hc => absurd hc (by decide)) (fun _ => ?_)
          refine G_aload_n 3 d_cX9_advance_70 rfl ?_
          refine G_iconst 1 d_cX9_advance_71 (by decide +kernel) ?_
          refine G_putf (ws' := [(q13794, .inr (14, [.ref q13795, .int 1, .int 0, .int o14050, .int p13800])), (q13795, .inr (15, [.ref q13796, .int p13801])), (q13796, .inl (I .byte, 8192, .inl f13802))]) 0 1 d_cX9_advance_72 rfl (gk_X9 D I) (Nat.le_of_ble_eq_true rfl) w_1_80 rfl rfl rfl (Nat.le_of_ble_eq_true rfl) rfl ?_
          refine G_aload_n 3 d_cX9_advance_75 rfl ?_
          refine G_aload_n 3 d_cX9_advance_76 rfl ?_
          refine G_getf 0 3 d_cX9_advance_77 rfl (gk_X9 D I) (Nat.le_of_ble_eq_true rfl) w_1_82 rfl ?_
          refine G_putf (ws' := [(q13794, .inr (14, [.ref q13795, .int 1, .int 0, .int o14050, .int o14050])), (q13795, .inr (15, [.ref q13796, .int p13801])), (q13796, .inl (I .byte, 8192, .inl f13802))]) 0 4 d_cX9_advance_80 rfl (gk_X9 D I) (Nat.le_of_ble_eq_true rfl) w_1_83 rfl rfl rfl (Nat.le_of_ble_eq_true rfl) rfl ?_
          refine G_goto 194 d_cX9_advance_83 (by decide +kernel) ?_
          exact G_vret d_cX9_advance_194 rfl (Nat.le_of_ble_eq_true rfl) (Nat.le_of_ble_eq_true rfl) ⟨1, 0, o14050, o14050, rfl, rfl, (gB_w (gBl (show Int32.toInt 1 = 1 by decide)) (by decide) (by decide)), (gB_w (gBl (show Int32.toInt 0 = 0 by decide)) (by decide) (by decide)), (gB_w bo14050' (by decide) (by decide)), (gB_w bo14050' (by decide) (by decide)), (by have qa0 : Int32.toInt (-1) = (-1) := (by decide); have qa1 : Int32.toInt 0 = 0 := (by decide); have qa2 : Int32.toInt 1 = 1 := (by decide); omega)⟩
        · have bz14058' : gB z14058 0 0 := ⟨by omega, by omega⟩
          have bp13801' : gB p13801 0 0 := ⟨by omega, by omega⟩
          change G _ _ _ _ _ _ _ (.int (-1) :: _) _ _ _
          refine G_ws (ws' := [(q13794, .inr (14, [.ref q13795, .int p13797, .int p13798, .int o14050, .int p13800])), (q13795, .inr (15, [.ref q13796, .int p13801])), (q13796, .inl (I .byte, 8192, .inl f13802))]) (cs' := 0) (sl' := 0) rfl rfl rfl ?_
          refine G_istore_n (L' := [(3, .int (-1)), (2, .int (-1)), (1, .int 0), (0, .ref q13794)]) d_cX9_advance_59 (Nat.le_of_ble_eq_true rfl) rfl ?_
          refine G_aload_n 3 d_cX9_advance_60 rfl ?_
          refine G_iconst 0 d_cX9_advance_61 (by decide +kernel) ?_
          refine G_putf (ws' := [(q13794, .inr (14, [.ref q13795, .int p13797, .int 0, .int o14050, .int p13800])), (q13795, .inr (15, [.ref q13796, .int p13801])), (q13796, .inl (I .byte, 8192, .inl f13802))]) 0 2 d_cX9_advance_62 rfl (gk_X9 D I) (Nat.le_of_ble_eq_true rfl) w_1_81 rfl rfl rfl (Nat.le_of_ble_eq_true rfl) rfl ?_
          refine G_iload_n 1 d_cX9_advance_65 rfl ?_
          refine G_iconst (-1) d_cX9_advance_66 (by decide +kernel) ?_
          refine G_icmp_ne 86 d_cX9_advance_67 (by decide +kernel) (fun hc => absurd hc (by decide)) (fun _ => ?_)
          refine G_aload_n 3 d_cX9_advance_70 rfl ?_
          refine G_iconst 1 d_cX9_advance_71 (by decide +kernel) ?_
          refine G_putf (ws' := [(q13794, .inr (14, [.ref q13795, .int 1, .int 0, .int o14050, .int p13800])), (q13795, .inr (15, [.ref q13796, .int p13801])), (q13796, .inl (I .byte, 8192, .inl f13802))]) 0 1 d_cX9_advance_72 rfl (gk_X9 D I) (Nat.le_of_ble_eq_true rfl) w_1_80 rfl rfl rfl (Nat.le_of_ble_eq_true rfl) rfl ?_
          refine G_aload_n 3 d_cX9_advance_75 rfl ?_
          refine G_aload_n 3 d_cX9_advance_76 rfl ?_
          refine G_getf 0 3 d_cX9_advance_77 rfl (gk_X9 D I) (Nat.le_of_ble_eq_true rfl) w_1_82 rfl ?_
          refine G_putf (ws' := [(q13794, .inr (14, [.ref q13795, .int 1, .int 0, .int o14050, .int o14050])), (q13795, .inr (15, [.ref q13796, .int p13801])), (q13796, .inl (I .byte, 8192, .inl f13802))]) 0 4 d_cX9_advance_80 rfl (gk_X9 D I) (Nat.le_of_ble_eq_true rfl) w_1_83 rfl rfl rfl (Nat.le_of_ble_eq_true rfl) rfl ?_
          refine G_goto 194 d_cX9_advance_83 (by decide +kernel) ?_
          exact G_vret d_cX9_advance_194 rfl (Nat.le_of_ble_eq_true rfl) (Nat.le_of_ble_eq_true rfl) ⟨1, 0, o14050, o14050, rfl, rfl, (gB_w (gBl (show Int32.toInt 1 = 1 by decide)) (by decide) (by decide)), (gB_w (gBl (show Int32.toInt 0 = 0 by decide)) (by decide) (by decide)), (gB_w bo14050' (by decide) (by decide)), (gB_w bo14050' (by decide) (by decide)), (by have qa0 : Int32.toInt (-1) = (-1) := (by decide); have qa1 : Int32.toInt 0 = 0 := (by decide); have qa2 : Int32.toInt 1 = 1 := (by decide); omega)⟩
        · have bz14058' : gB z14058 0 0 := ⟨by omega, by omega⟩
          have bp13801' : gB p13801 1 8192 := ⟨by omega, by omega⟩
          change G _ _ _ _ _ _ _ (.int z14062 :: _) _ _ _
          refine G_ws (ws' := [(q13794, .inr (14, [.ref q13795, .int p13797, .int p13798, .int o14050, .int p13800])), (q13795, .inr (15, [.ref q13796, .int p13801])), (q13796, .inl (I .byte, 8192, .inl f13802))]) (cs' := 0) (sl' := 0) rfl rfl rfl ?_
          refine G_istore_n (L' := [(3, .int z14062), (2, .int (-1)), (1, .int 0), (0, .ref q13794)]) d_cX9_advance_59 (Nat.le_of_ble_eq_true rfl) rfl ?_
          refine G_aload_n 3 d_cX9_advance_60 rfl ?_
          refine G_iconst 0 d_cX9_advance_61 (by decide +kernel) ?_
          refine G_putf (ws' := [(q13794, .inr (14, [.ref q13795, .int p13797, .int 0, .int o14050, .int p13800])), (q13795, .inr (15, [.ref q13796, .int p13801])), (q13796, .inl (I .byte, 8192, .inl f13802))]) 0 2 d_cX9_advance_62 rfl (gk_X9 D I) (Nat.le_of_ble_eq_true rfl) w_1_81 rfl rfl rfl (Nat.le_of_ble_eq_true rfl) rfl ?_
          refine G_iload_n 1 d_cX9_advance_65 rfl ?_
          refine G_iconst (-1) d_cX9_advance_66 (by decide +kernel) ?_
          refine G_icmp_ne 86 d_cX9_advance_67 (by decide +kernel) (fun hc => absurd hc (by decide)) (fun _ => ?_)
          refine G_aload_n 3 d_cX9_advance_70 rfl ?_
          refine G_iconst 1 d_cX9_advance_71 (by decide +kernel) ?_
          refine G_putf (ws' := [(q13794, .inr (14, [.ref q13795, .int 1, .int 0, .int o14050, .int p13800])), (q13795, .inr (15, [.ref q13796, .int p13801])), (q13796, .inl (I .byte, 8192, .inl f13802))]) 0 1 d_cX9_advance_72 rfl (gk_X9 D I) (Nat.le_of_ble_eq_true rfl) w_1_80 rfl rfl rfl (Nat.le_of_ble_eq_true rfl) rfl ?_
          refine G_aload_n 3 d_cX9_advance_75 rfl ?_
          refine G_aload_n 3 d_cX9_advance_76 rfl ?_
          refine G_getf 0 3 d_cX9_advance_77 rfl (gk_X9 D I) (Nat.le_of_ble_eq_true rfl) w_1_82 rfl ?_
          refine G_putf (ws' := [(q13794, .inr (14, [.ref q13795, .int 1, .int 0, .int o14050, .int o14050])), (q13795, .inr (15, [.ref q13796, .int p13801])), (q13796, .inl (I .byte, 8192, .inl f13802))]) 0 4 d_cX9_advance_80 rfl (gk_X9 D I) (Nat.le_of_ble_eq_true rfl) w_1_83 rfl rfl rfl (Nat.le_of_ble_eq_true rfl) rfl ?_
          refine G_goto 194 d_cX9_advance_83 (by decide +kernel) ?_
          exact G_vret d_cX9_advance_194 rfl (Nat.le_of_ble_eq_true rfl) (Nat.le_of_ble_eq_true rfl) ⟨1, 0, o14050, o14050, rfl, rfl, (gB_w (gBl (show Int32.toInt 1 = 1 by decide)) (by decide) (by decide)), (gB_w (gBl (show Int32.toInt 0 = 0 by decide)) (by decide) (by decide)), (gB_w bo14050' (by decide) (by decide)), (gB_w bo14050' (by decide) (by decide)), (by have qa0 : Int32.toInt (-1) = (-1) := (by decide); have qa1 : Int32.toInt 0 = 0 := (by decide); have qa2 : Int32.toInt 1 = 1 := (by decide); omega)⟩
      · have bo14050' : gB o14050 0 8192 := ⟨by omega, by omega⟩
        change G _ _ _ _ _ _ _ (.int (-1) :: _) _ _ _
        refine G_ws (ws' := [(q13794, .inr (14, [.ref q13795, .int p13797, .int p13798, .int o14050, .int p13800])), (q13795, .inr (15, [.ref q13796, .int p13801])), (q13796, .inl (I .byte, 8192, .inl f13802))]) (cs' := 0) (sl' := 0) rfl rfl rfl ?_
        refine G_istore_n (L' := [(2, .int (-1)), (1, .int 0), (0, .ref q13794)]) d_cX9_advance_45 (Nat.le_of_ble_eq_true rfl) rfl ?_
        refine G_aload_n 2 d_cX9_advance_46 rfl ?_
        refine G_getf 0 0 d_cX9_advance_47 rfl (gk_X9 D I) (Nat.le_of_ble_eq_true rfl) w_1_79 rfl ?_
        refine G_aload_n 2 d_cX9_advance_50 rfl ?_
        refine G_getf 0 3 d_cX9_advance_51 rfl (gk_X9 D I) (Nat.le_of_ble_eq_true rfl) w_1_82 rfl ?_
        refine G_iconst 1 d_cX9_advance_54 (by decide +kernel) ?_
        refine G_iadd d_cX9_advance_55 (G_nam fun z14066 hz14066 => ?_)
        have ez14066 : z14066.toInt = o14050.toInt + 1 := by rw [gI_add hz14066 bo14050' (gBl (show Int32.toInt 1 = 1 by decide)) (by decide) (by decide), show Int32.toInt 1 = 1 from by decide]
        have bz14066 : gB z14066 1 8193 := gB_add (gI_add hz14066 bo14050' (gBl (show Int32.toInt 1 = 1 by decide)) (by decide) (by decide)) bo14050' (gBl (show Int32.toInt 1 = 1 by decide)) (by decide) (by decide)
        refine G_callV (As := [.int z14066]) (wr := [(q13794, .inr (14, [.ref q13795, .int p13797, .int p13798, .int o14050, .int p13800]))]) (gV_ok D I) (ct_30_Tape_byteAt l hl0 D I q13795 q13796 z14066 p13801 f13802 bp13801 bf13802) d_cX9_advance_56 ⟨w_3_20, w_1_2, w_3_23, by decide, rfl, (Nat.le_of_ble_eq_true rfl), (Nat.le_of_ble_eq_true rfl)⟩ w_3_21 w_3_22 1 rfl rfl [1, 2] [0] rfl rfl rfl rfl (by decide) (Nat.le_of_ble_eq_true rfl) (Nat.le_of_ble_eq_true rfl) (Nat.le_of_ble_eq_true rfl) (fun r w hp => ?_) (fun _ _ _ z => z.elim)
        rcases hp with ⟨rfl, rfl, r14067⟩ | ⟨rfl, rfl, r14068, r14069⟩ | ⟨z14070, rfl, rfl, r14071, r14072, r14073⟩
        · exact absurd (show False by omega) not_false
        · change G _ _ _ _ _ _ _ (.int (-1) :: _) _ _ _
          refine G_ws (ws' := [(q13794, .inr (14, [.ref q13795, .int p13797, .int p13798, .int o14050, .int p13800])), (q13795, .inr (15, [.ref q13796, .int p13801])), (q13796, .inl (I .byte, 8192, .inl f13802))]) (cs' := 0) (sl' := 0) rfl rfl rfl ?_
          refine G_istore_n (L' := [(3, .int (-1)), (2, .int (-1)), (1, .int 0), (0, .ref q13794)]) d_cX9_advance_59 (Nat.le_of_ble_eq_true rfl) rfl ?_
          refine G_aload_n 3 d_cX9_advance_60 rfl ?_
          refine G_iconst 0 d_cX9_advance_61 (by decide +kernel) ?_
          refine G_putf (ws' := [(q13794, .inr (14, [.ref q13795, .int p13797, .int 0, .int o14050, .int p13800])), (q13795, .inr (15, [.ref q13796, .int p13801])), (q13796, .inl (I .byte, 8192, .inl f13802))]) 0 2 d_cX9_advance_62 rfl (gk_X9 D I) (Nat.le_of_ble_eq_true rfl) w_1_81 rfl rfl rfl (Nat.le_of_ble_eq_true rfl) rfl ?_
          refine G_iload_n 1 d_cX9_advance_65 rfl ?_
          refine G_iconst (-1) d_cX9_advance_66 (by decide +kernel) ?_
          refine G_icmp_ne 86 d_cX9_advance_67 (by decide +kernel) (fun hc => absurd hc (by decide)) (fun _ => ?_)
          refine G_aload_n 3 d_cX9_advance_70 rfl ?_
          refine G_iconst 1 d_cX9_advance_71 (by decide +kernel) ?_
          refine G_putf (ws' := [(q13794, .inr (14, [.ref q13795, .int 1, .int 0, .int o14050, .int p13800])), (q13795, .inr (15, [.ref q13796, .int p13801])), (q13796, .inl (I .byte, 8192, .inl f13802))]) 0 1 d_cX9_advance_72 rfl (gk_X9 D I) (Nat.le_of_ble_eq_true rfl) w_1_80 rfl rfl rfl (Nat.le_of_ble_eq_true rfl) rfl ?_
          refine G_aload_n 3 d_cX9_advance_75 rfl ?_
          refine G_aload_n 3 d_cX9_advance_76 rfl ?_
          refine G_getf 0 3 d_cX9_advance_77 rfl (gk_X9 D I) (Nat.le_of_ble_eq_true rfl) w_1_82 rfl ?_
          refine G_putf (ws' := [(q13794, .inr (14, [.ref q13795, .int 1, .int 0, .int o14050, .int o14050])), (q13795, .inr (15, [.ref q13796, .int p13801])), (q13796, .inl (I .byte, 8192, .inl f13802))]) 0 4 d_cX9_advance_80 rfl (gk_X9 D I) (Nat.le_of_ble_eq_true rfl) w_1_83 rfl rfl rfl (Nat.le_of_ble_eq_true rfl) rfl ?_
          refine G_goto 194 d_cX9_advance_83 (by decide +kernel) ?_
          exact G_vret d_cX9_advance_194 rfl (Nat.le_of_ble_eq_true rfl) (Nat.le_of_ble_eq_true rfl) ⟨1, 0, o14050, o14050, rfl, rfl, (gB_w (gBl (show Int32.toInt 1 = 1 by decide)) (by decide) (by decide)), (gB_w (gBl (show Int32.toInt 0 = 0 by decide)) (by decide) (by decide)), (gB_w bo14050' (by decide) (by decide)), (gB_w bo14050' (by decide) (by decide)), (by have qa0 : Int32.toInt (-1) = (-1) := (by decide); have qa1 : Int32.toInt 0 = 0 := (by decide); have qa2 : Int32.toInt 1 = 1 := (by decide); omega)⟩
        · have bz14066' : gB z14066 1 8191 := ⟨by omega, by omega⟩
          have bp13801' : gB p13801 2 8192 := ⟨by omega, by omega⟩
          change G _ _ _ _ _ _ _ (.int z14070 :: _) _ _ _
          refine G_ws (ws' := [(q13794, .inr (14, [.ref q13795, .int p13797, .int p13798, .int o14050, .int p13800])), (q13795, .inr (15, [.ref q13796, .int p13801])), (q13796, .inl (I .byte, 8192, .inl f13802))]) (cs' := 0) (sl' := 0) rfl rfl rfl ?_
          refine G_istore_n (L' := [(3, .int z14070), (2, .int (-1)), (1, .int 0), (0, .ref q13794)]) d_cX9_advance_59 (Nat.le_of_ble_eq_true rfl) rfl ?_
          refine G_aload_n 3 d_cX9_advance_60 rfl ?_
          refine G_iconst 0 d_cX9_advance_61 (by decide +kernel) ?_
          refine G_putf (ws' := [(q13794, .inr (14, [.ref q13795, .int p13797, .int 0, .int o14050, .int p13800])), (q13795, .inr (15, [.ref q13796, .int p13801])), (q13796, .inl (I .byte, 8192, .inl f13802))]) 0 2 d_cX9_advance_62 rfl (gk_X9 D I) (Nat.le_of_ble_eq_true rfl) w_1_81 rfl rfl rfl (Nat.le_of_ble_eq_true rfl) rfl ?_
          refine G_iload_n 1 d_cX9_advance_65 rfl ?_
          refine G_iconst (-1) d_cX9_advance_66 (by decide +kernel) ?_
          refine G_icmp_ne 86 d_cX9_advance_67 (by decide +kernel) (fun hc => absurd hc (by decide)) (fun _ => ?_)
          refine G_aload_n 3 d_cX9_advance_70 rfl ?_
          refine G_iconst 1 d_cX9_advance_71 (by decide +kernel) ?_
          refine G_putf (ws' := [(q13794, .inr (14, [.ref q13795, .int 1, .int 0, .int o14050, .int p13800])), (q13795, .inr (15, [.ref q13796, .int p13801])), (q13796, .inl (I .byte, 8192, .inl f13802))]) 0 1 d_cX9_advance_72 rfl (gk_X9 D I) (Nat.le_of_ble_eq_true rfl) w_1_80 rfl rfl rfl (Nat.le_of_ble_eq_true rfl) rfl ?_
          refine G_aload_n 3 d_cX9_advance_75 rfl ?_
          refine G_aload_n 3 d_cX9_advance_76 rfl ?_
          refine G_getf 0 3 d_cX9_advance_77 rfl (gk_X9 D I) (Nat.le_of_ble_eq_true rfl) w_1_82 rfl ?_
          refine G_putf (ws' := [(q13794, .inr (14, [.ref q13795, .int 1, .int 0, .int o14050, .int o14050])), (q13795, .inr (15, [.ref q13796, .int p13801])), (q13796, .inl (I .byte, 8192, .inl f13802))]) 0 4 d_cX9_advance_80 rfl (gk_X9 D I) (Nat.le_of_ble_eq_true rfl) w_1_83 rfl rfl rfl (Nat.le_of_ble_eq_true rfl) rfl ?_
          refine G_goto 194 d_cX9_advance_83 (by decide +kernel) ?_
          exact G_vret d_cX9_advance_194 rfl (Nat.le_of_ble_eq_true rfl) (Nat.le_of_ble_eq_true rfl) ⟨1, 0, o14050, o14050, rfl, rfl, (gB_w (gBl (show Int32.toInt 1 = 1 by decide)) (by decide) (by decide)), (gB_w (gBl (show Int32.toInt 0 = 0 by decide)) (by decide) (by decide)), (gB_w bo14050' (by decide) (by decide)), (gB_w bo14050' (by decide) (by decide)), (by have qa0 : Int32.toInt (-1) = (-1) := (by decide); have qa1 : Int32.toInt 0 = 0 := (by decide); have qa2 : Int32.toInt 1 = 1 := (by decide); omega)⟩
      · have bo14050' : gB o14050 0 8192 := ⟨by omega, by omega⟩
        have bo14050'' : gB o14050 0 8191 := ⟨by omega, by omega⟩
        have bp13801' : gB p13801 1 8192 := ⟨by omega, by omega⟩
        change G _ _ _ _ _ _ _ (.int z14054 :: _) _ _ _
        refine G_ws (ws' := [(q13794, .inr (14, [.ref q13795, .int p13797, .int p13798, .int o14050, .int p13800])), (q13795, .inr (15, [.ref q13796, .int p13801])), (q13796, .inl (I .byte, 8192, .inl f13802))]) (cs' := 0) (sl' := 0) rfl rfl rfl ?_
        refine G_istore_n (L' := [(2, .int z14054), (1, .int 0), (0, .ref q13794)]) d_cX9_advance_45 (Nat.le_of_ble_eq_true rfl) rfl ?_
        refine G_aload_n 2 d_cX9_advance_46 rfl ?_
        refine G_getf 0 0 d_cX9_advance_47 rfl (gk_X9 D I) (Nat.le_of_ble_eq_true rfl) w_1_79 rfl ?_
        refine G_aload_n 2 d_cX9_advance_50 rfl ?_
        refine G_getf 0 3 d_cX9_advance_51 rfl (gk_X9 D I) (Nat.le_of_ble_eq_true rfl) w_1_82 rfl ?_
        refine G_iconst 1 d_cX9_advance_54 (by decide +kernel) ?_
        refine G_iadd d_cX9_advance_55 (G_nam fun z14074 hz14074 => ?_)
        have ez14074 : z14074.toInt = o14050.toInt + 1 := by rw [gI_add hz14074 bo14050'' (gBl (show Int32.toInt 1 = 1 by decide)) (by decide) (by decide), show Int32.toInt 1 = 1 from by decide]
        have bz14074 : gB z14074 1 8192 := gB_add (gI_add hz14074 bo14050'' (gBl (show Int32.toInt 1 = 1 by decide)) (by decide) (by decide)) bo14050'' (gBl (show Int32.toInt 1 = 1 by decide)) (by decide) (by decide)
        refine G_callV (As := [.int z14074]) (wr := [(q13794, .inr (14, [.ref q13795, .int p13797, .int p13798, .int o14050, .int p13800]))]) (gV_ok D I) (ct_30_Tape_byteAt l hl0 D I q13795 q13796 z14074 p13801 f13802 (gB_w bp13801' (by decide) (by decide)) bf13802) d_cX9_advance_56 ⟨w_3_20, w_1_2, w_3_23, by decide, rfl, (Nat.le_of_ble_eq_true rfl), (Nat.le_of_ble_eq_true rfl)⟩ w_3_21 w_3_22 1 rfl rfl [1, 2] [0] rfl rfl rfl rfl (by decide) (Nat.le_of_ble_eq_true rfl) (Nat.le_of_ble_eq_true rfl) (Nat.le_of_ble_eq_true rfl) (fun r w hp => ?_) (fun _ _ _ z => z.elim)
        rcases hp with ⟨rfl, rfl, r14075⟩ | ⟨rfl, rfl, r14076, r14077⟩ | ⟨z14078, rfl, rfl, r14079, r14080, r14081⟩
        · exact absurd (show False by omega) not_false
        · change G _ _ _ _ _ _ _ (.int (-1) :: _) _ _ _
          refine G_ws (ws' := [(q13794, .inr (14, [.ref q13795, .int p13797, .int p13798, .int o14050, .int p13800])), (q13795, .inr (15, [.ref q13796, .int p13801])), (q13796, .inl (I .byte, 8192, .inl f13802))]) (cs' := 0) (sl' := 0) rfl rfl rfl ?_
          refine G_istore_n (L' := [(3, .int (-1)), (2, .int z14054), (1, .int 0), (0, .ref q13794)]) d_cX9_advance_59 (Nat.le_of_ble_eq_true rfl) rfl ?_
          refine G_aload_n 3 d_cX9_advance_60 rfl ?_
          refine G_iconst 0 d_cX9_advance_61 (by decide +kernel) ?_
          refine G_putf (ws' := [(q13794, .inr (14, [.ref q13795, .int p13797, .int 0, .int o14050, .int p13800])), (q13795, .inr (15, [.ref q13796, .int p13801])), (q13796, .inl (I .byte, 8192, .inl f13802))]) 0 2 d_cX9_advance_62 rfl (gk_X9 D I) (Nat.le_of_ble_eq_true rfl) w_1_81 rfl rfl rfl (Nat.le_of_ble_eq_true rfl) rfl ?_
          refine G_iload_n 1 d_cX9_advance_65 rfl ?_
          refine G_iconst (-1) d_cX9_advance_66 (by decide +kernel) ?_
          refine G_icmp_ne 86 d_cX9_advance_67 (by decide +kernel) (fun _ => ?_) (fun hc => absurd (show False by have := gj_eq hc (show Int32.toInt (-1) = (-1) by decide); omega) not_false)
          refine G_iload_n 1 d_cX9_advance_86 rfl ?_
          refine G_callS (As := [.int z14054]) (wr := [(q13794, .inr (14, [.ref q13795, .int p13797, .int 0, .int o14050, .int p13800])), (q13795, .inr (15, [.ref q13796, .int p13801])), (q13796, .inl (I .byte, 8192, .inl f13802))]) (gV_ok D I) (ct_300_Signs_isDigit l hl0 D I z14054 ) d_cX9_advance_87 ⟨w_3_24, w_1_4, w_3_26, by decide, rfl, (Nat.le_of_ble_eq_true rfl), (Nat.le_of_ble_eq_true rfl)⟩ w_3_25 [] [0, 1, 2] rfl rfl rfl rfl (by decide) (Nat.le_of_ble_eq_true rfl) (Nat.le_of_ble_eq_true rfl) (Nat.le_of_ble_eq_true rfl) (fun r w hp => ?_) (fun _ _ _ z => z.elim)
          rcases hp with ⟨rfl, rfl, r14082⟩ | ⟨rfl, rfl, r14083, r14084⟩ | ⟨rfl, rfl, r14085, r14086⟩
          · have r14057' : gB z14054 0 47 := ⟨by omega, by omega⟩
            change G _ _ _ _ _ _ _ (.int 0 :: _) _ _ _
            refine G_ws (ws' := [(q13794, .inr (14, [.ref q13795, .int p13797, .int 0, .int o14050, .int p13800])), (q13795, .inr (15, [.ref q13796, .int p13801])), (q13796, .inl (I .byte, 8192, .inl f13802))]) (cs' := 0) (sl' := 0) rfl rfl rfl ?_
            refine G_if_ne 110 d_cX9_advance_90 (by decide +kernel) (fun hc => absurd hc (by decide)) (fun _ => ?_)
            refine G_iload_n 1 d_cX9_advance_93 rfl ?_
            refine G_bipush 45 d_cX9_advance_94 (by decide +kernel) ?_
            refine G_icmp_ne 128 d_cX9_advance_96 (by decide +kernel) (fun hc14087 => ?_) (fun hc14087 => ?_)
            · have r14088 : z14054.toInt ≠ 45 := gj_neq hc14087 (show Int32.toInt 45 = 45 by decide)
              refine G_iload_n 1 d_cX9_advance_128 rfl ?_
              refine G_bipush 118 d_cX9_advance_129 (by decide +kernel) ?_
              refine G_icmp_ne 151 d_cX9_advance_131 (by decide +kernel) (fun _ => ?_) (fun hc => absurd (show False by have := gj_eq hc (show Int32.toInt 118 = 118 by decide); omega) not_false)
              refine G_iload_n 1 d_cX9_advance_151 rfl ?_
              refine G_bipush 98 d_cX9_advance_152 (by decide +kernel) ?_
              refine G_icmp_ne 174 d_cX9_advance_154 (by decide +kernel) (fun _ => ?_) (fun hc => absurd (show False by have := gj_eq hc (show Int32.toInt 98 = 98 by decide); omega) not_false)
              refine G_iload_n 1 d_cX9_advance_174 rfl ?_
              refine G_callS (As := [.int z14054]) (wr := [(q13794, .inr (14, [.ref q13795, .int p13797, .int 0, .int o14050, .int p13800])), (q13795, .inr (15, [.ref q13796, .int p13801])), (q13796, .inl (I .byte, 8192, .inl f13802))]) (gV_ok D I) (ct_308_Signs_isLetter l hl0 D I z14054 ) d_cX9_advance_175 ⟨w_3_45, w_1_4, w_3_47, by decide, rfl, (Nat.le_of_ble_eq_true rfl), (Nat.le_of_ble_eq_true rfl)⟩ w_3_46 [] [0, 1, 2] rfl rfl rfl rfl (by decide) (Nat.le_of_ble_eq_true rfl) (Nat.le_of_ble_eq_true rfl) (Nat.le_of_ble_eq_true rfl) (fun r w hp => ?_) (fun _ _ _ z => z.elim)
              rcases hp with ⟨rfl, rfl, r14089⟩ | ⟨rfl, rfl, r14090, r14091⟩ | ⟨rfl, rfl, r14092, r14093⟩
              · change G _ _ _ _ _ _ _ (.int 0 :: _) _ _ _
                refine G_ws (ws' := [(q13794, .inr (14, [.ref q13795, .int p13797, .int 0, .int o14050, .int p13800])), (q13795, .inr (15, [.ref q13796, .int p13801])), (q13796, .inl (I .byte, 8192, .inl f13802))]) (cs' := 0) (sl' := 0) rfl rfl rfl ?_
                refine G_if_eq 188 d_cX9_advance_178 (by decide +kernel) (fun _ => ?_) (fun hc => absurd hc (by decide))
                refine G_aload_n 3 d_cX9_advance_188 rfl ?_
                refine G_iload_n 1 d_cX9_advance_189 rfl ?_
                refine G_iload_n 0 d_cX9_advance_190 rfl ?_
                refine G_callV (As := [.int z14054, .int (-1)]) (wr := []) (gV_ok D I) (ct_13760_Signs_takeMark l hl0 D I q13794 q13795 q13796 z14054 (-1) p13797 0 o14050 p13800 p13801 f13802 (gB_w bp13801' (by decide) (by decide)) bf13802 (by have qa0 : Int32.toInt (-1) = (-1) := (by decide); have qa1 : Int32.toInt 0 = 0 := (by decide); omega)) d_cX9_advance_191 ⟨w_3_109, w_1_4, w_3_112, by decide, rfl, (Nat.le_of_ble_eq_true rfl), (Nat.le_of_ble_eq_true rfl)⟩ w_3_111 w_p_6 0 rfl rfl [0, 1, 2] [] rfl rfl rfl rfl (by decide) (Nat.le_of_ble_eq_true rfl) (Nat.le_of_ble_eq_true rfl) (Nat.le_of_ble_eq_true rfl) (fun r w hp => ?_) (fun _ _ _ z => z.elim)
                obtain ⟨o14094, o14095, o14096, rfl, rfl, bo14094, bo14095, bo14096, x14097⟩ := hp
                change G _ _ _ _ _ _ _ _ _ _ _
                refine G_ws (ws' := [(q13794, .inr (14, [.ref q13795, .int o14094, .int o14095, .int o14050, .int o14096])), (q13795, .inr (15, [.ref q13796, .int p13801])), (q13796, .inl (I .byte, 8192, .inl f13802))]) (cs' := 0) (sl' := 0) rfl rfl rfl ?_
                exact G_vret d_cX9_advance_194 rfl (Nat.le_of_ble_eq_true rfl) (Nat.le_of_ble_eq_true rfl) ⟨o14094, o14095, o14050, o14096, rfl, rfl, (gB_w bo14094 (by decide) (by decide)), (gB_w bo14095 (by decide) (by decide)), (gB_w bo14050'' (by decide) (by decide)), bo14096, (by have qa0 : Int32.toInt (-1) = (-1) := (by decide); have qa1 : Int32.toInt 0 = 0 := (by decide); omega)⟩
              · exact absurd (show False by omega) not_false
              · exact absurd (show False by omega) not_false
            · have r14098 : z14054.toInt = 45 := gj_eq hc14087 (show Int32.toInt 45 = 45 by decide)
              have r14057'' : gB z14054 45 45 := ⟨by omega, by omega⟩
              refine G_iload_n 0 d_cX9_advance_99 rfl ?_
              refine G_callS (As := [.int (-1)]) (wr := [(q13794, .inr (14, [.ref q13795, .int p13797, .int 0, .int o14050, .int p13800])), (q13795, .inr (15, [.ref q13796, .int p13801])), (q13796, .inl (I .byte, 8192, .inl f13802))]) (gV_ok D I) (ct_300_Signs_isDigit l hl0 D I (-1) ) d_cX9_advance_100 ⟨w_3_24, w_1_4, w_3_26, by decide, rfl, (Nat.le_of_ble_eq_true rfl), (Nat.le_of_ble_eq_true rfl)⟩ w_3_25 [] [0, 1, 2] rfl rfl rfl rfl (by decide) (Nat.le_of_ble_eq_true rfl) (Nat.le_of_ble_eq_true rfl) (Nat.le_of_ble_eq_true rfl) (fun r w hp => ?_) (fun _ _ _ z => z.elim)
              rcases hp with ⟨rfl, rfl, r14099⟩ | ⟨rfl, rfl, r14100, r14101⟩ | ⟨rfl, rfl, r14102, r14103⟩
              · rw [show Int32.toInt (-1) = (-1) from by decide] at r14099
                change G _ _ _ _ _ _ _ (.int 0 :: _) _ _ _
                refine G_ws (ws' := [(q13794, .inr (14, [.ref q13795, .int p13797, .int 0, .int o14050, .int p13800])), (q13795, .inr (15, [.ref q13796, .int p13801])), (q13796, .inl (I .byte, 8192, .inl f13802))]) (cs' := 0) (sl' := 0) rfl rfl rfl ?_
                refine G_if_eq 128 d_cX9_advance_103 (by decide +kernel) (fun _ => ?_) (fun hc => absurd hc (by decide))
                refine G_iload_n 1 d_cX9_advance_128 rfl ?_
                refine G_bipush 118 d_cX9_advance_129 (by decide +kernel) ?_
                refine G_icmp_ne 151 d_cX9_advance_131 (by decide +kernel) (fun _ => ?_) (fun hc => absurd (show False by have := gj_eq hc (show Int32.toInt 118 = 118 by decide); omega) not_false)
                refine G_iload_n 1 d_cX9_advance_151 rfl ?_
                refine G_bipush 98 d_cX9_advance_152 (by decide +kernel) ?_
                refine G_icmp_ne 174 d_cX9_advance_154 (by decide +kernel) (fun _ => ?_) (fun hc => absurd (show False by have := gj_eq hc (show Int32.toInt 98 = 98 by decide); omega) not_false)
                refine G_iload_n 1 d_cX9_advance_174 rfl ?_
                refine G_callS (As := [.int z14054]) (wr := [(q13794, .inr (14, [.ref q13795, .int p13797, .int 0, .int o14050, .int p13800])), (q13795, .inr (15, [.ref q13796, .int p13801])), (q13796, .inl (I .byte, 8192, .inl f13802))]) (gV_ok D I) (ct_308_Signs_isLetter l hl0 D I z14054 ) d_cX9_advance_175 ⟨w_3_45, w_1_4, w_3_47, by decide, rfl, (Nat.le_of_ble_eq_true rfl), (Nat.le_of_ble_eq_true rfl)⟩ w_3_46 [] [0, 1, 2] rfl rfl rfl rfl (by decide) (Nat.le_of_ble_eq_true rfl) (Nat.le_of_ble_eq_true rfl) (Nat.le_of_ble_eq_true rfl) (fun r w hp => ?_) (fun _ _ _ z => z.elim)
                rcases hp with ⟨rfl, rfl, r14104⟩ | ⟨rfl, rfl, r14105, r14106⟩ | ⟨rfl, rfl, r14107, r14108⟩
                · change G _ _ _ _ _ _ _ (.int 0 :: _) _ _ _
                  refine G_ws (ws' := [(q13794, .inr (14, [.ref q13795, .int p13797, .int 0, .int o14050, .int p13800])), (q13795, .inr (15, [.ref q13796, .int p13801])), (q13796, .inl (I .byte, 8192, .inl f13802))]) (cs' := 0) (sl' := 0) rfl rfl rfl ?_
                  refine G_if_eq 188 d_cX9_advance_178 (by decide +kernel) (fun _ => ?_) (fun hc => absurd hc (by decide))
                  refine G_aload_n 3 d_cX9_advance_188 rfl ?_
                  refine G_iload_n 1 d_cX9_advance_189 rfl ?_
                  refine G_iload_n 0 d_cX9_advance_190 rfl ?_
                  refine G_callV (As := [.int z14054, .int (-1)]) (wr := []) (gV_ok D I) (ct_13760_Signs_takeMark l hl0 D I q13794 q13795 q13796 z14054 (-1) p13797 0 o14050 p13800 p13801 f13802 (gB_w bp13801' (by decide) (by decide)) bf13802 (by have qa0 : Int32.toInt (-1) = (-1) := (by decide); have qa1 : Int32.toInt 0 = 0 := (by decide); omega)) d_cX9_advance_191 ⟨w_3_109, w_1_4, w_3_112, by decide, rfl, (Nat.le_of_ble_eq_true rfl), (Nat.le_of_ble_eq_true rfl)⟩ w_3_111 w_p_6 0 rfl rfl [0, 1, 2] [] rfl rfl rfl rfl (by decide) (Nat.le_of_ble_eq_true rfl) (Nat.le_of_ble_eq_true rfl) (Nat.le_of_ble_eq_true rfl) (fun r w hp => ?_) (fun _ _ _ z => z.elim)
                  obtain ⟨o14109, o14110, o14111, rfl, rfl, bo14109, bo14110, bo14111, x14112⟩ := hp
                  change G _ _ _ _ _ _ _ _ _ _ _
                  refine G_ws (ws' := [(q13794, .inr (14, [.ref q13795, .int o14109, .int o14110, .int o14050, .int o14111])), (q13795, .inr (15, [.ref q13796, .int p13801])), (q13796, .inl (I .byte, 8192, .inl f13802))]) (cs' := 0) (sl' := 0) rfl rfl rfl ?_
                  exact G_vret d_cX9_advance_194 rfl (Nat.le_of_ble_eq_true rfl) (Nat.le_of_ble_eq_true rfl) ⟨o14109, o14110, o14050, o14111, rfl, rfl, (gB_w bo14109 (by decide) (by decide)), (gB_w bo14110 (by decide) (by decide)), (gB_w bo14050'' (by decide) (by decide)), bo14111, (by have qa0 : Int32.toInt (-1) = (-1) := (by decide); have qa1 : Int32.toInt 0 = 0 := (by decide); omega)⟩
                · exact absurd (show False by omega) not_false
                · exact absurd (show False by omega) not_false
              · rw [show Int32.toInt (-1) = (-1) from by decide] at r14100
                exact absurd (show False by omega) not_false
              · rw [show Int32.toInt (-1) = (-1) from by decide] at r14102
                exact absurd (show False by omega) not_false
          · have r14057' : gB z14054 48 255 := ⟨by omega, by omega⟩
            have r14057'' : gB z14054 58 255 := ⟨by omega, by omega⟩
            change G _ _ _ _ _ _ _ (.int 0 :: _) _ _ _
            refine G_ws (ws' := [(q13794, .inr (14, [.ref q13795, .int p13797, .int 0, .int o14050, .int p13800])), (q13795, .inr (15, [.ref q13796, .int p13801])), (q13796, .inl (I .byte, 8192, .inl f13802))]) (cs' := 0) (sl' := 0) rfl rfl rfl ?_
            refine G_if_ne 110 d_cX9_advance_90 (by decide +kernel) (fun hc => absurd hc (by decide)) (fun _ => ?_)
            refine G_iload_n 1 d_cX9_advance_93 rfl ?_
            refine G_bipush 45 d_cX9_advance_94 (by decide +kernel) ?_
            refine G_icmp_ne 128 d_cX9_advance_96 (by decide +kernel) (fun _ => ?_) (fun hc => absurd (show False by have := gj_eq hc (show Int32.toInt 45 = 45 by decide); omega) not_false)
            refine G_iload_n 1 d_cX9_advance_128 rfl ?_
            refine G_bipush 118 d_cX9_advance_129 (by decide +kernel) ?_
            refine G_icmp_ne 151 d_cX9_advance_131 (by decide +kernel) (fun hc14113 => ?_) (fun hc14113 => ?_)
            · have r14114 : z14054.toInt ≠ 118 := gj_neq hc14113 (show Int32.toInt 118 = 118 by decide)
              refine G_iload_n 1 d_cX9_advance_151 rfl ?_
              refine G_bipush 98 d_cX9_advance_152 (by decide +kernel) ?_
              refine G_icmp_ne 174 d_cX9_advance_154 (by decide +kernel) (fun hc14115 => ?_) (fun hc14115 => ?_)
              · have r14116 : z14054.toInt ≠ 98 := gj_neq hc14115 (show Int32.toInt 98 = 98 by decide)
                refine G_iload_n 1 d_cX9_advance_174 rfl ?_
                refine G_callS (As := [.int z14054]) (wr := [(q13794, .inr (14, [.ref q13795, .int p13797, .int 0, .int o14050, .int p13800])), (q13795, .inr (15, [.ref q13796, .int p13801])), (q13796, .inl (I .byte, 8192, .inl f13802))]) (gV_ok D I) (ct_308_Signs_isLetter l hl0 D I z14054 ) d_cX9_advance_175 ⟨w_3_45, w_1_4, w_3_47, by decide, rfl, (Nat.le_of_ble_eq_true rfl), (Nat.le_of_ble_eq_true rfl)⟩ w_3_46 [] [0, 1, 2] rfl rfl rfl rfl (by decide) (Nat.le_of_ble_eq_true rfl) (Nat.le_of_ble_eq_true rfl) (Nat.le_of_ble_eq_true rfl) (fun r w hp => ?_) (fun _ _ _ z => z.elim)
                rcases hp with ⟨rfl, rfl, r14117⟩ | ⟨rfl, rfl, r14118, r14119⟩ | ⟨rfl, rfl, r14120, r14121⟩
                · have r14057''' : gB z14054 58 96 := ⟨by omega, by omega⟩
                  change G _ _ _ _ _ _ _ (.int 0 :: _) _ _ _
                  refine G_ws (ws' := [(q13794, .inr (14, [.ref q13795, .int p13797, .int 0, .int o14050, .int p13800])), (q13795, .inr (15, [.ref q13796, .int p13801])), (q13796, .inl (I .byte, 8192, .inl f13802))]) (cs' := 0) (sl' := 0) rfl rfl rfl ?_
                  refine G_if_eq 188 d_cX9_advance_178 (by decide +kernel) (fun _ => ?_) (fun hc => absurd hc (by decide))
                  refine G_aload_n 3 d_cX9_advance_188 rfl ?_
                  refine G_iload_n 1 d_cX9_advance_189 rfl ?_
                  refine G_iload_n 0 d_cX9_advance_190 rfl ?_
                  refine G_callV (As := [.int z14054, .int (-1)]) (wr := []) (gV_ok D I) (ct_13760_Signs_takeMark l hl0 D I q13794 q13795 q13796 z14054 (-1) p13797 0 o14050 p13800 p13801 f13802 (gB_w bp13801' (by decide) (by decide)) bf13802 (by have qa0 : Int32.toInt (-1) = (-1) := (by decide); have qa1 : Int32.toInt 0 = 0 := (by decide); omega)) d_cX9_advance_191 ⟨w_3_109, w_1_4, w_3_112, by decide, rfl, (Nat.le_of_ble_eq_true rfl), (Nat.le_of_ble_eq_true rfl)⟩ w_3_111 w_p_6 0 rfl rfl [0, 1, 2] [] rfl rfl rfl rfl (by decide) (Nat.le_of_ble_eq_true rfl) (Nat.le_of_ble_eq_true rfl) (Nat.le_of_ble_eq_true rfl) (fun r w hp => ?_) (fun _ _ _ z => z.elim)
                  obtain ⟨o14122, o14123, o14124, rfl, rfl, bo14122, bo14123, bo14124, x14125⟩ := hp
                  change G _ _ _ _ _ _ _ _ _ _ _
                  refine G_ws (ws' := [(q13794, .inr (14, [.ref q13795, .int o14122, .int o14123, .int o14050, .int o14124])), (q13795, .inr (15, [.ref q13796, .int p13801])), (q13796, .inl (I .byte, 8192, .inl f13802))]) (cs' := 0) (sl' := 0) rfl rfl rfl ?_
                  exact G_vret d_cX9_advance_194 rfl (Nat.le_of_ble_eq_true rfl) (Nat.le_of_ble_eq_true rfl) ⟨o14122, o14123, o14050, o14124, rfl, rfl, (gB_w bo14122 (by decide) (by decide)), (gB_w bo14123 (by decide) (by decide)), (gB_w bo14050'' (by decide) (by decide)), bo14124, (by have qa0 : Int32.toInt (-1) = (-1) := (by decide); have qa1 : Int32.toInt 0 = 0 := (by decide); omega)⟩
                · have r14057''' : gB z14054 97 255 := ⟨by omega, by omega⟩
                  have r14057'''' : gB z14054 123 255 := ⟨by omega, by omega⟩
                  change G _ _ _ _ _ _ _ (.int 0 :: _) _ _ _
                  refine G_ws (ws' := [(q13794, .inr (14, [.ref q13795, .int p13797, .int 0, .int o14050, .int p13800])), (q13795, .inr (15, [.ref q13796, .int p13801])), (q13796, .inl (I .byte, 8192, .inl f13802))]) (cs' := 0) (sl' := 0) rfl rfl rfl ?_
                  refine G_if_eq 188 d_cX9_advance_178 (by decide +kernel) (fun _ => ?_) (fun hc => absurd hc (by decide))
                  refine G_aload_n 3 d_cX9_advance_188 rfl ?_
                  refine G_iload_n 1 d_cX9_advance_189 rfl ?_
                  refine G_iload_n 0 d_cX9_advance_190 rfl ?_
                  refine G_callV (As := [.int z14054, .int (-1)]) (wr := []) (gV_ok D I) (ct_13760_Signs_takeMark l hl0 D I q13794 q13795 q13796 z14054 (-1) p13797 0 o14050 p13800 p13801 f13802 (gB_w bp13801' (by decide) (by decide)) bf13802 (by have qa0 : Int32.toInt (-1) = (-1) := (by decide); have qa1 : Int32.toInt 0 = 0 := (by decide); omega)) d_cX9_advance_191 ⟨w_3_109, w_1_4, w_3_112, by decide, rfl, (Nat.le_of_ble_eq_true rfl), (Nat.le_of_ble_eq_true rfl)⟩ w_3_111 w_p_6 0 rfl rfl [0, 1, 2] [] rfl rfl rfl rfl (by decide) (Nat.le_of_ble_eq_true rfl) (Nat.le_of_ble_eq_true rfl) (Nat.le_of_ble_eq_true rfl) (fun r w hp => ?_) (fun _ _ _ z => z.elim)
                  obtain ⟨o14126, o14127, o14128, rfl, rfl, bo14126, bo14127, bo14128, x14129⟩ := hp
                  change G _ _ _ _ _ _ _ _ _ _ _
                  refine G_ws (ws' := [(q13794, .inr (14, [.ref q13795, .int o14126, .int o14127, .int o14050, .int o14128])), (q13795, .inr (15, [.ref q13796, .int p13801])), (q13796, .inl (I .byte, 8192, .inl f13802))]) (cs' := 0) (sl' := 0) rfl rfl rfl ?_
                  exact G_vret d_cX9_advance_194 rfl (Nat.le_of_ble_eq_true rfl) (Nat.le_of_ble_eq_true rfl) ⟨o14126, o14127, o14050, o14128, rfl, rfl, (gB_w bo14126 (by decide) (by decide)), (gB_w bo14127 (by decide) (by decide)), (gB_w bo14050'' (by decide) (by decide)), bo14128, (by have qa0 : Int32.toInt (-1) = (-1) := (by decide); have qa1 : Int32.toInt 0 = 0 := (by decide); omega)⟩
                · have r14057''' : gB z14054 97 255 := ⟨by omega, by omega⟩
                  have r14057'''' : gB z14054 97 122 := ⟨by omega, by omega⟩
                  change G _ _ _ _ _ _ _ (.int 1 :: _) _ _ _
                  refine G_ws (ws' := [(q13794, .inr (14, [.ref q13795, .int p13797, .int 0, .int o14050, .int p13800])), (q13795, .inr (15, [.ref q13796, .int p13801])), (q13796, .inl (I .byte, 8192, .inl f13802))]) (cs' := 0) (sl' := 0) rfl rfl rfl ?_
                  refine G_if_eq 188 d_cX9_advance_178 (by decide +kernel) (fun hc => absurd hc (by decide)) (fun _ => ?_)
                  refine G_aload_n 3 d_cX9_advance_181 rfl ?_
                  refine G_callV (As := []) (wr := []) (gV_ok D I) (ct_12941_Signs_takeWord l hl0 D I q13794 q13795 q13796 p13797 0 o14050 p13800 p13801 f13802 (gB_w bp13801' (by decide) (by decide)) bf13802 (by have qa0 : Int32.toInt 0 = 0 := (by decide); omega)) d_cX9_advance_182 ⟨w_3_48, w_1_4, w_3_51, by decide, rfl, (Nat.le_of_ble_eq_true rfl), (Nat.le_of_ble_eq_true rfl)⟩ w_3_50 w_p_4 0 rfl rfl [0, 1, 2] [] rfl rfl rfl rfl (by decide) (Nat.le_of_ble_eq_true rfl) (Nat.le_of_ble_eq_true rfl) (Nat.le_of_ble_eq_true rfl) (fun r w hp => ?_) (fun _ _ _ z => z.elim)
                  obtain ⟨o14130, o14131, rfl, rfl, bo14130, bo14131, x14132⟩ := hp
                  rw [show Int32.toInt 0 = 0 from by decide] at x14132
                  change G _ _ _ _ _ _ _ _ _ _ _
                  refine G_ws (ws' := [(q13794, .inr (14, [.ref q13795, .int o14130, .int 0, .int o14050, .int o14131])), (q13795, .inr (15, [.ref q13796, .int p13801])), (q13796, .inl (I .byte, 8192, .inl f13802))]) (cs' := 0) (sl' := 0) rfl rfl rfl ?_
                  refine G_goto 194 d_cX9_advance_185 (by decide +kernel) ?_
                  exact G_vret d_cX9_advance_194 rfl (Nat.le_of_ble_eq_true rfl) (Nat.le_of_ble_eq_true rfl) ⟨o14130, 0, o14050, o14131, rfl, rfl, bo14130, (gB_w (gBl (show Int32.toInt 0 = 0 by decide)) (by decide) (by decide)), (gB_w bo14050'' (by decide) (by decide)), bo14131, (by have qa0 : Int32.toInt (-1) = (-1) := (by decide); have qa1 : Int32.toInt 0 = 0 := (by decide); omega)⟩
              · have r14133 : z14054.toInt = 98 := gj_eq hc14115 (show Int32.toInt 98 = 98 by decide)
                have r14057''' : gB z14054 98 98 := ⟨by omega, by omega⟩
                refine G_iload_n 0 d_cX9_advance_157 rfl ?_
                refine G_callS (As := [.int (-1)]) (wr := [(q13794, .inr (14, [.ref q13795, .int p13797, .int 0, .int o14050, .int p13800])), (q13795, .inr (15, [.ref q13796, .int p13801])), (q13796, .inl (I .byte, 8192, .inl f13802))]) (gV_ok D I) (ct_300_Signs_isDigit l hl0 D I (-1) ) d_cX9_advance_158 ⟨w_3_24, w_1_4, w_3_26, by decide, rfl, (Nat.le_of_ble_eq_true rfl), (Nat.le_of_ble_eq_true rfl)⟩ w_3_25 [] [0, 1, 2] rfl rfl rfl rfl (by decide) (Nat.le_of_ble_eq_true rfl) (Nat.le_of_ble_eq_true rfl) (Nat.le_of_ble_eq_true rfl) (fun r w hp => ?_) (fun _ _ _ z => z.elim)
                rcases hp with ⟨rfl, rfl, r14134⟩ | ⟨rfl, rfl, r14135, r14136⟩ | ⟨rfl, rfl, r14137, r14138⟩
                · rw [show Int32.toInt (-1) = (-1) from by decide] at r14134
                  change G _ _ _ _ _ _ _ (.int 0 :: _) _ _ _
                  refine G_ws (ws' := [(q13794, .inr (14, [.ref q13795, .int p13797, .int 0, .int o14050, .int p13800])), (q13795, .inr (15, [.ref q13796, .int p13801])), (q13796, .inl (I .byte, 8192, .inl f13802))]) (cs' := 0) (sl' := 0) rfl rfl rfl ?_
                  refine G_if_eq 174 d_cX9_advance_161 (by decide +kernel) (fun _ => ?_) (fun hc => absurd hc (by decide))
                  refine G_iload_n 1 d_cX9_advance_174 rfl ?_
                  refine G_callS (As := [.int z14054]) (wr := [(q13794, .inr (14, [.ref q13795, .int p13797, .int 0, .int o14050, .int p13800])), (q13795, .inr (15, [.ref q13796, .int p13801])), (q13796, .inl (I .byte, 8192, .inl f13802))]) (gV_ok D I) (ct_308_Signs_isLetter l hl0 D I z14054 ) d_cX9_advance_175 ⟨w_3_45, w_1_4, w_3_47, by decide, rfl, (Nat.le_of_ble_eq_true rfl), (Nat.le_of_ble_eq_true rfl)⟩ w_3_46 [] [0, 1, 2] rfl rfl rfl rfl (by decide) (Nat.le_of_ble_eq_true rfl) (Nat.le_of_ble_eq_true rfl) (Nat.le_of_ble_eq_true rfl) (fun r w hp => ?_) (fun _ _ _ z => z.elim)
                  rcases hp with ⟨rfl, rfl, r14139⟩ | ⟨rfl, rfl, r14140, r14141⟩ | ⟨rfl, rfl, r14142, r14143⟩
                  · exact absurd (show False by omega) not_false
                  · exact absurd (show False by omega) not_false
                  · change G _ _ _ _ _ _ _ (.int 1 :: _) _ _ _
                    refine G_ws (ws' := [(q13794, .inr (14, [.ref q13795, .int p13797, .int 0, .int o14050, .int p13800])), (q13795, .inr (15, [.ref q13796, .int p13801])), (q13796, .inl (I .byte, 8192, .inl f13802))]) (cs' := 0) (sl' := 0) rfl rfl rfl ?_
                    refine G_if_eq 188 d_cX9_advance_178 (by decide +kernel) (fun hc => absurd hc (by decide)) (fun _ => ?_)
                    refine G_aload_n 3 d_cX9_advance_181 rfl ?_
                    refine G_callV (As := []) (wr := []) (gV_ok D I) (ct_12941_Signs_takeWord l hl0 D I q13794 q13795 q13796 p13797 0 o14050 p13800 p13801 f13802 (gB_w bp13801' (by decide) (by decide)) bf13802 (by have qa0 : Int32.toInt 0 = 0 := (by decide); omega)) d_cX9_advance_182 ⟨w_3_48, w_1_4, w_3_51, by decide, rfl, (Nat.le_of_ble_eq_true rfl), (Nat.le_of_ble_eq_true rfl)⟩ w_3_50 w_p_4 0 rfl rfl [0, 1, 2] [] rfl rfl rfl rfl (by decide) (Nat.le_of_ble_eq_true rfl) (Nat.le_of_ble_eq_true rfl) (Nat.le_of_ble_eq_true rfl) (fun r w hp => ?_) (fun _ _ _ z => z.elim)
                    obtain ⟨o14144, o14145, rfl, rfl, bo14144, bo14145, x14146⟩ := hp
                    rw [show Int32.toInt 0 = 0 from by decide] at x14146
                    change G _ _ _ _ _ _ _ _ _ _ _
                    refine G_ws (ws' := [(q13794, .inr (14, [.ref q13795, .int o14144, .int 0, .int o14050, .int o14145])), (q13795, .inr (15, [.ref q13796, .int p13801])), (q13796, .inl (I .byte, 8192, .inl f13802))]) (cs' := 0) (sl' := 0) rfl rfl rfl ?_
                    refine G_goto 194 d_cX9_advance_185 (by decide +kernel) ?_
                    exact G_vret d_cX9_advance_194 rfl (Nat.le_of_ble_eq_true rfl) (Nat.le_of_ble_eq_true rfl) ⟨o14144, 0, o14050, o14145, rfl, rfl, bo14144, (gB_w (gBl (show Int32.toInt 0 = 0 by decide)) (by decide) (by decide)), (gB_w bo14050'' (by decide) (by decide)), bo14145, (by have qa0 : Int32.toInt (-1) = (-1) := (by decide); have qa1 : Int32.toInt 0 = 0 := (by decide); omega)⟩
                · rw [show Int32.toInt (-1) = (-1) from by decide] at r14135
                  exact absurd (show False by omega) not_false
                · rw [show Int32.toInt (-1) = (-1) from by decide] at r14137
                  exact absurd (show False by omega) not_false
            · have r14147 : z14054.toInt = 118 := gj_eq hc14113 (show Int32.toInt 118 = 118 by decide)
              have r14057''' : gB z14054 118 118 := ⟨by omega, by omega⟩
              refine G_iload_n 0 d_cX9_advance_134 rfl ?_
              refine G_callS (As := [.int (-1)]) (wr := [(q13794, .inr (14, [.ref q13795, .int p13797, .int 0, .int o14050, .int p13800])), (q13795, .inr (15, [.ref q13796, .int p13801])), (q13796, .inl (I .byte, 8192, .inl f13802))]) (gV_ok D I) (ct_300_Signs_isDigit l hl0 D I (-1) ) d_cX9_advance_135 ⟨w_3_24, w_1_4, w_3_26, by decide, rfl, (Nat.le_of_ble_eq_true rfl), (Nat.le_of_ble_eq_true rfl)⟩ w_3_25 [] [0, 1, 2] rfl rfl rfl rfl (by decide) (Nat.le_of_ble_eq_true rfl) (Nat.le_of_ble_eq_true rfl) (Nat.le_of_ble_eq_true rfl) (fun r w hp => ?_) (fun _ _ _ z => z.elim)
              rcases hp with ⟨rfl, rfl, r14148⟩ | ⟨rfl, rfl, r14149, r14150⟩ | ⟨rfl, rfl, r14151, r14152⟩
              · rw [show Int32.toInt (-1) = (-1) from by decide] at r14148
                change G _ _ _ _ _ _ _ (.int 0 :: _) _ _ _
                refine G_ws (ws' := [(q13794, .inr (14, [.ref q13795, .int p13797, .int 0, .int o14050, .int p13800])), (q13795, .inr (15, [.ref q13796, .int p13801])), (q13796, .inl (I .byte, 8192, .inl f13802))]) (cs' := 0) (sl' := 0) rfl rfl rfl ?_
                refine G_if_eq 151 d_cX9_advance_138 (by decide +kernel) (fun _ => ?_) (fun hc => absurd hc (by decide))
                refine G_iload_n 1 d_cX9_advance_151 rfl ?_
                refine G_bipush 98 d_cX9_advance_152 (by decide +kernel) ?_
                refine G_icmp_ne 174 d_cX9_advance_154 (by decide +kernel) (fun _ => ?_) (fun hc => absurd (show False by have := gj_eq hc (show Int32.toInt 98 = 98 by decide); omega) not_false)
                refine G_iload_n 1 d_cX9_advance_174 rfl ?_
                refine G_callS (As := [.int z14054]) (wr := [(q13794, .inr (14, [.ref q13795, .int p13797, .int 0, .int o14050, .int p13800])), (q13795, .inr (15, [.ref q13796, .int p13801])), (q13796, .inl (I .byte, 8192, .inl f13802))]) (gV_ok D I) (ct_308_Signs_isLetter l hl0 D I z14054 ) d_cX9_advance_175 ⟨w_3_45, w_1_4, w_3_47, by decide, rfl, (Nat.le_of_ble_eq_true rfl), (Nat.le_of_ble_eq_true rfl)⟩ w_3_46 [] [0, 1, 2] rfl rfl rfl rfl (by decide) (Nat.le_of_ble_eq_true rfl) (Nat.le_of_ble_eq_true rfl) (Nat.le_of_ble_eq_true rfl) (fun r w hp => ?_) (fun _ _ _ z => z.elim)
                rcases hp with ⟨rfl, rfl, r14153⟩ | ⟨rfl, rfl, r14154, r14155⟩ | ⟨rfl, rfl, r14156, r14157⟩
                · exact absurd (show False by omega) not_false
                · exact absurd (show False by omega) not_false
                · change G _ _ _ _ _ _ _ (.int 1 :: _) _ _ _
                  refine G_ws (ws' := [(q13794, .inr (14, [.ref q13795, .int p13797, .int 0, .int o14050, .int p13800])), (q13795, .inr (15, [.ref q13796, .int p13801])), (q13796, .inl (I .byte, 8192, .inl f13802))]) (cs' := 0) (sl' := 0) rfl rfl rfl ?_
                  refine G_if_eq 188 d_cX9_advance_178 (by decide +kernel) (fun hc => absurd hc (by decide)) (fun _ => ?_)
                  refine G_aload_n 3 d_cX9_advance_181 rfl ?_
                  refine G_callV (As := []) (wr := []) (gV_ok D I) (ct_12941_Signs_takeWord l hl0 D I q13794 q13795 q13796 p13797 0 o14050 p13800 p13801 f13802 (gB_w bp13801' (by decide) (by decide)) bf13802 (by have qa0 : Int32.toInt 0 = 0 := (by decide); omega)) d_cX9_advance_182 ⟨w_3_48, w_1_4, w_3_51, by decide, rfl, (Nat.le_of_ble_eq_true rfl), (Nat.le_of_ble_eq_true rfl)⟩ w_3_50 w_p_4 0 rfl rfl [0, 1, 2] [] rfl rfl rfl rfl (by decide) (Nat.le_of_ble_eq_true rfl) (Nat.le_of_ble_eq_true rfl) (Nat.le_of_ble_eq_true rfl) (fun r w hp => ?_) (fun _ _ _ z => z.elim)
                  obtain ⟨o14158, o14159, rfl, rfl, bo14158, bo14159, x14160⟩ := hp
                  rw [show Int32.toInt 0 = 0 from by decide] at x14160
                  change G _ _ _ _ _ _ _ _ _ _ _
                  refine G_ws (ws' := [(q13794, .inr (14, [.ref q13795, .int o14158, .int 0, .int o14050, .int o14159])), (q13795, .inr (15, [.ref q13796, .int p13801])), (q13796, .inl (I .byte, 8192, .inl f13802))]) (cs' := 0) (sl' := 0) rfl rfl rfl ?_
                  refine G_goto 194 d_cX9_advance_185 (by decide +kernel) ?_
                  exact G_vret d_cX9_advance_194 rfl (Nat.le_of_ble_eq_true rfl) (Nat.le_of_ble_eq_true rfl) ⟨o14158, 0, o14050, o14159, rfl, rfl, bo14158, (gB_w (gBl (show Int32.toInt 0 = 0 by decide)) (by decide) (by decide)), (gB_w bo14050'' (by decide) (by decide)), bo14159, (by have qa0 : Int32.toInt (-1) = (-1) := (by decide); have qa1 : Int32.toInt 0 = 0 := (by decide); omega)⟩
              · rw [show Int32.toInt (-1) = (-1) from by decide] at r14149
                exact absurd (show False by omega) not_false
              · rw [show Int32.toInt (-1) = (-1) from by decide] at r14151
                exact absurd (show False by omega) not_false
          · have r14057' : gB z14054 48 255 := ⟨by omega, by omega⟩
            have r14057'' : gB z14054 48 57 := ⟨by omega, by omega⟩
            change G _ _ _ _ _ _ _ (.int 1 :: _) _ _ _
            refine G_ws (ws' := [(q13794, .inr (14, [.ref q13795, .int p13797, .int 0, .int o14050, .int p13800])), (q13795, .inr (15, [.ref q13796, .int p13801])), (q13796, .inl (I .byte, 8192, .inl f13802))]) (cs' := 0) (sl' := 0) rfl rfl rfl ?_
            refine G_if_ne 110 d_cX9_advance_90 (by decide +kernel) (fun _ => ?_) (fun hc => absurd hc (by decide))
            refine G_aload_n 3 d_cX9_advance_110 rfl ?_
            refine G_iload_n 1 d_cX9_advance_111 rfl ?_
            refine G_bipush 45 d_cX9_advance_112 (by decide +kernel) ?_
            refine G_icmp_ne 121 d_cX9_advance_114 (by decide +kernel) (fun _ => ?_) (fun hc => absurd (show False by have := gj_eq hc (show Int32.toInt 45 = 45 by decide); omega) not_false)
            refine G_iconst 0 d_cX9_advance_121 (by decide +kernel) ?_
            refine G_callV (As := [.int 0]) (wr := []) (gV_ok D I) (ct_624_Signs_takeNumber l hl0 D I q13794 q13795 q13796 0 p13797 0 o14050 p13800 p13801 f13802 (gB_w (gBl (show Int32.toInt 0 = 0 by decide)) (by decide) (by decide)) (gB_w bp13801' (by decide) (by decide)) bf13802 (by have qa0 : Int32.toInt 0 = 0 := (by decide); omega)) d_cX9_advance_122 ⟨w_3_27, w_1_4, w_3_30, by decide, rfl, (Nat.le_of_ble_eq_true rfl), (Nat.le_of_ble_eq_true rfl)⟩ w_3_29 w_p_1 0 rfl rfl [0, 1, 2] [] rfl rfl rfl rfl (by decide) (Nat.le_of_ble_eq_true rfl) (Nat.le_of_ble_eq_true rfl) (Nat.le_of_ble_eq_true rfl) (fun r w hp => ?_) (fun _ _ _ z => z.elim)
            obtain ⟨o14161, o14162, o14163, rfl, rfl, bo14161, bo14162, bo14163, x14164⟩ := hp
            change G _ _ _ _ _ _ _ _ _ _ _
            refine G_ws (ws' := [(q13794, .inr (14, [.ref q13795, .int o14161, .int o14162, .int o14050, .int o14163])), (q13795, .inr (15, [.ref q13796, .int p13801])), (q13796, .inl (I .byte, 8192, .inl f13802))]) (cs' := 0) (sl' := 0) rfl rfl rfl ?_
            refine G_goto 194 d_cX9_advance_125 (by decide +kernel) ?_
            exact G_vret d_cX9_advance_194 rfl (Nat.le_of_ble_eq_true rfl) (Nat.le_of_ble_eq_true rfl) ⟨o14161, o14162, o14050, o14163, rfl, rfl, (gB_w bo14161 (by decide) (by decide)), bo14162, (gB_w bo14050'' (by decide) (by decide)), bo14163, (by have qa0 : Int32.toInt (-1) = (-1) := (by decide); have qa1 : Int32.toInt 0 = 0 := (by decide); omega)⟩
        · have bz14074' : gB z14074 1 8191 := ⟨by omega, by omega⟩
          have bp13801'' : gB p13801 2 8192 := ⟨by omega, by omega⟩
          change G _ _ _ _ _ _ _ (.int z14078 :: _) _ _ _
          refine G_ws (ws' := [(q13794, .inr (14, [.ref q13795, .int p13797, .int p13798, .int o14050, .int p13800])), (q13795, .inr (15, [.ref q13796, .int p13801])), (q13796, .inl (I .byte, 8192, .inl f13802))]) (cs' := 0) (sl' := 0) rfl rfl rfl ?_
          refine G_istore_n (L' := [(3, .int z14078), (2, .int z14054), (1, .int 0), (0, .ref q13794)]) d_cX9_advance_59 (Nat.le_of_ble_eq_true rfl) rfl ?_
          refine G_aload_n 3 d_cX9_advance_60 rfl ?_
          refine G_iconst 0 d_cX9_advance_61 (by decide +kernel) ?_
          refine G_putf (ws' := [(q13794, .inr (14, [.ref q13795, .int p13797, .int 0, .int o14050, .int p13800])), (q13795, .inr (15, [.ref q13796, .int p13801])), (q13796, .inl (I .byte, 8192, .inl f13802))]) 0 2 d_cX9_advance_62 rfl (gk_X9 D I) (Nat.le_of_ble_eq_true rfl) w_1_81 rfl rfl rfl (Nat.le_of_ble_eq_true rfl) rfl ?_
          refine G_iload_n 1 d_cX9_advance_65 rfl ?_
          refine G_iconst (-1) d_cX9_advance_66 (by decide +kernel) ?_
          refine G_icmp_ne 86 d_cX9_advance_67 (by decide +kernel) (fun _ => ?_) (fun hc => absurd (show False by have := gj_eq hc (show Int32.toInt (-1) = (-1) by decide); omega) not_false)
          refine G_iload_n 1 d_cX9_advance_86 rfl ?_
          refine G_callS (As := [.int z14054]) (wr := [(q13794, .inr (14, [.ref q13795, .int p13797, .int 0, .int o14050, .int p13800])), (q13795, .inr (15, [.ref q13796, .int p13801])), (q13796, .inl (I .byte, 8192, .inl f13802))]) (gV_ok D I) (ct_300_Signs_isDigit l hl0 D I z14054 ) d_cX9_advance_87 ⟨w_3_24, w_1_4, w_3_26, by decide, rfl, (Nat.le_of_ble_eq_true rfl), (Nat.le_of_ble_eq_true rfl)⟩ w_3_25 [] [0, 1, 2] rfl rfl rfl rfl (by decide) (Nat.le_of_ble_eq_true rfl) (Nat.le_of_ble_eq_true rfl) (Nat.le_of_ble_eq_true rfl) (fun r w hp => ?_) (fun _ _ _ z => z.elim)
          rcases hp with ⟨rfl, rfl, r14165⟩ | ⟨rfl, rfl, r14166, r14167⟩ | ⟨rfl, rfl, r14168, r14169⟩
          · have r14057' : gB z14054 0 47 := ⟨by omega, by omega⟩
            change G _ _ _ _ _ _ _ (.int 0 :: _) _ _ _
            refine G_ws (ws' := [(q13794, .inr (14, [.ref q13795, .int p13797, .int 0, .int o14050, .int p13800])), (q13795, .inr (15, [.ref q13796, .int p13801])), (q13796, .inl (I .byte, 8192, .inl f13802))]) (cs' := 0) (sl' := 0) rfl rfl rfl ?_
            refine G_if_ne 110 d_cX9_advance_90 (by decide +kernel) (fun hc => absurd hc (by decide)) (fun _ => ?_)
            refine G_iload_n 1 d_cX9_advance_93 rfl ?_
            refine G_bipush 45 d_cX9_advance_94 (by decide +kernel) ?_
            refine G_icmp_ne 128 d_cX9_advance_96 (by decide +kernel) (fun hc14170 => ?_) (fun hc14170 => ?_)
            · have r14171 : z14054.toInt ≠ 45 := gj_neq hc14170 (show Int32.toInt 45 = 45 by decide)
              refine G_iload_n 1 d_cX9_advance_128 rfl ?_
              refine G_bipush 118 d_cX9_advance_129 (by decide +kernel) ?_
              refine G_icmp_ne 151 d_cX9_advance_131 (by decide +kernel) (fun _ => ?_) (fun hc => absurd (show False by have := gj_eq hc (show Int32.toInt 118 = 118 by decide); omega) not_false)
              refine G_iload_n 1 d_cX9_advance_151 rfl ?_
              refine G_bipush 98 d_cX9_advance_152 (by decide +kernel) ?_
              refine G_icmp_ne 174 d_cX9_advance_154 (by decide +kernel) (fun _ => ?_) (fun hc => absurd (show False by have := gj_eq hc (show Int32.toInt 98 = 98 by decide); omega) not_false)
              refine G_iload_n 1 d_cX9_advance_174 rfl ?_
              refine G_callS (As := [.int z14054]) (wr := [(q13794, .inr (14, [.ref q13795, .int p13797, .int 0, .int o14050, .int p13800])), (q13795, .inr (15, [.ref q13796, .int p13801])), (q13796, .inl (I .byte, 8192, .inl f13802))]) (gV_ok D I) (ct_308_Signs_isLetter l hl0 D I z14054 ) d_cX9_advance_175 ⟨w_3_45, w_1_4, w_3_47, by decide, rfl, (Nat.le_of_ble_eq_true rfl), (Nat.le_of_ble_eq_true rfl)⟩ w_3_46 [] [0, 1, 2] rfl rfl rfl rfl (by decide) (Nat.le_of_ble_eq_true rfl) (Nat.le_of_ble_eq_true rfl) (Nat.le_of_ble_eq_true rfl) (fun r w hp => ?_) (fun _ _ _ z => z.elim)
              rcases hp with ⟨rfl, rfl, r14172⟩ | ⟨rfl, rfl, r14173, r14174⟩ | ⟨rfl, rfl, r14175, r14176⟩
              · change G _ _ _ _ _ _ _ (.int 0 :: _) _ _ _
                refine G_ws (ws' := [(q13794, .inr (14, [.ref q13795, .int p13797, .int 0, .int o14050, .int p13800])), (q13795, .inr (15, [.ref q13796, .int p13801])), (q13796, .inl (I .byte, 8192, .inl f13802))]) (cs' := 0) (sl' := 0) rfl rfl rfl ?_
                refine G_if_eq 188 d_cX9_advance_178 (by decide +kernel) (fun _ => ?_) (fun hc => absurd hc (by decide))
                refine G_aload_n 3 d_cX9_advance_188 rfl ?_
                refine G_iload_n 1 d_cX9_advance_189 rfl ?_
                refine G_iload_n 0 d_cX9_advance_190 rfl ?_
                refine G_callV (As := [.int z14054, .int z14078]) (wr := []) (gV_ok D I) (ct_13760_Signs_takeMark l hl0 D I q13794 q13795 q13796 z14054 z14078 p13797 0 o14050 p13800 p13801 f13802 (gB_w bp13801'' (by decide) (by decide)) bf13802 (by have qa0 : Int32.toInt 0 = 0 := (by decide); omega)) d_cX9_advance_191 ⟨w_3_109, w_1_4, w_3_112, by decide, rfl, (Nat.le_of_ble_eq_true rfl), (Nat.le_of_ble_eq_true rfl)⟩ w_3_111 w_p_6 0 rfl rfl [0, 1, 2] [] rfl rfl rfl rfl (by decide) (Nat.le_of_ble_eq_true rfl) (Nat.le_of_ble_eq_true rfl) (Nat.le_of_ble_eq_true rfl) (fun r w hp => ?_) (fun _ _ _ z => z.elim)
                obtain ⟨o14177, o14178, o14179, rfl, rfl, bo14177, bo14178, bo14179, x14180⟩ := hp
                change G _ _ _ _ _ _ _ _ _ _ _
                refine G_ws (ws' := [(q13794, .inr (14, [.ref q13795, .int o14177, .int o14178, .int o14050, .int o14179])), (q13795, .inr (15, [.ref q13796, .int p13801])), (q13796, .inl (I .byte, 8192, .inl f13802))]) (cs' := 0) (sl' := 0) rfl rfl rfl ?_
                exact G_vret d_cX9_advance_194 rfl (Nat.le_of_ble_eq_true rfl) (Nat.le_of_ble_eq_true rfl) ⟨o14177, o14178, o14050, o14179, rfl, rfl, (gB_w bo14177 (by decide) (by decide)), (gB_w bo14178 (by decide) (by decide)), (gB_w bo14050'' (by decide) (by decide)), bo14179, (by have qa0 : Int32.toInt 0 = 0 := (by decide); omega)⟩
              · exact absurd (show False by omega) not_false
              · exact absurd (show False by omega) not_false
            · have r14181 : z14054.toInt = 45 := gj_eq hc14170 (show Int32.toInt 45 = 45 by decide)
              have r14057'' : gB z14054 45 45 := ⟨by omega, by omega⟩
              refine G_iload_n 0 d_cX9_advance_99 rfl ?_
              refine G_callS (As := [.int z14078]) (wr := [(q13794, .inr (14, [.ref q13795, .int p13797, .int 0, .int o14050, .int p13800])), (q13795, .inr (15, [.ref q13796, .int p13801])), (q13796, .inl (I .byte, 8192, .inl f13802))]) (gV_ok D I) (ct_300_Signs_isDigit l hl0 D I z14078 ) d_cX9_advance_100 ⟨w_3_24, w_1_4, w_3_26, by decide, rfl, (Nat.le_of_ble_eq_true rfl), (Nat.le_of_ble_eq_true rfl)⟩ w_3_25 [] [0, 1, 2] rfl rfl rfl rfl (by decide) (Nat.le_of_ble_eq_true rfl) (Nat.le_of_ble_eq_true rfl) (Nat.le_of_ble_eq_true rfl) (fun r w hp => ?_) (fun _ _ _ z => z.elim)
              rcases hp with ⟨rfl, rfl, r14182⟩ | ⟨rfl, rfl, r14183, r14184⟩ | ⟨rfl, rfl, r14185, r14186⟩
              · have r14081' : gB z14078 0 47 := ⟨by omega, by omega⟩
                change G _ _ _ _ _ _ _ (.int 0 :: _) _ _ _
                refine G_ws (ws' := [(q13794, .inr (14, [.ref q13795, .int p13797, .int 0, .int o14050, .int p13800])), (q13795, .inr (15, [.ref q13796, .int p13801])), (q13796, .inl (I .byte, 8192, .inl f13802))]) (cs' := 0) (sl' := 0) rfl rfl rfl ?_
                refine G_if_eq 128 d_cX9_advance_103 (by decide +kernel) (fun _ => ?_) (fun hc => absurd hc (by decide))
                refine G_iload_n 1 d_cX9_advance_128 rfl ?_
                refine G_bipush 118 d_cX9_advance_129 (by decide +kernel) ?_
                refine G_icmp_ne 151 d_cX9_advance_131 (by decide +kernel) (fun _ => ?_) (fun hc => absurd (show False by have := gj_eq hc (show Int32.toInt 118 = 118 by decide); omega) not_false)
                refine G_iload_n 1 d_cX9_advance_151 rfl ?_
                refine G_bipush 98 d_cX9_advance_152 (by decide +kernel) ?_
                refine G_icmp_ne 174 d_cX9_advance_154 (by decide +kernel) (fun _ => ?_) (fun hc => absurd (show False by have := gj_eq hc (show Int32.toInt 98 = 98 by decide); omega) not_false)
                refine G_iload_n 1 d_cX9_advance_174 rfl ?_
                refine G_callS (As := [.int z14054]) (wr := [(q13794, .inr (14, [.ref q13795, .int p13797, .int 0, .int o14050, .int p13800])), (q13795, .inr (15, [.ref q13796, .int p13801])), (q13796, .inl (I .byte, 8192, .inl f13802))]) (gV_ok D I) (ct_308_Signs_isLetter l hl0 D I z14054 ) d_cX9_advance_175 ⟨w_3_45, w_1_4, w_3_47, by decide, rfl, (Nat.le_of_ble_eq_true rfl), (Nat.le_of_ble_eq_true rfl)⟩ w_3_46 [] [0, 1, 2] rfl rfl rfl rfl (by decide) (Nat.le_of_ble_eq_true rfl) (Nat.le_of_ble_eq_true rfl) (Nat.le_of_ble_eq_true rfl) (fun r w hp => ?_) (fun _ _ _ z => z.elim)
                rcases hp with ⟨rfl, rfl, r14187⟩ | ⟨rfl, rfl, r14188, r14189⟩ | ⟨rfl, rfl, r14190, r14191⟩
                · change G _ _ _ _ _ _ _ (.int 0 :: _) _ _ _
                  refine G_ws (ws' := [(q13794, .inr (14, [.ref q13795, .int p13797, .int 0, .int o14050, .int p13800])), (q13795, .inr (15, [.ref q13796, .int p13801])), (q13796, .inl (I .byte, 8192, .inl f13802))]) (cs' := 0) (sl' := 0) rfl rfl rfl ?_
                  refine G_if_eq 188 d_cX9_advance_178 (by decide +kernel) (fun _ => ?_) (fun hc => absurd hc (by decide))
                  refine G_aload_n 3 d_cX9_advance_188 rfl ?_
                  refine G_iload_n 1 d_cX9_advance_189 rfl ?_
                  refine G_iload_n 0 d_cX9_advance_190 rfl ?_
                  refine G_callV (As := [.int z14054, .int z14078]) (wr := []) (gV_ok D I) (ct_13760_Signs_takeMark l hl0 D I q13794 q13795 q13796 z14054 z14078 p13797 0 o14050 p13800 p13801 f13802 (gB_w bp13801'' (by decide) (by decide)) bf13802 (by have qa0 : Int32.toInt 0 = 0 := (by decide); omega)) d_cX9_advance_191 ⟨w_3_109, w_1_4, w_3_112, by decide, rfl, (Nat.le_of_ble_eq_true rfl), (Nat.le_of_ble_eq_true rfl)⟩ w_3_111 w_p_6 0 rfl rfl [0, 1, 2] [] rfl rfl rfl rfl (by decide) (Nat.le_of_ble_eq_true rfl) (Nat.le_of_ble_eq_true rfl) (Nat.le_of_ble_eq_true rfl) (fun r w hp => ?_) (fun _ _ _ z => z.elim)
                  obtain ⟨o14192, o14193, o14194, rfl, rfl, bo14192, bo14193, bo14194, x14195⟩ := hp
                  change G _ _ _ _ _ _ _ _ _ _ _
                  refine G_ws (ws' := [(q13794, .inr (14, [.ref q13795, .int o14192, .int o14193, .int o14050, .int o14194])), (q13795, .inr (15, [.ref q13796, .int p13801])), (q13796, .inl (I .byte, 8192, .inl f13802))]) (cs' := 0) (sl' := 0) rfl rfl rfl ?_
                  exact G_vret d_cX9_advance_194 rfl (Nat.le_of_ble_eq_true rfl) (Nat.le_of_ble_eq_true rfl) ⟨o14192, o14193, o14050, o14194, rfl, rfl, (gB_w bo14192 (by decide) (by decide)), (gB_w bo14193 (by decide) (by decide)), (gB_w bo14050'' (by decide) (by decide)), bo14194, (by have qa0 : Int32.toInt 0 = 0 := (by decide); omega)⟩
                · exact absurd (show False by omega) not_false
                · exact absurd (show False by omega) not_false
              · have r14081' : gB z14078 48 255 := ⟨by omega, by omega⟩
                have r14081'' : gB z14078 58 255 := ⟨by omega, by omega⟩
                change G _ _ _ _ _ _ _ (.int 0 :: _) _ _ _
                refine G_ws (ws' := [(q13794, .inr (14, [.ref q13795, .int p13797, .int 0, .int o14050, .int p13800])), (q13795, .inr (15, [.ref q13796, .int p13801])), (q13796, .inl (I .byte, 8192, .inl f13802))]) (cs' := 0) (sl' := 0) rfl rfl rfl ?_
                refine G_if_eq 128 d_cX9_advance_103 (by decide +kernel) (fun _ => ?_) (fun hc => absurd hc (by decide))
                refine G_iload_n 1 d_cX9_advance_128 rfl ?_
                refine G_bipush 118 d_cX9_advance_129 (by decide +kernel) ?_
                refine G_icmp_ne 151 d_cX9_advance_131 (by decide +kernel) (fun _ => ?_) (fun hc => absurd (show False by have := gj_eq hc (show Int32.toInt 118 = 118 by decide); omega) not_false)
                refine G_iload_n 1 d_cX9_advance_151 rfl ?_
                refine G_bipush 98 d_cX9_advance_152 (by decide +kernel) ?_
                refine G_icmp_ne 174 d_cX9_advance_154 (by decide +kernel) (fun _ => ?_) (fun hc => absurd (show False by have := gj_eq hc (show Int32.toInt 98 = 98 by decide); omega) not_false)
                refine G_iload_n 1 d_cX9_advance_174 rfl ?_
                refine G_callS (As := [.int z14054]) (wr := [(q13794, .inr (14, [.ref q13795, .int p13797, .int 0, .int o14050, .int p13800])), (q13795, .inr (15, [.ref q13796, .int p13801])), (q13796, .inl (I .byte, 8192, .inl f13802))]) (gV_ok D I) (ct_308_Signs_isLetter l hl0 D I z14054 ) d_cX9_advance_175 ⟨w_3_45, w_1_4, w_3_47, by decide, rfl, (Nat.le_of_ble_eq_true rfl), (Nat.le_of_ble_eq_true rfl)⟩ w_3_46 [] [0, 1, 2] rfl rfl rfl rfl (by decide) (Nat.le_of_ble_eq_true rfl) (Nat.le_of_ble_eq_true rfl) (Nat.le_of_ble_eq_true rfl) (fun r w hp => ?_) (fun _ _ _ z => z.elim)
                rcases hp with ⟨rfl, rfl, r14196⟩ | ⟨rfl, rfl, r14197, r14198⟩ | ⟨rfl, rfl, r14199, r14200⟩
                · change G _ _ _ _ _ _ _ (.int 0 :: _) _ _ _
                  refine G_ws (ws' := [(q13794, .inr (14, [.ref q13795, .int p13797, .int 0, .int o14050, .int p13800])), (q13795, .inr (15, [.ref q13796, .int p13801])), (q13796, .inl (I .byte, 8192, .inl f13802))]) (cs' := 0) (sl' := 0) rfl rfl rfl ?_
                  refine G_if_eq 188 d_cX9_advance_178 (by decide +kernel) (fun _ => ?_) (fun hc => absurd hc (by decide))
                  refine G_aload_n 3 d_cX9_advance_188 rfl ?_
                  refine G_iload_n 1 d_cX9_advance_189 rfl ?_
                  refine G_iload_n 0 d_cX9_advance_190 rfl ?_
                  refine G_callV (As := [.int z14054, .int z14078]) (wr := []) (gV_ok D I) (ct_13760_Signs_takeMark l hl0 D I q13794 q13795 q13796 z14054 z14078 p13797 0 o14050 p13800 p13801 f13802 (gB_w bp13801'' (by decide) (by decide)) bf13802 (by have qa0 : Int32.toInt 0 = 0 := (by decide); omega)) d_cX9_advance_191 ⟨w_3_109, w_1_4, w_3_112, by decide, rfl, (Nat.le_of_ble_eq_true rfl), (Nat.le_of_ble_eq_true rfl)⟩ w_3_111 w_p_6 0 rfl rfl [0, 1, 2] [] rfl rfl rfl rfl (by decide) (Nat.le_of_ble_eq_true rfl) (Nat.le_of_ble_eq_true rfl) (Nat.le_of_ble_eq_true rfl) (fun r w hp => ?_) (fun _ _ _ z => z.elim)
                  obtain ⟨o14201, o14202, o14203, rfl, rfl, bo14201, bo14202, bo14203, x14204⟩ := hp
                  change G _ _ _ _ _ _ _ _ _ _ _
                  refine G_ws (ws' := [(q13794, .inr (14, [.ref q13795, .int o14201, .int o14202, .int o14050, .int o14203])), (q13795, .inr (15, [.ref q13796, .int p13801])), (q13796, .inl (I .byte, 8192, .inl f13802))]) (cs' := 0) (sl' := 0) rfl rfl rfl ?_
                  exact G_vret d_cX9_advance_194 rfl (Nat.le_of_ble_eq_true rfl) (Nat.le_of_ble_eq_true rfl) ⟨o14201, o14202, o14050, o14203, rfl, rfl, (gB_w bo14201 (by decide) (by decide)), (gB_w bo14202 (by decide) (by decide)), (gB_w bo14050'' (by decide) (by decide)), bo14203, (by have qa0 : Int32.toInt 0 = 0 := (by decide); omega)⟩
                · exact absurd (show False by omega) not_false
                · exact absurd (show False by omega) not_false
              · have r14081' : gB z14078 48 255 := ⟨by omega, by omega⟩
                have r14081'' : gB z14078 48 57 := ⟨by omega, by omega⟩
                change G _ _ _ _ _ _ _ (.int 1 :: _) _ _ _
                refine G_ws (ws' := [(q13794, .inr (14, [.ref q13795, .int p13797, .int 0, .int o14050, .int p13800])), (q13795, .inr (15, [.ref q13796, .int p13801])), (q13796, .inl (I .byte, 8192, .inl f13802))]) (cs' := 0) (sl' := 0) rfl rfl rfl ?_
                refine G_if_eq 128 d_cX9_advance_103 (by decide +kernel) (fun hc => absurd hc (by decide)) (fun _ => ?_)
                refine G_iload_n 2 d_cX9_advance_106 rfl ?_
                refine G_if_ne 128 d_cX9_advance_107 (by decide +kernel) (fun hc => absurd hc (by decide)) (fun _ => ?_)
                refine G_aload_n 3 d_cX9_advance_110 rfl ?_
                refine G_iload_n 1 d_cX9_advance_111 rfl ?_
                refine G_bipush 45 d_cX9_advance_112 (by decide +kernel) ?_
                refine G_icmp_ne 121 d_cX9_advance_114 (by decide +kernel) (fun hc => absurd (show False by have := gj_neq hc (show Int32.toInt 45 = 45 by decide); omega) not_false) (fun _ => ?_)
                refine G_iconst 1 d_cX9_advance_117 (by decide +kernel) ?_
                refine G_goto 122 d_cX9_advance_118 (by decide +kernel) ?_
                refine G_callV (As := [.int 1]) (wr := []) (gV_ok D I) (ct_624_Signs_takeNumber l hl0 D I q13794 q13795 q13796 1 p13797 0 o14050 p13800 p13801 f13802 (gB_w (gBl (show Int32.toInt 1 = 1 by decide)) (by decide) (by decide)) (gB_w bp13801'' (by decide) (by decide)) bf13802 (by have qa0 : Int32.toInt 0 = 0 := (by decide); have qa1 : Int32.toInt 1 = 1 := (by decide); omega)) d_cX9_advance_122 ⟨w_3_27, w_1_4, w_3_30, by decide, rfl, (Nat.le_of_ble_eq_true rfl), (Nat.le_of_ble_eq_true rfl)⟩ w_3_29 w_p_1 0 rfl rfl [0, 1, 2] [] rfl rfl rfl rfl (by decide) (Nat.le_of_ble_eq_true rfl) (Nat.le_of_ble_eq_true rfl) (Nat.le_of_ble_eq_true rfl) (fun r w hp => ?_) (fun _ _ _ z => z.elim)
                obtain ⟨o14205, o14206, o14207, rfl, rfl, bo14205, bo14206, bo14207, x14208⟩ := hp
                change G _ _ _ _ _ _ _ _ _ _ _
                refine G_ws (ws' := [(q13794, .inr (14, [.ref q13795, .int o14205, .int o14206, .int o14050, .int o14207])), (q13795, .inr (15, [.ref q13796, .int p13801])), (q13796, .inl (I .byte, 8192, .inl f13802))]) (cs' := 0) (sl' := 0) rfl rfl rfl ?_
                refine G_goto 194 d_cX9_advance_125 (by decide +kernel) ?_
                exact G_vret d_cX9_advance_194 rfl (Nat.le_of_ble_eq_true rfl) (Nat.le_of_ble_eq_true rfl) ⟨o14205, o14206, o14050, o14207, rfl, rfl, (gB_w bo14205 (by decide) (by decide)), bo14206, (gB_w bo14050'' (by decide) (by decide)), bo14207, (by have qa0 : Int32.toInt 0 = 0 := (by decide); omega)⟩
          · have r14057' : gB z14054 48 255 := ⟨by omega, by omega⟩
            have r14057'' : gB z14054 58 255 := ⟨by omega, by omega⟩
            change G _ _ _ _ _ _ _ (.int 0 :: _) _ _ _
            refine G_ws (ws' := [(q13794, .inr (14, [.ref q13795, .int p13797, .int 0, .int o14050, .int p13800])), (q13795, .inr (15, [.ref q13796, .int p13801])), (q13796, .inl (I .byte, 8192, .inl f13802))]) (cs' := 0) (sl' := 0) rfl rfl rfl ?_
            refine G_if_ne 110 d_cX9_advance_90 (by decide +kernel) (fun hc => absurd hc (by decide)) (fun _ => ?_)
            refine G_iload_n 1 d_cX9_advance_93 rfl ?_
            refine G_bipush 45 d_cX9_advance_94 (by decide +kernel) ?_
            refine G_icmp_ne 128 d_cX9_advance_96 (by decide +kernel) (fun _ => ?_) (fun hc => absurd (show False by have := gj_eq hc (show Int32.toInt 45 = 45 by decide); omega) not_false)
            refine G_iload_n 1 d_cX9_advance_128 rfl ?_
            refine G_bipush 118 d_cX9_advance_129 (by decide +kernel) ?_
            refine G_icmp_ne 151 d_cX9_advance_131 (by decide +kernel) (fun hc14209 => ?_) (fun hc14209 => ?_)
            · have r14210 : z14054.toInt ≠ 118 := gj_neq hc14209 (show Int32.toInt 118 = 118 by decide)
              refine G_iload_n 1 d_cX9_advance_151 rfl ?_
              refine G_bipush 98 d_cX9_advance_152 (by decide +kernel) ?_
              refine G_icmp_ne 174 d_cX9_advance_154 (by decide +kernel) (fun hc14211 => ?_) (fun hc14211 => ?_)
              · have r14212 : z14054.toInt ≠ 98 := gj_neq hc14211 (show Int32.toInt 98 = 98 by decide)
                refine G_iload_n 1 d_cX9_advance_174 rfl ?_
                refine G_callS (As := [.int z14054]) (wr := [(q13794, .inr (14, [.ref q13795, .int p13797, .int 0, .int o14050, .int p13800])), (q13795, .inr (15, [.ref q13796, .int p13801])), (q13796, .inl (I .byte, 8192, .inl f13802))]) (gV_ok D I) (ct_308_Signs_isLetter l hl0 D I z14054 ) d_cX9_advance_175 ⟨w_3_45, w_1_4, w_3_47, by decide, rfl, (Nat.le_of_ble_eq_true rfl), (Nat.le_of_ble_eq_true rfl)⟩ w_3_46 [] [0, 1, 2] rfl rfl rfl rfl (by decide) (Nat.le_of_ble_eq_true rfl) (Nat.le_of_ble_eq_true rfl) (Nat.le_of_ble_eq_true rfl) (fun r w hp => ?_) (fun _ _ _ z => z.elim)
                rcases hp with ⟨rfl, rfl, r14213⟩ | ⟨rfl, rfl, r14214, r14215⟩ | ⟨rfl, rfl, r14216, r14217⟩
                · have r14057''' : gB z14054 58 96 := ⟨by omega, by omega⟩
                  change G _ _ _ _ _ _ _ (.int 0 :: _) _ _ _
                  refine G_ws (ws' := [(q13794, .inr (14, [.ref q13795, .int p13797, .int 0, .int o14050, .int p13800])), (q13795, .inr (15, [.ref q13796, .int p13801])), (q13796, .inl (I .byte, 8192, .inl f13802))]) (cs' := 0) (sl' := 0) rfl rfl rfl ?_
                  refine G_if_eq 188 d_cX9_advance_178 (by decide +kernel) (fun _ => ?_) (fun hc => absurd hc (by decide))
                  refine G_aload_n 3 d_cX9_advance_188 rfl ?_
                  refine G_iload_n 1 d_cX9_advance_189 rfl ?_
                  refine G_iload_n 0 d_cX9_advance_190 rfl ?_
                  refine G_callV (As := [.int z14054, .int z14078]) (wr := []) (gV_ok D I) (ct_13760_Signs_takeMark l hl0 D I q13794 q13795 q13796 z14054 z14078 p13797 0 o14050 p13800 p13801 f13802 (gB_w bp13801'' (by decide) (by decide)) bf13802 (by have qa0 : Int32.toInt 0 = 0 := (by decide); omega)) d_cX9_advance_191 ⟨w_3_109, w_1_4, w_3_112, by decide, rfl, (Nat.le_of_ble_eq_true rfl), (Nat.le_of_ble_eq_true rfl)⟩ w_3_111 w_p_6 0 rfl rfl [0, 1, 2] [] rfl rfl rfl rfl (by decide) (Nat.le_of_ble_eq_true rfl) (Nat.le_of_ble_eq_true rfl) (Nat.le_of_ble_eq_true rfl) (fun r w hp => ?_) (fun _ _ _ z => z.elim)
                  obtain ⟨o14218, o14219, o14220, rfl, rfl, bo14218, bo14219, bo14220, x14221⟩ := hp
                  change G _ _ _ _ _ _ _ _ _ _ _
                  refine G_ws (ws' := [(q13794, .inr (14, [.ref q13795, .int o14218, .int o14219, .int o14050, .int o14220])), (q13795, .inr (15, [.ref q13796, .int p13801])), (q13796, .inl (I .byte, 8192, .inl f13802))]) (cs' := 0) (sl' := 0) rfl rfl rfl ?_
                  exact G_vret d_cX9_advance_194 rfl (Nat.le_of_ble_eq_true rfl) (Nat.le_of_ble_eq_true rfl) ⟨o14218, o14219, o14050, o14220, rfl, rfl, (gB_w bo14218 (by decide) (by decide)), (gB_w bo14219 (by decide) (by decide)), (gB_w bo14050'' (by decide) (by decide)), bo14220, (by have qa0 : Int32.toInt 0 = 0 := (by decide); omega)⟩
                · have r14057''' : gB z14054 97 255 := ⟨by omega, by omega⟩
                  have r14057'''' : gB z14054 123 255 := ⟨by omega, by omega⟩
                  change G _ _ _ _ _ _ _ (.int 0 :: _) _ _ _
                  refine G_ws (ws' := [(q13794, .inr (14, [.ref q13795, .int p13797, .int 0, .int o14050, .int p13800])), (q13795, .inr (15, [.ref q13796, .int p13801])), (q13796, .inl (I .byte, 8192, .inl f13802))]) (cs' := 0) (sl' := 0) rfl rfl rfl ?_
                  refine G_if_eq 188 d_cX9_advance_178 (by decide +kernel) (fun _ => ?_) (fun hc => absurd hc (by decide))
                  refine G_aload_n 3 d_cX9_advance_188 rfl ?_
                  refine G_iload_n 1 d_cX9_advance_189 rfl ?_
                  refine G_iload_n 0 d_cX9_advance_190 rfl ?_
                  refine G_callV (As := [.int z14054, .int z14078]) (wr := []) (gV_ok D I) (ct_13760_Signs_takeMark l hl0 D I q13794 q13795 q13796 z14054 z14078 p13797 0 o14050 p13800 p13801 f13802 (gB_w bp13801'' (by decide) (by decide)) bf13802 (by have qa0 : Int32.toInt 0 = 0 := (by decide); omega)) d_cX9_advance_191 ⟨w_3_109, w_1_4, w_3_112, by decide, rfl, (Nat.le_of_ble_eq_true rfl), (Nat.le_of_ble_eq_true rfl)⟩ w_3_111 w_p_6 0 rfl rfl [0, 1, 2] [] rfl rfl rfl rfl (by decide) (Nat.le_of_ble_eq_true rfl) (Nat.le_of_ble_eq_true rfl) (Nat.le_of_ble_eq_true rfl) (fun r w hp => ?_) (fun _ _ _ z => z.elim)
                  obtain ⟨o14222, o14223, o14224, rfl, rfl, bo14222, bo14223, bo14224, x14225⟩ := hp
                  change G _ _ _ _ _ _ _ _ _ _ _
                  refine G_ws (ws' := [(q13794, .inr (14, [.ref q13795, .int o14222, .int o14223, .int o14050, .int o14224])), (q13795, .inr (15, [.ref q13796, .int p13801])), (q13796, .inl (I .byte, 8192, .inl f13802))]) (cs' := 0) (sl' := 0) rfl rfl rfl ?_
                  exact G_vret d_cX9_advance_194 rfl (Nat.le_of_ble_eq_true rfl) (Nat.le_of_ble_eq_true rfl) ⟨o14222, o14223, o14050, o14224, rfl, rfl, (gB_w bo14222 (by decide) (by decide)), (gB_w bo14223 (by decide) (by decide)), (gB_w bo14050'' (by decide) (by decide)), bo14224, (by have qa0 : Int32.toInt 0 = 0 := (by decide); omega)⟩
                · have r14057''' : gB z14054 97 255 := ⟨by omega, by omega⟩
                  have r14057'''' : gB z14054 97 122 := ⟨by omega, by omega⟩
                  change G _ _ _ _ _ _ _ (.int 1 :: _) _ _ _
                  refine G_ws (ws' := [(q13794, .inr (14, [.ref q13795, .int p13797, .int 0, .int o14050, .int p13800])), (q13795, .inr (15, [.ref q13796, .int p13801])), (q13796, .inl (I .byte, 8192, .inl f13802))]) (cs' := 0) (sl' := 0) rfl rfl rfl ?_
                  refine G_if_eq 188 d_cX9_advance_178 (by decide +kernel) (fun hc => absurd hc (by decide)) (fun _ => ?_)
                  refine G_aload_n 3 d_cX9_advance_181 rfl ?_
                  refine G_callV (As := []) (wr := []) (gV_ok D I) (ct_12941_Signs_takeWord l hl0 D I q13794 q13795 q13796 p13797 0 o14050 p13800 p13801 f13802 (gB_w bp13801'' (by decide) (by decide)) bf13802 (by have qa0 : Int32.toInt 0 = 0 := (by decide); omega)) d_cX9_advance_182 ⟨w_3_48, w_1_4, w_3_51, by decide, rfl, (Nat.le_of_ble_eq_true rfl), (Nat.le_of_ble_eq_true rfl)⟩ w_3_50 w_p_4 0 rfl rfl [0, 1, 2] [] rfl rfl rfl rfl (by decide) (Nat.le_of_ble_eq_true rfl) (Nat.le_of_ble_eq_true rfl) (Nat.le_of_ble_eq_true rfl) (fun r w hp => ?_) (fun _ _ _ z => z.elim)
                  obtain ⟨o14226, o14227, rfl, rfl, bo14226, bo14227, x14228⟩ := hp
                  rw [show Int32.toInt 0 = 0 from by decide] at x14228
                  change G _ _ _ _ _ _ _ _ _ _ _
                  refine G_ws (ws' := [(q13794, .inr (14, [.ref q13795, .int o14226, .int 0, .int o14050, .int o14227])), (q13795, .inr (15, [.ref q13796, .int p13801])), (q13796, .inl (I .byte, 8192, .inl f13802))]) (cs' := 0) (sl' := 0) rfl rfl rfl ?_
                  refine G_goto 194 d_cX9_advance_185 (by decide +kernel) ?_
                  exact G_vret d_cX9_advance_194 rfl (Nat.le_of_ble_eq_true rfl) (Nat.le_of_ble_eq_true rfl) ⟨o14226, 0, o14050, o14227, rfl, rfl, bo14226, (gB_w (gBl (show Int32.toInt 0 = 0 by decide)) (by decide) (by decide)), (gB_w bo14050'' (by decide) (by decide)), bo14227, (by have qa0 : Int32.toInt 0 = 0 := (by decide); omega)⟩
              · have r14229 : z14054.toInt = 98 := gj_eq hc14211 (show Int32.toInt 98 = 98 by decide)
                have r14057''' : gB z14054 98 98 := ⟨by omega, by omega⟩
                refine G_iload_n 0 d_cX9_advance_157 rfl ?_
                refine G_callS (As := [.int z14078]) (wr := [(q13794, .inr (14, [.ref q13795, .int p13797, .int 0, .int o14050, .int p13800])), (q13795, .inr (15, [.ref q13796, .int p13801])), (q13796, .inl (I .byte, 8192, .inl f13802))]) (gV_ok D I) (ct_300_Signs_isDigit l hl0 D I z14078 ) d_cX9_advance_158 ⟨w_3_24, w_1_4, w_3_26, by decide, rfl, (Nat.le_of_ble_eq_true rfl), (Nat.le_of_ble_eq_true rfl)⟩ w_3_25 [] [0, 1, 2] rfl rfl rfl rfl (by decide) (Nat.le_of_ble_eq_true rfl) (Nat.le_of_ble_eq_true rfl) (Nat.le_of_ble_eq_true rfl) (fun r w hp => ?_) (fun _ _ _ z => z.elim)
                rcases hp with ⟨rfl, rfl, r14230⟩ | ⟨rfl, rfl, r14231, r14232⟩ | ⟨rfl, rfl, r14233, r14234⟩
                · have r14081' : gB z14078 0 47 := ⟨by omega, by omega⟩
                  change G _ _ _ _ _ _ _ (.int 0 :: _) _ _ _
                  refine G_ws (ws' := [(q13794, .inr (14, [.ref q13795, .int p13797, .int 0, .int o14050, .int p13800])), (q13795, .inr (15, [.ref q13796, .int p13801])), (q13796, .inl (I .byte, 8192, .inl f13802))]) (cs' := 0) (sl' := 0) rfl rfl rfl ?_
                  refine G_if_eq 174 d_cX9_advance_161 (by decide +kernel) (fun _ => ?_) (fun hc => absurd hc (by decide))
                  refine G_iload_n 1 d_cX9_advance_174 rfl ?_
                  refine G_callS (As := [.int z14054]) (wr := [(q13794, .inr (14, [.ref q13795, .int p13797, .int 0, .int o14050, .int p13800])), (q13795, .inr (15, [.ref q13796, .int p13801])), (q13796, .inl (I .byte, 8192, .inl f13802))]) (gV_ok D I) (ct_308_Signs_isLetter l hl0 D I z14054 ) d_cX9_advance_175 ⟨w_3_45, w_1_4, w_3_47, by decide, rfl, (Nat.le_of_ble_eq_true rfl), (Nat.le_of_ble_eq_true rfl)⟩ w_3_46 [] [0, 1, 2] rfl rfl rfl rfl (by decide) (Nat.le_of_ble_eq_true rfl) (Nat.le_of_ble_eq_true rfl) (Nat.le_of_ble_eq_true rfl) (fun r w hp => ?_) (fun _ _ _ z => z.elim)
                  rcases hp with ⟨rfl, rfl, r14235⟩ | ⟨rfl, rfl, r14236, r14237⟩ | ⟨rfl, rfl, r14238, r14239⟩
                  · exact absurd (show False by omega) not_false
                  · exact absurd (show False by omega) not_false
                  · change G _ _ _ _ _ _ _ (.int 1 :: _) _ _ _
                    refine G_ws (ws' := [(q13794, .inr (14, [.ref q13795, .int p13797, .int 0, .int o14050, .int p13800])), (q13795, .inr (15, [.ref q13796, .int p13801])), (q13796, .inl (I .byte, 8192, .inl f13802))]) (cs' := 0) (sl' := 0) rfl rfl rfl ?_
                    refine G_if_eq 188 d_cX9_advance_178 (by decide +kernel) (fun hc => absurd hc (by decide)) (fun _ => ?_)
                    refine G_aload_n 3 d_cX9_advance_181 rfl ?_
                    refine G_callV (As := []) (wr := []) (gV_ok D I) (ct_12941_Signs_takeWord l hl0 D I q13794 q13795 q13796 p13797 0 o14050 p13800 p13801 f13802 (gB_w bp13801'' (by decide) (by decide)) bf13802 (by have qa0 : Int32.toInt 0 = 0 := (by decide); omega)) d_cX9_advance_182 ⟨w_3_48, w_1_4, w_3_51, by decide, rfl, (Nat.le_of_ble_eq_true rfl), (Nat.le_of_ble_eq_true rfl)⟩ w_3_50 w_p_4 0 rfl rfl [0, 1, 2] [] rfl rfl rfl rfl (by decide) (Nat.le_of_ble_eq_true rfl) (Nat.le_of_ble_eq_true rfl) (Nat.le_of_ble_eq_true rfl) (fun r w hp => ?_) (fun _ _ _ z => z.elim)
                    obtain ⟨o14240, o14241, rfl, rfl, bo14240, bo14241, x14242⟩ := hp
                    rw [show Int32.toInt 0 = 0 from by decide] at x14242
                    change G _ _ _ _ _ _ _ _ _ _ _
                    refine G_ws (ws' := [(q13794, .inr (14, [.ref q13795, .int o14240, .int 0, .int o14050, .int o14241])), (q13795, .inr (15, [.ref q13796, .int p13801])), (q13796, .inl (I .byte, 8192, .inl f13802))]) (cs' := 0) (sl' := 0) rfl rfl rfl ?_
                    refine G_goto 194 d_cX9_advance_185 (by decide +kernel) ?_
                    exact G_vret d_cX9_advance_194 rfl (Nat.le_of_ble_eq_true rfl) (Nat.le_of_ble_eq_true rfl) ⟨o14240, 0, o14050, o14241, rfl, rfl, bo14240, (gB_w (gBl (show Int32.toInt 0 = 0 by decide)) (by decide) (by decide)), (gB_w bo14050'' (by decide) (by decide)), bo14241, (by have qa0 : Int32.toInt 0 = 0 := (by decide); omega)⟩
                · have r14081' : gB z14078 48 255 := ⟨by omega, by omega⟩
                  have r14081'' : gB z14078 58 255 := ⟨by omega, by omega⟩
                  change G _ _ _ _ _ _ _ (.int 0 :: _) _ _ _
                  refine G_ws (ws' := [(q13794, .inr (14, [.ref q13795, .int p13797, .int 0, .int o14050, .int p13800])), (q13795, .inr (15, [.ref q13796, .int p13801])), (q13796, .inl (I .byte, 8192, .inl f13802))]) (cs' := 0) (sl' := 0) rfl rfl rfl ?_
                  refine G_if_eq 174 d_cX9_advance_161 (by decide +kernel) (fun _ => ?_) (fun hc => absurd hc (by decide))
                  refine G_iload_n 1 d_cX9_advance_174 rfl ?_
                  refine G_callS (As := [.int z14054]) (wr := [(q13794, .inr (14, [.ref q13795, .int p13797, .int 0, .int o14050, .int p13800])), (q13795, .inr (15, [.ref q13796, .int p13801])), (q13796, .inl (I .byte, 8192, .inl f13802))]) (gV_ok D I) (ct_308_Signs_isLetter l hl0 D I z14054 ) d_cX9_advance_175 ⟨w_3_45, w_1_4, w_3_47, by decide, rfl, (Nat.le_of_ble_eq_true rfl), (Nat.le_of_ble_eq_true rfl)⟩ w_3_46 [] [0, 1, 2] rfl rfl rfl rfl (by decide) (Nat.le_of_ble_eq_true rfl) (Nat.le_of_ble_eq_true rfl) (Nat.le_of_ble_eq_true rfl) (fun r w hp => ?_) (fun _ _ _ z => z.elim)
                  rcases hp with ⟨rfl, rfl, r14243⟩ | ⟨rfl, rfl, r14244, r14245⟩ | ⟨rfl, rfl, r14246, r14247⟩
                  · exact absurd (show False by omega) not_false
                  · exact absurd (show False by omega) not_false
                  · change G _ _ _ _ _ _ _ (.int 1 :: _) _ _ _
                    refine G_ws (ws' := [(q13794, .inr (14, [.ref q13795, .int p13797, .int 0, .int o14050, .int p13800])), (q13795, .inr (15, [.ref q13796, .int p13801])), (q13796, .inl (I .byte, 8192, .inl f13802))]) (cs' := 0) (sl' := 0) rfl rfl rfl ?_
                    refine G_if_eq 188 d_cX9_advance_178 (by decide +kernel) (fun hc => absurd hc (by decide)) (fun _ => ?_)
                    refine G_aload_n 3 d_cX9_advance_181 rfl ?_
                    refine G_callV (As := []) (wr := []) (gV_ok D I) (ct_12941_Signs_takeWord l hl0 D I q13794 q13795 q13796 p13797 0 o14050 p13800 p13801 f13802 (gB_w bp13801'' (by decide) (by decide)) bf13802 (by have qa0 : Int32.toInt 0 = 0 := (by decide); omega)) d_cX9_advance_182 ⟨w_3_48, w_1_4, w_3_51, by decide, rfl, (Nat.le_of_ble_eq_true rfl), (Nat.le_of_ble_eq_true rfl)⟩ w_3_50 w_p_4 0 rfl rfl [0, 1, 2] [] rfl rfl rfl rfl (by decide) (Nat.le_of_ble_eq_true rfl) (Nat.le_of_ble_eq_true rfl) (Nat.le_of_ble_eq_true rfl) (fun r w hp => ?_) (fun _ _ _ z => z.elim)
                    obtain ⟨o14248, o14249, rfl, rfl, bo14248, bo14249, x14250⟩ := hp
                    rw [show Int32.toInt 0 = 0 from by decide] at x14250
                    change G _ _ _ _ _ _ _ _ _ _ _
                    refine G_ws (ws' := [(q13794, .inr (14, [.ref q13795, .int o14248, .int 0, .int o14050, .int o14249])), (q13795, .inr (15, [.ref q13796, .int p13801])), (q13796, .inl (I .byte, 8192, .inl f13802))]) (cs' := 0) (sl' := 0) rfl rfl rfl ?_
                    refine G_goto 194 d_cX9_advance_185 (by decide +kernel) ?_
                    exact G_vret d_cX9_advance_194 rfl (Nat.le_of_ble_eq_true rfl) (Nat.le_of_ble_eq_true rfl) ⟨o14248, 0, o14050, o14249, rfl, rfl, bo14248, (gB_w (gBl (show Int32.toInt 0 = 0 by decide)) (by decide) (by decide)), (gB_w bo14050'' (by decide) (by decide)), bo14249, (by have qa0 : Int32.toInt 0 = 0 := (by decide); omega)⟩
                · have r14081' : gB z14078 48 255 := ⟨by omega, by omega⟩
                  have r14081'' : gB z14078 48 57 := ⟨by omega, by omega⟩
                  change G _ _ _ _ _ _ _ (.int 1 :: _) _ _ _
                  refine G_ws (ws' := [(q13794, .inr (14, [.ref q13795, .int p13797, .int 0, .int o14050, .int p13800])), (q13795, .inr (15, [.ref q13796, .int p13801])), (q13796, .inl (I .byte, 8192, .inl f13802))]) (cs' := 0) (sl' := 0) rfl rfl rfl ?_
                  refine G_if_eq 174 d_cX9_advance_161 (by decide +kernel) (fun hc => absurd hc (by decide)) (fun _ => ?_)
                  refine G_aload_n 3 d_cX9_advance_164 rfl ?_
                  refine G_iconst 3 d_cX9_advance_165 (by decide +kernel) ?_
                  refine G_bipush 40 d_cX9_advance_166 (by decide +kernel) ?_
                  refine G_callV (As := [.int 3, .int 40]) (wr := []) (gV_ok D I) (ct_661_Signs_takeNamed l hl0 D I q13794 q13795 q13796 3 40 p13797 0 o14050 p13800 p13801 f13802 (gB_w (gBl (show Int32.toInt 3 = 3 by decide)) (by decide) (by decide)) (gB_w bp13801'' (by decide) (by decide)) bf13802 (by have qa0 : Int32.toInt 0 = 0 := (by decide); have qa1 : Int32.toInt 3 = 3 := (by decide); have qa2 : Int32.toInt 40 = 40 := (by decide); omega)) d_cX9_advance_168 ⟨w_3_41, w_1_4, w_3_44, by decide, rfl, (Nat.le_of_ble_eq_true rfl), (Nat.le_of_ble_eq_true rfl)⟩ w_3_43 w_p_3 0 rfl rfl [0, 1, 2] [] rfl rfl rfl rfl (by decide) (Nat.le_of_ble_eq_true rfl) (Nat.le_of_ble_eq_true rfl) (Nat.le_of_ble_eq_true rfl) (fun r w hp => ?_) (fun _ _ _ z => z.elim)
                  obtain ⟨o14251, o14252, o14253, rfl, rfl, bo14251, bo14252, bo14253, x14254⟩ := hp
                  change G _ _ _ _ _ _ _ _ _ _ _
                  refine G_ws (ws' := [(q13794, .inr (14, [.ref q13795, .int o14251, .int o14252, .int o14050, .int o14253])), (q13795, .inr (15, [.ref q13796, .int p13801])), (q13796, .inl (I .byte, 8192, .inl f13802))]) (cs' := 0) (sl' := 0) rfl rfl rfl ?_
                  refine G_goto 194 d_cX9_advance_171 (by decide +kernel) ?_
                  exact G_vret d_cX9_advance_194 rfl (Nat.le_of_ble_eq_true rfl) (Nat.le_of_ble_eq_true rfl) ⟨o14251, o14252, o14050, o14253, rfl, rfl, (gB_w bo14251 (by decide) (by decide)), bo14252, (gB_w bo14050'' (by decide) (by decide)), bo14253, (by have qa0 : Int32.toInt 0 = 0 := (by decide); omega)⟩
            · have r14255 : z14054.toInt = 118 := gj_eq hc14209 (show Int32.toInt 118 = 118 by decide)
              have r14057''' : gB z14054 118 118 := ⟨by omega, by omega⟩
              refine G_iload_n 0 d_cX9_advance_134 rfl ?_
              refine G_callS (As := [.int z14078]) (wr := [(q13794, .inr (14, [.ref q13795, .int p13797, .int 0, .int o14050, .int p13800])), (q13795, .inr (15, [.ref q13796, .int p13801])), (q13796, .inl (I .byte, 8192, .inl f13802))]) (gV_ok D I) (ct_300_Signs_isDigit l hl0 D I z14078 ) d_cX9_advance_135 ⟨w_3_24, w_1_4, w_3_26, by decide, rfl, (Nat.le_of_ble_eq_true rfl), (Nat.le_of_ble_eq_true rfl)⟩ w_3_25 [] [0, 1, 2] rfl rfl rfl rfl (by decide) (Nat.le_of_ble_eq_true rfl) (Nat.le_of_ble_eq_true rfl) (Nat.le_of_ble_eq_true rfl) (fun r w hp => ?_) (fun _ _ _ z => z.elim)
              rcases hp with ⟨rfl, rfl, r14256⟩ | ⟨rfl, rfl, r14257, r14258⟩ | ⟨rfl, rfl, r14259, r14260⟩
              · have r14081' : gB z14078 0 47 := ⟨by omega, by omega⟩
                change G _ _ _ _ _ _ _ (.int 0 :: _) _ _ _
                refine G_ws (ws' := [(q13794, .inr (14, [.ref q13795, .int p13797, .int 0, .int o14050, .int p13800])), (q13795, .inr (15, [.ref q13796, .int p13801])), (q13796, .inl (I .byte, 8192, .inl f13802))]) (cs' := 0) (sl' := 0) rfl rfl rfl ?_
                refine G_if_eq 151 d_cX9_advance_138 (by decide +kernel) (fun _ => ?_) (fun hc => absurd hc (by decide))
                refine G_iload_n 1 d_cX9_advance_151 rfl ?_
                refine G_bipush 98 d_cX9_advance_152 (by decide +kernel) ?_
                refine G_icmp_ne 174 d_cX9_advance_154 (by decide +kernel) (fun _ => ?_) (fun hc => absurd (show False by have := gj_eq hc (show Int32.toInt 98 = 98 by decide); omega) not_false)
                refine G_iload_n 1 d_cX9_advance_174 rfl ?_
                refine G_callS (As := [.int z14054]) (wr := [(q13794, .inr (14, [.ref q13795, .int p13797, .int 0, .int o14050, .int p13800])), (q13795, .inr (15, [.ref q13796, .int p13801])), (q13796, .inl (I .byte, 8192, .inl f13802))]) (gV_ok D I) (ct_308_Signs_isLetter l hl0 D I z14054 ) d_cX9_advance_175 ⟨w_3_45, w_1_4, w_3_47, by decide, rfl, (Nat.le_of_ble_eq_true rfl), (Nat.le_of_ble_eq_true rfl)⟩ w_3_46 [] [0, 1, 2] rfl rfl rfl rfl (by decide) (Nat.le_of_ble_eq_true rfl) (Nat.le_of_ble_eq_true rfl) (Nat.le_of_ble_eq_true rfl) (fun r w hp => ?_) (fun _ _ _ z => z.elim)
                rcases hp with ⟨rfl, rfl, r14261⟩ | ⟨rfl, rfl, r14262, r14263⟩ | ⟨rfl, rfl, r14264, r14265⟩
                · exact absurd (show False by omega) not_false
                · exact absurd (show False by omega) not_false
                · change G _ _ _ _ _ _ _ (.int 1 :: _) _ _ _
                  refine G_ws (ws' := [(q13794, .inr (14, [.ref q13795, .int p13797, .int 0, .int o14050, .int p13800])), (q13795, .inr (15, [.ref q13796, .int p13801])), (q13796, .inl (I .byte, 8192, .inl f13802))]) (cs' := 0) (sl' := 0) rfl rfl rfl ?_
                  refine G_if_eq 188 d_cX9_advance_178 (by decide +kernel) (fun hc => absurd hc (by decide)) (fun _ => ?_)
                  refine G_aload_n 3 d_cX9_advance_181 rfl ?_
                  refine G_callV (As := []) (wr := []) (gV_ok D I) (ct_12941_Signs_takeWord l hl0 D I q13794 q13795 q13796 p13797 0 o14050 p13800 p13801 f13802 (gB_w bp13801'' (by decide) (by decide)) bf13802 (by have qa0 : Int32.toInt 0 = 0 := (by decide); omega)) d_cX9_advance_182 ⟨w_3_48, w_1_4, w_3_51, by decide, rfl, (Nat.le_of_ble_eq_true rfl), (Nat.le_of_ble_eq_true rfl)⟩ w_3_50 w_p_4 0 rfl rfl [0, 1, 2] [] rfl rfl rfl rfl (by decide) (Nat.le_of_ble_eq_true rfl) (Nat.le_of_ble_eq_true rfl) (Nat.le_of_ble_eq_true rfl) (fun r w hp => ?_) (fun _ _ _ z => z.elim)
                  obtain ⟨o14266, o14267, rfl, rfl, bo14266, bo14267, x14268⟩ := hp
                  rw [show Int32.toInt 0 = 0 from by decide] at x14268
                  change G _ _ _ _ _ _ _ _ _ _ _
                  refine G_ws (ws' := [(q13794, .inr (14, [.ref q13795, .int o14266, .int 0, .int o14050, .int o14267])), (q13795, .inr (15, [.ref q13796, .int p13801])), (q13796, .inl (I .byte, 8192, .inl f13802))]) (cs' := 0) (sl' := 0) rfl rfl rfl ?_
                  refine G_goto 194 d_cX9_advance_185 (by decide +kernel) ?_
                  exact G_vret d_cX9_advance_194 rfl (Nat.le_of_ble_eq_true rfl) (Nat.le_of_ble_eq_true rfl) ⟨o14266, 0, o14050, o14267, rfl, rfl, bo14266, (gB_w (gBl (show Int32.toInt 0 = 0 by decide)) (by decide) (by decide)), (gB_w bo14050'' (by decide) (by decide)), bo14267, (by have qa0 : Int32.toInt 0 = 0 := (by decide); omega)⟩
              · have r14081' : gB z14078 48 255 := ⟨by omega, by omega⟩
                have r14081'' : gB z14078 58 255 := ⟨by omega, by omega⟩
                change G _ _ _ _ _ _ _ (.int 0 :: _) _ _ _
                refine G_ws (ws' := [(q13794, .inr (14, [.ref q13795, .int p13797, .int 0, .int o14050, .int p13800])), (q13795, .inr (15, [.ref q13796, .int p13801])), (q13796, .inl (I .byte, 8192, .inl f13802))]) (cs' := 0) (sl' := 0) rfl rfl rfl ?_
                refine G_if_eq 151 d_cX9_advance_138 (by decide +kernel) (fun _ => ?_) (fun hc => absurd hc (by decide))
                refine G_iload_n 1 d_cX9_advance_151 rfl ?_
                refine G_bipush 98 d_cX9_advance_152 (by decide +kernel) ?_
                refine G_icmp_ne 174 d_cX9_advance_154 (by decide +kernel) (fun _ => ?_) (fun hc => absurd (show False by have := gj_eq hc (show Int32.toInt 98 = 98 by decide); omega) not_false)
                refine G_iload_n 1 d_cX9_advance_174 rfl ?_
                refine G_callS (As := [.int z14054]) (wr := [(q13794, .inr (14, [.ref q13795, .int p13797, .int 0, .int o14050, .int p13800])), (q13795, .inr (15, [.ref q13796, .int p13801])), (q13796, .inl (I .byte, 8192, .inl f13802))]) (gV_ok D I) (ct_308_Signs_isLetter l hl0 D I z14054 ) d_cX9_advance_175 ⟨w_3_45, w_1_4, w_3_47, by decide, rfl, (Nat.le_of_ble_eq_true rfl), (Nat.le_of_ble_eq_true rfl)⟩ w_3_46 [] [0, 1, 2] rfl rfl rfl rfl (by decide) (Nat.le_of_ble_eq_true rfl) (Nat.le_of_ble_eq_true rfl) (Nat.le_of_ble_eq_true rfl) (fun r w hp => ?_) (fun _ _ _ z => z.elim)
                rcases hp with ⟨rfl, rfl, r14269⟩ | ⟨rfl, rfl, r14270, r14271⟩ | ⟨rfl, rfl, r14272, r14273⟩
                · exact absurd (show False by omega) not_false
                · exact absurd (show False by omega) not_false
                · change G _ _ _ _ _ _ _ (.int 1 :: _) _ _ _
                  refine G_ws (ws' := [(q13794, .inr (14, [.ref q13795, .int p13797, .int 0, .int o14050, .int p13800])), (q13795, .inr (15, [.ref q13796, .int p13801])), (q13796, .inl (I .byte, 8192, .inl f13802))]) (cs' := 0) (sl' := 0) rfl rfl rfl ?_
                  refine G_if_eq 188 d_cX9_advance_178 (by decide +kernel) (fun hc => absurd hc (by decide)) (fun _ => ?_)
                  refine G_aload_n 3 d_cX9_advance_181 rfl ?_
                  refine G_callV (As := []) (wr := []) (gV_ok D I) (ct_12941_Signs_takeWord l hl0 D I q13794 q13795 q13796 p13797 0 o14050 p13800 p13801 f13802 (gB_w bp13801'' (by decide) (by decide)) bf13802 (by have qa0 : Int32.toInt 0 = 0 := (by decide); omega)) d_cX9_advance_182 ⟨w_3_48, w_1_4, w_3_51, by decide, rfl, (Nat.le_of_ble_eq_true rfl), (Nat.le_of_ble_eq_true rfl)⟩ w_3_50 w_p_4 0 rfl rfl [0, 1, 2] [] rfl rfl rfl rfl (by decide) (Nat.le_of_ble_eq_true rfl) (Nat.le_of_ble_eq_true rfl) (Nat.le_of_ble_eq_true rfl) (fun r w hp => ?_) (fun _ _ _ z => z.elim)
                  obtain ⟨o14274, o14275, rfl, rfl, bo14274, bo14275, x14276⟩ := hp
                  rw [show Int32.toInt 0 = 0 from by decide] at x14276
                  change G _ _ _ _ _ _ _ _ _ _ _
                  refine G_ws (ws' := [(q13794, .inr (14, [.ref q13795, .int o14274, .int 0, .int o14050, .int o14275])), (q13795, .inr (15, [.ref q13796, .int p13801])), (q13796, .inl (I .byte, 8192, .inl f13802))]) (cs' := 0) (sl' := 0) rfl rfl rfl ?_
                  refine G_goto 194 d_cX9_advance_185 (by decide +kernel) ?_
                  exact G_vret d_cX9_advance_194 rfl (Nat.le_of_ble_eq_true rfl) (Nat.le_of_ble_eq_true rfl) ⟨o14274, 0, o14050, o14275, rfl, rfl, bo14274, (gB_w (gBl (show Int32.toInt 0 = 0 by decide)) (by decide) (by decide)), (gB_w bo14050'' (by decide) (by decide)), bo14275, (by have qa0 : Int32.toInt 0 = 0 := (by decide); omega)⟩
              · have r14081' : gB z14078 48 255 := ⟨by omega, by omega⟩
                have r14081'' : gB z14078 48 57 := ⟨by omega, by omega⟩
                change G _ _ _ _ _ _ _ (.int 1 :: _) _ _ _
                refine G_ws (ws' := [(q13794, .inr (14, [.ref q13795, .int p13797, .int 0, .int o14050, .int p13800])), (q13795, .inr (15, [.ref q13796, .int p13801])), (q13796, .inl (I .byte, 8192, .inl f13802))]) (cs' := 0) (sl' := 0) rfl rfl rfl ?_
                refine G_if_eq 151 d_cX9_advance_138 (by decide +kernel) (fun hc => absurd hc (by decide)) (fun _ => ?_)
                refine G_aload_n 3 d_cX9_advance_141 rfl ?_
                refine G_iconst 2 d_cX9_advance_142 (by decide +kernel) ?_
                refine G_bipush 100 d_cX9_advance_143 (by decide +kernel) ?_
                refine G_callV (As := [.int 2, .int 100]) (wr := []) (gV_ok D I) (ct_661_Signs_takeNamed l hl0 D I q13794 q13795 q13796 2 100 p13797 0 o14050 p13800 p13801 f13802 (gB_w (gBl (show Int32.toInt 2 = 2 by decide)) (by decide) (by decide)) (gB_w bp13801'' (by decide) (by decide)) bf13802 (by have qa0 : Int32.toInt 0 = 0 := (by decide); have qa1 : Int32.toInt 2 = 2 := (by decide); have qa2 : Int32.toInt 100 = 100 := (by decide); omega)) d_cX9_advance_145 ⟨w_3_41, w_1_4, w_3_44, by decide, rfl, (Nat.le_of_ble_eq_true rfl), (Nat.le_of_ble_eq_true rfl)⟩ w_3_43 w_p_3 0 rfl rfl [0, 1, 2] [] rfl rfl rfl rfl (by decide) (Nat.le_of_ble_eq_true rfl) (Nat.le_of_ble_eq_true rfl) (Nat.le_of_ble_eq_true rfl) (fun r w hp => ?_) (fun _ _ _ z => z.elim)
                obtain ⟨o14277, o14278, o14279, rfl, rfl, bo14277, bo14278, bo14279, x14280⟩ := hp
                change G _ _ _ _ _ _ _ _ _ _ _
                refine G_ws (ws' := [(q13794, .inr (14, [.ref q13795, .int o14277, .int o14278, .int o14050, .int o14279])), (q13795, .inr (15, [.ref q13796, .int p13801])), (q13796, .inl (I .byte, 8192, .inl f13802))]) (cs' := 0) (sl' := 0) rfl rfl rfl ?_
                refine G_goto 194 d_cX9_advance_148 (by decide +kernel) ?_
                exact G_vret d_cX9_advance_194 rfl (Nat.le_of_ble_eq_true rfl) (Nat.le_of_ble_eq_true rfl) ⟨o14277, o14278, o14050, o14279, rfl, rfl, (gB_w bo14277 (by decide) (by decide)), bo14278, (gB_w bo14050'' (by decide) (by decide)), bo14279, (by have qa0 : Int32.toInt 0 = 0 := (by decide); omega)⟩
          · have r14057' : gB z14054 48 255 := ⟨by omega, by omega⟩
            have r14057'' : gB z14054 48 57 := ⟨by omega, by omega⟩
            change G _ _ _ _ _ _ _ (.int 1 :: _) _ _ _
            refine G_ws (ws' := [(q13794, .inr (14, [.ref q13795, .int p13797, .int 0, .int o14050, .int p13800])), (q13795, .inr (15, [.ref q13796, .int p13801])), (q13796, .inl (I .byte, 8192, .inl f13802))]) (cs' := 0) (sl' := 0) rfl rfl rfl ?_
            refine G_if_ne 110 d_cX9_advance_90 (by decide +kernel) (fun _ => ?_) (fun hc => absurd hc (by decide))
            refine G_aload_n 3 d_cX9_advance_110 rfl ?_
            refine G_iload_n 1 d_cX9_advance_111 rfl ?_
            refine G_bipush 45 d_cX9_advance_112 (by decide +kernel) ?_
            refine G_icmp_ne 121 d_cX9_advance_114 (by decide +kernel) (fun _ => ?_) (fun hc => absurd (show False by have := gj_eq hc (show Int32.toInt 45 = 45 by decide); omega) not_false)
            refine G_iconst 0 d_cX9_advance_121 (by decide +kernel) ?_
            refine G_callV (As := [.int 0]) (wr := []) (gV_ok D I) (ct_624_Signs_takeNumber l hl0 D I q13794 q13795 q13796 0 p13797 0 o14050 p13800 p13801 f13802 (gB_w (gBl (show Int32.toInt 0 = 0 by decide)) (by decide) (by decide)) (gB_w bp13801'' (by decide) (by decide)) bf13802 (by have qa0 : Int32.toInt 0 = 0 := (by decide); omega)) d_cX9_advance_122 ⟨w_3_27, w_1_4, w_3_30, by decide, rfl, (Nat.le_of_ble_eq_true rfl), (Nat.le_of_ble_eq_true rfl)⟩ w_3_29 w_p_1 0 rfl rfl [0, 1, 2] [] rfl rfl rfl rfl (by decide) (Nat.le_of_ble_eq_true rfl) (Nat.le_of_ble_eq_true rfl) (Nat.le_of_ble_eq_true rfl) (fun r w hp => ?_) (fun _ _ _ z => z.elim)
            obtain ⟨o14281, o14282, o14283, rfl, rfl, bo14281, bo14282, bo14283, x14284⟩ := hp
            change G _ _ _ _ _ _ _ _ _ _ _
            refine G_ws (ws' := [(q13794, .inr (14, [.ref q13795, .int o14281, .int o14282, .int o14050, .int o14283])), (q13795, .inr (15, [.ref q13796, .int p13801])), (q13796, .inl (I .byte, 8192, .inl f13802))]) (cs' := 0) (sl' := 0) rfl rfl rfl ?_
            refine G_goto 194 d_cX9_advance_125 (by decide +kernel) ?_
            exact G_vret d_cX9_advance_194 rfl (Nat.le_of_ble_eq_true rfl) (Nat.le_of_ble_eq_true rfl) ⟨o14281, o14282, o14050, o14283, rfl, rfl, (gB_w bo14281 (by decide) (by decide)), bo14282, (gB_w bo14050'' (by decide) (by decide)), bo14283, (by have qa0 : Int32.toInt 0 = 0 := (by decide); omega)⟩
    · have r14285 : p13797.toInt = 4 := gj_eq hc14048 (show Int32.toInt 4 = 4 by decide)
      have bp13797' : gB p13797 4 4 := ⟨by omega, by omega⟩
      refine G_iconst 1 d_cX9_advance_16 (by decide +kernel) ?_
      refine G_goto 21 d_cX9_advance_17 (by decide +kernel) ?_
      refine G_istore_n (L' := [(1, .int 1), (0, .ref q13794)]) d_cX9_advance_21 (Nat.le_of_ble_eq_true rfl) rfl ?_
      refine G_aload_n 1 d_cX9_advance_22 rfl ?_
      refine G_aload_n 1 d_cX9_advance_23 rfl ?_
      refine G_aload_n 1 d_cX9_advance_24 rfl ?_
      refine G_getf 0 4 d_cX9_advance_25 rfl (gk_X9 D I) (Nat.le_of_ble_eq_true rfl) w_1_83 rfl ?_
      refine G_callV (As := [.int p13800]) (wr := []) (gV_ok D I) (ct_326_Signs_skipBlanks l hl0 D I q13794 q13795 q13796 p13800 p13797 p13798 p13799 p13800 p13801 f13802 bp13801 bf13802 (by omega)) d_cX9_advance_28 ⟨w_3_12, w_1_4, w_3_15, by decide, rfl, (Nat.le_of_ble_eq_true rfl), (Nat.le_of_ble_eq_true rfl)⟩ w_3_14 w_p_0 0 rfl rfl [0, 1, 2] [] rfl rfl rfl rfl (by decide) (Nat.le_of_ble_eq_true rfl) (Nat.le_of_ble_eq_true rfl) (Nat.le_of_ble_eq_true rfl) (fun r w hp => ?_) (fun _ _ _ z => z.elim)
      obtain ⟨o14286, rfl, rfl, bo14286⟩ := hp
      change G _ _ _ _ _ _ _ (.int o14286 :: _) _ _ _
      refine G_ws (ws' := [(q13794, .inr (14, [.ref q13795, .int p13797, .int p13798, .int p13799, .int p13800])), (q13795, .inr (15, [.ref q13796, .int p13801])), (q13796, .inl (I .byte, 8192, .inl f13802))]) (cs' := 0) (sl' := 0) rfl rfl rfl ?_
      refine G_putf (ws' := [(q13794, .inr (14, [.ref q13795, .int p13797, .int p13798, .int o14286, .int p13800])), (q13795, .inr (15, [.ref q13796, .int p13801])), (q13796, .inl (I .byte, 8192, .inl f13802))]) 0 3 d_cX9_advance_31 rfl (gk_X9 D I) (Nat.le_of_ble_eq_true rfl) w_1_82 rfl rfl rfl (Nat.le_of_ble_eq_true rfl) rfl ?_
      refine G_aload_n 1 d_cX9_advance_34 rfl ?_
      refine G_getf 0 0 d_cX9_advance_35 rfl (gk_X9 D I) (Nat.le_of_ble_eq_true rfl) w_1_79 rfl ?_
      refine G_aload_n 1 d_cX9_advance_38 rfl ?_
      refine G_getf 0 3 d_cX9_advance_39 rfl (gk_X9 D I) (Nat.le_of_ble_eq_true rfl) w_1_82 rfl ?_
      refine G_callV (As := [.int o14286]) (wr := [(q13794, .inr (14, [.ref q13795, .int p13797, .int p13798, .int o14286, .int p13800]))]) (gV_ok D I) (ct_30_Tape_byteAt l hl0 D I q13795 q13796 o14286 p13801 f13802 bp13801 bf13802) d_cX9_advance_42 ⟨w_3_20, w_1_2, w_3_23, by decide, rfl, (Nat.le_of_ble_eq_true rfl), (Nat.le_of_ble_eq_true rfl)⟩ w_3_21 w_3_22 1 rfl rfl [1, 2] [0] rfl rfl rfl rfl (by decide) (Nat.le_of_ble_eq_true rfl) (Nat.le_of_ble_eq_true rfl) (Nat.le_of_ble_eq_true rfl) (fun r w hp => ?_) (fun _ _ _ z => z.elim)
      rcases hp with ⟨rfl, rfl, r14287⟩ | ⟨rfl, rfl, r14288, r14289⟩ | ⟨z14290, rfl, rfl, r14291, r14292, r14293⟩
      · have bo14286' : gB o14286 (-2147483648) (-1) := ⟨by omega, by omega⟩
        change G _ _ _ _ _ _ _ (.int (-1) :: _) _ _ _
        refine G_ws (ws' := [(q13794, .inr (14, [.ref q13795, .int p13797, .int p13798, .int o14286, .int p13800])), (q13795, .inr (15, [.ref q13796, .int p13801])), (q13796, .inl (I .byte, 8192, .inl f13802))]) (cs' := 0) (sl' := 0) rfl rfl rfl ?_
        refine G_istore_n (L' := [(2, .int (-1)), (1, .int 1), (0, .ref q13794)]) d_cX9_advance_45 (Nat.le_of_ble_eq_true rfl) rfl ?_
        refine G_aload_n 2 d_cX9_advance_46 rfl ?_
        refine G_getf 0 0 d_cX9_advance_47 rfl (gk_X9 D I) (Nat.le_of_ble_eq_true rfl) w_1_79 rfl ?_
        refine G_aload_n 2 d_cX9_advance_50 rfl ?_
        refine G_getf 0 3 d_cX9_advance_51 rfl (gk_X9 D I) (Nat.le_of_ble_eq_true rfl) w_1_82 rfl ?_
        refine G_iconst 1 d_cX9_advance_54 (by decide +kernel) ?_
        refine G_iadd d_cX9_advance_55 (G_nam fun z14294 hz14294 => ?_)
        have ez14294 : z14294.toInt = o14286.toInt + 1 := by rw [gI_add hz14294 bo14286' (gBl (show Int32.toInt 1 = 1 by decide)) (by decide) (by decide), show Int32.toInt 1 = 1 from by decide]
        have bz14294 : gB z14294 (-2147483647) 0 := gB_add (gI_add hz14294 bo14286' (gBl (show Int32.toInt 1 = 1 by decide)) (by decide) (by decide)) bo14286' (gBl (show Int32.toInt 1 = 1 by decide)) (by decide) (by decide)
        refine G_callV (As := [.int z14294]) (wr := [(q13794, .inr (14, [.ref q13795, .int p13797, .int p13798, .int o14286, .int p13800]))]) (gV_ok D I) (ct_30_Tape_byteAt l hl0 D I q13795 q13796 z14294 p13801 f13802 bp13801 bf13802) d_cX9_advance_56 ⟨w_3_20, w_1_2, w_3_23, by decide, rfl, (Nat.le_of_ble_eq_true rfl), (Nat.le_of_ble_eq_true rfl)⟩ w_3_21 w_3_22 1 rfl rfl [1, 2] [0] rfl rfl rfl rfl (by decide) (Nat.le_of_ble_eq_true rfl) (Nat.le_of_ble_eq_true rfl) (Nat.le_of_ble_eq_true rfl) (fun r w hp => ?_) (fun _ _ _ z => z.elim)
        rcases hp with ⟨rfl, rfl, r14295⟩ | ⟨rfl, rfl, r14296, r14297⟩ | ⟨z14298, rfl, rfl, r14299, r14300, r14301⟩
        · have bz14294' : gB z14294 (-2147483647) (-1) := ⟨by omega, by omega⟩
          change G _ _ _ _ _ _ _ (.int (-1) :: _) _ _ _
          refine G_ws (ws' := [(q13794, .inr (14, [.ref q13795, .int p13797, .int p13798, .int o14286, .int p13800])), (q13795, .inr (15, [.ref q13796, .int p13801])), (q13796, .inl (I .byte, 8192, .inl f13802))]) (cs' := 0) (sl' := 0) rfl rfl rfl ?_
          refine G_istore_n (L' := [(3, .int (-1)), (2, .int (-1)), (1, .int 1), (0, .ref q13794)]) d_cX9_advance_59 (Nat.le_of_ble_eq_true rfl) rfl ?_
          refine G_aload_n 3 d_cX9_advance_60 rfl ?_
          refine G_iconst 0 d_cX9_advance_61 (by decide +kernel) ?_
          refine G_putf (ws' := [(q13794, .inr (14, [.ref q13795, .int p13797, .int 0, .int o14286, .int p13800])), (q13795, .inr (15, [.ref q13796, .int p13801])), (q13796, .inl (I .byte, 8192, .inl f13802))]) 0 2 d_cX9_advance_62 rfl (gk_X9 D I) (Nat.le_of_ble_eq_true rfl) w_1_81 rfl rfl rfl (Nat.le_of_ble_eq_true rfl) rfl ?_
          refine G_iload_n 1 d_cX9_advance_65 rfl ?_
          refine G_iconst (-1) d_cX9_advance_66 (by decide +kernel) ?_
          refine G_icmp_ne 86 d_cX9_advance_67 (by decide +kernel) (fun hc => absurd hc (by decide)) (fun _ => ?_)
          refine G_aload_n 3 d_cX9_advance_70 rfl ?_
          refine G_iconst 1 d_cX9_advance_71 (by decide +kernel) ?_
          refine G_putf (ws' := [(q13794, .inr (14, [.ref q13795, .int 1, .int 0, .int o14286, .int p13800])), (q13795, .inr (15, [.ref q13796, .int p13801])), (q13796, .inl (I .byte, 8192, .inl f13802))]) 0 1 d_cX9_advance_72 rfl (gk_X9 D I) (Nat.le_of_ble_eq_true rfl) w_1_80 rfl rfl rfl (Nat.le_of_ble_eq_true rfl) rfl ?_
          refine G_aload_n 3 d_cX9_advance_75 rfl ?_
          refine G_aload_n 3 d_cX9_advance_76 rfl ?_
          refine G_getf 0 3 d_cX9_advance_77 rfl (gk_X9 D I) (Nat.le_of_ble_eq_true rfl) w_1_82 rfl ?_
          refine G_putf (ws' := [(q13794, .inr (14, [.ref q13795, .int 1, .int 0, .int o14286, .int o14286])), (q13795, .inr (15, [.ref q13796, .int p13801])), (q13796, .inl (I .byte, 8192, .inl f13802))]) 0 4 d_cX9_advance_80 rfl (gk_X9 D I) (Nat.le_of_ble_eq_true rfl) w_1_83 rfl rfl rfl (Nat.le_of_ble_eq_true rfl) rfl ?_
          refine G_goto 194 d_cX9_advance_83 (by decide +kernel) ?_
          exact G_vret d_cX9_advance_194 rfl (Nat.le_of_ble_eq_true rfl) (Nat.le_of_ble_eq_true rfl) ⟨1, 0, o14286, o14286, rfl, rfl, (gB_w (gBl (show Int32.toInt 1 = 1 by decide)) (by decide) (by decide)), (gB_w (gBl (show Int32.toInt 0 = 0 by decide)) (by decide) (by decide)), (gB_w bo14286' (by decide) (by decide)), (gB_w bo14286' (by decide) (by decide)), (by have qa0 : Int32.toInt (-1) = (-1) := (by decide); have qa1 : Int32.toInt 0 = 0 := (by decide); have qa2 : Int32.toInt 1 = 1 := (by decide); omega)⟩
        · have bz14294' : gB z14294 0 0 := ⟨by omega, by omega⟩
          have bp13801' : gB p13801 0 0 := ⟨by omega, by omega⟩
          change G _ _ _ _ _ _ _ (.int (-1) :: _) _ _ _
          refine G_ws (ws' := [(q13794, .inr (14, [.ref q13795, .int p13797, .int p13798, .int o14286, .int p13800])), (q13795, .inr (15, [.ref q13796, .int p13801])), (q13796, .inl (I .byte, 8192, .inl f13802))]) (cs' := 0) (sl' := 0) rfl rfl rfl ?_
          refine G_istore_n (L' := [(3, .int (-1)), (2, .int (-1)), (1, .int 1), (0, .ref q13794)]) d_cX9_advance_59 (Nat.le_of_ble_eq_true rfl) rfl ?_
          refine G_aload_n 3 d_cX9_advance_60 rfl ?_
          refine G_iconst 0 d_cX9_advance_61 (by decide +kernel) ?_
          refine G_putf (ws' := [(q13794, .inr (14, [.ref q13795, .int p13797, .int 0, .int o14286, .int p13800])), (q13795, .inr (15, [.ref q13796, .int p13801])), (q13796, .inl (I .byte, 8192, .inl f13802))]) 0 2 d_cX9_advance_62 rfl (gk_X9 D I) (Nat.le_of_ble_eq_true rfl) w_1_81 rfl rfl rfl (Nat.le_of_ble_eq_true rfl) rfl ?_
          refine G_iload_n 1 d_cX9_advance_65 rfl ?_
          refine G_iconst (-1) d_cX9_advance_66 (by decide +kernel) ?_
          refine G_icmp_ne 86 d_cX9_advance_67 (by decide +kernel) (fun hc => absurd hc (by decide)) (fun _ => ?_)
          refine G_aload_n 3 d_cX9_advance_70 rfl ?_
          refine G_iconst 1 d_cX9_advance_71 (by decide +kernel) ?_
          refine G_putf (ws' := [(q13794, .inr (14, [.ref q13795, .int 1, .int 0, .int o14286, .int p13800])), (q13795, .inr (15, [.ref q13796, .int p13801])), (q13796, .inl (I .byte, 8192, .inl f13802))]) 0 1 d_cX9_advance_72 rfl (gk_X9 D I) (Nat.le_of_ble_eq_true rfl) w_1_80 rfl rfl rfl (Nat.le_of_ble_eq_true rfl) rfl ?_
          refine G_aload_n 3 d_cX9_advance_75 rfl ?_
          refine G_aload_n 3 d_cX9_advance_76 rfl ?_
          refine G_getf 0 3 d_cX9_advance_77 rfl (gk_X9 D I) (Nat.le_of_ble_eq_true rfl) w_1_82 rfl ?_
          refine G_putf (ws' := [(q13794, .inr (14, [.ref q13795, .int 1, .int 0, .int o14286, .int o14286])), (q13795, .inr (15, [.ref q13796, .int p13801])), (q13796, .inl (I .byte, 8192, .inl f13802))]) 0 4 d_cX9_advance_80 rfl (gk_X9 D I) (Nat.le_of_ble_eq_true rfl) w_1_83 rfl rfl rfl (Nat.le_of_ble_eq_true rfl) rfl ?_
          refine G_goto 194 d_cX9_advance_83 (by decide +kernel) ?_
          exact G_vret d_cX9_advance_194 rfl (Nat.le_of_ble_eq_true rfl) (Nat.le_of_ble_eq_true rfl) ⟨1, 0, o14286, o14286, rfl, rfl, (gB_w (gBl (show Int32.toInt 1 = 1 by decide)) (by decide) (by decide)), (gB_w (gBl (show Int32.toInt 0 = 0 by decide)) (by decide) (by decide)), (gB_w bo14286' (by decide) (by decide)), (gB_w bo14286' (by decide) (by decide)), (by have qa0 : Int32.toInt (-1) = (-1) := (by decide); have qa1 : Int32.toInt 0 = 0 := (by decide); have qa2 : Int32.toInt 1 = 1 := (by decide); omega)⟩
        · have bz14294' : gB z14294 0 0 := ⟨by omega, by omega⟩
          have bp13801' : gB p13801 1 8192 := ⟨by omega, by omega⟩
          change G _ _ _ _ _ _ _ (.int z14298 :: _) _ _ _
          refine G_ws (ws' := [(q13794, .inr (14, [.ref q13795, .int p13797, .int p13798, .int o14286, .int p13800])), (q13795, .inr (15, [.ref q13796, .int p13801])), (q13796, .inl (I .byte, 8192, .inl f13802))]) (cs' := 0) (sl' := 0) rfl rfl rfl ?_
          refine G_istore_n (L' := [(3, .int z14298), (2, .int (-1)), (1, .int 1), (0, .ref q13794)]) d_cX9_advance_59 (Nat.le_of_ble_eq_true rfl) rfl ?_
          refine G_aload_n 3 d_cX9_advance_60 rfl ?_
          refine G_iconst 0 d_cX9_advance_61 (by decide +kernel) ?_
          refine G_putf (ws' := [(q13794, .inr (14, [.ref q13795, .int p13797, .int 0, .int o14286, .int p13800])), (q13795, .inr (15, [.ref q13796, .int p13801])), (q13796, .inl (I .byte, 8192, .inl f13802))]) 0 2 d_cX9_advance_62 rfl (gk_X9 D I) (Nat.le_of_ble_eq_true rfl) w_1_81 rfl rfl rfl (Nat.le_of_ble_eq_true rfl) rfl ?_
          refine G_iload_n 1 d_cX9_advance_65 rfl ?_
          refine G_iconst (-1) d_cX9_advance_66 (by decide +kernel) ?_
          refine G_icmp_ne 86 d_cX9_advance_67 (by decide +kernel) (fun hc => absurd hc (by decide)) (fun _ => ?_)
          refine G_aload_n 3 d_cX9_advance_70 rfl ?_
          refine G_iconst 1 d_cX9_advance_71 (by decide +kernel) ?_
          refine G_putf (ws' := [(q13794, .inr (14, [.ref q13795, .int 1, .int 0, .int o14286, .int p13800])), (q13795, .inr (15, [.ref q13796, .int p13801])), (q13796, .inl (I .byte, 8192, .inl f13802))]) 0 1 d_cX9_advance_72 rfl (gk_X9 D I) (Nat.le_of_ble_eq_true rfl) w_1_80 rfl rfl rfl (Nat.le_of_ble_eq_true rfl) rfl ?_
          refine G_aload_n 3 d_cX9_advance_75 rfl ?_
          refine G_aload_n 3 d_cX9_advance_76 rfl ?_
          refine G_getf 0 3 d_cX9_advance_77 rfl (gk_X9 D I) (Nat.le_of_ble_eq_true rfl) w_1_82 rfl ?_
          refine G_putf (ws' := [(q13794, .inr (14, [.ref q13795, .int 1, .int 0, .int o14286, .int o14286])), (q13795, .inr (15, [.ref q13796, .int p13801])), (q13796, .inl (I .byte, 8192, .inl f13802))]) 0 4 d_cX9_advance_80 rfl (gk_X9 D I) (Nat.le_of_ble_eq_true rfl) w_1_83 rfl rfl rfl (Nat.le_of_ble_eq_true rfl) rfl ?_
          refine G_goto 194 d_cX9_advance_83 (by decide +kernel) ?_
          exact G_vret d_cX9_advance_194 rfl (Nat.le_of_ble_eq_true rfl) (Nat.le_of_ble_eq_true rfl) ⟨1, 0, o14286, o14286, rfl, rfl, (gB_w (gBl (show Int32.toInt 1 = 1 by decide)) (by decide) (by decide)), (gB_w (gBl (show Int32.toInt 0 = 0 by decide)) (by decide) (by decide)), (gB_w bo14286' (by decide) (by decide)), (gB_w bo14286' (by decide) (by decide)), (by have qa0 : Int32.toInt (-1) = (-1) := (by decide); have qa1 : Int32.toInt 0 = 0 := (by decide); have qa2 : Int32.toInt 1 = 1 := (by decide); omega)⟩
      · have bo14286' : gB o14286 0 8192 := ⟨by omega, by omega⟩
        change G _ _ _ _ _ _ _ (.int (-1) :: _) _ _ _
        refine G_ws (ws' := [(q13794, .inr (14, [.ref q13795, .int p13797, .int p13798, .int o14286, .int p13800])), (q13795, .inr (15, [.ref q13796, .int p13801])), (q13796, .inl (I .byte, 8192, .inl f13802))]) (cs' := 0) (sl' := 0) rfl rfl rfl ?_
        refine G_istore_n (L' := [(2, .int (-1)), (1, .int 1), (0, .ref q13794)]) d_cX9_advance_45 (Nat.le_of_ble_eq_true rfl) rfl ?_
        refine G_aload_n 2 d_cX9_advance_46 rfl ?_
        refine G_getf 0 0 d_cX9_advance_47 rfl (gk_X9 D I) (Nat.le_of_ble_eq_true rfl) w_1_79 rfl ?_
        refine G_aload_n 2 d_cX9_advance_50 rfl ?_
        refine G_getf 0 3 d_cX9_advance_51 rfl (gk_X9 D I) (Nat.le_of_ble_eq_true rfl) w_1_82 rfl ?_
        refine G_iconst 1 d_cX9_advance_54 (by decide +kernel) ?_
        refine G_iadd d_cX9_advance_55 (G_nam fun z14302 hz14302 => ?_)
        have ez14302 : z14302.toInt = o14286.toInt + 1 := by rw [gI_add hz14302 bo14286' (gBl (show Int32.toInt 1 = 1 by decide)) (by decide) (by decide), show Int32.toInt 1 = 1 from by decide]
        have bz14302 : gB z14302 1 8193 := gB_add (gI_add hz14302 bo14286' (gBl (show Int32.toInt 1 = 1 by decide)) (by decide) (by decide)) bo14286' (gBl (show Int32.toInt 1 = 1 by decide)) (by decide) (by decide)
        refine G_callV (As := [.int z14302]) (wr := [(q13794, .inr (14, [.ref q13795, .int p13797, .int p13798, .int o14286, .int p13800]))]) (gV_ok D I) (ct_30_Tape_byteAt l hl0 D I q13795 q13796 z14302 p13801 f13802 bp13801 bf13802) d_cX9_advance_56 ⟨w_3_20, w_1_2, w_3_23, by decide, rfl, (Nat.le_of_ble_eq_true rfl), (Nat.le_of_ble_eq_true rfl)⟩ w_3_21 w_3_22 1 rfl rfl [1, 2] [0] rfl rfl rfl rfl (by decide) (Nat.le_of_ble_eq_true rfl) (Nat.le_of_ble_eq_true rfl) (Nat.le_of_ble_eq_true rfl) (fun r w hp => ?_) (fun _ _ _ z => z.elim)
        rcases hp with ⟨rfl, rfl, r14303⟩ | ⟨rfl, rfl, r14304, r14305⟩ | ⟨z14306, rfl, rfl, r14307, r14308, r14309⟩
        · exact absurd (show False by omega) not_false
        · change G _ _ _ _ _ _ _ (.int (-1) :: _) _ _ _
          refine G_ws (ws' := [(q13794, .inr (14, [.ref q13795, .int p13797, .int p13798, .int o14286, .int p13800])), (q13795, .inr (15, [.ref q13796, .int p13801])), (q13796, .inl (I .byte, 8192, .inl f13802))]) (cs' := 0) (sl' := 0) rfl rfl rfl ?_
          refine G_istore_n (L' := [(3, .int (-1)), (2, .int (-1)), (1, .int 1), (0, .ref q13794)]) d_cX9_advance_59 (Nat.le_of_ble_eq_true rfl) rfl ?_
          refine G_aload_n 3 d_cX9_advance_60 rfl ?_
          refine G_iconst 0 d_cX9_advance_61 (by decide +kernel) ?_
          refine G_putf (ws' := [(q13794, .inr (14, [.ref q13795, .int p13797, .int 0, .int o14286, .int p13800])), (q13795, .inr (15, [.ref q13796, .int p13801])), (q13796, .inl (I .byte, 8192, .inl f13802))]) 0 2 d_cX9_advance_62 rfl (gk_X9 D I) (Nat.le_of_ble_eq_true rfl) w_1_81 rfl rfl rfl (Nat.le_of_ble_eq_true rfl) rfl ?_
          refine G_iload_n 1 d_cX9_advance_65 rfl ?_
          refine G_iconst (-1) d_cX9_advance_66 (by decide +kernel) ?_
          refine G_icmp_ne 86 d_cX9_advance_67 (by decide +kernel) (fun hc => absurd hc (by decide)) (fun _ => ?_)
          refine G_aload_n 3 d_cX9_advance_70 rfl ?_
          refine G_iconst 1 d_cX9_advance_71 (by decide +kernel) ?_
          refine G_putf (ws' := [(q13794, .inr (14, [.ref q13795, .int 1, .int 0, .int o14286, .int p13800])), (q13795, .inr (15, [.ref q13796, .int p13801])), (q13796, .inl (I .byte, 8192, .inl f13802))]) 0 1 d_cX9_advance_72 rfl (gk_X9 D I) (Nat.le_of_ble_eq_true rfl) w_1_80 rfl rfl rfl (Nat.le_of_ble_eq_true rfl) rfl ?_
          refine G_aload_n 3 d_cX9_advance_75 rfl ?_
          refine G_aload_n 3 d_cX9_advance_76 rfl ?_
          refine G_getf 0 3 d_cX9_advance_77 rfl (gk_X9 D I) (Nat.le_of_ble_eq_true rfl) w_1_82 rfl ?_
          refine G_putf (ws' := [(q13794, .inr (14, [.ref q13795, .int 1, .int 0, .int o14286, .int o14286])), (q13795, .inr (15, [.ref q13796, .int p13801])), (q13796, .inl (I .byte, 8192, .inl f13802))]) 0 4 d_cX9_advance_80 rfl (gk_X9 D I) (Nat.le_of_ble_eq_true rfl) w_1_83 rfl rfl rfl (Nat.le_of_ble_eq_true rfl) rfl ?_
          refine G_goto 194 d_cX9_advance_83 (by decide +kernel) ?_
          exact G_vret d_cX9_advance_194 rfl (Nat.le_of_ble_eq_true rfl) (Nat.le_of_ble_eq_true rfl) ⟨1, 0, o14286, o14286, rfl, rfl, (gB_w (gBl (show Int32.toInt 1 = 1 by decide)) (by decide) (by decide)), (gB_w (gBl (show Int32.toInt 0 = 0 by decide)) (by decide) (by decide)), (gB_w bo14286' (by decide) (by decide)), (gB_w bo14286' (by decide) (by decide)), (by have qa0 : Int32.toInt (-1) = (-1) := (by decide); have qa1 : Int32.toInt 0 = 0 := (by decide); have qa2 : Int32.toInt 1 = 1 := (by decide); omega)⟩
        · have bz14302' : gB z14302 1 8191 := ⟨by omega, by omega⟩
          have bp13801' : gB p13801 2 8192 := ⟨by omega, by omega⟩
          change G _ _ _ _ _ _ _ (.int z14306 :: _) _ _ _
          refine G_ws (ws' := [(q13794, .inr (14, [.ref q13795, .int p13797, .int p13798, .int o14286, .int p13800])), (q13795, .inr (15, [.ref q13796, .int p13801])), (q13796, .inl (I .byte, 8192, .inl f13802))]) (cs' := 0) (sl' := 0) rfl rfl rfl ?_
          refine G_istore_n (L' := [(3, .int z14306), (2, .int (-1)), (1, .int 1), (0, .ref q13794)]) d_cX9_advance_59 (Nat.le_of_ble_eq_true rfl) rfl ?_
          refine G_aload_n 3 d_cX9_advance_60 rfl ?_
          refine G_iconst 0 d_cX9_advance_61 (by decide +kernel) ?_
          refine G_putf (ws' := [(q13794, .inr (14, [.ref q13795, .int p13797, .int 0, .int o14286, .int p13800])), (q13795, .inr (15, [.ref q13796, .int p13801])), (q13796, .inl (I .byte, 8192, .inl f13802))]) 0 2 d_cX9_advance_62 rfl (gk_X9 D I) (Nat.le_of_ble_eq_true rfl) w_1_81 rfl rfl rfl (Nat.le_of_ble_eq_true rfl) rfl ?_
          refine G_iload_n 1 d_cX9_advance_65 rfl ?_
          refine G_iconst (-1) d_cX9_advance_66 (by decide +kernel) ?_
          refine G_icmp_ne 86 d_cX9_advance_67 (by decide +kernel) (fun hc => absurd hc (by decide)) (fun _ => ?_)
          refine G_aload_n 3 d_cX9_advance_70 rfl ?_
          refine G_iconst 1 d_cX9_advance_71 (by decide +kernel) ?_
          refine G_putf (ws' := [(q13794, .inr (14, [.ref q13795, .int 1, .int 0, .int o14286, .int p13800])), (q13795, .inr (15, [.ref q13796, .int p13801])), (q13796, .inl (I .byte, 8192, .inl f13802))]) 0 1 d_cX9_advance_72 rfl (gk_X9 D I) (Nat.le_of_ble_eq_true rfl) w_1_80 rfl rfl rfl (Nat.le_of_ble_eq_true rfl) rfl ?_
          refine G_aload_n 3 d_cX9_advance_75 rfl ?_
          refine G_aload_n 3 d_cX9_advance_76 rfl ?_
          refine G_getf 0 3 d_cX9_advance_77 rfl (gk_X9 D I) (Nat.le_of_ble_eq_true rfl) w_1_82 rfl ?_
          refine G_putf (ws' := [(q13794, .inr (14, [.ref q13795, .int 1, .int 0, .int o14286, .int o14286])), (q13795, .inr (15, [.ref q13796, .int p13801])), (q13796, .inl (I .byte, 8192, .inl f13802))]) 0 4 d_cX9_advance_80 rfl (gk_X9 D I) (Nat.le_of_ble_eq_true rfl) w_1_83 rfl rfl rfl (Nat.le_of_ble_eq_true rfl) rfl ?_
          refine G_goto 194 d_cX9_advance_83 (by decide +kernel) ?_
          exact G_vret d_cX9_advance_194 rfl (Nat.le_of_ble_eq_true rfl) (Nat.le_of_ble_eq_true rfl) ⟨1, 0, o14286, o14286, rfl, rfl, (gB_w (gBl (show Int32.toInt 1 = 1 by decide)) (by decide) (by decide)), (gB_w (gBl (show Int32.toInt 0 = 0 by decide)) (by decide) (by decide)), (gB_w bo14286' (by decide) (by decide)), (gB_w bo14286' (by decide) (by decide)), (by have qa0 : Int32.toInt (-1) = (-1) := (by decide); have qa1 : Int32.toInt 0 = 0 := (by decide); have qa2 : Int32.toInt 1 = 1 := (by decide); omega)⟩
      · have bo14286' : gB o14286 0 8192 := ⟨by omega, by omega⟩
        have bo14286'' : gB o14286 0 8191 := ⟨by omega, by omega⟩
        have bp13801' : gB p13801 1 8192 := ⟨by omega, by omega⟩
        change G _ _ _ _ _ _ _ (.int z14290 :: _) _ _ _
        refine G_ws (ws' := [(q13794, .inr (14, [.ref q13795, .int p13797, .int p13798, .int o14286, .int p13800])), (q13795, .inr (15, [.ref q13796, .int p13801])), (q13796, .inl (I .byte, 8192, .inl f13802))]) (cs' := 0) (sl' := 0) rfl rfl rfl ?_
        refine G_istore_n (L' := [(2, .int z14290), (1, .int 1), (0, .ref q13794)]) d_cX9_advance_45 (Nat.le_of_ble_eq_true rfl) rfl ?_
        refine G_aload_n 2 d_cX9_advance_46 rfl ?_
        refine G_getf 0 0 d_cX9_advance_47 rfl (gk_X9 D I) (Nat.le_of_ble_eq_true rfl) w_1_79 rfl ?_
        refine G_aload_n 2 d_cX9_advance_50 rfl ?_
        refine G_getf 0 3 d_cX9_advance_51 rfl (gk_X9 D I) (Nat.le_of_ble_eq_true rfl) w_1_82 rfl ?_
        refine G_iconst 1 d_cX9_advance_54 (by decide +kernel) ?_
        refine G_iadd d_cX9_advance_55 (G_nam fun z14310 hz14310 => ?_)
        have ez14310 : z14310.toInt = o14286.toInt + 1 := by rw [gI_add hz14310 bo14286'' (gBl (show Int32.toInt 1 = 1 by decide)) (by decide) (by decide), show Int32.toInt 1 = 1 from by decide]
        have bz14310 : gB z14310 1 8192 := gB_add (gI_add hz14310 bo14286'' (gBl (show Int32.toInt 1 = 1 by decide)) (by decide) (by decide)) bo14286'' (gBl (show Int32.toInt 1 = 1 by decide)) (by decide) (by decide)
        refine G_callV (As := [.int z14310]) (wr := [(q13794, .inr (14, [.ref q13795, .int p13797, .int p13798, .int o14286, .int p13800]))]) (gV_ok D I) (ct_30_Tape_byteAt l hl0 D I q13795 q13796 z14310 p13801 f13802 (gB_w bp13801' (by decide) (by decide)) bf13802) d_cX9_advance_56 ⟨w_3_20, w_1_2, w_3_23, by decide, rfl, (Nat.le_of_ble_eq_true rfl), (Nat.le_of_ble_eq_true rfl)⟩ w_3_21 w_3_22 1 rfl rfl [1, 2] [0] rfl rfl rfl rfl (by decide) (Nat.le_of_ble_eq_true rfl) (Nat.le_of_ble_eq_true rfl) (Nat.le_of_ble_eq_true rfl) (fun r w hp => ?_) (fun _ _ _ z => z.elim)
        rcases hp with ⟨rfl, rfl, r14311⟩ | ⟨rfl, rfl, r14312, r14313⟩ | ⟨z14314, rfl, rfl, r14315, r14316, r14317⟩
        · exact absurd (show False by omega) not_false
        · change G _ _ _ _ _ _ _ (.int (-1) :: _) _ _ _
          refine G_ws (ws' := [(q13794, .inr (14, [.ref q13795, .int p13797, .int p13798, .int o14286, .int p13800])), (q13795, .inr (15, [.ref q13796, .int p13801])), (q13796, .inl (I .byte, 8192, .inl f13802))]) (cs' := 0) (sl' := 0) rfl rfl rfl ?_
          refine G_istore_n (L' := [(3, .int (-1)), (2, .int z14290), (1, .int 1), (0, .ref q13794)]) d_cX9_advance_59 (Nat.le_of_ble_eq_true rfl) rfl ?_
          refine G_aload_n 3 d_cX9_advance_60 rfl ?_
          refine G_iconst 0 d_cX9_advance_61 (by decide +kernel) ?_
          refine G_putf (ws' := [(q13794, .inr (14, [.ref q13795, .int p13797, .int 0, .int o14286, .int p13800])), (q13795, .inr (15, [.ref q13796, .int p13801])), (q13796, .inl (I .byte, 8192, .inl f13802))]) 0 2 d_cX9_advance_62 rfl (gk_X9 D I) (Nat.le_of_ble_eq_true rfl) w_1_81 rfl rfl rfl (Nat.le_of_ble_eq_true rfl) rfl ?_
          refine G_iload_n 1 d_cX9_advance_65 rfl ?_
          refine G_iconst (-1) d_cX9_advance_66 (by decide +kernel) ?_
          refine G_icmp_ne 86 d_cX9_advance_67 (by decide +kernel) (fun _ => ?_) (fun hc => absurd (show False by have := gj_eq hc (show Int32.toInt (-1) = (-1) by decide); omega) not_false)
          refine G_iload_n 1 d_cX9_advance_86 rfl ?_
          refine G_callS (As := [.int z14290]) (wr := [(q13794, .inr (14, [.ref q13795, .int p13797, .int 0, .int o14286, .int p13800])), (q13795, .inr (15, [.ref q13796, .int p13801])), (q13796, .inl (I .byte, 8192, .inl f13802))]) (gV_ok D I) (ct_300_Signs_isDigit l hl0 D I z14290 ) d_cX9_advance_87 ⟨w_3_24, w_1_4, w_3_26, by decide, rfl, (Nat.le_of_ble_eq_true rfl), (Nat.le_of_ble_eq_true rfl)⟩ w_3_25 [] [0, 1, 2] rfl rfl rfl rfl (by decide) (Nat.le_of_ble_eq_true rfl) (Nat.le_of_ble_eq_true rfl) (Nat.le_of_ble_eq_true rfl) (fun r w hp => ?_) (fun _ _ _ z => z.elim)
          rcases hp with ⟨rfl, rfl, r14318⟩ | ⟨rfl, rfl, r14319, r14320⟩ | ⟨rfl, rfl, r14321, r14322⟩
          · have r14293' : gB z14290 0 47 := ⟨by omega, by omega⟩
            change G _ _ _ _ _ _ _ (.int 0 :: _) _ _ _
            refine G_ws (ws' := [(q13794, .inr (14, [.ref q13795, .int p13797, .int 0, .int o14286, .int p13800])), (q13795, .inr (15, [.ref q13796, .int p13801])), (q13796, .inl (I .byte, 8192, .inl f13802))]) (cs' := 0) (sl' := 0) rfl rfl rfl ?_
            refine G_if_ne 110 d_cX9_advance_90 (by decide +kernel) (fun hc => absurd hc (by decide)) (fun _ => ?_)
            refine G_iload_n 1 d_cX9_advance_93 rfl ?_
            refine G_bipush 45 d_cX9_advance_94 (by decide +kernel) ?_
            refine G_icmp_ne 128 d_cX9_advance_96 (by decide +kernel) (fun hc14323 => ?_) (fun hc14323 => ?_)
            · have r14324 : z14290.toInt ≠ 45 := gj_neq hc14323 (show Int32.toInt 45 = 45 by decide)
              refine G_iload_n 1 d_cX9_advance_128 rfl ?_
              refine G_bipush 118 d_cX9_advance_129 (by decide +kernel) ?_
              refine G_icmp_ne 151 d_cX9_advance_131 (by decide +kernel) (fun _ => ?_) (fun hc => absurd (show False by have := gj_eq hc (show Int32.toInt 118 = 118 by decide); omega) not_false)
              refine G_iload_n 1 d_cX9_advance_151 rfl ?_
              refine G_bipush 98 d_cX9_advance_152 (by decide +kernel) ?_
              refine G_icmp_ne 174 d_cX9_advance_154 (by decide +kernel) (fun _ => ?_) (fun hc => absurd (show False by have := gj_eq hc (show Int32.toInt 98 = 98 by decide); omega) not_false)
              refine G_iload_n 1 d_cX9_advance_174 rfl ?_
              refine G_callS (As := [.int z14290]) (wr := [(q13794, .inr (14, [.ref q13795, .int p13797, .int 0, .int o14286, .int p13800])), (q13795, .inr (15, [.ref q13796, .int p13801])), (q13796, .inl (I .byte, 8192, .inl f13802))]) (gV_ok D I) (ct_308_Signs_isLetter l hl0 D I z14290 ) d_cX9_advance_175 ⟨w_3_45, w_1_4, w_3_47, by decide, rfl, (Nat.le_of_ble_eq_true rfl), (Nat.le_of_ble_eq_true rfl)⟩ w_3_46 [] [0, 1, 2] rfl rfl rfl rfl (by decide) (Nat.le_of_ble_eq_true rfl) (Nat.le_of_ble_eq_true rfl) (Nat.le_of_ble_eq_true rfl) (fun r w hp => ?_) (fun _ _ _ z => z.elim)
              rcases hp with ⟨rfl, rfl, r14325⟩ | ⟨rfl, rfl, r14326, r14327⟩ | ⟨rfl, rfl, r14328, r14329⟩
              · change G _ _ _ _ _ _ _ (.int 0 :: _) _ _ _
                refine G_ws (ws' := [(q13794, .inr (14, [.ref q13795, .int p13797, .int 0, .int o14286, .int p13800])), (q13795, .inr (15, [.ref q13796, .int p13801])), (q13796, .inl (I .byte, 8192, .inl f13802))]) (cs' := 0) (sl' := 0) rfl rfl rfl ?_
                refine G_if_eq 188 d_cX9_advance_178 (by decide +kernel) (fun _ => ?_) (fun hc => absurd hc (by decide))
                refine G_aload_n 3 d_cX9_advance_188 rfl ?_
                refine G_iload_n 1 d_cX9_advance_189 rfl ?_
                refine G_iload_n 0 d_cX9_advance_190 rfl ?_
                refine G_callV (As := [.int z14290, .int (-1)]) (wr := []) (gV_ok D I) (ct_13760_Signs_takeMark l hl0 D I q13794 q13795 q13796 z14290 (-1) p13797 0 o14286 p13800 p13801 f13802 (gB_w bp13801' (by decide) (by decide)) bf13802 (by have qa0 : Int32.toInt (-1) = (-1) := (by decide); have qa1 : Int32.toInt 0 = 0 := (by decide); omega)) d_cX9_advance_191 ⟨w_3_109, w_1_4, w_3_112, by decide, rfl, (Nat.le_of_ble_eq_true rfl), (Nat.le_of_ble_eq_true rfl)⟩ w_3_111 w_p_6 0 rfl rfl [0, 1, 2] [] rfl rfl rfl rfl (by decide) (Nat.le_of_ble_eq_true rfl) (Nat.le_of_ble_eq_true rfl) (Nat.le_of_ble_eq_true rfl) (fun r w hp => ?_) (fun _ _ _ z => z.elim)
                obtain ⟨o14330, o14331, o14332, rfl, rfl, bo14330, bo14331, bo14332, x14333⟩ := hp
                change G _ _ _ _ _ _ _ _ _ _ _
                refine G_ws (ws' := [(q13794, .inr (14, [.ref q13795, .int o14330, .int o14331, .int o14286, .int o14332])), (q13795, .inr (15, [.ref q13796, .int p13801])), (q13796, .inl (I .byte, 8192, .inl f13802))]) (cs' := 0) (sl' := 0) rfl rfl rfl ?_
                exact G_vret d_cX9_advance_194 rfl (Nat.le_of_ble_eq_true rfl) (Nat.le_of_ble_eq_true rfl) ⟨o14330, o14331, o14286, o14332, rfl, rfl, (gB_w bo14330 (by decide) (by decide)), (gB_w bo14331 (by decide) (by decide)), (gB_w bo14286'' (by decide) (by decide)), bo14332, (by have qa0 : Int32.toInt (-1) = (-1) := (by decide); have qa1 : Int32.toInt 1 = 1 := (by decide); omega)⟩
              · exact absurd (show False by omega) not_false
              · exact absurd (show False by omega) not_false
            · have r14334 : z14290.toInt = 45 := gj_eq hc14323 (show Int32.toInt 45 = 45 by decide)
              have r14293'' : gB z14290 45 45 := ⟨by omega, by omega⟩
              refine G_iload_n 0 d_cX9_advance_99 rfl ?_
              refine G_callS (As := [.int (-1)]) (wr := [(q13794, .inr (14, [.ref q13795, .int p13797, .int 0, .int o14286, .int p13800])), (q13795, .inr (15, [.ref q13796, .int p13801])), (q13796, .inl (I .byte, 8192, .inl f13802))]) (gV_ok D I) (ct_300_Signs_isDigit l hl0 D I (-1) ) d_cX9_advance_100 ⟨w_3_24, w_1_4, w_3_26, by decide, rfl, (Nat.le_of_ble_eq_true rfl), (Nat.le_of_ble_eq_true rfl)⟩ w_3_25 [] [0, 1, 2] rfl rfl rfl rfl (by decide) (Nat.le_of_ble_eq_true rfl) (Nat.le_of_ble_eq_true rfl) (Nat.le_of_ble_eq_true rfl) (fun r w hp => ?_) (fun _ _ _ z => z.elim)
              rcases hp with ⟨rfl, rfl, r14335⟩ | ⟨rfl, rfl, r14336, r14337⟩ | ⟨rfl, rfl, r14338, r14339⟩
              · rw [show Int32.toInt (-1) = (-1) from by decide] at r14335
                change G _ _ _ _ _ _ _ (.int 0 :: _) _ _ _
                refine G_ws (ws' := [(q13794, .inr (14, [.ref q13795, .int p13797, .int 0, .int o14286, .int p13800])), (q13795, .inr (15, [.ref q13796, .int p13801])), (q13796, .inl (I .byte, 8192, .inl f13802))]) (cs' := 0) (sl' := 0) rfl rfl rfl ?_
                refine G_if_eq 128 d_cX9_advance_103 (by decide +kernel) (fun _ => ?_) (fun hc => absurd hc (by decide))
                refine G_iload_n 1 d_cX9_advance_128 rfl ?_
                refine G_bipush 118 d_cX9_advance_129 (by decide +kernel) ?_
                refine G_icmp_ne 151 d_cX9_advance_131 (by decide +kernel) (fun _ => ?_) (fun hc => absurd (show False by have := gj_eq hc (show Int32.toInt 118 = 118 by decide); omega) not_false)
                refine G_iload_n 1 d_cX9_advance_151 rfl ?_
                refine G_bipush 98 d_cX9_advance_152 (by decide +kernel) ?_
                refine G_icmp_ne 174 d_cX9_advance_154 (by decide +kernel) (fun _ => ?_) (fun hc => absurd (show False by have := gj_eq hc (show Int32.toInt 98 = 98 by decide); omega) not_false)
                refine G_iload_n 1 d_cX9_advance_174 rfl ?_
                refine G_callS (As := [.int z14290]) (wr := [(q13794, .inr (14, [.ref q13795, .int p13797, .int 0, .int o14286, .int p13800])), (q13795, .inr (15, [.ref q13796, .int p13801])), (q13796, .inl (I .byte, 8192, .inl f13802))]) (gV_ok D I) (ct_308_Signs_isLetter l hl0 D I z14290 ) d_cX9_advance_175 ⟨w_3_45, w_1_4, w_3_47, by decide, rfl, (Nat.le_of_ble_eq_true rfl), (Nat.le_of_ble_eq_true rfl)⟩ w_3_46 [] [0, 1, 2] rfl rfl rfl rfl (by decide) (Nat.le_of_ble_eq_true rfl) (Nat.le_of_ble_eq_true rfl) (Nat.le_of_ble_eq_true rfl) (fun r w hp => ?_) (fun _ _ _ z => z.elim)
                rcases hp with ⟨rfl, rfl, r14340⟩ | ⟨rfl, rfl, r14341, r14342⟩ | ⟨rfl, rfl, r14343, r14344⟩
                · change G _ _ _ _ _ _ _ (.int 0 :: _) _ _ _
                  refine G_ws (ws' := [(q13794, .inr (14, [.ref q13795, .int p13797, .int 0, .int o14286, .int p13800])), (q13795, .inr (15, [.ref q13796, .int p13801])), (q13796, .inl (I .byte, 8192, .inl f13802))]) (cs' := 0) (sl' := 0) rfl rfl rfl ?_
                  refine G_if_eq 188 d_cX9_advance_178 (by decide +kernel) (fun _ => ?_) (fun hc => absurd hc (by decide))
                  refine G_aload_n 3 d_cX9_advance_188 rfl ?_
                  refine G_iload_n 1 d_cX9_advance_189 rfl ?_
                  refine G_iload_n 0 d_cX9_advance_190 rfl ?_
                  refine G_callV (As := [.int z14290, .int (-1)]) (wr := []) (gV_ok D I) (ct_13760_Signs_takeMark l hl0 D I q13794 q13795 q13796 z14290 (-1) p13797 0 o14286 p13800 p13801 f13802 (gB_w bp13801' (by decide) (by decide)) bf13802 (by have qa0 : Int32.toInt (-1) = (-1) := (by decide); have qa1 : Int32.toInt 0 = 0 := (by decide); omega)) d_cX9_advance_191 ⟨w_3_109, w_1_4, w_3_112, by decide, rfl, (Nat.le_of_ble_eq_true rfl), (Nat.le_of_ble_eq_true rfl)⟩ w_3_111 w_p_6 0 rfl rfl [0, 1, 2] [] rfl rfl rfl rfl (by decide) (Nat.le_of_ble_eq_true rfl) (Nat.le_of_ble_eq_true rfl) (Nat.le_of_ble_eq_true rfl) (fun r w hp => ?_) (fun _ _ _ z => z.elim)
                  obtain ⟨o14345, o14346, o14347, rfl, rfl, bo14345, bo14346, bo14347, x14348⟩ := hp
                  change G _ _ _ _ _ _ _ _ _ _ _
                  refine G_ws (ws' := [(q13794, .inr (14, [.ref q13795, .int o14345, .int o14346, .int o14286, .int o14347])), (q13795, .inr (15, [.ref q13796, .int p13801])), (q13796, .inl (I .byte, 8192, .inl f13802))]) (cs' := 0) (sl' := 0) rfl rfl rfl ?_
                  exact G_vret d_cX9_advance_194 rfl (Nat.le_of_ble_eq_true rfl) (Nat.le_of_ble_eq_true rfl) ⟨o14345, o14346, o14286, o14347, rfl, rfl, (gB_w bo14345 (by decide) (by decide)), (gB_w bo14346 (by decide) (by decide)), (gB_w bo14286'' (by decide) (by decide)), bo14347, (by have qa0 : Int32.toInt (-1) = (-1) := (by decide); have qa1 : Int32.toInt 1 = 1 := (by decide); omega)⟩
                · exact absurd (show False by omega) not_false
                · exact absurd (show False by omega) not_false
              · rw [show Int32.toInt (-1) = (-1) from by decide] at r14336
                exact absurd (show False by omega) not_false
              · rw [show Int32.toInt (-1) = (-1) from by decide] at r14338
                exact absurd (show False by omega) not_false
          · have r14293' : gB z14290 48 255 := ⟨by omega, by omega⟩
            have r14293'' : gB z14290 58 255 := ⟨by omega, by omega⟩
            change G _ _ _ _ _ _ _ (.int 0 :: _) _ _ _
            refine G_ws (ws' := [(q13794, .inr (14, [.ref q13795, .int p13797, .int 0, .int o14286, .int p13800])), (q13795, .inr (15, [.ref q13796, .int p13801])), (q13796, .inl (I .byte, 8192, .inl f13802))]) (cs' := 0) (sl' := 0) rfl rfl rfl ?_
            refine G_if_ne 110 d_cX9_advance_90 (by decide +kernel) (fun hc => absurd hc (by decide)) (fun _ => ?_)
            refine G_iload_n 1 d_cX9_advance_93 rfl ?_
            refine G_bipush 45 d_cX9_advance_94 (by decide +kernel) ?_
            refine G_icmp_ne 128 d_cX9_advance_96 (by decide +kernel) (fun _ => ?_) (fun hc => absurd (show False by have := gj_eq hc (show Int32.toInt 45 = 45 by decide); omega) not_false)
            refine G_iload_n 1 d_cX9_advance_128 rfl ?_
            refine G_bipush 118 d_cX9_advance_129 (by decide +kernel) ?_
            refine G_icmp_ne 151 d_cX9_advance_131 (by decide +kernel) (fun hc14349 => ?_) (fun hc14349 => ?_)
            · have r14350 : z14290.toInt ≠ 118 := gj_neq hc14349 (show Int32.toInt 118 = 118 by decide)
              refine G_iload_n 1 d_cX9_advance_151 rfl ?_
              refine G_bipush 98 d_cX9_advance_152 (by decide +kernel) ?_
              refine G_icmp_ne 174 d_cX9_advance_154 (by decide +kernel) (fun hc14351 => ?_) (fun hc14351 => ?_)
              · have r14352 : z14290.toInt ≠ 98 := gj_neq hc14351 (show Int32.toInt 98 = 98 by decide)
                refine G_iload_n 1 d_cX9_advance_174 rfl ?_
                refine G_callS (As := [.int z14290]) (wr := [(q13794, .inr (14, [.ref q13795, .int p13797, .int 0, .int o14286, .int p13800])), (q13795, .inr (15, [.ref q13796, .int p13801])), (q13796, .inl (I .byte, 8192, .inl f13802))]) (gV_ok D I) (ct_308_Signs_isLetter l hl0 D I z14290 ) d_cX9_advance_175 ⟨w_3_45, w_1_4, w_3_47, by decide, rfl, (Nat.le_of_ble_eq_true rfl), (Nat.le_of_ble_eq_true rfl)⟩ w_3_46 [] [0, 1, 2] rfl rfl rfl rfl (by decide) (Nat.le_of_ble_eq_true rfl) (Nat.le_of_ble_eq_true rfl) (Nat.le_of_ble_eq_true rfl) (fun r w hp => ?_) (fun _ _ _ z => z.elim)
                rcases hp with ⟨rfl, rfl, r14353⟩ | ⟨rfl, rfl, r14354, r14355⟩ | ⟨rfl, rfl, r14356, r14357⟩
                · have r14293''' : gB z14290 58 96 := ⟨by omega, by omega⟩
                  change G _ _ _ _ _ _ _ (.int 0 :: _) _ _ _
                  refine G_ws (ws' := [(q13794, .inr (14, [.ref q13795, .int p13797, .int 0, .int o14286, .int p13800])), (q13795, .inr (15, [.ref q13796, .int p13801])), (q13796, .inl (I .byte, 8192, .inl f13802))]) (cs' := 0) (sl' := 0) rfl rfl rfl ?_
                  refine G_if_eq 188 d_cX9_advance_178 (by decide +kernel) (fun _ => ?_) (fun hc => absurd hc (by decide))
                  refine G_aload_n 3 d_cX9_advance_188 rfl ?_
                  refine G_iload_n 1 d_cX9_advance_189 rfl ?_
                  refine G_iload_n 0 d_cX9_advance_190 rfl ?_
                  refine G_callV (As := [.int z14290, .int (-1)]) (wr := []) (gV_ok D I) (ct_13760_Signs_takeMark l hl0 D I q13794 q13795 q13796 z14290 (-1) p13797 0 o14286 p13800 p13801 f13802 (gB_w bp13801' (by decide) (by decide)) bf13802 (by have qa0 : Int32.toInt (-1) = (-1) := (by decide); have qa1 : Int32.toInt 0 = 0 := (by decide); omega)) d_cX9_advance_191 ⟨w_3_109, w_1_4, w_3_112, by decide, rfl, (Nat.le_of_ble_eq_true rfl), (Nat.le_of_ble_eq_true rfl)⟩ w_3_111 w_p_6 0 rfl rfl [0, 1, 2] [] rfl rfl rfl rfl (by decide) (Nat.le_of_ble_eq_true rfl) (Nat.le_of_ble_eq_true rfl) (Nat.le_of_ble_eq_true rfl) (fun r w hp => ?_) (fun _ _ _ z => z.elim)
                  obtain ⟨o14358, o14359, o14360, rfl, rfl, bo14358, bo14359, bo14360, x14361⟩ := hp
                  change G _ _ _ _ _ _ _ _ _ _ _
                  refine G_ws (ws' := [(q13794, .inr (14, [.ref q13795, .int o14358, .int o14359, .int o14286, .int o14360])), (q13795, .inr (15, [.ref q13796, .int p13801])), (q13796, .inl (I .byte, 8192, .inl f13802))]) (cs' := 0) (sl' := 0) rfl rfl rfl ?_
                  exact G_vret d_cX9_advance_194 rfl (Nat.le_of_ble_eq_true rfl) (Nat.le_of_ble_eq_true rfl) ⟨o14358, o14359, o14286, o14360, rfl, rfl, (gB_w bo14358 (by decide) (by decide)), (gB_w bo14359 (by decide) (by decide)), (gB_w bo14286'' (by decide) (by decide)), bo14360, (by have qa0 : Int32.toInt (-1) = (-1) := (by decide); have qa1 : Int32.toInt 1 = 1 := (by decide); omega)⟩
                · have r14293''' : gB z14290 97 255 := ⟨by omega, by omega⟩
                  have r14293'''' : gB z14290 123 255 := ⟨by omega, by omega⟩
                  change G _ _ _ _ _ _ _ (.int 0 :: _) _ _ _
                  refine G_ws (ws' := [(q13794, .inr (14, [.ref q13795, .int p13797, .int 0, .int o14286, .int p13800])), (q13795, .inr (15, [.ref q13796, .int p13801])), (q13796, .inl (I .byte, 8192, .inl f13802))]) (cs' := 0) (sl' := 0) rfl rfl rfl ?_
                  refine G_if_eq 188 d_cX9_advance_178 (by decide +kernel) (fun _ => ?_) (fun hc => absurd hc (by decide))
                  refine G_aload_n 3 d_cX9_advance_188 rfl ?_
                  refine G_iload_n 1 d_cX9_advance_189 rfl ?_
                  refine G_iload_n 0 d_cX9_advance_190 rfl ?_
                  refine G_callV (As := [.int z14290, .int (-1)]) (wr := []) (gV_ok D I) (ct_13760_Signs_takeMark l hl0 D I q13794 q13795 q13796 z14290 (-1) p13797 0 o14286 p13800 p13801 f13802 (gB_w bp13801' (by decide) (by decide)) bf13802 (by have qa0 : Int32.toInt (-1) = (-1) := (by decide); have qa1 : Int32.toInt 0 = 0 := (by decide); omega)) d_cX9_advance_191 ⟨w_3_109, w_1_4, w_3_112, by decide, rfl, (Nat.le_of_ble_eq_true rfl), (Nat.le_of_ble_eq_true rfl)⟩ w_3_111 w_p_6 0 rfl rfl [0, 1, 2] [] rfl rfl rfl rfl (by decide) (Nat.le_of_ble_eq_true rfl) (Nat.le_of_ble_eq_true rfl) (Nat.le_of_ble_eq_true rfl) (fun r w hp => ?_) (fun _ _ _ z => z.elim)
                  obtain ⟨o14362, o14363, o14364, rfl, rfl, bo14362, bo14363, bo14364, x14365⟩ := hp
                  change G _ _ _ _ _ _ _ _ _ _ _
                  refine G_ws (ws' := [(q13794, .inr (14, [.ref q13795, .int o14362, .int o14363, .int o14286, .int o14364])), (q13795, .inr (15, [.ref q13796, .int p13801])), (q13796, .inl (I .byte, 8192, .inl f13802))]) (cs' := 0) (sl' := 0) rfl rfl rfl ?_
                  exact G_vret d_cX9_advance_194 rfl (Nat.le_of_ble_eq_true rfl) (Nat.le_of_ble_eq_true rfl) ⟨o14362, o14363, o14286, o14364, rfl, rfl, (gB_w bo14362 (by decide) (by decide)), (gB_w bo14363 (by decide) (by decide)), (gB_w bo14286'' (by decide) (by decide)), bo14364, (by have qa0 : Int32.toInt (-1) = (-1) := (by decide); have qa1 : Int32.toInt 1 = 1 := (by decide); omega)⟩
                · have r14293''' : gB z14290 97 255 := ⟨by omega, by omega⟩
                  have r14293'''' : gB z14290 97 122 := ⟨by omega, by omega⟩
                  change G _ _ _ _ _ _ _ (.int 1 :: _) _ _ _
                  refine G_ws (ws' := [(q13794, .inr (14, [.ref q13795, .int p13797, .int 0, .int o14286, .int p13800])), (q13795, .inr (15, [.ref q13796, .int p13801])), (q13796, .inl (I .byte, 8192, .inl f13802))]) (cs' := 0) (sl' := 0) rfl rfl rfl ?_
                  refine G_if_eq 188 d_cX9_advance_178 (by decide +kernel) (fun hc => absurd hc (by decide)) (fun _ => ?_)
                  refine G_aload_n 3 d_cX9_advance_181 rfl ?_
                  refine G_callV (As := []) (wr := []) (gV_ok D I) (ct_12941_Signs_takeWord l hl0 D I q13794 q13795 q13796 p13797 0 o14286 p13800 p13801 f13802 (gB_w bp13801' (by decide) (by decide)) bf13802 (by have qa0 : Int32.toInt 0 = 0 := (by decide); omega)) d_cX9_advance_182 ⟨w_3_48, w_1_4, w_3_51, by decide, rfl, (Nat.le_of_ble_eq_true rfl), (Nat.le_of_ble_eq_true rfl)⟩ w_3_50 w_p_4 0 rfl rfl [0, 1, 2] [] rfl rfl rfl rfl (by decide) (Nat.le_of_ble_eq_true rfl) (Nat.le_of_ble_eq_true rfl) (Nat.le_of_ble_eq_true rfl) (fun r w hp => ?_) (fun _ _ _ z => z.elim)
                  obtain ⟨o14366, o14367, rfl, rfl, bo14366, bo14367, x14368⟩ := hp
                  rw [show Int32.toInt 0 = 0 from by decide] at x14368
                  change G _ _ _ _ _ _ _ _ _ _ _
                  refine G_ws (ws' := [(q13794, .inr (14, [.ref q13795, .int o14366, .int 0, .int o14286, .int o14367])), (q13795, .inr (15, [.ref q13796, .int p13801])), (q13796, .inl (I .byte, 8192, .inl f13802))]) (cs' := 0) (sl' := 0) rfl rfl rfl ?_
                  refine G_goto 194 d_cX9_advance_185 (by decide +kernel) ?_
                  exact G_vret d_cX9_advance_194 rfl (Nat.le_of_ble_eq_true rfl) (Nat.le_of_ble_eq_true rfl) ⟨o14366, 0, o14286, o14367, rfl, rfl, bo14366, (gB_w (gBl (show Int32.toInt 0 = 0 by decide)) (by decide) (by decide)), (gB_w bo14286'' (by decide) (by decide)), bo14367, (by have qa0 : Int32.toInt (-1) = (-1) := (by decide); have qa1 : Int32.toInt 0 = 0 := (by decide); have qa2 : Int32.toInt 1 = 1 := (by decide); omega)⟩
              · have r14369 : z14290.toInt = 98 := gj_eq hc14351 (show Int32.toInt 98 = 98 by decide)
                have r14293''' : gB z14290 98 98 := ⟨by omega, by omega⟩
                refine G_iload_n 0 d_cX9_advance_157 rfl ?_
                refine G_callS (As := [.int (-1)]) (wr := [(q13794, .inr (14, [.ref q13795, .int p13797, .int 0, .int o14286, .int p13800])), (q13795, .inr (15, [.ref q13796, .int p13801])), (q13796, .inl (I .byte, 8192, .inl f13802))]) (gV_ok D I) (ct_300_Signs_isDigit l hl0 D I (-1) ) d_cX9_advance_158 ⟨w_3_24, w_1_4, w_3_26, by decide, rfl, (Nat.le_of_ble_eq_true rfl), (Nat.le_of_ble_eq_true rfl)⟩ w_3_25 [] [0, 1, 2] rfl rfl rfl rfl (by decide) (Nat.le_of_ble_eq_true rfl) (Nat.le_of_ble_eq_true rfl) (Nat.le_of_ble_eq_true rfl) (fun r w hp => ?_) (fun _ _ _ z => z.elim)
                rcases hp with ⟨rfl, rfl, r14370⟩ | ⟨rfl, rfl, r14371, r14372⟩ | ⟨rfl, rfl, r14373, r14374⟩
                · rw [show Int32.toInt (-1) = (-1) from by decide] at r14370
                  change G _ _ _ _ _ _ _ (.int 0 :: _) _ _ _
                  refine G_ws (ws' := [(q13794, .inr (14, [.ref q13795, .int p13797, .int 0, .int o14286, .int p13800])), (q13795, .inr (15, [.ref q13796, .int p13801])), (q13796, .inl (I .byte, 8192, .inl f13802))]) (cs' := 0) (sl' := 0) rfl rfl rfl ?_
                  refine G_if_eq 174 d_cX9_advance_161 (by decide +kernel) (fun _ => ?_) (fun hc => absurd hc (by decide))
                  refine G_iload_n 1 d_cX9_advance_174 rfl ?_
                  refine G_callS (As := [.int z14290]) (wr := [(q13794, .inr (14, [.ref q13795, .int p13797, .int 0, .int o14286, .int p13800])), (q13795, .inr (15, [.ref q13796, .int p13801])), (q13796, .inl (I .byte, 8192, .inl f13802))]) (gV_ok D I) (ct_308_Signs_isLetter l hl0 D I z14290 ) d_cX9_advance_175 ⟨w_3_45, w_1_4, w_3_47, by decide, rfl, (Nat.le_of_ble_eq_true rfl), (Nat.le_of_ble_eq_true rfl)⟩ w_3_46 [] [0, 1, 2] rfl rfl rfl rfl (by decide) (Nat.le_of_ble_eq_true rfl) (Nat.le_of_ble_eq_true rfl) (Nat.le_of_ble_eq_true rfl) (fun r w hp => ?_) (fun _ _ _ z => z.elim)
                  rcases hp with ⟨rfl, rfl, r14375⟩ | ⟨rfl, rfl, r14376, r14377⟩ | ⟨rfl, rfl, r14378, r14379⟩
                  · exact absurd (show False by omega) not_false
                  · exact absurd (show False by omega) not_false
                  · change G _ _ _ _ _ _ _ (.int 1 :: _) _ _ _
                    refine G_ws (ws' := [(q13794, .inr (14, [.ref q13795, .int p13797, .int 0, .int o14286, .int p13800])), (q13795, .inr (15, [.ref q13796, .int p13801])), (q13796, .inl (I .byte, 8192, .inl f13802))]) (cs' := 0) (sl' := 0) rfl rfl rfl ?_
                    refine G_if_eq 188 d_cX9_advance_178 (by decide +kernel) (fun hc => absurd hc (by decide)) (fun _ => ?_)
                    refine G_aload_n 3 d_cX9_advance_181 rfl ?_
                    refine G_callV (As := []) (wr := []) (gV_ok D I) (ct_12941_Signs_takeWord l hl0 D I q13794 q13795 q13796 p13797 0 o14286 p13800 p13801 f13802 (gB_w bp13801' (by decide) (by decide)) bf13802 (by have qa0 : Int32.toInt 0 = 0 := (by decide); omega)) d_cX9_advance_182 ⟨w_3_48, w_1_4, w_3_51, by decide, rfl, (Nat.le_of_ble_eq_true rfl), (Nat.le_of_ble_eq_true rfl)⟩ w_3_50 w_p_4 0 rfl rfl [0, 1, 2] [] rfl rfl rfl rfl (by decide) (Nat.le_of_ble_eq_true rfl) (Nat.le_of_ble_eq_true rfl) (Nat.le_of_ble_eq_true rfl) (fun r w hp => ?_) (fun _ _ _ z => z.elim)
                    obtain ⟨o14380, o14381, rfl, rfl, bo14380, bo14381, x14382⟩ := hp
                    rw [show Int32.toInt 0 = 0 from by decide] at x14382
                    change G _ _ _ _ _ _ _ _ _ _ _
                    refine G_ws (ws' := [(q13794, .inr (14, [.ref q13795, .int o14380, .int 0, .int o14286, .int o14381])), (q13795, .inr (15, [.ref q13796, .int p13801])), (q13796, .inl (I .byte, 8192, .inl f13802))]) (cs' := 0) (sl' := 0) rfl rfl rfl ?_
                    refine G_goto 194 d_cX9_advance_185 (by decide +kernel) ?_
                    exact G_vret d_cX9_advance_194 rfl (Nat.le_of_ble_eq_true rfl) (Nat.le_of_ble_eq_true rfl) ⟨o14380, 0, o14286, o14381, rfl, rfl, bo14380, (gB_w (gBl (show Int32.toInt 0 = 0 by decide)) (by decide) (by decide)), (gB_w bo14286'' (by decide) (by decide)), bo14381, (by have qa0 : Int32.toInt (-1) = (-1) := (by decide); have qa1 : Int32.toInt 0 = 0 := (by decide); have qa2 : Int32.toInt 1 = 1 := (by decide); omega)⟩
                · rw [show Int32.toInt (-1) = (-1) from by decide] at r14371
                  exact absurd (show False by omega) not_false
                · rw [show Int32.toInt (-1) = (-1) from by decide] at r14373
                  exact absurd (show False by omega) not_false
            · have r14383 : z14290.toInt = 118 := gj_eq hc14349 (show Int32.toInt 118 = 118 by decide)
              have r14293''' : gB z14290 118 118 := ⟨by omega, by omega⟩
              refine G_iload_n 0 d_cX9_advance_134 rfl ?_
              refine G_callS (As := [.int (-1)]) (wr := [(q13794, .inr (14, [.ref q13795, .int p13797, .int 0, .int o14286, .int p13800])), (q13795, .inr (15, [.ref q13796, .int p13801])), (q13796, .inl (I .byte, 8192, .inl f13802))]) (gV_ok D I) (ct_300_Signs_isDigit l hl0 D I (-1) ) d_cX9_advance_135 ⟨w_3_24, w_1_4, w_3_26, by decide, rfl, (Nat.le_of_ble_eq_true rfl), (Nat.le_of_ble_eq_true rfl)⟩ w_3_25 [] [0, 1, 2] rfl rfl rfl rfl (by decide) (Nat.le_of_ble_eq_true rfl) (Nat.le_of_ble_eq_true rfl) (Nat.le_of_ble_eq_true rfl) (fun r w hp => ?_) (fun _ _ _ z => z.elim)
              rcases hp with ⟨rfl, rfl, r14384⟩ | ⟨rfl, rfl, r14385, r14386⟩ | ⟨rfl, rfl, r14387, r14388⟩
              · rw [show Int32.toInt (-1) = (-1) from by decide] at r14384
                change G _ _ _ _ _ _ _ (.int 0 :: _) _ _ _
                refine G_ws (ws' := [(q13794, .inr (14, [.ref q13795, .int p13797, .int 0, .int o14286, .int p13800])), (q13795, .inr (15, [.ref q13796, .int p13801])), (q13796, .inl (I .byte, 8192, .inl f13802))]) (cs' := 0) (sl' := 0) rfl rfl rfl ?_
                refine G_if_eq 151 d_cX9_advance_138 (by decide +kernel) (fun _ => ?_) (fun hc => absurd hc (by decide))
                refine G_iload_n 1 d_cX9_advance_151 rfl ?_
                refine G_bipush 98 d_cX9_advance_152 (by decide +kernel) ?_
                refine G_icmp_ne 174 d_cX9_advance_154 (by decide +kernel) (fun _ => ?_) (fun hc => absurd (show False by have := gj_eq hc (show Int32.toInt 98 = 98 by decide); omega) not_false)
                refine G_iload_n 1 d_cX9_advance_174 rfl ?_
                refine G_callS (As := [.int z14290]) (wr := [(q13794, .inr (14, [.ref q13795, .int p13797, .int 0, .int o14286, .int p13800])), (q13795, .inr (15, [.ref q13796, .int p13801])), (q13796, .inl (I .byte, 8192, .inl f13802))]) (gV_ok D I) (ct_308_Signs_isLetter l hl0 D I z14290 ) d_cX9_advance_175 ⟨w_3_45, w_1_4, w_3_47, by decide, rfl, (Nat.le_of_ble_eq_true rfl), (Nat.le_of_ble_eq_true rfl)⟩ w_3_46 [] [0, 1, 2] rfl rfl rfl rfl (by decide) (Nat.le_of_ble_eq_true rfl) (Nat.le_of_ble_eq_true rfl) (Nat.le_of_ble_eq_true rfl) (fun r w hp => ?_) (fun _ _ _ z => z.elim)
                rcases hp with ⟨rfl, rfl, r14389⟩ | ⟨rfl, rfl, r14390, r14391⟩ | ⟨rfl, rfl, r14392, r14393⟩
                · exact absurd (show False by omega) not_false
                · exact absurd (show False by omega) not_false
                · change G _ _ _ _ _ _ _ (.int 1 :: _) _ _ _
                  refine G_ws (ws' := [(q13794, .inr (14, [.ref q13795, .int p13797, .int 0, .int o14286, .int p13800])), (q13795, .inr (15, [.ref q13796, .int p13801])), (q13796, .inl (I .byte, 8192, .inl f13802))]) (cs' := 0) (sl' := 0) rfl rfl rfl ?_
                  refine G_if_eq 188 d_cX9_advance_178 (by decide +kernel) (fun hc => absurd hc (by decide)) (fun _ => ?_)
                  refine G_aload_n 3 d_cX9_advance_181 rfl ?_
                  refine G_callV (As := []) (wr := []) (gV_ok D I) (ct_12941_Signs_takeWord l hl0 D I q13794 q13795 q13796 p13797 0 o14286 p13800 p13801 f13802 (gB_w bp13801' (by decide) (by decide)) bf13802 (by have qa0 : Int32.toInt 0 = 0 := (by decide); omega)) d_cX9_advance_182 ⟨w_3_48, w_1_4, w_3_51, by decide, rfl, (Nat.le_of_ble_eq_true rfl), (Nat.le_of_ble_eq_true rfl)⟩ w_3_50 w_p_4 0 rfl rfl [0, 1, 2] [] rfl rfl rfl rfl (by decide) (Nat.le_of_ble_eq_true rfl) (Nat.le_of_ble_eq_true rfl) (Nat.le_of_ble_eq_true rfl) (fun r w hp => ?_) (fun _ _ _ z => z.elim)
                  obtain ⟨o14394, o14395, rfl, rfl, bo14394, bo14395, x14396⟩ := hp
                  rw [show Int32.toInt 0 = 0 from by decide] at x14396
                  change G _ _ _ _ _ _ _ _ _ _ _
                  refine G_ws (ws' := [(q13794, .inr (14, [.ref q13795, .int o14394, .int 0, .int o14286, .int o14395])), (q13795, .inr (15, [.ref q13796, .int p13801])), (q13796, .inl (I .byte, 8192, .inl f13802))]) (cs' := 0) (sl' := 0) rfl rfl rfl ?_
                  refine G_goto 194 d_cX9_advance_185 (by decide +kernel) ?_
                  exact G_vret d_cX9_advance_194 rfl (Nat.le_of_ble_eq_true rfl) (Nat.le_of_ble_eq_true rfl) ⟨o14394, 0, o14286, o14395, rfl, rfl, bo14394, (gB_w (gBl (show Int32.toInt 0 = 0 by decide)) (by decide) (by decide)), (gB_w bo14286'' (by decide) (by decide)), bo14395, (by have qa0 : Int32.toInt (-1) = (-1) := (by decide); have qa1 : Int32.toInt 0 = 0 := (by decide); have qa2 : Int32.toInt 1 = 1 := (by decide); omega)⟩
              · rw [show Int32.toInt (-1) = (-1) from by decide] at r14385
                exact absurd (show False by omega) not_false
              · rw [show Int32.toInt (-1) = (-1) from by decide] at r14387
                exact absurd (show False by omega) not_false
          · have r14293' : gB z14290 48 255 := ⟨by omega, by omega⟩
            have r14293'' : gB z14290 48 57 := ⟨by omega, by omega⟩
            change G _ _ _ _ _ _ _ (.int 1 :: _) _ _ _
            refine G_ws (ws' := [(q13794, .inr (14, [.ref q13795, .int p13797, .int 0, .int o14286, .int p13800])), (q13795, .inr (15, [.ref q13796, .int p13801])), (q13796, .inl (I .byte, 8192, .inl f13802))]) (cs' := 0) (sl' := 0) rfl rfl rfl ?_
            refine G_if_ne 110 d_cX9_advance_90 (by decide +kernel) (fun _ => ?_) (fun hc => absurd hc (by decide))
            refine G_aload_n 3 d_cX9_advance_110 rfl ?_
            refine G_iload_n 1 d_cX9_advance_111 rfl ?_
            refine G_bipush 45 d_cX9_advance_112 (by decide +kernel) ?_
            refine G_icmp_ne 121 d_cX9_advance_114 (by decide +kernel) (fun _ => ?_) (fun hc => absurd (show False by have := gj_eq hc (show Int32.toInt 45 = 45 by decide); omega) not_false)
            refine G_iconst 0 d_cX9_advance_121 (by decide +kernel) ?_
            refine G_callV (As := [.int 0]) (wr := []) (gV_ok D I) (ct_624_Signs_takeNumber l hl0 D I q13794 q13795 q13796 0 p13797 0 o14286 p13800 p13801 f13802 (gB_w (gBl (show Int32.toInt 0 = 0 by decide)) (by decide) (by decide)) (gB_w bp13801' (by decide) (by decide)) bf13802 (by have qa0 : Int32.toInt 0 = 0 := (by decide); omega)) d_cX9_advance_122 ⟨w_3_27, w_1_4, w_3_30, by decide, rfl, (Nat.le_of_ble_eq_true rfl), (Nat.le_of_ble_eq_true rfl)⟩ w_3_29 w_p_1 0 rfl rfl [0, 1, 2] [] rfl rfl rfl rfl (by decide) (Nat.le_of_ble_eq_true rfl) (Nat.le_of_ble_eq_true rfl) (Nat.le_of_ble_eq_true rfl) (fun r w hp => ?_) (fun _ _ _ z => z.elim)
            obtain ⟨o14397, o14398, o14399, rfl, rfl, bo14397, bo14398, bo14399, x14400⟩ := hp
            change G _ _ _ _ _ _ _ _ _ _ _
            refine G_ws (ws' := [(q13794, .inr (14, [.ref q13795, .int o14397, .int o14398, .int o14286, .int o14399])), (q13795, .inr (15, [.ref q13796, .int p13801])), (q13796, .inl (I .byte, 8192, .inl f13802))]) (cs' := 0) (sl' := 0) rfl rfl rfl ?_
            refine G_goto 194 d_cX9_advance_125 (by decide +kernel) ?_
            exact G_vret d_cX9_advance_194 rfl (Nat.le_of_ble_eq_true rfl) (Nat.le_of_ble_eq_true rfl) ⟨o14397, o14398, o14286, o14399, rfl, rfl, (gB_w bo14397 (by decide) (by decide)), bo14398, (gB_w bo14286'' (by decide) (by decide)), bo14399, (by have qa0 : Int32.toInt (-1) = (-1) := (by decide); have qa1 : Int32.toInt 1 = 1 := (by decide); omega)⟩
        · have bz14310' : gB z14310 1 8191 := ⟨by omega, by omega⟩
          have bp13801'' : gB p13801 2 8192 := ⟨by omega, by omega⟩
          change G _ _ _ _ _ _ _ (.int z14314 :: _) _ _ _
          refine G_ws (ws' := [(q13794, .inr (14, [.ref q13795, .int p13797, .int p13798, .int o14286, .int p13800])), (q13795, .inr (15, [.ref q13796, .int p13801])), (q13796, .inl (I .byte, 8192, .inl f13802))]) (cs' := 0) (sl' := 0) rfl rfl rfl ?_
          refine G_istore_n (L' := [(3, .int z14314), (2, .int z14290), (1, .int 1), (0, .ref q13794)]) d_cX9_advance_59 (Nat.le_of_ble_eq_true rfl) rfl ?_
          refine G_aload_n 3 d_cX9_advance_60 rfl ?_
          refine G_iconst 0 d_cX9_advance_61 (by decide +kernel) ?_
          refine G_putf (ws' := [(q13794, .inr (14, [.ref q13795, .int p13797, .int 0, .int o14286, .int p13800])), (q13795, .inr (15, [.ref q13796, .int p13801])), (q13796, .inl (I .byte, 8192, .inl f13802))]) 0 2 d_cX9_advance_62 rfl (gk_X9 D I) (Nat.le_of_ble_eq_true rfl) w_1_81 rfl rfl rfl (Nat.le_of_ble_eq_true rfl) rfl ?_
          refine G_iload_n 1 d_cX9_advance_65 rfl ?_
          refine G_iconst (-1) d_cX9_advance_66 (by decide +kernel) ?_
          refine G_icmp_ne 86 d_cX9_advance_67 (by decide +kernel) (fun _ => ?_) (fun hc => absurd (show False by have := gj_eq hc (show Int32.toInt (-1) = (-1) by decide); omega) not_false)
          refine G_iload_n 1 d_cX9_advance_86 rfl ?_
          refine G_callS (As := [.int z14290]) (wr := [(q13794, .inr (14, [.ref q13795, .int p13797, .int 0, .int o14286, .int p13800])), (q13795, .inr (15, [.ref q13796, .int p13801])), (q13796, .inl (I .byte, 8192, .inl f13802))]) (gV_ok D I) (ct_300_Signs_isDigit l hl0 D I z14290 ) d_cX9_advance_87 ⟨w_3_24, w_1_4, w_3_26, by decide, rfl, (Nat.le_of_ble_eq_true rfl), (Nat.le_of_ble_eq_true rfl)⟩ w_3_25 [] [0, 1, 2] rfl rfl rfl rfl (by decide) (Nat.le_of_ble_eq_true rfl) (Nat.le_of_ble_eq_true rfl) (Nat.le_of_ble_eq_true rfl) (fun r w hp => ?_) (fun _ _ _ z => z.elim)
          rcases hp with ⟨rfl, rfl, r14401⟩ | ⟨rfl, rfl, r14402, r14403⟩ | ⟨rfl, rfl, r14404, r14405⟩
          · have r14293' : gB z14290 0 47 := ⟨by omega, by omega⟩
            change G _ _ _ _ _ _ _ (.int 0 :: _) _ _ _
            refine G_ws (ws' := [(q13794, .inr (14, [.ref q13795, .int p13797, .int 0, .int o14286, .int p13800])), (q13795, .inr (15, [.ref q13796, .int p13801])), (q13796, .inl (I .byte, 8192, .inl f13802))]) (cs' := 0) (sl' := 0) rfl rfl rfl ?_
            refine G_if_ne 110 d_cX9_advance_90 (by decide +kernel) (fun hc => absurd hc (by decide)) (fun _ => ?_)
            refine G_iload_n 1 d_cX9_advance_93 rfl ?_
            refine G_bipush 45 d_cX9_advance_94 (by decide +kernel) ?_
            refine G_icmp_ne 128 d_cX9_advance_96 (by decide +kernel) (fun hc14406 => ?_) (fun hc14406 => ?_)
            · have r14407 : z14290.toInt ≠ 45 := gj_neq hc14406 (show Int32.toInt 45 = 45 by decide)
              refine G_iload_n 1 d_cX9_advance_128 rfl ?_
              refine G_bipush 118 d_cX9_advance_129 (by decide +kernel) ?_
              refine G_icmp_ne 151 d_cX9_advance_131 (by decide +kernel) (fun _ => ?_) (fun hc => absurd (show False by have := gj_eq hc (show Int32.toInt 118 = 118 by decide); omega) not_false)
              refine G_iload_n 1 d_cX9_advance_151 rfl ?_
              refine G_bipush 98 d_cX9_advance_152 (by decide +kernel) ?_
              refine G_icmp_ne 174 d_cX9_advance_154 (by decide +kernel) (fun _ => ?_) (fun hc => absurd (show False by have := gj_eq hc (show Int32.toInt 98 = 98 by decide); omega) not_false)
              refine G_iload_n 1 d_cX9_advance_174 rfl ?_
              refine G_callS (As := [.int z14290]) (wr := [(q13794, .inr (14, [.ref q13795, .int p13797, .int 0, .int o14286, .int p13800])), (q13795, .inr (15, [.ref q13796, .int p13801])), (q13796, .inl (I .byte, 8192, .inl f13802))]) (gV_ok D I) (ct_308_Signs_isLetter l hl0 D I z14290 ) d_cX9_advance_175 ⟨w_3_45, w_1_4, w_3_47, by decide, rfl, (Nat.le_of_ble_eq_true rfl), (Nat.le_of_ble_eq_true rfl)⟩ w_3_46 [] [0, 1, 2] rfl rfl rfl rfl (by decide) (Nat.le_of_ble_eq_true rfl) (Nat.le_of_ble_eq_true rfl) (Nat.le_of_ble_eq_true rfl) (fun r w hp => ?_) (fun _ _ _ z => z.elim)
              rcases hp with ⟨rfl, rfl, r14408⟩ | ⟨rfl, rfl, r14409, r14410⟩ | ⟨rfl, rfl, r14411, r14412⟩
              · change G _ _ _ _ _ _ _ (.int 0 :: _) _ _ _
                refine G_ws (ws' := [(q13794, .inr (14, [.ref q13795, .int p13797, .int 0, .int o14286, .int p13800])), (q13795, .inr (15, [.ref q13796, .int p13801])), (q13796, .inl (I .byte, 8192, .inl f13802))]) (cs' := 0) (sl' := 0) rfl rfl rfl ?_
                refine G_if_eq 188 d_cX9_advance_178 (by decide +kernel) (fun _ => ?_) (fun hc => absurd hc (by decide))
                refine G_aload_n 3 d_cX9_advance_188 rfl ?_
                refine G_iload_n 1 d_cX9_advance_189 rfl ?_
                refine G_iload_n 0 d_cX9_advance_190 rfl ?_
                refine G_callV (As := [.int z14290, .int z14314]) (wr := []) (gV_ok D I) (ct_13760_Signs_takeMark l hl0 D I q13794 q13795 q13796 z14290 z14314 p13797 0 o14286 p13800 p13801 f13802 (gB_w bp13801'' (by decide) (by decide)) bf13802 (by have qa0 : Int32.toInt 0 = 0 := (by decide); omega)) d_cX9_advance_191 ⟨w_3_109, w_1_4, w_3_112, by decide, rfl, (Nat.le_of_ble_eq_true rfl), (Nat.le_of_ble_eq_true rfl)⟩ w_3_111 w_p_6 0 rfl rfl [0, 1, 2] [] rfl rfl rfl rfl (by decide) (Nat.le_of_ble_eq_true rfl) (Nat.le_of_ble_eq_true rfl) (Nat.le_of_ble_eq_true rfl) (fun r w hp => ?_) (fun _ _ _ z => z.elim)
                obtain ⟨o14413, o14414, o14415, rfl, rfl, bo14413, bo14414, bo14415, x14416⟩ := hp
                change G _ _ _ _ _ _ _ _ _ _ _
                refine G_ws (ws' := [(q13794, .inr (14, [.ref q13795, .int o14413, .int o14414, .int o14286, .int o14415])), (q13795, .inr (15, [.ref q13796, .int p13801])), (q13796, .inl (I .byte, 8192, .inl f13802))]) (cs' := 0) (sl' := 0) rfl rfl rfl ?_
                exact G_vret d_cX9_advance_194 rfl (Nat.le_of_ble_eq_true rfl) (Nat.le_of_ble_eq_true rfl) ⟨o14413, o14414, o14286, o14415, rfl, rfl, (gB_w bo14413 (by decide) (by decide)), (gB_w bo14414 (by decide) (by decide)), (gB_w bo14286'' (by decide) (by decide)), bo14415, (by have qa0 : Int32.toInt 1 = 1 := (by decide); omega)⟩
              · exact absurd (show False by omega) not_false
              · exact absurd (show False by omega) not_false
            · have r14417 : z14290.toInt = 45 := gj_eq hc14406 (show Int32.toInt 45 = 45 by decide)
              have r14293'' : gB z14290 45 45 := ⟨by omega, by omega⟩
              refine G_iload_n 0 d_cX9_advance_99 rfl ?_
              refine G_callS (As := [.int z14314]) (wr := [(q13794, .inr (14, [.ref q13795, .int p13797, .int 0, .int o14286, .int p13800])), (q13795, .inr (15, [.ref q13796, .int p13801])), (q13796, .inl (I .byte, 8192, .inl f13802))]) (gV_ok D I) (ct_300_Signs_isDigit l hl0 D I z14314 ) d_cX9_advance_100 ⟨w_3_24, w_1_4, w_3_26, by decide, rfl, (Nat.le_of_ble_eq_true rfl), (Nat.le_of_ble_eq_true rfl)⟩ w_3_25 [] [0, 1, 2] rfl rfl rfl rfl (by decide) (Nat.le_of_ble_eq_true rfl) (Nat.le_of_ble_eq_true rfl) (Nat.le_of_ble_eq_true rfl) (fun r w hp => ?_) (fun _ _ _ z => z.elim)
              rcases hp with ⟨rfl, rfl, r14418⟩ | ⟨rfl, rfl, r14419, r14420⟩ | ⟨rfl, rfl, r14421, r14422⟩
              · have r14317' : gB z14314 0 47 := ⟨by omega, by omega⟩
                change G _ _ _ _ _ _ _ (.int 0 :: _) _ _ _
                refine G_ws (ws' := [(q13794, .inr (14, [.ref q13795, .int p13797, .int 0, .int o14286, .int p13800])), (q13795, .inr (15, [.ref q13796, .int p13801])), (q13796, .inl (I .byte, 8192, .inl f13802))]) (cs' := 0) (sl' := 0) rfl rfl rfl ?_
                refine G_if_eq 128 d_cX9_advance_103 (by decide +kernel) (fun _ => ?_) (fun hc => absurd hc (by decide))
                refine G_iload_n 1 d_cX9_advance_128 rfl ?_
                refine G_bipush 118 d_cX9_advance_129 (by decide +kernel) ?_
                refine G_icmp_ne 151 d_cX9_advance_131 (by decide +kernel) (fun _ => ?_) (fun hc => absurd (show False by have := gj_eq hc (show Int32.toInt 118 = 118 by decide); omega) not_false)
                refine G_iload_n 1 d_cX9_advance_151 rfl ?_
                refine G_bipush 98 d_cX9_advance_152 (by decide +kernel) ?_
                refine G_icmp_ne 174 d_cX9_advance_154 (by decide +kernel) (fun _ => ?_) (fun hc => absurd (show False by have := gj_eq hc (show Int32.toInt 98 = 98 by decide); omega) not_false)
                refine G_iload_n 1 d_cX9_advance_174 rfl ?_
                refine G_callS (As := [.int z14290]) (wr := [(q13794, .inr (14, [.ref q13795, .int p13797, .int 0, .int o14286, .int p13800])), (q13795, .inr (15, [.ref q13796, .int p13801])), (q13796, .inl (I .byte, 8192, .inl f13802))]) (gV_ok D I) (ct_308_Signs_isLetter l hl0 D I z14290 ) d_cX9_advance_175 ⟨w_3_45, w_1_4, w_3_47, by decide, rfl, (Nat.le_of_ble_eq_true rfl), (Nat.le_of_ble_eq_true rfl)⟩ w_3_46 [] [0, 1, 2] rfl rfl rfl rfl (by decide) (Nat.le_of_ble_eq_true rfl) (Nat.le_of_ble_eq_true rfl) (Nat.le_of_ble_eq_true rfl) (fun r w hp => ?_) (fun _ _ _ z => z.elim)
                rcases hp with ⟨rfl, rfl, r14423⟩ | ⟨rfl, rfl, r14424, r14425⟩ | ⟨rfl, rfl, r14426, r14427⟩
                · change G _ _ _ _ _ _ _ (.int 0 :: _) _ _ _
                  refine G_ws (ws' := [(q13794, .inr (14, [.ref q13795, .int p13797, .int 0, .int o14286, .int p13800])), (q13795, .inr (15, [.ref q13796, .int p13801])), (q13796, .inl (I .byte, 8192, .inl f13802))]) (cs' := 0) (sl' := 0) rfl rfl rfl ?_
                  refine G_if_eq 188 d_cX9_advance_178 (by decide +kernel) (fun _ => ?_) (fun hc => absurd hc (by decide))
                  refine G_aload_n 3 d_cX9_advance_188 rfl ?_
                  refine G_iload_n 1 d_cX9_advance_189 rfl ?_
                  refine G_iload_n 0 d_cX9_advance_190 rfl ?_
                  refine G_callV (As := [.int z14290, .int z14314]) (wr := []) (gV_ok D I) (ct_13760_Signs_takeMark l hl0 D I q13794 q13795 q13796 z14290 z14314 p13797 0 o14286 p13800 p13801 f13802 (gB_w bp13801'' (by decide) (by decide)) bf13802 (by have qa0 : Int32.toInt 0 = 0 := (by decide); omega)) d_cX9_advance_191 ⟨w_3_109, w_1_4, w_3_112, by decide, rfl, (Nat.le_of_ble_eq_true rfl), (Nat.le_of_ble_eq_true rfl)⟩ w_3_111 w_p_6 0 rfl rfl [0, 1, 2] [] rfl rfl rfl rfl (by decide) (Nat.le_of_ble_eq_true rfl) (Nat.le_of_ble_eq_true rfl) (Nat.le_of_ble_eq_true rfl) (fun r w hp => ?_) (fun _ _ _ z => z.elim)
                  obtain ⟨o14428, o14429, o14430, rfl, rfl, bo14428, bo14429, bo14430, x14431⟩ := hp
                  change G _ _ _ _ _ _ _ _ _ _ _
                  refine G_ws (ws' := [(q13794, .inr (14, [.ref q13795, .int o14428, .int o14429, .int o14286, .int o14430])), (q13795, .inr (15, [.ref q13796, .int p13801])), (q13796, .inl (I .byte, 8192, .inl f13802))]) (cs' := 0) (sl' := 0) rfl rfl rfl ?_
                  exact G_vret d_cX9_advance_194 rfl (Nat.le_of_ble_eq_true rfl) (Nat.le_of_ble_eq_true rfl) ⟨o14428, o14429, o14286, o14430, rfl, rfl, (gB_w bo14428 (by decide) (by decide)), (gB_w bo14429 (by decide) (by decide)), (gB_w bo14286'' (by decide) (by decide)), bo14430, (by have qa0 : Int32.toInt 1 = 1 := (by decide); omega)⟩
                · exact absurd (show False by omega) not_false
                · exact absurd (show False by omega) not_false
              · have r14317' : gB z14314 48 255 := ⟨by omega, by omega⟩
                have r14317'' : gB z14314 58 255 := ⟨by omega, by omega⟩
                change G _ _ _ _ _ _ _ (.int 0 :: _) _ _ _
                refine G_ws (ws' := [(q13794, .inr (14, [.ref q13795, .int p13797, .int 0, .int o14286, .int p13800])), (q13795, .inr (15, [.ref q13796, .int p13801])), (q13796, .inl (I .byte, 8192, .inl f13802))]) (cs' := 0) (sl' := 0) rfl rfl rfl ?_
                refine G_if_eq 128 d_cX9_advance_103 (by decide +kernel) (fun _ => ?_) (fun hc => absurd hc (by decide))
                refine G_iload_n 1 d_cX9_advance_128 rfl ?_
                refine G_bipush 118 d_cX9_advance_129 (by decide +kernel) ?_
                refine G_icmp_ne 151 d_cX9_advance_131 (by decide +kernel) (fun _ => ?_) (fun hc => absurd (show False by have := gj_eq hc (show Int32.toInt 118 = 118 by decide); omega) not_false)
                refine G_iload_n 1 d_cX9_advance_151 rfl ?_
                refine G_bipush 98 d_cX9_advance_152 (by decide +kernel) ?_
                refine G_icmp_ne 174 d_cX9_advance_154 (by decide +kernel) (fun _ => ?_) (fun hc => absurd (show False by have := gj_eq hc (show Int32.toInt 98 = 98 by decide); omega) not_false)
                refine G_iload_n 1 d_cX9_advance_174 rfl ?_
                refine G_callS (As := [.int z14290]) (wr := [(q13794, .inr (14, [.ref q13795, .int p13797, .int 0, .int o14286, .int p13800])), (q13795, .inr (15, [.ref q13796, .int p13801])), (q13796, .inl (I .byte, 8192, .inl f13802))]) (gV_ok D I) (ct_308_Signs_isLetter l hl0 D I z14290 ) d_cX9_advance_175 ⟨w_3_45, w_1_4, w_3_47, by decide, rfl, (Nat.le_of_ble_eq_true rfl), (Nat.le_of_ble_eq_true rfl)⟩ w_3_46 [] [0, 1, 2] rfl rfl rfl rfl (by decide) (Nat.le_of_ble_eq_true rfl) (Nat.le_of_ble_eq_true rfl) (Nat.le_of_ble_eq_true rfl) (fun r w hp => ?_) (fun _ _ _ z => z.elim)
                rcases hp with ⟨rfl, rfl, r14432⟩ | ⟨rfl, rfl, r14433, r14434⟩ | ⟨rfl, rfl, r14435, r14436⟩
                · change G _ _ _ _ _ _ _ (.int 0 :: _) _ _ _
                  refine G_ws (ws' := [(q13794, .inr (14, [.ref q13795, .int p13797, .int 0, .int o14286, .int p13800])), (q13795, .inr (15, [.ref q13796, .int p13801])), (q13796, .inl (I .byte, 8192, .inl f13802))]) (cs' := 0) (sl' := 0) rfl rfl rfl ?_
                  refine G_if_eq 188 d_cX9_advance_178 (by decide +kernel) (fun _ => ?_) (fun hc => absurd hc (by decide))
                  refine G_aload_n 3 d_cX9_advance_188 rfl ?_
                  refine G_iload_n 1 d_cX9_advance_189 rfl ?_
                  refine G_iload_n 0 d_cX9_advance_190 rfl ?_
                  refine G_callV (As := [.int z14290, .int z14314]) (wr := []) (gV_ok D I) (ct_13760_Signs_takeMark l hl0 D I q13794 q13795 q13796 z14290 z14314 p13797 0 o14286 p13800 p13801 f13802 (gB_w bp13801'' (by decide) (by decide)) bf13802 (by have qa0 : Int32.toInt 0 = 0 := (by decide); omega)) d_cX9_advance_191 ⟨w_3_109, w_1_4, w_3_112, by decide, rfl, (Nat.le_of_ble_eq_true rfl), (Nat.le_of_ble_eq_true rfl)⟩ w_3_111 w_p_6 0 rfl rfl [0, 1, 2] [] rfl rfl rfl rfl (by decide) (Nat.le_of_ble_eq_true rfl) (Nat.le_of_ble_eq_true rfl) (Nat.le_of_ble_eq_true rfl) (fun r w hp => ?_) (fun _ _ _ z => z.elim)
                  obtain ⟨o14437, o14438, o14439, rfl, rfl, bo14437, bo14438, bo14439, x14440⟩ := hp
                  change G _ _ _ _ _ _ _ _ _ _ _
                  refine G_ws (ws' := [(q13794, .inr (14, [.ref q13795, .int o14437, .int o14438, .int o14286, .int o14439])), (q13795, .inr (15, [.ref q13796, .int p13801])), (q13796, .inl (I .byte, 8192, .inl f13802))]) (cs' := 0) (sl' := 0) rfl rfl rfl ?_
                  exact G_vret d_cX9_advance_194 rfl (Nat.le_of_ble_eq_true rfl) (Nat.le_of_ble_eq_true rfl) ⟨o14437, o14438, o14286, o14439, rfl, rfl, (gB_w bo14437 (by decide) (by decide)), (gB_w bo14438 (by decide) (by decide)), (gB_w bo14286'' (by decide) (by decide)), bo14439, (by have qa0 : Int32.toInt 1 = 1 := (by decide); omega)⟩
                · exact absurd (show False by omega) not_false
                · exact absurd (show False by omega) not_false
              · have r14317' : gB z14314 48 255 := ⟨by omega, by omega⟩
                have r14317'' : gB z14314 48 57 := ⟨by omega, by omega⟩
                change G _ _ _ _ _ _ _ (.int 1 :: _) _ _ _
                refine G_ws (ws' := [(q13794, .inr (14, [.ref q13795, .int p13797, .int 0, .int o14286, .int p13800])), (q13795, .inr (15, [.ref q13796, .int p13801])), (q13796, .inl (I .byte, 8192, .inl f13802))]) (cs' := 0) (sl' := 0) rfl rfl rfl ?_
                refine G_if_eq 128 d_cX9_advance_103 (by decide +kernel) (fun hc => absurd hc (by decide)) (fun _ => ?_)
                refine G_iload_n 2 d_cX9_advance_106 rfl ?_
                refine G_if_ne 128 d_cX9_advance_107 (by decide +kernel) (fun _ => ?_) (fun hc => absurd hc (by decide))
                refine G_iload_n 1 d_cX9_advance_128 rfl ?_
                refine G_bipush 118 d_cX9_advance_129 (by decide +kernel) ?_
                refine G_icmp_ne 151 d_cX9_advance_131 (by decide +kernel) (fun _ => ?_) (fun hc => absurd (show False by have := gj_eq hc (show Int32.toInt 118 = 118 by decide); omega) not_false)
                refine G_iload_n 1 d_cX9_advance_151 rfl ?_
                refine G_bipush 98 d_cX9_advance_152 (by decide +kernel) ?_
                refine G_icmp_ne 174 d_cX9_advance_154 (by decide +kernel) (fun _ => ?_) (fun hc => absurd (show False by have := gj_eq hc (show Int32.toInt 98 = 98 by decide); omega) not_false)
                refine G_iload_n 1 d_cX9_advance_174 rfl ?_
                refine G_callS (As := [.int z14290]) (wr := [(q13794, .inr (14, [.ref q13795, .int p13797, .int 0, .int o14286, .int p13800])), (q13795, .inr (15, [.ref q13796, .int p13801])), (q13796, .inl (I .byte, 8192, .inl f13802))]) (gV_ok D I) (ct_308_Signs_isLetter l hl0 D I z14290 ) d_cX9_advance_175 ⟨w_3_45, w_1_4, w_3_47, by decide, rfl, (Nat.le_of_ble_eq_true rfl), (Nat.le_of_ble_eq_true rfl)⟩ w_3_46 [] [0, 1, 2] rfl rfl rfl rfl (by decide) (Nat.le_of_ble_eq_true rfl) (Nat.le_of_ble_eq_true rfl) (Nat.le_of_ble_eq_true rfl) (fun r w hp => ?_) (fun _ _ _ z => z.elim)
                rcases hp with ⟨rfl, rfl, r14441⟩ | ⟨rfl, rfl, r14442, r14443⟩ | ⟨rfl, rfl, r14444, r14445⟩
                · change G _ _ _ _ _ _ _ (.int 0 :: _) _ _ _
                  refine G_ws (ws' := [(q13794, .inr (14, [.ref q13795, .int p13797, .int 0, .int o14286, .int p13800])), (q13795, .inr (15, [.ref q13796, .int p13801])), (q13796, .inl (I .byte, 8192, .inl f13802))]) (cs' := 0) (sl' := 0) rfl rfl rfl ?_
                  refine G_if_eq 188 d_cX9_advance_178 (by decide +kernel) (fun _ => ?_) (fun hc => absurd hc (by decide))
                  refine G_aload_n 3 d_cX9_advance_188 rfl ?_
                  refine G_iload_n 1 d_cX9_advance_189 rfl ?_
                  refine G_iload_n 0 d_cX9_advance_190 rfl ?_
                  refine G_callV (As := [.int z14290, .int z14314]) (wr := []) (gV_ok D I) (ct_13760_Signs_takeMark l hl0 D I q13794 q13795 q13796 z14290 z14314 p13797 0 o14286 p13800 p13801 f13802 (gB_w bp13801'' (by decide) (by decide)) bf13802 (by have qa0 : Int32.toInt 0 = 0 := (by decide); omega)) d_cX9_advance_191 ⟨w_3_109, w_1_4, w_3_112, by decide, rfl, (Nat.le_of_ble_eq_true rfl), (Nat.le_of_ble_eq_true rfl)⟩ w_3_111 w_p_6 0 rfl rfl [0, 1, 2] [] rfl rfl rfl rfl (by decide) (Nat.le_of_ble_eq_true rfl) (Nat.le_of_ble_eq_true rfl) (Nat.le_of_ble_eq_true rfl) (fun r w hp => ?_) (fun _ _ _ z => z.elim)
                  obtain ⟨o14446, o14447, o14448, rfl, rfl, bo14446, bo14447, bo14448, x14449⟩ := hp
                  change G _ _ _ _ _ _ _ _ _ _ _
                  refine G_ws (ws' := [(q13794, .inr (14, [.ref q13795, .int o14446, .int o14447, .int o14286, .int o14448])), (q13795, .inr (15, [.ref q13796, .int p13801])), (q13796, .inl (I .byte, 8192, .inl f13802))]) (cs' := 0) (sl' := 0) rfl rfl rfl ?_
                  exact G_vret d_cX9_advance_194 rfl (Nat.le_of_ble_eq_true rfl) (Nat.le_of_ble_eq_true rfl) ⟨o14446, o14447, o14286, o14448, rfl, rfl, (gB_w bo14446 (by decide) (by decide)), (gB_w bo14447 (by decide) (by decide)), (gB_w bo14286'' (by decide) (by decide)), bo14448, (by have qa0 : Int32.toInt 1 = 1 := (by decide); omega)⟩
                · exact absurd (show False by omega) not_false
                · exact absurd (show False by omega) not_false
          · have r14293' : gB z14290 48 255 := ⟨by omega, by omega⟩
            have r14293'' : gB z14290 58 255 := ⟨by omega, by omega⟩
            change G _ _ _ _ _ _ _ (.int 0 :: _) _ _ _
            refine G_ws (ws' := [(q13794, .inr (14, [.ref q13795, .int p13797, .int 0, .int o14286, .int p13800])), (q13795, .inr (15, [.ref q13796, .int p13801])), (q13796, .inl (I .byte, 8192, .inl f13802))]) (cs' := 0) (sl' := 0) rfl rfl rfl ?_
            refine G_if_ne 110 d_cX9_advance_90 (by decide +kernel) (fun hc => absurd hc (by decide)) (fun _ => ?_)
            refine G_iload_n 1 d_cX9_advance_93 rfl ?_
            refine G_bipush 45 d_cX9_advance_94 (by decide +kernel) ?_
            refine G_icmp_ne 128 d_cX9_advance_96 (by decide +kernel) (fun _ => ?_) (fun hc => absurd (show False by have := gj_eq hc (show Int32.toInt 45 = 45 by decide); omega) not_false)
            refine G_iload_n 1 d_cX9_advance_128 rfl ?_
            refine G_bipush 118 d_cX9_advance_129 (by decide +kernel) ?_
            refine G_icmp_ne 151 d_cX9_advance_131 (by decide +kernel) (fun hc14450 => ?_) (fun hc14450 => ?_)
            · have r14451 : z14290.toInt ≠ 118 := gj_neq hc14450 (show Int32.toInt 118 = 118 by decide)
              refine G_iload_n 1 d_cX9_advance_151 rfl ?_
              refine G_bipush 98 d_cX9_advance_152 (by decide +kernel) ?_
              refine G_icmp_ne 174 d_cX9_advance_154 (by decide +kernel) (fun hc14452 => ?_) (fun hc14452 => ?_)
              · have r14453 : z14290.toInt ≠ 98 := gj_neq hc14452 (show Int32.toInt 98 = 98 by decide)
                refine G_iload_n 1 d_cX9_advance_174 rfl ?_
                refine G_callS (As := [.int z14290]) (wr := [(q13794, .inr (14, [.ref q13795, .int p13797, .int 0, .int o14286, .int p13800])), (q13795, .inr (15, [.ref q13796, .int p13801])), (q13796, .inl (I .byte, 8192, .inl f13802))]) (gV_ok D I) (ct_308_Signs_isLetter l hl0 D I z14290 ) d_cX9_advance_175 ⟨w_3_45, w_1_4, w_3_47, by decide, rfl, (Nat.le_of_ble_eq_true rfl), (Nat.le_of_ble_eq_true rfl)⟩ w_3_46 [] [0, 1, 2] rfl rfl rfl rfl (by decide) (Nat.le_of_ble_eq_true rfl) (Nat.le_of_ble_eq_true rfl) (Nat.le_of_ble_eq_true rfl) (fun r w hp => ?_) (fun _ _ _ z => z.elim)
                rcases hp with ⟨rfl, rfl, r14454⟩ | ⟨rfl, rfl, r14455, r14456⟩ | ⟨rfl, rfl, r14457, r14458⟩
                · have r14293''' : gB z14290 58 96 := ⟨by omega, by omega⟩
                  change G _ _ _ _ _ _ _ (.int 0 :: _) _ _ _
                  refine G_ws (ws' := [(q13794, .inr (14, [.ref q13795, .int p13797, .int 0, .int o14286, .int p13800])), (q13795, .inr (15, [.ref q13796, .int p13801])), (q13796, .inl (I .byte, 8192, .inl f13802))]) (cs' := 0) (sl' := 0) rfl rfl rfl ?_
                  refine G_if_eq 188 d_cX9_advance_178 (by decide +kernel) (fun _ => ?_) (fun hc => absurd hc (by decide))
                  refine G_aload_n 3 d_cX9_advance_188 rfl ?_
                  refine G_iload_n 1 d_cX9_advance_189 rfl ?_
                  refine G_iload_n 0 d_cX9_advance_190 rfl ?_
                  refine G_callV (As := [.int z14290, .int z14314]) (wr := []) (gV_ok D I) (ct_13760_Signs_takeMark l hl0 D I q13794 q13795 q13796 z14290 z14314 p13797 0 o14286 p13800 p13801 f13802 (gB_w bp13801'' (by decide) (by decide)) bf13802 (by have qa0 : Int32.toInt 0 = 0 := (by decide); omega)) d_cX9_advance_191 ⟨w_3_109, w_1_4, w_3_112, by decide, rfl, (Nat.le_of_ble_eq_true rfl), (Nat.le_of_ble_eq_true rfl)⟩ w_3_111 w_p_6 0 rfl rfl [0, 1, 2] [] rfl rfl rfl rfl (by decide) (Nat.le_of_ble_eq_true rfl) (Nat.le_of_ble_eq_true rfl) (Nat.le_of_ble_eq_true rfl) (fun r w hp => ?_) (fun _ _ _ z => z.elim)
                  obtain ⟨o14459, o14460, o14461, rfl, rfl, bo14459, bo14460, bo14461, x14462⟩ := hp
                  change G _ _ _ _ _ _ _ _ _ _ _
                  refine G_ws (ws' := [(q13794, .inr (14, [.ref q13795, .int o14459, .int o14460, .int o14286, .int o14461])), (q13795, .inr (15, [.ref q13796, .int p13801])), (q13796, .inl (I .byte, 8192, .inl f13802))]) (cs' := 0) (sl' := 0) rfl rfl rfl ?_
                  exact G_vret d_cX9_advance_194 rfl (Nat.le_of_ble_eq_true rfl) (Nat.le_of_ble_eq_true rfl) ⟨o14459, o14460, o14286, o14461, rfl, rfl, (gB_w bo14459 (by decide) (by decide)), (gB_w bo14460 (by decide) (by decide)), (gB_w bo14286'' (by decide) (by decide)), bo14461, (by have qa0 : Int32.toInt 1 = 1 := (by decide); omega)⟩
                · have r14293''' : gB z14290 97 255 := ⟨by omega, by omega⟩
                  have r14293'''' : gB z14290 123 255 := ⟨by omega, by omega⟩
                  change G _ _ _ _ _ _ _ (.int 0 :: _) _ _ _
                  refine G_ws (ws' := [(q13794, .inr (14, [.ref q13795, .int p13797, .int 0, .int o14286, .int p13800])), (q13795, .inr (15, [.ref q13796, .int p13801])), (q13796, .inl (I .byte, 8192, .inl f13802))]) (cs' := 0) (sl' := 0) rfl rfl rfl ?_
                  refine G_if_eq 188 d_cX9_advance_178 (by decide +kernel) (fun _ => ?_) (fun hc => absurd hc (by decide))
                  refine G_aload_n 3 d_cX9_advance_188 rfl ?_
                  refine G_iload_n 1 d_cX9_advance_189 rfl ?_
                  refine G_iload_n 0 d_cX9_advance_190 rfl ?_
                  refine G_callV (As := [.int z14290, .int z14314]) (wr := []) (gV_ok D I) (ct_13760_Signs_takeMark l hl0 D I q13794 q13795 q13796 z14290 z14314 p13797 0 o14286 p13800 p13801 f13802 (gB_w bp13801'' (by decide) (by decide)) bf13802 (by have qa0 : Int32.toInt 0 = 0 := (by decide); omega)) d_cX9_advance_191 ⟨w_3_109, w_1_4, w_3_112, by decide, rfl, (Nat.le_of_ble_eq_true rfl), (Nat.le_of_ble_eq_true rfl)⟩ w_3_111 w_p_6 0 rfl rfl [0, 1, 2] [] rfl rfl rfl rfl (by decide) (Nat.le_of_ble_eq_true rfl) (Nat.le_of_ble_eq_true rfl) (Nat.le_of_ble_eq_true rfl) (fun r w hp => ?_) (fun _ _ _ z => z.elim)
                  obtain ⟨o14463, o14464, o14465, rfl, rfl, bo14463, bo14464, bo14465, x14466⟩ := hp
                  change G _ _ _ _ _ _ _ _ _ _ _
                  refine G_ws (ws' := [(q13794, .inr (14, [.ref q13795, .int o14463, .int o14464, .int o14286, .int o14465])), (q13795, .inr (15, [.ref q13796, .int p13801])), (q13796, .inl (I .byte, 8192, .inl f13802))]) (cs' := 0) (sl' := 0) rfl rfl rfl ?_
                  exact G_vret d_cX9_advance_194 rfl (Nat.le_of_ble_eq_true rfl) (Nat.le_of_ble_eq_true rfl) ⟨o14463, o14464, o14286, o14465, rfl, rfl, (gB_w bo14463 (by decide) (by decide)), (gB_w bo14464 (by decide) (by decide)), (gB_w bo14286'' (by decide) (by decide)), bo14465, (by have qa0 : Int32.toInt 1 = 1 := (by decide); omega)⟩
                · have r14293''' : gB z14290 97 255 := ⟨by omega, by omega⟩
                  have r14293'''' : gB z14290 97 122 := ⟨by omega, by omega⟩
                  change G _ _ _ _ _ _ _ (.int 1 :: _) _ _ _
                  refine G_ws (ws' := [(q13794, .inr (14, [.ref q13795, .int p13797, .int 0, .int o14286, .int p13800])), (q13795, .inr (15, [.ref q13796, .int p13801])), (q13796, .inl (I .byte, 8192, .inl f13802))]) (cs' := 0) (sl' := 0) rfl rfl rfl ?_
                  refine G_if_eq 188 d_cX9_advance_178 (by decide +kernel) (fun hc => absurd hc (by decide)) (fun _ => ?_)
                  refine G_aload_n 3 d_cX9_advance_181 rfl ?_
                  refine G_callV (As := []) (wr := []) (gV_ok D I) (ct_12941_Signs_takeWord l hl0 D I q13794 q13795 q13796 p13797 0 o14286 p13800 p13801 f13802 (gB_w bp13801'' (by decide) (by decide)) bf13802 (by have qa0 : Int32.toInt 0 = 0 := (by decide); omega)) d_cX9_advance_182 ⟨w_3_48, w_1_4, w_3_51, by decide, rfl, (Nat.le_of_ble_eq_true rfl), (Nat.le_of_ble_eq_true rfl)⟩ w_3_50 w_p_4 0 rfl rfl [0, 1, 2] [] rfl rfl rfl rfl (by decide) (Nat.le_of_ble_eq_true rfl) (Nat.le_of_ble_eq_true rfl) (Nat.le_of_ble_eq_true rfl) (fun r w hp => ?_) (fun _ _ _ z => z.elim)
                  obtain ⟨o14467, o14468, rfl, rfl, bo14467, bo14468, x14469⟩ := hp
                  rw [show Int32.toInt 0 = 0 from by decide] at x14469
                  change G _ _ _ _ _ _ _ _ _ _ _
                  refine G_ws (ws' := [(q13794, .inr (14, [.ref q13795, .int o14467, .int 0, .int o14286, .int o14468])), (q13795, .inr (15, [.ref q13796, .int p13801])), (q13796, .inl (I .byte, 8192, .inl f13802))]) (cs' := 0) (sl' := 0) rfl rfl rfl ?_
                  refine G_goto 194 d_cX9_advance_185 (by decide +kernel) ?_
                  exact G_vret d_cX9_advance_194 rfl (Nat.le_of_ble_eq_true rfl) (Nat.le_of_ble_eq_true rfl) ⟨o14467, 0, o14286, o14468, rfl, rfl, bo14467, (gB_w (gBl (show Int32.toInt 0 = 0 by decide)) (by decide) (by decide)), (gB_w bo14286'' (by decide) (by decide)), bo14468, (by have qa0 : Int32.toInt 0 = 0 := (by decide); have qa1 : Int32.toInt 1 = 1 := (by decide); omega)⟩
              · have r14470 : z14290.toInt = 98 := gj_eq hc14452 (show Int32.toInt 98 = 98 by decide)
                have r14293''' : gB z14290 98 98 := ⟨by omega, by omega⟩
                refine G_iload_n 0 d_cX9_advance_157 rfl ?_
                refine G_callS (As := [.int z14314]) (wr := [(q13794, .inr (14, [.ref q13795, .int p13797, .int 0, .int o14286, .int p13800])), (q13795, .inr (15, [.ref q13796, .int p13801])), (q13796, .inl (I .byte, 8192, .inl f13802))]) (gV_ok D I) (ct_300_Signs_isDigit l hl0 D I z14314 ) d_cX9_advance_158 ⟨w_3_24, w_1_4, w_3_26, by decide, rfl, (Nat.le_of_ble_eq_true rfl), (Nat.le_of_ble_eq_true rfl)⟩ w_3_25 [] [0, 1, 2] rfl rfl rfl rfl (by decide) (Nat.le_of_ble_eq_true rfl) (Nat.le_of_ble_eq_true rfl) (Nat.le_of_ble_eq_true rfl) (fun r w hp => ?_) (fun _ _ _ z => z.elim)
                rcases hp with ⟨rfl, rfl, r14471⟩ | ⟨rfl, rfl, r14472, r14473⟩ | ⟨rfl, rfl, r14474, r14475⟩
                · have r14317' : gB z14314 0 47 := ⟨by omega, by omega⟩
                  change G _ _ _ _ _ _ _ (.int 0 :: _) _ _ _
                  refine G_ws (ws' := [(q13794, .inr (14, [.ref q13795, .int p13797, .int 0, .int o14286, .int p13800])), (q13795, .inr (15, [.ref q13796, .int p13801])), (q13796, .inl (I .byte, 8192, .inl f13802))]) (cs' := 0) (sl' := 0) rfl rfl rfl ?_
                  refine G_if_eq 174 d_cX9_advance_161 (by decide +kernel) (fun _ => ?_) (fun hc => absurd hc (by decide))
                  refine G_iload_n 1 d_cX9_advance_174 rfl ?_
                  refine G_callS (As := [.int z14290]) (wr := [(q13794, .inr (14, [.ref q13795, .int p13797, .int 0, .int o14286, .int p13800])), (q13795, .inr (15, [.ref q13796, .int p13801])), (q13796, .inl (I .byte, 8192, .inl f13802))]) (gV_ok D I) (ct_308_Signs_isLetter l hl0 D I z14290 ) d_cX9_advance_175 ⟨w_3_45, w_1_4, w_3_47, by decide, rfl, (Nat.le_of_ble_eq_true rfl), (Nat.le_of_ble_eq_true rfl)⟩ w_3_46 [] [0, 1, 2] rfl rfl rfl rfl (by decide) (Nat.le_of_ble_eq_true rfl) (Nat.le_of_ble_eq_true rfl) (Nat.le_of_ble_eq_true rfl) (fun r w hp => ?_) (fun _ _ _ z => z.elim)
                  rcases hp with ⟨rfl, rfl, r14476⟩ | ⟨rfl, rfl, r14477, r14478⟩ | ⟨rfl, rfl, r14479, r14480⟩
                  · exact absurd (show False by omega) not_false
                  · exact absurd (show False by omega) not_false
                  · change G _ _ _ _ _ _ _ (.int 1 :: _) _ _ _
                    refine G_ws (ws' := [(q13794, .inr (14, [.ref q13795, .int p13797, .int 0, .int o14286, .int p13800])), (q13795, .inr (15, [.ref q13796, .int p13801])), (q13796, .inl (I .byte, 8192, .inl f13802))]) (cs' := 0) (sl' := 0) rfl rfl rfl ?_
                    refine G_if_eq 188 d_cX9_advance_178 (by decide +kernel) (fun hc => absurd hc (by decide)) (fun _ => ?_)
                    refine G_aload_n 3 d_cX9_advance_181 rfl ?_
                    refine G_callV (As := []) (wr := []) (gV_ok D I) (ct_12941_Signs_takeWord l hl0 D I q13794 q13795 q13796 p13797 0 o14286 p13800 p13801 f13802 (gB_w bp13801'' (by decide) (by decide)) bf13802 (by have qa0 : Int32.toInt 0 = 0 := (by decide); omega)) d_cX9_advance_182 ⟨w_3_48, w_1_4, w_3_51, by decide, rfl, (Nat.le_of_ble_eq_true rfl), (Nat.le_of_ble_eq_true rfl)⟩ w_3_50 w_p_4 0 rfl rfl [0, 1, 2] [] rfl rfl rfl rfl (by decide) (Nat.le_of_ble_eq_true rfl) (Nat.le_of_ble_eq_true rfl) (Nat.le_of_ble_eq_true rfl) (fun r w hp => ?_) (fun _ _ _ z => z.elim)
                    obtain ⟨o14481, o14482, rfl, rfl, bo14481, bo14482, x14483⟩ := hp
                    rw [show Int32.toInt 0 = 0 from by decide] at x14483
                    change G _ _ _ _ _ _ _ _ _ _ _
                    refine G_ws (ws' := [(q13794, .inr (14, [.ref q13795, .int o14481, .int 0, .int o14286, .int o14482])), (q13795, .inr (15, [.ref q13796, .int p13801])), (q13796, .inl (I .byte, 8192, .inl f13802))]) (cs' := 0) (sl' := 0) rfl rfl rfl ?_
                    refine G_goto 194 d_cX9_advance_185 (by decide +kernel) ?_
                    exact G_vret d_cX9_advance_194 rfl (Nat.le_of_ble_eq_true rfl) (Nat.le_of_ble_eq_true rfl) ⟨o14481, 0, o14286, o14482, rfl, rfl, bo14481, (gB_w (gBl (show Int32.toInt 0 = 0 by decide)) (by decide) (by decide)), (gB_w bo14286'' (by decide) (by decide)), bo14482, (by have qa0 : Int32.toInt 0 = 0 := (by decide); have qa1 : Int32.toInt 1 = 1 := (by decide); omega)⟩
                · have r14317' : gB z14314 48 255 := ⟨by omega, by omega⟩
                  have r14317'' : gB z14314 58 255 := ⟨by omega, by omega⟩
                  change G _ _ _ _ _ _ _ (.int 0 :: _) _ _ _
                  refine G_ws (ws' := [(q13794, .inr (14, [.ref q13795, .int p13797, .int 0, .int o14286, .int p13800])), (q13795, .inr (15, [.ref q13796, .int p13801])), (q13796, .inl (I .byte, 8192, .inl f13802))]) (cs' := 0) (sl' := 0) rfl rfl rfl ?_
                  refine G_if_eq 174 d_cX9_advance_161 (by decide +kernel) (fun _ => ?_) (fun hc => absurd hc (by decide))
                  refine G_iload_n 1 d_cX9_advance_174 rfl ?_
                  refine G_callS (As := [.int z14290]) (wr := [(q13794, .inr (14, [.ref q13795, .int p13797, .int 0, .int o14286, .int p13800])), (q13795, .inr (15, [.ref q13796, .int p13801])), (q13796, .inl (I .byte, 8192, .inl f13802))]) (gV_ok D I) (ct_308_Signs_isLetter l hl0 D I z14290 ) d_cX9_advance_175 ⟨w_3_45, w_1_4, w_3_47, by decide, rfl, (Nat.le_of_ble_eq_true rfl), (Nat.le_of_ble_eq_true rfl)⟩ w_3_46 [] [0, 1, 2] rfl rfl rfl rfl (by decide) (Nat.le_of_ble_eq_true rfl) (Nat.le_of_ble_eq_true rfl) (Nat.le_of_ble_eq_true rfl) (fun r w hp => ?_) (fun _ _ _ z => z.elim)
                  rcases hp with ⟨rfl, rfl, r14484⟩ | ⟨rfl, rfl, r14485, r14486⟩ | ⟨rfl, rfl, r14487, r14488⟩
                  · exact absurd (show False by omega) not_false
                  · exact absurd (show False by omega) not_false
                  · change G _ _ _ _ _ _ _ (.int 1 :: _) _ _ _
                    refine G_ws (ws' := [(q13794, .inr (14, [.ref q13795, .int p13797, .int 0, .int o14286, .int p13800])), (q13795, .inr (15, [.ref q13796, .int p13801])), (q13796, .inl (I .byte, 8192, .inl f13802))]) (cs' := 0) (sl' := 0) rfl rfl rfl ?_
                    refine G_if_eq 188 d_cX9_advance_178 (by decide +kernel) (fun hc => absurd hc (by decide)) (fun _ => ?_)
                    refine G_aload_n 3 d_cX9_advance_181 rfl ?_
                    refine G_callV (As := []) (wr := []) (gV_ok D I) (ct_12941_Signs_takeWord l hl0 D I q13794 q13795 q13796 p13797 0 o14286 p13800 p13801 f13802 (gB_w bp13801'' (by decide) (by decide)) bf13802 (by have qa0 : Int32.toInt 0 = 0 := (by decide); omega)) d_cX9_advance_182 ⟨w_3_48, w_1_4, w_3_51, by decide, rfl, (Nat.le_of_ble_eq_true rfl), (Nat.le_of_ble_eq_true rfl)⟩ w_3_50 w_p_4 0 rfl rfl [0, 1, 2] [] rfl rfl rfl rfl (by decide) (Nat.le_of_ble_eq_true rfl) (Nat.le_of_ble_eq_true rfl) (Nat.le_of_ble_eq_true rfl) (fun r w hp => ?_) (fun _ _ _ z => z.elim)
                    obtain ⟨o14489, o14490, rfl, rfl, bo14489, bo14490, x14491⟩ := hp
                    rw [show Int32.toInt 0 = 0 from by decide] at x14491
                    change G _ _ _ _ _ _ _ _ _ _ _
                    refine G_ws (ws' := [(q13794, .inr (14, [.ref q13795, .int o14489, .int 0, .int o14286, .int o14490])), (q13795, .inr (15, [.ref q13796, .int p13801])), (q13796, .inl (I .byte, 8192, .inl f13802))]) (cs' := 0) (sl' := 0) rfl rfl rfl ?_
                    refine G_goto 194 d_cX9_advance_185 (by decide +kernel) ?_
                    exact G_vret d_cX9_advance_194 rfl (Nat.le_of_ble_eq_true rfl) (Nat.le_of_ble_eq_true rfl) ⟨o14489, 0, o14286, o14490, rfl, rfl, bo14489, (gB_w (gBl (show Int32.toInt 0 = 0 by decide)) (by decide) (by decide)), (gB_w bo14286'' (by decide) (by decide)), bo14490, (by have qa0 : Int32.toInt 0 = 0 := (by decide); have qa1 : Int32.toInt 1 = 1 := (by decide); omega)⟩
                · have r14317' : gB z14314 48 255 := ⟨by omega, by omega⟩
                  have r14317'' : gB z14314 48 57 := ⟨by omega, by omega⟩
                  change G _ _ _ _ _ _ _ (.int 1 :: _) _ _ _
                  refine G_ws (ws' := [(q13794, .inr (14, [.ref q13795, .int p13797, .int 0, .int o14286, .int p13800])), (q13795, .inr (15, [.ref q13796, .int p13801])), (q13796, .inl (I .byte, 8192, .inl f13802))]) (cs' := 0) (sl' := 0) rfl rfl rfl ?_
                  refine G_if_eq 174 d_cX9_advance_161 (by decide +kernel) (fun hc => absurd hc (by decide)) (fun _ => ?_)
                  refine G_aload_n 3 d_cX9_advance_164 rfl ?_
                  refine G_iconst 3 d_cX9_advance_165 (by decide +kernel) ?_
                  refine G_bipush 40 d_cX9_advance_166 (by decide +kernel) ?_
                  refine G_callV (As := [.int 3, .int 40]) (wr := []) (gV_ok D I) (ct_661_Signs_takeNamed l hl0 D I q13794 q13795 q13796 3 40 p13797 0 o14286 p13800 p13801 f13802 (gB_w (gBl (show Int32.toInt 3 = 3 by decide)) (by decide) (by decide)) (gB_w bp13801'' (by decide) (by decide)) bf13802 (by have qa0 : Int32.toInt 0 = 0 := (by decide); have qa1 : Int32.toInt 3 = 3 := (by decide); have qa2 : Int32.toInt 40 = 40 := (by decide); omega)) d_cX9_advance_168 ⟨w_3_41, w_1_4, w_3_44, by decide, rfl, (Nat.le_of_ble_eq_true rfl), (Nat.le_of_ble_eq_true rfl)⟩ w_3_43 w_p_3 0 rfl rfl [0, 1, 2] [] rfl rfl rfl rfl (by decide) (Nat.le_of_ble_eq_true rfl) (Nat.le_of_ble_eq_true rfl) (Nat.le_of_ble_eq_true rfl) (fun r w hp => ?_) (fun _ _ _ z => z.elim)
                  obtain ⟨o14492, o14493, o14494, rfl, rfl, bo14492, bo14493, bo14494, x14495⟩ := hp
                  change G _ _ _ _ _ _ _ _ _ _ _
                  refine G_ws (ws' := [(q13794, .inr (14, [.ref q13795, .int o14492, .int o14493, .int o14286, .int o14494])), (q13795, .inr (15, [.ref q13796, .int p13801])), (q13796, .inl (I .byte, 8192, .inl f13802))]) (cs' := 0) (sl' := 0) rfl rfl rfl ?_
                  refine G_goto 194 d_cX9_advance_171 (by decide +kernel) ?_
                  exact G_vret d_cX9_advance_194 rfl (Nat.le_of_ble_eq_true rfl) (Nat.le_of_ble_eq_true rfl) ⟨o14492, o14493, o14286, o14494, rfl, rfl, (gB_w bo14492 (by decide) (by decide)), bo14493, (gB_w bo14286'' (by decide) (by decide)), bo14494, (by have qa0 : Int32.toInt 1 = 1 := (by decide); omega)⟩
            · have r14496 : z14290.toInt = 118 := gj_eq hc14450 (show Int32.toInt 118 = 118 by decide)
              have r14293''' : gB z14290 118 118 := ⟨by omega, by omega⟩
              refine G_iload_n 0 d_cX9_advance_134 rfl ?_
              refine G_callS (As := [.int z14314]) (wr := [(q13794, .inr (14, [.ref q13795, .int p13797, .int 0, .int o14286, .int p13800])), (q13795, .inr (15, [.ref q13796, .int p13801])), (q13796, .inl (I .byte, 8192, .inl f13802))]) (gV_ok D I) (ct_300_Signs_isDigit l hl0 D I z14314 ) d_cX9_advance_135 ⟨w_3_24, w_1_4, w_3_26, by decide, rfl, (Nat.le_of_ble_eq_true rfl), (Nat.le_of_ble_eq_true rfl)⟩ w_3_25 [] [0, 1, 2] rfl rfl rfl rfl (by decide) (Nat.le_of_ble_eq_true rfl) (Nat.le_of_ble_eq_true rfl) (Nat.le_of_ble_eq_true rfl) (fun r w hp => ?_) (fun _ _ _ z => z.elim)
              rcases hp with ⟨rfl, rfl, r14497⟩ | ⟨rfl, rfl, r14498, r14499⟩ | ⟨rfl, rfl, r14500, r14501⟩
              · have r14317' : gB z14314 0 47 := ⟨by omega, by omega⟩
                change G _ _ _ _ _ _ _ (.int 0 :: _) _ _ _
                refine G_ws (ws' := [(q13794, .inr (14, [.ref q13795, .int p13797, .int 0, .int o14286, .int p13800])), (q13795, .inr (15, [.ref q13796, .int p13801])), (q13796, .inl (I .byte, 8192, .inl f13802))]) (cs' := 0) (sl' := 0) rfl rfl rfl ?_
                refine G_if_eq 151 d_cX9_advance_138 (by decide +kernel) (fun _ => ?_) (fun hc => absurd hc (by decide))
                refine G_iload_n 1 d_cX9_advance_151 rfl ?_
                refine G_bipush 98 d_cX9_advance_152 (by decide +kernel) ?_
                refine G_icmp_ne 174 d_cX9_advance_154 (by decide +kernel) (fun _ => ?_) (fun hc => absurd (show False by have := gj_eq hc (show Int32.toInt 98 = 98 by decide); omega) not_false)
                refine G_iload_n 1 d_cX9_advance_174 rfl ?_
                refine G_callS (As := [.int z14290]) (wr := [(q13794, .inr (14, [.ref q13795, .int p13797, .int 0, .int o14286, .int p13800])), (q13795, .inr (15, [.ref q13796, .int p13801])), (q13796, .inl (I .byte, 8192, .inl f13802))]) (gV_ok D I) (ct_308_Signs_isLetter l hl0 D I z14290 ) d_cX9_advance_175 ⟨w_3_45, w_1_4, w_3_47, by decide, rfl, (Nat.le_of_ble_eq_true rfl), (Nat.le_of_ble_eq_true rfl)⟩ w_3_46 [] [0, 1, 2] rfl rfl rfl rfl (by decide) (Nat.le_of_ble_eq_true rfl) (Nat.le_of_ble_eq_true rfl) (Nat.le_of_ble_eq_true rfl) (fun r w hp => ?_) (fun _ _ _ z => z.elim)
                rcases hp with ⟨rfl, rfl, r14502⟩ | ⟨rfl, rfl, r14503, r14504⟩ | ⟨rfl, rfl, r14505, r14506⟩
                · exact absurd (show False by omega) not_false
                · exact absurd (show False by omega) not_false
                · change G _ _ _ _ _ _ _ (.int 1 :: _) _ _ _
                  refine G_ws (ws' := [(q13794, .inr (14, [.ref q13795, .int p13797, .int 0, .int o14286, .int p13800])), (q13795, .inr (15, [.ref q13796, .int p13801])), (q13796, .inl (I .byte, 8192, .inl f13802))]) (cs' := 0) (sl' := 0) rfl rfl rfl ?_
                  refine G_if_eq 188 d_cX9_advance_178 (by decide +kernel) (fun hc => absurd hc (by decide)) (fun _ => ?_)
                  refine G_aload_n 3 d_cX9_advance_181 rfl ?_
                  refine G_callV (As := []) (wr := []) (gV_ok D I) (ct_12941_Signs_takeWord l hl0 D I q13794 q13795 q13796 p13797 0 o14286 p13800 p13801 f13802 (gB_w bp13801'' (by decide) (by decide)) bf13802 (by have qa0 : Int32.toInt 0 = 0 := (by decide); omega)) d_cX9_advance_182 ⟨w_3_48, w_1_4, w_3_51, by decide, rfl, (Nat.le_of_ble_eq_true rfl), (Nat.le_of_ble_eq_true rfl)⟩ w_3_50 w_p_4 0 rfl rfl [0, 1, 2] [] rfl rfl rfl rfl (by decide) (Nat.le_of_ble_eq_true rfl) (Nat.le_of_ble_eq_true rfl) (Nat.le_of_ble_eq_true rfl) (fun r w hp => ?_) (fun _ _ _ z => z.elim)
                  obtain ⟨o14507, o14508, rfl, rfl, bo14507, bo14508, x14509⟩ := hp
                  rw [show Int32.toInt 0 = 0 from by decide] at x14509
                  change G _ _ _ _ _ _ _ _ _ _ _
                  refine G_ws (ws' := [(q13794, .inr (14, [.ref q13795, .int o14507, .int 0, .int o14286, .int o14508])), (q13795, .inr (15, [.ref q13796, .int p13801])), (q13796, .inl (I .byte, 8192, .inl f13802))]) (cs' := 0) (sl' := 0) rfl rfl rfl ?_
                  refine G_goto 194 d_cX9_advance_185 (by decide +kernel) ?_
                  exact G_vret d_cX9_advance_194 rfl (Nat.le_of_ble_eq_true rfl) (Nat.le_of_ble_eq_true rfl) ⟨o14507, 0, o14286, o14508, rfl, rfl, bo14507, (gB_w (gBl (show Int32.toInt 0 = 0 by decide)) (by decide) (by decide)), (gB_w bo14286'' (by decide) (by decide)), bo14508, (by have qa0 : Int32.toInt 0 = 0 := (by decide); have qa1 : Int32.toInt 1 = 1 := (by decide); omega)⟩
              · have r14317' : gB z14314 48 255 := ⟨by omega, by omega⟩
                have r14317'' : gB z14314 58 255 := ⟨by omega, by omega⟩
                change G _ _ _ _ _ _ _ (.int 0 :: _) _ _ _
                refine G_ws (ws' := [(q13794, .inr (14, [.ref q13795, .int p13797, .int 0, .int o14286, .int p13800])), (q13795, .inr (15, [.ref q13796, .int p13801])), (q13796, .inl (I .byte, 8192, .inl f13802))]) (cs' := 0) (sl' := 0) rfl rfl rfl ?_
                refine G_if_eq 151 d_cX9_advance_138 (by decide +kernel) (fun _ => ?_) (fun hc => absurd hc (by decide))
                refine G_iload_n 1 d_cX9_advance_151 rfl ?_
                refine G_bipush 98 d_cX9_advance_152 (by decide +kernel) ?_
                refine G_icmp_ne 174 d_cX9_advance_154 (by decide +kernel) (fun _ => ?_) (fun hc => absurd (show False by have := gj_eq hc (show Int32.toInt 98 = 98 by decide); omega) not_false)
                refine G_iload_n 1 d_cX9_advance_174 rfl ?_
                refine G_callS (As := [.int z14290]) (wr := [(q13794, .inr (14, [.ref q13795, .int p13797, .int 0, .int o14286, .int p13800])), (q13795, .inr (15, [.ref q13796, .int p13801])), (q13796, .inl (I .byte, 8192, .inl f13802))]) (gV_ok D I) (ct_308_Signs_isLetter l hl0 D I z14290 ) d_cX9_advance_175 ⟨w_3_45, w_1_4, w_3_47, by decide, rfl, (Nat.le_of_ble_eq_true rfl), (Nat.le_of_ble_eq_true rfl)⟩ w_3_46 [] [0, 1, 2] rfl rfl rfl rfl (by decide) (Nat.le_of_ble_eq_true rfl) (Nat.le_of_ble_eq_true rfl) (Nat.le_of_ble_eq_true rfl) (fun r w hp => ?_) (fun _ _ _ z => z.elim)
                rcases hp with ⟨rfl, rfl, r14510⟩ | ⟨rfl, rfl, r14511, r14512⟩ | ⟨rfl, rfl, r14513, r14514⟩
                · exact absurd (show False by omega) not_false
                · exact absurd (show False by omega) not_false
                · change G _ _ _ _ _ _ _ (.int 1 :: _) _ _ _
                  refine G_ws (ws' := [(q13794, .inr (14, [.ref q13795, .int p13797, .int 0, .int o14286, .int p13800])), (q13795, .inr (15, [.ref q13796, .int p13801])), (q13796, .inl (I .byte, 8192, .inl f13802))]) (cs' := 0) (sl' := 0) rfl rfl rfl ?_
                  refine G_if_eq 188 d_cX9_advance_178 (by decide +kernel) (fun hc => absurd hc (by decide)) (fun _ => ?_)
                  refine G_aload_n 3 d_cX9_advance_181 rfl ?_
                  refine G_callV (As := []) (wr := []) (gV_ok D I) (ct_12941_Signs_takeWord l hl0 D I q13794 q13795 q13796 p13797 0 o14286 p13800 p13801 f13802 (gB_w bp13801'' (by decide) (by decide)) bf13802 (by have qa0 : Int32.toInt 0 = 0 := (by decide); omega)) d_cX9_advance_182 ⟨w_3_48, w_1_4, w_3_51, by decide, rfl, (Nat.le_of_ble_eq_true rfl), (Nat.le_of_ble_eq_true rfl)⟩ w_3_50 w_p_4 0 rfl rfl [0, 1, 2] [] rfl rfl rfl rfl (by decide) (Nat.le_of_ble_eq_true rfl) (Nat.le_of_ble_eq_true rfl) (Nat.le_of_ble_eq_true rfl) (fun r w hp => ?_) (fun _ _ _ z => z.elim)
                  obtain ⟨o14515, o14516, rfl, rfl, bo14515, bo14516, x14517⟩ := hp
                  rw [show Int32.toInt 0 = 0 from by decide] at x14517
                  change G _ _ _ _ _ _ _ _ _ _ _
                  refine G_ws (ws' := [(q13794, .inr (14, [.ref q13795, .int o14515, .int 0, .int o14286, .int o14516])), (q13795, .inr (15, [.ref q13796, .int p13801])), (q13796, .inl (I .byte, 8192, .inl f13802))]) (cs' := 0) (sl' := 0) rfl rfl rfl ?_
                  refine G_goto 194 d_cX9_advance_185 (by decide +kernel) ?_
                  exact G_vret d_cX9_advance_194 rfl (Nat.le_of_ble_eq_true rfl) (Nat.le_of_ble_eq_true rfl) ⟨o14515, 0, o14286, o14516, rfl, rfl, bo14515, (gB_w (gBl (show Int32.toInt 0 = 0 by decide)) (by decide) (by decide)), (gB_w bo14286'' (by decide) (by decide)), bo14516, (by have qa0 : Int32.toInt 0 = 0 := (by decide); have qa1 : Int32.toInt 1 = 1 := (by decide); omega)⟩
              · have r14317' : gB z14314 48 255 := ⟨by omega, by omega⟩
                have r14317'' : gB z14314 48 57 := ⟨by omega, by omega⟩
                change G _ _ _ _ _ _ _ (.int 1 :: _) _ _ _
                refine G_ws (ws' := [(q13794, .inr (14, [.ref q13795, .int p13797, .int 0, .int o14286, .int p13800])), (q13795, .inr (15, [.ref q13796, .int p13801])), (q13796, .inl (I .byte, 8192, .inl f13802))]) (cs' := 0) (sl' := 0) rfl rfl rfl ?_
                refine G_if_eq 151 d_cX9_advance_138 (by decide +kernel) (fun hc => absurd hc (by decide)) (fun _ => ?_)
                refine G_aload_n 3 d_cX9_advance_141 rfl ?_
                refine G_iconst 2 d_cX9_advance_142 (by decide +kernel) ?_
                refine G_bipush 100 d_cX9_advance_143 (by decide +kernel) ?_
                refine G_callV (As := [.int 2, .int 100]) (wr := []) (gV_ok D I) (ct_661_Signs_takeNamed l hl0 D I q13794 q13795 q13796 2 100 p13797 0 o14286 p13800 p13801 f13802 (gB_w (gBl (show Int32.toInt 2 = 2 by decide)) (by decide) (by decide)) (gB_w bp13801'' (by decide) (by decide)) bf13802 (by have qa0 : Int32.toInt 0 = 0 := (by decide); have qa1 : Int32.toInt 2 = 2 := (by decide); have qa2 : Int32.toInt 100 = 100 := (by decide); omega)) d_cX9_advance_145 ⟨w_3_41, w_1_4, w_3_44, by decide, rfl, (Nat.le_of_ble_eq_true rfl), (Nat.le_of_ble_eq_true rfl)⟩ w_3_43 w_p_3 0 rfl rfl [0, 1, 2] [] rfl rfl rfl rfl (by decide) (Nat.le_of_ble_eq_true rfl) (Nat.le_of_ble_eq_true rfl) (Nat.le_of_ble_eq_true rfl) (fun r w hp => ?_) (fun _ _ _ z => z.elim)
                obtain ⟨o14518, o14519, o14520, rfl, rfl, bo14518, bo14519, bo14520, x14521⟩ := hp
                change G _ _ _ _ _ _ _ _ _ _ _
                refine G_ws (ws' := [(q13794, .inr (14, [.ref q13795, .int o14518, .int o14519, .int o14286, .int o14520])), (q13795, .inr (15, [.ref q13796, .int p13801])), (q13796, .inl (I .byte, 8192, .inl f13802))]) (cs' := 0) (sl' := 0) rfl rfl rfl ?_
                refine G_goto 194 d_cX9_advance_148 (by decide +kernel) ?_
                exact G_vret d_cX9_advance_194 rfl (Nat.le_of_ble_eq_true rfl) (Nat.le_of_ble_eq_true rfl) ⟨o14518, o14519, o14286, o14520, rfl, rfl, (gB_w bo14518 (by decide) (by decide)), bo14519, (gB_w bo14286'' (by decide) (by decide)), bo14520, (by have qa0 : Int32.toInt 1 = 1 := (by decide); omega)⟩
          · have r14293' : gB z14290 48 255 := ⟨by omega, by omega⟩
            have r14293'' : gB z14290 48 57 := ⟨by omega, by omega⟩
            change G _ _ _ _ _ _ _ (.int 1 :: _) _ _ _
            refine G_ws (ws' := [(q13794, .inr (14, [.ref q13795, .int p13797, .int 0, .int o14286, .int p13800])), (q13795, .inr (15, [.ref q13796, .int p13801])), (q13796, .inl (I .byte, 8192, .inl f13802))]) (cs' := 0) (sl' := 0) rfl rfl rfl ?_
            refine G_if_ne 110 d_cX9_advance_90 (by decide +kernel) (fun _ => ?_) (fun hc => absurd hc (by decide))
            refine G_aload_n 3 d_cX9_advance_110 rfl ?_
            refine G_iload_n 1 d_cX9_advance_111 rfl ?_
            refine G_bipush 45 d_cX9_advance_112 (by decide +kernel) ?_
            refine G_icmp_ne 121 d_cX9_advance_114 (by decide +kernel) (fun _ => ?_) (fun hc => absurd (show False by have := gj_eq hc (show Int32.toInt 45 = 45 by decide); omega) not_false)
            refine G_iconst 0 d_cX9_advance_121 (by decide +kernel) ?_
            refine G_callV (As := [.int 0]) (wr := []) (gV_ok D I) (ct_624_Signs_takeNumber l hl0 D I q13794 q13795 q13796 0 p13797 0 o14286 p13800 p13801 f13802 (gB_w (gBl (show Int32.toInt 0 = 0 by decide)) (by decide) (by decide)) (gB_w bp13801'' (by decide) (by decide)) bf13802 (by have qa0 : Int32.toInt 0 = 0 := (by decide); omega)) d_cX9_advance_122 ⟨w_3_27, w_1_4, w_3_30, by decide, rfl, (Nat.le_of_ble_eq_true rfl), (Nat.le_of_ble_eq_true rfl)⟩ w_3_29 w_p_1 0 rfl rfl [0, 1, 2] [] rfl rfl rfl rfl (by decide) (Nat.le_of_ble_eq_true rfl) (Nat.le_of_ble_eq_true rfl) (Nat.le_of_ble_eq_true rfl) (fun r w hp => ?_) (fun _ _ _ z => z.elim)
            obtain ⟨o14522, o14523, o14524, rfl, rfl, bo14522, bo14523, bo14524, x14525⟩ := hp
            change G _ _ _ _ _ _ _ _ _ _ _
            refine G_ws (ws' := [(q13794, .inr (14, [.ref q13795, .int o14522, .int o14523, .int o14286, .int o14524])), (q13795, .inr (15, [.ref q13796, .int p13801])), (q13796, .inl (I .byte, 8192, .inl f13802))]) (cs' := 0) (sl' := 0) rfl rfl rfl ?_
            refine G_goto 194 d_cX9_advance_125 (by decide +kernel) ?_
            exact G_vret d_cX9_advance_194 rfl (Nat.le_of_ble_eq_true rfl) (Nat.le_of_ble_eq_true rfl) ⟨o14522, o14523, o14286, o14524, rfl, rfl, (gB_w bo14522 (by decide) (by decide)), bo14523, (gB_w bo14286'' (by decide) (by decide)), bo14524, (by have qa0 : Int32.toInt 1 = 1 := (by decide); omega)⟩
