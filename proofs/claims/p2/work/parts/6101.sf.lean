abbrev ky_7_Long_bitCount : gKey := (cJ13_bitCount_95d88, 2, yJ13_bitCount_95d88.cls, (some FieldType.int), [], yJ13_bitCount_95d88.name, fun _ _ => True)
abbrev po_7_Long_bitCount (I : FieldType → ClassId) (pl6 : Int64) : Option Value → va_W → Prop := fun r w => ∃ (o26 : Int32), r = some (.int o26) ∧ w = [] ∧ gB o26 0 127 ∧ o26 = lb_bc pl6
set_option maxRecDepth 100000 in
set_option maxHeartbeats 4000000 in
theorem ct_7_Long_bitCount (l : Launch) (hl0 : l.stackTraces = false) (D : va_G) (I : FieldType → ClassId) (pl6 : Int64)  : Ct (gV D I) l yJ13_bitCount_95d88 cJ13_bitCount_95d88 2 (some FieldType.int) 0 0 0 0 [.long pl6] [] (po_7_Long_bitCount I pl6) gN := by
  refine Ct_ofF hl0 (by decide +kernel) (Nat.le_of_ble_eq_true rfl) ?_
  refine G_lload_n 0 d_cJ13_bitCount_95d88_0 rfl ?_
  refine G_lload_n 0 d_cJ13_bitCount_95d88_1 rfl ?_
  refine G_iconst 1 d_cJ13_bitCount_95d88_2 (by decide +kernel) ?_
  refine G_lushr d_cJ13_bitCount_95d88_3 (G_namL fun u8 hu8 => ?_)
  refine G_ldc2 6148914691236517205 d_cJ13_bitCount_95d88_4 w_4_96 ?_
  refine G_land d_cJ13_bitCount_95d88_7 (G_namL fun u9 hu9 => ?_)
  refine G_lsub d_cJ13_bitCount_95d88_8 (G_namL fun u10 hu10 => ?_)
  refine G_lstore_n (L' := [(0, .long u10)]) d_cJ13_bitCount_95d88_9 (Nat.le_of_ble_eq_true rfl) rfl ?_
  refine G_lload_n 0 d_cJ13_bitCount_95d88_10 rfl ?_
  refine G_ldc2 3689348814741910323 d_cJ13_bitCount_95d88_11 w_4_97 ?_
  refine G_land d_cJ13_bitCount_95d88_14 (G_namL fun u11 hu11 => ?_)
  refine G_lload_n 0 d_cJ13_bitCount_95d88_15 rfl ?_
  refine G_iconst 2 d_cJ13_bitCount_95d88_16 (by decide +kernel) ?_
  refine G_lushr d_cJ13_bitCount_95d88_17 (G_namL fun u12 hu12 => ?_)
  refine G_ldc2 3689348814741910323 d_cJ13_bitCount_95d88_18 w_4_97 ?_
  refine G_land d_cJ13_bitCount_95d88_21 (G_namL fun u13 hu13 => ?_)
  refine G_ladd d_cJ13_bitCount_95d88_22 (G_namL fun u14 hu14 => ?_)
  refine G_lstore_n (L' := [(0, .long u14)]) d_cJ13_bitCount_95d88_23 (Nat.le_of_ble_eq_true rfl) rfl ?_
  refine G_lload_n 0 d_cJ13_bitCount_95d88_24 rfl ?_
  refine G_lload_n 0 d_cJ13_bitCount_95d88_25 rfl ?_
  refine G_iconst 4 d_cJ13_bitCount_95d88_26 (by decide +kernel) ?_
  refine G_lushr d_cJ13_bitCount_95d88_27 (G_namL fun u15 hu15 => ?_)
  refine G_ladd d_cJ13_bitCount_95d88_28 (G_namL fun u16 hu16 => ?_)
  refine G_ldc2 1085102592571150095 d_cJ13_bitCount_95d88_29 w_4_98 ?_
  refine G_land d_cJ13_bitCount_95d88_32 (G_namL fun u17 hu17 => ?_)
  refine G_lstore_n (L' := [(0, .long u17)]) d_cJ13_bitCount_95d88_33 (Nat.le_of_ble_eq_true rfl) rfl ?_
  refine G_lload_n 0 d_cJ13_bitCount_95d88_34 rfl ?_
  refine G_lload_n 0 d_cJ13_bitCount_95d88_35 rfl ?_
  refine G_bipush 8 d_cJ13_bitCount_95d88_36 (by decide +kernel) ?_
  refine G_lushr d_cJ13_bitCount_95d88_38 (G_namL fun u18 hu18 => ?_)
  refine G_ladd d_cJ13_bitCount_95d88_39 (G_namL fun u19 hu19 => ?_)
  refine G_lstore_n (L' := [(0, .long u19)]) d_cJ13_bitCount_95d88_40 (Nat.le_of_ble_eq_true rfl) rfl ?_
  refine G_lload_n 0 d_cJ13_bitCount_95d88_41 rfl ?_
  refine G_lload_n 0 d_cJ13_bitCount_95d88_42 rfl ?_
  refine G_bipush 16 d_cJ13_bitCount_95d88_43 (by decide +kernel) ?_
  refine G_lushr d_cJ13_bitCount_95d88_45 (G_namL fun u20 hu20 => ?_)
  refine G_ladd d_cJ13_bitCount_95d88_46 (G_namL fun u21 hu21 => ?_)
  refine G_lstore_n (L' := [(0, .long u21)]) d_cJ13_bitCount_95d88_47 (Nat.le_of_ble_eq_true rfl) rfl ?_
  refine G_lload_n 0 d_cJ13_bitCount_95d88_48 rfl ?_
  refine G_lload_n 0 d_cJ13_bitCount_95d88_49 rfl ?_
  refine G_bipush 32 d_cJ13_bitCount_95d88_50 (by decide +kernel) ?_
  refine G_lushr d_cJ13_bitCount_95d88_52 (G_namL fun u22 hu22 => ?_)
  refine G_ladd d_cJ13_bitCount_95d88_53 (G_namL fun u23 hu23 => ?_)
  refine G_lstore_n (L' := [(0, .long u23)]) d_cJ13_bitCount_95d88_54 (Nat.le_of_ble_eq_true rfl) rfl ?_
  refine G_lload_n 0 d_cJ13_bitCount_95d88_55 rfl ?_
  refine G_l2i d_cJ13_bitCount_95d88_56 (G_nam fun z24 hz24 => ?_)
  have bz24 : gB z24 (-2147483648) 2147483647 := gB_any z24
  refine G_bipush 127 d_cJ13_bitCount_95d88_57 (by decide +kernel) ?_
  refine G_iand d_cJ13_bitCount_95d88_59 (G_nam fun z25 hz25 => ?_)
  have bz25 : gB z25 0 127 := gB_and hz25 (gBl (show Int32.toInt 127 = 127 by decide)) (by decide)
  exact G_iret d_cJ13_bitCount_95d88_60 rfl (Nat.le_of_ble_eq_true rfl) (Nat.le_of_ble_eq_true rfl) ⟨z25, rfl, rfl, bz25, (by subst_vars; rfl)⟩
abbrev ky_2_SpillForge_lowestBit : gKey := (cX11_lowestBit, 2, yX11_lowestBit.cls, (some FieldType.int), [], yX11_lowestBit.name, fun _ _ => True)
abbrev po_2_SpillForge_lowestBit (I : FieldType → ClassId) (pl1 : Int64) : Option Value → va_W → Prop := fun r w => ∃ (o29 : Int32), r = some (.int o29) ∧ w = [] ∧ gB o29 0 127 ∧ o29 = lb_bc ((pl1 &&& (-pl1)) - 1)
set_option maxRecDepth 100000 in
set_option maxHeartbeats 4000000 in
theorem ct_2_SpillForge_lowestBit (l : Launch) (hl0 : l.stackTraces = false) (D : va_G) (I : FieldType → ClassId) (pl1 : Int64)  : Ct (gV D I) l yX11_lowestBit cX11_lowestBit 2 (some FieldType.int) 1 21 0 0 [.long pl1] [] (po_2_SpillForge_lowestBit I pl1) gN := by
  refine Ct_of hl0 (by decide) (Nat.le_of_ble_eq_true rfl) ?_
  refine G_lload_n 0 d_cX11_lowestBit_0 rfl ?_
  refine G_lload_n 0 d_cX11_lowestBit_1 rfl ?_
  refine G_lneg d_cX11_lowestBit_2 (G_namL fun u3 hu3 => ?_)
  refine G_land d_cX11_lowestBit_3 (G_namL fun u4 hu4 => ?_)
  refine G_lconst 1 d_cX11_lowestBit_4 rfl ?_
  refine G_lsub d_cX11_lowestBit_5 (G_namL fun u5 hu5 => ?_)
  refine G_callS (As := [.long u5]) (wr := []) (gV_ok D I) (ct_7_Long_bitCount l hl0 D I u5 ) d_cX11_lowestBit_6 ⟨w_4_128, w_1_31, w_4_95, by decide, rfl, (Nat.le_of_ble_eq_true rfl), (Nat.le_of_ble_eq_true rfl)⟩ w_4_94 [] [] rfl rfl rfl rfl (by decide) (Nat.le_of_ble_eq_true rfl) (Nat.le_of_ble_eq_true rfl) (Nat.le_of_ble_eq_true rfl) (fun r w hp => ?_) (fun _ _ _ z => z.elim)
  obtain ⟨o27, rfl, rfl, bo27, x28⟩ := hp
  change G _ _ _ _ _ _ _ (.int o27 :: _) _ _ _
  refine G_ws (ws' := []) (cs' := 0) (sl' := 0) rfl rfl rfl ?_
  exact G_iret d_cX11_lowestBit_9 rfl (Nat.le_of_ble_eq_true rfl) (Nat.le_of_ble_eq_true rfl) ⟨o27, rfl, rfl, bo27, (by subst_vars; rfl)⟩
