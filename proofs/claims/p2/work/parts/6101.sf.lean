abbrev ky_52_Long_bitCount : gKey := (cJ13_bitCount_95d88, 2, yJ13_bitCount_95d88.cls, (some FieldType.int), [], yJ13_bitCount_95d88.name, fun _ _ => True)
abbrev po_52_Long_bitCount (I : FieldType → ClassId) (pl51 : Int64) : Option Value → va_W → Prop := fun r w => ∃ (o71 : Int32), r = some (.int o71) ∧ w = [] ∧ gB o71 0 127 ∧ o71 = lb_bc pl51
set_option maxRecDepth 100000 in
set_option maxHeartbeats 4000000 in
theorem ct_52_Long_bitCount (l : Launch) (hl0 : l.stackTraces = false) (D : va_G) (I : FieldType → ClassId) (pl51 : Int64)  : Ct (gV D I) l yJ13_bitCount_95d88 cJ13_bitCount_95d88 2 (some FieldType.int) 0 0 0 0 [.long pl51] [] (po_52_Long_bitCount I pl51) gN := by
  refine Ct_ofF hl0 (by decide +kernel) (Nat.le_of_ble_eq_true rfl) ?_
  refine G_lload_n 0 d_cJ13_bitCount_95d88_0 rfl ?_
  refine G_lload_n 0 d_cJ13_bitCount_95d88_1 rfl ?_
  refine G_iconst 1 d_cJ13_bitCount_95d88_2 (by decide +kernel) ?_
  refine G_lushr d_cJ13_bitCount_95d88_3 (G_namL fun u53 hu53 => ?_)
  refine G_ldc2 6148914691236517205 d_cJ13_bitCount_95d88_4 w_4_96 ?_
  refine G_land d_cJ13_bitCount_95d88_7 (G_namL fun u54 hu54 => ?_)
  refine G_lsub d_cJ13_bitCount_95d88_8 (G_namL fun u55 hu55 => ?_)
  refine G_lstore_n (L' := [(0, .long u55)]) d_cJ13_bitCount_95d88_9 (Nat.le_of_ble_eq_true rfl) rfl ?_
  refine G_lload_n 0 d_cJ13_bitCount_95d88_10 rfl ?_
  refine G_ldc2 3689348814741910323 d_cJ13_bitCount_95d88_11 w_4_97 ?_
  refine G_land d_cJ13_bitCount_95d88_14 (G_namL fun u56 hu56 => ?_)
  refine G_lload_n 0 d_cJ13_bitCount_95d88_15 rfl ?_
  refine G_iconst 2 d_cJ13_bitCount_95d88_16 (by decide +kernel) ?_
  refine G_lushr d_cJ13_bitCount_95d88_17 (G_namL fun u57 hu57 => ?_)
  refine G_ldc2 3689348814741910323 d_cJ13_bitCount_95d88_18 w_4_97 ?_
  refine G_land d_cJ13_bitCount_95d88_21 (G_namL fun u58 hu58 => ?_)
  refine G_ladd d_cJ13_bitCount_95d88_22 (G_namL fun u59 hu59 => ?_)
  refine G_lstore_n (L' := [(0, .long u59)]) d_cJ13_bitCount_95d88_23 (Nat.le_of_ble_eq_true rfl) rfl ?_
  refine G_lload_n 0 d_cJ13_bitCount_95d88_24 rfl ?_
  refine G_lload_n 0 d_cJ13_bitCount_95d88_25 rfl ?_
  refine G_iconst 4 d_cJ13_bitCount_95d88_26 (by decide +kernel) ?_
  refine G_lushr d_cJ13_bitCount_95d88_27 (G_namL fun u60 hu60 => ?_)
  refine G_ladd d_cJ13_bitCount_95d88_28 (G_namL fun u61 hu61 => ?_)
  refine G_ldc2 1085102592571150095 d_cJ13_bitCount_95d88_29 w_4_98 ?_
  refine G_land d_cJ13_bitCount_95d88_32 (G_namL fun u62 hu62 => ?_)
  refine G_lstore_n (L' := [(0, .long u62)]) d_cJ13_bitCount_95d88_33 (Nat.le_of_ble_eq_true rfl) rfl ?_
  refine G_lload_n 0 d_cJ13_bitCount_95d88_34 rfl ?_
  refine G_lload_n 0 d_cJ13_bitCount_95d88_35 rfl ?_
  refine G_bipush 8 d_cJ13_bitCount_95d88_36 (by decide +kernel) ?_
  refine G_lushr d_cJ13_bitCount_95d88_38 (G_namL fun u63 hu63 => ?_)
  refine G_ladd d_cJ13_bitCount_95d88_39 (G_namL fun u64 hu64 => ?_)
  refine G_lstore_n (L' := [(0, .long u64)]) d_cJ13_bitCount_95d88_40 (Nat.le_of_ble_eq_true rfl) rfl ?_
  refine G_lload_n 0 d_cJ13_bitCount_95d88_41 rfl ?_
  refine G_lload_n 0 d_cJ13_bitCount_95d88_42 rfl ?_
  refine G_bipush 16 d_cJ13_bitCount_95d88_43 (by decide +kernel) ?_
  refine G_lushr d_cJ13_bitCount_95d88_45 (G_namL fun u65 hu65 => ?_)
  refine G_ladd d_cJ13_bitCount_95d88_46 (G_namL fun u66 hu66 => ?_)
  refine G_lstore_n (L' := [(0, .long u66)]) d_cJ13_bitCount_95d88_47 (Nat.le_of_ble_eq_true rfl) rfl ?_
  refine G_lload_n 0 d_cJ13_bitCount_95d88_48 rfl ?_
  refine G_lload_n 0 d_cJ13_bitCount_95d88_49 rfl ?_
  refine G_bipush 32 d_cJ13_bitCount_95d88_50 (by decide +kernel) ?_
  refine G_lushr d_cJ13_bitCount_95d88_52 (G_namL fun u67 hu67 => ?_)
  refine G_ladd d_cJ13_bitCount_95d88_53 (G_namL fun u68 hu68 => ?_)
  refine G_lstore_n (L' := [(0, .long u68)]) d_cJ13_bitCount_95d88_54 (Nat.le_of_ble_eq_true rfl) rfl ?_
  refine G_lload_n 0 d_cJ13_bitCount_95d88_55 rfl ?_
  refine G_l2i d_cJ13_bitCount_95d88_56 (G_nam fun z69 hz69 => ?_)
  have bz69 : gB z69 (-2147483648) 2147483647 := gB_any z69
  refine G_bipush 127 d_cJ13_bitCount_95d88_57 (by decide +kernel) ?_
  refine G_iand d_cJ13_bitCount_95d88_59 (G_nam fun z70 hz70 => ?_)
  have bz70 : gB z70 0 127 := gB_and hz70 (gBl (show Int32.toInt 127 = 127 by decide)) (by decide)
  exact G_iret d_cJ13_bitCount_95d88_60 rfl (Nat.le_of_ble_eq_true rfl) (Nat.le_of_ble_eq_true rfl) ⟨z70, rfl, rfl, bz70, (by subst_vars; rfl)⟩
abbrev ky_47_SpillForge_lowestBit : gKey := (cX11_lowestBit, 2, yX11_lowestBit.cls, (some FieldType.int), [], yX11_lowestBit.name, fun _ _ => True)
abbrev po_47_SpillForge_lowestBit (I : FieldType → ClassId) (pl46 : Int64) : Option Value → va_W → Prop := fun r w => ∃ (o74 : Int32), r = some (.int o74) ∧ w = [] ∧ gB o74 0 127 ∧ o74 = lb_bc ((pl46 &&& (-pl46)) - 1)
set_option maxRecDepth 100000 in
set_option maxHeartbeats 4000000 in
theorem ct_47_SpillForge_lowestBit (l : Launch) (hl0 : l.stackTraces = false) (D : va_G) (I : FieldType → ClassId) (pl46 : Int64)  : Ct (gV D I) l yX11_lowestBit cX11_lowestBit 2 (some FieldType.int) 1 21 0 0 [.long pl46] [] (po_47_SpillForge_lowestBit I pl46) gN := by
  refine Ct_of hl0 (by decide) (Nat.le_of_ble_eq_true rfl) ?_
  refine G_lload_n 0 d_cX11_lowestBit_0 rfl ?_
  refine G_lload_n 0 d_cX11_lowestBit_1 rfl ?_
  refine G_lneg d_cX11_lowestBit_2 (G_namL fun u48 hu48 => ?_)
  refine G_land d_cX11_lowestBit_3 (G_namL fun u49 hu49 => ?_)
  refine G_lconst 1 d_cX11_lowestBit_4 rfl ?_
  refine G_lsub d_cX11_lowestBit_5 (G_namL fun u50 hu50 => ?_)
  refine G_callS (As := [.long u50]) (wr := []) (gV_ok D I) (ct_52_Long_bitCount l hl0 D I u50 ) d_cX11_lowestBit_6 ⟨w_4_128, w_1_31, w_4_95, by decide, rfl, (Nat.le_of_ble_eq_true rfl), (Nat.le_of_ble_eq_true rfl)⟩ w_4_94 [] [] rfl rfl rfl rfl (by decide) (Nat.le_of_ble_eq_true rfl) (Nat.le_of_ble_eq_true rfl) (Nat.le_of_ble_eq_true rfl) (fun r w hp => ?_) (fun _ _ _ z => z.elim)
  obtain ⟨o72, rfl, rfl, bo72, x73⟩ := hp
  change G _ _ _ _ _ _ _ (.int o72 :: _) _ _ _
  refine G_ws (ws' := []) (cs' := 0) (sl' := 0) rfl rfl rfl ?_
  exact G_iret d_cX11_lowestBit_9 rfl (Nat.le_of_ble_eq_true rfl) (Nat.le_of_ble_eq_true rfl) ⟨o72, rfl, rfl, bo72, (by subst_vars; rfl)⟩
abbrev ky_31_Graph_joinToLive : gKey := (cX3_joinToLive, 8, yX3_joinToLive.cls, none, [], yX3_joinToLive.name, fun _ _ => True)
abbrev po_31_Graph_joinToLive (I : FieldType → ClassId) (q1 : Nat) (q2 : Nat) (q3 : Nat) (q4 : Nat) (q5 : Nat) (q6 : Nat) (q7 : Nat) (q8 : Nat) (q9 : Nat) (p10 : Int32) (p11 : Int32) (p12 : Int32) (p13 : Int32) (p14 : Int32) (p15 : Int32) (p16 : Int32) (f17 : Nat → Int64) (f18 : Nat → Int64) (f19 : Nat → Int32) (f20 : Nat → Int64) (f21 : Nat → Int64) (f22 : Nat → Int64) (f23 : Nat → Int64) : Option Value → va_W → Prop := fun r w => ∃ (f1947 : Nat → Int64), r = none ∧ w = [(q1, .inr (8, [.ref q2, .ref q3, .ref q4, .ref q5, .int p12, .int p13])), (q2, .inr (10, [.ref q6, .ref q7, .ref q8, .ref q9, .int p14, .int p15, .int p16])), (q3, .inl (I .long, 8640, .inr (.inl f1947))), (q4, .inl (I .long, 12, .inr (.inl f18))), (q5, .inl (I .int, 720, .inl f19)), (q6, .inl (I .long, 480, .inr (.inl f20))), (q7, .inl (I .long, 480, .inr (.inl f21))), (q8, .inl (I .long, 480, .inr (.inl f22))), (q9, .inl (I .long, 12, .inr (.inl f23)))] ∧ lb_W f1947 (p12.toInt * p13.toInt) (p13.toInt) (p12.toInt)
set_option maxRecDepth 100000 in
set_option maxHeartbeats 4000000 in
theorem ct_31_Graph_joinToLive (l : Launch) (hl0 : l.stackTraces = false) (D : va_G) (I : FieldType → ClassId) (q1 : Nat) (q2 : Nat) (q3 : Nat) (q4 : Nat) (q5 : Nat) (q6 : Nat) (q7 : Nat) (q8 : Nat) (q9 : Nat) (p10 : Int32) (p11 : Int32) (p12 : Int32) (p13 : Int32) (p14 : Int32) (p15 : Int32) (p16 : Int32) (f17 : Nat → Int64) (f18 : Nat → Int64) (f19 : Nat → Int32) (f20 : Nat → Int64) (f21 : Nat → Int64) (f22 : Nat → Int64) (f23 : Nat → Int64) (bp10 : gB p10 0 719) (bp12 : gB p12 0 720) (bp13 : gB p13 0 12) (bp14 : gB p14 0 720) (bp15 : gB p15 0 12) (bp16 : gB p16 0 1) (x24 : p10.toInt < p12.toInt) (x25 : lb_W f23 (p15.toInt) (p15.toInt) (p14.toInt)) (x26 : p13.toInt = p15.toInt) (x27 : p12.toInt = p14.toInt) (x28 : p13.toInt = (p12.toInt + 63) / 64) (x29 : lb_W f17 (p12.toInt * p13.toInt) (p13.toInt) (p12.toInt)) (x30 : p15.toInt = (p14.toInt + 63) / 64) : Ct (gV D I) l yX3_joinToLive cX3_joinToLive 8 none 2 42 0 0 [.ref q1, .int p10, .int p11] [(q1, .inr (8, [.ref q2, .ref q3, .ref q4, .ref q5, .int p12, .int p13])), (q2, .inr (10, [.ref q6, .ref q7, .ref q8, .ref q9, .int p14, .int p15, .int p16])), (q3, .inl (I .long, 8640, .inr (.inl f17))), (q4, .inl (I .long, 12, .inr (.inl f18))), (q5, .inl (I .int, 720, .inl f19)), (q6, .inl (I .long, 480, .inr (.inl f20))), (q7, .inl (I .long, 480, .inr (.inl f21))), (q8, .inl (I .long, 480, .inr (.inl f22))), (q9, .inl (I .long, 12, .inr (.inl f23)))] (po_31_Graph_joinToLive I q1 q2 q3 q4 q5 q6 q7 q8 q9 p10 p11 p12 p13 p14 p15 p16 f17 f18 f19 f20 f21 f22 f23) gN := by
  refine Ct_of hl0 (by decide) (Nat.le_of_ble_eq_true rfl) ?_
  have bp11 := gB_any p11
  refine G_iconst 0 d_cX3_joinToLive_0 (by decide +kernel) ?_
  refine G_istore_n (L' := [(3, .int 0), (0, .ref q1), (1, .int p10), (2, .int p11)]) d_cX3_joinToLive_1 (Nat.le_of_ble_eq_true rfl) rfl ?_
  have hlp2_1677 : ∀ (n2_1677 : Nat) (g1675 : Int32) (f1676 : Nat → Int64), gB g1675 0 12 → lb_W f1676 (p12.toInt * p13.toInt) (p13.toInt) (p12.toInt) → ((13 : Int) - g1675.toInt).toNat < n2_1677 → G (gV D I) l (gRm 2 42 0 0) (gM (gV D I) (po_31_Graph_joinToLive I q1 q2 q3 q4 q5 q6 q7 q8 q9 p10 p11 p12 p13 p14 p15 p16 f17 f18 f19 f20 f21 f22 f23) gN 0 0) ky_31_Graph_joinToLive 2 [(3, .int g1675), (0, .ref q1), (1, .int p10), (2, .int p11)] [] [(q1, .inr (8, [.ref q2, .ref q3, .ref q4, .ref q5, .int p12, .int p13])), (q2, .inr (10, [.ref q6, .ref q7, .ref q8, .ref q9, .int p14, .int p15, .int p16])), (q3, .inl (I .long, 8640, .inr (.inl f1676))), (q4, .inl (I .long, 12, .inr (.inl f18))), (q5, .inl (I .int, 720, .inl f19)), (q6, .inl (I .long, 480, .inr (.inl f20))), (q7, .inl (I .long, 480, .inr (.inl f21))), (q8, .inl (I .long, 480, .inr (.inl f22))), (q9, .inl (I .long, 12, .inr (.inl f23)))] 0 0 := by
    intro n2_1677
    induction n2_1677 with
    | zero => intro g1675 f1676 bg1675 x1677 hm2_1677; exact absurd hm2_1677 (Nat.not_lt_zero _)
    | succ n2_1677 ih2_1677 =>
      intro g1675 f1676 bg1675 x1677 hm2_1677
      refine G_iload_n 0 d_cX3_joinToLive_2 rfl ?_
      refine G_aload_n 1 d_cX3_joinToLive_3 rfl ?_
      refine G_getf 0 5 d_cX3_joinToLive_4 rfl (gk_X3 D I) (Nat.le_of_ble_eq_true rfl) w_2_57 rfl ?_
      refine G_icmp_ge 144 d_cX3_joinToLive_7 (by decide +kernel) (fun hc1678 => ?_) (fun hc1678 => ?_)
      · have r1679 : p13.toInt ≤ g1675.toInt := gC_le hc1678
        exact G_vret d_cX3_joinToLive_144 rfl (Nat.le_of_ble_eq_true rfl) (Nat.le_of_ble_eq_true rfl) ⟨f1676, rfl, rfl, x1677⟩
      · have r1680 : g1675.toInt < p13.toInt := gC_nle hc1678
        have bg1675' : gB g1675 0 11 := ⟨by omega, by omega⟩
        have bp13' : gB p13 1 12 := ⟨by omega, by omega⟩
        refine G_aload_n 1 d_cX3_joinToLive_10 rfl ?_
        refine G_getf 0 0 d_cX3_joinToLive_11 rfl (gk_X3 D I) (Nat.le_of_ble_eq_true rfl) w_2_47 rfl ?_
        refine G_getfN 1 3 d_cX3_joinToLive_14 rfl (gk_X5 D I) (Nat.le_of_ble_eq_true rfl) (fun _ _ _ h => gn_w 52 rfl h) rfl ?_
        refine G_iload_n 0 d_cX3_joinToLive_17 rfl ?_
        refine G_lald 8 2 d_cX3_joinToLive_18 rfl rfl (gB_in bg1675' (by decide) (by decide)) (G_namL fun u1681 hu1681 => ?_)
        have qu1681 : lb_Q u1681 (p14.toInt - 64 * g1675.toInt) := lb_Wld hu1681 x25 (by omega) (by omega) (lb_Mod0 (by omega) (by omega))
        refine G_aload_n 1 d_cX3_joinToLive_19 rfl ?_
        refine G_getf 0 1 d_cX3_joinToLive_20 rfl (gk_X3 D I) (Nat.le_of_ble_eq_true rfl) w_2_49 rfl ?_
        refine G_iload_n 2 d_cX3_joinToLive_23 rfl ?_
        refine G_aload_n 1 d_cX3_joinToLive_24 rfl ?_
        refine G_getf 0 5 d_cX3_joinToLive_25 rfl (gk_X3 D I) (Nat.le_of_ble_eq_true rfl) w_2_57 rfl ?_
        refine G_imul d_cX3_joinToLive_28 (G_nam fun z1682 hz1682 => ?_)
        have ez1682 : z1682.toInt = p10.toInt * p13.toInt := by rw [gI_mul hz1682 bp10 bp13' (by decide) (by decide) (by decide)]
        have bz1682 : gB z1682 0 8628 := gB_mul hz1682 bp10 bp13' (by decide) (by decide) (by decide) (by decide)
        refine G_iload_n 0 d_cX3_joinToLive_29 rfl ?_
        refine G_iadd d_cX3_joinToLive_30 (G_nam fun z1683 hz1683 => ?_)
        have ez1683 : z1683.toInt = z1682.toInt + g1675.toInt := by rw [gI_add hz1683 bz1682 bg1675' (by decide) (by decide)]
        have bz1683 : gB z1683 0 8639 := gB_add (gI_add hz1683 bz1682 bg1675' (by decide) (by decide)) bz1682 bg1675' (by decide) (by decide)
        refine G_lald 2 2 d_cX3_joinToLive_31 rfl rfl (gB_in bz1683 (by decide) (by decide)) (G_namL fun u1684 hu1684 => ?_)
        have qu1684 : lb_Q u1684 (p12.toInt - 64 * g1675.toInt) := lb_Wld hu1684 x1677 (by omega) (lb_Lt1 ez1683 ez1682 (by omega) (by omega) (by omega)) (lb_Mod1 ez1683 ez1682 (by omega) (by omega))
        refine G_ldc2 (-1) d_cX3_joinToLive_32 w_4_124 ?_
        refine G_lxor d_cX3_joinToLive_35 (G_namL fun u1685 hu1685 => ?_)
        refine G_land d_cX3_joinToLive_36 (G_namL fun u1686 hu1686 => ?_)
        have qu1686 : lb_Q u1686 (p14.toInt - 64 * g1675.toInt) := lb_QandL hu1686 qu1681
        refine G_lstore (L' := [(4, .long u1686), (3, .int g1675), (0, .ref q1), (1, .int p10), (2, .int p11)]) d_cX3_joinToLive_37 (Nat.le_of_ble_eq_true rfl) rfl ?_
        refine G_iconst 0 d_cX3_joinToLive_39 (by decide +kernel) ?_
        refine G_istore (L' := [(6, .int 0), (4, .long u1686), (3, .int g1675), (0, .ref q1), (1, .int p10), (2, .int p11)]) d_cX3_joinToLive_40 (Nat.le_of_ble_eq_true rfl) rfl ?_
        have hlp42_1909 : ∀ (n42_1909 : Nat) (g1905 : Int32) (gl1906 : Int64) (f1907 : Nat → Int64), gB g1905 0 64 → lb_Q gl1906 (p14.toInt - 64 * g1675.toInt) → lb_W f1907 (p12.toInt * p13.toInt) (p13.toInt) (p12.toInt) → ((65 : Int) - g1905.toInt).toNat < n42_1909 → G (gV D I) l (gRm 2 42 0 0) (gM (gV D I) (po_31_Graph_joinToLive I q1 q2 q3 q4 q5 q6 q7 q8 q9 p10 p11 p12 p13 p14 p15 p16 f17 f18 f19 f20 f21 f22 f23) gN 0 0) ky_31_Graph_joinToLive 42 [(6, .int g1905), (4, .long gl1906), (3, .int g1675), (0, .ref q1), (1, .int p10), (2, .int p11)] [] [(q1, .inr (8, [.ref q2, .ref q3, .ref q4, .ref q5, .int p12, .int p13])), (q2, .inr (10, [.ref q6, .ref q7, .ref q8, .ref q9, .int p14, .int p15, .int p16])), (q3, .inl (I .long, 8640, .inr (.inl f1907))), (q4, .inl (I .long, 12, .inr (.inl f18))), (q5, .inl (I .int, 720, .inl f19)), (q6, .inl (I .long, 480, .inr (.inl f20))), (q7, .inl (I .long, 480, .inr (.inl f21))), (q8, .inl (I .long, 480, .inr (.inl f22))), (q9, .inl (I .long, 12, .inr (.inl f23)))] 0 0 := by
          intro n42_1909
          induction n42_1909 with
          | zero => intro g1905 gl1906 f1907 bg1905 x1908 x1909 hm42_1909; exact absurd hm42_1909 (Nat.not_lt_zero _)
          | succ n42_1909 ih42_1909 =>
            intro g1905 gl1906 f1907 bg1905 x1908 x1909 hm42_1909
            refine G_iload 0 d_cX3_joinToLive_42 rfl ?_
            refine G_bipush 64 d_cX3_joinToLive_44 (by decide +kernel) ?_
            refine G_icmp_ge 138 d_cX3_joinToLive_46 (by decide +kernel) (fun hc1910 => ?_) (fun hc1910 => ?_)
            · have r1911 : 64 ≤ g1905.toInt := gj_leL hc1910 (show Int32.toInt 64 = 64 by decide)
              have bg1905' : gB g1905 64 64 := ⟨by omega, by omega⟩
              obtain ⟨z1912, hz1912⟩ : ∃ z : Int32, z = g1675 + Int32.ofInt 1 := ⟨_, rfl⟩
              have ez1912 : z1912.toInt = g1675.toInt + 1 := gI_inc hz1912 (by decide) bg1675' (by decide) (by decide)
              have bz1912 : gB z1912 1 12 := ⟨by omega, by omega⟩
              refine G_iinc (L' := [(3, .int z1912), (6, .int g1905), (4, .long gl1906), (0, .ref q1), (1, .int p10), (2, .int p11)]) z1912 2 d_cX3_joinToLive_138 rfl hz1912.symm (Nat.le_of_ble_eq_true rfl) rfl ?_
              refine G_goto 2 d_cX3_joinToLive_141 (by decide +kernel) ?_
              refine G_lv (L' := [(3, .int z1912), (0, .ref q1), (1, .int p10), (2, .int p11)]) [0, 3, 4, 5] rfl ?_
              exact ih2_1677 z1912 f1907 (gB_w bz1912 (by decide) (by decide)) x1909 (by omega)
            · have r1913 : g1905.toInt < 64 := gj_nleL hc1910 (show Int32.toInt 64 = 64 by decide)
              have bg1905' : gB g1905 0 63 := ⟨by omega, by omega⟩
              refine G_lload 1 d_cX3_joinToLive_49 rfl ?_
              refine G_lconst 0 d_cX3_joinToLive_51 rfl ?_
              refine G_lcmp d_cX3_joinToLive_52 (G_nam fun z1914 hz1914 => ?_)
              have bz1914 : gB z1914 (-1) 1 := gB_cmp hz1914
              refine G_if_eq 138 d_cX3_joinToLive_53 (by decide +kernel) (fun hc1915 => ?_) (fun hc1915 => ?_)
              · have r1916 : z1914.toInt = 0 := gj_eq hc1915 (show Int32.toInt 0 = 0 by decide)
                have bz1914' : gB z1914 0 0 := ⟨by omega, by omega⟩
                have lhc1915 := gC_cmpE hz1914 hc1915
                obtain ⟨z1917, hz1917⟩ : ∃ z : Int32, z = g1675 + Int32.ofInt 1 := ⟨_, rfl⟩
                have ez1917 : z1917.toInt = g1675.toInt + 1 := gI_inc hz1917 (by decide) bg1675' (by decide) (by decide)
                have bz1917 : gB z1917 1 12 := ⟨by omega, by omega⟩
                refine G_iinc (L' := [(3, .int z1917), (6, .int g1905), (4, .long gl1906), (0, .ref q1), (1, .int p10), (2, .int p11)]) z1917 2 d_cX3_joinToLive_138 rfl hz1917.symm (Nat.le_of_ble_eq_true rfl) rfl ?_
                refine G_goto 2 d_cX3_joinToLive_141 (by decide +kernel) ?_
                refine G_lv (L' := [(3, .int z1917), (0, .ref q1), (1, .int p10), (2, .int p11)]) [0, 3, 4, 5] rfl ?_
                exact ih2_1677 z1917 f1907 (gB_w bz1917 (by decide) (by decide)) x1909 (by omega)
              · have r1918 : z1914.toInt ≠ 0 := gj_neq hc1915 (show Int32.toInt 0 = 0 by decide)
                have lhc1915 := gC_cmpN hz1914 hc1915
                refine G_iload_n 2 d_cX3_joinToLive_56 rfl ?_
                refine G_bipush 6 d_cX3_joinToLive_57 (by decide +kernel) ?_
                refine G_ishl d_cX3_joinToLive_59 (G_nam fun z1919 hz1919 => ?_)
                have ez1919 : z1919.toInt = g1675.toInt * 64 := gI_shl (k := 6) hz1919 (by decide) bg1675' (by decide) (by decide)
                have bz1919 : gB z1919 0 704 := ⟨by omega, by omega⟩
                refine G_lload 1 d_cX3_joinToLive_60 rfl ?_
                refine G_callSN (As := [.long gl1906]) (wr := [(q1, .inr (8, [.ref q2, .ref q3, .ref q4, .ref q5, .int p12, .int p13])), (q2, .inr (10, [.ref q6, .ref q7, .ref q8, .ref q9, .int p14, .int p15, .int p16])), (q3, .inl (I .long, 8640, .inr (.inl f1907))), (q4, .inl (I .long, 12, .inr (.inl f18))), (q5, .inl (I .int, 720, .inl f19)), (q6, .inl (I .long, 480, .inr (.inl f20))), (q7, .inl (I .long, 480, .inr (.inl f21))), (q8, .inl (I .long, 480, .inr (.inl f22))), (q9, .inl (I .long, 12, .inr (.inl f23)))]) (gV_ok D I) (ct_47_SpillForge_lowestBit l hl0 D I gl1906 ) d_cX3_joinToLive_62 ⟨(fun _ _ _ h => gn_w 63 rfl h), w_1_1, w_4_127, by decide, rfl, (Nat.le_of_ble_eq_true rfl), (Nat.le_of_ble_eq_true rfl)⟩ w_4_126 [] [0, 1, 2, 3, 4, 5, 6, 7, 8] rfl rfl rfl rfl (by decide) (Nat.le_of_ble_eq_true rfl) (Nat.le_of_ble_eq_true rfl) (Nat.le_of_ble_eq_true rfl) (fun r w hp => ?_)
                obtain ⟨o1920, rfl, rfl, bo1920, x1921⟩ := hp
                have lwo1920 := lb_lowE lhc1915 x1921
                have bo1920' : gB o1920 0 63 := ⟨by omega, by omega⟩
                have lqo1920 : o1920.toInt < p14.toInt - 64 * g1675.toInt := lb_lowQ lwo1920 x1908
                change G _ _ _ _ _ _ _ (.int o1920 :: _) _ _ _
                refine G_ws (ws' := [(q1, .inr (8, [.ref q2, .ref q3, .ref q4, .ref q5, .int p12, .int p13])), (q2, .inr (10, [.ref q6, .ref q7, .ref q8, .ref q9, .int p14, .int p15, .int p16])), (q3, .inl (I .long, 8640, .inr (.inl f1907))), (q4, .inl (I .long, 12, .inr (.inl f18))), (q5, .inl (I .int, 720, .inl f19)), (q6, .inl (I .long, 480, .inr (.inl f20))), (q7, .inl (I .long, 480, .inr (.inl f21))), (q8, .inl (I .long, 480, .inr (.inl f22))), (q9, .inl (I .long, 12, .inr (.inl f23)))]) (cs' := 0) (sl' := 0) rfl rfl rfl ?_
                refine G_ior d_cX3_joinToLive_65 (G_nam fun z1922 hz1922 => ?_)
                have ez1922 : z1922.toInt = z1919.toInt + o1920.toInt := gI_or (k := 6) (m := (g1675.toInt).toNat) hz1922 (by omega) (bo1920') (by decide) (by omega)
                have bz1922 : gB z1922 0 767 := ⟨by omega, by omega⟩
                refine G_istore (L' := [(7, .int z1922), (6, .int g1905), (4, .long gl1906), (3, .int g1675), (0, .ref q1), (1, .int p10), (2, .int p11)]) d_cX3_joinToLive_66 (Nat.le_of_ble_eq_true rfl) rfl ?_
                have bz1922' : gB z1922 0 719 := ⟨by omega, by omega⟩
                refine G_lload 2 d_cX3_joinToLive_68 rfl ?_
                refine G_lload 2 d_cX3_joinToLive_70 rfl ?_
                refine G_lconst 1 d_cX3_joinToLive_72 rfl ?_
                refine G_lsub d_cX3_joinToLive_73 (G_namL fun u1923 hu1923 => ?_)
                refine G_land d_cX3_joinToLive_74 (G_namL fun u1924 hu1924 => ?_)
                have qu1924 : lb_Q u1924 (p14.toInt - 64 * g1675.toInt) := lb_QandL hu1924 x1908
                refine G_lstore (L' := [(4, .long u1924), (7, .int z1922), (6, .int g1905), (3, .int g1675), (0, .ref q1), (1, .int p10), (2, .int p11)]) d_cX3_joinToLive_75 (Nat.le_of_ble_eq_true rfl) rfl ?_
                refine G_iload 1 d_cX3_joinToLive_77 rfl ?_
                refine G_iload_n 5 d_cX3_joinToLive_79 rfl ?_
                refine G_icmp_eq 132 d_cX3_joinToLive_80 (by decide +kernel) (fun hc1925 => ?_) (fun hc1925 => ?_)
                · have r1926 : z1922.toInt = p10.toInt := gC_eq hc1925
                  obtain ⟨z1927, hz1927⟩ : ∃ z : Int32, z = g1905 + Int32.ofInt 1 := ⟨_, rfl⟩
                  have ez1927 : z1927.toInt = g1905.toInt + 1 := gI_inc hz1927 (by decide) bg1905' (by decide) (by decide)
                  have bz1927 : gB z1927 1 64 := ⟨by omega, by omega⟩
                  refine G_iinc (L' := [(6, .int z1927), (4, .long u1924), (7, .int z1922), (3, .int g1675), (0, .ref q1), (1, .int p10), (2, .int p11)]) z1927 2 d_cX3_joinToLive_132 rfl hz1927.symm (Nat.le_of_ble_eq_true rfl) rfl ?_
                  refine G_goto 42 d_cX3_joinToLive_135 (by decide +kernel) ?_
                  refine G_lv (L' := [(6, .int z1927), (4, .long u1924), (3, .int g1675), (0, .ref q1), (1, .int p10), (2, .int p11)]) [0, 1, 3, 4, 5, 6] rfl ?_
                  exact ih42_1909 z1927 u1924 f1907 (gB_w bz1927 (by decide) (by decide)) qu1924 x1909 (by omega)
                · have r1928 : z1922.toInt ≠ p10.toInt := gC_ne hc1925
                  refine G_iload 1 d_cX3_joinToLive_83 rfl ?_
                  refine G_iload_n 6 d_cX3_joinToLive_85 rfl ?_
                  refine G_icmp_eq 132 d_cX3_joinToLive_86 (by decide +kernel) (fun hc1929 => ?_) (fun hc1929 => ?_)
                  · have r1930 : z1922.toInt = p11.toInt := gC_eq hc1929
                    have bp11' : gB p11 0 719 := ⟨by omega, by omega⟩
                    obtain ⟨z1931, hz1931⟩ : ∃ z : Int32, z = g1905 + Int32.ofInt 1 := ⟨_, rfl⟩
                    have ez1931 : z1931.toInt = g1905.toInt + 1 := gI_inc hz1931 (by decide) bg1905' (by decide) (by decide)
                    have bz1931 : gB z1931 1 64 := ⟨by omega, by omega⟩
                    refine G_iinc (L' := [(6, .int z1931), (4, .long u1924), (7, .int z1922), (3, .int g1675), (0, .ref q1), (1, .int p10), (2, .int p11)]) z1931 2 d_cX3_joinToLive_132 rfl hz1931.symm (Nat.le_of_ble_eq_true rfl) rfl ?_
                    refine G_goto 42 d_cX3_joinToLive_135 (by decide +kernel) ?_
                    refine G_lv (L' := [(6, .int z1931), (4, .long u1924), (3, .int g1675), (0, .ref q1), (1, .int p10), (2, .int p11)]) [0, 1, 3, 4, 5, 6] rfl ?_
                    exact ih42_1909 z1931 u1924 f1907 (gB_w bz1931 (by decide) (by decide)) qu1924 x1909 (by omega)
                  · have r1932 : z1922.toInt ≠ p11.toInt := gC_ne hc1929
                    refine G_aload_n 4 d_cX3_joinToLive_89 rfl ?_
                    refine G_getf 0 1 d_cX3_joinToLive_90 rfl (gk_X3 D I) (Nat.le_of_ble_eq_true rfl) w_2_49 rfl ?_
                    refine G_iload_n 5 d_cX3_joinToLive_93 rfl ?_
                    refine G_aload_n 4 d_cX3_joinToLive_94 rfl ?_
                    refine G_getf 0 5 d_cX3_joinToLive_95 rfl (gk_X3 D I) (Nat.le_of_ble_eq_true rfl) w_2_57 rfl ?_
                    refine G_imul d_cX3_joinToLive_98 (G_nam fun z1933 hz1933 => ?_)
                    have ez1933 : z1933.toInt = p10.toInt * p13.toInt := by rw [gI_mul hz1933 bp10 bp13' (by decide) (by decide) (by decide)]
                    have bz1933 : gB z1933 0 8628 := gB_mul hz1933 bp10 bp13' (by decide) (by decide) (by decide) (by decide)
                    refine G_iload_n 3 d_cX3_joinToLive_99 rfl ?_
                    refine G_iadd d_cX3_joinToLive_100 (G_nam fun z1934 hz1934 => ?_)
                    have ez1934 : z1934.toInt = z1933.toInt + g1675.toInt := by rw [gI_add hz1934 bz1933 bg1675' (by decide) (by decide)]
                    have bz1934 : gB z1934 0 8639 := gB_add (gI_add hz1934 bz1933 bg1675' (by decide) (by decide)) bz1933 bg1675' (by decide) (by decide)
                    refine G_dup2_11 d_cX3_joinToLive_101 rfl rfl ?_
                    refine G_lald 2 2 d_cX3_joinToLive_102 rfl rfl (gB_in bz1934 (by decide) (by decide)) (G_namL fun u1935 hu1935 => ?_)
                    have qu1935 : lb_Q u1935 (p12.toInt - 64 * g1675.toInt) := lb_Wld hu1935 x1909 (by omega) (lb_Lt1 ez1934 ez1933 (by omega) (by omega) (by omega)) (lb_Mod1 ez1934 ez1933 (by omega) (by omega))
                    refine G_lconst 1 d_cX3_joinToLive_103 rfl ?_
                    refine G_iload 1 d_cX3_joinToLive_104 rfl ?_
                    refine G_lshl d_cX3_joinToLive_106 (G_namL fun u1936 hu1936 => ?_)
                    have qu1936 : lb_Q u1936 (z1922.toInt % 64 + 1) := lb_Qshl hu1936 (by omega)
                    refine G_lor d_cX3_joinToLive_107 (G_namL fun u1937 hu1937 => ?_)
                    have qu1937 : lb_Q u1937 (p12.toInt - 64 * g1675.toInt) := lb_Qor hu1937 qu1935 (lb_Qw qu1936 (by omega))
                    refine G_lastN 2 2 d_cX3_joinToLive_108 rfl rfl (gB_in bz1934 (by decide) (by decide)) (fun f1938 hf1938 => ?_)
                    refine G_ws (ws' := [(q1, .inr (8, [.ref q2, .ref q3, .ref q4, .ref q5, .int p12, .int p13])), (q2, .inr (10, [.ref q6, .ref q7, .ref q8, .ref q9, .int p14, .int p15, .int p16])), (q3, .inl (I .long, 8640, .inr (.inl f1938))), (q4, .inl (I .long, 12, .inr (.inl f18))), (q5, .inl (I .int, 720, .inl f19)), (q6, .inl (I .long, 480, .inr (.inl f20))), (q7, .inl (I .long, 480, .inr (.inl f21))), (q8, .inl (I .long, 480, .inr (.inl f22))), (q9, .inl (I .long, 12, .inr (.inl f23)))]) (cs' := 0) (sl' := 0) rfl rfl rfl ?_
                    have wf1938 : lb_W f1938 (p12.toInt * p13.toInt) (p13.toInt) (p12.toInt) := lb_Wst hf1938 x1909 (by omega) (lb_Mod1 ez1934 ez1933 (by omega) (by omega)) qu1937
                    refine G_aload_n 4 d_cX3_joinToLive_109 rfl ?_
                    refine G_getf 0 1 d_cX3_joinToLive_110 rfl (gk_X3 D I) (Nat.le_of_ble_eq_true rfl) w_2_49 rfl ?_
                    refine G_iload 1 d_cX3_joinToLive_113 rfl ?_
                    refine G_aload_n 4 d_cX3_joinToLive_115 rfl ?_
                    refine G_getf 0 5 d_cX3_joinToLive_116 rfl (gk_X3 D I) (Nat.le_of_ble_eq_true rfl) w_2_57 rfl ?_
                    refine G_imul d_cX3_joinToLive_119 (G_nam fun z1939 hz1939 => ?_)
                    have ez1939 : z1939.toInt = z1922.toInt * p13.toInt := by rw [gI_mul hz1939 bz1922' bp13' (by decide) (by decide) (by decide)]
                    have bz1939 : gB z1939 0 8628 := gB_mul hz1939 bz1922' bp13' (by decide) (by decide) (by decide) (by decide)
                    refine G_iload_n 5 d_cX3_joinToLive_120 rfl ?_
                    refine G_bipush 6 d_cX3_joinToLive_121 (by decide +kernel) ?_
                    refine G_ishr d_cX3_joinToLive_123 (G_nam fun z1940 hz1940 => ?_)
                    have ez1940 : z1940.toInt = p10.toInt / 64 := gI_shr (k := 6) hz1940 (by decide)
                    have bz1940 : gB z1940 0 11 := ⟨by omega, by omega⟩
                    refine G_iadd d_cX3_joinToLive_124 (G_nam fun z1941 hz1941 => ?_)
                    have ez1941 : z1941.toInt = z1939.toInt + z1940.toInt := by rw [gI_add hz1941 bz1939 bz1940 (by decide) (by decide)]
                    have bz1941 : gB z1941 0 8639 := gB_add (gI_add hz1941 bz1939 bz1940 (by decide) (by decide)) bz1939 bz1940 (by decide) (by decide)
                    refine G_dup2_11 d_cX3_joinToLive_125 rfl rfl ?_
                    refine G_lald 2 2 d_cX3_joinToLive_126 rfl rfl (gB_in bz1941 (by decide) (by decide)) (G_namL fun u1942 hu1942 => ?_)
                    have qu1942 : lb_Q u1942 (p12.toInt - 64 * z1940.toInt) := lb_Wld hu1942 wf1938 (by omega) (lb_Lt1 ez1941 ez1939 (by omega) (by omega) (by omega)) (lb_Mod1 ez1941 ez1939 (by omega) (by omega))
                    refine G_lconst 1 d_cX3_joinToLive_127 rfl ?_
                    refine G_iload_n 5 d_cX3_joinToLive_128 rfl ?_
                    refine G_lshl d_cX3_joinToLive_129 (G_namL fun u1943 hu1943 => ?_)
                    have qu1943 : lb_Q u1943 (p10.toInt % 64 + 1) := lb_Qshl hu1943 (by omega)
                    refine G_lor d_cX3_joinToLive_130 (G_namL fun u1944 hu1944 => ?_)
                    have qu1944 : lb_Q u1944 (p12.toInt - 64 * z1940.toInt) := lb_Qor hu1944 qu1942 (lb_Qw qu1943 (by omega))
                    refine G_lastN 2 2 d_cX3_joinToLive_131 rfl rfl (gB_in bz1941 (by decide) (by decide)) (fun f1945 hf1945 => ?_)
                    refine G_ws (ws' := [(q1, .inr (8, [.ref q2, .ref q3, .ref q4, .ref q5, .int p12, .int p13])), (q2, .inr (10, [.ref q6, .ref q7, .ref q8, .ref q9, .int p14, .int p15, .int p16])), (q3, .inl (I .long, 8640, .inr (.inl f1945))), (q4, .inl (I .long, 12, .inr (.inl f18))), (q5, .inl (I .int, 720, .inl f19)), (q6, .inl (I .long, 480, .inr (.inl f20))), (q7, .inl (I .long, 480, .inr (.inl f21))), (q8, .inl (I .long, 480, .inr (.inl f22))), (q9, .inl (I .long, 12, .inr (.inl f23)))]) (cs' := 0) (sl' := 0) rfl rfl rfl ?_
                    have wf1945 : lb_W f1945 (p12.toInt * p13.toInt) (p13.toInt) (p12.toInt) := lb_Wst hf1945 wf1938 (by omega) (lb_Mod1 ez1941 ez1939 (by omega) (by omega)) qu1944
                    obtain ⟨z1946, hz1946⟩ : ∃ z : Int32, z = g1905 + Int32.ofInt 1 := ⟨_, rfl⟩
                    have ez1946 : z1946.toInt = g1905.toInt + 1 := gI_inc hz1946 (by decide) bg1905' (by decide) (by decide)
                    have bz1946 : gB z1946 1 64 := ⟨by omega, by omega⟩
                    refine G_iinc (L' := [(6, .int z1946), (4, .long u1924), (7, .int z1922), (3, .int g1675), (0, .ref q1), (1, .int p10), (2, .int p11)]) z1946 2 d_cX3_joinToLive_132 rfl hz1946.symm (Nat.le_of_ble_eq_true rfl) rfl ?_
                    refine G_goto 42 d_cX3_joinToLive_135 (by decide +kernel) ?_
                    refine G_lv (L' := [(6, .int z1946), (4, .long u1924), (3, .int g1675), (0, .ref q1), (1, .int p10), (2, .int p11)]) [0, 1, 3, 4, 5, 6] rfl ?_
                    exact ih42_1909 z1946 u1924 f1945 (gB_w bz1946 (by decide) (by decide)) qu1924 wf1945 (by omega)
        exact hlp42_1909 (((65 : Int) - 0).toNat + 1) 0 u1686 f1676 (gB_w (gBl (show Int32.toInt 0 = 0 by decide)) (by decide) (by decide)) qu1686 x1677 (Nat.lt_succ_self _)
  exact hlp2_1677 (((13 : Int) - 0).toNat + 1) 0 f17 (gB_w (gBl (show Int32.toInt 0 = 0 by decide)) (by decide) (by decide)) x29 (Nat.lt_succ_self _)
abbrev ky_1974_Graph_bitsOf : gKey := (cX3_bitsOf, 4, yX3_bitsOf.cls, (some FieldType.int), [], yX3_bitsOf.name, fun _ _ => True)
abbrev po_1974_Graph_bitsOf (I : FieldType → ClassId) (q1948 : Nat) (q1949 : Nat) (q1950 : Nat) (q1951 : Nat) (q1952 : Nat) (q1953 : Nat) (q1954 : Nat) (q1955 : Nat) (q1956 : Nat) (p1957 : Int32) (p1958 : Int32) (p1959 : Int32) (p1960 : Int32) (p1961 : Int32) (p1962 : Int32) (f1963 : Nat → Int64) (f1964 : Nat → Int64) (f1965 : Nat → Int32) (f1966 : Nat → Int64) (f1967 : Nat → Int64) (f1968 : Nat → Int64) (f1969 : Nat → Int64) : Option Value → va_W → Prop := fun r w => ∃ (o2068 : Int32), r = some (.int o2068) ∧ w = [(q1948, .inr (8, [.ref q1949, .ref q1950, .ref q1951, .ref q1952, .int p1958, .int p1959])), (q1949, .inr (10, [.ref q1953, .ref q1954, .ref q1955, .ref q1956, .int p1960, .int p1961, .int p1962])), (q1950, .inl (I .long, 8640, .inr (.inl f1963))), (q1951, .inl (I .long, 12, .inr (.inl f1964))), (q1952, .inl (I .int, 720, .inl f1965)), (q1953, .inl (I .long, 480, .inr (.inl f1966))), (q1954, .inl (I .long, 480, .inr (.inl f1967))), (q1955, .inl (I .long, 480, .inr (.inl f1968))), (q1956, .inl (I .long, 12, .inr (.inl f1969)))] ∧ gB o2068 (-2147483648) 2147483647
set_option maxRecDepth 100000 in
set_option maxHeartbeats 4000000 in
theorem ct_1974_Graph_bitsOf (l : Launch) (hl0 : l.stackTraces = false) (D : va_G) (I : FieldType → ClassId) (q1948 : Nat) (q1949 : Nat) (q1950 : Nat) (q1951 : Nat) (q1952 : Nat) (q1953 : Nat) (q1954 : Nat) (q1955 : Nat) (q1956 : Nat) (p1957 : Int32) (p1958 : Int32) (p1959 : Int32) (p1960 : Int32) (p1961 : Int32) (p1962 : Int32) (f1963 : Nat → Int64) (f1964 : Nat → Int64) (f1965 : Nat → Int32) (f1966 : Nat → Int64) (f1967 : Nat → Int64) (f1968 : Nat → Int64) (f1969 : Nat → Int64) (bp1957 : gB p1957 0 719) (bp1958 : gB p1958 0 720) (bp1959 : gB p1959 0 12) (bp1960 : gB p1960 0 720) (bp1961 : gB p1961 0 12) (bp1962 : gB p1962 0 1) (x1970 : p1957.toInt < p1958.toInt) (x1971 : p1959.toInt = (p1958.toInt + 63) / 64) (x1972 : lb_W f1963 (p1958.toInt * p1959.toInt) (p1959.toInt) (p1958.toInt)) (x1973 : p1961.toInt = (p1960.toInt + 63) / 64) : Ct (gV D I) l yX3_bitsOf cX3_bitsOf 4 (some FieldType.int) 1 21 0 0 [.ref q1948, .int p1957] [(q1948, .inr (8, [.ref q1949, .ref q1950, .ref q1951, .ref q1952, .int p1958, .int p1959])), (q1949, .inr (10, [.ref q1953, .ref q1954, .ref q1955, .ref q1956, .int p1960, .int p1961, .int p1962])), (q1950, .inl (I .long, 8640, .inr (.inl f1963))), (q1951, .inl (I .long, 12, .inr (.inl f1964))), (q1952, .inl (I .int, 720, .inl f1965)), (q1953, .inl (I .long, 480, .inr (.inl f1966))), (q1954, .inl (I .long, 480, .inr (.inl f1967))), (q1955, .inl (I .long, 480, .inr (.inl f1968))), (q1956, .inl (I .long, 12, .inr (.inl f1969)))] (po_1974_Graph_bitsOf I q1948 q1949 q1950 q1951 q1952 q1953 q1954 q1955 q1956 p1957 p1958 p1959 p1960 p1961 p1962 f1963 f1964 f1965 f1966 f1967 f1968 f1969) gN := by
  refine Ct_of hl0 (by decide) (Nat.le_of_ble_eq_true rfl) ?_
  refine G_iconst 0 d_cX3_bitsOf_0 (by decide +kernel) ?_
  refine G_istore_n (L' := [(2, .int 0), (0, .ref q1948), (1, .int p1957)]) d_cX3_bitsOf_1 (Nat.le_of_ble_eq_true rfl) rfl ?_
  refine G_iconst 0 d_cX3_bitsOf_2 (by decide +kernel) ?_
  refine G_istore_n (L' := [(3, .int 0), (2, .int 0), (0, .ref q1948), (1, .int p1957)]) d_cX3_bitsOf_3 (Nat.le_of_ble_eq_true rfl) rfl ?_
  have hlp4_2057 : ∀ (n4_2057 : Nat) (g2056 : Int32) (g2057 : Int32), gB g2056 0 12 → gB g2057 (-2147483648) 2147483647 → ((13 : Int) - g2056.toInt).toNat < n4_2057 → G (gV D I) l (gRm 1 21 0 0) (gM (gV D I) (po_1974_Graph_bitsOf I q1948 q1949 q1950 q1951 q1952 q1953 q1954 q1955 q1956 p1957 p1958 p1959 p1960 p1961 p1962 f1963 f1964 f1965 f1966 f1967 f1968 f1969) gN 0 0) ky_1974_Graph_bitsOf 4 [(3, .int g2056), (2, .int g2057), (0, .ref q1948), (1, .int p1957)] [] [(q1948, .inr (8, [.ref q1949, .ref q1950, .ref q1951, .ref q1952, .int p1958, .int p1959])), (q1949, .inr (10, [.ref q1953, .ref q1954, .ref q1955, .ref q1956, .int p1960, .int p1961, .int p1962])), (q1950, .inl (I .long, 8640, .inr (.inl f1963))), (q1951, .inl (I .long, 12, .inr (.inl f1964))), (q1952, .inl (I .int, 720, .inl f1965)), (q1953, .inl (I .long, 480, .inr (.inl f1966))), (q1954, .inl (I .long, 480, .inr (.inl f1967))), (q1955, .inl (I .long, 480, .inr (.inl f1968))), (q1956, .inl (I .long, 12, .inr (.inl f1969)))] 0 0 := by
    intro n4_2057
    induction n4_2057 with
    | zero => intro g2056 g2057 bg2056 bg2057 hm4_2057; exact absurd hm4_2057 (Nat.not_lt_zero _)
    | succ n4_2057 ih4_2057 =>
      intro g2056 g2057 bg2056 bg2057 hm4_2057
      refine G_iload_n 0 d_cX3_bitsOf_4 rfl ?_
      refine G_aload_n 2 d_cX3_bitsOf_5 rfl ?_
      refine G_getf 0 5 d_cX3_bitsOf_6 rfl (gk_X3 D I) (Nat.le_of_ble_eq_true rfl) w_2_57 rfl ?_
      refine G_icmp_ge 37 d_cX3_bitsOf_9 (by decide +kernel) (fun hc2058 => ?_) (fun hc2058 => ?_)
      · have r2059 : p1959.toInt ≤ g2056.toInt := gC_le hc2058
        refine G_iload_n 1 d_cX3_bitsOf_37 rfl ?_
        exact G_iret d_cX3_bitsOf_38 rfl (Nat.le_of_ble_eq_true rfl) (Nat.le_of_ble_eq_true rfl) ⟨g2057, rfl, rfl, bg2057⟩
      · have r2060 : g2056.toInt < p1959.toInt := gC_nle hc2058
        have bg2056' : gB g2056 0 11 := ⟨by omega, by omega⟩
        have bp1959' : gB p1959 1 12 := ⟨by omega, by omega⟩
        refine G_iload_n 1 d_cX3_bitsOf_12 rfl ?_
        refine G_aload_n 2 d_cX3_bitsOf_13 rfl ?_
        refine G_getf 0 1 d_cX3_bitsOf_14 rfl (gk_X3 D I) (Nat.le_of_ble_eq_true rfl) w_2_49 rfl ?_
        refine G_iload_n 3 d_cX3_bitsOf_17 rfl ?_
        refine G_aload_n 2 d_cX3_bitsOf_18 rfl ?_
        refine G_getf 0 5 d_cX3_bitsOf_19 rfl (gk_X3 D I) (Nat.le_of_ble_eq_true rfl) w_2_57 rfl ?_
        refine G_imul d_cX3_bitsOf_22 (G_nam fun z2061 hz2061 => ?_)
        have ez2061 : z2061.toInt = p1957.toInt * p1959.toInt := by rw [gI_mul hz2061 bp1957 bp1959' (by decide) (by decide) (by decide)]
        have bz2061 : gB z2061 0 8628 := gB_mul hz2061 bp1957 bp1959' (by decide) (by decide) (by decide) (by decide)
        refine G_iload_n 0 d_cX3_bitsOf_23 rfl ?_
        refine G_iadd d_cX3_bitsOf_24 (G_nam fun z2062 hz2062 => ?_)
        have ez2062 : z2062.toInt = z2061.toInt + g2056.toInt := by rw [gI_add hz2062 bz2061 bg2056' (by decide) (by decide)]
        have bz2062 : gB z2062 0 8639 := gB_add (gI_add hz2062 bz2061 bg2056' (by decide) (by decide)) bz2061 bg2056' (by decide) (by decide)
        refine G_lald 2 2 d_cX3_bitsOf_25 rfl rfl (gB_in bz2062 (by decide) (by decide)) (G_namL fun u2063 hu2063 => ?_)
        have qu2063 : lb_Q u2063 (p1958.toInt - 64 * g2056.toInt) := lb_Wld hu2063 x1972 (by omega) (lb_Lt1 ez2062 ez2061 (by omega) (by omega) (by omega)) (lb_Mod1 ez2062 ez2061 (by omega) (by omega))
        refine G_callS (As := [.long u2063]) (wr := [(q1948, .inr (8, [.ref q1949, .ref q1950, .ref q1951, .ref q1952, .int p1958, .int p1959])), (q1949, .inr (10, [.ref q1953, .ref q1954, .ref q1955, .ref q1956, .int p1960, .int p1961, .int p1962])), (q1950, .inl (I .long, 8640, .inr (.inl f1963))), (q1951, .inl (I .long, 12, .inr (.inl f1964))), (q1952, .inl (I .int, 720, .inl f1965)), (q1953, .inl (I .long, 480, .inr (.inl f1966))), (q1954, .inl (I .long, 480, .inr (.inl f1967))), (q1955, .inl (I .long, 480, .inr (.inl f1968))), (q1956, .inl (I .long, 12, .inr (.inl f1969)))]) (gV_ok D I) (ct_52_Long_bitCount l hl0 D I u2063 ) d_cX3_bitsOf_26 ⟨w_4_141, w_1_31, w_4_95, by decide, rfl, (Nat.le_of_ble_eq_true rfl), (Nat.le_of_ble_eq_true rfl)⟩ w_4_94 [] [0, 1, 2, 3, 4, 5, 6, 7, 8] rfl rfl rfl rfl (by decide) (Nat.le_of_ble_eq_true rfl) (Nat.le_of_ble_eq_true rfl) (Nat.le_of_ble_eq_true rfl) (fun r w hp => ?_) (fun _ _ _ z => z.elim)
        obtain ⟨o2064, rfl, rfl, bo2064, x2065⟩ := hp
        change G _ _ _ _ _ _ _ (.int o2064 :: _) _ _ _
        refine G_ws (ws' := [(q1948, .inr (8, [.ref q1949, .ref q1950, .ref q1951, .ref q1952, .int p1958, .int p1959])), (q1949, .inr (10, [.ref q1953, .ref q1954, .ref q1955, .ref q1956, .int p1960, .int p1961, .int p1962])), (q1950, .inl (I .long, 8640, .inr (.inl f1963))), (q1951, .inl (I .long, 12, .inr (.inl f1964))), (q1952, .inl (I .int, 720, .inl f1965)), (q1953, .inl (I .long, 480, .inr (.inl f1966))), (q1954, .inl (I .long, 480, .inr (.inl f1967))), (q1955, .inl (I .long, 480, .inr (.inl f1968))), (q1956, .inl (I .long, 12, .inr (.inl f1969)))]) (cs' := 0) (sl' := 0) rfl rfl rfl ?_
        refine G_iadd d_cX3_bitsOf_29 (G_nam fun z2066 hz2066 => ?_)
        have bz2066 : gB z2066 (-2147483648) 2147483647 := gB_any z2066
        refine G_istore_n (L' := [(2, .int z2066), (3, .int g2056), (0, .ref q1948), (1, .int p1957)]) d_cX3_bitsOf_30 (Nat.le_of_ble_eq_true rfl) rfl ?_
        obtain ⟨z2067, hz2067⟩ : ∃ z : Int32, z = g2056 + Int32.ofInt 1 := ⟨_, rfl⟩
        have ez2067 : z2067.toInt = g2056.toInt + 1 := gI_inc hz2067 (by decide) bg2056' (by decide) (by decide)
        have bz2067 : gB z2067 1 12 := ⟨by omega, by omega⟩
        refine G_iinc (L' := [(3, .int z2067), (2, .int z2066), (0, .ref q1948), (1, .int p1957)]) z2067 1 d_cX3_bitsOf_31 rfl hz2067.symm (Nat.le_of_ble_eq_true rfl) rfl ?_
        refine G_goto 4 d_cX3_bitsOf_34 (by decide +kernel) ?_
        exact ih4_2057 z2067 z2066 (gB_w bz2067 (by decide) (by decide)) bz2066 (by omega)
  exact hlp4_2057 (((13 : Int) - 0).toNat + 1) 0 0 (gB_w (gBl (show Int32.toInt 0 = 0 by decide)) (by decide) (by decide)) (gB_w (gBl (show Int32.toInt 0 = 0 by decide)) (by decide) (by decide)) (Nat.lt_succ_self _)
abbrev ky_2094_Graph_stands : gKey := (cX3_stands, 2, yX3_stands.cls, (some FieldType.boolean), [], yX3_stands.name, fun _ _ => True)
abbrev po_2094_Graph_stands (I : FieldType → ClassId) (q2069 : Nat) (q2070 : Nat) (q2071 : Nat) (q2072 : Nat) (q2073 : Nat) (q2074 : Nat) (q2075 : Nat) (q2076 : Nat) (q2077 : Nat) (p2078 : Int32) (p2079 : Int32) (p2080 : Int32) (p2081 : Int32) (p2082 : Int32) (p2083 : Int32) (f2084 : Nat → Int64) (f2085 : Nat → Int64) (f2086 : Nat → Int32) (f2087 : Nat → Int64) (f2088 : Nat → Int64) (f2089 : Nat → Int64) (f2090 : Nat → Int64) : Option Value → va_W → Prop := fun r w => (r = some (.int 0) ∧ w = [(q2069, .inr (8, [.ref q2070, .ref q2071, .ref q2072, .ref q2073, .int p2079, .int p2080])), (q2070, .inr (10, [.ref q2074, .ref q2075, .ref q2076, .ref q2077, .int p2081, .int p2082, .int p2083])), (q2071, .inl (I .long, 8640, .inr (.inl f2084))), (q2072, .inl (I .long, 12, .inr (.inl f2085))), (q2073, .inl (I .int, 720, .inl f2086)), (q2074, .inl (I .long, 480, .inr (.inl f2087))), (q2075, .inl (I .long, 480, .inr (.inl f2088))), (q2076, .inl (I .long, 480, .inr (.inl f2089))), (q2077, .inl (I .long, 12, .inr (.inl f2090)))] ∧ p2078.toInt < 0) ∨ (r = some (.int 0) ∧ w = [(q2069, .inr (8, [.ref q2070, .ref q2071, .ref q2072, .ref q2073, .int p2079, .int p2080])), (q2070, .inr (10, [.ref q2074, .ref q2075, .ref q2076, .ref q2077, .int p2081, .int p2082, .int p2083])), (q2071, .inl (I .long, 8640, .inr (.inl f2084))), (q2072, .inl (I .long, 12, .inr (.inl f2085))), (q2073, .inl (I .int, 720, .inl f2086)), (q2074, .inl (I .long, 480, .inr (.inl f2087))), (q2075, .inl (I .long, 480, .inr (.inl f2088))), (q2076, .inl (I .long, 480, .inr (.inl f2089))), (q2077, .inl (I .long, 12, .inr (.inl f2090)))] ∧ 0 ≤ p2078.toInt ∧ p2079.toInt ≤ p2078.toInt) ∨ (∃ (z2101 : Int32) (z2105 : Int32), r = some (.int 0) ∧ w = [(q2069, .inr (8, [.ref q2070, .ref q2071, .ref q2072, .ref q2073, .int p2079, .int p2080])), (q2070, .inr (10, [.ref q2074, .ref q2075, .ref q2076, .ref q2077, .int p2081, .int p2082, .int p2083])), (q2071, .inl (I .long, 8640, .inr (.inl f2084))), (q2072, .inl (I .long, 12, .inr (.inl f2085))), (q2073, .inl (I .int, 720, .inl f2086)), (q2074, .inl (I .long, 480, .inr (.inl f2087))), (q2075, .inl (I .long, 480, .inr (.inl f2088))), (q2076, .inl (I .long, 480, .inr (.inl f2089))), (q2077, .inl (I .long, 12, .inr (.inl f2090)))] ∧ 0 ≤ p2078.toInt ∧ p2078.toInt < p2079.toInt ∧ z2101.toInt = p2078.toInt / 64 ∧ z2105.toInt = 0 ∧ gB z2101 0 11 ∧ gB z2105 0 0) ∨ (∃ (z2101 : Int32) (z2105 : Int32), r = some (.int 1) ∧ w = [(q2069, .inr (8, [.ref q2070, .ref q2071, .ref q2072, .ref q2073, .int p2079, .int p2080])), (q2070, .inr (10, [.ref q2074, .ref q2075, .ref q2076, .ref q2077, .int p2081, .int p2082, .int p2083])), (q2071, .inl (I .long, 8640, .inr (.inl f2084))), (q2072, .inl (I .long, 12, .inr (.inl f2085))), (q2073, .inl (I .int, 720, .inl f2086)), (q2074, .inl (I .long, 480, .inr (.inl f2087))), (q2075, .inl (I .long, 480, .inr (.inl f2088))), (q2076, .inl (I .long, 480, .inr (.inl f2089))), (q2077, .inl (I .long, 12, .inr (.inl f2090)))] ∧ 0 ≤ p2078.toInt ∧ p2078.toInt < p2079.toInt ∧ z2101.toInt = p2078.toInt / 64 ∧ z2105.toInt ≠ 0 ∧ gB z2101 0 11 ∧ gB z2105 (-1) 1)
set_option maxRecDepth 100000 in
set_option maxHeartbeats 4000000 in
theorem ct_2094_Graph_stands (l : Launch) (hl0 : l.stackTraces = false) (D : va_G) (I : FieldType → ClassId) (q2069 : Nat) (q2070 : Nat) (q2071 : Nat) (q2072 : Nat) (q2073 : Nat) (q2074 : Nat) (q2075 : Nat) (q2076 : Nat) (q2077 : Nat) (p2078 : Int32) (p2079 : Int32) (p2080 : Int32) (p2081 : Int32) (p2082 : Int32) (p2083 : Int32) (f2084 : Nat → Int64) (f2085 : Nat → Int64) (f2086 : Nat → Int32) (f2087 : Nat → Int64) (f2088 : Nat → Int64) (f2089 : Nat → Int64) (f2090 : Nat → Int64) (bp2079 : gB p2079 0 720) (bp2080 : gB p2080 0 12) (bp2081 : gB p2081 0 720) (bp2082 : gB p2082 0 12) (bp2083 : gB p2083 0 1) (x2091 : p2080.toInt = (p2079.toInt + 63) / 64) (x2092 : lb_W f2084 (p2079.toInt * p2080.toInt) (p2080.toInt) (p2079.toInt)) (x2093 : p2082.toInt = (p2081.toInt + 63) / 64) : Ct (gV D I) l yX3_stands cX3_stands 2 (some FieldType.boolean) 0 0 0 0 [.ref q2069, .int p2078] [(q2069, .inr (8, [.ref q2070, .ref q2071, .ref q2072, .ref q2073, .int p2079, .int p2080])), (q2070, .inr (10, [.ref q2074, .ref q2075, .ref q2076, .ref q2077, .int p2081, .int p2082, .int p2083])), (q2071, .inl (I .long, 8640, .inr (.inl f2084))), (q2072, .inl (I .long, 12, .inr (.inl f2085))), (q2073, .inl (I .int, 720, .inl f2086)), (q2074, .inl (I .long, 480, .inr (.inl f2087))), (q2075, .inl (I .long, 480, .inr (.inl f2088))), (q2076, .inl (I .long, 480, .inr (.inl f2089))), (q2077, .inl (I .long, 12, .inr (.inl f2090)))] (po_2094_Graph_stands I q2069 q2070 q2071 q2072 q2073 q2074 q2075 q2076 q2077 p2078 p2079 p2080 p2081 p2082 p2083 f2084 f2085 f2086 f2087 f2088 f2089 f2090) gN := by
  refine Ct_of hl0 (by decide) (Nat.le_of_ble_eq_true rfl) ?_
  have bp2078 := gB_any p2078
  refine G_iload_n 1 d_cX3_stands_0 rfl ?_
  refine G_if_lt 34 d_cX3_stands_1 (by decide +kernel) (fun hc2095 => ?_) (fun hc2095 => ?_)
  · have r2096 : p2078.toInt < 0 := gj_lt hc2095 (show Int32.toInt 0 = 0 by decide)
    have bp2078' : gB p2078 (-2147483648) (-1) := ⟨by omega, by omega⟩
    refine G_iconst 0 d_cX3_stands_34 (by decide +kernel) ?_
    exact G_zret FieldType.boolean d_cX3_stands_35 rfl rfl (Nat.le_of_ble_eq_true rfl) (Nat.le_of_ble_eq_true rfl) (Or.inl ⟨rfl, rfl, r2096⟩)
  · have r2097 : 0 ≤ p2078.toInt := gj_nlt hc2095 (show Int32.toInt 0 = 0 by decide)
    have bp2078' : gB p2078 0 2147483647 := ⟨by omega, by omega⟩
    refine G_iload_n 1 d_cX3_stands_4 rfl ?_
    refine G_aload_n 0 d_cX3_stands_5 rfl ?_
    refine G_getf 0 4 d_cX3_stands_6 rfl (gk_X3 D I) (Nat.le_of_ble_eq_true rfl) w_2_55 rfl ?_
    refine G_icmp_ge 34 d_cX3_stands_9 (by decide +kernel) (fun hc2098 => ?_) (fun hc2098 => ?_)
    · have r2099 : p2079.toInt ≤ p2078.toInt := gC_le hc2098
      refine G_iconst 0 d_cX3_stands_34 (by decide +kernel) ?_
      exact G_zret FieldType.boolean d_cX3_stands_35 rfl rfl (Nat.le_of_ble_eq_true rfl) (Nat.le_of_ble_eq_true rfl) (Or.inr (Or.inl ⟨rfl, rfl, r2097, r2099⟩))
    · have r2100 : p2078.toInt < p2079.toInt := gC_nle hc2098
      have bp2078'' : gB p2078 0 719 := ⟨by omega, by omega⟩
      have bp2079' : gB p2079 1 720 := ⟨by omega, by omega⟩
      refine G_aload_n 0 d_cX3_stands_12 rfl ?_
      refine G_getf 0 2 d_cX3_stands_13 rfl (gk_X3 D I) (Nat.le_of_ble_eq_true rfl) w_2_51 rfl ?_
      refine G_iload_n 1 d_cX3_stands_16 rfl ?_
      refine G_bipush 6 d_cX3_stands_17 (by decide +kernel) ?_
      refine G_ishr d_cX3_stands_19 (G_nam fun z2101 hz2101 => ?_)
      have ez2101 : z2101.toInt = p2078.toInt / 64 := gI_shr (k := 6) hz2101 (by decide)
      have bz2101 : gB z2101 0 11 := ⟨by omega, by omega⟩
      refine G_lald 3 2 d_cX3_stands_20 rfl rfl (gB_in bz2101 (by decide) (by decide)) (G_namL fun u2102 hu2102 => ?_)
      refine G_iload_n 1 d_cX3_stands_21 rfl ?_
      refine G_lshr d_cX3_stands_22 (G_namL fun u2103 hu2103 => ?_)
      refine G_lconst 1 d_cX3_stands_23 rfl ?_
      refine G_land d_cX3_stands_24 (G_namL fun u2104 hu2104 => ?_)
      refine G_lconst 0 d_cX3_stands_25 rfl ?_
      refine G_lcmp d_cX3_stands_26 (G_nam fun z2105 hz2105 => ?_)
      have bz2105 : gB z2105 (-1) 1 := gB_cmp hz2105
      refine G_if_eq 34 d_cX3_stands_27 (by decide +kernel) (fun hc2106 => ?_) (fun hc2106 => ?_)
      · have r2107 : z2105.toInt = 0 := gj_eq hc2106 (show Int32.toInt 0 = 0 by decide)
        have bz2105' : gB z2105 0 0 := ⟨by omega, by omega⟩
        have lhc2106 := gC_cmpE hz2105 hc2106
        refine G_iconst 0 d_cX3_stands_34 (by decide +kernel) ?_
        exact G_zret FieldType.boolean d_cX3_stands_35 rfl rfl (Nat.le_of_ble_eq_true rfl) (Nat.le_of_ble_eq_true rfl) (Or.inr (Or.inr (Or.inl ⟨z2101, z2105, rfl, rfl, r2097, r2100, ez2101, r2107, bz2101, bz2105'⟩)))
      · have r2108 : z2105.toInt ≠ 0 := gj_neq hc2106 (show Int32.toInt 0 = 0 by decide)
        have lhc2106 := gC_cmpN hz2105 hc2106
        refine G_iconst 1 d_cX3_stands_30 (by decide +kernel) ?_
        refine G_goto 35 d_cX3_stands_31 (by decide +kernel) ?_
        exact G_zret FieldType.boolean d_cX3_stands_35 rfl rfl (Nat.le_of_ble_eq_true rfl) (Nat.le_of_ble_eq_true rfl) (Or.inr (Or.inr (Or.inr (⟨z2101, z2105, rfl, rfl, r2097, r2100, ez2101, r2108, bz2101, bz2105⟩))))
abbrev ky_2135_Graph_areJoined : gKey := (cX3_areJoined, 3, yX3_areJoined.cls, (some FieldType.boolean), [], yX3_areJoined.name, fun _ _ => True)
abbrev po_2135_Graph_areJoined (I : FieldType → ClassId) (q2109 : Nat) (q2110 : Nat) (q2111 : Nat) (q2112 : Nat) (q2113 : Nat) (q2114 : Nat) (q2115 : Nat) (q2116 : Nat) (q2117 : Nat) (p2118 : Int32) (p2119 : Int32) (p2120 : Int32) (p2121 : Int32) (p2122 : Int32) (p2123 : Int32) (p2124 : Int32) (f2125 : Nat → Int64) (f2126 : Nat → Int64) (f2127 : Nat → Int32) (f2128 : Nat → Int64) (f2129 : Nat → Int64) (f2130 : Nat → Int64) (f2131 : Nat → Int64) : Option Value → va_W → Prop := fun r w => (r = some (.int 0) ∧ w = [(q2109, .inr (8, [.ref q2110, .ref q2111, .ref q2112, .ref q2113, .int p2120, .int p2121])), (q2110, .inr (10, [.ref q2114, .ref q2115, .ref q2116, .ref q2117, .int p2122, .int p2123, .int p2124])), (q2111, .inl (I .long, 8640, .inr (.inl f2125))), (q2112, .inl (I .long, 12, .inr (.inl f2126))), (q2113, .inl (I .int, 720, .inl f2127)), (q2114, .inl (I .long, 480, .inr (.inl f2128))), (q2115, .inl (I .long, 480, .inr (.inl f2129))), (q2116, .inl (I .long, 480, .inr (.inl f2130))), (q2117, .inl (I .long, 12, .inr (.inl f2131)))] ∧ p2118.toInt < 0) ∨ (r = some (.int 0) ∧ w = [(q2109, .inr (8, [.ref q2110, .ref q2111, .ref q2112, .ref q2113, .int p2120, .int p2121])), (q2110, .inr (10, [.ref q2114, .ref q2115, .ref q2116, .ref q2117, .int p2122, .int p2123, .int p2124])), (q2111, .inl (I .long, 8640, .inr (.inl f2125))), (q2112, .inl (I .long, 12, .inr (.inl f2126))), (q2113, .inl (I .int, 720, .inl f2127)), (q2114, .inl (I .long, 480, .inr (.inl f2128))), (q2115, .inl (I .long, 480, .inr (.inl f2129))), (q2116, .inl (I .long, 480, .inr (.inl f2130))), (q2117, .inl (I .long, 12, .inr (.inl f2131)))] ∧ 0 ≤ p2118.toInt ∧ p2120.toInt ≤ p2118.toInt) ∨ (r = some (.int 0) ∧ w = [(q2109, .inr (8, [.ref q2110, .ref q2111, .ref q2112, .ref q2113, .int p2120, .int p2121])), (q2110, .inr (10, [.ref q2114, .ref q2115, .ref q2116, .ref q2117, .int p2122, .int p2123, .int p2124])), (q2111, .inl (I .long, 8640, .inr (.inl f2125))), (q2112, .inl (I .long, 12, .inr (.inl f2126))), (q2113, .inl (I .int, 720, .inl f2127)), (q2114, .inl (I .long, 480, .inr (.inl f2128))), (q2115, .inl (I .long, 480, .inr (.inl f2129))), (q2116, .inl (I .long, 480, .inr (.inl f2130))), (q2117, .inl (I .long, 12, .inr (.inl f2131)))] ∧ 0 ≤ p2118.toInt ∧ p2118.toInt < p2120.toInt ∧ p2119.toInt < 0) ∨ (r = some (.int 0) ∧ w = [(q2109, .inr (8, [.ref q2110, .ref q2111, .ref q2112, .ref q2113, .int p2120, .int p2121])), (q2110, .inr (10, [.ref q2114, .ref q2115, .ref q2116, .ref q2117, .int p2122, .int p2123, .int p2124])), (q2111, .inl (I .long, 8640, .inr (.inl f2125))), (q2112, .inl (I .long, 12, .inr (.inl f2126))), (q2113, .inl (I .int, 720, .inl f2127)), (q2114, .inl (I .long, 480, .inr (.inl f2128))), (q2115, .inl (I .long, 480, .inr (.inl f2129))), (q2116, .inl (I .long, 480, .inr (.inl f2130))), (q2117, .inl (I .long, 12, .inr (.inl f2131)))] ∧ 0 ≤ p2118.toInt ∧ p2118.toInt < p2120.toInt ∧ 0 ≤ p2119.toInt ∧ p2120.toInt ≤ p2119.toInt) ∨ (∃ (z2148 : Int32) (z2149 : Int32) (z2150 : Int32) (z2154 : Int32), r = some (.int 0) ∧ w = [(q2109, .inr (8, [.ref q2110, .ref q2111, .ref q2112, .ref q2113, .int p2120, .int p2121])), (q2110, .inr (10, [.ref q2114, .ref q2115, .ref q2116, .ref q2117, .int p2122, .int p2123, .int p2124])), (q2111, .inl (I .long, 8640, .inr (.inl f2125))), (q2112, .inl (I .long, 12, .inr (.inl f2126))), (q2113, .inl (I .int, 720, .inl f2127)), (q2114, .inl (I .long, 480, .inr (.inl f2128))), (q2115, .inl (I .long, 480, .inr (.inl f2129))), (q2116, .inl (I .long, 480, .inr (.inl f2130))), (q2117, .inl (I .long, 12, .inr (.inl f2131)))] ∧ 0 ≤ p2118.toInt ∧ p2118.toInt < p2120.toInt ∧ 0 ≤ p2119.toInt ∧ p2119.toInt < p2120.toInt ∧ z2148.toInt = p2118.toInt * p2121.toInt ∧ z2149.toInt = p2119.toInt / 64 ∧ z2150.toInt = z2148.toInt + z2149.toInt ∧ z2154.toInt = 0 ∧ gB z2148 0 8628 ∧ gB z2149 0 11 ∧ gB z2150 0 8639 ∧ gB z2154 0 0) ∨ (∃ (z2148 : Int32) (z2149 : Int32) (z2150 : Int32) (z2154 : Int32), r = some (.int 1) ∧ w = [(q2109, .inr (8, [.ref q2110, .ref q2111, .ref q2112, .ref q2113, .int p2120, .int p2121])), (q2110, .inr (10, [.ref q2114, .ref q2115, .ref q2116, .ref q2117, .int p2122, .int p2123, .int p2124])), (q2111, .inl (I .long, 8640, .inr (.inl f2125))), (q2112, .inl (I .long, 12, .inr (.inl f2126))), (q2113, .inl (I .int, 720, .inl f2127)), (q2114, .inl (I .long, 480, .inr (.inl f2128))), (q2115, .inl (I .long, 480, .inr (.inl f2129))), (q2116, .inl (I .long, 480, .inr (.inl f2130))), (q2117, .inl (I .long, 12, .inr (.inl f2131)))] ∧ 0 ≤ p2118.toInt ∧ p2118.toInt < p2120.toInt ∧ 0 ≤ p2119.toInt ∧ p2119.toInt < p2120.toInt ∧ z2148.toInt = p2118.toInt * p2121.toInt ∧ z2149.toInt = p2119.toInt / 64 ∧ z2150.toInt = z2148.toInt + z2149.toInt ∧ z2154.toInt ≠ 0 ∧ gB z2148 0 8628 ∧ gB z2149 0 11 ∧ gB z2150 0 8639 ∧ gB z2154 (-1) 1)
set_option maxRecDepth 100000 in
set_option maxHeartbeats 4000000 in
theorem ct_2135_Graph_areJoined (l : Launch) (hl0 : l.stackTraces = false) (D : va_G) (I : FieldType → ClassId) (q2109 : Nat) (q2110 : Nat) (q2111 : Nat) (q2112 : Nat) (q2113 : Nat) (q2114 : Nat) (q2115 : Nat) (q2116 : Nat) (q2117 : Nat) (p2118 : Int32) (p2119 : Int32) (p2120 : Int32) (p2121 : Int32) (p2122 : Int32) (p2123 : Int32) (p2124 : Int32) (f2125 : Nat → Int64) (f2126 : Nat → Int64) (f2127 : Nat → Int32) (f2128 : Nat → Int64) (f2129 : Nat → Int64) (f2130 : Nat → Int64) (f2131 : Nat → Int64) (bp2120 : gB p2120 0 720) (bp2121 : gB p2121 0 12) (bp2122 : gB p2122 0 720) (bp2123 : gB p2123 0 12) (bp2124 : gB p2124 0 1) (x2132 : p2121.toInt = (p2120.toInt + 63) / 64) (x2133 : lb_W f2125 (p2120.toInt * p2121.toInt) (p2121.toInt) (p2120.toInt)) (x2134 : p2123.toInt = (p2122.toInt + 63) / 64) : Ct (gV D I) l yX3_areJoined cX3_areJoined 3 (some FieldType.boolean) 0 0 0 0 [.ref q2109, .int p2118, .int p2119] [(q2109, .inr (8, [.ref q2110, .ref q2111, .ref q2112, .ref q2113, .int p2120, .int p2121])), (q2110, .inr (10, [.ref q2114, .ref q2115, .ref q2116, .ref q2117, .int p2122, .int p2123, .int p2124])), (q2111, .inl (I .long, 8640, .inr (.inl f2125))), (q2112, .inl (I .long, 12, .inr (.inl f2126))), (q2113, .inl (I .int, 720, .inl f2127)), (q2114, .inl (I .long, 480, .inr (.inl f2128))), (q2115, .inl (I .long, 480, .inr (.inl f2129))), (q2116, .inl (I .long, 480, .inr (.inl f2130))), (q2117, .inl (I .long, 12, .inr (.inl f2131)))] (po_2135_Graph_areJoined I q2109 q2110 q2111 q2112 q2113 q2114 q2115 q2116 q2117 p2118 p2119 p2120 p2121 p2122 p2123 p2124 f2125 f2126 f2127 f2128 f2129 f2130 f2131) gN := by
  refine Ct_of hl0 (by decide) (Nat.le_of_ble_eq_true rfl) ?_
  have bp2118 := gB_any p2118
  have bp2119 := gB_any p2119
  refine G_iload_n 1 d_cX3_areJoined_0 rfl ?_
  refine G_if_lt 53 d_cX3_areJoined_1 (by decide +kernel) (fun hc2136 => ?_) (fun hc2136 => ?_)
  · have r2137 : p2118.toInt < 0 := gj_lt hc2136 (show Int32.toInt 0 = 0 by decide)
    have bp2118' : gB p2118 (-2147483648) (-1) := ⟨by omega, by omega⟩
    refine G_iconst 0 d_cX3_areJoined_53 (by decide +kernel) ?_
    exact G_zret FieldType.boolean d_cX3_areJoined_54 rfl rfl (Nat.le_of_ble_eq_true rfl) (Nat.le_of_ble_eq_true rfl) (Or.inl ⟨rfl, rfl, r2137⟩)
  · have r2138 : 0 ≤ p2118.toInt := gj_nlt hc2136 (show Int32.toInt 0 = 0 by decide)
    have bp2118' : gB p2118 0 2147483647 := ⟨by omega, by omega⟩
    refine G_iload_n 1 d_cX3_areJoined_4 rfl ?_
    refine G_aload_n 0 d_cX3_areJoined_5 rfl ?_
    refine G_getf 0 4 d_cX3_areJoined_6 rfl (gk_X3 D I) (Nat.le_of_ble_eq_true rfl) w_2_55 rfl ?_
    refine G_icmp_ge 53 d_cX3_areJoined_9 (by decide +kernel) (fun hc2139 => ?_) (fun hc2139 => ?_)
    · have r2140 : p2120.toInt ≤ p2118.toInt := gC_le hc2139
      refine G_iconst 0 d_cX3_areJoined_53 (by decide +kernel) ?_
      exact G_zret FieldType.boolean d_cX3_areJoined_54 rfl rfl (Nat.le_of_ble_eq_true rfl) (Nat.le_of_ble_eq_true rfl) (Or.inr (Or.inl ⟨rfl, rfl, r2138, r2140⟩))
    · have r2141 : p2118.toInt < p2120.toInt := gC_nle hc2139
      have bp2118'' : gB p2118 0 719 := ⟨by omega, by omega⟩
      have bp2120' : gB p2120 1 720 := ⟨by omega, by omega⟩
      refine G_iload_n 2 d_cX3_areJoined_12 rfl ?_
      refine G_if_lt 53 d_cX3_areJoined_13 (by decide +kernel) (fun hc2142 => ?_) (fun hc2142 => ?_)
      · have r2143 : p2119.toInt < 0 := gj_lt hc2142 (show Int32.toInt 0 = 0 by decide)
        have bp2119' : gB p2119 (-2147483648) (-1) := ⟨by omega, by omega⟩
        refine G_iconst 0 d_cX3_areJoined_53 (by decide +kernel) ?_
        exact G_zret FieldType.boolean d_cX3_areJoined_54 rfl rfl (Nat.le_of_ble_eq_true rfl) (Nat.le_of_ble_eq_true rfl) (Or.inr (Or.inr (Or.inl ⟨rfl, rfl, r2138, r2141, r2143⟩)))
      · have r2144 : 0 ≤ p2119.toInt := gj_nlt hc2142 (show Int32.toInt 0 = 0 by decide)
        have bp2119' : gB p2119 0 2147483647 := ⟨by omega, by omega⟩
        refine G_iload_n 2 d_cX3_areJoined_16 rfl ?_
        refine G_aload_n 0 d_cX3_areJoined_17 rfl ?_
        refine G_getf 0 4 d_cX3_areJoined_18 rfl (gk_X3 D I) (Nat.le_of_ble_eq_true rfl) w_2_55 rfl ?_
        refine G_icmp_ge 53 d_cX3_areJoined_21 (by decide +kernel) (fun hc2145 => ?_) (fun hc2145 => ?_)
        · have r2146 : p2120.toInt ≤ p2119.toInt := gC_le hc2145
          have bp2119'' : gB p2119 1 2147483647 := ⟨by omega, by omega⟩
          refine G_iconst 0 d_cX3_areJoined_53 (by decide +kernel) ?_
          exact G_zret FieldType.boolean d_cX3_areJoined_54 rfl rfl (Nat.le_of_ble_eq_true rfl) (Nat.le_of_ble_eq_true rfl) (Or.inr (Or.inr (Or.inr (Or.inl ⟨rfl, rfl, r2138, r2141, r2144, r2146⟩))))
        · have r2147 : p2119.toInt < p2120.toInt := gC_nle hc2145
          have bp2119'' : gB p2119 0 719 := ⟨by omega, by omega⟩
          refine G_aload_n 0 d_cX3_areJoined_24 rfl ?_
          refine G_getf 0 1 d_cX3_areJoined_25 rfl (gk_X3 D I) (Nat.le_of_ble_eq_true rfl) w_2_49 rfl ?_
          refine G_iload_n 1 d_cX3_areJoined_28 rfl ?_
          refine G_aload_n 0 d_cX3_areJoined_29 rfl ?_
          refine G_getf 0 5 d_cX3_areJoined_30 rfl (gk_X3 D I) (Nat.le_of_ble_eq_true rfl) w_2_57 rfl ?_
          refine G_imul d_cX3_areJoined_33 (G_nam fun z2148 hz2148 => ?_)
          have ez2148 : z2148.toInt = p2118.toInt * p2121.toInt := by rw [gI_mul hz2148 bp2118'' bp2121 (by decide) (by decide) (by decide)]
          have bz2148 : gB z2148 0 8628 := gB_mul hz2148 bp2118'' bp2121 (by decide) (by decide) (by decide) (by decide)
          refine G_iload_n 2 d_cX3_areJoined_34 rfl ?_
          refine G_bipush 6 d_cX3_areJoined_35 (by decide +kernel) ?_
          refine G_ishr d_cX3_areJoined_37 (G_nam fun z2149 hz2149 => ?_)
          have ez2149 : z2149.toInt = p2119.toInt / 64 := gI_shr (k := 6) hz2149 (by decide)
          have bz2149 : gB z2149 0 11 := ⟨by omega, by omega⟩
          refine G_iadd d_cX3_areJoined_38 (G_nam fun z2150 hz2150 => ?_)
          have ez2150 : z2150.toInt = z2148.toInt + z2149.toInt := by rw [gI_add hz2150 bz2148 bz2149 (by decide) (by decide)]
          have bz2150 : gB z2150 0 8639 := gB_add (gI_add hz2150 bz2148 bz2149 (by decide) (by decide)) bz2148 bz2149 (by decide) (by decide)
          refine G_lald 2 2 d_cX3_areJoined_39 rfl rfl (gB_in bz2150 (by decide) (by decide)) (G_namL fun u2151 hu2151 => ?_)
          have qu2151 : lb_Q u2151 (p2120.toInt - 64 * z2149.toInt) := lb_Wld hu2151 x2133 (by omega) (lb_Lt1 ez2150 ez2148 (by omega) (by omega) (by omega)) (lb_Mod1 ez2150 ez2148 (by omega) (by omega))
          refine G_iload_n 2 d_cX3_areJoined_40 rfl ?_
          refine G_lshr d_cX3_areJoined_41 (G_namL fun u2152 hu2152 => ?_)
          refine G_lconst 1 d_cX3_areJoined_42 rfl ?_
          refine G_land d_cX3_areJoined_43 (G_namL fun u2153 hu2153 => ?_)
          refine G_lconst 0 d_cX3_areJoined_44 rfl ?_
          refine G_lcmp d_cX3_areJoined_45 (G_nam fun z2154 hz2154 => ?_)
          have bz2154 : gB z2154 (-1) 1 := gB_cmp hz2154
          refine G_if_eq 53 d_cX3_areJoined_46 (by decide +kernel) (fun hc2155 => ?_) (fun hc2155 => ?_)
          · have r2156 : z2154.toInt = 0 := gj_eq hc2155 (show Int32.toInt 0 = 0 by decide)
            have bz2154' : gB z2154 0 0 := ⟨by omega, by omega⟩
            have lhc2155 := gC_cmpE hz2154 hc2155
            refine G_iconst 0 d_cX3_areJoined_53 (by decide +kernel) ?_
            exact G_zret FieldType.boolean d_cX3_areJoined_54 rfl rfl (Nat.le_of_ble_eq_true rfl) (Nat.le_of_ble_eq_true rfl) (Or.inr (Or.inr (Or.inr (Or.inr (Or.inl ⟨z2148, z2149, z2150, z2154, rfl, rfl, r2138, r2141, r2144, r2147, ez2148, ez2149, ez2150, r2156, bz2148, bz2149, bz2150, bz2154'⟩)))))
          · have r2157 : z2154.toInt ≠ 0 := gj_neq hc2155 (show Int32.toInt 0 = 0 by decide)
            have lhc2155 := gC_cmpN hz2154 hc2155
            refine G_iconst 1 d_cX3_areJoined_49 (by decide +kernel) ?_
            refine G_goto 54 d_cX3_areJoined_50 (by decide +kernel) ?_
            exact G_zret FieldType.boolean d_cX3_areJoined_54 rfl rfl (Nat.le_of_ble_eq_true rfl) (Nat.le_of_ble_eq_true rfl) (Or.inr (Or.inr (Or.inr (Or.inr (Or.inr (⟨z2148, z2149, z2150, z2154, rfl, rfl, r2138, r2141, r2144, r2147, ez2148, ez2149, ez2150, r2157, bz2148, bz2149, bz2150, bz2154⟩))))))
abbrev ky_2187_Graph_canBeOne : gKey := (cX3_canBeOne, 15, yX3_canBeOne.cls, (some FieldType.boolean), [], yX3_canBeOne.name, fun _ _ => True)
abbrev po_2187_Graph_canBeOne (I : FieldType → ClassId) (q2158 : Nat) (q2159 : Nat) (q2160 : Nat) (q2161 : Nat) (q2162 : Nat) (q2163 : Nat) (q2164 : Nat) (q2165 : Nat) (q2166 : Nat) (p2167 : Int32) (p2168 : Int32) (p2169 : Int32) (p2170 : Int32) (p2171 : Int32) (p2172 : Int32) (p2173 : Int32) (p2174 : Int32) (f2175 : Nat → Int64) (f2176 : Nat → Int64) (f2177 : Nat → Int32) (f2178 : Nat → Int64) (f2179 : Nat → Int64) (f2180 : Nat → Int64) (f2181 : Nat → Int64) : Option Value → va_W → Prop := fun r w => ∃ (o3687 : Int32), r = some (.int o3687) ∧ w = [(q2158, .inr (8, [.ref q2159, .ref q2160, .ref q2161, .ref q2162, .int p2170, .int p2171])), (q2159, .inr (10, [.ref q2163, .ref q2164, .ref q2165, .ref q2166, .int p2172, .int p2173, .int p2174])), (q2160, .inl (I .long, 8640, .inr (.inl f2175))), (q2161, .inl (I .long, 12, .inr (.inl f2176))), (q2162, .inl (I .int, 720, .inl f2177)), (q2163, .inl (I .long, 480, .inr (.inl f2178))), (q2164, .inl (I .long, 480, .inr (.inl f2179))), (q2165, .inl (I .long, 480, .inr (.inl f2180))), (q2166, .inl (I .long, 12, .inr (.inl f2181)))] ∧ gB o3687 0 1
set_option maxRecDepth 100000 in
set_option maxHeartbeats 4000000 in
theorem ct_2187_Graph_canBeOne (l : Launch) (hl0 : l.stackTraces = false) (D : va_G) (I : FieldType → ClassId) (q2158 : Nat) (q2159 : Nat) (q2160 : Nat) (q2161 : Nat) (q2162 : Nat) (q2163 : Nat) (q2164 : Nat) (q2165 : Nat) (q2166 : Nat) (p2167 : Int32) (p2168 : Int32) (p2169 : Int32) (p2170 : Int32) (p2171 : Int32) (p2172 : Int32) (p2173 : Int32) (p2174 : Int32) (f2175 : Nat → Int64) (f2176 : Nat → Int64) (f2177 : Nat → Int32) (f2178 : Nat → Int64) (f2179 : Nat → Int64) (f2180 : Nat → Int64) (f2181 : Nat → Int64) (bp2167 : gB p2167 0 719) (bp2168 : gB p2168 0 719) (bp2170 : gB p2170 0 720) (bp2171 : gB p2171 0 12) (bp2172 : gB p2172 0 720) (bp2173 : gB p2173 0 12) (bp2174 : gB p2174 0 1) (x2182 : p2167.toInt < p2170.toInt) (x2183 : p2168.toInt < p2170.toInt) (x2184 : p2171.toInt = (p2170.toInt + 63) / 64) (x2185 : lb_W f2175 (p2170.toInt * p2171.toInt) (p2171.toInt) (p2170.toInt)) (x2186 : p2173.toInt = (p2172.toInt + 63) / 64) : Ct (gV D I) l yX3_canBeOne cX3_canBeOne 15 (some FieldType.boolean) 2 42 0 0 [.ref q2158, .int p2167, .int p2168, .int p2169] [(q2158, .inr (8, [.ref q2159, .ref q2160, .ref q2161, .ref q2162, .int p2170, .int p2171])), (q2159, .inr (10, [.ref q2163, .ref q2164, .ref q2165, .ref q2166, .int p2172, .int p2173, .int p2174])), (q2160, .inl (I .long, 8640, .inr (.inl f2175))), (q2161, .inl (I .long, 12, .inr (.inl f2176))), (q2162, .inl (I .int, 720, .inl f2177)), (q2163, .inl (I .long, 480, .inr (.inl f2178))), (q2164, .inl (I .long, 480, .inr (.inl f2179))), (q2165, .inl (I .long, 480, .inr (.inl f2180))), (q2166, .inl (I .long, 12, .inr (.inl f2181)))] (po_2187_Graph_canBeOne I q2158 q2159 q2160 q2161 q2162 q2163 q2164 q2165 q2166 p2167 p2168 p2169 p2170 p2171 p2172 p2173 p2174 f2175 f2176 f2177 f2178 f2179 f2180 f2181) gN := by
  refine Ct_of hl0 (by decide) (Nat.le_of_ble_eq_true rfl) ?_
  have bp2169 := gB_any p2169
  refine G_iconst 0 d_cX3_canBeOne_0 (by decide +kernel) ?_
  refine G_istore (L' := [(4, .int 0), (0, .ref q2158), (1, .int p2167), (2, .int p2168), (3, .int p2169)]) d_cX3_canBeOne_1 (Nat.le_of_ble_eq_true rfl) rfl ?_
  refine G_iconst 0 d_cX3_canBeOne_3 (by decide +kernel) ?_
  refine G_istore (L' := [(5, .int 0), (4, .int 0), (0, .ref q2158), (1, .int p2167), (2, .int p2168), (3, .int p2169)]) d_cX3_canBeOne_4 (Nat.le_of_ble_eq_true rfl) rfl ?_
  have hlp6_3476 : ∀ (n6_3476 : Nat) (g3475 : Int32) (g3476 : Int32), gB g3475 0 12 → gB g3476 (-2147483648) 2147483647 → ((13 : Int) - g3475.toInt).toNat < n6_3476 → G (gV D I) l (gRm 2 42 0 0) (gM (gV D I) (po_2187_Graph_canBeOne I q2158 q2159 q2160 q2161 q2162 q2163 q2164 q2165 q2166 p2167 p2168 p2169 p2170 p2171 p2172 p2173 p2174 f2175 f2176 f2177 f2178 f2179 f2180 f2181) gN 0 0) ky_2187_Graph_canBeOne 6 [(5, .int g3475), (4, .int g3476), (0, .ref q2158), (1, .int p2167), (2, .int p2168), (3, .int p2169)] [] [(q2158, .inr (8, [.ref q2159, .ref q2160, .ref q2161, .ref q2162, .int p2170, .int p2171])), (q2159, .inr (10, [.ref q2163, .ref q2164, .ref q2165, .ref q2166, .int p2172, .int p2173, .int p2174])), (q2160, .inl (I .long, 8640, .inr (.inl f2175))), (q2161, .inl (I .long, 12, .inr (.inl f2176))), (q2162, .inl (I .int, 720, .inl f2177)), (q2163, .inl (I .long, 480, .inr (.inl f2178))), (q2164, .inl (I .long, 480, .inr (.inl f2179))), (q2165, .inl (I .long, 480, .inr (.inl f2180))), (q2166, .inl (I .long, 12, .inr (.inl f2181)))] 0 0 := by
    intro n6_3476
    induction n6_3476 with
    | zero => intro g3475 g3476 bg3475 bg3476 hm6_3476; exact absurd hm6_3476 (Nat.not_lt_zero _)
    | succ n6_3476 ih6_3476 =>
      intro g3475 g3476 bg3475 bg3476 hm6_3476
      refine G_iload 0 d_cX3_canBeOne_6 rfl ?_
      refine G_aload_n 2 d_cX3_canBeOne_8 rfl ?_
      refine G_getf 0 5 d_cX3_canBeOne_9 rfl (gk_X3 D I) (Nat.le_of_ble_eq_true rfl) w_2_57 rfl ?_
      refine G_icmp_ge 142 d_cX3_canBeOne_12 (by decide +kernel) (fun hc3477 => ?_) (fun hc3477 => ?_)
      · have r3478 : p2171.toInt ≤ g3475.toInt := gC_le hc3477
        refine G_iload 1 d_cX3_canBeOne_142 rfl ?_
        refine G_iload_n 5 d_cX3_canBeOne_144 rfl ?_
        refine G_icmp_ge 152 d_cX3_canBeOne_145 (by decide +kernel) (fun hc3479 => ?_) (fun hc3479 => ?_)
        · have r3480 : p2169.toInt ≤ g3476.toInt := gC_le hc3479
          refine G_iconst 0 d_cX3_canBeOne_152 (by decide +kernel) ?_
          exact G_zret FieldType.boolean d_cX3_canBeOne_153 rfl rfl (Nat.le_of_ble_eq_true rfl) (Nat.le_of_ble_eq_true rfl) ⟨0, rfl, rfl, (gB_w (gBl (show Int32.toInt 0 = 0 by decide)) (by decide) (by decide))⟩
        · have r3481 : g3476.toInt < p2169.toInt := gC_nle hc3479
          have bg3476' : gB g3476 (-2147483648) 2147483646 := ⟨by omega, by omega⟩
          have bp2169' : gB p2169 (-2147483647) 2147483647 := ⟨by omega, by omega⟩
          refine G_iconst 1 d_cX3_canBeOne_148 (by decide +kernel) ?_
          refine G_goto 153 d_cX3_canBeOne_149 (by decide +kernel) ?_
          exact G_zret FieldType.boolean d_cX3_canBeOne_153 rfl rfl (Nat.le_of_ble_eq_true rfl) (Nat.le_of_ble_eq_true rfl) ⟨1, rfl, rfl, (gB_w (gBl (show Int32.toInt 1 = 1 by decide)) (by decide) (by decide))⟩
      · have r3482 : g3475.toInt < p2171.toInt := gC_nle hc3477
        have bg3475' : gB g3475 0 11 := ⟨by omega, by omega⟩
        have bp2171' : gB p2171 1 12 := ⟨by omega, by omega⟩
        refine G_aload_n 2 d_cX3_canBeOne_15 rfl ?_
        refine G_getf 0 1 d_cX3_canBeOne_16 rfl (gk_X3 D I) (Nat.le_of_ble_eq_true rfl) w_2_49 rfl ?_
        refine G_iload_n 3 d_cX3_canBeOne_19 rfl ?_
        refine G_aload_n 2 d_cX3_canBeOne_20 rfl ?_
        refine G_getf 0 5 d_cX3_canBeOne_21 rfl (gk_X3 D I) (Nat.le_of_ble_eq_true rfl) w_2_57 rfl ?_
        refine G_imul d_cX3_canBeOne_24 (G_nam fun z3483 hz3483 => ?_)
        have ez3483 : z3483.toInt = p2167.toInt * p2171.toInt := by rw [gI_mul hz3483 bp2167 bp2171' (by decide) (by decide) (by decide)]
        have bz3483 : gB z3483 0 8628 := gB_mul hz3483 bp2167 bp2171' (by decide) (by decide) (by decide) (by decide)
        refine G_iload 0 d_cX3_canBeOne_25 rfl ?_
        refine G_iadd d_cX3_canBeOne_27 (G_nam fun z3484 hz3484 => ?_)
        have ez3484 : z3484.toInt = z3483.toInt + g3475.toInt := by rw [gI_add hz3484 bz3483 bg3475' (by decide) (by decide)]
        have bz3484 : gB z3484 0 8639 := gB_add (gI_add hz3484 bz3483 bg3475' (by decide) (by decide)) bz3483 bg3475' (by decide) (by decide)
        refine G_lald 2 2 d_cX3_canBeOne_28 rfl rfl (gB_in bz3484 (by decide) (by decide)) (G_namL fun u3485 hu3485 => ?_)
        have qu3485 : lb_Q u3485 (p2170.toInt - 64 * g3475.toInt) := lb_Wld hu3485 x2185 (by omega) (lb_Lt1 ez3484 ez3483 (by omega) (by omega) (by omega)) (lb_Mod1 ez3484 ez3483 (by omega) (by omega))
        refine G_lstore (L' := [(6, .long u3485), (5, .int g3475), (4, .int g3476), (0, .ref q2158), (1, .int p2167), (2, .int p2168), (3, .int p2169)]) d_cX3_canBeOne_29 (Nat.le_of_ble_eq_true rfl) rfl ?_
        refine G_aload_n 3 d_cX3_canBeOne_31 rfl ?_
        refine G_getf 0 1 d_cX3_canBeOne_32 rfl (gk_X3 D I) (Nat.le_of_ble_eq_true rfl) w_2_49 rfl ?_
        refine G_iload_n 5 d_cX3_canBeOne_35 rfl ?_
        refine G_aload_n 3 d_cX3_canBeOne_36 rfl ?_
        refine G_getf 0 5 d_cX3_canBeOne_37 rfl (gk_X3 D I) (Nat.le_of_ble_eq_true rfl) w_2_57 rfl ?_
        refine G_imul d_cX3_canBeOne_40 (G_nam fun z3486 hz3486 => ?_)
        have ez3486 : z3486.toInt = p2168.toInt * p2171.toInt := by rw [gI_mul hz3486 bp2168 bp2171' (by decide) (by decide) (by decide)]
        have bz3486 : gB z3486 0 8628 := gB_mul hz3486 bp2168 bp2171' (by decide) (by decide) (by decide) (by decide)
        refine G_iload 1 d_cX3_canBeOne_41 rfl ?_
        refine G_iadd d_cX3_canBeOne_43 (G_nam fun z3487 hz3487 => ?_)
        have ez3487 : z3487.toInt = z3486.toInt + g3475.toInt := by rw [gI_add hz3487 bz3486 bg3475' (by decide) (by decide)]
        have bz3487 : gB z3487 0 8639 := gB_add (gI_add hz3487 bz3486 bg3475' (by decide) (by decide)) bz3486 bg3475' (by decide) (by decide)
        refine G_lald 2 2 d_cX3_canBeOne_44 rfl rfl (gB_in bz3487 (by decide) (by decide)) (G_namL fun u3488 hu3488 => ?_)
        have qu3488 : lb_Q u3488 (p2170.toInt - 64 * g3475.toInt) := lb_Wld hu3488 x2185 (by omega) (lb_Lt1 ez3487 ez3486 (by omega) (by omega) (by omega)) (lb_Mod1 ez3487 ez3486 (by omega) (by omega))
        refine G_lstore (L' := [(8, .long u3488), (6, .long u3485), (5, .int g3475), (4, .int g3476), (0, .ref q2158), (1, .int p2167), (2, .int p2168), (3, .int p2169)]) d_cX3_canBeOne_45 (Nat.le_of_ble_eq_true rfl) rfl ?_
        refine G_lload 1 d_cX3_canBeOne_47 rfl ?_
        refine G_lload 0 d_cX3_canBeOne_49 rfl ?_
        refine G_lor d_cX3_canBeOne_51 (G_namL fun u3489 hu3489 => ?_)
        have qu3489 : lb_Q u3489 (p2170.toInt - 64 * g3475.toInt) := lb_Qor hu3489 qu3485 qu3488
        refine G_lstore (L' := [(10, .long u3489), (8, .long u3488), (6, .long u3485), (5, .int g3475), (4, .int g3476), (0, .ref q2158), (1, .int p2167), (2, .int p2168), (3, .int p2169)]) d_cX3_canBeOne_52 (Nat.le_of_ble_eq_true rfl) rfl ?_
        refine G_iconst 0 d_cX3_canBeOne_54 (by decide +kernel) ?_
        refine G_istore (L' := [(12, .int 0), (10, .long u3489), (8, .long u3488), (6, .long u3485), (5, .int g3475), (4, .int g3476), (0, .ref q2158), (1, .int p2167), (2, .int p2168), (3, .int p2169)]) d_cX3_canBeOne_55 (Nat.le_of_ble_eq_true rfl) rfl ?_
        have hlp57_3658 : ∀ (n57_3658 : Nat) (g3655 : Int32) (gl3656 : Int64) (g3657 : Int32), gB g3655 0 64 → gB g3657 (-2147483648) 2147483647 → lb_Q gl3656 (p2170.toInt - 64 * g3475.toInt) → ((65 : Int) - g3655.toInt).toNat < n57_3658 → G (gV D I) l (gRm 2 42 0 0) (gM (gV D I) (po_2187_Graph_canBeOne I q2158 q2159 q2160 q2161 q2162 q2163 q2164 q2165 q2166 p2167 p2168 p2169 p2170 p2171 p2172 p2173 p2174 f2175 f2176 f2177 f2178 f2179 f2180 f2181) gN 0 0) ky_2187_Graph_canBeOne 57 [(12, .int g3655), (10, .long gl3656), (8, .long u3488), (6, .long u3485), (5, .int g3475), (4, .int g3657), (0, .ref q2158), (1, .int p2167), (2, .int p2168), (3, .int p2169)] [] [(q2158, .inr (8, [.ref q2159, .ref q2160, .ref q2161, .ref q2162, .int p2170, .int p2171])), (q2159, .inr (10, [.ref q2163, .ref q2164, .ref q2165, .ref q2166, .int p2172, .int p2173, .int p2174])), (q2160, .inl (I .long, 8640, .inr (.inl f2175))), (q2161, .inl (I .long, 12, .inr (.inl f2176))), (q2162, .inl (I .int, 720, .inl f2177)), (q2163, .inl (I .long, 480, .inr (.inl f2178))), (q2164, .inl (I .long, 480, .inr (.inl f2179))), (q2165, .inl (I .long, 480, .inr (.inl f2180))), (q2166, .inl (I .long, 12, .inr (.inl f2181)))] 0 0 := by
          intro n57_3658
          induction n57_3658 with
          | zero => intro g3655 gl3656 g3657 bg3655 bg3657 x3658 hm57_3658; exact absurd hm57_3658 (Nat.not_lt_zero _)
          | succ n57_3658 ih57_3658 =>
            intro g3655 gl3656 g3657 bg3655 bg3657 x3658 hm57_3658
            refine G_iload 0 d_cX3_canBeOne_57 rfl ?_
            refine G_bipush 64 d_cX3_canBeOne_59 (by decide +kernel) ?_
            refine G_icmp_ge 136 d_cX3_canBeOne_61 (by decide +kernel) (fun hc3659 => ?_) (fun hc3659 => ?_)
            · have r3660 : 64 ≤ g3655.toInt := gj_leL hc3659 (show Int32.toInt 64 = 64 by decide)
              have bg3655' : gB g3655 64 64 := ⟨by omega, by omega⟩
              obtain ⟨z3661, hz3661⟩ : ∃ z : Int32, z = g3475 + Int32.ofInt 1 := ⟨_, rfl⟩
              have ez3661 : z3661.toInt = g3475.toInt + 1 := gI_inc hz3661 (by decide) bg3475' (by decide) (by decide)
              have bz3661 : gB z3661 1 12 := ⟨by omega, by omega⟩
              refine G_iinc (L' := [(5, .int z3661), (12, .int g3655), (10, .long gl3656), (8, .long u3488), (6, .long u3485), (4, .int g3657), (0, .ref q2158), (1, .int p2167), (2, .int p2168), (3, .int p2169)]) z3661 4 d_cX3_canBeOne_136 rfl hz3661.symm (Nat.le_of_ble_eq_true rfl) rfl ?_
              refine G_goto 6 d_cX3_canBeOne_139 (by decide +kernel) ?_
              refine G_lv (L' := [(5, .int z3661), (4, .int g3657), (0, .ref q2158), (1, .int p2167), (2, .int p2168), (3, .int p2169)]) [0, 5, 6, 7, 8, 9] rfl ?_
              exact ih6_3476 z3661 g3657 (gB_w bz3661 (by decide) (by decide)) bg3657 (by omega)
            · have r3662 : g3655.toInt < 64 := gj_nleL hc3659 (show Int32.toInt 64 = 64 by decide)
              have bg3655' : gB g3655 0 63 := ⟨by omega, by omega⟩
              refine G_lload 1 d_cX3_canBeOne_64 rfl ?_
              refine G_lconst 0 d_cX3_canBeOne_66 rfl ?_
              refine G_lcmp d_cX3_canBeOne_67 (G_nam fun z3663 hz3663 => ?_)
              have bz3663 : gB z3663 (-1) 1 := gB_cmp hz3663
              refine G_if_eq 136 d_cX3_canBeOne_68 (by decide +kernel) (fun hc3664 => ?_) (fun hc3664 => ?_)
              · have r3665 : z3663.toInt = 0 := gj_eq hc3664 (show Int32.toInt 0 = 0 by decide)
                have bz3663' : gB z3663 0 0 := ⟨by omega, by omega⟩
                have lhc3664 := gC_cmpE hz3663 hc3664
                obtain ⟨z3666, hz3666⟩ : ∃ z : Int32, z = g3475 + Int32.ofInt 1 := ⟨_, rfl⟩
                have ez3666 : z3666.toInt = g3475.toInt + 1 := gI_inc hz3666 (by decide) bg3475' (by decide) (by decide)
                have bz3666 : gB z3666 1 12 := ⟨by omega, by omega⟩
                refine G_iinc (L' := [(5, .int z3666), (12, .int g3655), (10, .long gl3656), (8, .long u3488), (6, .long u3485), (4, .int g3657), (0, .ref q2158), (1, .int p2167), (2, .int p2168), (3, .int p2169)]) z3666 4 d_cX3_canBeOne_136 rfl hz3666.symm (Nat.le_of_ble_eq_true rfl) rfl ?_
                refine G_goto 6 d_cX3_canBeOne_139 (by decide +kernel) ?_
                refine G_lv (L' := [(5, .int z3666), (4, .int g3657), (0, .ref q2158), (1, .int p2167), (2, .int p2168), (3, .int p2169)]) [0, 5, 6, 7, 8, 9] rfl ?_
                exact ih6_3476 z3666 g3657 (gB_w bz3666 (by decide) (by decide)) bg3657 (by omega)
              · have r3667 : z3663.toInt ≠ 0 := gj_neq hc3664 (show Int32.toInt 0 = 0 by decide)
                have lhc3664 := gC_cmpN hz3663 hc3664
                refine G_lload 1 d_cX3_canBeOne_71 rfl ?_
                refine G_callSN (As := [.long gl3656]) (wr := [(q2158, .inr (8, [.ref q2159, .ref q2160, .ref q2161, .ref q2162, .int p2170, .int p2171])), (q2159, .inr (10, [.ref q2163, .ref q2164, .ref q2165, .ref q2166, .int p2172, .int p2173, .int p2174])), (q2160, .inl (I .long, 8640, .inr (.inl f2175))), (q2161, .inl (I .long, 12, .inr (.inl f2176))), (q2162, .inl (I .int, 720, .inl f2177)), (q2163, .inl (I .long, 480, .inr (.inl f2178))), (q2164, .inl (I .long, 480, .inr (.inl f2179))), (q2165, .inl (I .long, 480, .inr (.inl f2180))), (q2166, .inl (I .long, 12, .inr (.inl f2181)))]) (gV_ok D I) (ct_47_SpillForge_lowestBit l hl0 D I gl3656 ) d_cX3_canBeOne_73 ⟨(fun _ _ _ h => gn_w 63 rfl h), w_1_1, w_4_127, by decide, rfl, (Nat.le_of_ble_eq_true rfl), (Nat.le_of_ble_eq_true rfl)⟩ w_4_126 [] [0, 1, 2, 3, 4, 5, 6, 7, 8] rfl rfl rfl rfl (by decide) (Nat.le_of_ble_eq_true rfl) (Nat.le_of_ble_eq_true rfl) (Nat.le_of_ble_eq_true rfl) (fun r w hp => ?_)
                obtain ⟨o3668, rfl, rfl, bo3668, x3669⟩ := hp
                have lwo3668 := lb_lowE lhc3664 x3669
                have bo3668' : gB o3668 0 63 := ⟨by omega, by omega⟩
                have lqo3668 : o3668.toInt < p2170.toInt - 64 * g3475.toInt := lb_lowQ lwo3668 x3658
                change G _ _ _ _ _ _ _ (.int o3668 :: _) _ _ _
                refine G_ws (ws' := [(q2158, .inr (8, [.ref q2159, .ref q2160, .ref q2161, .ref q2162, .int p2170, .int p2171])), (q2159, .inr (10, [.ref q2163, .ref q2164, .ref q2165, .ref q2166, .int p2172, .int p2173, .int p2174])), (q2160, .inl (I .long, 8640, .inr (.inl f2175))), (q2161, .inl (I .long, 12, .inr (.inl f2176))), (q2162, .inl (I .int, 720, .inl f2177)), (q2163, .inl (I .long, 480, .inr (.inl f2178))), (q2164, .inl (I .long, 480, .inr (.inl f2179))), (q2165, .inl (I .long, 480, .inr (.inl f2180))), (q2166, .inl (I .long, 12, .inr (.inl f2181)))]) (cs' := 0) (sl' := 0) rfl rfl rfl ?_
                refine G_istore (L' := [(13, .int o3668), (12, .int g3655), (10, .long gl3656), (8, .long u3488), (6, .long u3485), (5, .int g3475), (4, .int g3657), (0, .ref q2158), (1, .int p2167), (2, .int p2168), (3, .int p2169)]) d_cX3_canBeOne_76 (Nat.le_of_ble_eq_true rfl) rfl ?_
                refine G_lload 2 d_cX3_canBeOne_78 rfl ?_
                refine G_lload 2 d_cX3_canBeOne_80 rfl ?_
                refine G_lconst 1 d_cX3_canBeOne_82 rfl ?_
                refine G_lsub d_cX3_canBeOne_83 (G_namL fun u3670 hu3670 => ?_)
                refine G_land d_cX3_canBeOne_84 (G_namL fun u3671 hu3671 => ?_)
                have qu3671 : lb_Q u3671 (p2170.toInt - 64 * g3475.toInt) := lb_QandL hu3671 x3658
                refine G_lstore (L' := [(10, .long u3671), (13, .int o3668), (12, .int g3655), (8, .long u3488), (6, .long u3485), (5, .int g3475), (4, .int g3657), (0, .ref q2158), (1, .int p2167), (2, .int p2168), (3, .int p2169)]) d_cX3_canBeOne_85 (Nat.le_of_ble_eq_true rfl) rfl ?_
                refine G_aload_n 7 d_cX3_canBeOne_87 rfl ?_
                refine G_getf 0 3 d_cX3_canBeOne_88 rfl (gk_X3 D I) (Nat.le_of_ble_eq_true rfl) w_2_52 rfl ?_
                refine G_iload 5 d_cX3_canBeOne_91 rfl ?_
                refine G_bipush 6 d_cX3_canBeOne_93 (by decide +kernel) ?_
                refine G_ishl d_cX3_canBeOne_95 (G_nam fun z3672 hz3672 => ?_)
                have ez3672 : z3672.toInt = g3475.toInt * 64 := gI_shl (k := 6) hz3672 (by decide) bg3475' (by decide) (by decide)
                have bz3672 : gB z3672 0 704 := ⟨by omega, by omega⟩
                refine G_iload 1 d_cX3_canBeOne_96 rfl ?_
                refine G_ior d_cX3_canBeOne_98 (G_nam fun z3673 hz3673 => ?_)
                have ez3673 : z3673.toInt = z3672.toInt + o3668.toInt := gI_or (k := 6) (m := (g3475.toInt).toNat) hz3673 (by omega) (bo3668') (by decide) (by omega)
                have bz3673 : gB z3673 0 767 := ⟨by omega, by omega⟩
                refine G_iald 4 0 d_cX3_canBeOne_99 rfl rfl (gB_inr (by omega) (by omega)) (G_nam fun z3674 hz3674 => ?_)
                have bz3674 : gB z3674 (-2147483648) 2147483647 := gB_any z3674
                refine G_lload 4 d_cX3_canBeOne_100 rfl ?_
                refine G_lload 3 d_cX3_canBeOne_102 rfl ?_
                refine G_land d_cX3_canBeOne_104 (G_namL fun u3675 hu3675 => ?_)
                have qu3675 : lb_Q u3675 (p2170.toInt - 64 * g3475.toInt) := lb_QandL hu3675 qu3485
                refine G_iload 1 d_cX3_canBeOne_105 rfl ?_
                refine G_lushr d_cX3_canBeOne_107 (G_namL fun u3676 hu3676 => ?_)
                refine G_lconst 1 d_cX3_canBeOne_108 rfl ?_
                refine G_land d_cX3_canBeOne_109 (G_namL fun u3677 hu3677 => ?_)
                refine G_l2i d_cX3_canBeOne_110 (G_nam fun z3678 hz3678 => ?_)
                have bz3678 : gB z3678 (-2147483648) 2147483647 := gB_any z3678
                refine G_isub d_cX3_canBeOne_111 (G_nam fun z3679 hz3679 => ?_)
                have bz3679 : gB z3679 (-2147483648) 2147483647 := gB_any z3679
                refine G_istore (L' := [(14, .int z3679), (10, .long u3671), (13, .int o3668), (12, .int g3655), (8, .long u3488), (6, .long u3485), (5, .int g3475), (4, .int g3657), (0, .ref q2158), (1, .int p2167), (2, .int p2168), (3, .int p2169)]) d_cX3_canBeOne_112 (Nat.le_of_ble_eq_true rfl) rfl ?_
                refine G_iload 7 d_cX3_canBeOne_114 rfl ?_
                refine G_iload 0 d_cX3_canBeOne_116 rfl ?_
                refine G_iload_n 11 d_cX3_canBeOne_118 rfl ?_
                refine G_icmp_lt 126 d_cX3_canBeOne_119 (by decide +kernel) (fun hc3680 => ?_) (fun hc3680 => ?_)
                · have r3681 : z3679.toInt < p2169.toInt := gC_lt hc3680
                  have bz3679' : gB z3679 (-2147483648) 2147483646 := ⟨by omega, by omega⟩
                  have bp2169' : gB p2169 (-2147483647) 2147483647 := ⟨by omega, by omega⟩
                  refine G_iconst 0 d_cX3_canBeOne_126 (by decide +kernel) ?_
                  refine G_iadd d_cX3_canBeOne_127 (G_nam fun z3682 hz3682 => ?_)
                  have ez3682 : z3682.toInt = g3657.toInt + 0 := by rw [gI_add hz3682 bg3657 (gBl (show Int32.toInt 0 = 0 by decide)) (by decide) (by decide), show Int32.toInt 0 = 0 from by decide]
                  have bz3682 : gB z3682 (-2147483648) 2147483647 := gB_add (gI_add hz3682 bg3657 (gBl (show Int32.toInt 0 = 0 by decide)) (by decide) (by decide)) bg3657 (gBl (show Int32.toInt 0 = 0 by decide)) (by decide) (by decide)
                  refine G_istore (L' := [(4, .int z3682), (14, .int z3679), (10, .long u3671), (13, .int o3668), (12, .int g3655), (8, .long u3488), (6, .long u3485), (5, .int g3475), (0, .ref q2158), (1, .int p2167), (2, .int p2168), (3, .int p2169)]) d_cX3_canBeOne_128 (Nat.le_of_ble_eq_true rfl) rfl ?_
                  obtain ⟨z3683, hz3683⟩ : ∃ z : Int32, z = g3655 + Int32.ofInt 1 := ⟨_, rfl⟩
                  have ez3683 : z3683.toInt = g3655.toInt + 1 := gI_inc hz3683 (by decide) bg3655' (by decide) (by decide)
                  have bz3683 : gB z3683 1 64 := ⟨by omega, by omega⟩
                  refine G_iinc (L' := [(12, .int z3683), (4, .int z3682), (14, .int z3679), (10, .long u3671), (13, .int o3668), (8, .long u3488), (6, .long u3485), (5, .int g3475), (0, .ref q2158), (1, .int p2167), (2, .int p2168), (3, .int p2169)]) z3683 4 d_cX3_canBeOne_130 rfl hz3683.symm (Nat.le_of_ble_eq_true rfl) rfl ?_
                  refine G_goto 57 d_cX3_canBeOne_133 (by decide +kernel) ?_
                  refine G_lv (L' := [(12, .int z3683), (10, .long u3671), (8, .long u3488), (6, .long u3485), (5, .int g3475), (4, .int z3682), (0, .ref q2158), (1, .int p2167), (2, .int p2168), (3, .int p2169)]) [0, 3, 5, 6, 7, 1, 8, 9, 10, 11] rfl ?_
                  exact ih57_3658 z3683 u3671 z3682 (gB_w bz3683 (by decide) (by decide)) bz3682 qu3671 (by omega)
                · have r3684 : p2169.toInt ≤ z3679.toInt := gC_nlt hc3680
                  refine G_iconst 1 d_cX3_canBeOne_122 (by decide +kernel) ?_
                  refine G_goto 127 d_cX3_canBeOne_123 (by decide +kernel) ?_
                  refine G_iadd d_cX3_canBeOne_127 (G_nam fun z3685 hz3685 => ?_)
                  have bz3685 : gB z3685 (-2147483648) 2147483647 := gB_any z3685
                  refine G_istore (L' := [(4, .int z3685), (14, .int z3679), (10, .long u3671), (13, .int o3668), (12, .int g3655), (8, .long u3488), (6, .long u3485), (5, .int g3475), (0, .ref q2158), (1, .int p2167), (2, .int p2168), (3, .int p2169)]) d_cX3_canBeOne_128 (Nat.le_of_ble_eq_true rfl) rfl ?_
                  obtain ⟨z3686, hz3686⟩ : ∃ z : Int32, z = g3655 + Int32.ofInt 1 := ⟨_, rfl⟩
                  have ez3686 : z3686.toInt = g3655.toInt + 1 := gI_inc hz3686 (by decide) bg3655' (by decide) (by decide)
                  have bz3686 : gB z3686 1 64 := ⟨by omega, by omega⟩
                  refine G_iinc (L' := [(12, .int z3686), (4, .int z3685), (14, .int z3679), (10, .long u3671), (13, .int o3668), (8, .long u3488), (6, .long u3485), (5, .int g3475), (0, .ref q2158), (1, .int p2167), (2, .int p2168), (3, .int p2169)]) z3686 4 d_cX3_canBeOne_130 rfl hz3686.symm (Nat.le_of_ble_eq_true rfl) rfl ?_
                  refine G_goto 57 d_cX3_canBeOne_133 (by decide +kernel) ?_
                  refine G_lv (L' := [(12, .int z3686), (10, .long u3671), (8, .long u3488), (6, .long u3485), (5, .int g3475), (4, .int z3685), (0, .ref q2158), (1, .int p2167), (2, .int p2168), (3, .int p2169)]) [0, 3, 5, 6, 7, 1, 8, 9, 10, 11] rfl ?_
                  exact ih57_3658 z3686 u3671 z3685 (gB_w bz3686 (by decide) (by decide)) bz3685 qu3671 (by omega)
        exact hlp57_3658 (((65 : Int) - 0).toNat + 1) 0 u3489 g3476 (gB_w (gBl (show Int32.toInt 0 = 0 by decide)) (by decide) (by decide)) bg3476 qu3489 (Nat.lt_succ_self _)
  exact hlp6_3476 (((13 : Int) - 0).toNat + 1) 0 0 (gB_w (gBl (show Int32.toInt 0 = 0 by decide)) (by decide) (by decide)) (gB_w (gBl (show Int32.toInt 0 = 0 by decide)) (by decide) (by decide)) (Nat.lt_succ_self _)
abbrev ky_3778_Live_enterBehind : gKey := (cX5_enterBehind, 8, yX5_enterBehind.cls, none, [], yX5_enterBehind.name, fun _ _ => True)
abbrev po_3778_Live_enterBehind (I : FieldType → ClassId) (q3741 : Nat) (q3742 : Nat) (q3743 : Nat) (q3744 : Nat) (q3745 : Nat) (q3746 : Nat) (q3747 : Nat) (q3748 : Nat) (q3749 : Nat) (q3750 : Nat) (q3751 : Nat) (q3752 : Nat) (q3753 : Nat) (q3754 : Nat) (q3755 : Nat) (p3756 : Int32) (p3757 : Int32) (p3758 : Int32) (p3759 : Int32) (p3760 : Int32) (p3761 : Int32) (p3762 : Int32) (f3763 : Nat → Int64) (f3764 : Nat → Int64) (f3765 : Nat → Int64) (f3766 : Nat → Int64) (f3767 : Nat → Int32) (f3768 : Nat → Int32) (f3769 : Nat → Int32) (f3770 : Nat → Int32) (f3771 : Nat → Int32) (f3772 : Nat → Int32) (f3773 : Nat → Int32) (f3774 : Nat → Int32) (f3775 : Nat → Int32) : Option Value → va_W → Prop := fun r w => ∃ (f4205 : Nat → Int64), r = none ∧ w = [(q3741, .inr (10, [.ref q3743, .ref q3744, .ref q3745, .ref q3746, .int p3757, .int p3758, .int p3759])), (q3742, .inr (5, [.ref q3747, .ref q3748, .ref q3749, .ref q3750, .ref q3751, .ref q3752, .ref q3753, .ref q3754, .ref q3755, .int p3760, .int p3761, .int p3762])), (q3743, .inl (I .long, 480, .inr (.inl f3763))), (q3744, .inl (I .long, 480, .inr (.inl f3764))), (q3745, .inl (I .long, 480, .inr (.inl f3765))), (q3746, .inl (I .long, 12, .inr (.inl f4205))), (q3747, .inl (I .int, 40, .inl f3767)), (q3748, .inl (I .int, 40, .inl f3768)), (q3749, .inl (I .int, 40, .inl f3769)), (q3750, .inl (I .int, 200, .inl f3770)), (q3751, .inl (I .int, 200, .inl f3771)), (q3752, .inl (I .int, 200, .inl f3772)), (q3753, .inl (I .int, 200, .inl f3773)), (q3754, .inl (I .int, 200, .inl f3774)), (q3755, .inl (I .int, 200, .inl f3775))] ∧ lb_W f4205 (p3758.toInt) (p3758.toInt) (p3757.toInt)
set_option maxRecDepth 100000 in
set_option maxHeartbeats 4000000 in
theorem ct_3778_Live_enterBehind (l : Launch) (hl0 : l.stackTraces = false) (D : va_G) (I : FieldType → ClassId) (q3741 : Nat) (q3742 : Nat) (q3743 : Nat) (q3744 : Nat) (q3745 : Nat) (q3746 : Nat) (q3747 : Nat) (q3748 : Nat) (q3749 : Nat) (q3750 : Nat) (q3751 : Nat) (q3752 : Nat) (q3753 : Nat) (q3754 : Nat) (q3755 : Nat) (p3756 : Int32) (p3757 : Int32) (p3758 : Int32) (p3759 : Int32) (p3760 : Int32) (p3761 : Int32) (p3762 : Int32) (f3763 : Nat → Int64) (f3764 : Nat → Int64) (f3765 : Nat → Int64) (f3766 : Nat → Int64) (f3767 : Nat → Int32) (f3768 : Nat → Int32) (f3769 : Nat → Int32) (f3770 : Nat → Int32) (f3771 : Nat → Int32) (f3772 : Nat → Int32) (f3773 : Nat → Int32) (f3774 : Nat → Int32) (f3775 : Nat → Int32) (bp3756 : gB p3756 0 39) (bp3757 : gB p3757 0 720) (bp3758 : gB p3758 0 12) (bp3759 : gB p3759 0 1) (bp3760 : gB p3760 0 40) (bp3761 : gB p3761 0 200) (bp3762 : gB p3762 0 1) (bf3767 : gF f3767 0 200) (bf3770 : gF f3770 0 21) (x3776 : lb_W f3763 (p3760.toInt * p3758.toInt) (p3758.toInt) (p3757.toInt)) (x3777 : p3758.toInt = (p3757.toInt + 63) / 64) : Ct (gV D I) l yX5_enterBehind cX5_enterBehind 8 none 0 0 0 0 [.ref q3741, .ref q3742, .int p3756] [(q3741, .inr (10, [.ref q3743, .ref q3744, .ref q3745, .ref q3746, .int p3757, .int p3758, .int p3759])), (q3742, .inr (5, [.ref q3747, .ref q3748, .ref q3749, .ref q3750, .ref q3751, .ref q3752, .ref q3753, .ref q3754, .ref q3755, .int p3760, .int p3761, .int p3762])), (q3743, .inl (I .long, 480, .inr (.inl f3763))), (q3744, .inl (I .long, 480, .inr (.inl f3764))), (q3745, .inl (I .long, 480, .inr (.inl f3765))), (q3746, .inl (I .long, 12, .inr (.inl f3766))), (q3747, .inl (I .int, 40, .inl f3767)), (q3748, .inl (I .int, 40, .inl f3768)), (q3749, .inl (I .int, 40, .inl f3769)), (q3750, .inl (I .int, 200, .inl f3770)), (q3751, .inl (I .int, 200, .inl f3771)), (q3752, .inl (I .int, 200, .inl f3772)), (q3753, .inl (I .int, 200, .inl f3773)), (q3754, .inl (I .int, 200, .inl f3774)), (q3755, .inl (I .int, 200, .inl f3775))] (po_3778_Live_enterBehind I q3741 q3742 q3743 q3744 q3745 q3746 q3747 q3748 q3749 q3750 q3751 q3752 q3753 q3754 q3755 p3756 p3757 p3758 p3759 p3760 p3761 p3762 f3763 f3764 f3765 f3766 f3767 f3768 f3769 f3770 f3771 f3772 f3773 f3774 f3775) gN := by
  refine Ct_of hl0 (by decide) (Nat.le_of_ble_eq_true rfl) ?_
  refine G_aload_n 1 d_cX5_enterBehind_0 rfl ?_
  refine G_getfN 1 1 d_cX5_enterBehind_1 rfl (gk_X0 D I) (Nat.le_of_ble_eq_true rfl) (fun _ _ _ h => gn_w 9 rfl h) rfl ?_
  refine G_iload_n 2 d_cX5_enterBehind_4 rfl ?_
  refine G_iald 7 0 d_cX5_enterBehind_5 rfl rfl (gB_in bp3756 (by decide) (by decide)) (G_nam fun z3779 hz3779 => ?_)
  have bz3779 : gB z3779 (-2147483648) 2147483647 := gB_any z3779
  refine G_istore_n (L' := [(3, .int z3779), (0, .ref q3741), (1, .ref q3742), (2, .int p3756)]) d_cX5_enterBehind_6 (Nat.le_of_ble_eq_true rfl) rfl ?_
  refine G_aload_n 2 d_cX5_enterBehind_7 rfl ?_
  refine G_getfN 1 2 d_cX5_enterBehind_8 rfl (gk_X0 D I) (Nat.le_of_ble_eq_true rfl) (fun _ _ _ h => gn_w 13 rfl h) rfl ?_
  refine G_iload_n 3 d_cX5_enterBehind_11 rfl ?_
  refine G_iald 8 0 d_cX5_enterBehind_12 rfl rfl (gB_in bp3756 (by decide) (by decide)) (G_nam fun z3780 hz3780 => ?_)
  have bz3780 : gB z3780 (-2147483648) 2147483647 := gB_any z3780
  refine G_istore (L' := [(4, .int z3780), (3, .int z3779), (0, .ref q3741), (1, .ref q3742), (2, .int p3756)]) d_cX5_enterBehind_13 (Nat.le_of_ble_eq_true rfl) rfl ?_
  refine G_iconst 0 d_cX5_enterBehind_15 (by decide +kernel) ?_
  refine G_istore (L' := [(5, .int 0), (4, .int z3780), (3, .int z3779), (0, .ref q3741), (1, .ref q3742), (2, .int p3756)]) d_cX5_enterBehind_16 (Nat.le_of_ble_eq_true rfl) rfl ?_
  have hlp18_4144 : ∀ (n18_4144 : Nat) (g4142 : Int32) (f4143 : Nat → Int64), gB g4142 0 12 → lb_W f4143 (g4142.toInt) (p3758.toInt) (p3757.toInt) → ((13 : Int) - g4142.toInt).toNat < n18_4144 → G (gV D I) l (gRm 0 0 0 0) (gM (gV D I) (po_3778_Live_enterBehind I q3741 q3742 q3743 q3744 q3745 q3746 q3747 q3748 q3749 q3750 q3751 q3752 q3753 q3754 q3755 p3756 p3757 p3758 p3759 p3760 p3761 p3762 f3763 f3764 f3765 f3766 f3767 f3768 f3769 f3770 f3771 f3772 f3773 f3774 f3775) gN 0 0) ky_3778_Live_enterBehind 18 [(5, .int g4142), (4, .int z3780), (3, .int z3779), (0, .ref q3741), (1, .ref q3742), (2, .int p3756)] [] [(q3741, .inr (10, [.ref q3743, .ref q3744, .ref q3745, .ref q3746, .int p3757, .int p3758, .int p3759])), (q3742, .inr (5, [.ref q3747, .ref q3748, .ref q3749, .ref q3750, .ref q3751, .ref q3752, .ref q3753, .ref q3754, .ref q3755, .int p3760, .int p3761, .int p3762])), (q3743, .inl (I .long, 480, .inr (.inl f3763))), (q3744, .inl (I .long, 480, .inr (.inl f3764))), (q3745, .inl (I .long, 480, .inr (.inl f3765))), (q3746, .inl (I .long, 12, .inr (.inl f4143))), (q3747, .inl (I .int, 40, .inl f3767)), (q3748, .inl (I .int, 40, .inl f3768)), (q3749, .inl (I .int, 40, .inl f3769)), (q3750, .inl (I .int, 200, .inl f3770)), (q3751, .inl (I .int, 200, .inl f3771)), (q3752, .inl (I .int, 200, .inl f3772)), (q3753, .inl (I .int, 200, .inl f3773)), (q3754, .inl (I .int, 200, .inl f3774)), (q3755, .inl (I .int, 200, .inl f3775))] 0 0 := by
    intro n18_4144
    induction n18_4144 with
    | zero => intro g4142 f4143 bg4142 x4144 hm18_4144; exact absurd hm18_4144 (Nat.not_lt_zero _)
    | succ n18_4144 ih18_4144 =>
      intro g4142 f4143 bg4142 x4144 hm18_4144
      refine G_iload 0 d_cX5_enterBehind_18 rfl ?_
      refine G_aload_n 3 d_cX5_enterBehind_20 rfl ?_
      refine G_getf 0 5 d_cX5_enterBehind_21 rfl (gk_X5 D I) (Nat.le_of_ble_eq_true rfl) w_2_29 rfl ?_
      refine G_icmp_ge 109 d_cX5_enterBehind_24 (by decide +kernel) (fun hc4145 => ?_) (fun hc4145 => ?_)
      · have r4146 : p3758.toInt ≤ g4142.toInt := gC_le hc4145
        exact G_vret d_cX5_enterBehind_109 rfl (Nat.le_of_ble_eq_true rfl) (Nat.le_of_ble_eq_true rfl) ⟨f4143, rfl, rfl, (lb_Wle x4144 (by omega))⟩
      · have r4147 : g4142.toInt < p3758.toInt := gC_nle hc4145
        have bg4142' : gB g4142 0 11 := ⟨by omega, by omega⟩
        have bp3758' : gB p3758 1 12 := ⟨by omega, by omega⟩
        refine G_iload_n 2 d_cX5_enterBehind_27 rfl ?_
        refine G_if_lt 56 d_cX5_enterBehind_28 (by decide +kernel) (fun hc4148 => ?_) (fun hc4148 => ?_)
        · have r4149 : z3779.toInt < 0 := gj_lt hc4148 (show Int32.toInt 0 = 0 by decide)
          have bz3779' : gB z3779 (-2147483648) (-1) := ⟨by omega, by omega⟩
          refine G_lconst 0 d_cX5_enterBehind_56 rfl ?_
          refine G_lstore (L' := [(6, .long 0), (5, .int g4142), (4, .int z3780), (3, .int z3779), (0, .ref q3741), (1, .ref q3742), (2, .int p3756)]) d_cX5_enterBehind_57 (Nat.le_of_ble_eq_true rfl) rfl ?_
          refine G_aload_n 4 d_cX5_enterBehind_59 rfl ?_
          refine G_getf 0 3 d_cX5_enterBehind_60 rfl (gk_X5 D I) (Nat.le_of_ble_eq_true rfl) w_2_25 rfl ?_
          refine G_iload 1 d_cX5_enterBehind_63 rfl ?_
          refine G_iload 2 d_cX5_enterBehind_65 rfl ?_
          refine G_if_lt 100 d_cX5_enterBehind_67 (by decide +kernel) (fun hc4150 => ?_) (fun hc4150 => ?_)
          · have r4151 : z3780.toInt < 0 := gj_lt hc4150 (show Int32.toInt 0 = 0 by decide)
            have bz3780' : gB z3780 (-2147483648) (-1) := ⟨by omega, by omega⟩
            refine G_lload 0 d_cX5_enterBehind_100 rfl ?_
            refine G_lastN 5 2 d_cX5_enterBehind_102 rfl rfl (gB_in bg4142' (by decide) (by decide)) (fun f4152 hf4152 => ?_)
            refine G_ws (ws' := [(q3741, .inr (10, [.ref q3743, .ref q3744, .ref q3745, .ref q3746, .int p3757, .int p3758, .int p3759])), (q3742, .inr (5, [.ref q3747, .ref q3748, .ref q3749, .ref q3750, .ref q3751, .ref q3752, .ref q3753, .ref q3754, .ref q3755, .int p3760, .int p3761, .int p3762])), (q3743, .inl (I .long, 480, .inr (.inl f3763))), (q3744, .inl (I .long, 480, .inr (.inl f3764))), (q3745, .inl (I .long, 480, .inr (.inl f3765))), (q3746, .inl (I .long, 12, .inr (.inl f4152))), (q3747, .inl (I .int, 40, .inl f3767)), (q3748, .inl (I .int, 40, .inl f3768)), (q3749, .inl (I .int, 40, .inl f3769)), (q3750, .inl (I .int, 200, .inl f3770)), (q3751, .inl (I .int, 200, .inl f3771)), (q3752, .inl (I .int, 200, .inl f3772)), (q3753, .inl (I .int, 200, .inl f3773)), (q3754, .inl (I .int, 200, .inl f3774)), (q3755, .inl (I .int, 200, .inl f3775))]) (cs' := 0) (sl' := 0) rfl rfl rfl ?_
            have wf4152 : lb_W f4152 (g4142.toInt + 1) (p3758.toInt) (p3757.toInt) := lb_Wext hf4152 x4144 (by omega) (lb_Mod0 (by omega) (by omega)) lb_Q0
            obtain ⟨z4153, hz4153⟩ : ∃ z : Int32, z = g4142 + Int32.ofInt 1 := ⟨_, rfl⟩
            have ez4153 : z4153.toInt = g4142.toInt + 1 := gI_inc hz4153 (by decide) bg4142' (by decide) (by decide)
            have bz4153 : gB z4153 1 12 := ⟨by omega, by omega⟩
            refine G_iinc (L' := [(5, .int z4153), (6, .long 0), (4, .int z3780), (3, .int z3779), (0, .ref q3741), (1, .ref q3742), (2, .int p3756)]) z4153 1 d_cX5_enterBehind_103 rfl hz4153.symm (Nat.le_of_ble_eq_true rfl) rfl ?_
            refine G_goto 18 d_cX5_enterBehind_106 (by decide +kernel) ?_
            refine G_lv (L' := [(5, .int z4153), (4, .int z3780), (3, .int z3779), (0, .ref q3741), (1, .ref q3742), (2, .int p3756)]) [0, 2, 3, 4, 5, 6] rfl ?_
            exact ih18_4144 z4153 f4152 (gB_w bz4153 (by decide) (by decide)) (lb_Wle wf4152 (by omega)) (by omega)
          · have r4154 : 0 ≤ z3780.toInt := gj_nlt hc4150 (show Int32.toInt 0 = 0 by decide)
            have bz3780' : gB z3780 0 2147483647 := ⟨by omega, by omega⟩
            refine G_iload 2 d_cX5_enterBehind_70 rfl ?_
            refine G_aload_n 5 d_cX5_enterBehind_72 rfl ?_
            refine G_getfN 1 9 d_cX5_enterBehind_73 rfl (gk_X0 D I) (Nat.le_of_ble_eq_true rfl) (fun _ _ _ h => gn_w 37 rfl h) rfl ?_
            refine G_icmp_ge 100 d_cX5_enterBehind_76 (by decide +kernel) (fun hc4155 => ?_) (fun hc4155 => ?_)
            · have r4156 : p3760.toInt ≤ z3780.toInt := gC_le hc4155
              refine G_lload 0 d_cX5_enterBehind_100 rfl ?_
              refine G_lastN 5 2 d_cX5_enterBehind_102 rfl rfl (gB_in bg4142' (by decide) (by decide)) (fun f4157 hf4157 => ?_)
              refine G_ws (ws' := [(q3741, .inr (10, [.ref q3743, .ref q3744, .ref q3745, .ref q3746, .int p3757, .int p3758, .int p3759])), (q3742, .inr (5, [.ref q3747, .ref q3748, .ref q3749, .ref q3750, .ref q3751, .ref q3752, .ref q3753, .ref q3754, .ref q3755, .int p3760, .int p3761, .int p3762])), (q3743, .inl (I .long, 480, .inr (.inl f3763))), (q3744, .inl (I .long, 480, .inr (.inl f3764))), (q3745, .inl (I .long, 480, .inr (.inl f3765))), (q3746, .inl (I .long, 12, .inr (.inl f4157))), (q3747, .inl (I .int, 40, .inl f3767)), (q3748, .inl (I .int, 40, .inl f3768)), (q3749, .inl (I .int, 40, .inl f3769)), (q3750, .inl (I .int, 200, .inl f3770)), (q3751, .inl (I .int, 200, .inl f3771)), (q3752, .inl (I .int, 200, .inl f3772)), (q3753, .inl (I .int, 200, .inl f3773)), (q3754, .inl (I .int, 200, .inl f3774)), (q3755, .inl (I .int, 200, .inl f3775))]) (cs' := 0) (sl' := 0) rfl rfl rfl ?_
              have wf4157 : lb_W f4157 (g4142.toInt + 1) (p3758.toInt) (p3757.toInt) := lb_Wext hf4157 x4144 (by omega) (lb_Mod0 (by omega) (by omega)) lb_Q0
              obtain ⟨z4158, hz4158⟩ : ∃ z : Int32, z = g4142 + Int32.ofInt 1 := ⟨_, rfl⟩
              have ez4158 : z4158.toInt = g4142.toInt + 1 := gI_inc hz4158 (by decide) bg4142' (by decide) (by decide)
              have bz4158 : gB z4158 1 12 := ⟨by omega, by omega⟩
              refine G_iinc (L' := [(5, .int z4158), (6, .long 0), (4, .int z3780), (3, .int z3779), (0, .ref q3741), (1, .ref q3742), (2, .int p3756)]) z4158 1 d_cX5_enterBehind_103 rfl hz4158.symm (Nat.le_of_ble_eq_true rfl) rfl ?_
              refine G_goto 18 d_cX5_enterBehind_106 (by decide +kernel) ?_
              refine G_lv (L' := [(5, .int z4158), (4, .int z3780), (3, .int z3779), (0, .ref q3741), (1, .ref q3742), (2, .int p3756)]) [0, 2, 3, 4, 5, 6] rfl ?_
              exact ih18_4144 z4158 f4157 (gB_w bz4158 (by decide) (by decide)) (lb_Wle wf4157 (by omega)) (by omega)
            · have r4159 : z3780.toInt < p3760.toInt := gC_nle hc4155
              have bz3780'' : gB z3780 0 39 := ⟨by omega, by omega⟩
              have bp3760' : gB p3760 1 40 := ⟨by omega, by omega⟩
              refine G_lload 0 d_cX5_enterBehind_79 rfl ?_
              refine G_aload_n 4 d_cX5_enterBehind_81 rfl ?_
              refine G_getf 0 0 d_cX5_enterBehind_82 rfl (gk_X5 D I) (Nat.le_of_ble_eq_true rfl) w_2_22 rfl ?_
              refine G_iload 2 d_cX5_enterBehind_85 rfl ?_
              refine G_aload_n 4 d_cX5_enterBehind_87 rfl ?_
              refine G_getf 0 5 d_cX5_enterBehind_88 rfl (gk_X5 D I) (Nat.le_of_ble_eq_true rfl) w_2_29 rfl ?_
              refine G_imul d_cX5_enterBehind_91 (G_nam fun z4160 hz4160 => ?_)
              have ez4160 : z4160.toInt = z3780.toInt * p3758.toInt := by rw [gI_mul hz4160 bz3780'' bp3758' (by decide) (by decide) (by decide)]
              have bz4160 : gB z4160 0 468 := gB_mul hz4160 bz3780'' bp3758' (by decide) (by decide) (by decide) (by decide)
              refine G_iload 1 d_cX5_enterBehind_92 rfl ?_
              refine G_iadd d_cX5_enterBehind_94 (G_nam fun z4161 hz4161 => ?_)
              have ez4161 : z4161.toInt = z4160.toInt + g4142.toInt := by rw [gI_add hz4161 bz4160 bg4142' (by decide) (by decide)]
              have bz4161 : gB z4161 0 479 := gB_add (gI_add hz4161 bz4160 bg4142' (by decide) (by decide)) bz4160 bg4142' (by decide) (by decide)
              refine G_lald 2 2 d_cX5_enterBehind_95 rfl rfl (gB_in bz4161 (by decide) (by decide)) (G_namL fun u4162 hu4162 => ?_)
              have qu4162 : lb_Q u4162 (p3757.toInt - 64 * g4142.toInt) := lb_Wld hu4162 x3776 (by omega) (lb_Lt1 ez4161 ez4160 (by omega) (by omega) (by omega)) (lb_Mod1 ez4161 ez4160 (by omega) (by omega))
              refine G_lor d_cX5_enterBehind_96 (G_namL fun u4163 hu4163 => ?_)
              have qu4163 : lb_Q u4163 (p3757.toInt - 64 * g4142.toInt) := lb_Qor hu4163 lb_Q0 qu4162
              refine G_goto 102 d_cX5_enterBehind_97 (by decide +kernel) ?_
              refine G_lastN 5 2 d_cX5_enterBehind_102 rfl rfl (gB_in bg4142' (by decide) (by decide)) (fun f4164 hf4164 => ?_)
              refine G_ws (ws' := [(q3741, .inr (10, [.ref q3743, .ref q3744, .ref q3745, .ref q3746, .int p3757, .int p3758, .int p3759])), (q3742, .inr (5, [.ref q3747, .ref q3748, .ref q3749, .ref q3750, .ref q3751, .ref q3752, .ref q3753, .ref q3754, .ref q3755, .int p3760, .int p3761, .int p3762])), (q3743, .inl (I .long, 480, .inr (.inl f3763))), (q3744, .inl (I .long, 480, .inr (.inl f3764))), (q3745, .inl (I .long, 480, .inr (.inl f3765))), (q3746, .inl (I .long, 12, .inr (.inl f4164))), (q3747, .inl (I .int, 40, .inl f3767)), (q3748, .inl (I .int, 40, .inl f3768)), (q3749, .inl (I .int, 40, .inl f3769)), (q3750, .inl (I .int, 200, .inl f3770)), (q3751, .inl (I .int, 200, .inl f3771)), (q3752, .inl (I .int, 200, .inl f3772)), (q3753, .inl (I .int, 200, .inl f3773)), (q3754, .inl (I .int, 200, .inl f3774)), (q3755, .inl (I .int, 200, .inl f3775))]) (cs' := 0) (sl' := 0) rfl rfl rfl ?_
              have wf4164 : lb_W f4164 (g4142.toInt + 1) (p3758.toInt) (p3757.toInt) := lb_Wext hf4164 x4144 (by omega) (lb_Mod0 (by omega) (by omega)) qu4163
              obtain ⟨z4165, hz4165⟩ : ∃ z : Int32, z = g4142 + Int32.ofInt 1 := ⟨_, rfl⟩
              have ez4165 : z4165.toInt = g4142.toInt + 1 := gI_inc hz4165 (by decide) bg4142' (by decide) (by decide)
              have bz4165 : gB z4165 1 12 := ⟨by omega, by omega⟩
              refine G_iinc (L' := [(5, .int z4165), (6, .long 0), (4, .int z3780), (3, .int z3779), (0, .ref q3741), (1, .ref q3742), (2, .int p3756)]) z4165 1 d_cX5_enterBehind_103 rfl hz4165.symm (Nat.le_of_ble_eq_true rfl) rfl ?_
              refine G_goto 18 d_cX5_enterBehind_106 (by decide +kernel) ?_
              refine G_lv (L' := [(5, .int z4165), (4, .int z3780), (3, .int z3779), (0, .ref q3741), (1, .ref q3742), (2, .int p3756)]) [0, 2, 3, 4, 5, 6] rfl ?_
              exact ih18_4144 z4165 f4164 (gB_w bz4165 (by decide) (by decide)) (lb_Wle wf4164 (by omega)) (by omega)
        · have r4166 : 0 ≤ z3779.toInt := gj_nlt hc4148 (show Int32.toInt 0 = 0 by decide)
          have bz3779' : gB z3779 0 2147483647 := ⟨by omega, by omega⟩
          refine G_iload_n 2 d_cX5_enterBehind_31 rfl ?_
          refine G_aload_n 4 d_cX5_enterBehind_32 rfl ?_
          refine G_getfN 1 9 d_cX5_enterBehind_33 rfl (gk_X0 D I) (Nat.le_of_ble_eq_true rfl) (fun _ _ _ h => gn_w 37 rfl h) rfl ?_
          refine G_icmp_ge 56 d_cX5_enterBehind_36 (by decide +kernel) (fun hc4167 => ?_) (fun hc4167 => ?_)
          · have r4168 : p3760.toInt ≤ z3779.toInt := gC_le hc4167
            refine G_lconst 0 d_cX5_enterBehind_56 rfl ?_
            refine G_lstore (L' := [(6, .long 0), (5, .int g4142), (4, .int z3780), (3, .int z3779), (0, .ref q3741), (1, .ref q3742), (2, .int p3756)]) d_cX5_enterBehind_57 (Nat.le_of_ble_eq_true rfl) rfl ?_
            refine G_aload_n 4 d_cX5_enterBehind_59 rfl ?_
            refine G_getf 0 3 d_cX5_enterBehind_60 rfl (gk_X5 D I) (Nat.le_of_ble_eq_true rfl) w_2_25 rfl ?_
            refine G_iload 1 d_cX5_enterBehind_63 rfl ?_
            refine G_iload 2 d_cX5_enterBehind_65 rfl ?_
            refine G_if_lt 100 d_cX5_enterBehind_67 (by decide +kernel) (fun hc4169 => ?_) (fun hc4169 => ?_)
            · have r4170 : z3780.toInt < 0 := gj_lt hc4169 (show Int32.toInt 0 = 0 by decide)
              have bz3780' : gB z3780 (-2147483648) (-1) := ⟨by omega, by omega⟩
              refine G_lload 0 d_cX5_enterBehind_100 rfl ?_
              refine G_lastN 5 2 d_cX5_enterBehind_102 rfl rfl (gB_in bg4142' (by decide) (by decide)) (fun f4171 hf4171 => ?_)
              refine G_ws (ws' := [(q3741, .inr (10, [.ref q3743, .ref q3744, .ref q3745, .ref q3746, .int p3757, .int p3758, .int p3759])), (q3742, .inr (5, [.ref q3747, .ref q3748, .ref q3749, .ref q3750, .ref q3751, .ref q3752, .ref q3753, .ref q3754, .ref q3755, .int p3760, .int p3761, .int p3762])), (q3743, .inl (I .long, 480, .inr (.inl f3763))), (q3744, .inl (I .long, 480, .inr (.inl f3764))), (q3745, .inl (I .long, 480, .inr (.inl f3765))), (q3746, .inl (I .long, 12, .inr (.inl f4171))), (q3747, .inl (I .int, 40, .inl f3767)), (q3748, .inl (I .int, 40, .inl f3768)), (q3749, .inl (I .int, 40, .inl f3769)), (q3750, .inl (I .int, 200, .inl f3770)), (q3751, .inl (I .int, 200, .inl f3771)), (q3752, .inl (I .int, 200, .inl f3772)), (q3753, .inl (I .int, 200, .inl f3773)), (q3754, .inl (I .int, 200, .inl f3774)), (q3755, .inl (I .int, 200, .inl f3775))]) (cs' := 0) (sl' := 0) rfl rfl rfl ?_
              have wf4171 : lb_W f4171 (g4142.toInt + 1) (p3758.toInt) (p3757.toInt) := lb_Wext hf4171 x4144 (by omega) (lb_Mod0 (by omega) (by omega)) lb_Q0
              obtain ⟨z4172, hz4172⟩ : ∃ z : Int32, z = g4142 + Int32.ofInt 1 := ⟨_, rfl⟩
              have ez4172 : z4172.toInt = g4142.toInt + 1 := gI_inc hz4172 (by decide) bg4142' (by decide) (by decide)
              have bz4172 : gB z4172 1 12 := ⟨by omega, by omega⟩
              refine G_iinc (L' := [(5, .int z4172), (6, .long 0), (4, .int z3780), (3, .int z3779), (0, .ref q3741), (1, .ref q3742), (2, .int p3756)]) z4172 1 d_cX5_enterBehind_103 rfl hz4172.symm (Nat.le_of_ble_eq_true rfl) rfl ?_
              refine G_goto 18 d_cX5_enterBehind_106 (by decide +kernel) ?_
              refine G_lv (L' := [(5, .int z4172), (4, .int z3780), (3, .int z3779), (0, .ref q3741), (1, .ref q3742), (2, .int p3756)]) [0, 2, 3, 4, 5, 6] rfl ?_
              exact ih18_4144 z4172 f4171 (gB_w bz4172 (by decide) (by decide)) (lb_Wle wf4171 (by omega)) (by omega)
            · have r4173 : 0 ≤ z3780.toInt := gj_nlt hc4169 (show Int32.toInt 0 = 0 by decide)
              have bz3780' : gB z3780 0 2147483647 := ⟨by omega, by omega⟩
              refine G_iload 2 d_cX5_enterBehind_70 rfl ?_
              refine G_aload_n 5 d_cX5_enterBehind_72 rfl ?_
              refine G_getfN 1 9 d_cX5_enterBehind_73 rfl (gk_X0 D I) (Nat.le_of_ble_eq_true rfl) (fun _ _ _ h => gn_w 37 rfl h) rfl ?_
              refine G_icmp_ge 100 d_cX5_enterBehind_76 (by decide +kernel) (fun hc4174 => ?_) (fun hc4174 => ?_)
              · have r4175 : p3760.toInt ≤ z3780.toInt := gC_le hc4174
                refine G_lload 0 d_cX5_enterBehind_100 rfl ?_
                refine G_lastN 5 2 d_cX5_enterBehind_102 rfl rfl (gB_in bg4142' (by decide) (by decide)) (fun f4176 hf4176 => ?_)
                refine G_ws (ws' := [(q3741, .inr (10, [.ref q3743, .ref q3744, .ref q3745, .ref q3746, .int p3757, .int p3758, .int p3759])), (q3742, .inr (5, [.ref q3747, .ref q3748, .ref q3749, .ref q3750, .ref q3751, .ref q3752, .ref q3753, .ref q3754, .ref q3755, .int p3760, .int p3761, .int p3762])), (q3743, .inl (I .long, 480, .inr (.inl f3763))), (q3744, .inl (I .long, 480, .inr (.inl f3764))), (q3745, .inl (I .long, 480, .inr (.inl f3765))), (q3746, .inl (I .long, 12, .inr (.inl f4176))), (q3747, .inl (I .int, 40, .inl f3767)), (q3748, .inl (I .int, 40, .inl f3768)), (q3749, .inl (I .int, 40, .inl f3769)), (q3750, .inl (I .int, 200, .inl f3770)), (q3751, .inl (I .int, 200, .inl f3771)), (q3752, .inl (I .int, 200, .inl f3772)), (q3753, .inl (I .int, 200, .inl f3773)), (q3754, .inl (I .int, 200, .inl f3774)), (q3755, .inl (I .int, 200, .inl f3775))]) (cs' := 0) (sl' := 0) rfl rfl rfl ?_
                have wf4176 : lb_W f4176 (g4142.toInt + 1) (p3758.toInt) (p3757.toInt) := lb_Wext hf4176 x4144 (by omega) (lb_Mod0 (by omega) (by omega)) lb_Q0
                obtain ⟨z4177, hz4177⟩ : ∃ z : Int32, z = g4142 + Int32.ofInt 1 := ⟨_, rfl⟩
                have ez4177 : z4177.toInt = g4142.toInt + 1 := gI_inc hz4177 (by decide) bg4142' (by decide) (by decide)
                have bz4177 : gB z4177 1 12 := ⟨by omega, by omega⟩
                refine G_iinc (L' := [(5, .int z4177), (6, .long 0), (4, .int z3780), (3, .int z3779), (0, .ref q3741), (1, .ref q3742), (2, .int p3756)]) z4177 1 d_cX5_enterBehind_103 rfl hz4177.symm (Nat.le_of_ble_eq_true rfl) rfl ?_
                refine G_goto 18 d_cX5_enterBehind_106 (by decide +kernel) ?_
                refine G_lv (L' := [(5, .int z4177), (4, .int z3780), (3, .int z3779), (0, .ref q3741), (1, .ref q3742), (2, .int p3756)]) [0, 2, 3, 4, 5, 6] rfl ?_
                exact ih18_4144 z4177 f4176 (gB_w bz4177 (by decide) (by decide)) (lb_Wle wf4176 (by omega)) (by omega)
              · have r4178 : z3780.toInt < p3760.toInt := gC_nle hc4174
                have bz3780'' : gB z3780 0 39 := ⟨by omega, by omega⟩
                have bp3760' : gB p3760 1 40 := ⟨by omega, by omega⟩
                refine G_lload 0 d_cX5_enterBehind_79 rfl ?_
                refine G_aload_n 4 d_cX5_enterBehind_81 rfl ?_
                refine G_getf 0 0 d_cX5_enterBehind_82 rfl (gk_X5 D I) (Nat.le_of_ble_eq_true rfl) w_2_22 rfl ?_
                refine G_iload 2 d_cX5_enterBehind_85 rfl ?_
                refine G_aload_n 4 d_cX5_enterBehind_87 rfl ?_
                refine G_getf 0 5 d_cX5_enterBehind_88 rfl (gk_X5 D I) (Nat.le_of_ble_eq_true rfl) w_2_29 rfl ?_
                refine G_imul d_cX5_enterBehind_91 (G_nam fun z4179 hz4179 => ?_)
                have ez4179 : z4179.toInt = z3780.toInt * p3758.toInt := by rw [gI_mul hz4179 bz3780'' bp3758' (by decide) (by decide) (by decide)]
                have bz4179 : gB z4179 0 468 := gB_mul hz4179 bz3780'' bp3758' (by decide) (by decide) (by decide) (by decide)
                refine G_iload 1 d_cX5_enterBehind_92 rfl ?_
                refine G_iadd d_cX5_enterBehind_94 (G_nam fun z4180 hz4180 => ?_)
                have ez4180 : z4180.toInt = z4179.toInt + g4142.toInt := by rw [gI_add hz4180 bz4179 bg4142' (by decide) (by decide)]
                have bz4180 : gB z4180 0 479 := gB_add (gI_add hz4180 bz4179 bg4142' (by decide) (by decide)) bz4179 bg4142' (by decide) (by decide)
                refine G_lald 2 2 d_cX5_enterBehind_95 rfl rfl (gB_in bz4180 (by decide) (by decide)) (G_namL fun u4181 hu4181 => ?_)
                have qu4181 : lb_Q u4181 (p3757.toInt - 64 * g4142.toInt) := lb_Wld hu4181 x3776 (by omega) (lb_Lt1 ez4180 ez4179 (by omega) (by omega) (by omega)) (lb_Mod1 ez4180 ez4179 (by omega) (by omega))
                refine G_lor d_cX5_enterBehind_96 (G_namL fun u4182 hu4182 => ?_)
                have qu4182 : lb_Q u4182 (p3757.toInt - 64 * g4142.toInt) := lb_Qor hu4182 lb_Q0 qu4181
                refine G_goto 102 d_cX5_enterBehind_97 (by decide +kernel) ?_
                refine G_lastN 5 2 d_cX5_enterBehind_102 rfl rfl (gB_in bg4142' (by decide) (by decide)) (fun f4183 hf4183 => ?_)
                refine G_ws (ws' := [(q3741, .inr (10, [.ref q3743, .ref q3744, .ref q3745, .ref q3746, .int p3757, .int p3758, .int p3759])), (q3742, .inr (5, [.ref q3747, .ref q3748, .ref q3749, .ref q3750, .ref q3751, .ref q3752, .ref q3753, .ref q3754, .ref q3755, .int p3760, .int p3761, .int p3762])), (q3743, .inl (I .long, 480, .inr (.inl f3763))), (q3744, .inl (I .long, 480, .inr (.inl f3764))), (q3745, .inl (I .long, 480, .inr (.inl f3765))), (q3746, .inl (I .long, 12, .inr (.inl f4183))), (q3747, .inl (I .int, 40, .inl f3767)), (q3748, .inl (I .int, 40, .inl f3768)), (q3749, .inl (I .int, 40, .inl f3769)), (q3750, .inl (I .int, 200, .inl f3770)), (q3751, .inl (I .int, 200, .inl f3771)), (q3752, .inl (I .int, 200, .inl f3772)), (q3753, .inl (I .int, 200, .inl f3773)), (q3754, .inl (I .int, 200, .inl f3774)), (q3755, .inl (I .int, 200, .inl f3775))]) (cs' := 0) (sl' := 0) rfl rfl rfl ?_
                have wf4183 : lb_W f4183 (g4142.toInt + 1) (p3758.toInt) (p3757.toInt) := lb_Wext hf4183 x4144 (by omega) (lb_Mod0 (by omega) (by omega)) qu4182
                obtain ⟨z4184, hz4184⟩ : ∃ z : Int32, z = g4142 + Int32.ofInt 1 := ⟨_, rfl⟩
                have ez4184 : z4184.toInt = g4142.toInt + 1 := gI_inc hz4184 (by decide) bg4142' (by decide) (by decide)
                have bz4184 : gB z4184 1 12 := ⟨by omega, by omega⟩
                refine G_iinc (L' := [(5, .int z4184), (6, .long 0), (4, .int z3780), (3, .int z3779), (0, .ref q3741), (1, .ref q3742), (2, .int p3756)]) z4184 1 d_cX5_enterBehind_103 rfl hz4184.symm (Nat.le_of_ble_eq_true rfl) rfl ?_
                refine G_goto 18 d_cX5_enterBehind_106 (by decide +kernel) ?_
                refine G_lv (L' := [(5, .int z4184), (4, .int z3780), (3, .int z3779), (0, .ref q3741), (1, .ref q3742), (2, .int p3756)]) [0, 2, 3, 4, 5, 6] rfl ?_
                exact ih18_4144 z4184 f4183 (gB_w bz4184 (by decide) (by decide)) (lb_Wle wf4183 (by omega)) (by omega)
          · have r4185 : z3779.toInt < p3760.toInt := gC_nle hc4167
            have bz3779'' : gB z3779 0 39 := ⟨by omega, by omega⟩
            have bp3760' : gB p3760 1 40 := ⟨by omega, by omega⟩
            refine G_aload_n 3 d_cX5_enterBehind_39 rfl ?_
            refine G_getf 0 0 d_cX5_enterBehind_40 rfl (gk_X5 D I) (Nat.le_of_ble_eq_true rfl) w_2_22 rfl ?_
            refine G_iload_n 2 d_cX5_enterBehind_43 rfl ?_
            refine G_aload_n 3 d_cX5_enterBehind_44 rfl ?_
            refine G_getf 0 5 d_cX5_enterBehind_45 rfl (gk_X5 D I) (Nat.le_of_ble_eq_true rfl) w_2_29 rfl ?_
            refine G_imul d_cX5_enterBehind_48 (G_nam fun z4186 hz4186 => ?_)
            have ez4186 : z4186.toInt = z3779.toInt * p3758.toInt := by rw [gI_mul hz4186 bz3779'' bp3758' (by decide) (by decide) (by decide)]
            have bz4186 : gB z4186 0 468 := gB_mul hz4186 bz3779'' bp3758' (by decide) (by decide) (by decide) (by decide)
            refine G_iload 0 d_cX5_enterBehind_49 rfl ?_
            refine G_iadd d_cX5_enterBehind_51 (G_nam fun z4187 hz4187 => ?_)
            have ez4187 : z4187.toInt = z4186.toInt + g4142.toInt := by rw [gI_add hz4187 bz4186 bg4142' (by decide) (by decide)]
            have bz4187 : gB z4187 0 479 := gB_add (gI_add hz4187 bz4186 bg4142' (by decide) (by decide)) bz4186 bg4142' (by decide) (by decide)
            refine G_lald 2 2 d_cX5_enterBehind_52 rfl rfl (gB_in bz4187 (by decide) (by decide)) (G_namL fun u4188 hu4188 => ?_)
            have qu4188 : lb_Q u4188 (p3757.toInt - 64 * g4142.toInt) := lb_Wld hu4188 x3776 (by omega) (lb_Lt1 ez4187 ez4186 (by omega) (by omega) (by omega)) (lb_Mod1 ez4187 ez4186 (by omega) (by omega))
            refine G_goto 57 d_cX5_enterBehind_53 (by decide +kernel) ?_
            refine G_lstore (L' := [(6, .long u4188), (5, .int g4142), (4, .int z3780), (3, .int z3779), (0, .ref q3741), (1, .ref q3742), (2, .int p3756)]) d_cX5_enterBehind_57 (Nat.le_of_ble_eq_true rfl) rfl ?_
            refine G_aload_n 4 d_cX5_enterBehind_59 rfl ?_
            refine G_getf 0 3 d_cX5_enterBehind_60 rfl (gk_X5 D I) (Nat.le_of_ble_eq_true rfl) w_2_25 rfl ?_
            refine G_iload 1 d_cX5_enterBehind_63 rfl ?_
            refine G_iload 2 d_cX5_enterBehind_65 rfl ?_
            refine G_if_lt 100 d_cX5_enterBehind_67 (by decide +kernel) (fun hc4189 => ?_) (fun hc4189 => ?_)
            · have r4190 : z3780.toInt < 0 := gj_lt hc4189 (show Int32.toInt 0 = 0 by decide)
              have bz3780' : gB z3780 (-2147483648) (-1) := ⟨by omega, by omega⟩
              refine G_lload 0 d_cX5_enterBehind_100 rfl ?_
              refine G_lastN 5 2 d_cX5_enterBehind_102 rfl rfl (gB_in bg4142' (by decide) (by decide)) (fun f4191 hf4191 => ?_)
              refine G_ws (ws' := [(q3741, .inr (10, [.ref q3743, .ref q3744, .ref q3745, .ref q3746, .int p3757, .int p3758, .int p3759])), (q3742, .inr (5, [.ref q3747, .ref q3748, .ref q3749, .ref q3750, .ref q3751, .ref q3752, .ref q3753, .ref q3754, .ref q3755, .int p3760, .int p3761, .int p3762])), (q3743, .inl (I .long, 480, .inr (.inl f3763))), (q3744, .inl (I .long, 480, .inr (.inl f3764))), (q3745, .inl (I .long, 480, .inr (.inl f3765))), (q3746, .inl (I .long, 12, .inr (.inl f4191))), (q3747, .inl (I .int, 40, .inl f3767)), (q3748, .inl (I .int, 40, .inl f3768)), (q3749, .inl (I .int, 40, .inl f3769)), (q3750, .inl (I .int, 200, .inl f3770)), (q3751, .inl (I .int, 200, .inl f3771)), (q3752, .inl (I .int, 200, .inl f3772)), (q3753, .inl (I .int, 200, .inl f3773)), (q3754, .inl (I .int, 200, .inl f3774)), (q3755, .inl (I .int, 200, .inl f3775))]) (cs' := 0) (sl' := 0) rfl rfl rfl ?_
              have wf4191 : lb_W f4191 (g4142.toInt + 1) (p3758.toInt) (p3757.toInt) := lb_Wext hf4191 x4144 (by omega) (lb_Mod0 (by omega) (by omega)) qu4188
              obtain ⟨z4192, hz4192⟩ : ∃ z : Int32, z = g4142 + Int32.ofInt 1 := ⟨_, rfl⟩
              have ez4192 : z4192.toInt = g4142.toInt + 1 := gI_inc hz4192 (by decide) bg4142' (by decide) (by decide)
              have bz4192 : gB z4192 1 12 := ⟨by omega, by omega⟩
              refine G_iinc (L' := [(5, .int z4192), (6, .long u4188), (4, .int z3780), (3, .int z3779), (0, .ref q3741), (1, .ref q3742), (2, .int p3756)]) z4192 1 d_cX5_enterBehind_103 rfl hz4192.symm (Nat.le_of_ble_eq_true rfl) rfl ?_
              refine G_goto 18 d_cX5_enterBehind_106 (by decide +kernel) ?_
              refine G_lv (L' := [(5, .int z4192), (4, .int z3780), (3, .int z3779), (0, .ref q3741), (1, .ref q3742), (2, .int p3756)]) [0, 2, 3, 4, 5, 6] rfl ?_
              exact ih18_4144 z4192 f4191 (gB_w bz4192 (by decide) (by decide)) (lb_Wle wf4191 (by omega)) (by omega)
            · have r4193 : 0 ≤ z3780.toInt := gj_nlt hc4189 (show Int32.toInt 0 = 0 by decide)
              have bz3780' : gB z3780 0 2147483647 := ⟨by omega, by omega⟩
              refine G_iload 2 d_cX5_enterBehind_70 rfl ?_
              refine G_aload_n 5 d_cX5_enterBehind_72 rfl ?_
              refine G_getfN 1 9 d_cX5_enterBehind_73 rfl (gk_X0 D I) (Nat.le_of_ble_eq_true rfl) (fun _ _ _ h => gn_w 37 rfl h) rfl ?_
              refine G_icmp_ge 100 d_cX5_enterBehind_76 (by decide +kernel) (fun hc4194 => ?_) (fun hc4194 => ?_)
              · have r4195 : p3760.toInt ≤ z3780.toInt := gC_le hc4194
                have bz3780'' : gB z3780 1 2147483647 := ⟨by omega, by omega⟩
                refine G_lload 0 d_cX5_enterBehind_100 rfl ?_
                refine G_lastN 5 2 d_cX5_enterBehind_102 rfl rfl (gB_in bg4142' (by decide) (by decide)) (fun f4196 hf4196 => ?_)
                refine G_ws (ws' := [(q3741, .inr (10, [.ref q3743, .ref q3744, .ref q3745, .ref q3746, .int p3757, .int p3758, .int p3759])), (q3742, .inr (5, [.ref q3747, .ref q3748, .ref q3749, .ref q3750, .ref q3751, .ref q3752, .ref q3753, .ref q3754, .ref q3755, .int p3760, .int p3761, .int p3762])), (q3743, .inl (I .long, 480, .inr (.inl f3763))), (q3744, .inl (I .long, 480, .inr (.inl f3764))), (q3745, .inl (I .long, 480, .inr (.inl f3765))), (q3746, .inl (I .long, 12, .inr (.inl f4196))), (q3747, .inl (I .int, 40, .inl f3767)), (q3748, .inl (I .int, 40, .inl f3768)), (q3749, .inl (I .int, 40, .inl f3769)), (q3750, .inl (I .int, 200, .inl f3770)), (q3751, .inl (I .int, 200, .inl f3771)), (q3752, .inl (I .int, 200, .inl f3772)), (q3753, .inl (I .int, 200, .inl f3773)), (q3754, .inl (I .int, 200, .inl f3774)), (q3755, .inl (I .int, 200, .inl f3775))]) (cs' := 0) (sl' := 0) rfl rfl rfl ?_
                have wf4196 : lb_W f4196 (g4142.toInt + 1) (p3758.toInt) (p3757.toInt) := lb_Wext hf4196 x4144 (by omega) (lb_Mod0 (by omega) (by omega)) qu4188
                obtain ⟨z4197, hz4197⟩ : ∃ z : Int32, z = g4142 + Int32.ofInt 1 := ⟨_, rfl⟩
                have ez4197 : z4197.toInt = g4142.toInt + 1 := gI_inc hz4197 (by decide) bg4142' (by decide) (by decide)
                have bz4197 : gB z4197 1 12 := ⟨by omega, by omega⟩
                refine G_iinc (L' := [(5, .int z4197), (6, .long u4188), (4, .int z3780), (3, .int z3779), (0, .ref q3741), (1, .ref q3742), (2, .int p3756)]) z4197 1 d_cX5_enterBehind_103 rfl hz4197.symm (Nat.le_of_ble_eq_true rfl) rfl ?_
                refine G_goto 18 d_cX5_enterBehind_106 (by decide +kernel) ?_
                refine G_lv (L' := [(5, .int z4197), (4, .int z3780), (3, .int z3779), (0, .ref q3741), (1, .ref q3742), (2, .int p3756)]) [0, 2, 3, 4, 5, 6] rfl ?_
                exact ih18_4144 z4197 f4196 (gB_w bz4197 (by decide) (by decide)) (lb_Wle wf4196 (by omega)) (by omega)
              · have r4198 : z3780.toInt < p3760.toInt := gC_nle hc4194
                have bz3780'' : gB z3780 0 39 := ⟨by omega, by omega⟩
                refine G_lload 0 d_cX5_enterBehind_79 rfl ?_
                refine G_aload_n 4 d_cX5_enterBehind_81 rfl ?_
                refine G_getf 0 0 d_cX5_enterBehind_82 rfl (gk_X5 D I) (Nat.le_of_ble_eq_true rfl) w_2_22 rfl ?_
                refine G_iload 2 d_cX5_enterBehind_85 rfl ?_
                refine G_aload_n 4 d_cX5_enterBehind_87 rfl ?_
                refine G_getf 0 5 d_cX5_enterBehind_88 rfl (gk_X5 D I) (Nat.le_of_ble_eq_true rfl) w_2_29 rfl ?_
                refine G_imul d_cX5_enterBehind_91 (G_nam fun z4199 hz4199 => ?_)
                have ez4199 : z4199.toInt = z3780.toInt * p3758.toInt := by rw [gI_mul hz4199 bz3780'' bp3758' (by decide) (by decide) (by decide)]
                have bz4199 : gB z4199 0 468 := gB_mul hz4199 bz3780'' bp3758' (by decide) (by decide) (by decide) (by decide)
                refine G_iload 1 d_cX5_enterBehind_92 rfl ?_
                refine G_iadd d_cX5_enterBehind_94 (G_nam fun z4200 hz4200 => ?_)
                have ez4200 : z4200.toInt = z4199.toInt + g4142.toInt := by rw [gI_add hz4200 bz4199 bg4142' (by decide) (by decide)]
                have bz4200 : gB z4200 0 479 := gB_add (gI_add hz4200 bz4199 bg4142' (by decide) (by decide)) bz4199 bg4142' (by decide) (by decide)
                refine G_lald 2 2 d_cX5_enterBehind_95 rfl rfl (gB_in bz4200 (by decide) (by decide)) (G_namL fun u4201 hu4201 => ?_)
                have qu4201 : lb_Q u4201 (p3757.toInt - 64 * g4142.toInt) := lb_Wld hu4201 x3776 (by omega) (lb_Lt1 ez4200 ez4199 (by omega) (by omega) (by omega)) (lb_Mod1 ez4200 ez4199 (by omega) (by omega))
                refine G_lor d_cX5_enterBehind_96 (G_namL fun u4202 hu4202 => ?_)
                have qu4202 : lb_Q u4202 (p3757.toInt - 64 * g4142.toInt) := lb_Qor hu4202 qu4188 qu4201
                refine G_goto 102 d_cX5_enterBehind_97 (by decide +kernel) ?_
                refine G_lastN 5 2 d_cX5_enterBehind_102 rfl rfl (gB_in bg4142' (by decide) (by decide)) (fun f4203 hf4203 => ?_)
                refine G_ws (ws' := [(q3741, .inr (10, [.ref q3743, .ref q3744, .ref q3745, .ref q3746, .int p3757, .int p3758, .int p3759])), (q3742, .inr (5, [.ref q3747, .ref q3748, .ref q3749, .ref q3750, .ref q3751, .ref q3752, .ref q3753, .ref q3754, .ref q3755, .int p3760, .int p3761, .int p3762])), (q3743, .inl (I .long, 480, .inr (.inl f3763))), (q3744, .inl (I .long, 480, .inr (.inl f3764))), (q3745, .inl (I .long, 480, .inr (.inl f3765))), (q3746, .inl (I .long, 12, .inr (.inl f4203))), (q3747, .inl (I .int, 40, .inl f3767)), (q3748, .inl (I .int, 40, .inl f3768)), (q3749, .inl (I .int, 40, .inl f3769)), (q3750, .inl (I .int, 200, .inl f3770)), (q3751, .inl (I .int, 200, .inl f3771)), (q3752, .inl (I .int, 200, .inl f3772)), (q3753, .inl (I .int, 200, .inl f3773)), (q3754, .inl (I .int, 200, .inl f3774)), (q3755, .inl (I .int, 200, .inl f3775))]) (cs' := 0) (sl' := 0) rfl rfl rfl ?_
                have wf4203 : lb_W f4203 (g4142.toInt + 1) (p3758.toInt) (p3757.toInt) := lb_Wext hf4203 x4144 (by omega) (lb_Mod0 (by omega) (by omega)) qu4202
                obtain ⟨z4204, hz4204⟩ : ∃ z : Int32, z = g4142 + Int32.ofInt 1 := ⟨_, rfl⟩
                have ez4204 : z4204.toInt = g4142.toInt + 1 := gI_inc hz4204 (by decide) bg4142' (by decide) (by decide)
                have bz4204 : gB z4204 1 12 := ⟨by omega, by omega⟩
                refine G_iinc (L' := [(5, .int z4204), (6, .long u4188), (4, .int z3780), (3, .int z3779), (0, .ref q3741), (1, .ref q3742), (2, .int p3756)]) z4204 1 d_cX5_enterBehind_103 rfl hz4204.symm (Nat.le_of_ble_eq_true rfl) rfl ?_
                refine G_goto 18 d_cX5_enterBehind_106 (by decide +kernel) ?_
                refine G_lv (L' := [(5, .int z4204), (4, .int z3780), (3, .int z3779), (0, .ref q3741), (1, .ref q3742), (2, .int p3756)]) [0, 2, 3, 4, 5, 6] rfl ?_
                exact ih18_4144 z4204 f4203 (gB_w bz4204 (by decide) (by decide)) (lb_Wle wf4203 (by omega)) (by omega)
  exact hlp18_4144 (((13 : Int) - 0).toNat + 1) 0 f3766 (gB_w (gBl (show Int32.toInt 0 = 0 by decide)) (by decide) (by decide)) lb_W0 (Nat.lt_succ_self _)
