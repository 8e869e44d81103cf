abbrev ky_5_Tape_size : gKey := (cX10_size, 1, yX10_size.cls, (some FieldType.int), [], yX10_size.name, fun _ _ => True)
abbrev po_5_Tape_size (I : FieldType → ClassId) (q1 : Nat) (q2 : Nat) (p3 : Int32) (f4 : Nat → Int32) : Option Value → va_W → Prop := fun r w => r = some (.int p3) ∧ w = [(q1, .inr (15, [.ref q2, .int p3])), (q2, .inl (I .byte, 8192, .inl f4))]
set_option maxRecDepth 100000 in
set_option maxHeartbeats 4000000 in
theorem ct_5_Tape_size (l : Launch) (hl0 : l.stackTraces = false) (D : va_G) (I : FieldType → ClassId) (q1 : Nat) (q2 : Nat) (p3 : Int32) (f4 : Nat → Int32) (bp3 : gB p3 0 8192) (bf4 : gF f4 (-128) 127) : Ct (gV D I) l yX10_size cX10_size 1 (some FieldType.int) 0 0 0 0 [.ref q1] [(q1, .inr (15, [.ref q2, .int p3])), (q2, .inl (I .byte, 8192, .inl f4))] (po_5_Tape_size I q1 q2 p3 f4) gN := by
  refine Ct_of hl0 (by decide) (Nat.le_of_ble_eq_true rfl) ?_
  refine G_aload_n 0 d_cX10_size_0 rfl ?_
  refine G_getf 0 1 d_cX10_size_1 rfl (gk_X10 D I) (Nat.le_of_ble_eq_true rfl) w_1_60 rfl ?_
  exact G_iret d_cX10_size_4 rfl (Nat.le_of_ble_eq_true rfl) (Nat.le_of_ble_eq_true rfl) ⟨rfl, rfl⟩
abbrev ky_11_Tape_hasRoom : gKey := (cX10_hasRoom, 2, yX10_hasRoom.cls, (some FieldType.boolean), [], yX10_hasRoom.name, fun _ _ => True)
abbrev po_11_Tape_hasRoom (I : FieldType → ClassId) (q6 : Nat) (q7 : Nat) (p8 : Int32) (p9 : Int32) (f10 : Nat → Int32) : Option Value → va_W → Prop := fun r w => (∃ (z12 : Int32), r = some (.int 0) ∧ w = [(q6, .inr (15, [.ref q7, .int p9])), (q7, .inl (I .byte, 8192, .inl f10))] ∧ 8192 < z12.toInt ∧ gB z12 8193 2147483647) ∨ (∃ (z12 : Int32), r = some (.int 1) ∧ w = [(q6, .inr (15, [.ref q7, .int p9])), (q7, .inl (I .byte, 8192, .inl f10))] ∧ z12.toInt ≤ 8192 ∧ gB z12 (-2147483648) 8192)
set_option maxRecDepth 100000 in
set_option maxHeartbeats 4000000 in
theorem ct_11_Tape_hasRoom (l : Launch) (hl0 : l.stackTraces = false) (D : va_G) (I : FieldType → ClassId) (q6 : Nat) (q7 : Nat) (p8 : Int32) (p9 : Int32) (f10 : Nat → Int32) (bp9 : gB p9 0 8192) (bf10 : gF f10 (-128) 127) : Ct (gV D I) l yX10_hasRoom cX10_hasRoom 2 (some FieldType.boolean) 0 0 0 0 [.ref q6, .int p8] [(q6, .inr (15, [.ref q7, .int p9])), (q7, .inl (I .byte, 8192, .inl f10))] (po_11_Tape_hasRoom I q6 q7 p8 p9 f10) gN := by
  refine Ct_of hl0 (by decide) (Nat.le_of_ble_eq_true rfl) ?_
  have bp8 := gB_any p8
  refine G_aload_n 0 d_cX10_hasRoom_0 rfl ?_
  refine G_getf 0 1 d_cX10_hasRoom_1 rfl (gk_X10 D I) (Nat.le_of_ble_eq_true rfl) w_1_60 rfl ?_
  refine G_iload_n 1 d_cX10_hasRoom_4 rfl ?_
  refine G_iadd d_cX10_hasRoom_5 (G_nam fun z12 hz12 => ?_)
  have bz12 : gB z12 (-2147483648) 2147483647 := gB_any z12
  refine G_aload_n 0 d_cX10_hasRoom_6 rfl ?_
  refine G_getf 0 0 d_cX10_hasRoom_7 rfl (gk_X10 D I) (Nat.le_of_ble_eq_true rfl) w_1_59 rfl ?_
  refine G_alen 8192 1 1 d_cX10_hasRoom_10 rfl rfl rfl ?_
  refine G_icmp_gt 18 d_cX10_hasRoom_11 (by decide +kernel) (fun hc13 => ?_) (fun hc13 => ?_)
  · have r14 : 8192 < z12.toInt := gj_ltL hc13 (show Int32.toInt 8192 = 8192 by decide)
    have bz12' : gB z12 8193 2147483647 := ⟨by omega, by omega⟩
    refine G_iconst 0 d_cX10_hasRoom_18 (by decide +kernel) ?_
    exact G_zret FieldType.boolean d_cX10_hasRoom_19 rfl rfl (Nat.le_of_ble_eq_true rfl) (Nat.le_of_ble_eq_true rfl) (Or.inl ⟨z12, rfl, rfl, r14, bz12'⟩)
  · have r15 : z12.toInt ≤ 8192 := gj_nltL hc13 (show Int32.toInt 8192 = 8192 by decide)
    have bz12' : gB z12 (-2147483648) 8192 := ⟨by omega, by omega⟩
    refine G_iconst 1 d_cX10_hasRoom_14 (by decide +kernel) ?_
    refine G_goto 19 d_cX10_hasRoom_15 (by decide +kernel) ?_
    exact G_zret FieldType.boolean d_cX10_hasRoom_19 rfl rfl (Nat.le_of_ble_eq_true rfl) (Nat.le_of_ble_eq_true rfl) (Or.inr (⟨z12, rfl, rfl, r15, bz12'⟩))
abbrev ky_21_Tape_cutTo : gKey := (cX10_cutTo, 2, yX10_cutTo.cls, none, [], yX10_cutTo.name, fun _ _ => True)
abbrev po_21_Tape_cutTo (I : FieldType → ClassId) (q16 : Nat) (q17 : Nat) (p18 : Int32) (p19 : Int32) (f20 : Nat → Int32) : Option Value → va_W → Prop := fun r w => ∃ (o24 : Int32), r = none ∧ w = [(q16, .inr (15, [.ref q17, .int o24])), (q17, .inl (I .byte, 8192, .inl f20))] ∧ gB o24 0 8192
set_option maxRecDepth 100000 in
set_option maxHeartbeats 4000000 in
theorem ct_21_Tape_cutTo (l : Launch) (hl0 : l.stackTraces = false) (D : va_G) (I : FieldType → ClassId) (q16 : Nat) (q17 : Nat) (p18 : Int32) (p19 : Int32) (f20 : Nat → Int32) (bp19 : gB p19 0 8192) (bf20 : gF f20 (-128) 127) : Ct (gV D I) l yX10_cutTo cX10_cutTo 2 none 1 15 0 0 [.ref q16, .int p18] [(q16, .inr (15, [.ref q17, .int p19])), (q17, .inl (I .byte, 8192, .inl f20))] (po_21_Tape_cutTo I q16 q17 p18 p19 f20) gN := by
  refine Ct_of hl0 (by decide) (Nat.le_of_ble_eq_true rfl) ?_
  have bp18 := gB_any p18
  refine G_aload_n 0 d_cX10_cutTo_0 rfl ?_
  refine G_iconst 0 d_cX10_cutTo_1 (by decide +kernel) ?_
  refine G_iload_n 1 d_cX10_cutTo_2 rfl ?_
  refine G_aload_n 0 d_cX10_cutTo_3 rfl ?_
  refine G_getf 0 1 d_cX10_cutTo_4 rfl (gk_X10 D I) (Nat.le_of_ble_eq_true rfl) w_1_60 rfl ?_
  refine G_mmin d_cX10_cutTo_7 w_3_226 w_3_227 w_1_6 w_3_228 (Nat.le_of_ble_eq_true rfl) (Nat.le_of_ble_eq_true rfl) (Nat.le_of_ble_eq_true rfl) (Nat.le_of_ble_eq_true rfl) (G_nam fun z22 hz22 => ?_)
  have ez22 : p18.toInt ≥ z22.toInt ∧ p19.toInt ≥ z22.toInt ∧ (z22.toInt = p18.toInt ∨ z22.toInt = p19.toInt) := by have := gI_min hz22; omega
  have bz22 : gB z22 (-2147483648) 8192 := ⟨by omega, by omega⟩
  refine G_mmax d_cX10_cutTo_10 w_3_229 w_1_140 w_1_6 w_1_141 (Nat.le_of_ble_eq_true rfl) (Nat.le_of_ble_eq_true rfl) (Nat.le_of_ble_eq_true rfl) (Nat.le_of_ble_eq_true rfl) (G_nam fun z23 hz23 => ?_)
  have ez23 : 0 ≤ z23.toInt ∧ z22.toInt ≤ z23.toInt ∧ (z23.toInt = 0 ∨ z23.toInt = z22.toInt) := by have := gI_max hz23; rw [show Int32.toInt 0 = 0 from by decide] at this; omega
  have bz23 : gB z23 0 8192 := ⟨by omega, by omega⟩
  refine G_putf (ws' := [(q16, .inr (15, [.ref q17, .int z23])), (q17, .inl (I .byte, 8192, .inl f20))]) 0 1 d_cX10_cutTo_13 rfl (gk_X10 D I) (Nat.le_of_ble_eq_true rfl) w_1_60 rfl rfl rfl (Nat.le_of_ble_eq_true rfl) rfl ?_
  exact G_vret d_cX10_cutTo_16 rfl (Nat.le_of_ble_eq_true rfl) (Nat.le_of_ble_eq_true rfl) ⟨z23, rfl, rfl, bz23⟩
abbrev ky_30_Tape_byteAt : gKey := (cX10_byteAt, 2, yX10_byteAt.cls, (some FieldType.int), [], yX10_byteAt.name, fun _ _ => True)
abbrev po_30_Tape_byteAt (I : FieldType → ClassId) (q25 : Nat) (q26 : Nat) (p27 : Int32) (p28 : Int32) (f29 : Nat → Int32) : Option Value → va_W → Prop := fun r w => (r = some (.int (-1)) ∧ w = [(q25, .inr (15, [.ref q26, .int p28])), (q26, .inl (I .byte, 8192, .inl f29))] ∧ p27.toInt < 0) ∨ (r = some (.int (-1)) ∧ w = [(q25, .inr (15, [.ref q26, .int p28])), (q26, .inl (I .byte, 8192, .inl f29))] ∧ 0 ≤ p27.toInt ∧ p28.toInt ≤ p27.toInt) ∨ (∃ (z38 : Int32), r = some (.int z38) ∧ w = [(q25, .inr (15, [.ref q26, .int p28])), (q26, .inl (I .byte, 8192, .inl f29))] ∧ 0 ≤ p27.toInt ∧ p27.toInt < p28.toInt ∧ gB z38 0 255)
set_option maxRecDepth 100000 in
set_option maxHeartbeats 4000000 in
theorem ct_30_Tape_byteAt (l : Launch) (hl0 : l.stackTraces = false) (D : va_G) (I : FieldType → ClassId) (q25 : Nat) (q26 : Nat) (p27 : Int32) (p28 : Int32) (f29 : Nat → Int32) (bp28 : gB p28 0 8192) (bf29 : gF f29 (-128) 127) : Ct (gV D I) l yX10_byteAt cX10_byteAt 2 (some FieldType.int) 0 0 0 0 [.ref q25, .int p27] [(q25, .inr (15, [.ref q26, .int p28])), (q26, .inl (I .byte, 8192, .inl f29))] (po_30_Tape_byteAt I q25 q26 p27 p28 f29) gN := by
  refine Ct_of hl0 (by decide) (Nat.le_of_ble_eq_true rfl) ?_
  have bp27 := gB_any p27
  refine G_iload_n 1 d_cX10_byteAt_0 rfl ?_
  refine G_if_lt 25 d_cX10_byteAt_1 (by decide +kernel) (fun hc31 => ?_) (fun hc31 => ?_)
  · have r32 : p27.toInt < 0 := gj_lt hc31 (show Int32.toInt 0 = 0 by decide)
    have bp27' : gB p27 (-2147483648) (-1) := ⟨by omega, by omega⟩
    refine G_iconst (-1) d_cX10_byteAt_25 (by decide +kernel) ?_
    exact G_iret d_cX10_byteAt_26 rfl (Nat.le_of_ble_eq_true rfl) (Nat.le_of_ble_eq_true rfl) (Or.inl ⟨rfl, rfl, r32⟩)
  · have r33 : 0 ≤ p27.toInt := gj_nlt hc31 (show Int32.toInt 0 = 0 by decide)
    have bp27' : gB p27 0 2147483647 := ⟨by omega, by omega⟩
    refine G_iload_n 1 d_cX10_byteAt_4 rfl ?_
    refine G_aload_n 0 d_cX10_byteAt_5 rfl ?_
    refine G_getf 0 1 d_cX10_byteAt_6 rfl (gk_X10 D I) (Nat.le_of_ble_eq_true rfl) w_1_60 rfl ?_
    refine G_icmp_ge 25 d_cX10_byteAt_9 (by decide +kernel) (fun hc34 => ?_) (fun hc34 => ?_)
    · have r35 : p28.toInt ≤ p27.toInt := gC_le hc34
      refine G_iconst (-1) d_cX10_byteAt_25 (by decide +kernel) ?_
      exact G_iret d_cX10_byteAt_26 rfl (Nat.le_of_ble_eq_true rfl) (Nat.le_of_ble_eq_true rfl) (Or.inr (Or.inl ⟨rfl, rfl, r33, r35⟩))
    · have r36 : p27.toInt < p28.toInt := gC_nle hc34
      have bp27'' : gB p27 0 8191 := ⟨by omega, by omega⟩
      have bp28' : gB p28 1 8192 := ⟨by omega, by omega⟩
      refine G_aload_n 0 d_cX10_byteAt_12 rfl ?_
      refine G_getf 0 0 d_cX10_byteAt_13 rfl (gk_X10 D I) (Nat.le_of_ble_eq_true rfl) w_1_59 rfl ?_
      refine G_iload_n 1 d_cX10_byteAt_16 rfl ?_
      refine G_bald 1 1 d_cX10_byteAt_17 rfl rfl (gB_in bp27'' (by decide) (by decide)) (G_nam fun z37 hz37 => ?_)
      have bz37 : gB z37 (-128) 127 := by rw [hz37]; exact bf29 _
      refine G_sipush 255 d_cX10_byteAt_18 (by decide +kernel) ?_
      refine G_iand d_cX10_byteAt_21 (G_nam fun z38 hz38 => ?_)
      have bz38 : gB z38 0 255 := gB_and hz38 (gBl (show Int32.toInt 255 = 255 by decide)) (by decide)
      refine G_goto 26 d_cX10_byteAt_22 (by decide +kernel) ?_
      exact G_iret d_cX10_byteAt_26 rfl (Nat.le_of_ble_eq_true rfl) (Nat.le_of_ble_eq_true rfl) (Or.inr (Or.inr (⟨z38, rfl, rfl, r33, r36, bz38⟩)))
abbrev ky_44_Tape_addInt : gKey := (cX10_addInt, 3, yX10_addInt.cls, none, [], yX10_addInt.name, fun _ _ => True)
abbrev po_44_Tape_addInt (I : FieldType → ClassId) (q39 : Nat) (q40 : Nat) (p41 : Int32) (p42 : Int32) (f43 : Nat → Int32) : Option Value → va_W → Prop := fun r w => ∃ (o127 : Int32) (f128 : Nat → Int32), r = none ∧ w = [(q39, .inr (15, [.ref q40, .int o127])), (q40, .inl (I .byte, 8192, .inl f128))] ∧ gB o127 0 8192 ∧ gF f128 (-128) 127
set_option maxRecDepth 100000 in
set_option maxHeartbeats 4000000 in
theorem ct_44_Tape_addInt (l : Launch) (hl0 : l.stackTraces = false) (D : va_G) (I : FieldType → ClassId) (q39 : Nat) (q40 : Nat) (p41 : Int32) (p42 : Int32) (f43 : Nat → Int32) (bp42 : gB p42 0 8192) (bf43 : gF f43 (-128) 127) : Ct (gV D I) l yX10_addInt cX10_addInt 3 none 0 0 0 0 [.ref q39, .int p41] [(q39, .inr (15, [.ref q40, .int p42])), (q40, .inl (I .byte, 8192, .inl f43))] (po_44_Tape_addInt I q39 q40 p41 p42 f43) gN := by
  refine Ct_of hl0 (by decide) (Nat.le_of_ble_eq_true rfl) ?_
  have bp41 := gB_any p41
  refine G_bipush 24 d_cX10_addInt_0 (by decide +kernel) ?_
  refine G_istore_n (L' := [(2, .int 24), (0, .ref q39), (1, .int p41)]) d_cX10_addInt_2 (Nat.le_of_ble_eq_true rfl) rfl ?_
  have hlp3_115 : ∀ (n3_115 : Nat) (g113 : Int32) (g114 : Int32) (f115 : Nat → Int32), gB g113 (-8) 24 → gB g114 0 8192 → gF f115 (-128) 127 → ((g113.toInt : Int) - (-9)).toNat < n3_115 → G (gV D I) l (gRm 0 0 0 0) (gM (gV D I) (po_44_Tape_addInt I q39 q40 p41 p42 f43) gN 0 0) ky_44_Tape_addInt 3 [(2, .int g113), (0, .ref q39), (1, .int p41)] [] [(q39, .inr (15, [.ref q40, .int g114])), (q40, .inl (I .byte, 8192, .inl f115))] 0 0 := by
    intro n3_115
    induction n3_115 with
    | zero => intro g113 g114 f115 bg113 bg114 bf115 hm3_115; exact absurd hm3_115 (Nat.not_lt_zero _)
    | succ n3_115 ih3_115 =>
      intro g113 g114 f115 bg113 bg114 bf115 hm3_115
      refine G_iload_n 0 d_cX10_addInt_3 rfl ?_
      refine G_if_lt 48 d_cX10_addInt_4 (by decide +kernel) (fun hc116 => ?_) (fun hc116 => ?_)
      · have r117 : g113.toInt < 0 := gj_lt hc116 (show Int32.toInt 0 = 0 by decide)
        have bg113' : gB g113 (-8) (-1) := ⟨by omega, by omega⟩
        exact G_vret d_cX10_addInt_48 rfl (Nat.le_of_ble_eq_true rfl) (Nat.le_of_ble_eq_true rfl) ⟨g114, f115, rfl, rfl, bg114, bf115⟩
      · have r118 : 0 ≤ g113.toInt := gj_nlt hc116 (show Int32.toInt 0 = 0 by decide)
        have bg113' : gB g113 0 24 := ⟨by omega, by omega⟩
        refine G_aload_n 1 d_cX10_addInt_7 rfl ?_
        refine G_getf 0 1 d_cX10_addInt_8 rfl (gk_X10 D I) (Nat.le_of_ble_eq_true rfl) w_1_60 rfl ?_
        refine G_aload_n 1 d_cX10_addInt_11 rfl ?_
        refine G_getf 0 0 d_cX10_addInt_12 rfl (gk_X10 D I) (Nat.le_of_ble_eq_true rfl) w_1_59 rfl ?_
        refine G_alen 8192 1 1 d_cX10_addInt_15 rfl rfl rfl ?_
        refine G_icmp_ge 48 d_cX10_addInt_16 (by decide +kernel) (fun hc119 => ?_) (fun hc119 => ?_)
        · have r120 : 8192 ≤ g114.toInt := gj_leL hc119 (show Int32.toInt 8192 = 8192 by decide)
          have bg114' : gB g114 8192 8192 := ⟨by omega, by omega⟩
          exact G_vret d_cX10_addInt_48 rfl (Nat.le_of_ble_eq_true rfl) (Nat.le_of_ble_eq_true rfl) ⟨g114, f115, rfl, rfl, (gB_w bg114' (by decide) (by decide)), bf115⟩
        · have r121 : g114.toInt < 8192 := gj_nleL hc119 (show Int32.toInt 8192 = 8192 by decide)
          have bg114' : gB g114 0 8191 := ⟨by omega, by omega⟩
          refine G_aload_n 1 d_cX10_addInt_19 rfl ?_
          refine G_getf 0 0 d_cX10_addInt_20 rfl (gk_X10 D I) (Nat.le_of_ble_eq_true rfl) w_1_59 rfl ?_
          refine G_aload_n 1 d_cX10_addInt_23 rfl ?_
          refine G_getf 0 1 d_cX10_addInt_24 rfl (gk_X10 D I) (Nat.le_of_ble_eq_true rfl) w_1_60 rfl ?_
          refine G_iload_n 2 d_cX10_addInt_27 rfl ?_
          refine G_iload_n 0 d_cX10_addInt_28 rfl ?_
          refine G_ishr d_cX10_addInt_29 (G_nam fun z122 hz122 => ?_)
          have bz122 : gB z122 (-2147483648) 2147483647 := gB_any z122
          refine G_i2b d_cX10_addInt_30 (G_nam fun z123 hz123 => ?_)
          have bz123 : gB z123 (-128) 127 := gB_i2b hz123
          refine G_bastN 1 1 d_cX10_addInt_31 rfl rfl (gB_in bg114' (by decide) (by decide)) (fun f124 hf124 => ?_)
          refine G_ws (ws' := [(q39, .inr (15, [.ref q40, .int g114])), (q40, .inl (I .byte, 8192, .inl f124))]) (cs' := 0) (sl' := 0) rfl rfl rfl ?_
          have bf124 : gF f124 (-128) 127 := gF_upd hf124 bf115 gB_byte
          refine G_aload_n 1 d_cX10_addInt_32 rfl ?_
          refine G_dup d_cX10_addInt_33 rfl ?_
          refine G_getf 0 1 d_cX10_addInt_34 rfl (gk_X10 D I) (Nat.le_of_ble_eq_true rfl) w_1_60 rfl ?_
          refine G_iconst 1 d_cX10_addInt_37 (by decide +kernel) ?_
          refine G_iadd d_cX10_addInt_38 (G_nam fun z125 hz125 => ?_)
          have ez125 : z125.toInt = g114.toInt + 1 := by rw [gI_add hz125 bg114' (gBl (show Int32.toInt 1 = 1 by decide)) (by decide) (by decide), show Int32.toInt 1 = 1 from by decide]
          have bz125 : gB z125 1 8192 := gB_add (gI_add hz125 bg114' (gBl (show Int32.toInt 1 = 1 by decide)) (by decide) (by decide)) bg114' (gBl (show Int32.toInt 1 = 1 by decide)) (by decide) (by decide)
          refine G_putf (ws' := [(q39, .inr (15, [.ref q40, .int z125])), (q40, .inl (I .byte, 8192, .inl f124))]) 0 1 d_cX10_addInt_39 rfl (gk_X10 D I) (Nat.le_of_ble_eq_true rfl) w_1_60 rfl rfl rfl (Nat.le_of_ble_eq_true rfl) rfl ?_
          obtain ⟨z126, hz126⟩ : ∃ z : Int32, z = g113 + Int32.ofInt (-8) := ⟨_, rfl⟩
          have ez126 : z126.toInt = g113.toInt + (-8) := gI_inc hz126 (by decide) bg113' (by decide) (by decide)
          have bz126 : gB z126 (-8) 16 := ⟨by omega, by omega⟩
          refine G_iinc (L' := [(2, .int z126), (0, .ref q39), (1, .int p41)]) z126 0 d_cX10_addInt_42 rfl hz126.symm (Nat.le_of_ble_eq_true rfl) rfl ?_
          refine G_goto 3 d_cX10_addInt_45 (by decide +kernel) ?_
          exact ih3_115 z126 z125 f124 (gB_w bz126 (by decide) (by decide)) (gB_w bz125 (by decide) (by decide)) bf124 (by omega)
  exact hlp3_115 (((24 : Int) - (-9)).toNat + 1) 24 p42 f43 (gB_w (gBl (show Int32.toInt 24 = 24 by decide)) (by decide) (by decide)) bp42 bf43 (Nat.lt_succ_self _)
abbrev ky_134_Tape_intAt : gKey := (cX10_intAt, 4, yX10_intAt.cls, (some FieldType.int), [], yX10_intAt.name, fun _ _ => True)
abbrev po_134_Tape_intAt (I : FieldType → ClassId) (q129 : Nat) (q130 : Nat) (p131 : Int32) (p132 : Int32) (f133 : Nat → Int32) : Option Value → va_W → Prop := fun r w => ∃ (o265 : Int32), r = some (.int o265) ∧ w = [(q129, .inr (15, [.ref q130, .int p132])), (q130, .inl (I .byte, 8192, .inl f133))] ∧ gB o265 (-2147483648) 2147483647
set_option maxRecDepth 100000 in
set_option maxHeartbeats 4000000 in
theorem ct_134_Tape_intAt (l : Launch) (hl0 : l.stackTraces = false) (D : va_G) (I : FieldType → ClassId) (q129 : Nat) (q130 : Nat) (p131 : Int32) (p132 : Int32) (f133 : Nat → Int32) (bp132 : gB p132 0 8192) (bf133 : gF f133 (-128) 127) : Ct (gV D I) l yX10_intAt cX10_intAt 4 (some FieldType.int) 1 21 0 0 [.ref q129, .int p131] [(q129, .inr (15, [.ref q130, .int p132])), (q130, .inl (I .byte, 8192, .inl f133))] (po_134_Tape_intAt I q129 q130 p131 p132 f133) gN := by
  refine Ct_of hl0 (by decide) (Nat.le_of_ble_eq_true rfl) ?_
  have bp131 := gB_any p131
  refine G_iconst 0 d_cX10_intAt_0 (by decide +kernel) ?_
  refine G_istore_n (L' := [(2, .int 0), (0, .ref q129), (1, .int p131)]) d_cX10_intAt_1 (Nat.le_of_ble_eq_true rfl) rfl ?_
  refine G_iconst 0 d_cX10_intAt_2 (by decide +kernel) ?_
  refine G_istore_n (L' := [(3, .int 0), (2, .int 0), (0, .ref q129), (1, .int p131)]) d_cX10_intAt_3 (Nat.le_of_ble_eq_true rfl) rfl ?_
  have hlp4_245 : ∀ (n4_245 : Nat) (g244 : Int32) (g245 : Int32), gB g244 0 4 → gB g245 (-2147483648) 2147483647 → ((5 : Int) - g244.toInt).toNat < n4_245 → G (gV D I) l (gRm 1 21 0 0) (gM (gV D I) (po_134_Tape_intAt I q129 q130 p131 p132 f133) gN 0 0) ky_134_Tape_intAt 4 [(3, .int g244), (2, .int g245), (0, .ref q129), (1, .int p131)] [] [(q129, .inr (15, [.ref q130, .int p132])), (q130, .inl (I .byte, 8192, .inl f133))] 0 0 := by
    intro n4_245
    induction n4_245 with
    | zero => intro g244 g245 bg244 bg245 hm4_245; exact absurd hm4_245 (Nat.not_lt_zero _)
    | succ n4_245 ih4_245 =>
      intro g244 g245 bg244 bg245 hm4_245
      refine G_iload_n 0 d_cX10_intAt_4 rfl ?_
      refine G_iconst 4 d_cX10_intAt_5 (by decide +kernel) ?_
      refine G_icmp_ge 32 d_cX10_intAt_6 (by decide +kernel) (fun hc246 => ?_) (fun hc246 => ?_)
      · have r247 : 4 ≤ g244.toInt := gj_leL hc246 (show Int32.toInt 4 = 4 by decide)
        have bg244' : gB g244 4 4 := ⟨by omega, by omega⟩
        refine G_iload_n 1 d_cX10_intAt_32 rfl ?_
        exact G_iret d_cX10_intAt_33 rfl (Nat.le_of_ble_eq_true rfl) (Nat.le_of_ble_eq_true rfl) ⟨g245, rfl, rfl, bg245⟩
      · have r248 : g244.toInt < 4 := gj_nleL hc246 (show Int32.toInt 4 = 4 by decide)
        have bg244' : gB g244 0 3 := ⟨by omega, by omega⟩
        refine G_iload_n 1 d_cX10_intAt_9 rfl ?_
        refine G_bipush 8 d_cX10_intAt_10 (by decide +kernel) ?_
        refine G_ishl d_cX10_intAt_12 (G_nam fun z249 hz249 => ?_)
        have bz249 : gB z249 (-2147483648) 2147483647 := gB_any z249
        refine G_aload_n 2 d_cX10_intAt_13 rfl ?_
        refine G_iload_n 3 d_cX10_intAt_14 rfl ?_
        refine G_iload_n 0 d_cX10_intAt_15 rfl ?_
        refine G_iadd d_cX10_intAt_16 (G_nam fun z250 hz250 => ?_)
        have bz250 : gB z250 (-2147483648) 2147483647 := gB_any z250
        refine G_callV (As := [.int z250]) (wr := []) (gV_ok D I) (ct_30_Tape_byteAt l hl0 D I q129 q130 z250 p132 f133 bp132 bf133) d_cX10_intAt_17 ⟨w_4_182, w_1_2, w_3_23, by decide, rfl, (Nat.le_of_ble_eq_true rfl), (Nat.le_of_ble_eq_true rfl)⟩ w_3_21 w_3_22 0 rfl rfl [0, 1] [] rfl rfl rfl rfl (by decide) (Nat.le_of_ble_eq_true rfl) (Nat.le_of_ble_eq_true rfl) (Nat.le_of_ble_eq_true rfl) (fun r w hp => ?_) (fun _ _ _ z => z.elim)
        rcases hp with ⟨rfl, rfl, r251⟩ | ⟨rfl, rfl, r252, r253⟩ | ⟨z254, rfl, rfl, r255, r256, r257⟩
        · have bz250' : gB z250 (-2147483648) (-1) := ⟨by omega, by omega⟩
          change G _ _ _ _ _ _ _ (.int (-1) :: _) _ _ _
          refine G_ws (ws' := [(q129, .inr (15, [.ref q130, .int p132])), (q130, .inl (I .byte, 8192, .inl f133))]) (cs' := 0) (sl' := 0) rfl rfl rfl ?_
          refine G_sipush 255 d_cX10_intAt_20 (by decide +kernel) ?_
          refine G_iand d_cX10_intAt_23 ?_
          refine G_eqi (y := 255) (by decide) ?_
          refine G_ior d_cX10_intAt_24 (G_nam fun z258 hz258 => ?_)
          have bz258 : gB z258 (-2147483648) 2147483647 := gB_any z258
          refine G_istore_n (L' := [(2, .int z258), (3, .int g244), (0, .ref q129), (1, .int p131)]) d_cX10_intAt_25 (Nat.le_of_ble_eq_true rfl) rfl ?_
          obtain ⟨z259, hz259⟩ : ∃ z : Int32, z = g244 + Int32.ofInt 1 := ⟨_, rfl⟩
          have ez259 : z259.toInt = g244.toInt + 1 := gI_inc hz259 (by decide) bg244' (by decide) (by decide)
          have bz259 : gB z259 1 4 := ⟨by omega, by omega⟩
          refine G_iinc (L' := [(3, .int z259), (2, .int z258), (0, .ref q129), (1, .int p131)]) z259 1 d_cX10_intAt_26 rfl hz259.symm (Nat.le_of_ble_eq_true rfl) rfl ?_
          refine G_goto 4 d_cX10_intAt_29 (by decide +kernel) ?_
          exact ih4_245 z259 z258 (gB_w bz259 (by decide) (by decide)) bz258 (by omega)
        · have bz250' : gB z250 0 2147483647 := ⟨by omega, by omega⟩
          change G _ _ _ _ _ _ _ (.int (-1) :: _) _ _ _
          refine G_ws (ws' := [(q129, .inr (15, [.ref q130, .int p132])), (q130, .inl (I .byte, 8192, .inl f133))]) (cs' := 0) (sl' := 0) rfl rfl rfl ?_
          refine G_sipush 255 d_cX10_intAt_20 (by decide +kernel) ?_
          refine G_iand d_cX10_intAt_23 ?_
          refine G_eqi (y := 255) (by decide) ?_
          refine G_ior d_cX10_intAt_24 (G_nam fun z260 hz260 => ?_)
          have bz260 : gB z260 (-2147483648) 2147483647 := gB_any z260
          refine G_istore_n (L' := [(2, .int z260), (3, .int g244), (0, .ref q129), (1, .int p131)]) d_cX10_intAt_25 (Nat.le_of_ble_eq_true rfl) rfl ?_
          obtain ⟨z261, hz261⟩ : ∃ z : Int32, z = g244 + Int32.ofInt 1 := ⟨_, rfl⟩
          have ez261 : z261.toInt = g244.toInt + 1 := gI_inc hz261 (by decide) bg244' (by decide) (by decide)
          have bz261 : gB z261 1 4 := ⟨by omega, by omega⟩
          refine G_iinc (L' := [(3, .int z261), (2, .int z260), (0, .ref q129), (1, .int p131)]) z261 1 d_cX10_intAt_26 rfl hz261.symm (Nat.le_of_ble_eq_true rfl) rfl ?_
          refine G_goto 4 d_cX10_intAt_29 (by decide +kernel) ?_
          exact ih4_245 z261 z260 (gB_w bz261 (by decide) (by decide)) bz260 (by omega)
        · have bz250' : gB z250 0 2147483647 := ⟨by omega, by omega⟩
          have bz250'' : gB z250 0 8191 := ⟨by omega, by omega⟩
          have bp132' : gB p132 1 8192 := ⟨by omega, by omega⟩
          change G _ _ _ _ _ _ _ (.int z254 :: _) _ _ _
          refine G_ws (ws' := [(q129, .inr (15, [.ref q130, .int p132])), (q130, .inl (I .byte, 8192, .inl f133))]) (cs' := 0) (sl' := 0) rfl rfl rfl ?_
          refine G_sipush 255 d_cX10_intAt_20 (by decide +kernel) ?_
          refine G_iand d_cX10_intAt_23 (G_nam fun z262 hz262 => ?_)
          have bz262 : gB z262 0 255 := gB_and hz262 (gBl (show Int32.toInt 255 = 255 by decide)) (by decide)
          refine G_ior d_cX10_intAt_24 (G_nam fun z263 hz263 => ?_)
          have bz263 : gB z263 (-2147483648) 2147483647 := gB_any z263
          refine G_istore_n (L' := [(2, .int z263), (3, .int g244), (0, .ref q129), (1, .int p131)]) d_cX10_intAt_25 (Nat.le_of_ble_eq_true rfl) rfl ?_
          obtain ⟨z264, hz264⟩ : ∃ z : Int32, z = g244 + Int32.ofInt 1 := ⟨_, rfl⟩
          have ez264 : z264.toInt = g244.toInt + 1 := gI_inc hz264 (by decide) bg244' (by decide) (by decide)
          have bz264 : gB z264 1 4 := ⟨by omega, by omega⟩
          refine G_iinc (L' := [(3, .int z264), (2, .int z263), (0, .ref q129), (1, .int p131)]) z264 1 d_cX10_intAt_26 rfl hz264.symm (Nat.le_of_ble_eq_true rfl) rfl ?_
          refine G_goto 4 d_cX10_intAt_29 (by decide +kernel) ?_
          exact ih4_245 z264 z263 (gB_w bz264 (by decide) (by decide)) bz263 (by omega)
  exact hlp4_245 (((5 : Int) - 0).toNat + 1) 0 0 (gB_w (gBl (show Int32.toInt 0 = 0 by decide)) (by decide) (by decide)) (gB_w (gBl (show Int32.toInt 0 = 0 by decide)) (by decide) (by decide)) (Nat.lt_succ_self _)
abbrev ky_275_Signs_kind : gKey := (cX9_kind, 1, yX9_kind.cls, (some FieldType.int), [], yX9_kind.name, fun _ _ => True)
abbrev po_275_Signs_kind (I : FieldType → ClassId) (q266 : Nat) (q267 : Nat) (q268 : Nat) (p269 : Int32) (p270 : Int32) (p271 : Int32) (p272 : Int32) (p273 : Int32) (f274 : Nat → Int32) : Option Value → va_W → Prop := fun r w => r = some (.int p269) ∧ w = [(q266, .inr (14, [.ref q267, .int p269, .int p270, .int p271, .int p272])), (q267, .inr (15, [.ref q268, .int p273])), (q268, .inl (I .byte, 8192, .inl f274))]
set_option maxRecDepth 100000 in
set_option maxHeartbeats 4000000 in
theorem ct_275_Signs_kind (l : Launch) (hl0 : l.stackTraces = false) (D : va_G) (I : FieldType → ClassId) (q266 : Nat) (q267 : Nat) (q268 : Nat) (p269 : Int32) (p270 : Int32) (p271 : Int32) (p272 : Int32) (p273 : Int32) (f274 : Nat → Int32) (bp273 : gB p273 0 8192) (bf274 : gF f274 (-128) 127) : Ct (gV D I) l yX9_kind cX9_kind 1 (some FieldType.int) 0 0 0 0 [.ref q266] [(q266, .inr (14, [.ref q267, .int p269, .int p270, .int p271, .int p272])), (q267, .inr (15, [.ref q268, .int p273])), (q268, .inl (I .byte, 8192, .inl f274))] (po_275_Signs_kind I q266 q267 q268 p269 p270 p271 p272 p273 f274) gN := by
  refine Ct_of hl0 (by decide) (Nat.le_of_ble_eq_true rfl) ?_
  have bp269 := gB_any p269
  have bp270 := gB_any p270
  have bp271 := gB_any p271
  have bp272 := gB_any p272
  refine G_aload_n 0 d_cX9_kind_0 rfl ?_
  refine G_getf 0 1 d_cX9_kind_1 rfl (gk_X9 D I) (Nat.le_of_ble_eq_true rfl) w_1_80 rfl ?_
  exact G_iret d_cX9_kind_4 rfl (Nat.le_of_ble_eq_true rfl) (Nat.le_of_ble_eq_true rfl) ⟨rfl, rfl⟩
abbrev ky_285_Signs_value : gKey := (cX9_value, 1, yX9_value.cls, (some FieldType.int), [], yX9_value.name, fun _ _ => True)
abbrev po_285_Signs_value (I : FieldType → ClassId) (q276 : Nat) (q277 : Nat) (q278 : Nat) (p279 : Int32) (p280 : Int32) (p281 : Int32) (p282 : Int32) (p283 : Int32) (f284 : Nat → Int32) : Option Value → va_W → Prop := fun r w => r = some (.int p280) ∧ w = [(q276, .inr (14, [.ref q277, .int p279, .int p280, .int p281, .int p282])), (q277, .inr (15, [.ref q278, .int p283])), (q278, .inl (I .byte, 8192, .inl f284))]
set_option maxRecDepth 100000 in
set_option maxHeartbeats 4000000 in
theorem ct_285_Signs_value (l : Launch) (hl0 : l.stackTraces = false) (D : va_G) (I : FieldType → ClassId) (q276 : Nat) (q277 : Nat) (q278 : Nat) (p279 : Int32) (p280 : Int32) (p281 : Int32) (p282 : Int32) (p283 : Int32) (f284 : Nat → Int32) (bp283 : gB p283 0 8192) (bf284 : gF f284 (-128) 127) : Ct (gV D I) l yX9_value cX9_value 1 (some FieldType.int) 0 0 0 0 [.ref q276] [(q276, .inr (14, [.ref q277, .int p279, .int p280, .int p281, .int p282])), (q277, .inr (15, [.ref q278, .int p283])), (q278, .inl (I .byte, 8192, .inl f284))] (po_285_Signs_value I q276 q277 q278 p279 p280 p281 p282 p283 f284) gN := by
  refine Ct_of hl0 (by decide) (Nat.le_of_ble_eq_true rfl) ?_
  have bp279 := gB_any p279
  have bp280 := gB_any p280
  have bp281 := gB_any p281
  have bp282 := gB_any p282
  refine G_aload_n 0 d_cX9_value_0 rfl ?_
  refine G_getf 0 2 d_cX9_value_1 rfl (gk_X9 D I) (Nat.le_of_ble_eq_true rfl) w_1_81 rfl ?_
  exact G_iret d_cX9_value_4 rfl (Nat.le_of_ble_eq_true rfl) (Nat.le_of_ble_eq_true rfl) ⟨rfl, rfl⟩
abbrev ky_295_Signs_place : gKey := (cX9_place, 1, yX9_place.cls, (some FieldType.int), [], yX9_place.name, fun _ _ => True)
abbrev po_295_Signs_place (I : FieldType → ClassId) (q286 : Nat) (q287 : Nat) (q288 : Nat) (p289 : Int32) (p290 : Int32) (p291 : Int32) (p292 : Int32) (p293 : Int32) (f294 : Nat → Int32) : Option Value → va_W → Prop := fun r w => r = some (.int p291) ∧ w = [(q286, .inr (14, [.ref q287, .int p289, .int p290, .int p291, .int p292])), (q287, .inr (15, [.ref q288, .int p293])), (q288, .inl (I .byte, 8192, .inl f294))]
set_option maxRecDepth 100000 in
set_option maxHeartbeats 4000000 in
theorem ct_295_Signs_place (l : Launch) (hl0 : l.stackTraces = false) (D : va_G) (I : FieldType → ClassId) (q286 : Nat) (q287 : Nat) (q288 : Nat) (p289 : Int32) (p290 : Int32) (p291 : Int32) (p292 : Int32) (p293 : Int32) (f294 : Nat → Int32) (bp293 : gB p293 0 8192) (bf294 : gF f294 (-128) 127) : Ct (gV D I) l yX9_place cX9_place 1 (some FieldType.int) 0 0 0 0 [.ref q286] [(q286, .inr (14, [.ref q287, .int p289, .int p290, .int p291, .int p292])), (q287, .inr (15, [.ref q288, .int p293])), (q288, .inl (I .byte, 8192, .inl f294))] (po_295_Signs_place I q286 q287 q288 p289 p290 p291 p292 p293 f294) gN := by
  refine Ct_of hl0 (by decide) (Nat.le_of_ble_eq_true rfl) ?_
  have bp289 := gB_any p289
  have bp290 := gB_any p290
  have bp291 := gB_any p291
  have bp292 := gB_any p292
  refine G_aload_n 0 d_cX9_place_0 rfl ?_
  refine G_getf 0 3 d_cX9_place_1 rfl (gk_X9 D I) (Nat.le_of_ble_eq_true rfl) w_1_82 rfl ?_
  exact G_iret d_cX9_place_4 rfl (Nat.le_of_ble_eq_true rfl) (Nat.le_of_ble_eq_true rfl) ⟨rfl, rfl⟩
abbrev ky_297_Signs_isDigit : gKey := (cX9_isDigit, 1, yX9_isDigit.cls, (some FieldType.boolean), [], yX9_isDigit.name, fun _ _ => True)
abbrev po_297_Signs_isDigit (I : FieldType → ClassId) (p296 : Int32) : Option Value → va_W → Prop := fun r w => (r = some (.int 0) ∧ w = [] ∧ p296.toInt < 48) ∨ (r = some (.int 0) ∧ w = [] ∧ 48 ≤ p296.toInt ∧ 57 < p296.toInt) ∨ (r = some (.int 1) ∧ w = [] ∧ 48 ≤ p296.toInt ∧ p296.toInt ≤ 57)
set_option maxRecDepth 100000 in
set_option maxHeartbeats 4000000 in
theorem ct_297_Signs_isDigit (l : Launch) (hl0 : l.stackTraces = false) (D : va_G) (I : FieldType → ClassId) (p296 : Int32)  : Ct (gV D I) l yX9_isDigit cX9_isDigit 1 (some FieldType.boolean) 0 0 0 0 [.int p296] [] (po_297_Signs_isDigit I p296) gN := by
  refine Ct_of hl0 (by decide) (Nat.le_of_ble_eq_true rfl) ?_
  have bp296 := gB_any p296
  refine G_iload_n 0 d_cX9_isDigit_0 rfl ?_
  refine G_bipush 48 d_cX9_isDigit_1 (by decide +kernel) ?_
  refine G_icmp_lt 16 d_cX9_isDigit_3 (by decide +kernel) (fun hc298 => ?_) (fun hc298 => ?_)
  · have r299 : p296.toInt < 48 := gj_lt hc298 (show Int32.toInt 48 = 48 by decide)
    have bp296' : gB p296 (-2147483648) 47 := ⟨by omega, by omega⟩
    refine G_iconst 0 d_cX9_isDigit_16 (by decide +kernel) ?_
    exact G_zret FieldType.boolean d_cX9_isDigit_17 rfl rfl (Nat.le_of_ble_eq_true rfl) (Nat.le_of_ble_eq_true rfl) (Or.inl ⟨rfl, rfl, r299⟩)
  · have r300 : 48 ≤ p296.toInt := gj_nlt hc298 (show Int32.toInt 48 = 48 by decide)
    have bp296' : gB p296 48 2147483647 := ⟨by omega, by omega⟩
    refine G_iload_n 0 d_cX9_isDigit_6 rfl ?_
    refine G_bipush 57 d_cX9_isDigit_7 (by decide +kernel) ?_
    refine G_icmp_gt 16 d_cX9_isDigit_9 (by decide +kernel) (fun hc301 => ?_) (fun hc301 => ?_)
    · have r302 : 57 < p296.toInt := gj_ltL hc301 (show Int32.toInt 57 = 57 by decide)
      have bp296'' : gB p296 58 2147483647 := ⟨by omega, by omega⟩
      refine G_iconst 0 d_cX9_isDigit_16 (by decide +kernel) ?_
      exact G_zret FieldType.boolean d_cX9_isDigit_17 rfl rfl (Nat.le_of_ble_eq_true rfl) (Nat.le_of_ble_eq_true rfl) (Or.inr (Or.inl ⟨rfl, rfl, r300, r302⟩))
    · have r303 : p296.toInt ≤ 57 := gj_nltL hc301 (show Int32.toInt 57 = 57 by decide)
      have bp296'' : gB p296 48 57 := ⟨by omega, by omega⟩
      refine G_iconst 1 d_cX9_isDigit_12 (by decide +kernel) ?_
      refine G_goto 17 d_cX9_isDigit_13 (by decide +kernel) ?_
      exact G_zret FieldType.boolean d_cX9_isDigit_17 rfl rfl (Nat.le_of_ble_eq_true rfl) (Nat.le_of_ble_eq_true rfl) (Or.inr (Or.inr (⟨rfl, rfl, r300, r303⟩)))
abbrev ky_305_Signs_isLetter : gKey := (cX9_isLetter, 1, yX9_isLetter.cls, (some FieldType.boolean), [], yX9_isLetter.name, fun _ _ => True)
abbrev po_305_Signs_isLetter (I : FieldType → ClassId) (p304 : Int32) : Option Value → va_W → Prop := fun r w => (r = some (.int 0) ∧ w = [] ∧ p304.toInt < 97) ∨ (r = some (.int 0) ∧ w = [] ∧ 97 ≤ p304.toInt ∧ 122 < p304.toInt) ∨ (r = some (.int 1) ∧ w = [] ∧ 97 ≤ p304.toInt ∧ p304.toInt ≤ 122)
set_option maxRecDepth 100000 in
set_option maxHeartbeats 4000000 in
theorem ct_305_Signs_isLetter (l : Launch) (hl0 : l.stackTraces = false) (D : va_G) (I : FieldType → ClassId) (p304 : Int32)  : Ct (gV D I) l yX9_isLetter cX9_isLetter 1 (some FieldType.boolean) 0 0 0 0 [.int p304] [] (po_305_Signs_isLetter I p304) gN := by
  refine Ct_of hl0 (by decide) (Nat.le_of_ble_eq_true rfl) ?_
  have bp304 := gB_any p304
  refine G_iload_n 0 d_cX9_isLetter_0 rfl ?_
  refine G_bipush 97 d_cX9_isLetter_1 (by decide +kernel) ?_
  refine G_icmp_lt 16 d_cX9_isLetter_3 (by decide +kernel) (fun hc306 => ?_) (fun hc306 => ?_)
  · have r307 : p304.toInt < 97 := gj_lt hc306 (show Int32.toInt 97 = 97 by decide)
    have bp304' : gB p304 (-2147483648) 96 := ⟨by omega, by omega⟩
    refine G_iconst 0 d_cX9_isLetter_16 (by decide +kernel) ?_
    exact G_zret FieldType.boolean d_cX9_isLetter_17 rfl rfl (Nat.le_of_ble_eq_true rfl) (Nat.le_of_ble_eq_true rfl) (Or.inl ⟨rfl, rfl, r307⟩)
  · have r308 : 97 ≤ p304.toInt := gj_nlt hc306 (show Int32.toInt 97 = 97 by decide)
    have bp304' : gB p304 97 2147483647 := ⟨by omega, by omega⟩
    refine G_iload_n 0 d_cX9_isLetter_6 rfl ?_
    refine G_bipush 122 d_cX9_isLetter_7 (by decide +kernel) ?_
    refine G_icmp_gt 16 d_cX9_isLetter_9 (by decide +kernel) (fun hc309 => ?_) (fun hc309 => ?_)
    · have r310 : 122 < p304.toInt := gj_ltL hc309 (show Int32.toInt 122 = 122 by decide)
      have bp304'' : gB p304 123 2147483647 := ⟨by omega, by omega⟩
      refine G_iconst 0 d_cX9_isLetter_16 (by decide +kernel) ?_
      exact G_zret FieldType.boolean d_cX9_isLetter_17 rfl rfl (Nat.le_of_ble_eq_true rfl) (Nat.le_of_ble_eq_true rfl) (Or.inr (Or.inl ⟨rfl, rfl, r308, r310⟩))
    · have r311 : p304.toInt ≤ 122 := gj_nltL hc309 (show Int32.toInt 122 = 122 by decide)
      have bp304'' : gB p304 97 122 := ⟨by omega, by omega⟩
      refine G_iconst 1 d_cX9_isLetter_12 (by decide +kernel) ?_
      refine G_goto 17 d_cX9_isLetter_13 (by decide +kernel) ?_
      exact G_zret FieldType.boolean d_cX9_isLetter_17 rfl rfl (Nat.le_of_ble_eq_true rfl) (Nat.le_of_ble_eq_true rfl) (Or.inr (Or.inr (⟨rfl, rfl, r308, r311⟩)))
abbrev ky_322_Signs_skipBlanks : gKey := (cX9_skipBlanks, 5, yX9_skipBlanks.cls, (some FieldType.int), [], yX9_skipBlanks.name, fun _ _ => True)
abbrev po_322_Signs_skipBlanks (I : FieldType → ClassId) (q312 : Nat) (q313 : Nat) (q314 : Nat) (p315 : Int32) (p316 : Int32) (p317 : Int32) (p318 : Int32) (p319 : Int32) (p320 : Int32) (f321 : Nat → Int32) : Option Value → va_W → Prop := fun r w => ∃ (o453 : Int32), r = some (.int o453) ∧ w = [(q312, .inr (14, [.ref q313, .int p316, .int p317, .int p318, .int p319])), (q313, .inr (15, [.ref q314, .int p320])), (q314, .inl (I .byte, 8192, .inl f321))] ∧ gB o453 (-2147483648) 8192
set_option maxRecDepth 100000 in
set_option maxHeartbeats 4000000 in
theorem ct_322_Signs_skipBlanks (l : Launch) (hl0 : l.stackTraces = false) (D : va_G) (I : FieldType → ClassId) (q312 : Nat) (q313 : Nat) (q314 : Nat) (p315 : Int32) (p316 : Int32) (p317 : Int32) (p318 : Int32) (p319 : Int32) (p320 : Int32) (f321 : Nat → Int32) (bp320 : gB p320 0 8192) (bf321 : gF f321 (-128) 127) : Ct (gV D I) l yX9_skipBlanks cX9_skipBlanks 5 (some FieldType.int) 1 21 0 0 [.ref q312, .int p315] [(q312, .inr (14, [.ref q313, .int p316, .int p317, .int p318, .int p319])), (q313, .inr (15, [.ref q314, .int p320])), (q314, .inl (I .byte, 8192, .inl f321))] (po_322_Signs_skipBlanks I q312 q313 q314 p315 p316 p317 p318 p319 p320 f321) gN := by
  refine Ct_of hl0 (by decide) (Nat.le_of_ble_eq_true rfl) ?_
  have bp315 := gB_any p315
  have bp316 := gB_any p316
  have bp317 := gB_any p317
  have bp318 := gB_any p318
  have bp319 := gB_any p319
  refine G_iconst 0 d_cX9_skipBlanks_0 (by decide +kernel) ?_
  refine G_istore_n (L' := [(2, .int 0), (0, .ref q312), (1, .int p315)]) d_cX9_skipBlanks_1 (Nat.le_of_ble_eq_true rfl) rfl ?_
  refine G_iload_n 2 d_cX9_skipBlanks_2 rfl ?_
  refine G_istore_n (L' := [(3, .int p315), (2, .int 0), (0, .ref q312), (1, .int p315)]) d_cX9_skipBlanks_3 (Nat.le_of_ble_eq_true rfl) rfl ?_
  have hlp4_406 : ∀ (n4_406 : Nat) (g405 : Int32) (g406 : Int32), gB g405 (-2147483648) 2147483647 → gB g406 0 1 → ((2147483648 : Int) - g405.toInt).toNat < n4_406 → G (gV D I) l (gRm 1 21 0 0) (gM (gV D I) (po_322_Signs_skipBlanks I q312 q313 q314 p315 p316 p317 p318 p319 p320 f321) gN 0 0) ky_322_Signs_skipBlanks 4 [(3, .int g405), (2, .int g406), (0, .ref q312), (1, .int p315)] [] [(q312, .inr (14, [.ref q313, .int p316, .int p317, .int p318, .int p319])), (q313, .inr (15, [.ref q314, .int p320])), (q314, .inl (I .byte, 8192, .inl f321))] 0 0 := by
    intro n4_406
    induction n4_406 with
    | zero => intro g405 g406 bg405 bg406 hm4_406; exact absurd hm4_406 (Nat.not_lt_zero _)
    | succ n4_406 ih4_406 =>
      intro g405 g406 bg405 bg406 hm4_406
      refine G_iload_n 0 d_cX9_skipBlanks_4 rfl ?_
      refine G_aload_n 2 d_cX9_skipBlanks_5 rfl ?_
      refine G_getf 0 0 d_cX9_skipBlanks_6 rfl (gk_X9 D I) (Nat.le_of_ble_eq_true rfl) w_1_79 rfl ?_
      refine G_callV (As := []) (wr := [(q312, .inr (14, [.ref q313, .int p316, .int p317, .int p318, .int p319]))]) (gV_ok D I) (ct_5_Tape_size l hl0 D I q313 q314 p320 f321 bp320 bf321) d_cX9_skipBlanks_9 ⟨w_3_16, w_1_2, w_3_19, by decide, rfl, (Nat.le_of_ble_eq_true rfl), (Nat.le_of_ble_eq_true rfl)⟩ w_3_17 w_3_18 1 rfl rfl [1, 2] [0] rfl rfl rfl rfl (by decide) (Nat.le_of_ble_eq_true rfl) (Nat.le_of_ble_eq_true rfl) (Nat.le_of_ble_eq_true rfl) (fun r w hp => ?_) (fun _ _ _ z => z.elim)
      obtain ⟨rfl, rfl⟩ := hp
      change G _ _ _ _ _ _ _ (.int p320 :: _) _ _ _
      refine G_ws (ws' := [(q312, .inr (14, [.ref q313, .int p316, .int p317, .int p318, .int p319])), (q313, .inr (15, [.ref q314, .int p320])), (q314, .inl (I .byte, 8192, .inl f321))]) (cs' := 0) (sl' := 0) rfl rfl rfl ?_
      refine G_icmp_ge 89 d_cX9_skipBlanks_12 (by decide +kernel) (fun hc407 => ?_) (fun hc407 => ?_)
      · have r408 : p320.toInt ≤ g405.toInt := gC_le hc407
        have bg405' : gB g405 0 2147483647 := ⟨by omega, by omega⟩
        refine G_aload_n 2 d_cX9_skipBlanks_89 rfl ?_
        refine G_getf 0 0 d_cX9_skipBlanks_90 rfl (gk_X9 D I) (Nat.le_of_ble_eq_true rfl) w_1_79 rfl ?_
        refine G_callV (As := []) (wr := [(q312, .inr (14, [.ref q313, .int p316, .int p317, .int p318, .int p319]))]) (gV_ok D I) (ct_5_Tape_size l hl0 D I q313 q314 p320 f321 bp320 bf321) d_cX9_skipBlanks_93 ⟨w_3_16, w_1_2, w_3_19, by decide, rfl, (Nat.le_of_ble_eq_true rfl), (Nat.le_of_ble_eq_true rfl)⟩ w_3_17 w_3_18 1 rfl rfl [1, 2] [0] rfl rfl rfl rfl (by decide) (Nat.le_of_ble_eq_true rfl) (Nat.le_of_ble_eq_true rfl) (Nat.le_of_ble_eq_true rfl) (fun r w hp => ?_) (fun _ _ _ z => z.elim)
        obtain ⟨rfl, rfl⟩ := hp
        change G _ _ _ _ _ _ _ (.int p320 :: _) _ _ _
        refine G_ws (ws' := [(q312, .inr (14, [.ref q313, .int p316, .int p317, .int p318, .int p319])), (q313, .inr (15, [.ref q314, .int p320])), (q314, .inl (I .byte, 8192, .inl f321))]) (cs' := 0) (sl' := 0) rfl rfl rfl ?_
        exact G_iret d_cX9_skipBlanks_96 rfl (Nat.le_of_ble_eq_true rfl) (Nat.le_of_ble_eq_true rfl) ⟨p320, rfl, rfl, (gB_w bp320 (by decide) (by decide))⟩
      · have r409 : g405.toInt < p320.toInt := gC_nle hc407
        have bg405' : gB g405 (-2147483648) 8191 := ⟨by omega, by omega⟩
        refine G_aload_n 2 d_cX9_skipBlanks_15 rfl ?_
        refine G_getf 0 0 d_cX9_skipBlanks_16 rfl (gk_X9 D I) (Nat.le_of_ble_eq_true rfl) w_1_79 rfl ?_
        refine G_iload_n 0 d_cX9_skipBlanks_19 rfl ?_
        refine G_callV (As := [.int g405]) (wr := [(q312, .inr (14, [.ref q313, .int p316, .int p317, .int p318, .int p319]))]) (gV_ok D I) (ct_30_Tape_byteAt l hl0 D I q313 q314 g405 p320 f321 bp320 bf321) d_cX9_skipBlanks_20 ⟨w_3_20, w_1_2, w_3_23, by decide, rfl, (Nat.le_of_ble_eq_true rfl), (Nat.le_of_ble_eq_true rfl)⟩ w_3_21 w_3_22 1 rfl rfl [1, 2] [0] rfl rfl rfl rfl (by decide) (Nat.le_of_ble_eq_true rfl) (Nat.le_of_ble_eq_true rfl) (Nat.le_of_ble_eq_true rfl) (fun r w hp => ?_) (fun _ _ _ z => z.elim)
        rcases hp with ⟨rfl, rfl, r410⟩ | ⟨rfl, rfl, r411, r412⟩ | ⟨z413, rfl, rfl, r414, r415, r416⟩
        · have bg405'' : gB g405 (-2147483648) (-1) := ⟨by omega, by omega⟩
          change G _ _ _ _ _ _ _ (.int (-1) :: _) _ _ _
          refine G_ws (ws' := [(q312, .inr (14, [.ref q313, .int p316, .int p317, .int p318, .int p319])), (q313, .inr (15, [.ref q314, .int p320])), (q314, .inl (I .byte, 8192, .inl f321))]) (cs' := 0) (sl' := 0) rfl rfl rfl ?_
          refine G_istore (L' := [(4, .int (-1)), (3, .int g405), (2, .int g406), (0, .ref q312), (1, .int p315)]) d_cX9_skipBlanks_23 (Nat.le_of_ble_eq_true rfl) rfl ?_
          refine G_iload 0 d_cX9_skipBlanks_25 rfl ?_
          refine G_bipush 10 d_cX9_skipBlanks_27 (by decide +kernel) ?_
          refine G_icmp_eq 47 d_cX9_skipBlanks_29 (by decide +kernel) (fun hc => absurd hc (by decide)) (fun _ => ?_)
          refine G_iload_n 2 d_cX9_skipBlanks_32 rfl ?_
          refine G_if_ne 43 d_cX9_skipBlanks_33 (by decide +kernel) (fun hc417 => ?_) (fun hc417 => ?_)
          · have r418 : g406.toInt ≠ 0 := gj_neq hc417 (show Int32.toInt 0 = 0 by decide)
            have bg406' : gB g406 1 1 := ⟨by omega, by omega⟩
            refine G_iconst 1 d_cX9_skipBlanks_43 (by decide +kernel) ?_
            refine G_goto 48 d_cX9_skipBlanks_44 (by decide +kernel) ?_
            refine G_istore_n (L' := [(2, .int 1), (4, .int (-1)), (3, .int g405), (0, .ref q312), (1, .int p315)]) d_cX9_skipBlanks_48 (Nat.le_of_ble_eq_true rfl) rfl ?_
            refine G_iload_n 0 d_cX9_skipBlanks_49 rfl ?_
            refine G_if_ne 83 d_cX9_skipBlanks_50 (by decide +kernel) (fun _ => ?_) (fun hc => absurd hc (by decide))
            obtain ⟨z419, hz419⟩ : ∃ z : Int32, z = g405 + Int32.ofInt 1 := ⟨_, rfl⟩
            have ez419 : z419.toInt = g405.toInt + 1 := gI_inc hz419 (by decide) bg405'' (by decide) (by decide)
            have bz419 : gB z419 (-2147483647) 0 := ⟨by omega, by omega⟩
            refine G_iinc (L' := [(3, .int z419), (2, .int 1), (4, .int (-1)), (0, .ref q312), (1, .int p315)]) z419 2 d_cX9_skipBlanks_83 rfl hz419.symm (Nat.le_of_ble_eq_true rfl) rfl ?_
            refine G_goto 4 d_cX9_skipBlanks_86 (by decide +kernel) ?_
            refine G_lv (L' := [(3, .int z419), (2, .int 1), (0, .ref q312), (1, .int p315)]) [0, 1, 3, 4] rfl ?_
            exact ih4_406 z419 1 (gB_w bz419 (by decide) (by decide)) (gB_w (gBl (show Int32.toInt 1 = 1 by decide)) (by decide) (by decide)) (by omega)
          · have r420 : g406.toInt = 0 := gj_eq hc417 (show Int32.toInt 0 = 0 by decide)
            have bg406' : gB g406 0 0 := ⟨by omega, by omega⟩
            refine G_iload 0 d_cX9_skipBlanks_36 rfl ?_
            refine G_bipush 59 d_cX9_skipBlanks_38 (by decide +kernel) ?_
            refine G_icmp_ne 47 d_cX9_skipBlanks_40 (by decide +kernel) (fun _ => ?_) (fun hc => absurd hc (by decide))
            refine G_iconst 0 d_cX9_skipBlanks_47 (by decide +kernel) ?_
            refine G_istore_n (L' := [(2, .int 0), (4, .int (-1)), (3, .int g405), (0, .ref q312), (1, .int p315)]) d_cX9_skipBlanks_48 (Nat.le_of_ble_eq_true rfl) rfl ?_
            refine G_iload_n 0 d_cX9_skipBlanks_49 rfl ?_
            refine G_if_ne 83 d_cX9_skipBlanks_50 (by decide +kernel) (fun hc => absurd hc (by decide)) (fun _ => ?_)
            refine G_iload 1 d_cX9_skipBlanks_53 rfl ?_
            refine G_bipush 9 d_cX9_skipBlanks_55 (by decide +kernel) ?_
            refine G_icmp_eq 83 d_cX9_skipBlanks_57 (by decide +kernel) (fun hc => absurd hc (by decide)) (fun _ => ?_)
            refine G_iload 1 d_cX9_skipBlanks_60 rfl ?_
            refine G_bipush 10 d_cX9_skipBlanks_62 (by decide +kernel) ?_
            refine G_icmp_eq 83 d_cX9_skipBlanks_64 (by decide +kernel) (fun hc => absurd hc (by decide)) (fun _ => ?_)
            refine G_iload 1 d_cX9_skipBlanks_67 rfl ?_
            refine G_bipush 13 d_cX9_skipBlanks_69 (by decide +kernel) ?_
            refine G_icmp_eq 83 d_cX9_skipBlanks_71 (by decide +kernel) (fun hc => absurd hc (by decide)) (fun _ => ?_)
            refine G_iload 1 d_cX9_skipBlanks_74 rfl ?_
            refine G_bipush 32 d_cX9_skipBlanks_76 (by decide +kernel) ?_
            refine G_icmp_eq 83 d_cX9_skipBlanks_78 (by decide +kernel) (fun hc => absurd hc (by decide)) (fun _ => ?_)
            refine G_iload_n 2 d_cX9_skipBlanks_81 rfl ?_
            exact G_iret d_cX9_skipBlanks_82 rfl (Nat.le_of_ble_eq_true rfl) (Nat.le_of_ble_eq_true rfl) ⟨g405, rfl, rfl, (gB_w bg405'' (by decide) (by decide))⟩
        · have bg405'' : gB g405 0 8191 := ⟨by omega, by omega⟩
          have bp320' : gB p320 0 8191 := ⟨by omega, by omega⟩
          change G _ _ _ _ _ _ _ (.int (-1) :: _) _ _ _
          refine G_ws (ws' := [(q312, .inr (14, [.ref q313, .int p316, .int p317, .int p318, .int p319])), (q313, .inr (15, [.ref q314, .int p320])), (q314, .inl (I .byte, 8192, .inl f321))]) (cs' := 0) (sl' := 0) rfl rfl rfl ?_
          refine G_istore (L' := [(4, .int (-1)), (3, .int g405), (2, .int g406), (0, .ref q312), (1, .int p315)]) d_cX9_skipBlanks_23 (Nat.le_of_ble_eq_true rfl) rfl ?_
          refine G_iload 0 d_cX9_skipBlanks_25 rfl ?_
          refine G_bipush 10 d_cX9_skipBlanks_27 (by decide +kernel) ?_
          refine G_icmp_eq 47 d_cX9_skipBlanks_29 (by decide +kernel) (fun hc => absurd hc (by decide)) (fun _ => ?_)
          refine G_iload_n 2 d_cX9_skipBlanks_32 rfl ?_
          refine G_if_ne 43 d_cX9_skipBlanks_33 (by decide +kernel) (fun hc421 => ?_) (fun hc421 => ?_)
          · have r422 : g406.toInt ≠ 0 := gj_neq hc421 (show Int32.toInt 0 = 0 by decide)
            have bg406' : gB g406 1 1 := ⟨by omega, by omega⟩
            refine G_iconst 1 d_cX9_skipBlanks_43 (by decide +kernel) ?_
            refine G_goto 48 d_cX9_skipBlanks_44 (by decide +kernel) ?_
            refine G_istore_n (L' := [(2, .int 1), (4, .int (-1)), (3, .int g405), (0, .ref q312), (1, .int p315)]) d_cX9_skipBlanks_48 (Nat.le_of_ble_eq_true rfl) rfl ?_
            refine G_iload_n 0 d_cX9_skipBlanks_49 rfl ?_
            refine G_if_ne 83 d_cX9_skipBlanks_50 (by decide +kernel) (fun _ => ?_) (fun hc => absurd hc (by decide))
            obtain ⟨z423, hz423⟩ : ∃ z : Int32, z = g405 + Int32.ofInt 1 := ⟨_, rfl⟩
            have ez423 : z423.toInt = g405.toInt + 1 := gI_inc hz423 (by decide) bg405'' (by decide) (by decide)
            have bz423 : gB z423 1 8192 := ⟨by omega, by omega⟩
            refine G_iinc (L' := [(3, .int z423), (2, .int 1), (4, .int (-1)), (0, .ref q312), (1, .int p315)]) z423 2 d_cX9_skipBlanks_83 rfl hz423.symm (Nat.le_of_ble_eq_true rfl) rfl ?_
            refine G_goto 4 d_cX9_skipBlanks_86 (by decide +kernel) ?_
            refine G_lv (L' := [(3, .int z423), (2, .int 1), (0, .ref q312), (1, .int p315)]) [0, 1, 3, 4] rfl ?_
            exact ih4_406 z423 1 (gB_w bz423 (by decide) (by decide)) (gB_w (gBl (show Int32.toInt 1 = 1 by decide)) (by decide) (by decide)) (by omega)
          · have r424 : g406.toInt = 0 := gj_eq hc421 (show Int32.toInt 0 = 0 by decide)
            have bg406' : gB g406 0 0 := ⟨by omega, by omega⟩
            refine G_iload 0 d_cX9_skipBlanks_36 rfl ?_
            refine G_bipush 59 d_cX9_skipBlanks_38 (by decide +kernel) ?_
            refine G_icmp_ne 47 d_cX9_skipBlanks_40 (by decide +kernel) (fun _ => ?_) (fun hc => absurd hc (by decide))
            refine G_iconst 0 d_cX9_skipBlanks_47 (by decide +kernel) ?_
            refine G_istore_n (L' := [(2, .int 0), (4, .int (-1)), (3, .int g405), (0, .ref q312), (1, .int p315)]) d_cX9_skipBlanks_48 (Nat.le_of_ble_eq_true rfl) rfl ?_
            refine G_iload_n 0 d_cX9_skipBlanks_49 rfl ?_
            refine G_if_ne 83 d_cX9_skipBlanks_50 (by decide +kernel) (fun hc => absurd hc (by decide)) (fun _ => ?_)
            refine G_iload 1 d_cX9_skipBlanks_53 rfl ?_
            refine G_bipush 9 d_cX9_skipBlanks_55 (by decide +kernel) ?_
            refine G_icmp_eq 83 d_cX9_skipBlanks_57 (by decide +kernel) (fun hc => absurd hc (by decide)) (fun _ => ?_)
            refine G_iload 1 d_cX9_skipBlanks_60 rfl ?_
            refine G_bipush 10 d_cX9_skipBlanks_62 (by decide +kernel) ?_
            refine G_icmp_eq 83 d_cX9_skipBlanks_64 (by decide +kernel) (fun hc => absurd hc (by decide)) (fun _ => ?_)
            refine G_iload 1 d_cX9_skipBlanks_67 rfl ?_
            refine G_bipush 13 d_cX9_skipBlanks_69 (by decide +kernel) ?_
            refine G_icmp_eq 83 d_cX9_skipBlanks_71 (by decide +kernel) (fun hc => absurd hc (by decide)) (fun _ => ?_)
            refine G_iload 1 d_cX9_skipBlanks_74 rfl ?_
            refine G_bipush 32 d_cX9_skipBlanks_76 (by decide +kernel) ?_
            refine G_icmp_eq 83 d_cX9_skipBlanks_78 (by decide +kernel) (fun hc => absurd hc (by decide)) (fun _ => ?_)
            refine G_iload_n 2 d_cX9_skipBlanks_81 rfl ?_
            exact G_iret d_cX9_skipBlanks_82 rfl (Nat.le_of_ble_eq_true rfl) (Nat.le_of_ble_eq_true rfl) ⟨g405, rfl, rfl, (gB_w bg405'' (by decide) (by decide))⟩
        · have bg405'' : gB g405 0 8191 := ⟨by omega, by omega⟩
          have bp320' : gB p320 1 8192 := ⟨by omega, by omega⟩
          change G _ _ _ _ _ _ _ (.int z413 :: _) _ _ _
          refine G_ws (ws' := [(q312, .inr (14, [.ref q313, .int p316, .int p317, .int p318, .int p319])), (q313, .inr (15, [.ref q314, .int p320])), (q314, .inl (I .byte, 8192, .inl f321))]) (cs' := 0) (sl' := 0) rfl rfl rfl ?_
          refine G_istore (L' := [(4, .int z413), (3, .int g405), (2, .int g406), (0, .ref q312), (1, .int p315)]) d_cX9_skipBlanks_23 (Nat.le_of_ble_eq_true rfl) rfl ?_
          refine G_iload 0 d_cX9_skipBlanks_25 rfl ?_
          refine G_bipush 10 d_cX9_skipBlanks_27 (by decide +kernel) ?_
          refine G_icmp_eq 47 d_cX9_skipBlanks_29 (by decide +kernel) (fun hc425 => ?_) (fun hc425 => ?_)
          · have r426 : z413.toInt = 10 := gj_eq hc425 (show Int32.toInt 10 = 10 by decide)
            have r416' : gB z413 10 10 := ⟨by omega, by omega⟩
            refine G_iconst 0 d_cX9_skipBlanks_47 (by decide +kernel) ?_
            refine G_istore_n (L' := [(2, .int 0), (4, .int z413), (3, .int g405), (0, .ref q312), (1, .int p315)]) d_cX9_skipBlanks_48 (Nat.le_of_ble_eq_true rfl) rfl ?_
            refine G_iload_n 0 d_cX9_skipBlanks_49 rfl ?_
            refine G_if_ne 83 d_cX9_skipBlanks_50 (by decide +kernel) (fun hc => absurd hc (by decide)) (fun _ => ?_)
            refine G_iload 1 d_cX9_skipBlanks_53 rfl ?_
            refine G_bipush 9 d_cX9_skipBlanks_55 (by decide +kernel) ?_
            refine G_icmp_eq 83 d_cX9_skipBlanks_57 (by decide +kernel) (fun hc => absurd (show False by have := gj_eq hc (show Int32.toInt 9 = 9 by decide); omega) not_false) (fun _ => ?_)
            refine G_iload 1 d_cX9_skipBlanks_60 rfl ?_
            refine G_bipush 10 d_cX9_skipBlanks_62 (by decide +kernel) ?_
            refine G_icmp_eq 83 d_cX9_skipBlanks_64 (by decide +kernel) (fun _ => ?_) (fun hc => absurd (show False by have := gj_neq hc (show Int32.toInt 10 = 10 by decide); omega) not_false)
            obtain ⟨z427, hz427⟩ : ∃ z : Int32, z = g405 + Int32.ofInt 1 := ⟨_, rfl⟩
            have ez427 : z427.toInt = g405.toInt + 1 := gI_inc hz427 (by decide) bg405'' (by decide) (by decide)
            have bz427 : gB z427 1 8192 := ⟨by omega, by omega⟩
            refine G_iinc (L' := [(3, .int z427), (2, .int 0), (4, .int z413), (0, .ref q312), (1, .int p315)]) z427 2 d_cX9_skipBlanks_83 rfl hz427.symm (Nat.le_of_ble_eq_true rfl) rfl ?_
            refine G_goto 4 d_cX9_skipBlanks_86 (by decide +kernel) ?_
            refine G_lv (L' := [(3, .int z427), (2, .int 0), (0, .ref q312), (1, .int p315)]) [0, 1, 3, 4] rfl ?_
            exact ih4_406 z427 0 (gB_w bz427 (by decide) (by decide)) (gB_w (gBl (show Int32.toInt 0 = 0 by decide)) (by decide) (by decide)) (by omega)
          · have r428 : z413.toInt ≠ 10 := gj_neq hc425 (show Int32.toInt 10 = 10 by decide)
            refine G_iload_n 2 d_cX9_skipBlanks_32 rfl ?_
            refine G_if_ne 43 d_cX9_skipBlanks_33 (by decide +kernel) (fun hc429 => ?_) (fun hc429 => ?_)
            · have r430 : g406.toInt ≠ 0 := gj_neq hc429 (show Int32.toInt 0 = 0 by decide)
              have bg406' : gB g406 1 1 := ⟨by omega, by omega⟩
              refine G_iconst 1 d_cX9_skipBlanks_43 (by decide +kernel) ?_
              refine G_goto 48 d_cX9_skipBlanks_44 (by decide +kernel) ?_
              refine G_istore_n (L' := [(2, .int 1), (4, .int z413), (3, .int g405), (0, .ref q312), (1, .int p315)]) d_cX9_skipBlanks_48 (Nat.le_of_ble_eq_true rfl) rfl ?_
              refine G_iload_n 0 d_cX9_skipBlanks_49 rfl ?_
              refine G_if_ne 83 d_cX9_skipBlanks_50 (by decide +kernel) (fun _ => ?_) (fun hc => absurd hc (by decide))
              obtain ⟨z431, hz431⟩ : ∃ z : Int32, z = g405 + Int32.ofInt 1 := ⟨_, rfl⟩
              have ez431 : z431.toInt = g405.toInt + 1 := gI_inc hz431 (by decide) bg405'' (by decide) (by decide)
              have bz431 : gB z431 1 8192 := ⟨by omega, by omega⟩
              refine G_iinc (L' := [(3, .int z431), (2, .int 1), (4, .int z413), (0, .ref q312), (1, .int p315)]) z431 2 d_cX9_skipBlanks_83 rfl hz431.symm (Nat.le_of_ble_eq_true rfl) rfl ?_
              refine G_goto 4 d_cX9_skipBlanks_86 (by decide +kernel) ?_
              refine G_lv (L' := [(3, .int z431), (2, .int 1), (0, .ref q312), (1, .int p315)]) [0, 1, 3, 4] rfl ?_
              exact ih4_406 z431 1 (gB_w bz431 (by decide) (by decide)) (gB_w (gBl (show Int32.toInt 1 = 1 by decide)) (by decide) (by decide)) (by omega)
            · have r432 : g406.toInt = 0 := gj_eq hc429 (show Int32.toInt 0 = 0 by decide)
              have bg406' : gB g406 0 0 := ⟨by omega, by omega⟩
              refine G_iload 0 d_cX9_skipBlanks_36 rfl ?_
              refine G_bipush 59 d_cX9_skipBlanks_38 (by decide +kernel) ?_
              refine G_icmp_ne 47 d_cX9_skipBlanks_40 (by decide +kernel) (fun hc433 => ?_) (fun hc433 => ?_)
              · have r434 : z413.toInt ≠ 59 := gj_neq hc433 (show Int32.toInt 59 = 59 by decide)
                refine G_iconst 0 d_cX9_skipBlanks_47 (by decide +kernel) ?_
                refine G_istore_n (L' := [(2, .int 0), (4, .int z413), (3, .int g405), (0, .ref q312), (1, .int p315)]) d_cX9_skipBlanks_48 (Nat.le_of_ble_eq_true rfl) rfl ?_
                refine G_iload_n 0 d_cX9_skipBlanks_49 rfl ?_
                refine G_if_ne 83 d_cX9_skipBlanks_50 (by decide +kernel) (fun hc => absurd hc (by decide)) (fun _ => ?_)
                refine G_iload 1 d_cX9_skipBlanks_53 rfl ?_
                refine G_bipush 9 d_cX9_skipBlanks_55 (by decide +kernel) ?_
                refine G_icmp_eq 83 d_cX9_skipBlanks_57 (by decide +kernel) (fun hc435 => ?_) (fun hc435 => ?_)
                · have r436 : z413.toInt = 9 := gj_eq hc435 (show Int32.toInt 9 = 9 by decide)
                  have r416' : gB z413 9 9 := ⟨by omega, by omega⟩
                  obtain ⟨z437, hz437⟩ : ∃ z : Int32, z = g405 + Int32.ofInt 1 := ⟨_, rfl⟩
                  have ez437 : z437.toInt = g405.toInt + 1 := gI_inc hz437 (by decide) bg405'' (by decide) (by decide)
                  have bz437 : gB z437 1 8192 := ⟨by omega, by omega⟩
                  refine G_iinc (L' := [(3, .int z437), (2, .int 0), (4, .int z413), (0, .ref q312), (1, .int p315)]) z437 2 d_cX9_skipBlanks_83 rfl hz437.symm (Nat.le_of_ble_eq_true rfl) rfl ?_
                  refine G_goto 4 d_cX9_skipBlanks_86 (by decide +kernel) ?_
                  refine G_lv (L' := [(3, .int z437), (2, .int 0), (0, .ref q312), (1, .int p315)]) [0, 1, 3, 4] rfl ?_
                  exact ih4_406 z437 0 (gB_w bz437 (by decide) (by decide)) (gB_w (gBl (show Int32.toInt 0 = 0 by decide)) (by decide) (by decide)) (by omega)
                · have r438 : z413.toInt ≠ 9 := gj_neq hc435 (show Int32.toInt 9 = 9 by decide)
                  refine G_iload 1 d_cX9_skipBlanks_60 rfl ?_
                  refine G_bipush 10 d_cX9_skipBlanks_62 (by decide +kernel) ?_
                  refine G_icmp_eq 83 d_cX9_skipBlanks_64 (by decide +kernel) (fun hc439 => ?_) (fun hc439 => ?_)
                  · have r440 : z413.toInt = 10 := gj_eq hc439 (show Int32.toInt 10 = 10 by decide)
                    have r416' : gB z413 10 10 := ⟨by omega, by omega⟩
                    obtain ⟨z441, hz441⟩ : ∃ z : Int32, z = g405 + Int32.ofInt 1 := ⟨_, rfl⟩
                    have ez441 : z441.toInt = g405.toInt + 1 := gI_inc hz441 (by decide) bg405'' (by decide) (by decide)
                    have bz441 : gB z441 1 8192 := ⟨by omega, by omega⟩
                    refine G_iinc (L' := [(3, .int z441), (2, .int 0), (4, .int z413), (0, .ref q312), (1, .int p315)]) z441 2 d_cX9_skipBlanks_83 rfl hz441.symm (Nat.le_of_ble_eq_true rfl) rfl ?_
                    refine G_goto 4 d_cX9_skipBlanks_86 (by decide +kernel) ?_
                    refine G_lv (L' := [(3, .int z441), (2, .int 0), (0, .ref q312), (1, .int p315)]) [0, 1, 3, 4] rfl ?_
                    exact ih4_406 z441 0 (gB_w bz441 (by decide) (by decide)) (gB_w (gBl (show Int32.toInt 0 = 0 by decide)) (by decide) (by decide)) (by omega)
                  · have r442 : z413.toInt ≠ 10 := gj_neq hc439 (show Int32.toInt 10 = 10 by decide)
                    refine G_iload 1 d_cX9_skipBlanks_67 rfl ?_
                    refine G_bipush 13 d_cX9_skipBlanks_69 (by decide +kernel) ?_
                    refine G_icmp_eq 83 d_cX9_skipBlanks_71 (by decide +kernel) (fun hc443 => ?_) (fun hc443 => ?_)
                    · have r444 : z413.toInt = 13 := gj_eq hc443 (show Int32.toInt 13 = 13 by decide)
                      have r416' : gB z413 13 13 := ⟨by omega, by omega⟩
                      obtain ⟨z445, hz445⟩ : ∃ z : Int32, z = g405 + Int32.ofInt 1 := ⟨_, rfl⟩
                      have ez445 : z445.toInt = g405.toInt + 1 := gI_inc hz445 (by decide) bg405'' (by decide) (by decide)
                      have bz445 : gB z445 1 8192 := ⟨by omega, by omega⟩
                      refine G_iinc (L' := [(3, .int z445), (2, .int 0), (4, .int z413), (0, .ref q312), (1, .int p315)]) z445 2 d_cX9_skipBlanks_83 rfl hz445.symm (Nat.le_of_ble_eq_true rfl) rfl ?_
                      refine G_goto 4 d_cX9_skipBlanks_86 (by decide +kernel) ?_
                      refine G_lv (L' := [(3, .int z445), (2, .int 0), (0, .ref q312), (1, .int p315)]) [0, 1, 3, 4] rfl ?_
                      exact ih4_406 z445 0 (gB_w bz445 (by decide) (by decide)) (gB_w (gBl (show Int32.toInt 0 = 0 by decide)) (by decide) (by decide)) (by omega)
                    · have r446 : z413.toInt ≠ 13 := gj_neq hc443 (show Int32.toInt 13 = 13 by decide)
                      refine G_iload 1 d_cX9_skipBlanks_74 rfl ?_
                      refine G_bipush 32 d_cX9_skipBlanks_76 (by decide +kernel) ?_
                      refine G_icmp_eq 83 d_cX9_skipBlanks_78 (by decide +kernel) (fun hc447 => ?_) (fun hc447 => ?_)
                      · have r448 : z413.toInt = 32 := gj_eq hc447 (show Int32.toInt 32 = 32 by decide)
                        have r416' : gB z413 32 32 := ⟨by omega, by omega⟩
                        obtain ⟨z449, hz449⟩ : ∃ z : Int32, z = g405 + Int32.ofInt 1 := ⟨_, rfl⟩
                        have ez449 : z449.toInt = g405.toInt + 1 := gI_inc hz449 (by decide) bg405'' (by decide) (by decide)
                        have bz449 : gB z449 1 8192 := ⟨by omega, by omega⟩
                        refine G_iinc (L' := [(3, .int z449), (2, .int 0), (4, .int z413), (0, .ref q312), (1, .int p315)]) z449 2 d_cX9_skipBlanks_83 rfl hz449.symm (Nat.le_of_ble_eq_true rfl) rfl ?_
                        refine G_goto 4 d_cX9_skipBlanks_86 (by decide +kernel) ?_
                        refine G_lv (L' := [(3, .int z449), (2, .int 0), (0, .ref q312), (1, .int p315)]) [0, 1, 3, 4] rfl ?_
                        exact ih4_406 z449 0 (gB_w bz449 (by decide) (by decide)) (gB_w (gBl (show Int32.toInt 0 = 0 by decide)) (by decide) (by decide)) (by omega)
                      · have r450 : z413.toInt ≠ 32 := gj_neq hc447 (show Int32.toInt 32 = 32 by decide)
                        refine G_iload_n 2 d_cX9_skipBlanks_81 rfl ?_
                        exact G_iret d_cX9_skipBlanks_82 rfl (Nat.le_of_ble_eq_true rfl) (Nat.le_of_ble_eq_true rfl) ⟨g405, rfl, rfl, (gB_w bg405'' (by decide) (by decide))⟩
              · have r451 : z413.toInt = 59 := gj_eq hc433 (show Int32.toInt 59 = 59 by decide)
                have r416' : gB z413 59 59 := ⟨by omega, by omega⟩
                refine G_iconst 1 d_cX9_skipBlanks_43 (by decide +kernel) ?_
                refine G_goto 48 d_cX9_skipBlanks_44 (by decide +kernel) ?_
                refine G_istore_n (L' := [(2, .int 1), (4, .int z413), (3, .int g405), (0, .ref q312), (1, .int p315)]) d_cX9_skipBlanks_48 (Nat.le_of_ble_eq_true rfl) rfl ?_
                refine G_iload_n 0 d_cX9_skipBlanks_49 rfl ?_
                refine G_if_ne 83 d_cX9_skipBlanks_50 (by decide +kernel) (fun _ => ?_) (fun hc => absurd hc (by decide))
                obtain ⟨z452, hz452⟩ : ∃ z : Int32, z = g405 + Int32.ofInt 1 := ⟨_, rfl⟩
                have ez452 : z452.toInt = g405.toInt + 1 := gI_inc hz452 (by decide) bg405'' (by decide) (by decide)
                have bz452 : gB z452 1 8192 := ⟨by omega, by omega⟩
                refine G_iinc (L' := [(3, .int z452), (2, .int 1), (4, .int z413), (0, .ref q312), (1, .int p315)]) z452 2 d_cX9_skipBlanks_83 rfl hz452.symm (Nat.le_of_ble_eq_true rfl) rfl ?_
                refine G_goto 4 d_cX9_skipBlanks_86 (by decide +kernel) ?_
                refine G_lv (L' := [(3, .int z452), (2, .int 1), (0, .ref q312), (1, .int p315)]) [0, 1, 3, 4] rfl ?_
                exact ih4_406 z452 1 (gB_w bz452 (by decide) (by decide)) (gB_w (gBl (show Int32.toInt 1 = 1 by decide)) (by decide) (by decide)) (by omega)
  exact hlp4_406 (((2147483648 : Int) - p315.toInt).toNat + 1) p315 0 bp315 (gB_w (gBl (show Int32.toInt 0 = 0 by decide)) (by decide) (by decide)) (Nat.lt_succ_self _)
abbrev ky_503_Math_min : gKey := (cJ9_min_f86c9, 4, yJ9_min_f86c9.cls, (some FieldType.long), [], yJ9_min_f86c9.name, fun _ _ => True)
abbrev po_503_Math_min (I : FieldType → ClassId) (pl501 : Int64) (pl502 : Int64) : Option Value → va_W → Prop := fun r w => ∃ (ol508 : Int64), r = some (.long ol508) ∧ w = []
set_option maxRecDepth 100000 in
set_option maxHeartbeats 4000000 in
theorem ct_503_Math_min (l : Launch) (hl0 : l.stackTraces = false) (D : va_G) (I : FieldType → ClassId) (pl501 : Int64) (pl502 : Int64)  : Ct (gV D I) l yJ9_min_f86c9 cJ9_min_f86c9 4 (some FieldType.long) 0 0 0 0 [.long pl501, .long pl502] [] (po_503_Math_min I pl501 pl502) gN := by
  refine Ct_ofF hl0 (by decide +kernel) (Nat.le_of_ble_eq_true rfl) ?_
  refine G_lload_n 0 d_cJ9_min_f86c9_0 rfl ?_
  refine G_lload_n 1 d_cJ9_min_f86c9_1 rfl ?_
  refine G_lcmp d_cJ9_min_f86c9_2 (G_nam fun z504 hz504 => ?_)
  have bz504 : gB z504 (-1) 1 := gB_cmp hz504
  refine G_if_gt 10 d_cJ9_min_f86c9_3 (by decide +kernel) (fun hc505 => ?_) (fun hc505 => ?_)
  · have r506 : 0 < z504.toInt := gj_ltL hc505 (show Int32.toInt 0 = 0 by decide)
    have bz504' : gB z504 1 1 := ⟨by omega, by omega⟩
    refine G_lload_n 1 d_cJ9_min_f86c9_10 rfl ?_
    exact G_lret d_cJ9_min_f86c9_11 rfl (Nat.le_of_ble_eq_true rfl) (Nat.le_of_ble_eq_true rfl) ⟨pl502, rfl, rfl⟩
  · have r507 : z504.toInt ≤ 0 := gj_nltL hc505 (show Int32.toInt 0 = 0 by decide)
    have bz504' : gB z504 (-1) 0 := ⟨by omega, by omega⟩
    refine G_lload_n 0 d_cJ9_min_f86c9_6 rfl ?_
    refine G_goto 11 d_cJ9_min_f86c9_7 (by decide +kernel) ?_
    exact G_lret d_cJ9_min_f86c9_11 rfl (Nat.le_of_ble_eq_true rfl) (Nat.le_of_ble_eq_true rfl) ⟨pl501, rfl, rfl⟩
abbrev ky_464_Signs_takeDigits : gKey := (cX9_takeDigits, 5, yX9_takeDigits.cls, (some FieldType.long), [], yX9_takeDigits.name, fun _ _ => True)
abbrev po_464_Signs_takeDigits (I : FieldType → ClassId) (q454 : Nat) (q455 : Nat) (q456 : Nat) (p457 : Int32) (p458 : Int32) (p459 : Int32) (p460 : Int32) (p461 : Int32) (p462 : Int32) (f463 : Nat → Int32) : Option Value → va_W → Prop := fun r w => ∃ (ol607 : Int64) (o606 : Int32), r = some (.long ol607) ∧ w = [(q454, .inr (14, [.ref q455, .int p458, .int p459, .int p460, .int o606])), (q455, .inr (15, [.ref q456, .int p462])), (q456, .inl (I .byte, 8192, .inl f463))] ∧ gB o606 (-2147483648) 2147483647
set_option maxRecDepth 100000 in
set_option maxHeartbeats 4000000 in
theorem ct_464_Signs_takeDigits (l : Launch) (hl0 : l.stackTraces = false) (D : va_G) (I : FieldType → ClassId) (q454 : Nat) (q455 : Nat) (q456 : Nat) (p457 : Int32) (p458 : Int32) (p459 : Int32) (p460 : Int32) (p461 : Int32) (p462 : Int32) (f463 : Nat → Int32) (bp462 : gB p462 0 8192) (bf463 : gF f463 (-128) 127) : Ct (gV D I) l yX9_takeDigits cX9_takeDigits 5 (some FieldType.long) 1 23 0 0 [.ref q454, .int p457] [(q454, .inr (14, [.ref q455, .int p458, .int p459, .int p460, .int p461])), (q455, .inr (15, [.ref q456, .int p462])), (q456, .inl (I .byte, 8192, .inl f463))] (po_464_Signs_takeDigits I q454 q455 q456 p457 p458 p459 p460 p461 p462 f463) gN := by
  refine Ct_of hl0 (by decide) (Nat.le_of_ble_eq_true rfl) ?_
  have bp457 := gB_any p457
  have bp458 := gB_any p458
  have bp459 := gB_any p459
  have bp460 := gB_any p460
  have bp461 := gB_any p461
  refine G_lconst 0 d_cX9_takeDigits_0 rfl ?_
  refine G_lstore_n (L' := [(2, .long 0), (0, .ref q454), (1, .int p457)]) d_cX9_takeDigits_1 (Nat.le_of_ble_eq_true rfl) rfl ?_
  refine G_iload_n 2 d_cX9_takeDigits_2 rfl ?_
  refine G_istore (L' := [(4, .int p457), (2, .long 0), (0, .ref q454), (1, .int p457)]) d_cX9_takeDigits_3 (Nat.le_of_ble_eq_true rfl) rfl ?_
  have hlp5_562 : ∀ (n5_562 : Nat) (g561 : Int32) (gl562 : Int64), gB g561 (-2147483648) 2147483647 → ((2147483648 : Int) - g561.toInt).toNat < n5_562 → G (gV D I) l (gRm 1 23 0 0) (gM (gV D I) (po_464_Signs_takeDigits I q454 q455 q456 p457 p458 p459 p460 p461 p462 f463) gN 0 0) ky_464_Signs_takeDigits 5 [(4, .int g561), (2, .long gl562), (0, .ref q454), (1, .int p457)] [] [(q454, .inr (14, [.ref q455, .int p458, .int p459, .int p460, .int p461])), (q455, .inr (15, [.ref q456, .int p462])), (q456, .inl (I .byte, 8192, .inl f463))] 0 0 := by
    intro n5_562
    induction n5_562 with
    | zero => intro g561 gl562 bg561 hm5_562; exact absurd hm5_562 (Nat.not_lt_zero _)
    | succ n5_562 ih5_562 =>
      intro g561 gl562 bg561 hm5_562
      refine G_iload 0 d_cX9_takeDigits_5 rfl ?_
      refine G_aload_n 2 d_cX9_takeDigits_7 rfl ?_
      refine G_getf 0 0 d_cX9_takeDigits_8 rfl (gk_X9 D I) (Nat.le_of_ble_eq_true rfl) w_1_79 rfl ?_
      refine G_callV (As := []) (wr := [(q454, .inr (14, [.ref q455, .int p458, .int p459, .int p460, .int p461]))]) (gV_ok D I) (ct_5_Tape_size l hl0 D I q455 q456 p462 f463 bp462 bf463) d_cX9_takeDigits_11 ⟨w_3_16, w_1_2, w_3_19, by decide, rfl, (Nat.le_of_ble_eq_true rfl), (Nat.le_of_ble_eq_true rfl)⟩ w_3_17 w_3_18 1 rfl rfl [1, 2] [0] rfl rfl rfl rfl (by decide) (Nat.le_of_ble_eq_true rfl) (Nat.le_of_ble_eq_true rfl) (Nat.le_of_ble_eq_true rfl) (fun r w hp => ?_) (fun _ _ _ z => z.elim)
      obtain ⟨rfl, rfl⟩ := hp
      change G _ _ _ _ _ _ _ (.int p462 :: _) _ _ _
      refine G_ws (ws' := [(q454, .inr (14, [.ref q455, .int p458, .int p459, .int p460, .int p461])), (q455, .inr (15, [.ref q456, .int p462])), (q456, .inl (I .byte, 8192, .inl f463))]) (cs' := 0) (sl' := 0) rfl rfl rfl ?_
      refine G_icmp_ge 65 d_cX9_takeDigits_14 (by decide +kernel) (fun hc563 => ?_) (fun hc563 => ?_)
      · have r564 : p462.toInt ≤ g561.toInt := gC_le hc563
        have bg561' : gB g561 0 2147483647 := ⟨by omega, by omega⟩
        refine G_aload_n 2 d_cX9_takeDigits_65 rfl ?_
        refine G_iload 0 d_cX9_takeDigits_66 rfl ?_
        refine G_putf (ws' := [(q454, .inr (14, [.ref q455, .int p458, .int p459, .int p460, .int g561])), (q455, .inr (15, [.ref q456, .int p462])), (q456, .inl (I .byte, 8192, .inl f463))]) 0 4 d_cX9_takeDigits_68 rfl (gk_X9 D I) (Nat.le_of_ble_eq_true rfl) w_1_83 rfl rfl rfl (Nat.le_of_ble_eq_true rfl) rfl ?_
        refine G_lload_n 1 d_cX9_takeDigits_71 rfl ?_
        exact G_lret d_cX9_takeDigits_72 rfl (Nat.le_of_ble_eq_true rfl) (Nat.le_of_ble_eq_true rfl) ⟨gl562, g561, rfl, rfl, (gB_w bg561' (by decide) (by decide))⟩
      · have r565 : g561.toInt < p462.toInt := gC_nle hc563
        have bg561' : gB g561 (-2147483648) 8191 := ⟨by omega, by omega⟩
        refine G_aload_n 2 d_cX9_takeDigits_17 rfl ?_
        refine G_getf 0 0 d_cX9_takeDigits_18 rfl (gk_X9 D I) (Nat.le_of_ble_eq_true rfl) w_1_79 rfl ?_
        refine G_iload 0 d_cX9_takeDigits_21 rfl ?_
        refine G_callV (As := [.int g561]) (wr := [(q454, .inr (14, [.ref q455, .int p458, .int p459, .int p460, .int p461]))]) (gV_ok D I) (ct_30_Tape_byteAt l hl0 D I q455 q456 g561 p462 f463 bp462 bf463) d_cX9_takeDigits_23 ⟨w_3_20, w_1_2, w_3_23, by decide, rfl, (Nat.le_of_ble_eq_true rfl), (Nat.le_of_ble_eq_true rfl)⟩ w_3_21 w_3_22 1 rfl rfl [1, 2] [0] rfl rfl rfl rfl (by decide) (Nat.le_of_ble_eq_true rfl) (Nat.le_of_ble_eq_true rfl) (Nat.le_of_ble_eq_true rfl) (fun r w hp => ?_) (fun _ _ _ z => z.elim)
        rcases hp with ⟨rfl, rfl, r566⟩ | ⟨rfl, rfl, r567, r568⟩ | ⟨z569, rfl, rfl, r570, r571, r572⟩
        · have bg561'' : gB g561 (-2147483648) (-1) := ⟨by omega, by omega⟩
          change G _ _ _ _ _ _ _ (.int (-1) :: _) _ _ _
          refine G_ws (ws' := [(q454, .inr (14, [.ref q455, .int p458, .int p459, .int p460, .int p461])), (q455, .inr (15, [.ref q456, .int p462])), (q456, .inl (I .byte, 8192, .inl f463))]) (cs' := 0) (sl' := 0) rfl rfl rfl ?_
          refine G_callS (As := [.int (-1)]) (wr := [(q454, .inr (14, [.ref q455, .int p458, .int p459, .int p460, .int p461])), (q455, .inr (15, [.ref q456, .int p462])), (q456, .inl (I .byte, 8192, .inl f463))]) (gV_ok D I) (ct_297_Signs_isDigit l hl0 D I (-1) ) d_cX9_takeDigits_26 ⟨w_3_24, w_1_4, w_3_26, by decide, rfl, (Nat.le_of_ble_eq_true rfl), (Nat.le_of_ble_eq_true rfl)⟩ w_3_25 [] [0, 1, 2] rfl rfl rfl rfl (by decide) (Nat.le_of_ble_eq_true rfl) (Nat.le_of_ble_eq_true rfl) (Nat.le_of_ble_eq_true rfl) (fun r w hp => ?_) (fun _ _ _ z => z.elim)
          rcases hp with ⟨rfl, rfl, r573⟩ | ⟨rfl, rfl, r574, r575⟩ | ⟨rfl, rfl, r576, r577⟩
          · rw [show Int32.toInt (-1) = (-1) from by decide] at r573
            change G _ _ _ _ _ _ _ (.int 0 :: _) _ _ _
            refine G_ws (ws' := [(q454, .inr (14, [.ref q455, .int p458, .int p459, .int p460, .int p461])), (q455, .inr (15, [.ref q456, .int p462])), (q456, .inl (I .byte, 8192, .inl f463))]) (cs' := 0) (sl' := 0) rfl rfl rfl ?_
            refine G_if_eq 65 d_cX9_takeDigits_29 (by decide +kernel) (fun _ => ?_) (fun hc => absurd hc (by decide))
            refine G_aload_n 2 d_cX9_takeDigits_65 rfl ?_
            refine G_iload 0 d_cX9_takeDigits_66 rfl ?_
            refine G_putf (ws' := [(q454, .inr (14, [.ref q455, .int p458, .int p459, .int p460, .int g561])), (q455, .inr (15, [.ref q456, .int p462])), (q456, .inl (I .byte, 8192, .inl f463))]) 0 4 d_cX9_takeDigits_68 rfl (gk_X9 D I) (Nat.le_of_ble_eq_true rfl) w_1_83 rfl rfl rfl (Nat.le_of_ble_eq_true rfl) rfl ?_
            refine G_lload_n 1 d_cX9_takeDigits_71 rfl ?_
            exact G_lret d_cX9_takeDigits_72 rfl (Nat.le_of_ble_eq_true rfl) (Nat.le_of_ble_eq_true rfl) ⟨gl562, g561, rfl, rfl, (gB_w bg561'' (by decide) (by decide))⟩
          · rw [show Int32.toInt (-1) = (-1) from by decide] at r574
            exact absurd (show False by omega) not_false
          · rw [show Int32.toInt (-1) = (-1) from by decide] at r576
            exact absurd (show False by omega) not_false
        · have bg561'' : gB g561 0 8191 := ⟨by omega, by omega⟩
          have bp462' : gB p462 0 8191 := ⟨by omega, by omega⟩
          change G _ _ _ _ _ _ _ (.int (-1) :: _) _ _ _
          refine G_ws (ws' := [(q454, .inr (14, [.ref q455, .int p458, .int p459, .int p460, .int p461])), (q455, .inr (15, [.ref q456, .int p462])), (q456, .inl (I .byte, 8192, .inl f463))]) (cs' := 0) (sl' := 0) rfl rfl rfl ?_
          refine G_callS (As := [.int (-1)]) (wr := [(q454, .inr (14, [.ref q455, .int p458, .int p459, .int p460, .int p461])), (q455, .inr (15, [.ref q456, .int p462])), (q456, .inl (I .byte, 8192, .inl f463))]) (gV_ok D I) (ct_297_Signs_isDigit l hl0 D I (-1) ) d_cX9_takeDigits_26 ⟨w_3_24, w_1_4, w_3_26, by decide, rfl, (Nat.le_of_ble_eq_true rfl), (Nat.le_of_ble_eq_true rfl)⟩ w_3_25 [] [0, 1, 2] rfl rfl rfl rfl (by decide) (Nat.le_of_ble_eq_true rfl) (Nat.le_of_ble_eq_true rfl) (Nat.le_of_ble_eq_true rfl) (fun r w hp => ?_) (fun _ _ _ z => z.elim)
          rcases hp with ⟨rfl, rfl, r578⟩ | ⟨rfl, rfl, r579, r580⟩ | ⟨rfl, rfl, r581, r582⟩
          · rw [show Int32.toInt (-1) = (-1) from by decide] at r578
            change G _ _ _ _ _ _ _ (.int 0 :: _) _ _ _
            refine G_ws (ws' := [(q454, .inr (14, [.ref q455, .int p458, .int p459, .int p460, .int p461])), (q455, .inr (15, [.ref q456, .int p462])), (q456, .inl (I .byte, 8192, .inl f463))]) (cs' := 0) (sl' := 0) rfl rfl rfl ?_
            refine G_if_eq 65 d_cX9_takeDigits_29 (by decide +kernel) (fun _ => ?_) (fun hc => absurd hc (by decide))
            refine G_aload_n 2 d_cX9_takeDigits_65 rfl ?_
            refine G_iload 0 d_cX9_takeDigits_66 rfl ?_
            refine G_putf (ws' := [(q454, .inr (14, [.ref q455, .int p458, .int p459, .int p460, .int g561])), (q455, .inr (15, [.ref q456, .int p462])), (q456, .inl (I .byte, 8192, .inl f463))]) 0 4 d_cX9_takeDigits_68 rfl (gk_X9 D I) (Nat.le_of_ble_eq_true rfl) w_1_83 rfl rfl rfl (Nat.le_of_ble_eq_true rfl) rfl ?_
            refine G_lload_n 1 d_cX9_takeDigits_71 rfl ?_
            exact G_lret d_cX9_takeDigits_72 rfl (Nat.le_of_ble_eq_true rfl) (Nat.le_of_ble_eq_true rfl) ⟨gl562, g561, rfl, rfl, (gB_w bg561'' (by decide) (by decide))⟩
          · rw [show Int32.toInt (-1) = (-1) from by decide] at r579
            exact absurd (show False by omega) not_false
          · rw [show Int32.toInt (-1) = (-1) from by decide] at r581
            exact absurd (show False by omega) not_false
        · have bg561'' : gB g561 0 8191 := ⟨by omega, by omega⟩
          have bp462' : gB p462 1 8192 := ⟨by omega, by omega⟩
          change G _ _ _ _ _ _ _ (.int z569 :: _) _ _ _
          refine G_ws (ws' := [(q454, .inr (14, [.ref q455, .int p458, .int p459, .int p460, .int p461])), (q455, .inr (15, [.ref q456, .int p462])), (q456, .inl (I .byte, 8192, .inl f463))]) (cs' := 0) (sl' := 0) rfl rfl rfl ?_
          refine G_callS (As := [.int z569]) (wr := [(q454, .inr (14, [.ref q455, .int p458, .int p459, .int p460, .int p461])), (q455, .inr (15, [.ref q456, .int p462])), (q456, .inl (I .byte, 8192, .inl f463))]) (gV_ok D I) (ct_297_Signs_isDigit l hl0 D I z569 ) d_cX9_takeDigits_26 ⟨w_3_24, w_1_4, w_3_26, by decide, rfl, (Nat.le_of_ble_eq_true rfl), (Nat.le_of_ble_eq_true rfl)⟩ w_3_25 [] [0, 1, 2] rfl rfl rfl rfl (by decide) (Nat.le_of_ble_eq_true rfl) (Nat.le_of_ble_eq_true rfl) (Nat.le_of_ble_eq_true rfl) (fun r w hp => ?_) (fun _ _ _ z => z.elim)
          rcases hp with ⟨rfl, rfl, r583⟩ | ⟨rfl, rfl, r584, r585⟩ | ⟨rfl, rfl, r586, r587⟩
          · have r572' : gB z569 0 47 := ⟨by omega, by omega⟩
            change G _ _ _ _ _ _ _ (.int 0 :: _) _ _ _
            refine G_ws (ws' := [(q454, .inr (14, [.ref q455, .int p458, .int p459, .int p460, .int p461])), (q455, .inr (15, [.ref q456, .int p462])), (q456, .inl (I .byte, 8192, .inl f463))]) (cs' := 0) (sl' := 0) rfl rfl rfl ?_
            refine G_if_eq 65 d_cX9_takeDigits_29 (by decide +kernel) (fun _ => ?_) (fun hc => absurd hc (by decide))
            refine G_aload_n 2 d_cX9_takeDigits_65 rfl ?_
            refine G_iload 0 d_cX9_takeDigits_66 rfl ?_
            refine G_putf (ws' := [(q454, .inr (14, [.ref q455, .int p458, .int p459, .int p460, .int g561])), (q455, .inr (15, [.ref q456, .int p462])), (q456, .inl (I .byte, 8192, .inl f463))]) 0 4 d_cX9_takeDigits_68 rfl (gk_X9 D I) (Nat.le_of_ble_eq_true rfl) w_1_83 rfl rfl rfl (Nat.le_of_ble_eq_true rfl) rfl ?_
            refine G_lload_n 1 d_cX9_takeDigits_71 rfl ?_
            exact G_lret d_cX9_takeDigits_72 rfl (Nat.le_of_ble_eq_true rfl) (Nat.le_of_ble_eq_true rfl) ⟨gl562, g561, rfl, rfl, (gB_w bg561'' (by decide) (by decide))⟩
          · have r572' : gB z569 48 255 := ⟨by omega, by omega⟩
            have r572'' : gB z569 58 255 := ⟨by omega, by omega⟩
            change G _ _ _ _ _ _ _ (.int 0 :: _) _ _ _
            refine G_ws (ws' := [(q454, .inr (14, [.ref q455, .int p458, .int p459, .int p460, .int p461])), (q455, .inr (15, [.ref q456, .int p462])), (q456, .inl (I .byte, 8192, .inl f463))]) (cs' := 0) (sl' := 0) rfl rfl rfl ?_
            refine G_if_eq 65 d_cX9_takeDigits_29 (by decide +kernel) (fun _ => ?_) (fun hc => absurd hc (by decide))
            refine G_aload_n 2 d_cX9_takeDigits_65 rfl ?_
            refine G_iload 0 d_cX9_takeDigits_66 rfl ?_
            refine G_putf (ws' := [(q454, .inr (14, [.ref q455, .int p458, .int p459, .int p460, .int g561])), (q455, .inr (15, [.ref q456, .int p462])), (q456, .inl (I .byte, 8192, .inl f463))]) 0 4 d_cX9_takeDigits_68 rfl (gk_X9 D I) (Nat.le_of_ble_eq_true rfl) w_1_83 rfl rfl rfl (Nat.le_of_ble_eq_true rfl) rfl ?_
            refine G_lload_n 1 d_cX9_takeDigits_71 rfl ?_
            exact G_lret d_cX9_takeDigits_72 rfl (Nat.le_of_ble_eq_true rfl) (Nat.le_of_ble_eq_true rfl) ⟨gl562, g561, rfl, rfl, (gB_w bg561'' (by decide) (by decide))⟩
          · have r572' : gB z569 48 255 := ⟨by omega, by omega⟩
            have r572'' : gB z569 48 57 := ⟨by omega, by omega⟩
            change G _ _ _ _ _ _ _ (.int 1 :: _) _ _ _
            refine G_ws (ws' := [(q454, .inr (14, [.ref q455, .int p458, .int p459, .int p460, .int p461])), (q455, .inr (15, [.ref q456, .int p462])), (q456, .inl (I .byte, 8192, .inl f463))]) (cs' := 0) (sl' := 0) rfl rfl rfl ?_
            refine G_if_eq 65 d_cX9_takeDigits_29 (by decide +kernel) (fun hc => absurd hc (by decide)) (fun _ => ?_)
            refine G_lload_n 1 d_cX9_takeDigits_32 rfl ?_
            refine G_ldc2 10 d_cX9_takeDigits_33 w_3_35 ?_
            refine G_lmul d_cX9_takeDigits_36 (G_namL fun u588 hu588 => ?_)
            refine G_aload_n 2 d_cX9_takeDigits_37 rfl ?_
            refine G_getf 0 0 d_cX9_takeDigits_38 rfl (gk_X9 D I) (Nat.le_of_ble_eq_true rfl) w_1_79 rfl ?_
            refine G_iload 0 d_cX9_takeDigits_41 rfl ?_
            refine G_callV (As := [.int g561]) (wr := [(q454, .inr (14, [.ref q455, .int p458, .int p459, .int p460, .int p461]))]) (gV_ok D I) (ct_30_Tape_byteAt l hl0 D I q455 q456 g561 p462 f463 (gB_w bp462' (by decide) (by decide)) bf463) d_cX9_takeDigits_43 ⟨w_3_20, w_1_2, w_3_23, by decide, rfl, (Nat.le_of_ble_eq_true rfl), (Nat.le_of_ble_eq_true rfl)⟩ w_3_21 w_3_22 1 rfl rfl [1, 2] [0] rfl rfl rfl rfl (by decide) (Nat.le_of_ble_eq_true rfl) (Nat.le_of_ble_eq_true rfl) (Nat.le_of_ble_eq_true rfl) (fun r w hp => ?_) (fun _ _ _ z => z.elim)
            rcases hp with ⟨rfl, rfl, r589⟩ | ⟨rfl, rfl, r590, r591⟩ | ⟨z592, rfl, rfl, r593, r594, r595⟩
            · exact absurd (show False by omega) not_false
            · have bp462'' : gB p462 1 8191 := ⟨by omega, by omega⟩
              have bg561''' : gB g561 1 8191 := ⟨by omega, by omega⟩
              change G _ _ _ _ _ _ _ (.int (-1) :: _) _ _ _
              refine G_ws (ws' := [(q454, .inr (14, [.ref q455, .int p458, .int p459, .int p460, .int p461])), (q455, .inr (15, [.ref q456, .int p462])), (q456, .inl (I .byte, 8192, .inl f463))]) (cs' := 0) (sl' := 0) rfl rfl rfl ?_
              refine G_i2l d_cX9_takeDigits_46 (G_namL fun u596 hu596 => ?_)
              refine G_ladd d_cX9_takeDigits_47 (G_namL fun u597 hu597 => ?_)
              refine G_ldc2 48 d_cX9_takeDigits_48 w_3_36 ?_
              refine G_lsub d_cX9_takeDigits_51 (G_namL fun u598 hu598 => ?_)
              refine G_ldc2 1099511627776 d_cX9_takeDigits_52 w_3_37 ?_
              refine G_callS (As := [.long u598, .long 1099511627776]) (wr := [(q454, .inr (14, [.ref q455, .int p458, .int p459, .int p460, .int p461])), (q455, .inr (15, [.ref q456, .int p462])), (q456, .inl (I .byte, 8192, .inl f463))]) (gV_ok D I) (ct_503_Math_min l hl0 D I u598 1099511627776 ) d_cX9_takeDigits_55 ⟨w_3_38, w_1_6, w_3_40, by decide, rfl, (Nat.le_of_ble_eq_true rfl), (Nat.le_of_ble_eq_true rfl)⟩ w_3_39 [] [0, 1, 2] rfl rfl rfl rfl (by decide) (Nat.le_of_ble_eq_true rfl) (Nat.le_of_ble_eq_true rfl) (Nat.le_of_ble_eq_true rfl) (fun r w hp => ?_) (fun _ _ _ z => z.elim)
              obtain ⟨ol599, rfl, rfl⟩ := hp
              change G _ _ _ _ _ _ _ (.long ol599 :: _) _ _ _
              refine G_ws (ws' := [(q454, .inr (14, [.ref q455, .int p458, .int p459, .int p460, .int p461])), (q455, .inr (15, [.ref q456, .int p462])), (q456, .inl (I .byte, 8192, .inl f463))]) (cs' := 0) (sl' := 0) rfl rfl rfl ?_
              refine G_lstore_n (L' := [(2, .long ol599), (4, .int g561), (0, .ref q454), (1, .int p457)]) d_cX9_takeDigits_58 (Nat.le_of_ble_eq_true rfl) rfl ?_
              obtain ⟨z600, hz600⟩ : ∃ z : Int32, z = g561 + Int32.ofInt 1 := ⟨_, rfl⟩
              have ez600 : z600.toInt = g561.toInt + 1 := gI_inc hz600 (by decide) bg561''' (by decide) (by decide)
              have bz600 : gB z600 2 8192 := ⟨by omega, by omega⟩
              refine G_iinc (L' := [(4, .int z600), (2, .long ol599), (0, .ref q454), (1, .int p457)]) z600 1 d_cX9_takeDigits_59 rfl hz600.symm (Nat.le_of_ble_eq_true rfl) rfl ?_
              refine G_goto 5 d_cX9_takeDigits_62 (by decide +kernel) ?_
              exact ih5_562 z600 ol599 (gB_w bz600 (by decide) (by decide)) (by omega)
            · change G _ _ _ _ _ _ _ (.int z592 :: _) _ _ _
              refine G_ws (ws' := [(q454, .inr (14, [.ref q455, .int p458, .int p459, .int p460, .int p461])), (q455, .inr (15, [.ref q456, .int p462])), (q456, .inl (I .byte, 8192, .inl f463))]) (cs' := 0) (sl' := 0) rfl rfl rfl ?_
              refine G_i2l d_cX9_takeDigits_46 (G_namL fun u601 hu601 => ?_)
              refine G_ladd d_cX9_takeDigits_47 (G_namL fun u602 hu602 => ?_)
              refine G_ldc2 48 d_cX9_takeDigits_48 w_3_36 ?_
              refine G_lsub d_cX9_takeDigits_51 (G_namL fun u603 hu603 => ?_)
              refine G_ldc2 1099511627776 d_cX9_takeDigits_52 w_3_37 ?_
              refine G_callS (As := [.long u603, .long 1099511627776]) (wr := [(q454, .inr (14, [.ref q455, .int p458, .int p459, .int p460, .int p461])), (q455, .inr (15, [.ref q456, .int p462])), (q456, .inl (I .byte, 8192, .inl f463))]) (gV_ok D I) (ct_503_Math_min l hl0 D I u603 1099511627776 ) d_cX9_takeDigits_55 ⟨w_3_38, w_1_6, w_3_40, by decide, rfl, (Nat.le_of_ble_eq_true rfl), (Nat.le_of_ble_eq_true rfl)⟩ w_3_39 [] [0, 1, 2] rfl rfl rfl rfl (by decide) (Nat.le_of_ble_eq_true rfl) (Nat.le_of_ble_eq_true rfl) (Nat.le_of_ble_eq_true rfl) (fun r w hp => ?_) (fun _ _ _ z => z.elim)
              obtain ⟨ol604, rfl, rfl⟩ := hp
              change G _ _ _ _ _ _ _ (.long ol604 :: _) _ _ _
              refine G_ws (ws' := [(q454, .inr (14, [.ref q455, .int p458, .int p459, .int p460, .int p461])), (q455, .inr (15, [.ref q456, .int p462])), (q456, .inl (I .byte, 8192, .inl f463))]) (cs' := 0) (sl' := 0) rfl rfl rfl ?_
              refine G_lstore_n (L' := [(2, .long ol604), (4, .int g561), (0, .ref q454), (1, .int p457)]) d_cX9_takeDigits_58 (Nat.le_of_ble_eq_true rfl) rfl ?_
              obtain ⟨z605, hz605⟩ : ∃ z : Int32, z = g561 + Int32.ofInt 1 := ⟨_, rfl⟩
              have ez605 : z605.toInt = g561.toInt + 1 := gI_inc hz605 (by decide) bg561'' (by decide) (by decide)
              have bz605 : gB z605 1 8192 := ⟨by omega, by omega⟩
              refine G_iinc (L' := [(4, .int z605), (2, .long ol604), (0, .ref q454), (1, .int p457)]) z605 1 d_cX9_takeDigits_59 rfl hz605.symm (Nat.le_of_ble_eq_true rfl) rfl ?_
              refine G_goto 5 d_cX9_takeDigits_62 (by decide +kernel) ?_
              exact ih5_562 z605 ol604 (gB_w bz605 (by decide) (by decide)) (by omega)
  exact hlp5_562 (((2147483648 : Int) - p457.toInt).toNat + 1) p457 0 bp457 (Nat.lt_succ_self _)
abbrev ky_618_Signs_takeNumber : gKey := (cX9_takeNumber, 6, yX9_takeNumber.cls, none, [], yX9_takeNumber.name, fun _ _ => True)
abbrev po_618_Signs_takeNumber (I : FieldType → ClassId) (q608 : Nat) (q609 : Nat) (q610 : Nat) (p611 : Int32) (p612 : Int32) (p613 : Int32) (p614 : Int32) (p615 : Int32) (p616 : Int32) (f617 : Nat → Int32) : Option Value → va_W → Prop := fun r w => ∃ (o640 : Int32) (o641 : Int32) (o642 : Int32), r = none ∧ w = [(q608, .inr (14, [.ref q609, .int o640, .int o641, .int p614, .int o642])), (q609, .inr (15, [.ref q610, .int p616])), (q610, .inl (I .byte, 8192, .inl f617))] ∧ gB o640 0 4 ∧ gB o641 (-2147483648) 2147483647 ∧ gB o642 (-2147483648) 2147483647
set_option maxRecDepth 100000 in
set_option maxHeartbeats 4000000 in
theorem ct_618_Signs_takeNumber (l : Launch) (hl0 : l.stackTraces = false) (D : va_G) (I : FieldType → ClassId) (q608 : Nat) (q609 : Nat) (q610 : Nat) (p611 : Int32) (p612 : Int32) (p613 : Int32) (p614 : Int32) (p615 : Int32) (p616 : Int32) (f617 : Nat → Int32) (bp611 : gB p611 0 1) (bp616 : gB p616 0 8192) (bf617 : gF f617 (-128) 127) : Ct (gV D I) l yX9_takeNumber cX9_takeNumber 6 none 2 47 0 0 [.ref q608, .int p611] [(q608, .inr (14, [.ref q609, .int p612, .int p613, .int p614, .int p615])), (q609, .inr (15, [.ref q610, .int p616])), (q610, .inl (I .byte, 8192, .inl f617))] (po_618_Signs_takeNumber I q608 q609 q610 p611 p612 p613 p614 p615 p616 f617) gN := by
  refine Ct_of hl0 (by decide) (Nat.le_of_ble_eq_true rfl) ?_
  have bp612 := gB_any p612
  have bp613 := gB_any p613
  have bp614 := gB_any p614
  have bp615 := gB_any p615
  refine G_aload_n 0 d_cX9_takeNumber_0 rfl ?_
  refine G_iload_n 1 d_cX9_takeNumber_1 rfl ?_
  refine G_if_eq 14 d_cX9_takeNumber_2 (by decide +kernel) (fun hc619 => ?_) (fun hc619 => ?_)
  · have r620 : p611.toInt = 0 := gj_eq hc619 (show Int32.toInt 0 = 0 by decide)
    have bp611' : gB p611 0 0 := ⟨by omega, by omega⟩
    refine G_aload_n 0 d_cX9_takeNumber_14 rfl ?_
    refine G_getf 0 3 d_cX9_takeNumber_15 rfl (gk_X9 D I) (Nat.le_of_ble_eq_true rfl) w_1_82 rfl ?_
    refine G_callV (As := [.int p614]) (wr := []) (gV_ok D I) (ct_464_Signs_takeDigits l hl0 D I q608 q609 q610 p614 p612 p613 p614 p615 p616 f617 bp616 bf617) d_cX9_takeNumber_18 ⟨w_3_31, w_1_4, w_3_34, by decide, rfl, (Nat.le_of_ble_eq_true rfl), (Nat.le_of_ble_eq_true rfl)⟩ w_3_33 w_p_2 0 rfl rfl [0, 1, 2] [] rfl rfl rfl rfl (by decide) (Nat.le_of_ble_eq_true rfl) (Nat.le_of_ble_eq_true rfl) (Nat.le_of_ble_eq_true rfl) (fun r w hp => ?_) (fun _ _ _ z => z.elim)
    obtain ⟨ol621, o622, rfl, rfl, bo622⟩ := hp
    change G _ _ _ _ _ _ _ (.long ol621 :: _) _ _ _
    refine G_ws (ws' := [(q608, .inr (14, [.ref q609, .int p612, .int p613, .int p614, .int o622])), (q609, .inr (15, [.ref q610, .int p616])), (q610, .inl (I .byte, 8192, .inl f617))]) (cs' := 0) (sl' := 0) rfl rfl rfl ?_
    refine G_lstore_n (L' := [(2, .long ol621), (0, .ref q608), (1, .int p611)]) d_cX9_takeNumber_21 (Nat.le_of_ble_eq_true rfl) rfl ?_
    refine G_iload_n 2 d_cX9_takeNumber_22 rfl ?_
    refine G_if_eq 31 d_cX9_takeNumber_23 (by decide +kernel) (fun _ => ?_) (fun hc => absurd (show False by have := gj_neq hc (show Int32.toInt 0 = 0 by decide); omega) not_false)
    refine G_lload_n 0 d_cX9_takeNumber_31 rfl ?_
    refine G_lstore (L' := [(4, .long ol621), (2, .long ol621), (0, .ref q608), (1, .int p611)]) d_cX9_takeNumber_32 (Nat.le_of_ble_eq_true rfl) rfl ?_
    refine G_aload_n 2 d_cX9_takeNumber_34 rfl ?_
    refine G_lload 0 d_cX9_takeNumber_35 rfl ?_
    refine G_l2i d_cX9_takeNumber_37 (G_nam fun z623 hz623 => ?_)
    have bz623 : gB z623 (-2147483648) 2147483647 := gB_any z623
    refine G_putf (ws' := [(q608, .inr (14, [.ref q609, .int p612, .int z623, .int p614, .int o622])), (q609, .inr (15, [.ref q610, .int p616])), (q610, .inl (I .byte, 8192, .inl f617))]) 0 2 d_cX9_takeNumber_38 rfl (gk_X9 D I) (Nat.le_of_ble_eq_true rfl) w_1_81 rfl rfl rfl (Nat.le_of_ble_eq_true rfl) rfl ?_
    refine G_aload_n 2 d_cX9_takeNumber_41 rfl ?_
    refine G_aload_n 2 d_cX9_takeNumber_42 rfl ?_
    refine G_getf 0 2 d_cX9_takeNumber_43 rfl (gk_X9 D I) (Nat.le_of_ble_eq_true rfl) w_1_81 rfl ?_
    refine G_i2l d_cX9_takeNumber_46 (G_namL fun u624 hu624 => ?_)
    refine G_lload 0 d_cX9_takeNumber_47 rfl ?_
    refine G_lcmp d_cX9_takeNumber_49 (G_nam fun z625 hz625 => ?_)
    have bz625 : gB z625 (-1) 1 := gB_cmp hz625
    refine G_if_ne 57 d_cX9_takeNumber_50 (by decide +kernel) (fun hc626 => ?_) (fun hc626 => ?_)
    · have r627 : z625.toInt ≠ 0 := gj_neq hc626 (show Int32.toInt 0 = 0 by decide)
      have lhc626 := gC_cmpN hz625 hc626
      refine G_iconst 0 d_cX9_takeNumber_57 (by decide +kernel) ?_
      refine G_putf (ws' := [(q608, .inr (14, [.ref q609, .int 0, .int z623, .int p614, .int o622])), (q609, .inr (15, [.ref q610, .int p616])), (q610, .inl (I .byte, 8192, .inl f617))]) 0 1 d_cX9_takeNumber_58 rfl (gk_X9 D I) (Nat.le_of_ble_eq_true rfl) w_1_80 rfl rfl rfl (Nat.le_of_ble_eq_true rfl) rfl ?_
      exact G_vret d_cX9_takeNumber_61 rfl (Nat.le_of_ble_eq_true rfl) (Nat.le_of_ble_eq_true rfl) ⟨0, z623, o622, rfl, rfl, (gB_w (gBl (show Int32.toInt 0 = 0 by decide)) (by decide) (by decide)), bz623, bo622⟩
    · have r628 : z625.toInt = 0 := gj_eq hc626 (show Int32.toInt 0 = 0 by decide)
      have bz625' : gB z625 0 0 := ⟨by omega, by omega⟩
      have lhc626 := gC_cmpE hz625 hc626
      refine G_iconst 4 d_cX9_takeNumber_53 (by decide +kernel) ?_
      refine G_goto 58 d_cX9_takeNumber_54 (by decide +kernel) ?_
      refine G_putf (ws' := [(q608, .inr (14, [.ref q609, .int 4, .int z623, .int p614, .int o622])), (q609, .inr (15, [.ref q610, .int p616])), (q610, .inl (I .byte, 8192, .inl f617))]) 0 1 d_cX9_takeNumber_58 rfl (gk_X9 D I) (Nat.le_of_ble_eq_true rfl) w_1_80 rfl rfl rfl (Nat.le_of_ble_eq_true rfl) rfl ?_
      exact G_vret d_cX9_takeNumber_61 rfl (Nat.le_of_ble_eq_true rfl) (Nat.le_of_ble_eq_true rfl) ⟨4, z623, o622, rfl, rfl, (gB_w (gBl (show Int32.toInt 4 = 4 by decide)) (by decide) (by decide)), bz623, bo622⟩
  · have r629 : p611.toInt ≠ 0 := gj_neq hc619 (show Int32.toInt 0 = 0 by decide)
    have bp611' : gB p611 1 1 := ⟨by omega, by omega⟩
    refine G_aload_n 0 d_cX9_takeNumber_5 rfl ?_
    refine G_getf 0 3 d_cX9_takeNumber_6 rfl (gk_X9 D I) (Nat.le_of_ble_eq_true rfl) w_1_82 rfl ?_
    refine G_iconst 1 d_cX9_takeNumber_9 (by decide +kernel) ?_
    refine G_iadd d_cX9_takeNumber_10 (G_nam fun z630 hz630 => ?_)
    have bz630 : gB z630 (-2147483648) 2147483647 := gB_any z630
    refine G_goto 18 d_cX9_takeNumber_11 (by decide +kernel) ?_
    refine G_callV (As := [.int z630]) (wr := []) (gV_ok D I) (ct_464_Signs_takeDigits l hl0 D I q608 q609 q610 z630 p612 p613 p614 p615 p616 f617 bp616 bf617) d_cX9_takeNumber_18 ⟨w_3_31, w_1_4, w_3_34, by decide, rfl, (Nat.le_of_ble_eq_true rfl), (Nat.le_of_ble_eq_true rfl)⟩ w_3_33 w_p_2 0 rfl rfl [0, 1, 2] [] rfl rfl rfl rfl (by decide) (Nat.le_of_ble_eq_true rfl) (Nat.le_of_ble_eq_true rfl) (Nat.le_of_ble_eq_true rfl) (fun r w hp => ?_) (fun _ _ _ z => z.elim)
    obtain ⟨ol631, o632, rfl, rfl, bo632⟩ := hp
    change G _ _ _ _ _ _ _ (.long ol631 :: _) _ _ _
    refine G_ws (ws' := [(q608, .inr (14, [.ref q609, .int p612, .int p613, .int p614, .int o632])), (q609, .inr (15, [.ref q610, .int p616])), (q610, .inl (I .byte, 8192, .inl f617))]) (cs' := 0) (sl' := 0) rfl rfl rfl ?_
    refine G_lstore_n (L' := [(2, .long ol631), (0, .ref q608), (1, .int p611)]) d_cX9_takeNumber_21 (Nat.le_of_ble_eq_true rfl) rfl ?_
    refine G_iload_n 2 d_cX9_takeNumber_22 rfl ?_
    refine G_if_eq 31 d_cX9_takeNumber_23 (by decide +kernel) (fun hc => absurd (show False by have := gj_eq hc (show Int32.toInt 0 = 0 by decide); omega) not_false) (fun _ => ?_)
    refine G_lload_n 0 d_cX9_takeNumber_26 rfl ?_
    refine G_lneg d_cX9_takeNumber_27 (G_namL fun u633 hu633 => ?_)
    refine G_goto 32 d_cX9_takeNumber_28 (by decide +kernel) ?_
    refine G_lstore (L' := [(4, .long u633), (2, .long ol631), (0, .ref q608), (1, .int p611)]) d_cX9_takeNumber_32 (Nat.le_of_ble_eq_true rfl) rfl ?_
    refine G_aload_n 2 d_cX9_takeNumber_34 rfl ?_
    refine G_lload 0 d_cX9_takeNumber_35 rfl ?_
    refine G_l2i d_cX9_takeNumber_37 (G_nam fun z634 hz634 => ?_)
    have bz634 : gB z634 (-2147483648) 2147483647 := gB_any z634
    refine G_putf (ws' := [(q608, .inr (14, [.ref q609, .int p612, .int z634, .int p614, .int o632])), (q609, .inr (15, [.ref q610, .int p616])), (q610, .inl (I .byte, 8192, .inl f617))]) 0 2 d_cX9_takeNumber_38 rfl (gk_X9 D I) (Nat.le_of_ble_eq_true rfl) w_1_81 rfl rfl rfl (Nat.le_of_ble_eq_true rfl) rfl ?_
    refine G_aload_n 2 d_cX9_takeNumber_41 rfl ?_
    refine G_aload_n 2 d_cX9_takeNumber_42 rfl ?_
    refine G_getf 0 2 d_cX9_takeNumber_43 rfl (gk_X9 D I) (Nat.le_of_ble_eq_true rfl) w_1_81 rfl ?_
    refine G_i2l d_cX9_takeNumber_46 (G_namL fun u635 hu635 => ?_)
    refine G_lload 0 d_cX9_takeNumber_47 rfl ?_
    refine G_lcmp d_cX9_takeNumber_49 (G_nam fun z636 hz636 => ?_)
    have bz636 : gB z636 (-1) 1 := gB_cmp hz636
    refine G_if_ne 57 d_cX9_takeNumber_50 (by decide +kernel) (fun hc637 => ?_) (fun hc637 => ?_)
    · have r638 : z636.toInt ≠ 0 := gj_neq hc637 (show Int32.toInt 0 = 0 by decide)
      have lhc637 := gC_cmpN hz636 hc637
      refine G_iconst 0 d_cX9_takeNumber_57 (by decide +kernel) ?_
      refine G_putf (ws' := [(q608, .inr (14, [.ref q609, .int 0, .int z634, .int p614, .int o632])), (q609, .inr (15, [.ref q610, .int p616])), (q610, .inl (I .byte, 8192, .inl f617))]) 0 1 d_cX9_takeNumber_58 rfl (gk_X9 D I) (Nat.le_of_ble_eq_true rfl) w_1_80 rfl rfl rfl (Nat.le_of_ble_eq_true rfl) rfl ?_
      exact G_vret d_cX9_takeNumber_61 rfl (Nat.le_of_ble_eq_true rfl) (Nat.le_of_ble_eq_true rfl) ⟨0, z634, o632, rfl, rfl, (gB_w (gBl (show Int32.toInt 0 = 0 by decide)) (by decide) (by decide)), bz634, bo632⟩
    · have r639 : z636.toInt = 0 := gj_eq hc637 (show Int32.toInt 0 = 0 by decide)
      have bz636' : gB z636 0 0 := ⟨by omega, by omega⟩
      have lhc637 := gC_cmpE hz636 hc637
      refine G_iconst 4 d_cX9_takeNumber_53 (by decide +kernel) ?_
      refine G_goto 58 d_cX9_takeNumber_54 (by decide +kernel) ?_
      refine G_putf (ws' := [(q608, .inr (14, [.ref q609, .int 4, .int z634, .int p614, .int o632])), (q609, .inr (15, [.ref q610, .int p616])), (q610, .inl (I .byte, 8192, .inl f617))]) 0 1 d_cX9_takeNumber_58 rfl (gk_X9 D I) (Nat.le_of_ble_eq_true rfl) w_1_80 rfl rfl rfl (Nat.le_of_ble_eq_true rfl) rfl ?_
      exact G_vret d_cX9_takeNumber_61 rfl (Nat.le_of_ble_eq_true rfl) (Nat.le_of_ble_eq_true rfl) ⟨4, z634, o632, rfl, rfl, (gB_w (gBl (show Int32.toInt 4 = 4 by decide)) (by decide) (by decide)), bz634, bo632⟩
abbrev ky_654_Signs_takeNamed : gKey := (cX9_takeNamed, 5, yX9_takeNamed.cls, none, [], yX9_takeNamed.name, fun _ _ => True)
abbrev po_654_Signs_takeNamed (I : FieldType → ClassId) (q643 : Nat) (q644 : Nat) (q645 : Nat) (p646 : Int32) (p647 : Int32) (p648 : Int32) (p649 : Int32) (p650 : Int32) (p651 : Int32) (p652 : Int32) (f653 : Nat → Int32) : Option Value → va_W → Prop := fun r w => ∃ (o664 : Int32) (o665 : Int32) (o666 : Int32), r = none ∧ w = [(q643, .inr (14, [.ref q644, .int o664, .int o665, .int p650, .int o666])), (q644, .inr (15, [.ref q645, .int p652])), (q645, .inl (I .byte, 8192, .inl f653))] ∧ gB o664 (-2147483648) 2147483647 ∧ gB o665 (-2147483648) 2147483647 ∧ gB o666 (-2147483648) 2147483647
set_option maxRecDepth 100000 in
set_option maxHeartbeats 4000000 in
theorem ct_654_Signs_takeNamed (l : Launch) (hl0 : l.stackTraces = false) (D : va_G) (I : FieldType → ClassId) (q643 : Nat) (q644 : Nat) (q645 : Nat) (p646 : Int32) (p647 : Int32) (p648 : Int32) (p649 : Int32) (p650 : Int32) (p651 : Int32) (p652 : Int32) (f653 : Nat → Int32) (bp652 : gB p652 0 8192) (bf653 : gF f653 (-128) 127) : Ct (gV D I) l yX9_takeNamed cX9_takeNamed 5 none 2 47 0 0 [.ref q643, .int p646, .int p647] [(q643, .inr (14, [.ref q644, .int p648, .int p649, .int p650, .int p651])), (q644, .inr (15, [.ref q645, .int p652])), (q645, .inl (I .byte, 8192, .inl f653))] (po_654_Signs_takeNamed I q643 q644 q645 p646 p647 p648 p649 p650 p651 p652 f653) gN := by
  refine Ct_of hl0 (by decide) (Nat.le_of_ble_eq_true rfl) ?_
  have bp646 := gB_any p646
  have bp647 := gB_any p647
  have bp648 := gB_any p648
  have bp649 := gB_any p649
  have bp650 := gB_any p650
  have bp651 := gB_any p651
  refine G_aload_n 0 d_cX9_takeNamed_0 rfl ?_
  refine G_aload_n 0 d_cX9_takeNamed_1 rfl ?_
  refine G_getf 0 3 d_cX9_takeNamed_2 rfl (gk_X9 D I) (Nat.le_of_ble_eq_true rfl) w_1_82 rfl ?_
  refine G_iconst 1 d_cX9_takeNamed_5 (by decide +kernel) ?_
  refine G_iadd d_cX9_takeNamed_6 (G_nam fun z655 hz655 => ?_)
  have bz655 : gB z655 (-2147483648) 2147483647 := gB_any z655
  refine G_callV (As := [.int z655]) (wr := []) (gV_ok D I) (ct_464_Signs_takeDigits l hl0 D I q643 q644 q645 z655 p648 p649 p650 p651 p652 f653 bp652 bf653) d_cX9_takeNamed_7 ⟨w_3_31, w_1_4, w_3_34, by decide, rfl, (Nat.le_of_ble_eq_true rfl), (Nat.le_of_ble_eq_true rfl)⟩ w_3_33 w_p_2 0 rfl rfl [0, 1, 2] [] rfl rfl rfl rfl (by decide) (Nat.le_of_ble_eq_true rfl) (Nat.le_of_ble_eq_true rfl) (Nat.le_of_ble_eq_true rfl) (fun r w hp => ?_) (fun _ _ _ z => z.elim)
  obtain ⟨ol656, o657, rfl, rfl, bo657⟩ := hp
  change G _ _ _ _ _ _ _ (.long ol656 :: _) _ _ _
  refine G_ws (ws' := [(q643, .inr (14, [.ref q644, .int p648, .int p649, .int p650, .int o657])), (q644, .inr (15, [.ref q645, .int p652])), (q645, .inl (I .byte, 8192, .inl f653))]) (cs' := 0) (sl' := 0) rfl rfl rfl ?_
  refine G_lstore_n (L' := [(3, .long ol656), (0, .ref q643), (1, .int p646), (2, .int p647)]) d_cX9_takeNamed_10 (Nat.le_of_ble_eq_true rfl) rfl ?_
  refine G_aload_n 1 d_cX9_takeNamed_11 rfl ?_
  refine G_lload_n 0 d_cX9_takeNamed_12 rfl ?_
  refine G_l2i d_cX9_takeNamed_13 (G_nam fun z658 hz658 => ?_)
  have bz658 : gB z658 (-2147483648) 2147483647 := gB_any z658
  refine G_putf (ws' := [(q643, .inr (14, [.ref q644, .int p648, .int z658, .int p650, .int o657])), (q644, .inr (15, [.ref q645, .int p652])), (q645, .inl (I .byte, 8192, .inl f653))]) 0 2 d_cX9_takeNamed_14 rfl (gk_X9 D I) (Nat.le_of_ble_eq_true rfl) w_1_81 rfl rfl rfl (Nat.le_of_ble_eq_true rfl) rfl ?_
  refine G_aload_n 1 d_cX9_takeNamed_17 rfl ?_
  refine G_lload_n 0 d_cX9_takeNamed_18 rfl ?_
  refine G_iload_n 3 d_cX9_takeNamed_19 rfl ?_
  refine G_i2l d_cX9_takeNamed_20 (G_namL fun u659 hu659 => ?_)
  refine G_lcmp d_cX9_takeNamed_21 (G_nam fun z660 hz660 => ?_)
  have bz660 : gB z660 (-1) 1 := gB_cmp hz660
  refine G_if_ge 29 d_cX9_takeNamed_22 (by decide +kernel) (fun hc661 => ?_) (fun hc661 => ?_)
  · have r662 : 0 ≤ z660.toInt := gj_leL hc661 (show Int32.toInt 0 = 0 by decide)
    have bz660' : gB z660 0 1 := ⟨by omega, by omega⟩
    refine G_iconst 0 d_cX9_takeNamed_29 (by decide +kernel) ?_
    refine G_putf (ws' := [(q643, .inr (14, [.ref q644, .int 0, .int z658, .int p650, .int o657])), (q644, .inr (15, [.ref q645, .int p652])), (q645, .inl (I .byte, 8192, .inl f653))]) 0 1 d_cX9_takeNamed_30 rfl (gk_X9 D I) (Nat.le_of_ble_eq_true rfl) w_1_80 rfl rfl rfl (Nat.le_of_ble_eq_true rfl) rfl ?_
    exact G_vret d_cX9_takeNamed_33 rfl (Nat.le_of_ble_eq_true rfl) (Nat.le_of_ble_eq_true rfl) ⟨0, z658, o657, rfl, rfl, (gB_w (gBl (show Int32.toInt 0 = 0 by decide)) (by decide) (by decide)), bz658, bo657⟩
  · have r663 : z660.toInt < 0 := gj_nleL hc661 (show Int32.toInt 0 = 0 by decide)
    have bz660' : gB z660 (-1) (-1) := ⟨by omega, by omega⟩
    refine G_iload_n 2 d_cX9_takeNamed_25 rfl ?_
    refine G_goto 30 d_cX9_takeNamed_26 (by decide +kernel) ?_
    refine G_putf (ws' := [(q643, .inr (14, [.ref q644, .int p646, .int z658, .int p650, .int o657])), (q644, .inr (15, [.ref q645, .int p652])), (q645, .inl (I .byte, 8192, .inl f653))]) 0 1 d_cX9_takeNamed_30 rfl (gk_X9 D I) (Nat.le_of_ble_eq_true rfl) w_1_80 rfl rfl rfl (Nat.le_of_ble_eq_true rfl) rfl ?_
    exact G_vret d_cX9_takeNamed_33 rfl (Nat.le_of_ble_eq_true rfl) (Nat.le_of_ble_eq_true rfl) ⟨p646, z658, o657, rfl, rfl, bp646, bz658, bo657⟩
abbrev ky_689_Code_clear : gKey := (cX0_clear, 1, yX0_clear.cls, none, [], yX0_clear.name, fun _ _ => True)
abbrev po_689_Code_clear (I : FieldType → ClassId) (q667 : Nat) (q668 : Nat) (q669 : Nat) (q670 : Nat) (q671 : Nat) (q672 : Nat) (q673 : Nat) (q674 : Nat) (q675 : Nat) (q676 : Nat) (p677 : Int32) (p678 : Int32) (p679 : Int32) (f680 : Nat → Int32) (f681 : Nat → Int32) (f682 : Nat → Int32) (f683 : Nat → Int32) (f684 : Nat → Int32) (f685 : Nat → Int32) (f686 : Nat → Int32) (f687 : Nat → Int32) (f688 : Nat → Int32) : Option Value → va_W → Prop := fun r w => ∃ (o690 : Int32) (o691 : Int32) (o692 : Int32), r = none ∧ w = [(q667, .inr (5, [.ref q668, .ref q669, .ref q670, .ref q671, .ref q672, .ref q673, .ref q674, .ref q675, .ref q676, .int o690, .int o691, .int o692])), (q668, .inl (I .int, 40, .inl f680)), (q669, .inl (I .int, 40, .inl f681)), (q670, .inl (I .int, 40, .inl f682)), (q671, .inl (I .int, 200, .inl f683)), (q672, .inl (I .int, 200, .inl f684)), (q673, .inl (I .int, 200, .inl f685)), (q674, .inl (I .int, 200, .inl f686)), (q675, .inl (I .int, 200, .inl f687)), (q676, .inl (I .int, 200, .inl f688))] ∧ gB o690 0 0 ∧ gB o691 0 0 ∧ gB o692 0 0
set_option maxRecDepth 100000 in
set_option maxHeartbeats 4000000 in
theorem ct_689_Code_clear (l : Launch) (hl0 : l.stackTraces = false) (D : va_G) (I : FieldType → ClassId) (q667 : Nat) (q668 : Nat) (q669 : Nat) (q670 : Nat) (q671 : Nat) (q672 : Nat) (q673 : Nat) (q674 : Nat) (q675 : Nat) (q676 : Nat) (p677 : Int32) (p678 : Int32) (p679 : Int32) (f680 : Nat → Int32) (f681 : Nat → Int32) (f682 : Nat → Int32) (f683 : Nat → Int32) (f684 : Nat → Int32) (f685 : Nat → Int32) (f686 : Nat → Int32) (f687 : Nat → Int32) (f688 : Nat → Int32) (bp677 : gB p677 0 40) (bp678 : gB p678 0 200) (bp679 : gB p679 0 1) (bf680 : gF f680 0 200) : Ct (gV D I) l yX0_clear cX0_clear 1 none 0 0 0 0 [.ref q667] [(q667, .inr (5, [.ref q668, .ref q669, .ref q670, .ref q671, .ref q672, .ref q673, .ref q674, .ref q675, .ref q676, .int p677, .int p678, .int p679])), (q668, .inl (I .int, 40, .inl f680)), (q669, .inl (I .int, 40, .inl f681)), (q670, .inl (I .int, 40, .inl f682)), (q671, .inl (I .int, 200, .inl f683)), (q672, .inl (I .int, 200, .inl f684)), (q673, .inl (I .int, 200, .inl f685)), (q674, .inl (I .int, 200, .inl f686)), (q675, .inl (I .int, 200, .inl f687)), (q676, .inl (I .int, 200, .inl f688))] (po_689_Code_clear I q667 q668 q669 q670 q671 q672 q673 q674 q675 q676 p677 p678 p679 f680 f681 f682 f683 f684 f685 f686 f687 f688) gN := by
  refine Ct_of hl0 (by decide) (Nat.le_of_ble_eq_true rfl) ?_
  refine G_aload_n 0 d_cX0_clear_0 rfl ?_
  refine G_iconst 0 d_cX0_clear_1 (by decide +kernel) ?_
  refine G_putf (ws' := [(q667, .inr (5, [.ref q668, .ref q669, .ref q670, .ref q671, .ref q672, .ref q673, .ref q674, .ref q675, .ref q676, .int 0, .int p678, .int p679])), (q668, .inl (I .int, 40, .inl f680)), (q669, .inl (I .int, 40, .inl f681)), (q670, .inl (I .int, 40, .inl f682)), (q671, .inl (I .int, 200, .inl f683)), (q672, .inl (I .int, 200, .inl f684)), (q673, .inl (I .int, 200, .inl f685)), (q674, .inl (I .int, 200, .inl f686)), (q675, .inl (I .int, 200, .inl f687)), (q676, .inl (I .int, 200, .inl f688))]) 0 9 d_cX0_clear_2 rfl (gk_X0 D I) (Nat.le_of_ble_eq_true rfl) w_1_187 rfl rfl rfl (Nat.le_of_ble_eq_true rfl) rfl ?_
  refine G_aload_n 0 d_cX0_clear_5 rfl ?_
  refine G_iconst 0 d_cX0_clear_6 (by decide +kernel) ?_
  refine G_putf (ws' := [(q667, .inr (5, [.ref q668, .ref q669, .ref q670, .ref q671, .ref q672, .ref q673, .ref q674, .ref q675, .ref q676, .int 0, .int 0, .int p679])), (q668, .inl (I .int, 40, .inl f680)), (q669, .inl (I .int, 40, .inl f681)), (q670, .inl (I .int, 40, .inl f682)), (q671, .inl (I .int, 200, .inl f683)), (q672, .inl (I .int, 200, .inl f684)), (q673, .inl (I .int, 200, .inl f685)), (q674, .inl (I .int, 200, .inl f686)), (q675, .inl (I .int, 200, .inl f687)), (q676, .inl (I .int, 200, .inl f688))]) 0 10 d_cX0_clear_7 rfl (gk_X0 D I) (Nat.le_of_ble_eq_true rfl) w_1_197 rfl rfl rfl (Nat.le_of_ble_eq_true rfl) rfl ?_
  refine G_aload_n 0 d_cX0_clear_10 rfl ?_
  refine G_iconst 0 d_cX0_clear_11 (by decide +kernel) ?_
  refine G_putf (ws' := [(q667, .inr (5, [.ref q668, .ref q669, .ref q670, .ref q671, .ref q672, .ref q673, .ref q674, .ref q675, .ref q676, .int 0, .int 0, .int 0])), (q668, .inl (I .int, 40, .inl f680)), (q669, .inl (I .int, 40, .inl f681)), (q670, .inl (I .int, 40, .inl f682)), (q671, .inl (I .int, 200, .inl f683)), (q672, .inl (I .int, 200, .inl f684)), (q673, .inl (I .int, 200, .inl f685)), (q674, .inl (I .int, 200, .inl f686)), (q675, .inl (I .int, 200, .inl f687)), (q676, .inl (I .int, 200, .inl f688))]) 0 11 d_cX0_clear_12 rfl (gk_X0 D I) (Nat.le_of_ble_eq_true rfl) w_1_200 rfl rfl rfl (Nat.le_of_ble_eq_true rfl) rfl ?_
  exact G_vret d_cX0_clear_15 rfl (Nat.le_of_ble_eq_true rfl) (Nat.le_of_ble_eq_true rfl) ⟨0, 0, 0, rfl, rfl, (gBl (show Int32.toInt 0 = 0 by decide)), (gBl (show Int32.toInt 0 = 0 by decide)), (gBl (show Int32.toInt 0 = 0 by decide))⟩
