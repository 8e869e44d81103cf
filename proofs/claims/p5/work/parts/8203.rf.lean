theorem dr_cJ4_append_15ec4_0 : decode cJ4_append_15ec4 0 = .ok (.aload_n 0, 1) := by decide +kernel
theorem dr_cJ4_append_15ec4_1 : decode cJ4_append_15ec4 1 = .ok (.aload_n 1, 1) := by decide +kernel
theorem dr_cJ4_append_15ec4_2 : decode cJ4_append_15ec4 2 = .ok (.invokespecial 29, 3) := by decide +kernel
theorem wr_8_140 : (Jvm.Cond.methodLink "java/lang/StringBuilder" (29 : Nat) ({ cls := "java/lang/AbstractStringBuilder", name := "append", desc := "(Ljava/lang/String;)Ljava/lang/AbstractStringBuilder;" } : Jvm.MethodName)) ∈ gw := gw_8 140 rfl rfl
theorem wr_8_142 : (Jvm.Cond.code ({ cls := "java/lang/AbstractStringBuilder", name := "append", desc := "(Ljava/lang/String;)Ljava/lang/AbstractStringBuilder;" } : Jvm.MethodName) prog_21_method_22_code (3 : Nat) (Option.some (Jvm.ClassFile.FieldType.object "java/lang/AbstractStringBuilder"))) ∈ gw := gw_8 142 rfl rfl
theorem wr_8_141 : (Jvm.Cond.instanceMethod ({ cls := "java/lang/AbstractStringBuilder", name := "append", desc := "(Ljava/lang/String;)Ljava/lang/AbstractStringBuilder;" } : Jvm.MethodName)) ∈ gw := gw_8 141 rfl rfl
theorem wr_11_225 : (Jvm.Cond.sameMethod "java/lang/AbstractStringBuilder" "java/lang/AbstractStringBuilder" "append" "(Ljava/lang/String;)Ljava/lang/AbstractStringBuilder;") ∈ gw := gw_11 225 rfl rfl
theorem dr_cJ4_append_15ec4_5 : decode cJ4_append_15ec4 5 = .ok (.pop, 1) := by decide +kernel
theorem dr_cJ4_append_15ec4_6 : decode cJ4_append_15ec4 6 = .ok (.aload_n 0, 1) := by decide +kernel
theorem dr_cJ4_append_15ec4_7 : decode cJ4_append_15ec4 7 = .ok (.areturn, 1) := by decide +kernel
abbrev ky_640491_StringBuilder_append : gKey := (cJ4_append_15ec4, 2, "java/lang/StringBuilder", (some (FieldType.object "java/lang/StringBuilder")), [], "append", fun _ _ => True)
def pp_640491_StringBuilder_append (D : va_G) (I : FieldType → ClassId) (P640474 : List Nat) (F640475 : Nat → va_E) (q640476 : Nat) (q640477 : Nat) (q640478 : Nat) (q640479 : Nat) (p640480 : Int32) (p640481 : Int32) (p640482 : Int32) (p640483 : Int32) (f640484 : Nat → Int32) (n640485 : Nat) (f640486 : Nat → Int32) (n640487 : Nat) : Option Value → va_W → Nat → Nat → Prop := fun r w dc ds => ∃ (F640700 : Nat → va_E) (o640697 : Int32) (f640698 : Nat → Int32), r = some (.ref q640476) ∧ w = va_pl P640474 F640700 ∧ rFr [q640476, q640478] P640474 F640475 F640700 ∧ F640700 q640476 = .inr (1, [.ref q640478, .int 0, .int p640480, .int o640697]) ∧ F640700 q640477 = .inr (0, [.ref q640479, .int 0, .int p640482, .int p640483]) ∧ F640700 q640478 = .inl (I .byte, n640485, .inl f640698) ∧ F640700 q640479 = .inl (I .byte, n640487, .inl f640486) ∧ dc ≤ 0 ∧ ds ≤ 0 ∧ gB o640697 0 16777216 ∧ gF f640698 (-128) 127 ∧ o640697.toInt = p640481.toInt + (n640487 : Int) ∧ sK f640484 f640698 p640481.toInt ∧ sF f640486 f640698 p640481.toInt (n640487 : Int)
set_option maxRecDepth 100000 in
set_option maxHeartbeats 4000000 in
theorem cp_640491_StringBuilder_append (l : Launch) (hl0 : l.stackTraces = false) (D : va_G) (I : FieldType → ClassId) (P640474 : List Nat) (F640475 : Nat → va_E) (q640476 : Nat) (q640477 : Nat) (q640478 : Nat) (q640479 : Nat) (p640480 : Int32) (p640481 : Int32) (p640482 : Int32) (p640483 : Int32) (f640484 : Nat → Int32) (n640485 : Nat) (f640486 : Nat → Int32) (n640487 : Nat) (hmq640476 : q640476 ∈ P640474) (hmq640477 : q640477 ∈ P640474) (hmq640478 : q640478 ∈ P640474) (hmq640479 : q640479 ∈ P640474) (heq640476 : F640475 q640476 = .inr (1, [.ref q640478, .int 0, .int p640480, .int p640481])) (heq640477 : F640475 q640477 = .inr (0, [.ref q640479, .int 0, .int p640482, .int p640483])) (heq640478 : F640475 q640478 = .inl (I .byte, n640485, .inl f640484)) (heq640479 : F640475 q640479 = .inl (I .byte, n640487, .inl f640486)) (hneq640478q640479 : q640478 ≠ q640479) (bp640480 : gB p640480 0 1) (bp640481 : gB p640481 0 16777216) (bp640483 : gB p640483 0 1) (bf640484 : gF f640484 (-128) 127) (bf640486 : gF f640486 (-128) 127) (x640488 : p640481.toInt + (n640487 : Int) ≤ (n640485 : Int)) (x640489 : ((n640485 : Int) ≤ 16777216)) (x640490 : ((n640487 : Int) ≤ 16777216)) : CtA (gV D I) l yJ4_append_15ec4 cJ4_append_15ec4 2 (some (FieldType.object "java/lang/StringBuilder")) 4 87 0 0 [.ref q640476, .ref q640477] (va_pl P640474 F640475) (pp_640491_StringBuilder_append D I P640474 F640475 q640476 q640477 q640478 q640479 p640480 p640481 p640482 p640483 f640484 n640485 f640486 n640487) gNA := by
  refine CtA_ofF hl0 (by decide +kernel) (Nat.le_of_ble_eq_true rfl) ?_
  have bp640482 := gB_any p640482
  refine G_aload_n 0 dr_cJ4_append_15ec4_0 rfl ?_
  refine G_aload_n 1 dr_cJ4_append_15ec4_1 rfl ?_
  refine Gw_callSU (As := [.ref q640477]) (gV_ok D I) (cp_640509_AbstractStringBuilder_append l hl0 D I P640474 F640475 q640476 q640477 q640478 q640479 p640480 p640481 p640482 p640483 f640484 n640485 f640486 n640487 hmq640476 hmq640477 hmq640478 hmq640479 heq640476 heq640477 heq640478 heq640479 hneq640478q640479 bp640480 bp640481 bp640483 bf640484 bf640486 (by have qa0 : Int32.toInt 0 = 0 := (by decide); omega) (by have qa0 : Int32.toInt 0 = 0 := (by decide); omega) (by have qa0 : Int32.toInt 0 = 0 := (by decide); omega)) dr_cJ4_append_15ec4_2 ⟨wr_8_140, wr_1_19, wr_8_142, by decide, rfl, (Nat.le_of_ble_eq_true rfl), (Nat.le_of_ble_eq_true rfl)⟩ wr_8_141 wr_11_225 wr_7_73 wr_7_44 (by decide) hmq640476 heq640476 rfl (show 0 + 0 ≤ 0 by first | omega | decide) (show 0 + 0 ≤ 0 by first | omega | decide) (Nat.le_of_ble_eq_true rfl) (fun r640682 w640683 dc640679 ds640680 hp640681 => ?_)
  obtain ⟨F640689, o640684, f640685, rfl, rfl, hfr640691, he640692, he640693, he640694, he640695, hdc, hds, bo640684, bf640685, x640686, x640687, x640688⟩ := hp640681
  have hfr640696 : rFr [q640476, q640478] P640474 F640475 F640689 := rFr_call (rSub_rf (P := P640474)) (rFr_rf (W := []) (P := P640474) (F := F640475)) hfr640691 (fun b hb hn => ⟨nm_n, (nm_c (fun e => hn (e ▸ List.mem_cons_self)) (nm_c (fun e => hn (e ▸ (List.mem_cons_of_mem _ List.mem_cons_self))) nm_n))⟩)
  change G _ _ _ _ _ _ _ (.ref q640476 :: _) _ _ _
  refine G_widen (cs' := 0) (sl' := 0) (by omega) (by omega) ?_
  refine G_pop dr_cJ4_append_15ec4_5 rfl ?_
  refine G_aload_n 0 dr_cJ4_append_15ec4_6 rfl ?_
  exact G_aretA (FieldType.object "java/lang/StringBuilder") dr_cJ4_append_15ec4_7 rfl (by first | exact Or.inl ⟨_, rfl⟩ | exact Or.inr ⟨_, rfl⟩) (Or.inr ⟨_, rfl⟩) (Nat.le_of_ble_eq_true rfl) (Nat.le_of_ble_eq_true rfl) ⟨F640689, o640684, f640685, rfl, rfl, hfr640696, he640692, he640693, he640694, he640695, (Nat.le_of_ble_eq_true rfl), (Nat.le_of_ble_eq_true rfl), bo640684, bf640685, (by have qa0 : Int32.toInt 0 = 0 := (by decide); omega), (sK_c x640687 (by omega)), (by assumption)⟩
abbrev ky_640741_String_coder : gKey := (cJ0_coder_7d493, 1, "java/lang/String", (some FieldType.byte), [], "coder", fun _ _ => True)
def pp_640741_String_coder (D : va_G) (I : FieldType → ClassId) (P640736 : List Nat) (F640737 : Nat → va_E) (qs640738 : Nat) (qb640739 : Nat) (bs640740 : List Int32) : Option Value → va_W → Nat → Nat → Prop := fun r w dc ds => r = some (.int 0) ∧ w = va_pl P640736 F640737 ∧ dc ≤ 0 ∧ ds ≤ 0
set_option maxRecDepth 100000 in
set_option maxHeartbeats 4000000 in
theorem cp_640741_String_coder (l : Launch) (hl0 : l.stackTraces = false) (D : va_G) (I : FieldType → ClassId) (P640736 : List Nat) (F640737 : Nat → va_E) (qs640738 : Nat) (qb640739 : Nat) (bs640740 : List Int32) (hbs640740 : ∀ A s H, (gV D I).2.2.2.1 A s H → gSC qs640738 qb640739 bs640740 A s H) (nbs640740 : (bs640740.length : Int) ≤ 65535) (lbs640740 : gLB bs640740) : CtA (gV D I) l yJ0_coder_7d493 cJ0_coder_7d493 1 (some FieldType.byte) 0 0 0 0 [.ref qs640738] (va_pl P640736 F640737) (pp_640741_String_coder D I P640736 F640737 qs640738 qb640739 bs640740) gNA := by
  refine CtA_ofF hl0 (by decide +kernel) (Nat.le_of_ble_eq_true rfl) ?_
  refine G_gets dr_cJ0_coder_7d493_0 wr_3_65 gz_cs (fun x hx => ?_)
  subst hx
  refine G_if_eq 13 dr_cJ0_coder_7d493_3 (by decide +kernel) (fun hc => absurd hc (by decide)) (fun _ => ?_)
  refine G_aload_n 0 dr_cJ0_coder_7d493_6 rfl ?_
  refine G_kget dr_cJ0_coder_7d493_7 wr_8_179 (fun _ _ _ h => (hbs640740 _ _ _ h).2.1) ?_
  refine G_goto 14 dr_cJ0_coder_7d493_10 (by decide +kernel) ?_
  exact G_zretA FieldType.byte dr_cJ0_coder_7d493_14 rfl rfl (Nat.le_of_ble_eq_true rfl) (Nat.le_of_ble_eq_true rfl) ⟨rfl, rfl, (Nat.le_of_ble_eq_true rfl), (Nat.le_of_ble_eq_true rfl)⟩
abbrev ky_640734_String_length : gKey := (cJ0_length_8abf5, 1, "java/lang/String", (some FieldType.int), [], "length", fun _ _ => True)
def pp_640734_String_length (D : va_G) (I : FieldType → ClassId) (P640729 : List Nat) (F640730 : Nat → va_E) (qs640731 : Nat) (qb640732 : Nat) (bs640733 : List Int32) : Option Value → va_W → Nat → Nat → Prop := fun r w dc ds => ∃ (o640748 : Int32), r = some (.int o640748) ∧ w = va_pl P640729 F640730 ∧ dc ≤ 0 ∧ ds ≤ 0 ∧ gB o640748 0 65535 ∧ o640748.toInt = (bs640733.length : Int)
set_option maxRecDepth 100000 in
set_option maxHeartbeats 4000000 in
theorem cp_640734_String_length (l : Launch) (hl0 : l.stackTraces = false) (D : va_G) (I : FieldType → ClassId) (P640729 : List Nat) (F640730 : Nat → va_E) (qs640731 : Nat) (qb640732 : Nat) (bs640733 : List Int32) (hbs640733 : ∀ A s H, (gV D I).2.2.2.1 A s H → gSC qs640731 qb640732 bs640733 A s H) (nbs640733 : (bs640733.length : Int) ≤ 65535) (lbs640733 : gLB bs640733) : CtA (gV D I) l yJ0_length_8abf5 cJ0_length_8abf5 1 (some FieldType.int) 1 20 0 0 [.ref qs640731] (va_pl P640729 F640730) (pp_640734_String_length D I P640729 F640730 qs640731 qb640732 bs640733) gNA := by
  refine CtA_ofF hl0 (by decide +kernel) (Nat.le_of_ble_eq_true rfl) ?_
  refine G_aload_n 0 dr_cJ0_length_8abf5_0 rfl ?_
  refine G_kget dr_cJ0_length_8abf5_1 wr_8_178 (fun _ _ _ h => (hbs640733 _ _ _ h).2.2.1) ?_
  refine G_klen dr_cJ0_length_8abf5_4 (fun _ _ _ h => (hbs640733 _ _ _ h).2.2.2) (G_nam fun z640735 hz640735 => ?_)
  have ez640735 : z640735.toInt = (bs640733.length : Int) := gI_ofN hz640735 (by omega)
  have bz640735 : gB z640735 0 65535 := ⟨by omega, by omega⟩
  refine G_aload_n 0 dr_cJ0_length_8abf5_5 rfl ?_
  refine Gw_callVk (As := []) (gV_ok D I) (cp_640741_String_coder l hl0 D I P640729 F640730 qs640731 qb640732 bs640733 hbs640733 nbs640733 lbs640733) dr_cJ0_length_8abf5_6 ⟨wr_3_61, wr_1_21, wr_3_64, by decide, rfl, (Nat.le_of_ble_eq_true rfl), (Nat.le_of_ble_eq_true rfl)⟩ wr_3_62 wr_3_63 (fun _ _ _ h => (hbs640733 _ _ _ h).1) (show 0 + 0 ≤ 0 by first | omega | decide) (show 0 + 0 ≤ 0 by first | omega | decide) (Nat.le_of_ble_eq_true rfl) (fun r640745 w640746 dc640742 ds640743 hp640744 => ?_) (fun _ _ _ _ _ z => z.elim)
  obtain ⟨rfl, rfl, hdc, hds⟩ := hp640744
  change G _ _ _ _ _ _ _ (.int 0 :: _) _ _ _
  refine G_widen (cs' := 0) (sl' := 0) (by omega) (by omega) ?_
  refine G_ishr dr_cJ0_length_8abf5_9 (G_nam fun z640747 hz640747 => ?_)
  have ez640747 : z640747.toInt = z640735.toInt / 1 := gI_shr (k := 0) hz640747 (by decide)
  have bz640747 : gB z640747 0 65535 := ⟨by omega, by omega⟩
  exact G_iretA dr_cJ0_length_8abf5_10 rfl (Nat.le_of_ble_eq_true rfl) (Nat.le_of_ble_eq_true rfl) ⟨z640747, rfl, rfl, (Nat.le_of_ble_eq_true rfl), (Nat.le_of_ble_eq_true rfl), bz640747, (by omega)⟩
abbrev ky_640789_AbstractStringBuilder_inflateIfNeededFor : gKey := (cJ5_inflateIfNeededFor_a7421, 2, "java/lang/AbstractStringBuilder", none, [], "inflateIfNeededFor", fun _ _ => True)
def pp_640789_AbstractStringBuilder_inflateIfNeededFor (D : va_G) (I : FieldType → ClassId) (P640777 : List Nat) (F640778 : Nat → va_E) (q640779 : Nat) (q640780 : Nat) (qs640781 : Nat) (qb640782 : Nat) (bs640783 : List Int32) (p640784 : Int32) (p640785 : Int32) (f640786 : Nat → Int32) (n640787 : Nat) : Option Value → va_W → Nat → Nat → Prop := fun r w dc ds => r = none ∧ w = va_pl P640777 F640778 ∧ dc ≤ 0 ∧ ds ≤ 0
set_option maxRecDepth 100000 in
set_option maxHeartbeats 4000000 in
theorem cp_640789_AbstractStringBuilder_inflateIfNeededFor (l : Launch) (hl0 : l.stackTraces = false) (D : va_G) (I : FieldType → ClassId) (P640777 : List Nat) (F640778 : Nat → va_E) (q640779 : Nat) (q640780 : Nat) (qs640781 : Nat) (qb640782 : Nat) (bs640783 : List Int32) (p640784 : Int32) (p640785 : Int32) (f640786 : Nat → Int32) (n640787 : Nat) (hmq640779 : q640779 ∈ P640777) (hmq640780 : q640780 ∈ P640777) (heq640779 : F640778 q640779 = .inr (1, [.ref q640780, .int 0, .int p640784, .int p640785])) (heq640780 : F640778 q640780 = .inl (I .byte, n640787, .inl f640786)) (hbs640783 : ∀ A s H, (gV D I).2.2.2.1 A s H → gSC qs640781 qb640782 bs640783 A s H) (nbs640783 : (bs640783.length : Int) ≤ 65535) (lbs640783 : gLB bs640783) (bp640784 : gB p640784 0 1) (bp640785 : gB p640785 0 16777216) (bf640786 : gF f640786 (-128) 127) (x640788 : ((n640787 : Int) ≤ 16777216)) : CtA (gV D I) l yJ5_inflateIfNeededFor_a7421 cJ5_inflateIfNeededFor_a7421 2 none 1 20 0 0 [.ref q640779, .ref qs640781] (va_pl P640777 F640778) (pp_640789_AbstractStringBuilder_inflateIfNeededFor D I P640777 F640778 q640779 q640780 qs640781 qb640782 bs640783 p640784 p640785 f640786 n640787) gNA := by
  refine CtA_ofF hl0 (by decide +kernel) (Nat.le_of_ble_eq_true rfl) ?_
  refine G_gets dr_cJ5_inflateIfNeededFor_a7421_0 wr_7_52 gz_cs (fun x hx => ?_)
  subst hx
  refine G_if_eq 21 dr_cJ5_inflateIfNeededFor_a7421_3 (by decide +kernel) (fun hc => absurd hc (by decide)) (fun _ => ?_)
  refine G_aload_n 0 dr_cJ5_inflateIfNeededFor_a7421_6 rfl ?_
  refine Gp_get 1 hmq640779 heq640779 dr_cJ5_inflateIfNeededFor_a7421_7 (gk_J4 D I) (Nat.le_of_ble_eq_true rfl) wr_7_61 rfl ?_
  refine G_aload_n 1 dr_cJ5_inflateIfNeededFor_a7421_10 rfl ?_
  refine Gw_callVk (As := []) (gV_ok D I) (cp_640741_String_coder l hl0 D I P640777 F640778 qs640781 qb640782 bs640783 hbs640783 nbs640783 lbs640783) dr_cJ5_inflateIfNeededFor_a7421_11 ⟨wr_8_159, wr_1_21, wr_3_64, by decide, rfl, (Nat.le_of_ble_eq_true rfl), (Nat.le_of_ble_eq_true rfl)⟩ wr_3_62 wr_3_63 (fun _ _ _ h => (hbs640783 _ _ _ h).1) (show 0 + 0 ≤ 0 by first | omega | decide) (show 0 + 0 ≤ 0 by first | omega | decide) (Nat.le_of_ble_eq_true rfl) (fun r640793 w640794 dc640790 ds640791 hp640792 => ?_) (fun _ _ _ _ _ z => z.elim)
  obtain ⟨rfl, rfl, hdc, hds⟩ := hp640792
  change G _ _ _ _ _ _ _ (.int 0 :: _) _ _ _
  refine G_widen (cs' := 0) (sl' := 0) (by omega) (by omega) ?_
  refine G_icmp_eq 21 dr_cJ5_inflateIfNeededFor_a7421_14 (by decide +kernel) (fun _ => ?_) (fun hc => absurd hc (by decide))
  exact G_vretA dr_cJ5_inflateIfNeededFor_a7421_21 rfl (Nat.le_of_ble_eq_true rfl) (Nat.le_of_ble_eq_true rfl) ⟨rfl, rfl, (Nat.le_of_ble_eq_true rfl), (Nat.le_of_ble_eq_true rfl)⟩
abbrev ky_640811_String_getBytes : gKey := (cJ0_getBytes_840e7, 4, "java/lang/String", none, [], "getBytes", fun _ _ => True)
def pp_640811_String_getBytes (D : va_G) (I : FieldType → ClassId) (P640800 : List Nat) (F640801 : Nat → va_E) (q640802 : Nat) (qs640803 : Nat) (qb640804 : Nat) (bs640805 : List Int32) (p640806 : Int32) (f640807 : Nat → Int32) (n640808 : Nat) : Option Value → va_W → Nat → Nat → Prop := fun r w dc ds => ∃ (F640827 : Nat → va_E) (f640825 : Nat → Int32), r = none ∧ w = va_pl P640800 F640827 ∧ rFr [q640802] P640800 F640801 F640827 ∧ F640827 q640802 = .inl (I .byte, n640808, .inl f640825) ∧ dc ≤ 0 ∧ ds ≤ 0 ∧ gF f640825 (-128) 127 ∧ sK f640807 f640825 p640806.toInt ∧ sF (fun j => bs640805.getD j 0) f640825 p640806.toInt (bs640805.length : Int)
set_option maxRecDepth 100000 in
set_option maxHeartbeats 4000000 in
theorem cp_640811_String_getBytes (l : Launch) (hl0 : l.stackTraces = false) (D : va_G) (I : FieldType → ClassId) (P640800 : List Nat) (F640801 : Nat → va_E) (q640802 : Nat) (qs640803 : Nat) (qb640804 : Nat) (bs640805 : List Int32) (p640806 : Int32) (f640807 : Nat → Int32) (n640808 : Nat) (hmq640802 : q640802 ∈ P640800) (heq640802 : F640801 q640802 = .inl (I .byte, n640808, .inl f640807)) (hbs640805 : ∀ A s H, (gV D I).2.2.2.1 A s H → gSC qs640803 qb640804 bs640805 A s H) (nbs640805 : (bs640805.length : Int) ≤ 65535) (lbs640805 : gLB bs640805) (bp640806 : gB p640806 0 16777216) (bf640807 : gF f640807 (-128) 127) (x640809 : p640806.toInt + (bs640805.length : Int) ≤ (n640808 : Int)) (x640810 : ((n640808 : Int) ≤ 16777216)) : CtA (gV D I) l yJ0_getBytes_840e7 cJ0_getBytes_840e7 4 none 1 20 0 0 [.ref qs640803, .ref q640802, .int p640806, .int 0] (va_pl P640800 F640801) (pp_640811_String_getBytes D I P640800 F640801 q640802 qs640803 qb640804 bs640805 p640806 f640807 n640808) gNA := by
  refine CtA_ofF hl0 (by decide +kernel) (Nat.le_of_ble_eq_true rfl) ?_
  refine G_aload_n 0 dr_cJ0_getBytes_840e7_0 rfl ?_
  refine Gw_callVk (As := []) (gV_ok D I) (cp_640741_String_coder l hl0 D I P640800 F640801 qs640803 qb640804 bs640805 hbs640805 nbs640805 lbs640805) dr_cJ0_getBytes_840e7_1 ⟨wr_3_61, wr_1_21, wr_3_64, by decide, rfl, (Nat.le_of_ble_eq_true rfl), (Nat.le_of_ble_eq_true rfl)⟩ wr_3_62 wr_3_63 (fun _ _ _ h => (hbs640805 _ _ _ h).1) (show 0 + 0 ≤ 0 by first | omega | decide) (show 0 + 0 ≤ 0 by first | omega | decide) (Nat.le_of_ble_eq_true rfl) (fun r640815 w640816 dc640812 ds640813 hp640814 => ?_) (fun _ _ _ _ _ z => z.elim)
  obtain ⟨rfl, rfl, hdc, hds⟩ := hp640814
  change G _ _ _ _ _ _ _ (.int 0 :: _) _ _ _
  refine G_widen (cs' := 0) (sl' := 0) (by omega) (by omega) ?_
  refine G_iload_n 3 dr_cJ0_getBytes_840e7_4 rfl ?_
  refine G_icmp_ne 28 dr_cJ0_getBytes_840e7_5 (by decide +kernel) (fun hc => absurd hc (by decide)) (fun _ => ?_)
  refine G_aload_n 0 dr_cJ0_getBytes_840e7_8 rfl ?_
  refine G_kget dr_cJ0_getBytes_840e7_9 wr_8_178 (fun _ _ _ h => (hbs640805 _ _ _ h).2.2.1) ?_
  refine G_iconst 0 dr_cJ0_getBytes_840e7_12 (by decide +kernel) ?_
  refine G_aload_n 1 dr_cJ0_getBytes_840e7_13 rfl ?_
  refine G_iload_n 2 dr_cJ0_getBytes_840e7_14 rfl ?_
  refine G_iload_n 3 dr_cJ0_getBytes_840e7_15 rfl ?_
  refine G_ishl dr_cJ0_getBytes_840e7_16 (G_nam fun z640817 hz640817 => ?_)
  have ez640817 : z640817.toInt = p640806.toInt * 1 := gI_shl (k := 0) hz640817 (by decide) bp640806 (by decide) (by decide)
  have bz640817 : gB z640817 0 16777216 := ⟨by omega, by omega⟩
  refine G_aload_n 0 dr_cJ0_getBytes_840e7_17 rfl ?_
  refine G_kget dr_cJ0_getBytes_840e7_18 wr_8_178 (fun _ _ _ h => (hbs640805 _ _ _ h).2.2.1) ?_
  refine G_klen dr_cJ0_getBytes_840e7_21 (fun _ _ _ h => (hbs640805 _ _ _ h).2.2.2) (G_nam fun z640818 hz640818 => ?_)
  have ez640818 : z640818.toInt = (bs640805.length : Int) := gI_ofN hz640818 (by omega)
  have bz640818 : gB z640818 0 65535 := ⟨by omega, by omega⟩
  refine Gp_copyK 1 (fun _ _ _ h => (hbs640805 _ _ _ h).2.2.2) hmq640802 heq640802 dr_cJ0_getBytes_840e7_22 wr_8_164 wr_5_113 wr_5_112 wr_1_34 rfl (gF_lst lbs640805) (by decide) (by omega) (by omega) (by have qa0 : Int32.toInt 0 = 0 := (by decide); omega) (by have qa0 : Int32.toInt 0 = 0 := (by decide); omega) (Nat.le_of_ble_eq_true rfl) (Nat.le_of_ble_eq_true rfl) (fun F640819 e640820 n640821 => ?_)
  obtain ⟨f640822, hf640822⟩ : ∃ z, z = va_cpy (fun j => bs640805.getD j 0) f640807 (0 : Int32).toNatClampNeg z640817.toNatClampNeg z640818.toNatClampNeg := ⟨_, rfl⟩
  rw [← hf640822] at e640820
  have bf640822 : gF f640822 (-128) 127 := gF_cpy hf640822 (gF_lst lbs640805) bf640807
  have he640823 : F640819 q640802 = .inl (I .byte, n640808, .inl f640822) := e640820
  have hfr640824 : rFr [q640802] P640800 F640801 F640819 := rFr_put (rFr_rf (W := []) (P := P640800) (F := F640801)) n640821
  refine G_goto 43 dr_cJ0_getBytes_840e7_25 (by decide +kernel) ?_
  exact G_vretA dr_cJ0_getBytes_840e7_43 rfl (Nat.le_of_ble_eq_true rfl) (Nat.le_of_ble_eq_true rfl) ⟨F640819, f640822, rfl, rfl, hfr640824, he640823, (Nat.le_of_ble_eq_true rfl), (Nat.le_of_ble_eq_true rfl), bf640822, (sK_cpy hf640822 (by omega)), (sF_cpy hf640822 (by decide) (by omega) (by omega))⟩
abbrev ky_640776_AbstractStringBuilder_putStringAt : gKey := (cJ5_putStringAt_47b60, 3, "java/lang/AbstractStringBuilder", none, [], "putStringAt", fun _ _ => True)
def pp_640776_AbstractStringBuilder_putStringAt (D : va_G) (I : FieldType → ClassId) (P640762 : List Nat) (F640763 : Nat → va_E) (q640764 : Nat) (q640765 : Nat) (p640766 : Int32) (qs640767 : Nat) (qb640768 : Nat) (bs640769 : List Int32) (p640770 : Int32) (p640771 : Int32) (f640772 : Nat → Int32) (n640773 : Nat) : Option Value → va_W → Nat → Nat → Prop := fun r w dc ds => ∃ (F640844 : Nat → va_E) (f640842 : Nat → Int32), r = none ∧ w = va_pl P640762 F640844 ∧ rFr [q640765] P640762 F640763 F640844 ∧ F640844 q640764 = .inr (1, [.ref q640765, .int 0, .int p640770, .int p640771]) ∧ F640844 q640765 = .inl (I .byte, n640773, .inl f640842) ∧ dc ≤ 0 ∧ ds ≤ 0 ∧ gF f640842 (-128) 127 ∧ sK f640772 f640842 p640766.toInt ∧ sF (fun j => bs640769.getD j 0) f640842 p640766.toInt (bs640769.length : Int)
set_option maxRecDepth 100000 in
set_option maxHeartbeats 4000000 in
theorem cp_640776_AbstractStringBuilder_putStringAt (l : Launch) (hl0 : l.stackTraces = false) (D : va_G) (I : FieldType → ClassId) (P640762 : List Nat) (F640763 : Nat → va_E) (q640764 : Nat) (q640765 : Nat) (p640766 : Int32) (qs640767 : Nat) (qb640768 : Nat) (bs640769 : List Int32) (p640770 : Int32) (p640771 : Int32) (f640772 : Nat → Int32) (n640773 : Nat) (hmq640764 : q640764 ∈ P640762) (hmq640765 : q640765 ∈ P640762) (heq640764 : F640763 q640764 = .inr (1, [.ref q640765, .int 0, .int p640770, .int p640771])) (heq640765 : F640763 q640765 = .inl (I .byte, n640773, .inl f640772)) (hbs640769 : ∀ A s H, (gV D I).2.2.2.1 A s H → gSC qs640767 qb640768 bs640769 A s H) (nbs640769 : (bs640769.length : Int) ≤ 65535) (lbs640769 : gLB bs640769) (bp640766 : gB p640766 0 16777216) (bp640770 : gB p640770 0 1) (bp640771 : gB p640771 0 16777216) (bf640772 : gF f640772 (-128) 127) (x640774 : p640766.toInt + (bs640769.length : Int) ≤ (n640773 : Int)) (x640775 : ((n640773 : Int) ≤ 16777216)) : CtA (gV D I) l yJ5_putStringAt_47b60 cJ5_putStringAt_47b60 3 none 2 43 0 0 [.ref q640764, .int p640766, .ref qs640767] (va_pl P640762 F640763) (pp_640776_AbstractStringBuilder_putStringAt D I P640762 F640763 q640764 q640765 p640766 qs640767 qb640768 bs640769 p640770 p640771 f640772 n640773) gNA := by
  refine CtA_ofF hl0 (by decide +kernel) (Nat.le_of_ble_eq_true rfl) ?_
  refine G_aload_n 0 dr_cJ5_putStringAt_47b60_0 rfl ?_
  refine G_aload_n 2 dr_cJ5_putStringAt_47b60_1 rfl ?_
  refine Gw_callVB (As := [.ref qs640767]) (gV_ok D I) (cp_640789_AbstractStringBuilder_inflateIfNeededFor l hl0 D I P640762 F640763 q640764 q640765 qs640767 qb640768 bs640769 p640770 p640771 f640772 n640773 hmq640764 hmq640765 heq640764 heq640765 hbs640769 nbs640769 lbs640769 bp640770 bp640771 bf640772 (by have qa0 : Int32.toInt 0 = 0 := (by decide); omega)) dr_cJ5_putStringAt_47b60_2 ⟨wr_8_155, wr_1_19, wr_8_158, by decide, rfl, (Nat.le_of_ble_eq_true rfl), (Nat.le_of_ble_eq_true rfl)⟩ wr_8_157 wr_s_5 hmq640764 heq640764 rfl (show 0 + 0 ≤ 0 by first | omega | decide) (show 0 + 0 ≤ 0 by first | omega | decide) (Nat.le_of_ble_eq_true rfl) (fun r640798 w640799 dc640795 ds640796 hp640797 => ?_) (fun _ _ _ _ _ z => z.elim)
  obtain ⟨rfl, rfl, hdc, hds⟩ := hp640797
  change G _ _ _ _ _ _ _ _ _ _ _
  refine G_widen (cs' := 0) (sl' := 0) (by omega) (by omega) ?_
  refine G_aload_n 2 dr_cJ5_putStringAt_47b60_5 rfl ?_
  refine G_aload_n 0 dr_cJ5_putStringAt_47b60_6 rfl ?_
  refine Gp_get 0 hmq640764 heq640764 dr_cJ5_putStringAt_47b60_7 (gk_J4 D I) (Nat.le_of_ble_eq_true rfl) wr_7_60 rfl ?_
  refine G_iload_n 1 dr_cJ5_putStringAt_47b60_10 rfl ?_
  refine G_aload_n 0 dr_cJ5_putStringAt_47b60_11 rfl ?_
  refine Gp_get 1 hmq640764 heq640764 dr_cJ5_putStringAt_47b60_12 (gk_J4 D I) (Nat.le_of_ble_eq_true rfl) wr_7_61 rfl ?_
  refine Gw_callVk (As := [.ref q640765, .int p640766, .int 0]) (gV_ok D I) (cp_640811_String_getBytes l hl0 D I P640762 F640763 q640765 qs640767 qb640768 bs640769 p640766 f640772 n640773 hmq640765 heq640765 hbs640769 nbs640769 lbs640769 bp640766 bf640772 (by have qa0 : Int32.toInt 0 = 0 := (by decide); omega) (by have qa0 : Int32.toInt 0 = 0 := (by decide); omega)) dr_cJ5_putStringAt_47b60_15 ⟨wr_8_160, wr_1_21, wr_8_163, by decide, rfl, (Nat.le_of_ble_eq_true rfl), (Nat.le_of_ble_eq_true rfl)⟩ wr_8_161 wr_8_162 (fun _ _ _ h => (hbs640769 _ _ _ h).1) (show 0 + 0 ≤ 0 by first | omega | decide) (show 0 + 0 ≤ 0 by first | omega | decide) (Nat.le_of_ble_eq_true rfl) (fun r640831 w640832 dc640828 ds640829 hp640830 => ?_) (fun _ _ _ _ _ z => z.elim)
  obtain ⟨F640836, f640833, rfl, rfl, hfr640838, he640839, hdc, hds, bf640833, x640834, x640835⟩ := hp640830
  have he640840 : F640836 q640764 = .inr (1, [.ref q640765, .int 0, .int p640770, .int p640771]) := (hfr640838 q640764 hmq640764 (nm_c (rn_oa heq640764 heq640765) nm_n)).trans heq640764
  have hfr640841 : rFr [q640765] P640762 F640763 F640836 := rFr_call (rSub_rf (P := P640762)) (rFr_rf (W := []) (P := P640762) (F := F640763)) hfr640838 (fun b hb hn => ⟨nm_n, (nm_c (fun e => hn (e ▸ List.mem_cons_self)) nm_n)⟩)
  change G _ _ _ _ _ _ _ _ _ _ _
  refine G_widen (cs' := 0) (sl' := 0) (by omega) (by omega) ?_
  exact G_vretA dr_cJ5_putStringAt_47b60_18 rfl (Nat.le_of_ble_eq_true rfl) (Nat.le_of_ble_eq_true rfl) ⟨F640836, f640833, rfl, rfl, hfr640841, he640840, he640839, (Nat.le_of_ble_eq_true rfl), (Nat.le_of_ble_eq_true rfl), bf640833, (sK_c x640834 (by omega)), (by assumption)⟩
abbrev ky_640728_AbstractStringBuilder_append : gKey := (cJ5_append_cf1ce, 3, "java/lang/AbstractStringBuilder", (some (FieldType.object "java/lang/AbstractStringBuilder")), [], "append", fun _ _ => True)
def pp_640728_AbstractStringBuilder_append (D : va_G) (I : FieldType → ClassId) (P640715 : List Nat) (F640716 : Nat → va_E) (q640717 : Nat) (q640718 : Nat) (qs640719 : Nat) (qb640720 : Nat) (bs640721 : List Int32) (p640722 : Int32) (p640723 : Int32) (f640724 : Nat → Int32) (n640725 : Nat) : Option Value → va_W → Nat → Nat → Prop := fun r w dc ds => ∃ (F640869 : Nat → va_E) (o640866 : Int32) (f640867 : Nat → Int32), r = some (.ref q640717) ∧ w = va_pl P640715 F640869 ∧ rFr [q640717, q640718] P640715 F640716 F640869 ∧ F640869 q640717 = .inr (1, [.ref q640718, .int 0, .int p640722, .int o640866]) ∧ F640869 q640718 = .inl (I .byte, n640725, .inl f640867) ∧ dc ≤ 0 ∧ ds ≤ 0 ∧ gB o640866 0 16777216 ∧ gF f640867 (-128) 127 ∧ o640866.toInt = p640723.toInt + (bs640721.length : Int) ∧ sK f640724 f640867 p640723.toInt ∧ sF (fun j => bs640721.getD j 0) f640867 p640723.toInt (bs640721.length : Int)
set_option maxRecDepth 100000 in
set_option maxHeartbeats 4000000 in
theorem cp_640728_AbstractStringBuilder_append (l : Launch) (hl0 : l.stackTraces = false) (D : va_G) (I : FieldType → ClassId) (P640715 : List Nat) (F640716 : Nat → va_E) (q640717 : Nat) (q640718 : Nat) (qs640719 : Nat) (qb640720 : Nat) (bs640721 : List Int32) (p640722 : Int32) (p640723 : Int32) (f640724 : Nat → Int32) (n640725 : Nat) (hmq640717 : q640717 ∈ P640715) (hmq640718 : q640718 ∈ P640715) (heq640717 : F640716 q640717 = .inr (1, [.ref q640718, .int 0, .int p640722, .int p640723])) (heq640718 : F640716 q640718 = .inl (I .byte, n640725, .inl f640724)) (hbs640721 : ∀ A s H, (gV D I).2.2.2.1 A s H → gSC qs640719 qb640720 bs640721 A s H) (nbs640721 : (bs640721.length : Int) ≤ 65535) (lbs640721 : gLB bs640721) (bp640722 : gB p640722 0 1) (bp640723 : gB p640723 0 16777216) (bf640724 : gF f640724 (-128) 127) (x640726 : p640723.toInt + (bs640721.length : Int) ≤ (n640725 : Int)) (x640727 : ((n640725 : Int) ≤ 16777216)) : CtA (gV D I) l yJ5_append_cf1ce cJ5_append_cf1ce 3 (some (FieldType.object "java/lang/AbstractStringBuilder")) 3 65 0 0 [.ref q640717, .ref qs640719] (va_pl P640715 F640716) (pp_640728_AbstractStringBuilder_append D I P640715 F640716 q640717 q640718 qs640719 qb640720 bs640721 p640722 p640723 f640724 n640725) gNA := by
  refine CtA_ofF hl0 (by decide +kernel) (Nat.le_of_ble_eq_true rfl) ?_
  refine G_aload_n 1 dr_cJ5_append_cf1ce_0 rfl ?_
  refine G_ifnonnull 9 dr_cJ5_append_cf1ce_1 (by decide +kernel) ?_
  refine G_aload_n 1 dr_cJ5_append_cf1ce_9 rfl ?_
  refine Gw_callVk (As := []) (gV_ok D I) (cp_640734_String_length l hl0 D I P640715 F640716 qs640719 qb640720 bs640721 hbs640721 nbs640721 lbs640721) dr_cJ5_append_cf1ce_10 ⟨wr_8_150, wr_1_21, wr_3_60, by decide, rfl, (Nat.le_of_ble_eq_true rfl), (Nat.le_of_ble_eq_true rfl)⟩ wr_3_58 wr_3_59 (fun _ _ _ h => (hbs640721 _ _ _ h).1) (show 0 + 0 ≤ 0 by first | omega | decide) (show 0 + 0 ≤ 0 by first | omega | decide) (Nat.le_of_ble_eq_true rfl) (fun r640752 w640753 dc640749 ds640750 hp640751 => ?_) (fun _ _ _ _ _ z => z.elim)
  obtain ⟨o640754, rfl, rfl, hdc, hds, bo640754, x640755⟩ := hp640751
  change G _ _ _ _ _ _ _ (.int o640754 :: _) _ _ _
  refine G_widen (cs' := 0) (sl' := 0) (by omega) (by omega) ?_
  refine G_istore_n (L' := [(2, .int o640754), (0, .ref q640717), (1, .ref qs640719)]) dr_cJ5_append_cf1ce_13 (Nat.le_of_ble_eq_true rfl) rfl ?_
  refine G_aload_n 1 dr_cJ5_append_cf1ce_14 rfl ?_
  refine G_aload_n 1 dr_cJ5_append_cf1ce_15 rfl ?_
  refine Gp_get 3 hmq640717 heq640717 dr_cJ5_append_cf1ce_16 (gk_J4 D I) (Nat.le_of_ble_eq_true rfl) wr_7_64 rfl ?_
  refine G_iload_n 0 dr_cJ5_append_cf1ce_19 rfl ?_
  refine G_iadd dr_cJ5_append_cf1ce_20 (G_nam fun z640756 hz640756 => ?_)
  have ez640756 : z640756.toInt = p640723.toInt + o640754.toInt := by rw [gI_add hz640756 bp640723 bo640754 (by decide) (by decide)]
  have bz640756 : gB z640756 0 16842751 := gB_add (gI_add hz640756 bp640723 bo640754 (by decide) (by decide)) bp640723 bo640754 (by decide) (by decide)
  refine Gw_callVB (As := [.int z640756]) (gV_ok D I) (cp_640016_AbstractStringBuilder_ensureCapacityInternal l hl0 D I P640715 F640716 q640717 q640718 z640756 p640722 p640723 f640724 n640725 hmq640717 hmq640718 heq640717 heq640718 ⟨by omega, by omega⟩ bp640722 bp640723 bf640724 (by have qa0 : Int32.toInt 0 = 0 := (by decide); omega) (by have qa0 : Int32.toInt 0 = 0 := (by decide); omega)) dr_cJ5_append_cf1ce_21 ⟨wr_8_0, wr_1_19, wr_8_3, by decide, rfl, (Nat.le_of_ble_eq_true rfl), (Nat.le_of_ble_eq_true rfl)⟩ wr_8_2 wr_s_0 hmq640717 heq640717 rfl (show 0 + 0 ≤ 0 by first | omega | decide) (show 0 + 0 ≤ 0 by first | omega | decide) (Nat.le_of_ble_eq_true rfl) (fun r640760 w640761 dc640757 ds640758 hp640759 => ?_) (fun _ _ _ _ _ z => z.elim)
  obtain ⟨rfl, rfl, hdc, hds⟩ := hp640759
  change G _ _ _ _ _ _ _ _ _ _ _
  refine G_widen (cs' := 0) (sl' := 0) (by omega) (by omega) ?_
  refine G_aload_n 1 dr_cJ5_append_cf1ce_24 rfl ?_
  refine G_aload_n 1 dr_cJ5_append_cf1ce_25 rfl ?_
  refine Gp_get 3 hmq640717 heq640717 dr_cJ5_append_cf1ce_26 (gk_J4 D I) (Nat.le_of_ble_eq_true rfl) wr_7_64 rfl ?_
  refine G_aload_n 2 dr_cJ5_append_cf1ce_29 rfl ?_
  refine Gw_callVB (As := [.int p640723, .ref qs640719]) (gV_ok D I) (cp_640776_AbstractStringBuilder_putStringAt l hl0 D I P640715 F640716 q640717 q640718 p640723 qs640719 qb640720 bs640721 p640722 p640723 f640724 n640725 hmq640717 hmq640718 heq640717 heq640718 hbs640721 nbs640721 lbs640721 bp640723 bp640722 bp640723 bf640724 (by have qa0 : Int32.toInt 0 = 0 := (by decide); omega) (by have qa0 : Int32.toInt 0 = 0 := (by decide); omega)) dr_cJ5_append_cf1ce_30 ⟨wr_8_151, wr_1_19, wr_8_154, by decide, rfl, (Nat.le_of_ble_eq_true rfl), (Nat.le_of_ble_eq_true rfl)⟩ wr_8_153 wr_s_4 hmq640717 heq640717 rfl (show 0 + 0 ≤ 0 by first | omega | decide) (show 0 + 0 ≤ 0 by first | omega | decide) (Nat.le_of_ble_eq_true rfl) (fun r640848 w640849 dc640845 ds640846 hp640847 => ?_) (fun _ _ _ _ _ z => z.elim)
  obtain ⟨F640853, f640850, rfl, rfl, hfr640855, he640856, he640857, hdc, hds, bf640850, x640851, x640852⟩ := hp640847
  have hfr640858 : rFr [q640718] P640715 F640716 F640853 := rFr_call (rSub_rf (P := P640715)) (rFr_rf (W := []) (P := P640715) (F := F640716)) hfr640855 (fun b hb hn => ⟨nm_n, (nm_c (fun e => hn (e ▸ List.mem_cons_self)) nm_n)⟩)
  change G _ _ _ _ _ _ _ _ _ _ _
  refine G_widen (cs' := 0) (sl' := 0) (by omega) (by omega) ?_
  refine G_aload_n 1 dr_cJ5_append_cf1ce_33 rfl ?_
  refine G_dup dr_cJ5_append_cf1ce_34 rfl ?_
  refine Gp_get 3 hmq640717 he640856 dr_cJ5_append_cf1ce_35 (gk_J4 D I) (Nat.le_of_ble_eq_true rfl) wr_7_64 rfl ?_
  refine G_iload_n 0 dr_cJ5_append_cf1ce_38 rfl ?_
  refine G_iadd dr_cJ5_append_cf1ce_39 (G_nam fun z640859 hz640859 => ?_)
  have ez640859 : z640859.toInt = p640723.toInt + o640754.toInt := by rw [gI_add hz640859 bp640723 bo640754 (by decide) (by decide)]
  have bz640859 : gB z640859 0 16842751 := gB_add (gI_add hz640859 bp640723 bo640754 (by decide) (by decide)) bp640723 bo640754 (by decide) (by decide)
  refine Gp_put 3 hmq640717 he640856 dr_cJ5_append_cf1ce_40 (gk_J4 D I) (Nat.le_of_ble_eq_true rfl) wr_7_64 rfl rfl rfl (Nat.le_of_ble_eq_true rfl) (fun F640860 e640861 n640862 => ?_)
  have he640863 : F640860 q640718 = .inl (I .byte, n640725, .inl f640850) := (n640862 q640718 (rn_ao he640857 he640856)).trans he640857
  have he640864 : F640860 q640717 = .inr (1, [.ref q640718, .int 0, .int p640722, .int z640859]) := e640861
  have hfr640865 : rFr [q640717, q640718] P640715 F640716 F640860 := rFr_put hfr640858 n640862
  refine G_aload_n 1 dr_cJ5_append_cf1ce_43 rfl ?_
  exact G_aretA (FieldType.object "java/lang/AbstractStringBuilder") dr_cJ5_append_cf1ce_44 rfl (by first | exact Or.inl ⟨_, rfl⟩ | exact Or.inr ⟨_, rfl⟩) (Or.inr ⟨_, rfl⟩) (Nat.le_of_ble_eq_true rfl) (Nat.le_of_ble_eq_true rfl) ⟨F640860, z640859, f640850, rfl, rfl, hfr640865, he640864, he640863, (Nat.le_of_ble_eq_true rfl), (Nat.le_of_ble_eq_true rfl), ⟨by omega, by omega⟩, bf640850, (by have qa0 : Int32.toInt 0 = 0 := (by decide); omega), (sK_c x640851 (by omega)), (by assumption)⟩
abbrev ky_640714_StringBuilder_append : gKey := (cJ4_append_15ec4, 2, "java/lang/StringBuilder", (some (FieldType.object "java/lang/StringBuilder")), [], "append", fun _ _ => True)
def pp_640714_StringBuilder_append (D : va_G) (I : FieldType → ClassId) (P640701 : List Nat) (F640702 : Nat → va_E) (q640703 : Nat) (q640704 : Nat) (qs640705 : Nat) (qb640706 : Nat) (bs640707 : List Int32) (p640708 : Int32) (p640709 : Int32) (f640710 : Nat → Int32) (n640711 : Nat) : Option Value → va_W → Nat → Nat → Prop := fun r w dc ds => ∃ (F640889 : Nat → va_E) (o640886 : Int32) (f640887 : Nat → Int32), r = some (.ref q640703) ∧ w = va_pl P640701 F640889 ∧ rFr [q640703, q640704] P640701 F640702 F640889 ∧ F640889 q640703 = .inr (1, [.ref q640704, .int 0, .int p640708, .int o640886]) ∧ F640889 q640704 = .inl (I .byte, n640711, .inl f640887) ∧ dc ≤ 0 ∧ ds ≤ 0 ∧ gB o640886 0 16777216 ∧ gF f640887 (-128) 127 ∧ o640886.toInt = p640709.toInt + (bs640707.length : Int) ∧ sK f640710 f640887 p640709.toInt ∧ sF (fun j => bs640707.getD j 0) f640887 p640709.toInt (bs640707.length : Int)
set_option maxRecDepth 100000 in
set_option maxHeartbeats 4000000 in
theorem cp_640714_StringBuilder_append (l : Launch) (hl0 : l.stackTraces = false) (D : va_G) (I : FieldType → ClassId) (P640701 : List Nat) (F640702 : Nat → va_E) (q640703 : Nat) (q640704 : Nat) (qs640705 : Nat) (qb640706 : Nat) (bs640707 : List Int32) (p640708 : Int32) (p640709 : Int32) (f640710 : Nat → Int32) (n640711 : Nat) (hmq640703 : q640703 ∈ P640701) (hmq640704 : q640704 ∈ P640701) (heq640703 : F640702 q640703 = .inr (1, [.ref q640704, .int 0, .int p640708, .int p640709])) (heq640704 : F640702 q640704 = .inl (I .byte, n640711, .inl f640710)) (hbs640707 : ∀ A s H, (gV D I).2.2.2.1 A s H → gSC qs640705 qb640706 bs640707 A s H) (nbs640707 : (bs640707.length : Int) ≤ 65535) (lbs640707 : gLB bs640707) (bp640708 : gB p640708 0 1) (bp640709 : gB p640709 0 16777216) (bf640710 : gF f640710 (-128) 127) (x640712 : p640709.toInt + (bs640707.length : Int) ≤ (n640711 : Int)) (x640713 : ((n640711 : Int) ≤ 16777216)) : CtA (gV D I) l yJ4_append_15ec4 cJ4_append_15ec4 2 (some (FieldType.object "java/lang/StringBuilder")) 4 87 0 0 [.ref q640703, .ref qs640705] (va_pl P640701 F640702) (pp_640714_StringBuilder_append D I P640701 F640702 q640703 q640704 qs640705 qb640706 bs640707 p640708 p640709 f640710 n640711) gNA := by
  refine CtA_ofF hl0 (by decide +kernel) (Nat.le_of_ble_eq_true rfl) ?_
  refine G_aload_n 0 dr_cJ4_append_15ec4_0 rfl ?_
  refine G_aload_n 1 dr_cJ4_append_15ec4_1 rfl ?_
  refine Gw_callSU (As := [.ref qs640705]) (gV_ok D I) (cp_640728_AbstractStringBuilder_append l hl0 D I P640701 F640702 q640703 q640704 qs640705 qb640706 bs640707 p640708 p640709 f640710 n640711 hmq640703 hmq640704 heq640703 heq640704 hbs640707 nbs640707 lbs640707 bp640708 bp640709 bf640710 (by have qa0 : Int32.toInt 0 = 0 := (by decide); omega) (by have qa0 : Int32.toInt 0 = 0 := (by decide); omega)) dr_cJ4_append_15ec4_2 ⟨wr_8_140, wr_1_19, wr_8_142, by decide, rfl, (Nat.le_of_ble_eq_true rfl), (Nat.le_of_ble_eq_true rfl)⟩ wr_8_141 wr_11_225 wr_7_73 wr_7_44 (by decide) hmq640703 heq640703 rfl (show 0 + 0 ≤ 0 by first | omega | decide) (show 0 + 0 ≤ 0 by first | omega | decide) (Nat.le_of_ble_eq_true rfl) (fun r640873 w640874 dc640870 ds640871 hp640872 => ?_)
  obtain ⟨F640880, o640875, f640876, rfl, rfl, hfr640882, he640883, he640884, hdc, hds, bo640875, bf640876, x640877, x640878, x640879⟩ := hp640872
  have hfr640885 : rFr [q640703, q640704] P640701 F640702 F640880 := rFr_call (rSub_rf (P := P640701)) (rFr_rf (W := []) (P := P640701) (F := F640702)) hfr640882 (fun b hb hn => ⟨nm_n, (nm_c (fun e => hn (e ▸ List.mem_cons_self)) (nm_c (fun e => hn (e ▸ (List.mem_cons_of_mem _ List.mem_cons_self))) nm_n))⟩)
  change G _ _ _ _ _ _ _ (.ref q640703 :: _) _ _ _
  refine G_widen (cs' := 0) (sl' := 0) (by omega) (by omega) ?_
  refine G_pop dr_cJ4_append_15ec4_5 rfl ?_
  refine G_aload_n 0 dr_cJ4_append_15ec4_6 rfl ?_
  exact G_aretA (FieldType.object "java/lang/StringBuilder") dr_cJ4_append_15ec4_7 rfl (by first | exact Or.inl ⟨_, rfl⟩ | exact Or.inr ⟨_, rfl⟩) (Or.inr ⟨_, rfl⟩) (Nat.le_of_ble_eq_true rfl) (Nat.le_of_ble_eq_true rfl) ⟨F640880, o640875, f640876, rfl, rfl, hfr640885, he640883, he640884, (Nat.le_of_ble_eq_true rfl), (Nat.le_of_ble_eq_true rfl), bo640875, bf640876, (by have qa0 : Int32.toInt 0 = 0 := (by decide); omega), (sK_c x640878 (by omega)), (by assumption)⟩
abbrev ky_640929_AbstractStringBuilder_append : gKey := (cJ5_append_cf1ce, 3, "java/lang/AbstractStringBuilder", (some (FieldType.object "java/lang/AbstractStringBuilder")), [], "append", fun _ _ => True)
def pp_640929_AbstractStringBuilder_append (D : va_G) (I : FieldType → ClassId) (P640910 : List Nat) (F640911 : Nat → va_E) (q640912 : Nat) (q640913 : Nat) (q640914 : Nat) (q640915 : Nat) (p640916 : Int32) (p640917 : Int32) (p640918 : Int32) (p640919 : Int32) (f640920 : Nat → Int32) (n640921 : Nat) (f640922 : Nat → Int32) (n640923 : Nat) : Option Value → va_W → Nat → Nat → Prop := fun r w dc ds => ∃ (P640998 : List Nat) (F640999 : Nat → va_E) (o640994 : Int32) (q640995 : Nat) (n640996 : Nat) (f640997 : Nat → Int32), r = some (.ref q640912) ∧ w = va_pl P640998 F640999 ∧ rSub P640910 P640998 ∧ rFr [q640912, q640914] P640910 F640911 F640999 ∧ F640999 q640912 = .inr (1, [.ref q640995, .int 0, .int p640916, .int o640994]) ∧ F640999 q640913 = .inr (0, [.ref q640915, .int 0, .int p640918, .int p640919]) ∧ F640999 q640995 = .inl (I .byte, n640996, .inl f640997) ∧ F640999 q640915 = .inl (I .byte, n640923, .inl f640922) ∧ q640995 ∈ P640998 ∧ (q640995 = q640914 ∨ q640995 ∉ P640910) ∧ dc ≤ 1 ∧ ds ≤ 2 * (n640996 - n640921) ∧ gB o640994 0 16777216 ∧ gF f640997 (-128) 127 ∧ o640994.toInt = p640917.toInt + (n640923 : Int) ∧ o640994.toInt ≤ (n640996 : Int) ∧ (n640921 : Int) ≤ (n640996 : Int) ∧ (n640996 : Int) ≤ 2 * (n640921 : Int) + 2 + p640917.toInt + (n640923 : Int) ∧ ((n640996 : Int) = (n640921 : Int) ∨ (n640921 : Int) < o640994.toInt)
set_option maxRecDepth 100000 in
set_option maxHeartbeats 4000000 in
theorem cp_640929_AbstractStringBuilder_append (l : Launch) (hl0 : l.stackTraces = false) (D : va_G) (I : FieldType → ClassId) (P640910 : List Nat) (F640911 : Nat → va_E) (q640912 : Nat) (q640913 : Nat) (q640914 : Nat) (q640915 : Nat) (p640916 : Int32) (p640917 : Int32) (p640918 : Int32) (p640919 : Int32) (f640920 : Nat → Int32) (n640921 : Nat) (f640922 : Nat → Int32) (n640923 : Nat) (hmq640912 : q640912 ∈ P640910) (hmq640913 : q640913 ∈ P640910) (hmq640914 : q640914 ∈ P640910) (hmq640915 : q640915 ∈ P640910) (heq640912 : F640911 q640912 = .inr (1, [.ref q640914, .int 0, .int p640916, .int p640917])) (heq640913 : F640911 q640913 = .inr (0, [.ref q640915, .int 0, .int p640918, .int p640919])) (heq640914 : F640911 q640914 = .inl (I .byte, n640921, .inl f640920)) (heq640915 : F640911 q640915 = .inl (I .byte, n640923, .inl f640922)) (hneq640914q640915 : q640914 ≠ q640915) (bp640916 : gB p640916 0 1) (bp640917 : gB p640917 0 16777216) (bp640919 : gB p640919 0 1) (bf640920 : gF f640920 (-128) 127) (bf640922 : gF f640922 (-128) 127) (x640924 : (n640923 : Int) ≤ 65535) (x640925 : (n640921 : Int) ≤ 8388608 - 100000) (x640926 : p640917.toInt ≤ (n640921 : Int)) (x640927 : ((n640921 : Int) ≤ 16777216)) (x640928 : ((n640923 : Int) ≤ 16777216)) : CtA (gV D I) l yJ5_append_cf1ce cJ5_append_cf1ce 3 (some (FieldType.object "java/lang/AbstractStringBuilder")) 4 84 1 (4 * n640921 + 4 + 2 * n640923) [.ref q640912, .ref q640913] (va_pl P640910 F640911) (pp_640929_AbstractStringBuilder_append D I P640910 F640911 q640912 q640913 q640914 q640915 p640916 p640917 p640918 p640919 f640920 n640921 f640922 n640923) gNA := by
  refine CtA_ofF hl0 (by decide +kernel) (Nat.le_of_ble_eq_true rfl) ?_
  have bp640918 := gB_any p640918
  refine G_aload_n 1 dr_cJ5_append_cf1ce_0 rfl ?_
  refine G_ifnonnull 9 dr_cJ5_append_cf1ce_1 (by decide +kernel) ?_
  refine G_aload_n 1 dr_cJ5_append_cf1ce_9 rfl ?_
  refine Gw_callV (As := []) (gV_ok D I) (cp_640519_String_length l hl0 D I P640910 F640911 q640913 q640915 p640918 p640919 f640922 n640923 hmq640913 hmq640915 heq640913 heq640915 bp640919 bf640922 (by have qa0 : Int32.toInt 0 = 0 := (by decide); omega)) dr_cJ5_append_cf1ce_10 ⟨wr_8_150, wr_1_21, wr_3_60, by decide, rfl, (Nat.le_of_ble_eq_true rfl), (Nat.le_of_ble_eq_true rfl)⟩ wr_3_58 wr_3_59 hmq640913 heq640913 rfl (show 0 + 0 ≤ 1 by first | omega | decide) (show 0 + 0 ≤ (4 * n640921 + 4 + 2 * n640923) by first | omega | decide) (Nat.le_of_ble_eq_true rfl) (fun r640933 w640934 dc640930 ds640931 hp640932 => ?_) (fun _ _ _ _ _ z => z.elim)
  obtain ⟨o640935, rfl, rfl, hdc, hds, bo640935, x640936⟩ := hp640932
  change G _ _ _ _ _ _ _ (.int o640935 :: _) _ _ _
  refine G_widen (cs' := 0) (sl' := 0) (by omega) (by omega) ?_
  refine G_istore_n (L' := [(2, .int o640935), (0, .ref q640912), (1, .ref q640913)]) dr_cJ5_append_cf1ce_13 (Nat.le_of_ble_eq_true rfl) rfl ?_
  refine G_aload_n 1 dr_cJ5_append_cf1ce_14 rfl ?_
  refine G_aload_n 1 dr_cJ5_append_cf1ce_15 rfl ?_
  refine Gp_get 3 hmq640912 heq640912 dr_cJ5_append_cf1ce_16 (gk_J4 D I) (Nat.le_of_ble_eq_true rfl) wr_7_64 rfl ?_
  refine G_iload_n 0 dr_cJ5_append_cf1ce_19 rfl ?_
  refine G_iadd dr_cJ5_append_cf1ce_20 (G_nam fun z640937 hz640937 => ?_)
  have ez640937 : z640937.toInt = p640917.toInt + o640935.toInt := by rw [gI_add hz640937 bp640917 bo640935 (by decide) (by decide)]
  have bz640937 : gB z640937 0 33554432 := gB_add (gI_add hz640937 bp640917 bo640935 (by decide) (by decide)) bp640917 bo640935 (by decide) (by decide)
  refine Gw_callVB (As := [.int z640937]) (gV_ok D I) (cp_640133_AbstractStringBuilder_ensureCapacityInternal l hl0 D I P640910 F640911 q640912 q640914 z640937 p640916 p640917 f640920 n640921 hmq640912 hmq640914 heq640912 heq640914 ⟨by omega, by omega⟩ bp640916 bp640917 bf640920 (by have qa0 : Int32.toInt 0 = 0 := (by decide); omega) (by have qa0 : Int32.toInt 0 = 0 := (by decide); omega)) dr_cJ5_append_cf1ce_21 ⟨wr_8_0, wr_1_19, wr_8_3, by decide, rfl, (Nat.le_of_ble_eq_true rfl), (Nat.le_of_ble_eq_true rfl)⟩ wr_8_2 wr_s_0 hmq640912 heq640912 rfl (show 0 + 1 ≤ 1 by first | omega | decide) (show 0 + (2 * n640921 + 2 + z640937.toInt.toNat) ≤ (4 * n640921 + 4 + 2 * n640923) by first | omega | decide) (Nat.le_of_ble_eq_true rfl) (fun r640941 w640942 dc640938 ds640939 hp640940 => ?_) (fun _ _ _ _ _ z => z.elim)
  obtain ⟨P640950, F640951, q640943, n640944, f640945, rfl, rfl, hsb640952, hfr640953, he640954, he640955, hm640956, hq640957, hdc, hds, bf640945, x640946, x640947, x640948, x640949⟩ := hp640940
  have hm640958 : q640912 ∈ P640950 := hsb640952 q640912 hmq640912
  have hm640959 : q640913 ∈ P640950 := hsb640952 q640913 hmq640913
  have hm640960 : q640914 ∈ P640950 := hsb640952 q640914 hmq640914
  have hm640961 : q640915 ∈ P640950 := hsb640952 q640915 hmq640915
  have hor640962 : q640943 = q640914 ∨ q640943 ∉ P640910 := hq640957.elim Or.inl (fun n => Or.inr (fun z => n ((rSub_rf (P := P640910)) _ z)))
  have hsb640963 : rSub P640910 P640950 := rSub_tr (rSub_rf (P := P640910)) hsb640952
  have he640964 : F640951 q640913 = .inr (0, [.ref q640915, .int 0, .int p640918, .int p640919]) := (hfr640953 q640913 hmq640913 (nm_c (rn_oo heq640913 heq640912 (by decide)) nm_n)).trans heq640913
  have he640965 : F640951 q640914 = .inl (I .byte, n640921, .inl f640920) := (hfr640953 q640914 hmq640914 (nm_c (rn_ao heq640914 heq640912) nm_n)).trans heq640914
  have he640966 : F640951 q640915 = .inl (I .byte, n640923, .inl f640922) := (hfr640953 q640915 hmq640915 (nm_c (rn_ao heq640915 heq640912) nm_n)).trans heq640915
  have hfr640967 : rFr [q640912] P640910 F640911 F640951 := rFr_call (rSub_rf (P := P640910)) (rFr_rf (W := []) (P := P640910) (F := F640911)) hfr640953 (fun b hb hn => ⟨nm_n, (nm_c (fun e => hn (e ▸ List.mem_cons_self)) nm_n)⟩)
  have hne640968 : q640915 ≠ q640943 := fun e => hq640957.elim (fun e2 => (Ne.symm hneq640914q640915) (e.trans e2)) (fun n => n (e ▸ hmq640915))
  change G _ _ _ _ _ _ _ _ _ _ _
  refine G_widen (cs' := 1) (sl' := 2 * (n640944 - n640921)) (by omega) (by omega) ?_
  refine G_aload_n 1 dr_cJ5_append_cf1ce_24 rfl ?_
  refine G_aload_n 1 dr_cJ5_append_cf1ce_25 rfl ?_
  refine Gp_get 3 hm640958 he640954 dr_cJ5_append_cf1ce_26 (gk_J4 D I) (Nat.le_of_ble_eq_true rfl) wr_7_64 rfl ?_
  refine G_aload_n 2 dr_cJ5_append_cf1ce_29 rfl ?_
  refine Gw_callVB (As := [.int p640917, .ref q640913]) (gV_ok D I) (cp_640569_AbstractStringBuilder_putStringAt l hl0 D I P640950 F640951 q640912 q640913 q640943 q640915 p640917 p640916 p640917 p640918 p640919 f640945 n640944 f640922 n640923 hm640958 hm640959 hm640956 hm640961 he640954 he640964 he640955 he640966 (Ne.symm hne640968) bp640917 bp640916 bp640917 bp640919 bf640945 bf640922 (by have qa0 : Int32.toInt 0 = 0 := (by decide); omega) (by have qa0 : Int32.toInt 0 = 0 := (by decide); omega) (by have qa0 : Int32.toInt 0 = 0 := (by decide); omega)) dr_cJ5_append_cf1ce_30 ⟨wr_8_151, wr_1_19, wr_8_154, by decide, rfl, (Nat.le_of_ble_eq_true rfl), (Nat.le_of_ble_eq_true rfl)⟩ wr_8_153 wr_s_4 hm640958 he640954 rfl (show 1 + 0 ≤ 1 by first | omega | decide) (show 2 * (n640944 - n640921) + 0 ≤ (4 * n640921 + 4 + 2 * n640923) by first | omega | decide) (Nat.le_of_ble_eq_true rfl) (fun r640972 w640973 dc640969 ds640970 hp640971 => ?_) (fun _ _ _ _ _ z => z.elim)
  obtain ⟨F640977, f640974, rfl, rfl, hfr640979, he640980, he640981, he640982, he640983, hdc, hds, bf640974, x640975, x640976⟩ := hp640971
  have hfr640984 : rFr [q640912, q640914] P640910 F640911 F640977 := rFr_call hsb640963 hfr640967 hfr640979 (fun b hb hn => ⟨(nm_c (fun e => hn (e ▸ List.mem_cons_self)) nm_n), (nm_c (fun e => hor640962.elim (fun e2 => hn ((e.trans e2) ▸ (List.mem_cons_of_mem _ List.mem_cons_self))) (fun n => n (e ▸ hb))) nm_n)⟩)
  change G _ _ _ _ _ _ _ _ _ _ _
  refine G_widen (cs' := 1) (sl' := 2 * (n640944 - n640921) + 0) (by omega) (by omega) ?_
  refine G_aload_n 1 dr_cJ5_append_cf1ce_33 rfl ?_
  refine G_dup dr_cJ5_append_cf1ce_34 rfl ?_
  refine Gp_get 3 hm640958 he640980 dr_cJ5_append_cf1ce_35 (gk_J4 D I) (Nat.le_of_ble_eq_true rfl) wr_7_64 rfl ?_
  refine G_iload_n 0 dr_cJ5_append_cf1ce_38 rfl ?_
  refine G_iadd dr_cJ5_append_cf1ce_39 (G_nam fun z640985 hz640985 => ?_)
  have ez640985 : z640985.toInt = p640917.toInt + o640935.toInt := by rw [gI_add hz640985 bp640917 bo640935 (by decide) (by decide)]
  have bz640985 : gB z640985 0 33554432 := gB_add (gI_add hz640985 bp640917 bo640935 (by decide) (by decide)) bp640917 bo640935 (by decide) (by decide)
  refine Gp_put 3 hm640958 he640980 dr_cJ5_append_cf1ce_40 (gk_J4 D I) (Nat.le_of_ble_eq_true rfl) wr_7_64 rfl rfl rfl (Nat.le_of_ble_eq_true rfl) (fun F640986 e640987 n640988 => ?_)
  have he640989 : F640986 q640913 = .inr (0, [.ref q640915, .int 0, .int p640918, .int p640919]) := (n640988 q640913 (rn_oo he640981 he640980 (by decide))).trans he640981
  have he640990 : F640986 q640943 = .inl (I .byte, n640944, .inl f640974) := (n640988 q640943 (rn_ao he640982 he640980)).trans he640982
  have he640991 : F640986 q640915 = .inl (I .byte, n640923, .inl f640922) := (n640988 q640915 (rn_ao he640983 he640980)).trans he640983
  have he640992 : F640986 q640912 = .inr (1, [.ref q640943, .int 0, .int p640916, .int z640985]) := e640987
  have hfr640993 : rFr [q640912, q640914] P640910 F640911 F640986 := rFr_put' List.mem_cons_self hfr640984 n640988
  refine G_aload_n 1 dr_cJ5_append_cf1ce_43 rfl ?_
  exact G_aretA (FieldType.object "java/lang/AbstractStringBuilder") dr_cJ5_append_cf1ce_44 rfl (by first | exact Or.inl ⟨_, rfl⟩ | exact Or.inr ⟨_, rfl⟩) (Or.inr ⟨_, rfl⟩) (Nat.le_of_ble_eq_true rfl) (show 2 * (n640944 - n640921) + 0 ≤ (4 * n640921 + 4 + 2 * n640923) by omega) ⟨P640950, F640986, z640985, q640943, n640944, f640974, rfl, rfl, hsb640963, hfr640993, he640992, he640989, he640990, he640991, hm640956, hor640962, (Nat.le_of_ble_eq_true rfl), (by omega), ⟨by omega, by omega⟩, bf640974, (by have qa0 : Int32.toInt 0 = 0 := (by decide); omega), (by have qa0 : Int32.toInt 0 = 0 := (by decide); omega), (by have qa0 : Int32.toInt 0 = 0 := (by decide); omega), (by have qa0 : Int32.toInt 0 = 0 := (by decide); omega), (by have qa0 : Int32.toInt 0 = 0 := (by decide); omega)⟩
abbrev ky_640909_StringBuilder_append : gKey := (cJ4_append_15ec4, 2, "java/lang/StringBuilder", (some (FieldType.object "java/lang/StringBuilder")), [], "append", fun _ _ => True)
def pp_640909_StringBuilder_append (D : va_G) (I : FieldType → ClassId) (P640890 : List Nat) (F640891 : Nat → va_E) (q640892 : Nat) (q640893 : Nat) (q640894 : Nat) (q640895 : Nat) (p640896 : Int32) (p640897 : Int32) (p640898 : Int32) (p640899 : Int32) (f640900 : Nat → Int32) (n640901 : Nat) (f640902 : Nat → Int32) (n640903 : Nat) : Option Value → va_W → Nat → Nat → Prop := fun r w dc ds => ∃ (P641036 : List Nat) (F641037 : Nat → va_E) (o641032 : Int32) (q641033 : Nat) (n641034 : Nat) (f641035 : Nat → Int32), r = some (.ref q640892) ∧ w = va_pl P641036 F641037 ∧ rSub P640890 P641036 ∧ rFr [q640892, q640894] P640890 F640891 F641037 ∧ F641037 q640892 = .inr (1, [.ref q641033, .int 0, .int p640896, .int o641032]) ∧ F641037 q640893 = .inr (0, [.ref q640895, .int 0, .int p640898, .int p640899]) ∧ F641037 q641033 = .inl (I .byte, n641034, .inl f641035) ∧ F641037 q640895 = .inl (I .byte, n640903, .inl f640902) ∧ q641033 ∈ P641036 ∧ (q641033 = q640894 ∨ q641033 ∉ P640890) ∧ dc ≤ 1 ∧ ds ≤ 2 * (n641034 - n640901) ∧ gB o641032 0 16777216 ∧ gF f641035 (-128) 127 ∧ o641032.toInt = p640897.toInt + (n640903 : Int) ∧ o641032.toInt ≤ (n641034 : Int) ∧ (n640901 : Int) ≤ (n641034 : Int) ∧ (n641034 : Int) ≤ 2 * (n640901 : Int) + 2 + p640897.toInt + (n640903 : Int) ∧ ((n641034 : Int) = (n640901 : Int) ∨ (n640901 : Int) < o641032.toInt)
set_option maxRecDepth 100000 in
set_option maxHeartbeats 4000000 in
theorem cp_640909_StringBuilder_append (l : Launch) (hl0 : l.stackTraces = false) (D : va_G) (I : FieldType → ClassId) (P640890 : List Nat) (F640891 : Nat → va_E) (q640892 : Nat) (q640893 : Nat) (q640894 : Nat) (q640895 : Nat) (p640896 : Int32) (p640897 : Int32) (p640898 : Int32) (p640899 : Int32) (f640900 : Nat → Int32) (n640901 : Nat) (f640902 : Nat → Int32) (n640903 : Nat) (hmq640892 : q640892 ∈ P640890) (hmq640893 : q640893 ∈ P640890) (hmq640894 : q640894 ∈ P640890) (hmq640895 : q640895 ∈ P640890) (heq640892 : F640891 q640892 = .inr (1, [.ref q640894, .int 0, .int p640896, .int p640897])) (heq640893 : F640891 q640893 = .inr (0, [.ref q640895, .int 0, .int p640898, .int p640899])) (heq640894 : F640891 q640894 = .inl (I .byte, n640901, .inl f640900)) (heq640895 : F640891 q640895 = .inl (I .byte, n640903, .inl f640902)) (hneq640894q640895 : q640894 ≠ q640895) (bp640896 : gB p640896 0 1) (bp640897 : gB p640897 0 16777216) (bp640899 : gB p640899 0 1) (bf640900 : gF f640900 (-128) 127) (bf640902 : gF f640902 (-128) 127) (x640904 : (n640903 : Int) ≤ 65535) (x640905 : (n640901 : Int) ≤ 8388608 - 100000) (x640906 : p640897.toInt ≤ (n640901 : Int)) (x640907 : ((n640901 : Int) ≤ 16777216)) (x640908 : ((n640903 : Int) ≤ 16777216)) : CtA (gV D I) l yJ4_append_15ec4 cJ4_append_15ec4 2 (some (FieldType.object "java/lang/StringBuilder")) 5 106 1 (4 * n640901 + 4 + 2 * n640903) [.ref q640892, .ref q640893] (va_pl P640890 F640891) (pp_640909_StringBuilder_append D I P640890 F640891 q640892 q640893 q640894 q640895 p640896 p640897 p640898 p640899 f640900 n640901 f640902 n640903) gNA := by
  refine CtA_ofF hl0 (by decide +kernel) (Nat.le_of_ble_eq_true rfl) ?_
  have bp640898 := gB_any p640898
  refine G_aload_n 0 dr_cJ4_append_15ec4_0 rfl ?_
  refine G_aload_n 1 dr_cJ4_append_15ec4_1 rfl ?_
  refine Gw_callSU (As := [.ref q640893]) (gV_ok D I) (cp_640929_AbstractStringBuilder_append l hl0 D I P640890 F640891 q640892 q640893 q640894 q640895 p640896 p640897 p640898 p640899 f640900 n640901 f640902 n640903 hmq640892 hmq640893 hmq640894 hmq640895 heq640892 heq640893 heq640894 heq640895 hneq640894q640895 bp640896 bp640897 bp640899 bf640900 bf640902 (by have qa0 : Int32.toInt 0 = 0 := (by decide); omega) (by have qa0 : Int32.toInt 0 = 0 := (by decide); omega) (by have qa0 : Int32.toInt 0 = 0 := (by decide); omega) (by have qa0 : Int32.toInt 0 = 0 := (by decide); omega) (by have qa0 : Int32.toInt 0 = 0 := (by decide); omega)) dr_cJ4_append_15ec4_2 ⟨wr_8_140, wr_1_19, wr_8_142, by decide, rfl, (Nat.le_of_ble_eq_true rfl), (Nat.le_of_ble_eq_true rfl)⟩ wr_8_141 wr_11_225 wr_7_73 wr_7_44 (by decide) hmq640892 heq640892 rfl (show 0 + 1 ≤ 1 by first | omega | decide) (show 0 + (4 * n640901 + 4 + 2 * n640903) ≤ (4 * n640901 + 4 + 2 * n640903) by first | omega | decide) (Nat.le_of_ble_eq_true rfl) (fun r641003 w641004 dc641000 ds641001 hp641002 => ?_)
  obtain ⟨P641014, F641015, o641005, q641006, n641007, f641008, rfl, rfl, hsb641016, hfr641017, he641018, he641019, he641020, he641021, hm641022, hq641023, hdc, hds, bo641005, bf641008, x641009, x641010, x641011, x641012, x641013⟩ := hp641002
  have hm641024 : q640892 ∈ P641014 := hsb641016 q640892 hmq640892
  have hm641025 : q640893 ∈ P641014 := hsb641016 q640893 hmq640893
  have hm641026 : q640894 ∈ P641014 := hsb641016 q640894 hmq640894
  have hm641027 : q640895 ∈ P641014 := hsb641016 q640895 hmq640895
  have hor641028 : q641006 = q640894 ∨ q641006 ∉ P640890 := hq641023.elim Or.inl (fun n => Or.inr (fun z => n ((rSub_rf (P := P640890)) _ z)))
  have hsb641029 : rSub P640890 P641014 := rSub_tr (rSub_rf (P := P640890)) hsb641016
  have hfr641030 : rFr [q640892, q640894] P640890 F640891 F641015 := rFr_call (rSub_rf (P := P640890)) (rFr_rf (W := []) (P := P640890) (F := F640891)) hfr641017 (fun b hb hn => ⟨nm_n, (nm_c (fun e => hn (e ▸ List.mem_cons_self)) (nm_c (fun e => hn (e ▸ (List.mem_cons_of_mem _ List.mem_cons_self))) nm_n))⟩)
  have hne641031 : q640895 ≠ q641006 := fun e => hq641023.elim (fun e2 => (Ne.symm hneq640894q640895) (e.trans e2)) (fun n => n (e ▸ hmq640895))
  change G _ _ _ _ _ _ _ (.ref q640892 :: _) _ _ _
  refine G_widen (cs' := 1) (sl' := 2 * (n641007 - n640901)) (by omega) (by omega) ?_
  refine G_pop dr_cJ4_append_15ec4_5 rfl ?_
  refine G_aload_n 0 dr_cJ4_append_15ec4_6 rfl ?_
  exact G_aretA (FieldType.object "java/lang/StringBuilder") dr_cJ4_append_15ec4_7 rfl (by first | exact Or.inl ⟨_, rfl⟩ | exact Or.inr ⟨_, rfl⟩) (Or.inr ⟨_, rfl⟩) (Nat.le_of_ble_eq_true rfl) (show 2 * (n641007 - n640901) ≤ (4 * n640901 + 4 + 2 * n640903) by omega) ⟨P641014, F641015, o641005, q641006, n641007, f641008, rfl, rfl, hsb641029, hfr641030, he641018, he641019, he641020, he641021, hm641022, hor641028, (Nat.le_of_ble_eq_true rfl), (by omega), bo641005, bf641008, (by have qa0 : Int32.toInt 0 = 0 := (by decide); omega), (by have qa0 : Int32.toInt 0 = 0 := (by decide); omega), (by have qa0 : Int32.toInt 0 = 0 := (by decide); omega), (by have qa0 : Int32.toInt 0 = 0 := (by decide); omega), (by have qa0 : Int32.toInt 0 = 0 := (by decide); omega)⟩
abbrev ky_641069_AbstractStringBuilder_append : gKey := (cJ5_append_cf1ce, 3, "java/lang/AbstractStringBuilder", (some (FieldType.object "java/lang/AbstractStringBuilder")), [], "append", fun _ _ => True)
def pp_641069_AbstractStringBuilder_append (D : va_G) (I : FieldType → ClassId) (P641054 : List Nat) (F641055 : Nat → va_E) (q641056 : Nat) (q641057 : Nat) (qs641058 : Nat) (qb641059 : Nat) (bs641060 : List Int32) (p641061 : Int32) (p641062 : Int32) (f641063 : Nat → Int32) (n641064 : Nat) : Option Value → va_W → Nat → Nat → Prop := fun r w dc ds => ∃ (P641129 : List Nat) (F641130 : Nat → va_E) (o641125 : Int32) (q641126 : Nat) (n641127 : Nat) (f641128 : Nat → Int32), r = some (.ref q641056) ∧ w = va_pl P641129 F641130 ∧ rSub P641054 P641129 ∧ rFr [q641056, q641057] P641054 F641055 F641130 ∧ F641130 q641056 = .inr (1, [.ref q641126, .int 0, .int p641061, .int o641125]) ∧ F641130 q641126 = .inl (I .byte, n641127, .inl f641128) ∧ q641126 ∈ P641129 ∧ (q641126 = q641057 ∨ q641126 ∉ P641054) ∧ dc ≤ 1 ∧ ds ≤ 2 * (n641127 - n641064) ∧ gB o641125 0 16777216 ∧ gF f641128 (-128) 127 ∧ o641125.toInt = p641062.toInt + (bs641060.length : Int) ∧ o641125.toInt ≤ (n641127 : Int) ∧ (n641064 : Int) ≤ (n641127 : Int) ∧ (n641127 : Int) ≤ 2 * (n641064 : Int) + 2 + p641062.toInt + (bs641060.length : Int) ∧ ((n641127 : Int) = (n641064 : Int) ∨ (n641064 : Int) < o641125.toInt)
set_option maxRecDepth 100000 in
set_option maxHeartbeats 4000000 in
theorem cp_641069_AbstractStringBuilder_append (l : Launch) (hl0 : l.stackTraces = false) (D : va_G) (I : FieldType → ClassId) (P641054 : List Nat) (F641055 : Nat → va_E) (q641056 : Nat) (q641057 : Nat) (qs641058 : Nat) (qb641059 : Nat) (bs641060 : List Int32) (p641061 : Int32) (p641062 : Int32) (f641063 : Nat → Int32) (n641064 : Nat) (hmq641056 : q641056 ∈ P641054) (hmq641057 : q641057 ∈ P641054) (heq641056 : F641055 q641056 = .inr (1, [.ref q641057, .int 0, .int p641061, .int p641062])) (heq641057 : F641055 q641057 = .inl (I .byte, n641064, .inl f641063)) (hbs641060 : ∀ A s H, (gV D I).2.2.2.1 A s H → gSC qs641058 qb641059 bs641060 A s H) (nbs641060 : (bs641060.length : Int) ≤ 65535) (lbs641060 : gLB bs641060) (bp641061 : gB p641061 0 1) (bp641062 : gB p641062 0 16777216) (bf641063 : gF f641063 (-128) 127) (x641065 : (bs641060.length : Int) ≤ 65535) (x641066 : (n641064 : Int) ≤ 8388608 - 100000) (x641067 : p641062.toInt ≤ (n641064 : Int)) (x641068 : ((n641064 : Int) ≤ 16777216)) : CtA (gV D I) l yJ5_append_cf1ce cJ5_append_cf1ce 3 (some (FieldType.object "java/lang/AbstractStringBuilder")) 4 84 1 (4 * n641064 + 4 + 2 * bs641060.length) [.ref q641056, .ref qs641058] (va_pl P641054 F641055) (pp_641069_AbstractStringBuilder_append D I P641054 F641055 q641056 q641057 qs641058 qb641059 bs641060 p641061 p641062 f641063 n641064) gNA := by
  refine CtA_ofF hl0 (by decide +kernel) (Nat.le_of_ble_eq_true rfl) ?_
  refine G_aload_n 1 dr_cJ5_append_cf1ce_0 rfl ?_
  refine G_ifnonnull 9 dr_cJ5_append_cf1ce_1 (by decide +kernel) ?_
  refine G_aload_n 1 dr_cJ5_append_cf1ce_9 rfl ?_
  refine Gw_callVk (As := []) (gV_ok D I) (cp_640734_String_length l hl0 D I P641054 F641055 qs641058 qb641059 bs641060 hbs641060 nbs641060 lbs641060) dr_cJ5_append_cf1ce_10 ⟨wr_8_150, wr_1_21, wr_3_60, by decide, rfl, (Nat.le_of_ble_eq_true rfl), (Nat.le_of_ble_eq_true rfl)⟩ wr_3_58 wr_3_59 (fun _ _ _ h => (hbs641060 _ _ _ h).1) (show 0 + 0 ≤ 1 by first | omega | decide) (show 0 + 0 ≤ (4 * n641064 + 4 + 2 * bs641060.length) by first | omega | decide) (Nat.le_of_ble_eq_true rfl) (fun r641073 w641074 dc641070 ds641071 hp641072 => ?_) (fun _ _ _ _ _ z => z.elim)
  obtain ⟨o641075, rfl, rfl, hdc, hds, bo641075, x641076⟩ := hp641072
  change G _ _ _ _ _ _ _ (.int o641075 :: _) _ _ _
  refine G_widen (cs' := 0) (sl' := 0) (by omega) (by omega) ?_
  refine G_istore_n (L' := [(2, .int o641075), (0, .ref q641056), (1, .ref qs641058)]) dr_cJ5_append_cf1ce_13 (Nat.le_of_ble_eq_true rfl) rfl ?_
  refine G_aload_n 1 dr_cJ5_append_cf1ce_14 rfl ?_
  refine G_aload_n 1 dr_cJ5_append_cf1ce_15 rfl ?_
  refine Gp_get 3 hmq641056 heq641056 dr_cJ5_append_cf1ce_16 (gk_J4 D I) (Nat.le_of_ble_eq_true rfl) wr_7_64 rfl ?_
  refine G_iload_n 0 dr_cJ5_append_cf1ce_19 rfl ?_
  refine G_iadd dr_cJ5_append_cf1ce_20 (G_nam fun z641077 hz641077 => ?_)
  have ez641077 : z641077.toInt = p641062.toInt + o641075.toInt := by rw [gI_add hz641077 bp641062 bo641075 (by decide) (by decide)]
  have bz641077 : gB z641077 0 16842751 := gB_add (gI_add hz641077 bp641062 bo641075 (by decide) (by decide)) bp641062 bo641075 (by decide) (by decide)
  refine Gw_callVB (As := [.int z641077]) (gV_ok D I) (cp_640133_AbstractStringBuilder_ensureCapacityInternal l hl0 D I P641054 F641055 q641056 q641057 z641077 p641061 p641062 f641063 n641064 hmq641056 hmq641057 heq641056 heq641057 ⟨by omega, by omega⟩ bp641061 bp641062 bf641063 (by have qa0 : Int32.toInt 0 = 0 := (by decide); omega) (by have qa0 : Int32.toInt 0 = 0 := (by decide); omega)) dr_cJ5_append_cf1ce_21 ⟨wr_8_0, wr_1_19, wr_8_3, by decide, rfl, (Nat.le_of_ble_eq_true rfl), (Nat.le_of_ble_eq_true rfl)⟩ wr_8_2 wr_s_0 hmq641056 heq641056 rfl (show 0 + 1 ≤ 1 by first | omega | decide) (show 0 + (2 * n641064 + 2 + z641077.toInt.toNat) ≤ (4 * n641064 + 4 + 2 * bs641060.length) by first | omega | decide) (Nat.le_of_ble_eq_true rfl) (fun r641081 w641082 dc641078 ds641079 hp641080 => ?_) (fun _ _ _ _ _ z => z.elim)
  obtain ⟨P641090, F641091, q641083, n641084, f641085, rfl, rfl, hsb641092, hfr641093, he641094, he641095, hm641096, hq641097, hdc, hds, bf641085, x641086, x641087, x641088, x641089⟩ := hp641080
  have hm641098 : q641056 ∈ P641090 := hsb641092 q641056 hmq641056
  have hm641099 : q641057 ∈ P641090 := hsb641092 q641057 hmq641057
  have hor641100 : q641083 = q641057 ∨ q641083 ∉ P641054 := hq641097.elim Or.inl (fun n => Or.inr (fun z => n ((rSub_rf (P := P641054)) _ z)))
  have hsb641101 : rSub P641054 P641090 := rSub_tr (rSub_rf (P := P641054)) hsb641092
  have he641102 : F641091 q641057 = .inl (I .byte, n641064, .inl f641063) := (hfr641093 q641057 hmq641057 (nm_c (rn_ao heq641057 heq641056) nm_n)).trans heq641057
  have hfr641103 : rFr [q641056] P641054 F641055 F641091 := rFr_call (rSub_rf (P := P641054)) (rFr_rf (W := []) (P := P641054) (F := F641055)) hfr641093 (fun b hb hn => ⟨nm_n, (nm_c (fun e => hn (e ▸ List.mem_cons_self)) nm_n)⟩)
  change G _ _ _ _ _ _ _ _ _ _ _
  refine G_widen (cs' := 1) (sl' := 2 * (n641084 - n641064)) (by omega) (by omega) ?_
  refine G_aload_n 1 dr_cJ5_append_cf1ce_24 rfl ?_
  refine G_aload_n 1 dr_cJ5_append_cf1ce_25 rfl ?_
  refine Gp_get 3 hm641098 he641094 dr_cJ5_append_cf1ce_26 (gk_J4 D I) (Nat.le_of_ble_eq_true rfl) wr_7_64 rfl ?_
  refine G_aload_n 2 dr_cJ5_append_cf1ce_29 rfl ?_
  refine Gw_callVB (As := [.int p641062, .ref qs641058]) (gV_ok D I) (cp_640776_AbstractStringBuilder_putStringAt l hl0 D I P641090 F641091 q641056 q641083 p641062 qs641058 qb641059 bs641060 p641061 p641062 f641085 n641084 hm641098 hm641096 he641094 he641095 hbs641060 nbs641060 lbs641060 bp641062 bp641061 bp641062 bf641085 (by have qa0 : Int32.toInt 0 = 0 := (by decide); omega) (by have qa0 : Int32.toInt 0 = 0 := (by decide); omega)) dr_cJ5_append_cf1ce_30 ⟨wr_8_151, wr_1_19, wr_8_154, by decide, rfl, (Nat.le_of_ble_eq_true rfl), (Nat.le_of_ble_eq_true rfl)⟩ wr_8_153 wr_s_4 hm641098 he641094 rfl (show 1 + 0 ≤ 1 by first | omega | decide) (show 2 * (n641084 - n641064) + 0 ≤ (4 * n641064 + 4 + 2 * bs641060.length) by first | omega | decide) (Nat.le_of_ble_eq_true rfl) (fun r641107 w641108 dc641104 ds641105 hp641106 => ?_) (fun _ _ _ _ _ z => z.elim)
  obtain ⟨F641112, f641109, rfl, rfl, hfr641114, he641115, he641116, hdc, hds, bf641109, x641110, x641111⟩ := hp641106
  have hfr641117 : rFr [q641056, q641057] P641054 F641055 F641112 := rFr_call hsb641101 hfr641103 hfr641114 (fun b hb hn => ⟨(nm_c (fun e => hn (e ▸ List.mem_cons_self)) nm_n), (nm_c (fun e => hor641100.elim (fun e2 => hn ((e.trans e2) ▸ (List.mem_cons_of_mem _ List.mem_cons_self))) (fun n => n (e ▸ hb))) nm_n)⟩)
  change G _ _ _ _ _ _ _ _ _ _ _
  refine G_widen (cs' := 1) (sl' := 2 * (n641084 - n641064) + 0) (by omega) (by omega) ?_
  refine G_aload_n 1 dr_cJ5_append_cf1ce_33 rfl ?_
  refine G_dup dr_cJ5_append_cf1ce_34 rfl ?_
  refine Gp_get 3 hm641098 he641115 dr_cJ5_append_cf1ce_35 (gk_J4 D I) (Nat.le_of_ble_eq_true rfl) wr_7_64 rfl ?_
  refine G_iload_n 0 dr_cJ5_append_cf1ce_38 rfl ?_
  refine G_iadd dr_cJ5_append_cf1ce_39 (G_nam fun z641118 hz641118 => ?_)
  have ez641118 : z641118.toInt = p641062.toInt + o641075.toInt := by rw [gI_add hz641118 bp641062 bo641075 (by decide) (by decide)]
  have bz641118 : gB z641118 0 16842751 := gB_add (gI_add hz641118 bp641062 bo641075 (by decide) (by decide)) bp641062 bo641075 (by decide) (by decide)
  refine Gp_put 3 hm641098 he641115 dr_cJ5_append_cf1ce_40 (gk_J4 D I) (Nat.le_of_ble_eq_true rfl) wr_7_64 rfl rfl rfl (Nat.le_of_ble_eq_true rfl) (fun F641119 e641120 n641121 => ?_)
  have he641122 : F641119 q641083 = .inl (I .byte, n641084, .inl f641109) := (n641121 q641083 (rn_ao he641116 he641115)).trans he641116
  have he641123 : F641119 q641056 = .inr (1, [.ref q641083, .int 0, .int p641061, .int z641118]) := e641120
  have hfr641124 : rFr [q641056, q641057] P641054 F641055 F641119 := rFr_put' List.mem_cons_self hfr641117 n641121
  refine G_aload_n 1 dr_cJ5_append_cf1ce_43 rfl ?_
  exact G_aretA (FieldType.object "java/lang/AbstractStringBuilder") dr_cJ5_append_cf1ce_44 rfl (by first | exact Or.inl ⟨_, rfl⟩ | exact Or.inr ⟨_, rfl⟩) (Or.inr ⟨_, rfl⟩) (Nat.le_of_ble_eq_true rfl) (show 2 * (n641084 - n641064) + 0 ≤ (4 * n641064 + 4 + 2 * bs641060.length) by omega) ⟨P641090, F641119, z641118, q641083, n641084, f641109, rfl, rfl, hsb641101, hfr641124, he641123, he641122, hm641096, hor641100, (Nat.le_of_ble_eq_true rfl), (by omega), ⟨by omega, by omega⟩, bf641109, (by have qa0 : Int32.toInt 0 = 0 := (by decide); omega), (by have qa0 : Int32.toInt 0 = 0 := (by decide); omega), (by have qa0 : Int32.toInt 0 = 0 := (by decide); omega), (by have qa0 : Int32.toInt 0 = 0 := (by decide); omega), (by have qa0 : Int32.toInt 0 = 0 := (by decide); omega)⟩
