theorem dr_cJ4_append_15ec4_0 : decode cJ4_append_15ec4 0 = .ok (.aload_n 0, 1) := by decide +kernel
theorem dr_cJ4_append_15ec4_1 : decode cJ4_append_15ec4 1 = .ok (.aload_n 1, 1) := by decide +kernel
theorem dr_cJ4_append_15ec4_2 : decode cJ4_append_15ec4 2 = .ok (.invokespecial 29, 3) := by decide +kernel
theorem wr_8_144 : (Jvm.Cond.methodLink "java/lang/StringBuilder" (29 : Nat) ({ cls := "java/lang/AbstractStringBuilder", name := "append", desc := "(Ljava/lang/String;)Ljava/lang/AbstractStringBuilder;" } : Jvm.MethodName)) ∈ gw := gw_8 144 rfl rfl
theorem wr_8_146 : (Jvm.Cond.code ({ cls := "java/lang/AbstractStringBuilder", name := "append", desc := "(Ljava/lang/String;)Ljava/lang/AbstractStringBuilder;" } : Jvm.MethodName) prog_21_method_22_code (3 : Nat) (Option.some (Jvm.ClassFile.FieldType.object "java/lang/AbstractStringBuilder"))) ∈ gw := gw_8 146 rfl rfl
theorem wr_8_145 : (Jvm.Cond.instanceMethod ({ cls := "java/lang/AbstractStringBuilder", name := "append", desc := "(Ljava/lang/String;)Ljava/lang/AbstractStringBuilder;" } : Jvm.MethodName)) ∈ gw := gw_8 145 rfl rfl
theorem wr_11_229 : (Jvm.Cond.sameMethod "java/lang/AbstractStringBuilder" "java/lang/AbstractStringBuilder" "append" "(Ljava/lang/String;)Ljava/lang/AbstractStringBuilder;") ∈ gw := gw_11 229 rfl rfl
theorem dr_cJ4_append_15ec4_5 : decode cJ4_append_15ec4 5 = .ok (.pop, 1) := by decide +kernel
theorem dr_cJ4_append_15ec4_6 : decode cJ4_append_15ec4 6 = .ok (.aload_n 0, 1) := by decide +kernel
theorem dr_cJ4_append_15ec4_7 : decode cJ4_append_15ec4 7 = .ok (.areturn, 1) := by decide +kernel
abbrev ky_659189_StringBuilder_append : gKey := (cJ4_append_15ec4, 2, "java/lang/StringBuilder", (some (FieldType.object "java/lang/StringBuilder")), [], "append", fun _ _ => True)
def pp_659189_StringBuilder_append (D : va_G) (I : FieldType → ClassId) (P659172 : List Nat) (F659173 : Nat → va_E) (q659174 : Nat) (q659175 : Nat) (q659176 : Nat) (q659177 : Nat) (p659178 : Int32) (p659179 : Int32) (p659180 : Int32) (p659181 : Int32) (f659182 : Nat → Int32) (n659183 : Nat) (f659184 : Nat → Int32) (n659185 : Nat) : Option Value → va_W → Nat → Nat → Prop := fun r w dc ds => ∃ (F659403 : Nat → va_E) (o659400 : Int32) (f659401 : Nat → Int32), r = some (.ref q659174) ∧ w = va_pl P659172 F659403 ∧ rFr [q659174, q659176] P659172 F659173 F659403 ∧ F659403 q659174 = .inr (1, [.ref q659176, .int 0, .int p659178, .int o659400]) ∧ F659403 q659175 = .inr (0, [.ref q659177, .int 0, .int p659180, .int p659181]) ∧ F659403 q659176 = .inl (I .byte, n659183, .inl f659401) ∧ F659403 q659177 = .inl (I .byte, n659185, .inl f659184) ∧ dc ≤ 0 ∧ ds ≤ 0 ∧ gB o659400 0 16777216 ∧ gF f659401 (-128) 127 ∧ o659400.toInt = p659179.toInt + (n659185 : Int) ∧ sK f659182 f659401 p659179.toInt ∧ sF f659184 f659401 p659179.toInt (n659185 : Int) ∧ tr_RStringBuilder_append3 p659179 f659182 n659183 f659184 n659185 o659400 f659401
set_option maxRecDepth 100000 in
set_option maxHeartbeats 4000000 in
theorem cp_659189_StringBuilder_append (l : Launch) (hl0 : l.stackTraces = false) (D : va_G) (I : FieldType → ClassId) (P659172 : List Nat) (F659173 : Nat → va_E) (q659174 : Nat) (q659175 : Nat) (q659176 : Nat) (q659177 : Nat) (p659178 : Int32) (p659179 : Int32) (p659180 : Int32) (p659181 : Int32) (f659182 : Nat → Int32) (n659183 : Nat) (f659184 : Nat → Int32) (n659185 : Nat) (hmq659174 : q659174 ∈ P659172) (hmq659175 : q659175 ∈ P659172) (hmq659176 : q659176 ∈ P659172) (hmq659177 : q659177 ∈ P659172) (heq659174 : F659173 q659174 = .inr (1, [.ref q659176, .int 0, .int p659178, .int p659179])) (heq659175 : F659173 q659175 = .inr (0, [.ref q659177, .int 0, .int p659180, .int p659181])) (heq659176 : F659173 q659176 = .inl (I .byte, n659183, .inl f659182)) (heq659177 : F659173 q659177 = .inl (I .byte, n659185, .inl f659184)) (hneq659176q659177 : q659176 ≠ q659177) (bp659178 : gB p659178 0 1) (bp659179 : gB p659179 0 16777216) (bp659181 : gB p659181 0 1) (bf659182 : gF f659182 (-128) 127) (bf659184 : gF f659184 (-128) 127) (x659186 : p659179.toInt + (n659185 : Int) ≤ (n659183 : Int)) (x659187 : ((n659183 : Int) ≤ 16777216)) (x659188 : ((n659185 : Int) ≤ 16777216)) : CtA (gV D I) l yJ4_append_15ec4 cJ4_append_15ec4 2 (some (FieldType.object "java/lang/StringBuilder")) 4 87 0 0 [.ref q659174, .ref q659175] (va_pl P659172 F659173) (pp_659189_StringBuilder_append D I P659172 F659173 q659174 q659175 q659176 q659177 p659178 p659179 p659180 p659181 f659182 n659183 f659184 n659185) gNA := by
  refine CtA_ofF hl0 (by decide +kernel) (Nat.le_of_ble_eq_true rfl) ?_
  have bp659180 := gB_any p659180
  refine G_aload_n 0 dr_cJ4_append_15ec4_0 rfl ?_
  refine G_aload_n 1 dr_cJ4_append_15ec4_1 rfl ?_
  refine Gw_callSU (As := [.ref q659175]) (gV_ok D I) (cp_659207_AbstractStringBuilder_append l hl0 D I P659172 F659173 q659174 q659175 q659176 q659177 p659178 p659179 p659180 p659181 f659182 n659183 f659184 n659185 hmq659174 hmq659175 hmq659176 hmq659177 heq659174 heq659175 heq659176 heq659177 hneq659176q659177 bp659178 bp659179 bp659181 bf659182 bf659184 (by have qa0 : Int32.toInt 0 = 0 := (by decide); omega) (by have qa0 : Int32.toInt 0 = 0 := (by decide); omega) (by have qa0 : Int32.toInt 0 = 0 := (by decide); omega)) dr_cJ4_append_15ec4_2 ⟨wr_8_144, wr_1_19, wr_8_146, by decide, rfl, (Nat.le_of_ble_eq_true rfl), (Nat.le_of_ble_eq_true rfl)⟩ wr_8_145 wr_11_229 wr_7_73 wr_7_44 (by decide) hmq659174 heq659174 rfl (show 0 + 0 ≤ 0 by first | omega | decide) (show 0 + 0 ≤ 0 by first | omega | decide) (Nat.le_of_ble_eq_true rfl) (fun r659384 w659385 dc659381 ds659382 hp659383 => ?_)
  obtain ⟨F659392, o659386, f659387, rfl, rfl, hfr659394, he659395, he659396, he659397, he659398, hdc, hds, bo659386, bf659387, x659388, x659389, x659390, ht659391⟩ := hp659383
  have hfr659399 : rFr [q659174, q659176] P659172 F659173 F659392 := rFr_call (rSub_rf (P := P659172)) (rFr_rf (W := []) (P := P659172) (F := F659173)) hfr659394 (fun b hb hn => ⟨nm_n, (nm_c (fun e => hn (e ▸ List.mem_cons_self)) (nm_c (fun e => hn (e ▸ (List.mem_cons_of_mem _ List.mem_cons_self))) nm_n))⟩)
  change G _ _ _ _ _ _ _ (.ref q659174 :: _) _ _ _
  refine G_widen (cs' := 0) (sl' := 0) (by omega) (by omega) ?_
  refine G_pop dr_cJ4_append_15ec4_5 rfl ?_
  refine G_aload_n 0 dr_cJ4_append_15ec4_6 rfl ?_
  exact G_aretA (FieldType.object "java/lang/StringBuilder") dr_cJ4_append_15ec4_7 rfl (by first | exact Or.inl ⟨_, rfl⟩ | exact Or.inr ⟨_, rfl⟩) (Or.inr ⟨_, rfl⟩) (Nat.le_of_ble_eq_true rfl) (Nat.le_of_ble_eq_true rfl) ⟨F659392, o659386, f659387, rfl, rfl, hfr659399, he659395, he659396, he659397, he659398, (Nat.le_of_ble_eq_true rfl), (Nat.le_of_ble_eq_true rfl), bo659386, bf659387, (by have qa0 : Int32.toInt 0 = 0 := (by decide); omega), (sK_c x659389 (by omega)), (by assumption), (fun R c1 => c1 o659386 f659387 bo659386 ht659391)⟩
abbrev ky_659444_String_coder : gKey := (cJ0_coder_7d493, 1, "java/lang/String", (some FieldType.byte), [], "coder", fun _ _ => True)
def pp_659444_String_coder (D : va_G) (I : FieldType → ClassId) (P659439 : List Nat) (F659440 : Nat → va_E) (qs659441 : Nat) (qb659442 : Nat) (bs659443 : List Int32) : Option Value → va_W → Nat → Nat → Prop := fun r w dc ds => r = some (.int 0) ∧ w = va_pl P659439 F659440 ∧ dc ≤ 0 ∧ ds ≤ 0
set_option maxRecDepth 100000 in
set_option maxHeartbeats 4000000 in
theorem cp_659444_String_coder (l : Launch) (hl0 : l.stackTraces = false) (D : va_G) (I : FieldType → ClassId) (P659439 : List Nat) (F659440 : Nat → va_E) (qs659441 : Nat) (qb659442 : Nat) (bs659443 : List Int32) (hbs659443 : ∀ A s H, (gV D I).2.2.2.1 A s H → gSC qs659441 qb659442 bs659443 A s H) (nbs659443 : (bs659443.length : Int) ≤ 65535) (lbs659443 : gLB bs659443) : CtA (gV D I) l yJ0_coder_7d493 cJ0_coder_7d493 1 (some FieldType.byte) 0 0 0 0 [.ref qs659441] (va_pl P659439 F659440) (pp_659444_String_coder D I P659439 F659440 qs659441 qb659442 bs659443) gNA := by
  refine CtA_ofF hl0 (by decide +kernel) (Nat.le_of_ble_eq_true rfl) ?_
  refine G_gets dr_cJ0_coder_7d493_0 wr_3_65 gz_cs (fun x hx => ?_)
  subst hx
  refine G_if_eq 13 dr_cJ0_coder_7d493_3 (by decide +kernel) (fun hc => absurd hc (by decide)) (fun _ => ?_)
  refine G_aload_n 0 dr_cJ0_coder_7d493_6 rfl ?_
  refine G_kget dr_cJ0_coder_7d493_7 wr_8_183 (fun _ _ _ h => (hbs659443 _ _ _ h).2.1) ?_
  refine G_goto 14 dr_cJ0_coder_7d493_10 (by decide +kernel) ?_
  exact G_zretA FieldType.byte dr_cJ0_coder_7d493_14 rfl rfl (Nat.le_of_ble_eq_true rfl) (Nat.le_of_ble_eq_true rfl) ⟨rfl, rfl, (Nat.le_of_ble_eq_true rfl), (Nat.le_of_ble_eq_true rfl)⟩
/- tr_RString_length2: result -/
def tr_RString_length2 (bs : List Int32) (o1 : Int32) : Prop := ∀ R : (Int32) → Prop,
  (∀ (x1 : Int32) (x2 : Int32), x1.toInt = (bs.length : Int) → x2.toInt = x1.toInt / 1 → R x2) →
  R o1
abbrev ky_659437_String_length : gKey := (cJ0_length_8abf5, 1, "java/lang/String", (some FieldType.int), [], "length", fun _ _ => True)
def pp_659437_String_length (D : va_G) (I : FieldType → ClassId) (P659432 : List Nat) (F659433 : Nat → va_E) (qs659434 : Nat) (qb659435 : Nat) (bs659436 : List Int32) : Option Value → va_W → Nat → Nat → Prop := fun r w dc ds => ∃ (o659451 : Int32), r = some (.int o659451) ∧ w = va_pl P659432 F659433 ∧ dc ≤ 0 ∧ ds ≤ 0 ∧ gB o659451 0 65535 ∧ o659451.toInt = (bs659436.length : Int) ∧ tr_RString_length2 bs659436 o659451
set_option maxRecDepth 100000 in
set_option maxHeartbeats 4000000 in
theorem cp_659437_String_length (l : Launch) (hl0 : l.stackTraces = false) (D : va_G) (I : FieldType → ClassId) (P659432 : List Nat) (F659433 : Nat → va_E) (qs659434 : Nat) (qb659435 : Nat) (bs659436 : List Int32) (hbs659436 : ∀ A s H, (gV D I).2.2.2.1 A s H → gSC qs659434 qb659435 bs659436 A s H) (nbs659436 : (bs659436.length : Int) ≤ 65535) (lbs659436 : gLB bs659436) : CtA (gV D I) l yJ0_length_8abf5 cJ0_length_8abf5 1 (some FieldType.int) 1 20 0 0 [.ref qs659434] (va_pl P659432 F659433) (pp_659437_String_length D I P659432 F659433 qs659434 qb659435 bs659436) gNA := by
  refine CtA_ofF hl0 (by decide +kernel) (Nat.le_of_ble_eq_true rfl) ?_
  refine G_aload_n 0 dr_cJ0_length_8abf5_0 rfl ?_
  refine G_kget dr_cJ0_length_8abf5_1 wr_8_182 (fun _ _ _ h => (hbs659436 _ _ _ h).2.2.1) ?_
  refine G_klen dr_cJ0_length_8abf5_4 (fun _ _ _ h => (hbs659436 _ _ _ h).2.2.2) (G_nam fun z659438 hz659438 => ?_)
  have ez659438 : z659438.toInt = (bs659436.length : Int) := gI_ofN hz659438 (by omega)
  have bz659438 : gB z659438 0 65535 := ⟨by omega, by omega⟩
  refine G_aload_n 0 dr_cJ0_length_8abf5_5 rfl ?_
  refine Gw_callVk (As := []) (gV_ok D I) (cp_659444_String_coder l hl0 D I P659432 F659433 qs659434 qb659435 bs659436 hbs659436 nbs659436 lbs659436) dr_cJ0_length_8abf5_6 ⟨wr_3_61, wr_1_21, wr_3_64, by decide, rfl, (Nat.le_of_ble_eq_true rfl), (Nat.le_of_ble_eq_true rfl)⟩ wr_3_62 wr_3_63 (fun _ _ _ h => (hbs659436 _ _ _ h).1) (show 0 + 0 ≤ 0 by first | omega | decide) (show 0 + 0 ≤ 0 by first | omega | decide) (Nat.le_of_ble_eq_true rfl) (fun r659448 w659449 dc659445 ds659446 hp659447 => ?_) (fun _ _ _ _ _ z => z.elim)
  obtain ⟨rfl, rfl, hdc, hds⟩ := hp659447
  change G _ _ _ _ _ _ _ (.int 0 :: _) _ _ _
  refine G_widen (cs' := 0) (sl' := 0) (by omega) (by omega) ?_
  refine G_ishr dr_cJ0_length_8abf5_9 (G_nam fun z659450 hz659450 => ?_)
  have ez659450 : z659450.toInt = z659438.toInt / 1 := gI_shr (k := 0) hz659450 (by decide)
  have bz659450 : gB z659450 0 65535 := ⟨by omega, by omega⟩
  exact G_iretA dr_cJ0_length_8abf5_10 rfl (Nat.le_of_ble_eq_true rfl) (Nat.le_of_ble_eq_true rfl) ⟨z659450, rfl, rfl, (Nat.le_of_ble_eq_true rfl), (Nat.le_of_ble_eq_true rfl), bz659450, (by omega), (fun R c1 => c1 z659438 z659450 ez659438 ez659450)⟩
abbrev ky_659494_AbstractStringBuilder_inflateIfNeededFor : gKey := (cJ5_inflateIfNeededFor_a7421, 2, "java/lang/AbstractStringBuilder", none, [], "inflateIfNeededFor", fun _ _ => True)
def pp_659494_AbstractStringBuilder_inflateIfNeededFor (D : va_G) (I : FieldType → ClassId) (P659482 : List Nat) (F659483 : Nat → va_E) (q659484 : Nat) (q659485 : Nat) (qs659486 : Nat) (qb659487 : Nat) (bs659488 : List Int32) (p659489 : Int32) (p659490 : Int32) (f659491 : Nat → Int32) (n659492 : Nat) : Option Value → va_W → Nat → Nat → Prop := fun r w dc ds => r = none ∧ w = va_pl P659482 F659483 ∧ dc ≤ 0 ∧ ds ≤ 0
set_option maxRecDepth 100000 in
set_option maxHeartbeats 4000000 in
theorem cp_659494_AbstractStringBuilder_inflateIfNeededFor (l : Launch) (hl0 : l.stackTraces = false) (D : va_G) (I : FieldType → ClassId) (P659482 : List Nat) (F659483 : Nat → va_E) (q659484 : Nat) (q659485 : Nat) (qs659486 : Nat) (qb659487 : Nat) (bs659488 : List Int32) (p659489 : Int32) (p659490 : Int32) (f659491 : Nat → Int32) (n659492 : Nat) (hmq659484 : q659484 ∈ P659482) (hmq659485 : q659485 ∈ P659482) (heq659484 : F659483 q659484 = .inr (1, [.ref q659485, .int 0, .int p659489, .int p659490])) (heq659485 : F659483 q659485 = .inl (I .byte, n659492, .inl f659491)) (hbs659488 : ∀ A s H, (gV D I).2.2.2.1 A s H → gSC qs659486 qb659487 bs659488 A s H) (nbs659488 : (bs659488.length : Int) ≤ 65535) (lbs659488 : gLB bs659488) (bp659489 : gB p659489 0 1) (bp659490 : gB p659490 0 16777216) (bf659491 : gF f659491 (-128) 127) (x659493 : ((n659492 : Int) ≤ 16777216)) : CtA (gV D I) l yJ5_inflateIfNeededFor_a7421 cJ5_inflateIfNeededFor_a7421 2 none 1 20 0 0 [.ref q659484, .ref qs659486] (va_pl P659482 F659483) (pp_659494_AbstractStringBuilder_inflateIfNeededFor D I P659482 F659483 q659484 q659485 qs659486 qb659487 bs659488 p659489 p659490 f659491 n659492) gNA := by
  refine CtA_ofF hl0 (by decide +kernel) (Nat.le_of_ble_eq_true rfl) ?_
  refine G_gets dr_cJ5_inflateIfNeededFor_a7421_0 wr_7_52 gz_cs (fun x hx => ?_)
  subst hx
  refine G_if_eq 21 dr_cJ5_inflateIfNeededFor_a7421_3 (by decide +kernel) (fun hc => absurd hc (by decide)) (fun _ => ?_)
  refine G_aload_n 0 dr_cJ5_inflateIfNeededFor_a7421_6 rfl ?_
  refine Gp_get 1 hmq659484 heq659484 dr_cJ5_inflateIfNeededFor_a7421_7 (gk_J4 D I) (Nat.le_of_ble_eq_true rfl) wr_7_61 rfl ?_
  refine G_aload_n 1 dr_cJ5_inflateIfNeededFor_a7421_10 rfl ?_
  refine Gw_callVk (As := []) (gV_ok D I) (cp_659444_String_coder l hl0 D I P659482 F659483 qs659486 qb659487 bs659488 hbs659488 nbs659488 lbs659488) dr_cJ5_inflateIfNeededFor_a7421_11 ⟨wr_8_163, wr_1_21, wr_3_64, by decide, rfl, (Nat.le_of_ble_eq_true rfl), (Nat.le_of_ble_eq_true rfl)⟩ wr_3_62 wr_3_63 (fun _ _ _ h => (hbs659488 _ _ _ h).1) (show 0 + 0 ≤ 0 by first | omega | decide) (show 0 + 0 ≤ 0 by first | omega | decide) (Nat.le_of_ble_eq_true rfl) (fun r659498 w659499 dc659495 ds659496 hp659497 => ?_) (fun _ _ _ _ _ z => z.elim)
  obtain ⟨rfl, rfl, hdc, hds⟩ := hp659497
  change G _ _ _ _ _ _ _ (.int 0 :: _) _ _ _
  refine G_widen (cs' := 0) (sl' := 0) (by omega) (by omega) ?_
  refine G_icmp_eq 21 dr_cJ5_inflateIfNeededFor_a7421_14 (by decide +kernel) (fun _ => ?_) (fun hc => absurd hc (by decide))
  exact G_vretA dr_cJ5_inflateIfNeededFor_a7421_21 rfl (Nat.le_of_ble_eq_true rfl) (Nat.le_of_ble_eq_true rfl) ⟨rfl, rfl, (Nat.le_of_ble_eq_true rfl), (Nat.le_of_ble_eq_true rfl)⟩
/- tr_RString_getBytes2: a.1.[] -/
def tr_RString_getBytes2 (bs : List Int32) (a2 : Int32) (a1_v : Nat → Int32) (o1 : Nat → Int32) : Prop := ∀ R : (Nat → Int32) → Prop,
  (∀ (x1 : Int32) (x2 : Int32) (x3 : Nat → Int32), x1.toInt = a2.toInt * 1 → x2.toInt = (bs.length : Int) → (x3 = va_cpy (fun j => bs.getD j 0) a1_v (0 : Int32).toNatClampNeg x1.toNatClampNeg x2.toNatClampNeg) → R x3) →
  R o1
abbrev ky_659516_String_getBytes : gKey := (cJ0_getBytes_840e7, 4, "java/lang/String", none, [], "getBytes", fun _ _ => True)
def pp_659516_String_getBytes (D : va_G) (I : FieldType → ClassId) (P659505 : List Nat) (F659506 : Nat → va_E) (q659507 : Nat) (qs659508 : Nat) (qb659509 : Nat) (bs659510 : List Int32) (p659511 : Int32) (f659512 : Nat → Int32) (n659513 : Nat) : Option Value → va_W → Nat → Nat → Prop := fun r w dc ds => ∃ (F659532 : Nat → va_E) (f659530 : Nat → Int32), r = none ∧ w = va_pl P659505 F659532 ∧ rFr [q659507] P659505 F659506 F659532 ∧ F659532 q659507 = .inl (I .byte, n659513, .inl f659530) ∧ dc ≤ 0 ∧ ds ≤ 0 ∧ gF f659530 (-128) 127 ∧ sK f659512 f659530 p659511.toInt ∧ sF (fun j => bs659510.getD j 0) f659530 p659511.toInt (bs659510.length : Int) ∧ tr_RString_getBytes2 bs659510 p659511 f659512 f659530
set_option maxRecDepth 100000 in
set_option maxHeartbeats 4000000 in
theorem cp_659516_String_getBytes (l : Launch) (hl0 : l.stackTraces = false) (D : va_G) (I : FieldType → ClassId) (P659505 : List Nat) (F659506 : Nat → va_E) (q659507 : Nat) (qs659508 : Nat) (qb659509 : Nat) (bs659510 : List Int32) (p659511 : Int32) (f659512 : Nat → Int32) (n659513 : Nat) (hmq659507 : q659507 ∈ P659505) (heq659507 : F659506 q659507 = .inl (I .byte, n659513, .inl f659512)) (hbs659510 : ∀ A s H, (gV D I).2.2.2.1 A s H → gSC qs659508 qb659509 bs659510 A s H) (nbs659510 : (bs659510.length : Int) ≤ 65535) (lbs659510 : gLB bs659510) (bp659511 : gB p659511 0 16777216) (bf659512 : gF f659512 (-128) 127) (x659514 : p659511.toInt + (bs659510.length : Int) ≤ (n659513 : Int)) (x659515 : ((n659513 : Int) ≤ 16777216)) : CtA (gV D I) l yJ0_getBytes_840e7 cJ0_getBytes_840e7 4 none 1 20 0 0 [.ref qs659508, .ref q659507, .int p659511, .int 0] (va_pl P659505 F659506) (pp_659516_String_getBytes D I P659505 F659506 q659507 qs659508 qb659509 bs659510 p659511 f659512 n659513) gNA := by
  refine CtA_ofF hl0 (by decide +kernel) (Nat.le_of_ble_eq_true rfl) ?_
  refine G_aload_n 0 dr_cJ0_getBytes_840e7_0 rfl ?_
  refine Gw_callVk (As := []) (gV_ok D I) (cp_659444_String_coder l hl0 D I P659505 F659506 qs659508 qb659509 bs659510 hbs659510 nbs659510 lbs659510) dr_cJ0_getBytes_840e7_1 ⟨wr_3_61, wr_1_21, wr_3_64, by decide, rfl, (Nat.le_of_ble_eq_true rfl), (Nat.le_of_ble_eq_true rfl)⟩ wr_3_62 wr_3_63 (fun _ _ _ h => (hbs659510 _ _ _ h).1) (show 0 + 0 ≤ 0 by first | omega | decide) (show 0 + 0 ≤ 0 by first | omega | decide) (Nat.le_of_ble_eq_true rfl) (fun r659520 w659521 dc659517 ds659518 hp659519 => ?_) (fun _ _ _ _ _ z => z.elim)
  obtain ⟨rfl, rfl, hdc, hds⟩ := hp659519
  change G _ _ _ _ _ _ _ (.int 0 :: _) _ _ _
  refine G_widen (cs' := 0) (sl' := 0) (by omega) (by omega) ?_
  refine G_iload_n 3 dr_cJ0_getBytes_840e7_4 rfl ?_
  refine G_icmp_ne 28 dr_cJ0_getBytes_840e7_5 (by decide +kernel) (fun hc => absurd hc (by decide)) (fun _ => ?_)
  refine G_aload_n 0 dr_cJ0_getBytes_840e7_8 rfl ?_
  refine G_kget dr_cJ0_getBytes_840e7_9 wr_8_182 (fun _ _ _ h => (hbs659510 _ _ _ h).2.2.1) ?_
  refine G_iconst 0 dr_cJ0_getBytes_840e7_12 (by decide +kernel) ?_
  refine G_aload_n 1 dr_cJ0_getBytes_840e7_13 rfl ?_
  refine G_iload_n 2 dr_cJ0_getBytes_840e7_14 rfl ?_
  refine G_iload_n 3 dr_cJ0_getBytes_840e7_15 rfl ?_
  refine G_ishl dr_cJ0_getBytes_840e7_16 (G_nam fun z659522 hz659522 => ?_)
  have ez659522 : z659522.toInt = p659511.toInt * 1 := gI_shl (k := 0) hz659522 (by decide) bp659511 (by decide) (by decide)
  have bz659522 : gB z659522 0 16777216 := ⟨by omega, by omega⟩
  refine G_aload_n 0 dr_cJ0_getBytes_840e7_17 rfl ?_
  refine G_kget dr_cJ0_getBytes_840e7_18 wr_8_182 (fun _ _ _ h => (hbs659510 _ _ _ h).2.2.1) ?_
  refine G_klen dr_cJ0_getBytes_840e7_21 (fun _ _ _ h => (hbs659510 _ _ _ h).2.2.2) (G_nam fun z659523 hz659523 => ?_)
  have ez659523 : z659523.toInt = (bs659510.length : Int) := gI_ofN hz659523 (by omega)
  have bz659523 : gB z659523 0 65535 := ⟨by omega, by omega⟩
  refine Gp_copyK 1 (fun _ _ _ h => (hbs659510 _ _ _ h).2.2.2) hmq659507 heq659507 dr_cJ0_getBytes_840e7_22 wr_8_168 wr_5_113 wr_5_112 wr_1_34 rfl (gF_lst lbs659510) (by decide) (by omega) (by omega) (by have qa0 : Int32.toInt 0 = 0 := (by decide); omega) (by have qa0 : Int32.toInt 0 = 0 := (by decide); omega) (Nat.le_of_ble_eq_true rfl) (Nat.le_of_ble_eq_true rfl) (fun F659524 e659525 n659526 => ?_)
  obtain ⟨f659527, hf659527⟩ : ∃ z, z = va_cpy (fun j => bs659510.getD j 0) f659512 (0 : Int32).toNatClampNeg z659522.toNatClampNeg z659523.toNatClampNeg := ⟨_, rfl⟩
  rw [← hf659527] at e659525
  have bf659527 : gF f659527 (-128) 127 := gF_cpy hf659527 (gF_lst lbs659510) bf659512
  have he659528 : F659524 q659507 = .inl (I .byte, n659513, .inl f659527) := e659525
  have hfr659529 : rFr [q659507] P659505 F659506 F659524 := rFr_put (rFr_rf (W := []) (P := P659505) (F := F659506)) n659526
  refine G_goto 43 dr_cJ0_getBytes_840e7_25 (by decide +kernel) ?_
  exact G_vretA dr_cJ0_getBytes_840e7_43 rfl (Nat.le_of_ble_eq_true rfl) (Nat.le_of_ble_eq_true rfl) ⟨F659524, f659527, rfl, rfl, hfr659529, he659528, (Nat.le_of_ble_eq_true rfl), (Nat.le_of_ble_eq_true rfl), bf659527, (sK_cpy hf659527 (by omega)), (sF_cpy hf659527 (by decide) (by omega) (by omega)), (fun R c1 => c1 z659522 z659523 f659527 ez659522 ez659523 hf659527)⟩
/- tr_RAbstractStringBuilder_putStringAt2: a.0.value.[] -/
def tr_RAbstractStringBuilder_putStringAt2 (a1 : Int32) (bs : List Int32) (a0_value_v : Nat → Int32) (o1 : Nat → Int32) : Prop := ∀ R : (Nat → Int32) → Prop,
  (∀ (x1 : Nat → Int32), tr_RString_getBytes2 bs a1 a0_value_v x1 → R x1) →
  R o1
abbrev ky_659481_AbstractStringBuilder_putStringAt : gKey := (cJ5_putStringAt_47b60, 3, "java/lang/AbstractStringBuilder", none, [], "putStringAt", fun _ _ => True)
def pp_659481_AbstractStringBuilder_putStringAt (D : va_G) (I : FieldType → ClassId) (P659467 : List Nat) (F659468 : Nat → va_E) (q659469 : Nat) (q659470 : Nat) (p659471 : Int32) (qs659472 : Nat) (qb659473 : Nat) (bs659474 : List Int32) (p659475 : Int32) (p659476 : Int32) (f659477 : Nat → Int32) (n659478 : Nat) : Option Value → va_W → Nat → Nat → Prop := fun r w dc ds => ∃ (F659550 : Nat → va_E) (f659548 : Nat → Int32), r = none ∧ w = va_pl P659467 F659550 ∧ rFr [q659470] P659467 F659468 F659550 ∧ F659550 q659469 = .inr (1, [.ref q659470, .int 0, .int p659475, .int p659476]) ∧ F659550 q659470 = .inl (I .byte, n659478, .inl f659548) ∧ dc ≤ 0 ∧ ds ≤ 0 ∧ gF f659548 (-128) 127 ∧ sK f659477 f659548 p659471.toInt ∧ sF (fun j => bs659474.getD j 0) f659548 p659471.toInt (bs659474.length : Int) ∧ tr_RAbstractStringBuilder_putStringAt2 p659471 bs659474 f659477 f659548
set_option maxRecDepth 100000 in
set_option maxHeartbeats 4000000 in
theorem cp_659481_AbstractStringBuilder_putStringAt (l : Launch) (hl0 : l.stackTraces = false) (D : va_G) (I : FieldType → ClassId) (P659467 : List Nat) (F659468 : Nat → va_E) (q659469 : Nat) (q659470 : Nat) (p659471 : Int32) (qs659472 : Nat) (qb659473 : Nat) (bs659474 : List Int32) (p659475 : Int32) (p659476 : Int32) (f659477 : Nat → Int32) (n659478 : Nat) (hmq659469 : q659469 ∈ P659467) (hmq659470 : q659470 ∈ P659467) (heq659469 : F659468 q659469 = .inr (1, [.ref q659470, .int 0, .int p659475, .int p659476])) (heq659470 : F659468 q659470 = .inl (I .byte, n659478, .inl f659477)) (hbs659474 : ∀ A s H, (gV D I).2.2.2.1 A s H → gSC qs659472 qb659473 bs659474 A s H) (nbs659474 : (bs659474.length : Int) ≤ 65535) (lbs659474 : gLB bs659474) (bp659471 : gB p659471 0 16777216) (bp659475 : gB p659475 0 1) (bp659476 : gB p659476 0 16777216) (bf659477 : gF f659477 (-128) 127) (x659479 : p659471.toInt + (bs659474.length : Int) ≤ (n659478 : Int)) (x659480 : ((n659478 : Int) ≤ 16777216)) : CtA (gV D I) l yJ5_putStringAt_47b60 cJ5_putStringAt_47b60 3 none 2 43 0 0 [.ref q659469, .int p659471, .ref qs659472] (va_pl P659467 F659468) (pp_659481_AbstractStringBuilder_putStringAt D I P659467 F659468 q659469 q659470 p659471 qs659472 qb659473 bs659474 p659475 p659476 f659477 n659478) gNA := by
  refine CtA_ofF hl0 (by decide +kernel) (Nat.le_of_ble_eq_true rfl) ?_
  refine G_aload_n 0 dr_cJ5_putStringAt_47b60_0 rfl ?_
  refine G_aload_n 2 dr_cJ5_putStringAt_47b60_1 rfl ?_
  refine Gw_callVB (As := [.ref qs659472]) (gV_ok D I) (cp_659494_AbstractStringBuilder_inflateIfNeededFor l hl0 D I P659467 F659468 q659469 q659470 qs659472 qb659473 bs659474 p659475 p659476 f659477 n659478 hmq659469 hmq659470 heq659469 heq659470 hbs659474 nbs659474 lbs659474 bp659475 bp659476 bf659477 (by have qa0 : Int32.toInt 0 = 0 := (by decide); omega)) dr_cJ5_putStringAt_47b60_2 ⟨wr_8_159, wr_1_19, wr_8_162, by decide, rfl, (Nat.le_of_ble_eq_true rfl), (Nat.le_of_ble_eq_true rfl)⟩ wr_8_161 wr_s_5 hmq659469 heq659469 rfl (show 0 + 0 ≤ 0 by first | omega | decide) (show 0 + 0 ≤ 0 by first | omega | decide) (Nat.le_of_ble_eq_true rfl) (fun r659503 w659504 dc659500 ds659501 hp659502 => ?_) (fun _ _ _ _ _ z => z.elim)
  obtain ⟨rfl, rfl, hdc, hds⟩ := hp659502
  change G _ _ _ _ _ _ _ _ _ _ _
  refine G_widen (cs' := 0) (sl' := 0) (by omega) (by omega) ?_
  refine G_aload_n 2 dr_cJ5_putStringAt_47b60_5 rfl ?_
  refine G_aload_n 0 dr_cJ5_putStringAt_47b60_6 rfl ?_
  refine Gp_get 0 hmq659469 heq659469 dr_cJ5_putStringAt_47b60_7 (gk_J4 D I) (Nat.le_of_ble_eq_true rfl) wr_7_60 rfl ?_
  refine G_iload_n 1 dr_cJ5_putStringAt_47b60_10 rfl ?_
  refine G_aload_n 0 dr_cJ5_putStringAt_47b60_11 rfl ?_
  refine Gp_get 1 hmq659469 heq659469 dr_cJ5_putStringAt_47b60_12 (gk_J4 D I) (Nat.le_of_ble_eq_true rfl) wr_7_61 rfl ?_
  refine Gw_callVk (As := [.ref q659470, .int p659471, .int 0]) (gV_ok D I) (cp_659516_String_getBytes l hl0 D I P659467 F659468 q659470 qs659472 qb659473 bs659474 p659471 f659477 n659478 hmq659470 heq659470 hbs659474 nbs659474 lbs659474 bp659471 bf659477 (by have qa0 : Int32.toInt 0 = 0 := (by decide); omega) (by have qa0 : Int32.toInt 0 = 0 := (by decide); omega)) dr_cJ5_putStringAt_47b60_15 ⟨wr_8_164, wr_1_21, wr_8_167, by decide, rfl, (Nat.le_of_ble_eq_true rfl), (Nat.le_of_ble_eq_true rfl)⟩ wr_8_165 wr_8_166 (fun _ _ _ h => (hbs659474 _ _ _ h).1) (show 0 + 0 ≤ 0 by first | omega | decide) (show 0 + 0 ≤ 0 by first | omega | decide) (Nat.le_of_ble_eq_true rfl) (fun r659536 w659537 dc659533 ds659534 hp659535 => ?_) (fun _ _ _ _ _ z => z.elim)
  obtain ⟨F659542, f659538, rfl, rfl, hfr659544, he659545, hdc, hds, bf659538, x659539, x659540, ht659541⟩ := hp659535
  have he659546 : F659542 q659469 = .inr (1, [.ref q659470, .int 0, .int p659475, .int p659476]) := (hfr659544 q659469 hmq659469 (nm_c (rn_oa heq659469 heq659470) nm_n)).trans heq659469
  have hfr659547 : rFr [q659470] P659467 F659468 F659542 := rFr_call (rSub_rf (P := P659467)) (rFr_rf (W := []) (P := P659467) (F := F659468)) hfr659544 (fun b hb hn => ⟨nm_n, (nm_c (fun e => hn (e ▸ List.mem_cons_self)) nm_n)⟩)
  change G _ _ _ _ _ _ _ _ _ _ _
  refine G_widen (cs' := 0) (sl' := 0) (by omega) (by omega) ?_
  exact G_vretA dr_cJ5_putStringAt_47b60_18 rfl (Nat.le_of_ble_eq_true rfl) (Nat.le_of_ble_eq_true rfl) ⟨F659542, f659538, rfl, rfl, hfr659547, he659546, he659545, (Nat.le_of_ble_eq_true rfl), (Nat.le_of_ble_eq_true rfl), bf659538, (sK_c x659539 (by omega)), (by assumption), (fun R c1 => c1 f659538 ht659541)⟩
/- tr_RAbstractStringBuilder_append4: a.0...count, a.0.value.[] -/
def tr_RAbstractStringBuilder_append4 (bs : List Int32) (a0_count : Int32) (a0_value_v : Nat → Int32) (a0_value_n : Nat) (o1 : Int32) (o2 : Nat → Int32) : Prop := ∀ R : (Int32) → (Nat → Int32) → Prop,
  (∀ (x1 : Int32) (x2 : Int32) (x3 : Nat → Int32) (x4 : Int32), gB x1 0 65535 → tr_RString_length2 bs x1 → x2.toInt = a0_count.toInt + x1.toInt → tr_RAbstractStringBuilder_ensureCapacityInternal x2 a0_value_n → tr_RAbstractStringBuilder_putStringAt2 a0_count bs a0_value_v x3 → x4.toInt = a0_count.toInt + x1.toInt → R x4 x3) →
  R o1 o2
abbrev ky_659431_AbstractStringBuilder_append : gKey := (cJ5_append_cf1ce, 3, "java/lang/AbstractStringBuilder", (some (FieldType.object "java/lang/AbstractStringBuilder")), [], "append", fun _ _ => True)
def pp_659431_AbstractStringBuilder_append (D : va_G) (I : FieldType → ClassId) (P659418 : List Nat) (F659419 : Nat → va_E) (q659420 : Nat) (q659421 : Nat) (qs659422 : Nat) (qb659423 : Nat) (bs659424 : List Int32) (p659425 : Int32) (p659426 : Int32) (f659427 : Nat → Int32) (n659428 : Nat) : Option Value → va_W → Nat → Nat → Prop := fun r w dc ds => ∃ (F659576 : Nat → va_E) (o659573 : Int32) (f659574 : Nat → Int32), r = some (.ref q659420) ∧ w = va_pl P659418 F659576 ∧ rFr [q659420, q659421] P659418 F659419 F659576 ∧ F659576 q659420 = .inr (1, [.ref q659421, .int 0, .int p659425, .int o659573]) ∧ F659576 q659421 = .inl (I .byte, n659428, .inl f659574) ∧ dc ≤ 0 ∧ ds ≤ 0 ∧ gB o659573 0 16777216 ∧ gF f659574 (-128) 127 ∧ o659573.toInt = p659426.toInt + (bs659424.length : Int) ∧ sK f659427 f659574 p659426.toInt ∧ sF (fun j => bs659424.getD j 0) f659574 p659426.toInt (bs659424.length : Int) ∧ tr_RAbstractStringBuilder_append4 bs659424 p659426 f659427 n659428 o659573 f659574
set_option maxRecDepth 100000 in
set_option maxHeartbeats 4000000 in
theorem cp_659431_AbstractStringBuilder_append (l : Launch) (hl0 : l.stackTraces = false) (D : va_G) (I : FieldType → ClassId) (P659418 : List Nat) (F659419 : Nat → va_E) (q659420 : Nat) (q659421 : Nat) (qs659422 : Nat) (qb659423 : Nat) (bs659424 : List Int32) (p659425 : Int32) (p659426 : Int32) (f659427 : Nat → Int32) (n659428 : Nat) (hmq659420 : q659420 ∈ P659418) (hmq659421 : q659421 ∈ P659418) (heq659420 : F659419 q659420 = .inr (1, [.ref q659421, .int 0, .int p659425, .int p659426])) (heq659421 : F659419 q659421 = .inl (I .byte, n659428, .inl f659427)) (hbs659424 : ∀ A s H, (gV D I).2.2.2.1 A s H → gSC qs659422 qb659423 bs659424 A s H) (nbs659424 : (bs659424.length : Int) ≤ 65535) (lbs659424 : gLB bs659424) (bp659425 : gB p659425 0 1) (bp659426 : gB p659426 0 16777216) (bf659427 : gF f659427 (-128) 127) (x659429 : p659426.toInt + (bs659424.length : Int) ≤ (n659428 : Int)) (x659430 : ((n659428 : Int) ≤ 16777216)) : CtA (gV D I) l yJ5_append_cf1ce cJ5_append_cf1ce 3 (some (FieldType.object "java/lang/AbstractStringBuilder")) 3 65 0 0 [.ref q659420, .ref qs659422] (va_pl P659418 F659419) (pp_659431_AbstractStringBuilder_append D I P659418 F659419 q659420 q659421 qs659422 qb659423 bs659424 p659425 p659426 f659427 n659428) gNA := by
  refine CtA_ofF hl0 (by decide +kernel) (Nat.le_of_ble_eq_true rfl) ?_
  refine G_aload_n 1 dr_cJ5_append_cf1ce_0 rfl ?_
  refine G_ifnonnull 9 dr_cJ5_append_cf1ce_1 (by decide +kernel) ?_
  refine G_aload_n 1 dr_cJ5_append_cf1ce_9 rfl ?_
  refine Gw_callVk (As := []) (gV_ok D I) (cp_659437_String_length l hl0 D I P659418 F659419 qs659422 qb659423 bs659424 hbs659424 nbs659424 lbs659424) dr_cJ5_append_cf1ce_10 ⟨wr_8_154, wr_1_21, wr_3_60, by decide, rfl, (Nat.le_of_ble_eq_true rfl), (Nat.le_of_ble_eq_true rfl)⟩ wr_3_58 wr_3_59 (fun _ _ _ h => (hbs659424 _ _ _ h).1) (show 0 + 0 ≤ 0 by first | omega | decide) (show 0 + 0 ≤ 0 by first | omega | decide) (Nat.le_of_ble_eq_true rfl) (fun r659455 w659456 dc659452 ds659453 hp659454 => ?_) (fun _ _ _ _ _ z => z.elim)
  obtain ⟨o659457, rfl, rfl, hdc, hds, bo659457, x659458, ht659459⟩ := hp659454
  change G _ _ _ _ _ _ _ (.int o659457 :: _) _ _ _
  refine G_widen (cs' := 0) (sl' := 0) (by omega) (by omega) ?_
  refine G_istore_n (L' := [(2, .int o659457), (0, .ref q659420), (1, .ref qs659422)]) dr_cJ5_append_cf1ce_13 (Nat.le_of_ble_eq_true rfl) rfl ?_
  refine G_aload_n 1 dr_cJ5_append_cf1ce_14 rfl ?_
  refine G_aload_n 1 dr_cJ5_append_cf1ce_15 rfl ?_
  refine Gp_get 3 hmq659420 heq659420 dr_cJ5_append_cf1ce_16 (gk_J4 D I) (Nat.le_of_ble_eq_true rfl) wr_7_64 rfl ?_
  refine G_iload_n 0 dr_cJ5_append_cf1ce_19 rfl ?_
  refine G_iadd dr_cJ5_append_cf1ce_20 (G_nam fun z659460 hz659460 => ?_)
  have ez659460 : z659460.toInt = p659426.toInt + o659457.toInt := by rw [gI_add hz659460 bp659426 bo659457 (by decide) (by decide)]
  have bz659460 : gB z659460 0 16842751 := gB_add (gI_add hz659460 bp659426 bo659457 (by decide) (by decide)) bp659426 bo659457 (by decide) (by decide)
  refine Gw_callVB (As := [.int z659460]) (gV_ok D I) (cp_658701_AbstractStringBuilder_ensureCapacityInternal l hl0 D I P659418 F659419 q659420 q659421 z659460 p659425 p659426 f659427 n659428 hmq659420 hmq659421 heq659420 heq659421 ⟨by omega, by omega⟩ bp659425 bp659426 bf659427 (by have qa0 : Int32.toInt 0 = 0 := (by decide); omega) (by have qa0 : Int32.toInt 0 = 0 := (by decide); omega)) dr_cJ5_append_cf1ce_21 ⟨wr_8_4, wr_1_19, wr_8_7, by decide, rfl, (Nat.le_of_ble_eq_true rfl), (Nat.le_of_ble_eq_true rfl)⟩ wr_8_6 wr_s_0 hmq659420 heq659420 rfl (show 0 + 0 ≤ 0 by first | omega | decide) (show 0 + 0 ≤ 0 by first | omega | decide) (Nat.le_of_ble_eq_true rfl) (fun r659464 w659465 dc659461 ds659462 hp659463 => ?_) (fun _ _ _ _ _ z => z.elim)
  obtain ⟨rfl, rfl, hdc, hds, ht659466⟩ := hp659463
  change G _ _ _ _ _ _ _ _ _ _ _
  refine G_widen (cs' := 0) (sl' := 0) (by omega) (by omega) ?_
  refine G_aload_n 1 dr_cJ5_append_cf1ce_24 rfl ?_
  refine G_aload_n 1 dr_cJ5_append_cf1ce_25 rfl ?_
  refine Gp_get 3 hmq659420 heq659420 dr_cJ5_append_cf1ce_26 (gk_J4 D I) (Nat.le_of_ble_eq_true rfl) wr_7_64 rfl ?_
  refine G_aload_n 2 dr_cJ5_append_cf1ce_29 rfl ?_
  refine Gw_callVB (As := [.int p659426, .ref qs659422]) (gV_ok D I) (cp_659481_AbstractStringBuilder_putStringAt l hl0 D I P659418 F659419 q659420 q659421 p659426 qs659422 qb659423 bs659424 p659425 p659426 f659427 n659428 hmq659420 hmq659421 heq659420 heq659421 hbs659424 nbs659424 lbs659424 bp659426 bp659425 bp659426 bf659427 (by have qa0 : Int32.toInt 0 = 0 := (by decide); omega) (by have qa0 : Int32.toInt 0 = 0 := (by decide); omega)) dr_cJ5_append_cf1ce_30 ⟨wr_8_155, wr_1_19, wr_8_158, by decide, rfl, (Nat.le_of_ble_eq_true rfl), (Nat.le_of_ble_eq_true rfl)⟩ wr_8_157 wr_s_4 hmq659420 heq659420 rfl (show 0 + 0 ≤ 0 by first | omega | decide) (show 0 + 0 ≤ 0 by first | omega | decide) (Nat.le_of_ble_eq_true rfl) (fun r659554 w659555 dc659551 ds659552 hp659553 => ?_) (fun _ _ _ _ _ z => z.elim)
  obtain ⟨F659560, f659556, rfl, rfl, hfr659562, he659563, he659564, hdc, hds, bf659556, x659557, x659558, ht659559⟩ := hp659553
  have hfr659565 : rFr [q659421] P659418 F659419 F659560 := rFr_call (rSub_rf (P := P659418)) (rFr_rf (W := []) (P := P659418) (F := F659419)) hfr659562 (fun b hb hn => ⟨nm_n, (nm_c (fun e => hn (e ▸ List.mem_cons_self)) nm_n)⟩)
  change G _ _ _ _ _ _ _ _ _ _ _
  refine G_widen (cs' := 0) (sl' := 0) (by omega) (by omega) ?_
  refine G_aload_n 1 dr_cJ5_append_cf1ce_33 rfl ?_
  refine G_dup dr_cJ5_append_cf1ce_34 rfl ?_
  refine Gp_get 3 hmq659420 he659563 dr_cJ5_append_cf1ce_35 (gk_J4 D I) (Nat.le_of_ble_eq_true rfl) wr_7_64 rfl ?_
  refine G_iload_n 0 dr_cJ5_append_cf1ce_38 rfl ?_
  refine G_iadd dr_cJ5_append_cf1ce_39 (G_nam fun z659566 hz659566 => ?_)
  have ez659566 : z659566.toInt = p659426.toInt + o659457.toInt := by rw [gI_add hz659566 bp659426 bo659457 (by decide) (by decide)]
  have bz659566 : gB z659566 0 16842751 := gB_add (gI_add hz659566 bp659426 bo659457 (by decide) (by decide)) bp659426 bo659457 (by decide) (by decide)
  refine Gp_put 3 hmq659420 he659563 dr_cJ5_append_cf1ce_40 (gk_J4 D I) (Nat.le_of_ble_eq_true rfl) wr_7_64 rfl rfl rfl (Nat.le_of_ble_eq_true rfl) (fun F659567 e659568 n659569 => ?_)
  have he659570 : F659567 q659421 = .inl (I .byte, n659428, .inl f659556) := (n659569 q659421 (rn_ao he659564 he659563)).trans he659564
  have he659571 : F659567 q659420 = .inr (1, [.ref q659421, .int 0, .int p659425, .int z659566]) := e659568
  have hfr659572 : rFr [q659420, q659421] P659418 F659419 F659567 := rFr_put hfr659565 n659569
  refine G_aload_n 1 dr_cJ5_append_cf1ce_43 rfl ?_
  exact G_aretA (FieldType.object "java/lang/AbstractStringBuilder") dr_cJ5_append_cf1ce_44 rfl (by first | exact Or.inl ⟨_, rfl⟩ | exact Or.inr ⟨_, rfl⟩) (Or.inr ⟨_, rfl⟩) (Nat.le_of_ble_eq_true rfl) (Nat.le_of_ble_eq_true rfl) ⟨F659567, z659566, f659556, rfl, rfl, hfr659572, he659571, he659570, (Nat.le_of_ble_eq_true rfl), (Nat.le_of_ble_eq_true rfl), ⟨by omega, by omega⟩, bf659556, (by have qa0 : Int32.toInt 0 = 0 := (by decide); omega), (sK_c x659557 (by omega)), (by assumption), (fun R c1 => c1 o659457 z659460 f659556 z659566 bo659457 ht659459 ez659460 ht659466 ht659559 ez659566)⟩
/- tr_RStringBuilder_append4: a.0...count, a.0.value.[] -/
def tr_RStringBuilder_append4 (bs : List Int32) (a0_count : Int32) (a0_value_v : Nat → Int32) (a0_value_n : Nat) (o1 : Int32) (o2 : Nat → Int32) : Prop := ∀ R : (Int32) → (Nat → Int32) → Prop,
  (∀ (x1 : Int32) (x2 : Nat → Int32), gB x1 0 16777216 → tr_RAbstractStringBuilder_append4 bs a0_count a0_value_v a0_value_n x1 x2 → R x1 x2) →
  R o1 o2
abbrev ky_659417_StringBuilder_append : gKey := (cJ4_append_15ec4, 2, "java/lang/StringBuilder", (some (FieldType.object "java/lang/StringBuilder")), [], "append", fun _ _ => True)
def pp_659417_StringBuilder_append (D : va_G) (I : FieldType → ClassId) (P659404 : List Nat) (F659405 : Nat → va_E) (q659406 : Nat) (q659407 : Nat) (qs659408 : Nat) (qb659409 : Nat) (bs659410 : List Int32) (p659411 : Int32) (p659412 : Int32) (f659413 : Nat → Int32) (n659414 : Nat) : Option Value → va_W → Nat → Nat → Prop := fun r w dc ds => ∃ (F659597 : Nat → va_E) (o659594 : Int32) (f659595 : Nat → Int32), r = some (.ref q659406) ∧ w = va_pl P659404 F659597 ∧ rFr [q659406, q659407] P659404 F659405 F659597 ∧ F659597 q659406 = .inr (1, [.ref q659407, .int 0, .int p659411, .int o659594]) ∧ F659597 q659407 = .inl (I .byte, n659414, .inl f659595) ∧ dc ≤ 0 ∧ ds ≤ 0 ∧ gB o659594 0 16777216 ∧ gF f659595 (-128) 127 ∧ o659594.toInt = p659412.toInt + (bs659410.length : Int) ∧ sK f659413 f659595 p659412.toInt ∧ sF (fun j => bs659410.getD j 0) f659595 p659412.toInt (bs659410.length : Int) ∧ tr_RStringBuilder_append4 bs659410 p659412 f659413 n659414 o659594 f659595
set_option maxRecDepth 100000 in
set_option maxHeartbeats 4000000 in
theorem cp_659417_StringBuilder_append (l : Launch) (hl0 : l.stackTraces = false) (D : va_G) (I : FieldType → ClassId) (P659404 : List Nat) (F659405 : Nat → va_E) (q659406 : Nat) (q659407 : Nat) (qs659408 : Nat) (qb659409 : Nat) (bs659410 : List Int32) (p659411 : Int32) (p659412 : Int32) (f659413 : Nat → Int32) (n659414 : Nat) (hmq659406 : q659406 ∈ P659404) (hmq659407 : q659407 ∈ P659404) (heq659406 : F659405 q659406 = .inr (1, [.ref q659407, .int 0, .int p659411, .int p659412])) (heq659407 : F659405 q659407 = .inl (I .byte, n659414, .inl f659413)) (hbs659410 : ∀ A s H, (gV D I).2.2.2.1 A s H → gSC qs659408 qb659409 bs659410 A s H) (nbs659410 : (bs659410.length : Int) ≤ 65535) (lbs659410 : gLB bs659410) (bp659411 : gB p659411 0 1) (bp659412 : gB p659412 0 16777216) (bf659413 : gF f659413 (-128) 127) (x659415 : p659412.toInt + (bs659410.length : Int) ≤ (n659414 : Int)) (x659416 : ((n659414 : Int) ≤ 16777216)) : CtA (gV D I) l yJ4_append_15ec4 cJ4_append_15ec4 2 (some (FieldType.object "java/lang/StringBuilder")) 4 87 0 0 [.ref q659406, .ref qs659408] (va_pl P659404 F659405) (pp_659417_StringBuilder_append D I P659404 F659405 q659406 q659407 qs659408 qb659409 bs659410 p659411 p659412 f659413 n659414) gNA := by
  refine CtA_ofF hl0 (by decide +kernel) (Nat.le_of_ble_eq_true rfl) ?_
  refine G_aload_n 0 dr_cJ4_append_15ec4_0 rfl ?_
  refine G_aload_n 1 dr_cJ4_append_15ec4_1 rfl ?_
  refine Gw_callSU (As := [.ref qs659408]) (gV_ok D I) (cp_659431_AbstractStringBuilder_append l hl0 D I P659404 F659405 q659406 q659407 qs659408 qb659409 bs659410 p659411 p659412 f659413 n659414 hmq659406 hmq659407 heq659406 heq659407 hbs659410 nbs659410 lbs659410 bp659411 bp659412 bf659413 (by have qa0 : Int32.toInt 0 = 0 := (by decide); omega) (by have qa0 : Int32.toInt 0 = 0 := (by decide); omega)) dr_cJ4_append_15ec4_2 ⟨wr_8_144, wr_1_19, wr_8_146, by decide, rfl, (Nat.le_of_ble_eq_true rfl), (Nat.le_of_ble_eq_true rfl)⟩ wr_8_145 wr_11_229 wr_7_73 wr_7_44 (by decide) hmq659406 heq659406 rfl (show 0 + 0 ≤ 0 by first | omega | decide) (show 0 + 0 ≤ 0 by first | omega | decide) (Nat.le_of_ble_eq_true rfl) (fun r659580 w659581 dc659577 ds659578 hp659579 => ?_)
  obtain ⟨F659588, o659582, f659583, rfl, rfl, hfr659590, he659591, he659592, hdc, hds, bo659582, bf659583, x659584, x659585, x659586, ht659587⟩ := hp659579
  have hfr659593 : rFr [q659406, q659407] P659404 F659405 F659588 := rFr_call (rSub_rf (P := P659404)) (rFr_rf (W := []) (P := P659404) (F := F659405)) hfr659590 (fun b hb hn => ⟨nm_n, (nm_c (fun e => hn (e ▸ List.mem_cons_self)) (nm_c (fun e => hn (e ▸ (List.mem_cons_of_mem _ List.mem_cons_self))) nm_n))⟩)
  change G _ _ _ _ _ _ _ (.ref q659406 :: _) _ _ _
  refine G_widen (cs' := 0) (sl' := 0) (by omega) (by omega) ?_
  refine G_pop dr_cJ4_append_15ec4_5 rfl ?_
  refine G_aload_n 0 dr_cJ4_append_15ec4_6 rfl ?_
  exact G_aretA (FieldType.object "java/lang/StringBuilder") dr_cJ4_append_15ec4_7 rfl (by first | exact Or.inl ⟨_, rfl⟩ | exact Or.inr ⟨_, rfl⟩) (Or.inr ⟨_, rfl⟩) (Nat.le_of_ble_eq_true rfl) (Nat.le_of_ble_eq_true rfl) ⟨F659588, o659582, f659583, rfl, rfl, hfr659593, he659591, he659592, (Nat.le_of_ble_eq_true rfl), (Nat.le_of_ble_eq_true rfl), bo659582, bf659583, (by have qa0 : Int32.toInt 0 = 0 := (by decide); omega), (sK_c x659585 (by omega)), (by assumption), (fun R c1 => c1 o659582 f659583 bo659582 ht659587)⟩
/- tr_RAbstractStringBuilder_append5: a.0...count, a.0.value.#, a.0.value.[] -/
def tr_RAbstractStringBuilder_append5 (a0_count : Int32) (a0_value_v : Nat → Int32) (a0_value_n : Nat) (a1_value_v : Nat → Int32) (a1_value_n : Nat) (o1 : Int32) (o2 : Nat) (o3 : Nat → Int32) : Prop := ∀ R : (Int32) → (Nat) → (Nat → Int32) → Prop,
  (∀ (x1 : Int32) (x2 : Int32) (x3 : Nat) (x4 : Nat → Int32) (x5 : Nat → Int32) (x6 : Int32), gB x1 0 16777216 → tr_RString_length a1_value_n x1 → x2.toInt = a0_count.toInt + x1.toInt → tr_RAbstractStringBuilder_ensureCapacityInternal2 x2 a0_value_v a0_value_n x3 x4 → tr_RAbstractStringBuilder_putStringAt a0_count x4 a1_value_v a1_value_n x5 → x6.toInt = a0_count.toInt + x1.toInt → R x6 x3 x5) →
  R o1 o2 o3
abbrev ky_659637_AbstractStringBuilder_append : gKey := (cJ5_append_cf1ce, 3, "java/lang/AbstractStringBuilder", (some (FieldType.object "java/lang/AbstractStringBuilder")), [], "append", fun _ _ => True)
def pp_659637_AbstractStringBuilder_append (D : va_G) (I : FieldType → ClassId) (P659618 : List Nat) (F659619 : Nat → va_E) (q659620 : Nat) (q659621 : Nat) (q659622 : Nat) (q659623 : Nat) (p659624 : Int32) (p659625 : Int32) (p659626 : Int32) (p659627 : Int32) (f659628 : Nat → Int32) (n659629 : Nat) (f659630 : Nat → Int32) (n659631 : Nat) : Option Value → va_W → Nat → Nat → Prop := fun r w dc ds => ∃ (P659709 : List Nat) (F659710 : Nat → va_E) (o659705 : Int32) (q659706 : Nat) (n659707 : Nat) (f659708 : Nat → Int32), r = some (.ref q659620) ∧ w = va_pl P659709 F659710 ∧ rSub P659618 P659709 ∧ rFr [q659620, q659622] P659618 F659619 F659710 ∧ F659710 q659620 = .inr (1, [.ref q659706, .int 0, .int p659624, .int o659705]) ∧ F659710 q659621 = .inr (0, [.ref q659623, .int 0, .int p659626, .int p659627]) ∧ F659710 q659706 = .inl (I .byte, n659707, .inl f659708) ∧ F659710 q659623 = .inl (I .byte, n659631, .inl f659630) ∧ q659706 ∈ P659709 ∧ (q659706 = q659622 ∨ q659706 ∉ P659618) ∧ dc ≤ 1 ∧ ds ≤ 2 * (n659707 - n659629) ∧ gB o659705 0 16777216 ∧ gF f659708 (-128) 127 ∧ o659705.toInt = p659625.toInt + (n659631 : Int) ∧ o659705.toInt ≤ (n659707 : Int) ∧ (n659629 : Int) ≤ (n659707 : Int) ∧ (n659707 : Int) ≤ 2 * (n659629 : Int) + 2 + p659625.toInt + (n659631 : Int) ∧ ((n659707 : Int) = (n659629 : Int) ∨ (n659629 : Int) < o659705.toInt) ∧ tr_RAbstractStringBuilder_append5 p659625 f659628 n659629 f659630 n659631 o659705 n659707 f659708
set_option maxRecDepth 100000 in
set_option maxHeartbeats 4000000 in
theorem cp_659637_AbstractStringBuilder_append (l : Launch) (hl0 : l.stackTraces = false) (D : va_G) (I : FieldType → ClassId) (P659618 : List Nat) (F659619 : Nat → va_E) (q659620 : Nat) (q659621 : Nat) (q659622 : Nat) (q659623 : Nat) (p659624 : Int32) (p659625 : Int32) (p659626 : Int32) (p659627 : Int32) (f659628 : Nat → Int32) (n659629 : Nat) (f659630 : Nat → Int32) (n659631 : Nat) (hmq659620 : q659620 ∈ P659618) (hmq659621 : q659621 ∈ P659618) (hmq659622 : q659622 ∈ P659618) (hmq659623 : q659623 ∈ P659618) (heq659620 : F659619 q659620 = .inr (1, [.ref q659622, .int 0, .int p659624, .int p659625])) (heq659621 : F659619 q659621 = .inr (0, [.ref q659623, .int 0, .int p659626, .int p659627])) (heq659622 : F659619 q659622 = .inl (I .byte, n659629, .inl f659628)) (heq659623 : F659619 q659623 = .inl (I .byte, n659631, .inl f659630)) (hneq659622q659623 : q659622 ≠ q659623) (bp659624 : gB p659624 0 1) (bp659625 : gB p659625 0 16777216) (bp659627 : gB p659627 0 1) (bf659628 : gF f659628 (-128) 127) (bf659630 : gF f659630 (-128) 127) (x659632 : (n659631 : Int) ≤ 65535) (x659633 : (n659629 : Int) ≤ 8388608 - 100000) (x659634 : p659625.toInt ≤ (n659629 : Int)) (x659635 : ((n659629 : Int) ≤ 16777216)) (x659636 : ((n659631 : Int) ≤ 16777216)) : CtA (gV D I) l yJ5_append_cf1ce cJ5_append_cf1ce 3 (some (FieldType.object "java/lang/AbstractStringBuilder")) 4 84 1 (4 * n659629 + 4 + 2 * n659631) [.ref q659620, .ref q659621] (va_pl P659618 F659619) (pp_659637_AbstractStringBuilder_append D I P659618 F659619 q659620 q659621 q659622 q659623 p659624 p659625 p659626 p659627 f659628 n659629 f659630 n659631) gNA := by
  refine CtA_ofF hl0 (by decide +kernel) (Nat.le_of_ble_eq_true rfl) ?_
  have bp659626 := gB_any p659626
  refine G_aload_n 1 dr_cJ5_append_cf1ce_0 rfl ?_
  refine G_ifnonnull 9 dr_cJ5_append_cf1ce_1 (by decide +kernel) ?_
  refine G_aload_n 1 dr_cJ5_append_cf1ce_9 rfl ?_
  refine Gw_callV (As := []) (gV_ok D I) (cp_659217_String_length l hl0 D I P659618 F659619 q659621 q659623 p659626 p659627 f659630 n659631 hmq659621 hmq659623 heq659621 heq659623 bp659627 bf659630 (by have qa0 : Int32.toInt 0 = 0 := (by decide); omega)) dr_cJ5_append_cf1ce_10 ⟨wr_8_154, wr_1_21, wr_3_60, by decide, rfl, (Nat.le_of_ble_eq_true rfl), (Nat.le_of_ble_eq_true rfl)⟩ wr_3_58 wr_3_59 hmq659621 heq659621 rfl (show 0 + 0 ≤ 1 by first | omega | decide) (show 0 + 0 ≤ (4 * n659629 + 4 + 2 * n659631) by first | omega | decide) (Nat.le_of_ble_eq_true rfl) (fun r659641 w659642 dc659638 ds659639 hp659640 => ?_) (fun _ _ _ _ _ z => z.elim)
  obtain ⟨o659643, rfl, rfl, hdc, hds, bo659643, x659644, ht659645⟩ := hp659640
  change G _ _ _ _ _ _ _ (.int o659643 :: _) _ _ _
  refine G_widen (cs' := 0) (sl' := 0) (by omega) (by omega) ?_
  refine G_istore_n (L' := [(2, .int o659643), (0, .ref q659620), (1, .ref q659621)]) dr_cJ5_append_cf1ce_13 (Nat.le_of_ble_eq_true rfl) rfl ?_
  refine G_aload_n 1 dr_cJ5_append_cf1ce_14 rfl ?_
  refine G_aload_n 1 dr_cJ5_append_cf1ce_15 rfl ?_
  refine Gp_get 3 hmq659620 heq659620 dr_cJ5_append_cf1ce_16 (gk_J4 D I) (Nat.le_of_ble_eq_true rfl) wr_7_64 rfl ?_
  refine G_iload_n 0 dr_cJ5_append_cf1ce_19 rfl ?_
  refine G_iadd dr_cJ5_append_cf1ce_20 (G_nam fun z659646 hz659646 => ?_)
  have ez659646 : z659646.toInt = p659625.toInt + o659643.toInt := by rw [gI_add hz659646 bp659625 bo659643 (by decide) (by decide)]
  have bz659646 : gB z659646 0 33554432 := gB_add (gI_add hz659646 bp659625 bo659643 (by decide) (by decide)) bp659625 bo659643 (by decide) (by decide)
  refine Gw_callVB (As := [.int z659646]) (gV_ok D I) (cp_658822_AbstractStringBuilder_ensureCapacityInternal l hl0 D I P659618 F659619 q659620 q659622 z659646 p659624 p659625 f659628 n659629 hmq659620 hmq659622 heq659620 heq659622 ⟨by omega, by omega⟩ bp659624 bp659625 bf659628 (by have qa0 : Int32.toInt 0 = 0 := (by decide); omega) (by have qa0 : Int32.toInt 0 = 0 := (by decide); omega)) dr_cJ5_append_cf1ce_21 ⟨wr_8_4, wr_1_19, wr_8_7, by decide, rfl, (Nat.le_of_ble_eq_true rfl), (Nat.le_of_ble_eq_true rfl)⟩ wr_8_6 wr_s_0 hmq659620 heq659620 rfl (show 0 + 1 ≤ 1 by first | omega | decide) (show 0 + (2 * n659629 + 2 + z659646.toInt.toNat) ≤ (4 * n659629 + 4 + 2 * n659631) by first | omega | decide) (Nat.le_of_ble_eq_true rfl) (fun r659650 w659651 dc659647 ds659648 hp659649 => ?_) (fun _ _ _ _ _ z => z.elim)
  obtain ⟨P659660, F659661, q659652, n659653, f659654, rfl, rfl, hsb659662, hfr659663, he659664, he659665, hm659666, hq659667, hdc, hds, bf659654, x659655, x659656, x659657, x659658, ht659659⟩ := hp659649
  have hm659668 : q659620 ∈ P659660 := hsb659662 q659620 hmq659620
  have hm659669 : q659621 ∈ P659660 := hsb659662 q659621 hmq659621
  have hm659670 : q659622 ∈ P659660 := hsb659662 q659622 hmq659622
  have hm659671 : q659623 ∈ P659660 := hsb659662 q659623 hmq659623
  have hor659672 : q659652 = q659622 ∨ q659652 ∉ P659618 := hq659667.elim Or.inl (fun n => Or.inr (fun z => n ((rSub_rf (P := P659618)) _ z)))
  have hsb659673 : rSub P659618 P659660 := rSub_tr (rSub_rf (P := P659618)) hsb659662
  have he659674 : F659661 q659621 = .inr (0, [.ref q659623, .int 0, .int p659626, .int p659627]) := (hfr659663 q659621 hmq659621 (nm_c (rn_oo heq659621 heq659620 (by decide)) nm_n)).trans heq659621
  have he659675 : F659661 q659622 = .inl (I .byte, n659629, .inl f659628) := (hfr659663 q659622 hmq659622 (nm_c (rn_ao heq659622 heq659620) nm_n)).trans heq659622
  have he659676 : F659661 q659623 = .inl (I .byte, n659631, .inl f659630) := (hfr659663 q659623 hmq659623 (nm_c (rn_ao heq659623 heq659620) nm_n)).trans heq659623
  have hfr659677 : rFr [q659620] P659618 F659619 F659661 := rFr_call (rSub_rf (P := P659618)) (rFr_rf (W := []) (P := P659618) (F := F659619)) hfr659663 (fun b hb hn => ⟨nm_n, (nm_c (fun e => hn (e ▸ List.mem_cons_self)) nm_n)⟩)
  have hne659678 : q659623 ≠ q659652 := fun e => hq659667.elim (fun e2 => (Ne.symm hneq659622q659623) (e.trans e2)) (fun n => n (e ▸ hmq659623))
  change G _ _ _ _ _ _ _ _ _ _ _
  refine G_widen (cs' := 1) (sl' := 2 * (n659653 - n659629)) (by omega) (by omega) ?_
  refine G_aload_n 1 dr_cJ5_append_cf1ce_24 rfl ?_
  refine G_aload_n 1 dr_cJ5_append_cf1ce_25 rfl ?_
  refine Gp_get 3 hm659668 he659664 dr_cJ5_append_cf1ce_26 (gk_J4 D I) (Nat.le_of_ble_eq_true rfl) wr_7_64 rfl ?_
  refine G_aload_n 2 dr_cJ5_append_cf1ce_29 rfl ?_
  refine Gw_callVB (As := [.int p659625, .ref q659621]) (gV_ok D I) (cp_659269_AbstractStringBuilder_putStringAt l hl0 D I P659660 F659661 q659620 q659621 q659652 q659623 p659625 p659624 p659625 p659626 p659627 f659654 n659653 f659630 n659631 hm659668 hm659669 hm659666 hm659671 he659664 he659674 he659665 he659676 (Ne.symm hne659678) bp659625 bp659624 bp659625 bp659627 bf659654 bf659630 (by have qa0 : Int32.toInt 0 = 0 := (by decide); omega) (by have qa0 : Int32.toInt 0 = 0 := (by decide); omega) (by have qa0 : Int32.toInt 0 = 0 := (by decide); omega)) dr_cJ5_append_cf1ce_30 ⟨wr_8_155, wr_1_19, wr_8_158, by decide, rfl, (Nat.le_of_ble_eq_true rfl), (Nat.le_of_ble_eq_true rfl)⟩ wr_8_157 wr_s_4 hm659668 he659664 rfl (show 1 + 0 ≤ 1 by first | omega | decide) (show 2 * (n659653 - n659629) + 0 ≤ (4 * n659629 + 4 + 2 * n659631) by first | omega | decide) (Nat.le_of_ble_eq_true rfl) (fun r659682 w659683 dc659679 ds659680 hp659681 => ?_) (fun _ _ _ _ _ z => z.elim)
  obtain ⟨F659688, f659684, rfl, rfl, hfr659690, he659691, he659692, he659693, he659694, hdc, hds, bf659684, x659685, x659686, ht659687⟩ := hp659681
  have hfr659695 : rFr [q659620, q659622] P659618 F659619 F659688 := rFr_call hsb659673 hfr659677 hfr659690 (fun b hb hn => ⟨(nm_c (fun e => hn (e ▸ List.mem_cons_self)) nm_n), (nm_c (fun e => hor659672.elim (fun e2 => hn ((e.trans e2) ▸ (List.mem_cons_of_mem _ List.mem_cons_self))) (fun n => n (e ▸ hb))) nm_n)⟩)
  change G _ _ _ _ _ _ _ _ _ _ _
  refine G_widen (cs' := 1) (sl' := 2 * (n659653 - n659629) + 0) (by omega) (by omega) ?_
  refine G_aload_n 1 dr_cJ5_append_cf1ce_33 rfl ?_
  refine G_dup dr_cJ5_append_cf1ce_34 rfl ?_
  refine Gp_get 3 hm659668 he659691 dr_cJ5_append_cf1ce_35 (gk_J4 D I) (Nat.le_of_ble_eq_true rfl) wr_7_64 rfl ?_
  refine G_iload_n 0 dr_cJ5_append_cf1ce_38 rfl ?_
  refine G_iadd dr_cJ5_append_cf1ce_39 (G_nam fun z659696 hz659696 => ?_)
  have ez659696 : z659696.toInt = p659625.toInt + o659643.toInt := by rw [gI_add hz659696 bp659625 bo659643 (by decide) (by decide)]
  have bz659696 : gB z659696 0 33554432 := gB_add (gI_add hz659696 bp659625 bo659643 (by decide) (by decide)) bp659625 bo659643 (by decide) (by decide)
  refine Gp_put 3 hm659668 he659691 dr_cJ5_append_cf1ce_40 (gk_J4 D I) (Nat.le_of_ble_eq_true rfl) wr_7_64 rfl rfl rfl (Nat.le_of_ble_eq_true rfl) (fun F659697 e659698 n659699 => ?_)
  have he659700 : F659697 q659621 = .inr (0, [.ref q659623, .int 0, .int p659626, .int p659627]) := (n659699 q659621 (rn_oo he659692 he659691 (by decide))).trans he659692
  have he659701 : F659697 q659652 = .inl (I .byte, n659653, .inl f659684) := (n659699 q659652 (rn_ao he659693 he659691)).trans he659693
  have he659702 : F659697 q659623 = .inl (I .byte, n659631, .inl f659630) := (n659699 q659623 (rn_ao he659694 he659691)).trans he659694
  have he659703 : F659697 q659620 = .inr (1, [.ref q659652, .int 0, .int p659624, .int z659696]) := e659698
  have hfr659704 : rFr [q659620, q659622] P659618 F659619 F659697 := rFr_put' List.mem_cons_self hfr659695 n659699
  refine G_aload_n 1 dr_cJ5_append_cf1ce_43 rfl ?_
  exact G_aretA (FieldType.object "java/lang/AbstractStringBuilder") dr_cJ5_append_cf1ce_44 rfl (by first | exact Or.inl ⟨_, rfl⟩ | exact Or.inr ⟨_, rfl⟩) (Or.inr ⟨_, rfl⟩) (Nat.le_of_ble_eq_true rfl) (show 2 * (n659653 - n659629) + 0 ≤ (4 * n659629 + 4 + 2 * n659631) by omega) ⟨P659660, F659697, z659696, q659652, n659653, f659684, rfl, rfl, hsb659673, hfr659704, he659703, he659700, he659701, he659702, hm659666, hor659672, (Nat.le_of_ble_eq_true rfl), (by omega), ⟨by omega, by omega⟩, bf659684, (by have qa0 : Int32.toInt 0 = 0 := (by decide); omega), (by have qa0 : Int32.toInt 0 = 0 := (by decide); omega), (by have qa0 : Int32.toInt 0 = 0 := (by decide); omega), (by have qa0 : Int32.toInt 0 = 0 := (by decide); omega), (by have qa0 : Int32.toInt 0 = 0 := (by decide); omega), (fun R c1 => c1 o659643 z659646 n659653 f659654 f659684 z659696 bo659643 ht659645 ez659646 ht659659 ht659687 ez659696)⟩
/- tr_RStringBuilder_append5: a.0...count, a.0.value.#, a.0.value.[] -/
def tr_RStringBuilder_append5 (a0_count : Int32) (a0_value_v : Nat → Int32) (a0_value_n : Nat) (a1_value_v : Nat → Int32) (a1_value_n : Nat) (o1 : Int32) (o2 : Nat) (o3 : Nat → Int32) : Prop := ∀ R : (Int32) → (Nat) → (Nat → Int32) → Prop,
  (∀ (x1 : Int32) (x2 : Nat) (x3 : Nat → Int32), gB x1 0 16777216 → tr_RAbstractStringBuilder_append5 a0_count a0_value_v a0_value_n a1_value_v a1_value_n x1 x2 x3 → R x1 x2 x3) →
  R o1 o2 o3
abbrev ky_659617_StringBuilder_append : gKey := (cJ4_append_15ec4, 2, "java/lang/StringBuilder", (some (FieldType.object "java/lang/StringBuilder")), [], "append", fun _ _ => True)
def pp_659617_StringBuilder_append (D : va_G) (I : FieldType → ClassId) (P659598 : List Nat) (F659599 : Nat → va_E) (q659600 : Nat) (q659601 : Nat) (q659602 : Nat) (q659603 : Nat) (p659604 : Int32) (p659605 : Int32) (p659606 : Int32) (p659607 : Int32) (f659608 : Nat → Int32) (n659609 : Nat) (f659610 : Nat → Int32) (n659611 : Nat) : Option Value → va_W → Nat → Nat → Prop := fun r w dc ds => ∃ (P659748 : List Nat) (F659749 : Nat → va_E) (o659744 : Int32) (q659745 : Nat) (n659746 : Nat) (f659747 : Nat → Int32), r = some (.ref q659600) ∧ w = va_pl P659748 F659749 ∧ rSub P659598 P659748 ∧ rFr [q659600, q659602] P659598 F659599 F659749 ∧ F659749 q659600 = .inr (1, [.ref q659745, .int 0, .int p659604, .int o659744]) ∧ F659749 q659601 = .inr (0, [.ref q659603, .int 0, .int p659606, .int p659607]) ∧ F659749 q659745 = .inl (I .byte, n659746, .inl f659747) ∧ F659749 q659603 = .inl (I .byte, n659611, .inl f659610) ∧ q659745 ∈ P659748 ∧ (q659745 = q659602 ∨ q659745 ∉ P659598) ∧ dc ≤ 1 ∧ ds ≤ 2 * (n659746 - n659609) ∧ gB o659744 0 16777216 ∧ gF f659747 (-128) 127 ∧ o659744.toInt = p659605.toInt + (n659611 : Int) ∧ o659744.toInt ≤ (n659746 : Int) ∧ (n659609 : Int) ≤ (n659746 : Int) ∧ (n659746 : Int) ≤ 2 * (n659609 : Int) + 2 + p659605.toInt + (n659611 : Int) ∧ ((n659746 : Int) = (n659609 : Int) ∨ (n659609 : Int) < o659744.toInt) ∧ tr_RStringBuilder_append5 p659605 f659608 n659609 f659610 n659611 o659744 n659746 f659747
set_option maxRecDepth 100000 in
set_option maxHeartbeats 4000000 in
theorem cp_659617_StringBuilder_append (l : Launch) (hl0 : l.stackTraces = false) (D : va_G) (I : FieldType → ClassId) (P659598 : List Nat) (F659599 : Nat → va_E) (q659600 : Nat) (q659601 : Nat) (q659602 : Nat) (q659603 : Nat) (p659604 : Int32) (p659605 : Int32) (p659606 : Int32) (p659607 : Int32) (f659608 : Nat → Int32) (n659609 : Nat) (f659610 : Nat → Int32) (n659611 : Nat) (hmq659600 : q659600 ∈ P659598) (hmq659601 : q659601 ∈ P659598) (hmq659602 : q659602 ∈ P659598) (hmq659603 : q659603 ∈ P659598) (heq659600 : F659599 q659600 = .inr (1, [.ref q659602, .int 0, .int p659604, .int p659605])) (heq659601 : F659599 q659601 = .inr (0, [.ref q659603, .int 0, .int p659606, .int p659607])) (heq659602 : F659599 q659602 = .inl (I .byte, n659609, .inl f659608)) (heq659603 : F659599 q659603 = .inl (I .byte, n659611, .inl f659610)) (hneq659602q659603 : q659602 ≠ q659603) (bp659604 : gB p659604 0 1) (bp659605 : gB p659605 0 16777216) (bp659607 : gB p659607 0 1) (bf659608 : gF f659608 (-128) 127) (bf659610 : gF f659610 (-128) 127) (x659612 : (n659611 : Int) ≤ 65535) (x659613 : (n659609 : Int) ≤ 8388608 - 100000) (x659614 : p659605.toInt ≤ (n659609 : Int)) (x659615 : ((n659609 : Int) ≤ 16777216)) (x659616 : ((n659611 : Int) ≤ 16777216)) : CtA (gV D I) l yJ4_append_15ec4 cJ4_append_15ec4 2 (some (FieldType.object "java/lang/StringBuilder")) 5 106 1 (4 * n659609 + 4 + 2 * n659611) [.ref q659600, .ref q659601] (va_pl P659598 F659599) (pp_659617_StringBuilder_append D I P659598 F659599 q659600 q659601 q659602 q659603 p659604 p659605 p659606 p659607 f659608 n659609 f659610 n659611) gNA := by
  refine CtA_ofF hl0 (by decide +kernel) (Nat.le_of_ble_eq_true rfl) ?_
  have bp659606 := gB_any p659606
  refine G_aload_n 0 dr_cJ4_append_15ec4_0 rfl ?_
  refine G_aload_n 1 dr_cJ4_append_15ec4_1 rfl ?_
  refine Gw_callSU (As := [.ref q659601]) (gV_ok D I) (cp_659637_AbstractStringBuilder_append l hl0 D I P659598 F659599 q659600 q659601 q659602 q659603 p659604 p659605 p659606 p659607 f659608 n659609 f659610 n659611 hmq659600 hmq659601 hmq659602 hmq659603 heq659600 heq659601 heq659602 heq659603 hneq659602q659603 bp659604 bp659605 bp659607 bf659608 bf659610 (by have qa0 : Int32.toInt 0 = 0 := (by decide); omega) (by have qa0 : Int32.toInt 0 = 0 := (by decide); omega) (by have qa0 : Int32.toInt 0 = 0 := (by decide); omega) (by have qa0 : Int32.toInt 0 = 0 := (by decide); omega) (by have qa0 : Int32.toInt 0 = 0 := (by decide); omega)) dr_cJ4_append_15ec4_2 ⟨wr_8_144, wr_1_19, wr_8_146, by decide, rfl, (Nat.le_of_ble_eq_true rfl), (Nat.le_of_ble_eq_true rfl)⟩ wr_8_145 wr_11_229 wr_7_73 wr_7_44 (by decide) hmq659600 heq659600 rfl (show 0 + 1 ≤ 1 by first | omega | decide) (show 0 + (4 * n659609 + 4 + 2 * n659611) ≤ (4 * n659609 + 4 + 2 * n659611) by first | omega | decide) (Nat.le_of_ble_eq_true rfl) (fun r659714 w659715 dc659711 ds659712 hp659713 => ?_)
  obtain ⟨P659726, F659727, o659716, q659717, n659718, f659719, rfl, rfl, hsb659728, hfr659729, he659730, he659731, he659732, he659733, hm659734, hq659735, hdc, hds, bo659716, bf659719, x659720, x659721, x659722, x659723, x659724, ht659725⟩ := hp659713
  have hm659736 : q659600 ∈ P659726 := hsb659728 q659600 hmq659600
  have hm659737 : q659601 ∈ P659726 := hsb659728 q659601 hmq659601
  have hm659738 : q659602 ∈ P659726 := hsb659728 q659602 hmq659602
  have hm659739 : q659603 ∈ P659726 := hsb659728 q659603 hmq659603
  have hor659740 : q659717 = q659602 ∨ q659717 ∉ P659598 := hq659735.elim Or.inl (fun n => Or.inr (fun z => n ((rSub_rf (P := P659598)) _ z)))
  have hsb659741 : rSub P659598 P659726 := rSub_tr (rSub_rf (P := P659598)) hsb659728
  have hfr659742 : rFr [q659600, q659602] P659598 F659599 F659727 := rFr_call (rSub_rf (P := P659598)) (rFr_rf (W := []) (P := P659598) (F := F659599)) hfr659729 (fun b hb hn => ⟨nm_n, (nm_c (fun e => hn (e ▸ List.mem_cons_self)) (nm_c (fun e => hn (e ▸ (List.mem_cons_of_mem _ List.mem_cons_self))) nm_n))⟩)
  have hne659743 : q659603 ≠ q659717 := fun e => hq659735.elim (fun e2 => (Ne.symm hneq659602q659603) (e.trans e2)) (fun n => n (e ▸ hmq659603))
  change G _ _ _ _ _ _ _ (.ref q659600 :: _) _ _ _
  refine G_widen (cs' := 1) (sl' := 2 * (n659718 - n659609)) (by omega) (by omega) ?_
  refine G_pop dr_cJ4_append_15ec4_5 rfl ?_
  refine G_aload_n 0 dr_cJ4_append_15ec4_6 rfl ?_
  exact G_aretA (FieldType.object "java/lang/StringBuilder") dr_cJ4_append_15ec4_7 rfl (by first | exact Or.inl ⟨_, rfl⟩ | exact Or.inr ⟨_, rfl⟩) (Or.inr ⟨_, rfl⟩) (Nat.le_of_ble_eq_true rfl) (show 2 * (n659718 - n659609) ≤ (4 * n659609 + 4 + 2 * n659611) by omega) ⟨P659726, F659727, o659716, q659717, n659718, f659719, rfl, rfl, hsb659741, hfr659742, he659730, he659731, he659732, he659733, hm659734, hor659740, (Nat.le_of_ble_eq_true rfl), (by omega), bo659716, bf659719, (by have qa0 : Int32.toInt 0 = 0 := (by decide); omega), (by have qa0 : Int32.toInt 0 = 0 := (by decide); omega), (by have qa0 : Int32.toInt 0 = 0 := (by decide); omega), (by have qa0 : Int32.toInt 0 = 0 := (by decide); omega), (by have qa0 : Int32.toInt 0 = 0 := (by decide); omega), (fun R c1 => c1 o659716 n659718 f659719 bo659716 ht659725)⟩
/- tr_RAbstractStringBuilder_append6: a.0...count, a.0.value.#, a.0.value.[] -/
def tr_RAbstractStringBuilder_append6 (bs : List Int32) (a0_count : Int32) (a0_value_v : Nat → Int32) (a0_value_n : Nat) (o1 : Int32) (o2 : Nat) (o3 : Nat → Int32) : Prop := ∀ R : (Int32) → (Nat) → (Nat → Int32) → Prop,
  (∀ (x1 : Int32) (x2 : Int32) (x3 : Nat) (x4 : Nat → Int32) (x5 : Nat → Int32) (x6 : Int32), gB x1 0 65535 → tr_RString_length2 bs x1 → x2.toInt = a0_count.toInt + x1.toInt → tr_RAbstractStringBuilder_ensureCapacityInternal2 x2 a0_value_v a0_value_n x3 x4 → tr_RAbstractStringBuilder_putStringAt2 a0_count bs x4 x5 → x6.toInt = a0_count.toInt + x1.toInt → R x6 x3 x5) →
  R o1 o2 o3
abbrev ky_659781_AbstractStringBuilder_append : gKey := (cJ5_append_cf1ce, 3, "java/lang/AbstractStringBuilder", (some (FieldType.object "java/lang/AbstractStringBuilder")), [], "append", fun _ _ => True)
def pp_659781_AbstractStringBuilder_append (D : va_G) (I : FieldType → ClassId) (P659766 : List Nat) (F659767 : Nat → va_E) (q659768 : Nat) (q659769 : Nat) (qs659770 : Nat) (qb659771 : Nat) (bs659772 : List Int32) (p659773 : Int32) (p659774 : Int32) (f659775 : Nat → Int32) (n659776 : Nat) : Option Value → va_W → Nat → Nat → Prop := fun r w dc ds => ∃ (P659844 : List Nat) (F659845 : Nat → va_E) (o659840 : Int32) (q659841 : Nat) (n659842 : Nat) (f659843 : Nat → Int32), r = some (.ref q659768) ∧ w = va_pl P659844 F659845 ∧ rSub P659766 P659844 ∧ rFr [q659768, q659769] P659766 F659767 F659845 ∧ F659845 q659768 = .inr (1, [.ref q659841, .int 0, .int p659773, .int o659840]) ∧ F659845 q659841 = .inl (I .byte, n659842, .inl f659843) ∧ q659841 ∈ P659844 ∧ (q659841 = q659769 ∨ q659841 ∉ P659766) ∧ dc ≤ 1 ∧ ds ≤ 2 * (n659842 - n659776) ∧ gB o659840 0 16777216 ∧ gF f659843 (-128) 127 ∧ o659840.toInt = p659774.toInt + (bs659772.length : Int) ∧ o659840.toInt ≤ (n659842 : Int) ∧ (n659776 : Int) ≤ (n659842 : Int) ∧ (n659842 : Int) ≤ 2 * (n659776 : Int) + 2 + p659774.toInt + (bs659772.length : Int) ∧ ((n659842 : Int) = (n659776 : Int) ∨ (n659776 : Int) < o659840.toInt) ∧ tr_RAbstractStringBuilder_append6 bs659772 p659774 f659775 n659776 o659840 n659842 f659843
set_option maxRecDepth 100000 in
set_option maxHeartbeats 4000000 in
theorem cp_659781_AbstractStringBuilder_append (l : Launch) (hl0 : l.stackTraces = false) (D : va_G) (I : FieldType → ClassId) (P659766 : List Nat) (F659767 : Nat → va_E) (q659768 : Nat) (q659769 : Nat) (qs659770 : Nat) (qb659771 : Nat) (bs659772 : List Int32) (p659773 : Int32) (p659774 : Int32) (f659775 : Nat → Int32) (n659776 : Nat) (hmq659768 : q659768 ∈ P659766) (hmq659769 : q659769 ∈ P659766) (heq659768 : F659767 q659768 = .inr (1, [.ref q659769, .int 0, .int p659773, .int p659774])) (heq659769 : F659767 q659769 = .inl (I .byte, n659776, .inl f659775)) (hbs659772 : ∀ A s H, (gV D I).2.2.2.1 A s H → gSC qs659770 qb659771 bs659772 A s H) (nbs659772 : (bs659772.length : Int) ≤ 65535) (lbs659772 : gLB bs659772) (bp659773 : gB p659773 0 1) (bp659774 : gB p659774 0 16777216) (bf659775 : gF f659775 (-128) 127) (x659777 : (bs659772.length : Int) ≤ 65535) (x659778 : (n659776 : Int) ≤ 8388608 - 100000) (x659779 : p659774.toInt ≤ (n659776 : Int)) (x659780 : ((n659776 : Int) ≤ 16777216)) : CtA (gV D I) l yJ5_append_cf1ce cJ5_append_cf1ce 3 (some (FieldType.object "java/lang/AbstractStringBuilder")) 4 84 1 (4 * n659776 + 4 + 2 * bs659772.length) [.ref q659768, .ref qs659770] (va_pl P659766 F659767) (pp_659781_AbstractStringBuilder_append D I P659766 F659767 q659768 q659769 qs659770 qb659771 bs659772 p659773 p659774 f659775 n659776) gNA := by
  refine CtA_ofF hl0 (by decide +kernel) (Nat.le_of_ble_eq_true rfl) ?_
  refine G_aload_n 1 dr_cJ5_append_cf1ce_0 rfl ?_
  refine G_ifnonnull 9 dr_cJ5_append_cf1ce_1 (by decide +kernel) ?_
  refine G_aload_n 1 dr_cJ5_append_cf1ce_9 rfl ?_
  refine Gw_callVk (As := []) (gV_ok D I) (cp_659437_String_length l hl0 D I P659766 F659767 qs659770 qb659771 bs659772 hbs659772 nbs659772 lbs659772) dr_cJ5_append_cf1ce_10 ⟨wr_8_154, wr_1_21, wr_3_60, by decide, rfl, (Nat.le_of_ble_eq_true rfl), (Nat.le_of_ble_eq_true rfl)⟩ wr_3_58 wr_3_59 (fun _ _ _ h => (hbs659772 _ _ _ h).1) (show 0 + 0 ≤ 1 by first | omega | decide) (show 0 + 0 ≤ (4 * n659776 + 4 + 2 * bs659772.length) by first | omega | decide) (Nat.le_of_ble_eq_true rfl) (fun r659785 w659786 dc659782 ds659783 hp659784 => ?_) (fun _ _ _ _ _ z => z.elim)
  obtain ⟨o659787, rfl, rfl, hdc, hds, bo659787, x659788, ht659789⟩ := hp659784
  change G _ _ _ _ _ _ _ (.int o659787 :: _) _ _ _
  refine G_widen (cs' := 0) (sl' := 0) (by omega) (by omega) ?_
  refine G_istore_n (L' := [(2, .int o659787), (0, .ref q659768), (1, .ref qs659770)]) dr_cJ5_append_cf1ce_13 (Nat.le_of_ble_eq_true rfl) rfl ?_
  refine G_aload_n 1 dr_cJ5_append_cf1ce_14 rfl ?_
  refine G_aload_n 1 dr_cJ5_append_cf1ce_15 rfl ?_
  refine Gp_get 3 hmq659768 heq659768 dr_cJ5_append_cf1ce_16 (gk_J4 D I) (Nat.le_of_ble_eq_true rfl) wr_7_64 rfl ?_
  refine G_iload_n 0 dr_cJ5_append_cf1ce_19 rfl ?_
  refine G_iadd dr_cJ5_append_cf1ce_20 (G_nam fun z659790 hz659790 => ?_)
  have ez659790 : z659790.toInt = p659774.toInt + o659787.toInt := by rw [gI_add hz659790 bp659774 bo659787 (by decide) (by decide)]
  have bz659790 : gB z659790 0 16842751 := gB_add (gI_add hz659790 bp659774 bo659787 (by decide) (by decide)) bp659774 bo659787 (by decide) (by decide)
  refine Gw_callVB (As := [.int z659790]) (gV_ok D I) (cp_658822_AbstractStringBuilder_ensureCapacityInternal l hl0 D I P659766 F659767 q659768 q659769 z659790 p659773 p659774 f659775 n659776 hmq659768 hmq659769 heq659768 heq659769 ⟨by omega, by omega⟩ bp659773 bp659774 bf659775 (by have qa0 : Int32.toInt 0 = 0 := (by decide); omega) (by have qa0 : Int32.toInt 0 = 0 := (by decide); omega)) dr_cJ5_append_cf1ce_21 ⟨wr_8_4, wr_1_19, wr_8_7, by decide, rfl, (Nat.le_of_ble_eq_true rfl), (Nat.le_of_ble_eq_true rfl)⟩ wr_8_6 wr_s_0 hmq659768 heq659768 rfl (show 0 + 1 ≤ 1 by first | omega | decide) (show 0 + (2 * n659776 + 2 + z659790.toInt.toNat) ≤ (4 * n659776 + 4 + 2 * bs659772.length) by first | omega | decide) (Nat.le_of_ble_eq_true rfl) (fun r659794 w659795 dc659791 ds659792 hp659793 => ?_) (fun _ _ _ _ _ z => z.elim)
  obtain ⟨P659804, F659805, q659796, n659797, f659798, rfl, rfl, hsb659806, hfr659807, he659808, he659809, hm659810, hq659811, hdc, hds, bf659798, x659799, x659800, x659801, x659802, ht659803⟩ := hp659793
  have hm659812 : q659768 ∈ P659804 := hsb659806 q659768 hmq659768
  have hm659813 : q659769 ∈ P659804 := hsb659806 q659769 hmq659769
  have hor659814 : q659796 = q659769 ∨ q659796 ∉ P659766 := hq659811.elim Or.inl (fun n => Or.inr (fun z => n ((rSub_rf (P := P659766)) _ z)))
  have hsb659815 : rSub P659766 P659804 := rSub_tr (rSub_rf (P := P659766)) hsb659806
  have he659816 : F659805 q659769 = .inl (I .byte, n659776, .inl f659775) := (hfr659807 q659769 hmq659769 (nm_c (rn_ao heq659769 heq659768) nm_n)).trans heq659769
  have hfr659817 : rFr [q659768] P659766 F659767 F659805 := rFr_call (rSub_rf (P := P659766)) (rFr_rf (W := []) (P := P659766) (F := F659767)) hfr659807 (fun b hb hn => ⟨nm_n, (nm_c (fun e => hn (e ▸ List.mem_cons_self)) nm_n)⟩)
  change G _ _ _ _ _ _ _ _ _ _ _
  refine G_widen (cs' := 1) (sl' := 2 * (n659797 - n659776)) (by omega) (by omega) ?_
  refine G_aload_n 1 dr_cJ5_append_cf1ce_24 rfl ?_
  refine G_aload_n 1 dr_cJ5_append_cf1ce_25 rfl ?_
  refine Gp_get 3 hm659812 he659808 dr_cJ5_append_cf1ce_26 (gk_J4 D I) (Nat.le_of_ble_eq_true rfl) wr_7_64 rfl ?_
  refine G_aload_n 2 dr_cJ5_append_cf1ce_29 rfl ?_
  refine Gw_callVB (As := [.int p659774, .ref qs659770]) (gV_ok D I) (cp_659481_AbstractStringBuilder_putStringAt l hl0 D I P659804 F659805 q659768 q659796 p659774 qs659770 qb659771 bs659772 p659773 p659774 f659798 n659797 hm659812 hm659810 he659808 he659809 hbs659772 nbs659772 lbs659772 bp659774 bp659773 bp659774 bf659798 (by have qa0 : Int32.toInt 0 = 0 := (by decide); omega) (by have qa0 : Int32.toInt 0 = 0 := (by decide); omega)) dr_cJ5_append_cf1ce_30 ⟨wr_8_155, wr_1_19, wr_8_158, by decide, rfl, (Nat.le_of_ble_eq_true rfl), (Nat.le_of_ble_eq_true rfl)⟩ wr_8_157 wr_s_4 hm659812 he659808 rfl (show 1 + 0 ≤ 1 by first | omega | decide) (show 2 * (n659797 - n659776) + 0 ≤ (4 * n659776 + 4 + 2 * bs659772.length) by first | omega | decide) (Nat.le_of_ble_eq_true rfl) (fun r659821 w659822 dc659818 ds659819 hp659820 => ?_) (fun _ _ _ _ _ z => z.elim)
  obtain ⟨F659827, f659823, rfl, rfl, hfr659829, he659830, he659831, hdc, hds, bf659823, x659824, x659825, ht659826⟩ := hp659820
  have hfr659832 : rFr [q659768, q659769] P659766 F659767 F659827 := rFr_call hsb659815 hfr659817 hfr659829 (fun b hb hn => ⟨(nm_c (fun e => hn (e ▸ List.mem_cons_self)) nm_n), (nm_c (fun e => hor659814.elim (fun e2 => hn ((e.trans e2) ▸ (List.mem_cons_of_mem _ List.mem_cons_self))) (fun n => n (e ▸ hb))) nm_n)⟩)
  change G _ _ _ _ _ _ _ _ _ _ _
  refine G_widen (cs' := 1) (sl' := 2 * (n659797 - n659776) + 0) (by omega) (by omega) ?_
  refine G_aload_n 1 dr_cJ5_append_cf1ce_33 rfl ?_
  refine G_dup dr_cJ5_append_cf1ce_34 rfl ?_
  refine Gp_get 3 hm659812 he659830 dr_cJ5_append_cf1ce_35 (gk_J4 D I) (Nat.le_of_ble_eq_true rfl) wr_7_64 rfl ?_
  refine G_iload_n 0 dr_cJ5_append_cf1ce_38 rfl ?_
  refine G_iadd dr_cJ5_append_cf1ce_39 (G_nam fun z659833 hz659833 => ?_)
  have ez659833 : z659833.toInt = p659774.toInt + o659787.toInt := by rw [gI_add hz659833 bp659774 bo659787 (by decide) (by decide)]
  have bz659833 : gB z659833 0 16842751 := gB_add (gI_add hz659833 bp659774 bo659787 (by decide) (by decide)) bp659774 bo659787 (by decide) (by decide)
  refine Gp_put 3 hm659812 he659830 dr_cJ5_append_cf1ce_40 (gk_J4 D I) (Nat.le_of_ble_eq_true rfl) wr_7_64 rfl rfl rfl (Nat.le_of_ble_eq_true rfl) (fun F659834 e659835 n659836 => ?_)
  have he659837 : F659834 q659796 = .inl (I .byte, n659797, .inl f659823) := (n659836 q659796 (rn_ao he659831 he659830)).trans he659831
  have he659838 : F659834 q659768 = .inr (1, [.ref q659796, .int 0, .int p659773, .int z659833]) := e659835
  have hfr659839 : rFr [q659768, q659769] P659766 F659767 F659834 := rFr_put' List.mem_cons_self hfr659832 n659836
  refine G_aload_n 1 dr_cJ5_append_cf1ce_43 rfl ?_
  exact G_aretA (FieldType.object "java/lang/AbstractStringBuilder") dr_cJ5_append_cf1ce_44 rfl (by first | exact Or.inl ⟨_, rfl⟩ | exact Or.inr ⟨_, rfl⟩) (Or.inr ⟨_, rfl⟩) (Nat.le_of_ble_eq_true rfl) (show 2 * (n659797 - n659776) + 0 ≤ (4 * n659776 + 4 + 2 * bs659772.length) by omega) ⟨P659804, F659834, z659833, q659796, n659797, f659823, rfl, rfl, hsb659815, hfr659839, he659838, he659837, hm659810, hor659814, (Nat.le_of_ble_eq_true rfl), (by omega), ⟨by omega, by omega⟩, bf659823, (by have qa0 : Int32.toInt 0 = 0 := (by decide); omega), (by have qa0 : Int32.toInt 0 = 0 := (by decide); omega), (by have qa0 : Int32.toInt 0 = 0 := (by decide); omega), (by have qa0 : Int32.toInt 0 = 0 := (by decide); omega), (by have qa0 : Int32.toInt 0 = 0 := (by decide); omega), (fun R c1 => c1 o659787 z659790 n659797 f659798 f659823 z659833 bo659787 ht659789 ez659790 ht659803 ht659826 ez659833)⟩
/- tr_RStringBuilder_append6: a.0...count, a.0.value.#, a.0.value.[] -/
def tr_RStringBuilder_append6 (bs : List Int32) (a0_count : Int32) (a0_value_v : Nat → Int32) (a0_value_n : Nat) (o1 : Int32) (o2 : Nat) (o3 : Nat → Int32) : Prop := ∀ R : (Int32) → (Nat) → (Nat → Int32) → Prop,
  (∀ (x1 : Int32) (x2 : Nat) (x3 : Nat → Int32), gB x1 0 16777216 → tr_RAbstractStringBuilder_append6 bs a0_count a0_value_v a0_value_n x1 x2 x3 → R x1 x2 x3) →
  R o1 o2 o3
