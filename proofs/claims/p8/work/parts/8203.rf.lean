theorem dr_cJ4_append_15ec4_0 : decode cJ4_append_15ec4 0 = .ok (.aload_n 0, 1) := by decide +kernel
theorem dr_cJ4_append_15ec4_1 : decode cJ4_append_15ec4 1 = .ok (.aload_n 1, 1) := by decide +kernel
theorem dr_cJ4_append_15ec4_2 : decode cJ4_append_15ec4 2 = .ok (.invokespecial 29, 3) := by decide +kernel
theorem wr_8_144 : (Jvm.Cond.methodLink "java/lang/StringBuilder" (29 : Nat) ({ cls := "java/lang/AbstractStringBuilder", name := "append", desc := "(Ljava/lang/String;)Ljava/lang/AbstractStringBuilder;" } : Jvm.MethodName)) ∈ gw := gw_8 144 rfl rfl
theorem wr_8_146 : (Jvm.Cond.code ({ cls := "java/lang/AbstractStringBuilder", name := "append", desc := "(Ljava/lang/String;)Ljava/lang/AbstractStringBuilder;" } : Jvm.MethodName) prog_21_method_22_code (3 : Nat) (Option.some (Jvm.ClassFile.FieldType.object "java/lang/AbstractStringBuilder"))) ∈ gw := gw_8 146 rfl rfl
theorem wr_8_145 : (Jvm.Cond.instanceMethod ({ cls := "java/lang/AbstractStringBuilder", name := "append", desc := "(Ljava/lang/String;)Ljava/lang/AbstractStringBuilder;" } : Jvm.MethodName)) ∈ gw := gw_8 145 rfl rfl
theorem wr_11_229 : (Jvm.Cond.sameMethod "java/lang/AbstractStringBuilder" "java/lang/AbstractStringBuilder" "append" "(Ljava/lang/String;)Ljava/lang/AbstractStringBuilder;") ∈ gw := gw_11 229 rfl rfl
theorem dr_cJ4_append_15ec4_5 : decode cJ4_append_15ec4 5 = .ok (.pop, 1) := by decide +kernel
theorem dr_cJ4_append_15ec4_6 : decode cJ4_append_15ec4 6 = .ok (.aload_n 0, 1) := by decide +kernel
theorem dr_cJ4_append_15ec4_7 : decode cJ4_append_15ec4 7 = .ok (.areturn, 1) := by decide +kernel
abbrev ky_656284_StringBuilder_append : gKey := (cJ4_append_15ec4, 2, "java/lang/StringBuilder", (some (FieldType.object "java/lang/StringBuilder")), [], "append", fun _ _ => True)
def pp_656284_StringBuilder_append (D : va_G) (I : FieldType → ClassId) (P656267 : List Nat) (F656268 : Nat → va_E) (q656269 : Nat) (q656270 : Nat) (q656271 : Nat) (q656272 : Nat) (p656273 : Int32) (p656274 : Int32) (p656275 : Int32) (p656276 : Int32) (f656277 : Nat → Int32) (n656278 : Nat) (f656279 : Nat → Int32) (n656280 : Nat) : Option Value → va_W → Nat → Nat → Prop := fun r w dc ds => ∃ (F656498 : Nat → va_E) (o656495 : Int32) (f656496 : Nat → Int32), r = some (.ref q656269) ∧ w = va_pl P656267 F656498 ∧ rFr [q656269, q656271] P656267 F656268 F656498 ∧ F656498 q656269 = .inr (1, [.ref q656271, .int 0, .int p656273, .int o656495]) ∧ F656498 q656270 = .inr (0, [.ref q656272, .int 0, .int p656275, .int p656276]) ∧ F656498 q656271 = .inl (I .byte, n656278, .inl f656496) ∧ F656498 q656272 = .inl (I .byte, n656280, .inl f656279) ∧ dc ≤ 0 ∧ ds ≤ 0 ∧ gB o656495 0 16777216 ∧ gF f656496 (-128) 127 ∧ o656495.toInt = p656274.toInt + (n656280 : Int) ∧ sK f656277 f656496 p656274.toInt ∧ sF f656279 f656496 p656274.toInt (n656280 : Int) ∧ tr_RStringBuilder_append3 p656274 f656277 n656278 f656279 n656280 o656495 f656496
set_option maxRecDepth 100000 in
set_option maxHeartbeats 4000000 in
theorem cp_656284_StringBuilder_append (l : Launch) (hl0 : l.stackTraces = false) (D : va_G) (I : FieldType → ClassId) (P656267 : List Nat) (F656268 : Nat → va_E) (q656269 : Nat) (q656270 : Nat) (q656271 : Nat) (q656272 : Nat) (p656273 : Int32) (p656274 : Int32) (p656275 : Int32) (p656276 : Int32) (f656277 : Nat → Int32) (n656278 : Nat) (f656279 : Nat → Int32) (n656280 : Nat) (hmq656269 : q656269 ∈ P656267) (hmq656270 : q656270 ∈ P656267) (hmq656271 : q656271 ∈ P656267) (hmq656272 : q656272 ∈ P656267) (heq656269 : F656268 q656269 = .inr (1, [.ref q656271, .int 0, .int p656273, .int p656274])) (heq656270 : F656268 q656270 = .inr (0, [.ref q656272, .int 0, .int p656275, .int p656276])) (heq656271 : F656268 q656271 = .inl (I .byte, n656278, .inl f656277)) (heq656272 : F656268 q656272 = .inl (I .byte, n656280, .inl f656279)) (hneq656271q656272 : q656271 ≠ q656272) (bp656273 : gB p656273 0 1) (bp656274 : gB p656274 0 16777216) (bp656276 : gB p656276 0 1) (bf656277 : gF f656277 (-128) 127) (bf656279 : gF f656279 (-128) 127) (x656281 : p656274.toInt + (n656280 : Int) ≤ (n656278 : Int)) (x656282 : ((n656278 : Int) ≤ 16777216)) (x656283 : ((n656280 : Int) ≤ 16777216)) : CtA (gV D I) l yJ4_append_15ec4 cJ4_append_15ec4 2 (some (FieldType.object "java/lang/StringBuilder")) 4 87 0 0 [.ref q656269, .ref q656270] (va_pl P656267 F656268) (pp_656284_StringBuilder_append D I P656267 F656268 q656269 q656270 q656271 q656272 p656273 p656274 p656275 p656276 f656277 n656278 f656279 n656280) gNA := by
  refine CtA_ofF hl0 (by decide +kernel) (Nat.le_of_ble_eq_true rfl) ?_
  have bp656275 := gB_any p656275
  refine G_aload_n 0 dr_cJ4_append_15ec4_0 rfl ?_
  refine G_aload_n 1 dr_cJ4_append_15ec4_1 rfl ?_
  refine Gw_callSU (As := [.ref q656270]) (gV_ok D I) (cp_656302_AbstractStringBuilder_append l hl0 D I P656267 F656268 q656269 q656270 q656271 q656272 p656273 p656274 p656275 p656276 f656277 n656278 f656279 n656280 hmq656269 hmq656270 hmq656271 hmq656272 heq656269 heq656270 heq656271 heq656272 hneq656271q656272 bp656273 bp656274 bp656276 bf656277 bf656279 (by have qa0 : Int32.toInt 0 = 0 := (by decide); omega) (by have qa0 : Int32.toInt 0 = 0 := (by decide); omega) (by have qa0 : Int32.toInt 0 = 0 := (by decide); omega)) dr_cJ4_append_15ec4_2 ⟨wr_8_144, wr_1_19, wr_8_146, by decide, rfl, (Nat.le_of_ble_eq_true rfl), (Nat.le_of_ble_eq_true rfl)⟩ wr_8_145 wr_11_229 wr_7_73 wr_7_44 (by decide) hmq656269 heq656269 rfl (show 0 + 0 ≤ 0 by first | omega | decide) (show 0 + 0 ≤ 0 by first | omega | decide) (Nat.le_of_ble_eq_true rfl) (fun r656479 w656480 dc656476 ds656477 hp656478 => ?_)
  obtain ⟨F656487, o656481, f656482, rfl, rfl, hfr656489, he656490, he656491, he656492, he656493, hdc, hds, bo656481, bf656482, x656483, x656484, x656485, ht656486⟩ := hp656478
  have hfr656494 : rFr [q656269, q656271] P656267 F656268 F656487 := rFr_call (rSub_rf (P := P656267)) (rFr_rf (W := []) (P := P656267) (F := F656268)) hfr656489 (fun b hb hn => ⟨nm_n, (nm_c (fun e => hn (e ▸ List.mem_cons_self)) (nm_c (fun e => hn (e ▸ (List.mem_cons_of_mem _ List.mem_cons_self))) nm_n))⟩)
  change G _ _ _ _ _ _ _ (.ref q656269 :: _) _ _ _
  refine G_widen (cs' := 0) (sl' := 0) (by omega) (by omega) ?_
  refine G_pop dr_cJ4_append_15ec4_5 rfl ?_
  refine G_aload_n 0 dr_cJ4_append_15ec4_6 rfl ?_
  exact G_aretA (FieldType.object "java/lang/StringBuilder") dr_cJ4_append_15ec4_7 rfl (by first | exact Or.inl ⟨_, rfl⟩ | exact Or.inr ⟨_, rfl⟩) (Or.inr ⟨_, rfl⟩) (Nat.le_of_ble_eq_true rfl) (Nat.le_of_ble_eq_true rfl) ⟨F656487, o656481, f656482, rfl, rfl, hfr656494, he656490, he656491, he656492, he656493, (Nat.le_of_ble_eq_true rfl), (Nat.le_of_ble_eq_true rfl), bo656481, bf656482, (by have qa0 : Int32.toInt 0 = 0 := (by decide); omega), (sK_c x656484 (by omega)), (by assumption), (fun R c1 => c1 o656481 f656482 bo656481 ht656486)⟩
abbrev ky_656539_String_coder : gKey := (cJ0_coder_7d493, 1, "java/lang/String", (some FieldType.byte), [], "coder", fun _ _ => True)
def pp_656539_String_coder (D : va_G) (I : FieldType → ClassId) (P656534 : List Nat) (F656535 : Nat → va_E) (qs656536 : Nat) (qb656537 : Nat) (bs656538 : List Int32) : Option Value → va_W → Nat → Nat → Prop := fun r w dc ds => r = some (.int 0) ∧ w = va_pl P656534 F656535 ∧ dc ≤ 0 ∧ ds ≤ 0
set_option maxRecDepth 100000 in
set_option maxHeartbeats 4000000 in
theorem cp_656539_String_coder (l : Launch) (hl0 : l.stackTraces = false) (D : va_G) (I : FieldType → ClassId) (P656534 : List Nat) (F656535 : Nat → va_E) (qs656536 : Nat) (qb656537 : Nat) (bs656538 : List Int32) (hbs656538 : ∀ A s H, (gV D I).2.2.2.1 A s H → gSC qs656536 qb656537 bs656538 A s H) (nbs656538 : (bs656538.length : Int) ≤ 65535) (lbs656538 : gLB bs656538) : CtA (gV D I) l yJ0_coder_7d493 cJ0_coder_7d493 1 (some FieldType.byte) 0 0 0 0 [.ref qs656536] (va_pl P656534 F656535) (pp_656539_String_coder D I P656534 F656535 qs656536 qb656537 bs656538) gNA := by
  refine CtA_ofF hl0 (by decide +kernel) (Nat.le_of_ble_eq_true rfl) ?_
  refine G_gets dr_cJ0_coder_7d493_0 wr_3_65 gz_cs (fun x hx => ?_)
  subst hx
  refine G_if_eq 13 dr_cJ0_coder_7d493_3 (by decide +kernel) (fun hc => absurd hc (by decide)) (fun _ => ?_)
  refine G_aload_n 0 dr_cJ0_coder_7d493_6 rfl ?_
  refine G_kget dr_cJ0_coder_7d493_7 wr_8_183 (fun _ _ _ h => (hbs656538 _ _ _ h).2.1) ?_
  refine G_goto 14 dr_cJ0_coder_7d493_10 (by decide +kernel) ?_
  exact G_zretA FieldType.byte dr_cJ0_coder_7d493_14 rfl rfl (Nat.le_of_ble_eq_true rfl) (Nat.le_of_ble_eq_true rfl) ⟨rfl, rfl, (Nat.le_of_ble_eq_true rfl), (Nat.le_of_ble_eq_true rfl)⟩
/- tr_RString_length2: result -/
def tr_RString_length2 (bs : List Int32) (o1 : Int32) : Prop := ∀ R : (Int32) → Prop,
  (∀ (x1 : Int32) (x2 : Int32), x1.toInt = (bs.length : Int) → x2.toInt = x1.toInt / 1 → R x2) →
  R o1
abbrev ky_656532_String_length : gKey := (cJ0_length_8abf5, 1, "java/lang/String", (some FieldType.int), [], "length", fun _ _ => True)
def pp_656532_String_length (D : va_G) (I : FieldType → ClassId) (P656527 : List Nat) (F656528 : Nat → va_E) (qs656529 : Nat) (qb656530 : Nat) (bs656531 : List Int32) : Option Value → va_W → Nat → Nat → Prop := fun r w dc ds => ∃ (o656546 : Int32), r = some (.int o656546) ∧ w = va_pl P656527 F656528 ∧ dc ≤ 0 ∧ ds ≤ 0 ∧ gB o656546 0 65535 ∧ o656546.toInt = (bs656531.length : Int) ∧ tr_RString_length2 bs656531 o656546
set_option maxRecDepth 100000 in
set_option maxHeartbeats 4000000 in
theorem cp_656532_String_length (l : Launch) (hl0 : l.stackTraces = false) (D : va_G) (I : FieldType → ClassId) (P656527 : List Nat) (F656528 : Nat → va_E) (qs656529 : Nat) (qb656530 : Nat) (bs656531 : List Int32) (hbs656531 : ∀ A s H, (gV D I).2.2.2.1 A s H → gSC qs656529 qb656530 bs656531 A s H) (nbs656531 : (bs656531.length : Int) ≤ 65535) (lbs656531 : gLB bs656531) : CtA (gV D I) l yJ0_length_8abf5 cJ0_length_8abf5 1 (some FieldType.int) 1 20 0 0 [.ref qs656529] (va_pl P656527 F656528) (pp_656532_String_length D I P656527 F656528 qs656529 qb656530 bs656531) gNA := by
  refine CtA_ofF hl0 (by decide +kernel) (Nat.le_of_ble_eq_true rfl) ?_
  refine G_aload_n 0 dr_cJ0_length_8abf5_0 rfl ?_
  refine G_kget dr_cJ0_length_8abf5_1 wr_8_182 (fun _ _ _ h => (hbs656531 _ _ _ h).2.2.1) ?_
  refine G_klen dr_cJ0_length_8abf5_4 (fun _ _ _ h => (hbs656531 _ _ _ h).2.2.2) (G_nam fun z656533 hz656533 => ?_)
  have ez656533 : z656533.toInt = (bs656531.length : Int) := gI_ofN hz656533 (by omega)
  have bz656533 : gB z656533 0 65535 := ⟨by omega, by omega⟩
  refine G_aload_n 0 dr_cJ0_length_8abf5_5 rfl ?_
  refine Gw_callVk (As := []) (gV_ok D I) (cp_656539_String_coder l hl0 D I P656527 F656528 qs656529 qb656530 bs656531 hbs656531 nbs656531 lbs656531) dr_cJ0_length_8abf5_6 ⟨wr_3_61, wr_1_21, wr_3_64, by decide, rfl, (Nat.le_of_ble_eq_true rfl), (Nat.le_of_ble_eq_true rfl)⟩ wr_3_62 wr_3_63 (fun _ _ _ h => (hbs656531 _ _ _ h).1) (show 0 + 0 ≤ 0 by first | omega | decide) (show 0 + 0 ≤ 0 by first | omega | decide) (Nat.le_of_ble_eq_true rfl) (fun r656543 w656544 dc656540 ds656541 hp656542 => ?_) (fun _ _ _ _ _ z => z.elim)
  obtain ⟨rfl, rfl, hdc, hds⟩ := hp656542
  change G _ _ _ _ _ _ _ (.int 0 :: _) _ _ _
  refine G_widen (cs' := 0) (sl' := 0) (by omega) (by omega) ?_
  refine G_ishr dr_cJ0_length_8abf5_9 (G_nam fun z656545 hz656545 => ?_)
  have ez656545 : z656545.toInt = z656533.toInt / 1 := gI_shr (k := 0) hz656545 (by decide)
  have bz656545 : gB z656545 0 65535 := ⟨by omega, by omega⟩
  exact G_iretA dr_cJ0_length_8abf5_10 rfl (Nat.le_of_ble_eq_true rfl) (Nat.le_of_ble_eq_true rfl) ⟨z656545, rfl, rfl, (Nat.le_of_ble_eq_true rfl), (Nat.le_of_ble_eq_true rfl), bz656545, (by omega), (fun R c1 => c1 z656533 z656545 ez656533 ez656545)⟩
abbrev ky_656589_AbstractStringBuilder_inflateIfNeededFor : gKey := (cJ5_inflateIfNeededFor_a7421, 2, "java/lang/AbstractStringBuilder", none, [], "inflateIfNeededFor", fun _ _ => True)
def pp_656589_AbstractStringBuilder_inflateIfNeededFor (D : va_G) (I : FieldType → ClassId) (P656577 : List Nat) (F656578 : Nat → va_E) (q656579 : Nat) (q656580 : Nat) (qs656581 : Nat) (qb656582 : Nat) (bs656583 : List Int32) (p656584 : Int32) (p656585 : Int32) (f656586 : Nat → Int32) (n656587 : Nat) : Option Value → va_W → Nat → Nat → Prop := fun r w dc ds => r = none ∧ w = va_pl P656577 F656578 ∧ dc ≤ 0 ∧ ds ≤ 0
set_option maxRecDepth 100000 in
set_option maxHeartbeats 4000000 in
theorem cp_656589_AbstractStringBuilder_inflateIfNeededFor (l : Launch) (hl0 : l.stackTraces = false) (D : va_G) (I : FieldType → ClassId) (P656577 : List Nat) (F656578 : Nat → va_E) (q656579 : Nat) (q656580 : Nat) (qs656581 : Nat) (qb656582 : Nat) (bs656583 : List Int32) (p656584 : Int32) (p656585 : Int32) (f656586 : Nat → Int32) (n656587 : Nat) (hmq656579 : q656579 ∈ P656577) (hmq656580 : q656580 ∈ P656577) (heq656579 : F656578 q656579 = .inr (1, [.ref q656580, .int 0, .int p656584, .int p656585])) (heq656580 : F656578 q656580 = .inl (I .byte, n656587, .inl f656586)) (hbs656583 : ∀ A s H, (gV D I).2.2.2.1 A s H → gSC qs656581 qb656582 bs656583 A s H) (nbs656583 : (bs656583.length : Int) ≤ 65535) (lbs656583 : gLB bs656583) (bp656584 : gB p656584 0 1) (bp656585 : gB p656585 0 16777216) (bf656586 : gF f656586 (-128) 127) (x656588 : ((n656587 : Int) ≤ 16777216)) : CtA (gV D I) l yJ5_inflateIfNeededFor_a7421 cJ5_inflateIfNeededFor_a7421 2 none 1 20 0 0 [.ref q656579, .ref qs656581] (va_pl P656577 F656578) (pp_656589_AbstractStringBuilder_inflateIfNeededFor D I P656577 F656578 q656579 q656580 qs656581 qb656582 bs656583 p656584 p656585 f656586 n656587) gNA := by
  refine CtA_ofF hl0 (by decide +kernel) (Nat.le_of_ble_eq_true rfl) ?_
  refine G_gets dr_cJ5_inflateIfNeededFor_a7421_0 wr_7_52 gz_cs (fun x hx => ?_)
  subst hx
  refine G_if_eq 21 dr_cJ5_inflateIfNeededFor_a7421_3 (by decide +kernel) (fun hc => absurd hc (by decide)) (fun _ => ?_)
  refine G_aload_n 0 dr_cJ5_inflateIfNeededFor_a7421_6 rfl ?_
  refine Gp_get 1 hmq656579 heq656579 dr_cJ5_inflateIfNeededFor_a7421_7 (gk_J4 D I) (Nat.le_of_ble_eq_true rfl) wr_7_61 rfl ?_
  refine G_aload_n 1 dr_cJ5_inflateIfNeededFor_a7421_10 rfl ?_
  refine Gw_callVk (As := []) (gV_ok D I) (cp_656539_String_coder l hl0 D I P656577 F656578 qs656581 qb656582 bs656583 hbs656583 nbs656583 lbs656583) dr_cJ5_inflateIfNeededFor_a7421_11 ⟨wr_8_163, wr_1_21, wr_3_64, by decide, rfl, (Nat.le_of_ble_eq_true rfl), (Nat.le_of_ble_eq_true rfl)⟩ wr_3_62 wr_3_63 (fun _ _ _ h => (hbs656583 _ _ _ h).1) (show 0 + 0 ≤ 0 by first | omega | decide) (show 0 + 0 ≤ 0 by first | omega | decide) (Nat.le_of_ble_eq_true rfl) (fun r656593 w656594 dc656590 ds656591 hp656592 => ?_) (fun _ _ _ _ _ z => z.elim)
  obtain ⟨rfl, rfl, hdc, hds⟩ := hp656592
  change G _ _ _ _ _ _ _ (.int 0 :: _) _ _ _
  refine G_widen (cs' := 0) (sl' := 0) (by omega) (by omega) ?_
  refine G_icmp_eq 21 dr_cJ5_inflateIfNeededFor_a7421_14 (by decide +kernel) (fun _ => ?_) (fun hc => absurd hc (by decide))
  exact G_vretA dr_cJ5_inflateIfNeededFor_a7421_21 rfl (Nat.le_of_ble_eq_true rfl) (Nat.le_of_ble_eq_true rfl) ⟨rfl, rfl, (Nat.le_of_ble_eq_true rfl), (Nat.le_of_ble_eq_true rfl)⟩
/- tr_RString_getBytes2: a.1.[] -/
def tr_RString_getBytes2 (bs : List Int32) (a2 : Int32) (a1_v : Nat → Int32) (o1 : Nat → Int32) : Prop := ∀ R : (Nat → Int32) → Prop,
  (∀ (x1 : Int32) (x2 : Int32) (x3 : Nat → Int32), x1.toInt = a2.toInt * 1 → x2.toInt = (bs.length : Int) → (x3 = va_cpy (fun j => bs.getD j 0) a1_v (0 : Int32).toNatClampNeg x1.toNatClampNeg x2.toNatClampNeg) → R x3) →
  R o1
abbrev ky_656611_String_getBytes : gKey := (cJ0_getBytes_840e7, 4, "java/lang/String", none, [], "getBytes", fun _ _ => True)
def pp_656611_String_getBytes (D : va_G) (I : FieldType → ClassId) (P656600 : List Nat) (F656601 : Nat → va_E) (q656602 : Nat) (qs656603 : Nat) (qb656604 : Nat) (bs656605 : List Int32) (p656606 : Int32) (f656607 : Nat → Int32) (n656608 : Nat) : Option Value → va_W → Nat → Nat → Prop := fun r w dc ds => ∃ (F656627 : Nat → va_E) (f656625 : Nat → Int32), r = none ∧ w = va_pl P656600 F656627 ∧ rFr [q656602] P656600 F656601 F656627 ∧ F656627 q656602 = .inl (I .byte, n656608, .inl f656625) ∧ dc ≤ 0 ∧ ds ≤ 0 ∧ gF f656625 (-128) 127 ∧ sK f656607 f656625 p656606.toInt ∧ sF (fun j => bs656605.getD j 0) f656625 p656606.toInt (bs656605.length : Int) ∧ tr_RString_getBytes2 bs656605 p656606 f656607 f656625
set_option maxRecDepth 100000 in
set_option maxHeartbeats 4000000 in
theorem cp_656611_String_getBytes (l : Launch) (hl0 : l.stackTraces = false) (D : va_G) (I : FieldType → ClassId) (P656600 : List Nat) (F656601 : Nat → va_E) (q656602 : Nat) (qs656603 : Nat) (qb656604 : Nat) (bs656605 : List Int32) (p656606 : Int32) (f656607 : Nat → Int32) (n656608 : Nat) (hmq656602 : q656602 ∈ P656600) (heq656602 : F656601 q656602 = .inl (I .byte, n656608, .inl f656607)) (hbs656605 : ∀ A s H, (gV D I).2.2.2.1 A s H → gSC qs656603 qb656604 bs656605 A s H) (nbs656605 : (bs656605.length : Int) ≤ 65535) (lbs656605 : gLB bs656605) (bp656606 : gB p656606 0 16777216) (bf656607 : gF f656607 (-128) 127) (x656609 : p656606.toInt + (bs656605.length : Int) ≤ (n656608 : Int)) (x656610 : ((n656608 : Int) ≤ 16777216)) : CtA (gV D I) l yJ0_getBytes_840e7 cJ0_getBytes_840e7 4 none 1 20 0 0 [.ref qs656603, .ref q656602, .int p656606, .int 0] (va_pl P656600 F656601) (pp_656611_String_getBytes D I P656600 F656601 q656602 qs656603 qb656604 bs656605 p656606 f656607 n656608) gNA := by
  refine CtA_ofF hl0 (by decide +kernel) (Nat.le_of_ble_eq_true rfl) ?_
  refine G_aload_n 0 dr_cJ0_getBytes_840e7_0 rfl ?_
  refine Gw_callVk (As := []) (gV_ok D I) (cp_656539_String_coder l hl0 D I P656600 F656601 qs656603 qb656604 bs656605 hbs656605 nbs656605 lbs656605) dr_cJ0_getBytes_840e7_1 ⟨wr_3_61, wr_1_21, wr_3_64, by decide, rfl, (Nat.le_of_ble_eq_true rfl), (Nat.le_of_ble_eq_true rfl)⟩ wr_3_62 wr_3_63 (fun _ _ _ h => (hbs656605 _ _ _ h).1) (show 0 + 0 ≤ 0 by first | omega | decide) (show 0 + 0 ≤ 0 by first | omega | decide) (Nat.le_of_ble_eq_true rfl) (fun r656615 w656616 dc656612 ds656613 hp656614 => ?_) (fun _ _ _ _ _ z => z.elim)
  obtain ⟨rfl, rfl, hdc, hds⟩ := hp656614
  change G _ _ _ _ _ _ _ (.int 0 :: _) _ _ _
  refine G_widen (cs' := 0) (sl' := 0) (by omega) (by omega) ?_
  refine G_iload_n 3 dr_cJ0_getBytes_840e7_4 rfl ?_
  refine G_icmp_ne 28 dr_cJ0_getBytes_840e7_5 (by decide +kernel) (fun hc => absurd hc (by decide)) (fun _ => ?_)
  refine G_aload_n 0 dr_cJ0_getBytes_840e7_8 rfl ?_
  refine G_kget dr_cJ0_getBytes_840e7_9 wr_8_182 (fun _ _ _ h => (hbs656605 _ _ _ h).2.2.1) ?_
  refine G_iconst 0 dr_cJ0_getBytes_840e7_12 (by decide +kernel) ?_
  refine G_aload_n 1 dr_cJ0_getBytes_840e7_13 rfl ?_
  refine G_iload_n 2 dr_cJ0_getBytes_840e7_14 rfl ?_
  refine G_iload_n 3 dr_cJ0_getBytes_840e7_15 rfl ?_
  refine G_ishl dr_cJ0_getBytes_840e7_16 (G_nam fun z656617 hz656617 => ?_)
  have ez656617 : z656617.toInt = p656606.toInt * 1 := gI_shl (k := 0) hz656617 (by decide) bp656606 (by decide) (by decide)
  have bz656617 : gB z656617 0 16777216 := ⟨by omega, by omega⟩
  refine G_aload_n 0 dr_cJ0_getBytes_840e7_17 rfl ?_
  refine G_kget dr_cJ0_getBytes_840e7_18 wr_8_182 (fun _ _ _ h => (hbs656605 _ _ _ h).2.2.1) ?_
  refine G_klen dr_cJ0_getBytes_840e7_21 (fun _ _ _ h => (hbs656605 _ _ _ h).2.2.2) (G_nam fun z656618 hz656618 => ?_)
  have ez656618 : z656618.toInt = (bs656605.length : Int) := gI_ofN hz656618 (by omega)
  have bz656618 : gB z656618 0 65535 := ⟨by omega, by omega⟩
  refine Gp_copyK 1 (fun _ _ _ h => (hbs656605 _ _ _ h).2.2.2) hmq656602 heq656602 dr_cJ0_getBytes_840e7_22 wr_8_168 wr_5_113 wr_5_112 wr_1_34 rfl (gF_lst lbs656605) (by decide) (by omega) (by omega) (by have qa0 : Int32.toInt 0 = 0 := (by decide); omega) (by have qa0 : Int32.toInt 0 = 0 := (by decide); omega) (Nat.le_of_ble_eq_true rfl) (Nat.le_of_ble_eq_true rfl) (fun F656619 e656620 n656621 => ?_)
  obtain ⟨f656622, hf656622⟩ : ∃ z, z = va_cpy (fun j => bs656605.getD j 0) f656607 (0 : Int32).toNatClampNeg z656617.toNatClampNeg z656618.toNatClampNeg := ⟨_, rfl⟩
  rw [← hf656622] at e656620
  have bf656622 : gF f656622 (-128) 127 := gF_cpy hf656622 (gF_lst lbs656605) bf656607
  have he656623 : F656619 q656602 = .inl (I .byte, n656608, .inl f656622) := e656620
  have hfr656624 : rFr [q656602] P656600 F656601 F656619 := rFr_put (rFr_rf (W := []) (P := P656600) (F := F656601)) n656621
  refine G_goto 43 dr_cJ0_getBytes_840e7_25 (by decide +kernel) ?_
  exact G_vretA dr_cJ0_getBytes_840e7_43 rfl (Nat.le_of_ble_eq_true rfl) (Nat.le_of_ble_eq_true rfl) ⟨F656619, f656622, rfl, rfl, hfr656624, he656623, (Nat.le_of_ble_eq_true rfl), (Nat.le_of_ble_eq_true rfl), bf656622, (sK_cpy hf656622 (by omega)), (sF_cpy hf656622 (by decide) (by omega) (by omega)), (fun R c1 => c1 z656617 z656618 f656622 ez656617 ez656618 hf656622)⟩
/- tr_RAbstractStringBuilder_putStringAt2: a.0.value.[] -/
def tr_RAbstractStringBuilder_putStringAt2 (a1 : Int32) (bs : List Int32) (a0_value_v : Nat → Int32) (o1 : Nat → Int32) : Prop := ∀ R : (Nat → Int32) → Prop,
  (∀ (x1 : Nat → Int32), tr_RString_getBytes2 bs a1 a0_value_v x1 → R x1) →
  R o1
abbrev ky_656576_AbstractStringBuilder_putStringAt : gKey := (cJ5_putStringAt_47b60, 3, "java/lang/AbstractStringBuilder", none, [], "putStringAt", fun _ _ => True)
def pp_656576_AbstractStringBuilder_putStringAt (D : va_G) (I : FieldType → ClassId) (P656562 : List Nat) (F656563 : Nat → va_E) (q656564 : Nat) (q656565 : Nat) (p656566 : Int32) (qs656567 : Nat) (qb656568 : Nat) (bs656569 : List Int32) (p656570 : Int32) (p656571 : Int32) (f656572 : Nat → Int32) (n656573 : Nat) : Option Value → va_W → Nat → Nat → Prop := fun r w dc ds => ∃ (F656645 : Nat → va_E) (f656643 : Nat → Int32), r = none ∧ w = va_pl P656562 F656645 ∧ rFr [q656565] P656562 F656563 F656645 ∧ F656645 q656564 = .inr (1, [.ref q656565, .int 0, .int p656570, .int p656571]) ∧ F656645 q656565 = .inl (I .byte, n656573, .inl f656643) ∧ dc ≤ 0 ∧ ds ≤ 0 ∧ gF f656643 (-128) 127 ∧ sK f656572 f656643 p656566.toInt ∧ sF (fun j => bs656569.getD j 0) f656643 p656566.toInt (bs656569.length : Int) ∧ tr_RAbstractStringBuilder_putStringAt2 p656566 bs656569 f656572 f656643
set_option maxRecDepth 100000 in
set_option maxHeartbeats 4000000 in
theorem cp_656576_AbstractStringBuilder_putStringAt (l : Launch) (hl0 : l.stackTraces = false) (D : va_G) (I : FieldType → ClassId) (P656562 : List Nat) (F656563 : Nat → va_E) (q656564 : Nat) (q656565 : Nat) (p656566 : Int32) (qs656567 : Nat) (qb656568 : Nat) (bs656569 : List Int32) (p656570 : Int32) (p656571 : Int32) (f656572 : Nat → Int32) (n656573 : Nat) (hmq656564 : q656564 ∈ P656562) (hmq656565 : q656565 ∈ P656562) (heq656564 : F656563 q656564 = .inr (1, [.ref q656565, .int 0, .int p656570, .int p656571])) (heq656565 : F656563 q656565 = .inl (I .byte, n656573, .inl f656572)) (hbs656569 : ∀ A s H, (gV D I).2.2.2.1 A s H → gSC qs656567 qb656568 bs656569 A s H) (nbs656569 : (bs656569.length : Int) ≤ 65535) (lbs656569 : gLB bs656569) (bp656566 : gB p656566 0 16777216) (bp656570 : gB p656570 0 1) (bp656571 : gB p656571 0 16777216) (bf656572 : gF f656572 (-128) 127) (x656574 : p656566.toInt + (bs656569.length : Int) ≤ (n656573 : Int)) (x656575 : ((n656573 : Int) ≤ 16777216)) : CtA (gV D I) l yJ5_putStringAt_47b60 cJ5_putStringAt_47b60 3 none 2 43 0 0 [.ref q656564, .int p656566, .ref qs656567] (va_pl P656562 F656563) (pp_656576_AbstractStringBuilder_putStringAt D I P656562 F656563 q656564 q656565 p656566 qs656567 qb656568 bs656569 p656570 p656571 f656572 n656573) gNA := by
  refine CtA_ofF hl0 (by decide +kernel) (Nat.le_of_ble_eq_true rfl) ?_
  refine G_aload_n 0 dr_cJ5_putStringAt_47b60_0 rfl ?_
  refine G_aload_n 2 dr_cJ5_putStringAt_47b60_1 rfl ?_
  refine Gw_callVB (As := [.ref qs656567]) (gV_ok D I) (cp_656589_AbstractStringBuilder_inflateIfNeededFor l hl0 D I P656562 F656563 q656564 q656565 qs656567 qb656568 bs656569 p656570 p656571 f656572 n656573 hmq656564 hmq656565 heq656564 heq656565 hbs656569 nbs656569 lbs656569 bp656570 bp656571 bf656572 (by have qa0 : Int32.toInt 0 = 0 := (by decide); omega)) dr_cJ5_putStringAt_47b60_2 ⟨wr_8_159, wr_1_19, wr_8_162, by decide, rfl, (Nat.le_of_ble_eq_true rfl), (Nat.le_of_ble_eq_true rfl)⟩ wr_8_161 wr_s_5 hmq656564 heq656564 rfl (show 0 + 0 ≤ 0 by first | omega | decide) (show 0 + 0 ≤ 0 by first | omega | decide) (Nat.le_of_ble_eq_true rfl) (fun r656598 w656599 dc656595 ds656596 hp656597 => ?_) (fun _ _ _ _ _ z => z.elim)
  obtain ⟨rfl, rfl, hdc, hds⟩ := hp656597
  change G _ _ _ _ _ _ _ _ _ _ _
  refine G_widen (cs' := 0) (sl' := 0) (by omega) (by omega) ?_
  refine G_aload_n 2 dr_cJ5_putStringAt_47b60_5 rfl ?_
  refine G_aload_n 0 dr_cJ5_putStringAt_47b60_6 rfl ?_
  refine Gp_get 0 hmq656564 heq656564 dr_cJ5_putStringAt_47b60_7 (gk_J4 D I) (Nat.le_of_ble_eq_true rfl) wr_7_60 rfl ?_
  refine G_iload_n 1 dr_cJ5_putStringAt_47b60_10 rfl ?_
  refine G_aload_n 0 dr_cJ5_putStringAt_47b60_11 rfl ?_
  refine Gp_get 1 hmq656564 heq656564 dr_cJ5_putStringAt_47b60_12 (gk_J4 D I) (Nat.le_of_ble_eq_true rfl) wr_7_61 rfl ?_
  refine Gw_callVk (As := [.ref q656565, .int p656566, .int 0]) (gV_ok D I) (cp_656611_String_getBytes l hl0 D I P656562 F656563 q656565 qs656567 qb656568 bs656569 p656566 f656572 n656573 hmq656565 heq656565 hbs656569 nbs656569 lbs656569 bp656566 bf656572 (by have qa0 : Int32.toInt 0 = 0 := (by decide); omega) (by have qa0 : Int32.toInt 0 = 0 := (by decide); omega)) dr_cJ5_putStringAt_47b60_15 ⟨wr_8_164, wr_1_21, wr_8_167, by decide, rfl, (Nat.le_of_ble_eq_true rfl), (Nat.le_of_ble_eq_true rfl)⟩ wr_8_165 wr_8_166 (fun _ _ _ h => (hbs656569 _ _ _ h).1) (show 0 + 0 ≤ 0 by first | omega | decide) (show 0 + 0 ≤ 0 by first | omega | decide) (Nat.le_of_ble_eq_true rfl) (fun r656631 w656632 dc656628 ds656629 hp656630 => ?_) (fun _ _ _ _ _ z => z.elim)
  obtain ⟨F656637, f656633, rfl, rfl, hfr656639, he656640, hdc, hds, bf656633, x656634, x656635, ht656636⟩ := hp656630
  have he656641 : F656637 q656564 = .inr (1, [.ref q656565, .int 0, .int p656570, .int p656571]) := (hfr656639 q656564 hmq656564 (nm_c (rn_oa heq656564 heq656565) nm_n)).trans heq656564
  have hfr656642 : rFr [q656565] P656562 F656563 F656637 := rFr_call (rSub_rf (P := P656562)) (rFr_rf (W := []) (P := P656562) (F := F656563)) hfr656639 (fun b hb hn => ⟨nm_n, (nm_c (fun e => hn (e ▸ List.mem_cons_self)) nm_n)⟩)
  change G _ _ _ _ _ _ _ _ _ _ _
  refine G_widen (cs' := 0) (sl' := 0) (by omega) (by omega) ?_
  exact G_vretA dr_cJ5_putStringAt_47b60_18 rfl (Nat.le_of_ble_eq_true rfl) (Nat.le_of_ble_eq_true rfl) ⟨F656637, f656633, rfl, rfl, hfr656642, he656641, he656640, (Nat.le_of_ble_eq_true rfl), (Nat.le_of_ble_eq_true rfl), bf656633, (sK_c x656634 (by omega)), (by assumption), (fun R c1 => c1 f656633 ht656636)⟩
/- tr_RAbstractStringBuilder_append4: a.0...count, a.0.value.[] -/
def tr_RAbstractStringBuilder_append4 (bs : List Int32) (a0_count : Int32) (a0_value_v : Nat → Int32) (a0_value_n : Nat) (o1 : Int32) (o2 : Nat → Int32) : Prop := ∀ R : (Int32) → (Nat → Int32) → Prop,
  (∀ (x1 : Int32) (x2 : Int32) (x3 : Nat → Int32) (x4 : Int32), gB x1 0 65535 → tr_RString_length2 bs x1 → x2.toInt = a0_count.toInt + x1.toInt → tr_RAbstractStringBuilder_ensureCapacityInternal x2 a0_value_n → tr_RAbstractStringBuilder_putStringAt2 a0_count bs a0_value_v x3 → x4.toInt = a0_count.toInt + x1.toInt → R x4 x3) →
  R o1 o2
abbrev ky_656526_AbstractStringBuilder_append : gKey := (cJ5_append_cf1ce, 3, "java/lang/AbstractStringBuilder", (some (FieldType.object "java/lang/AbstractStringBuilder")), [], "append", fun _ _ => True)
def pp_656526_AbstractStringBuilder_append (D : va_G) (I : FieldType → ClassId) (P656513 : List Nat) (F656514 : Nat → va_E) (q656515 : Nat) (q656516 : Nat) (qs656517 : Nat) (qb656518 : Nat) (bs656519 : List Int32) (p656520 : Int32) (p656521 : Int32) (f656522 : Nat → Int32) (n656523 : Nat) : Option Value → va_W → Nat → Nat → Prop := fun r w dc ds => ∃ (F656671 : Nat → va_E) (o656668 : Int32) (f656669 : Nat → Int32), r = some (.ref q656515) ∧ w = va_pl P656513 F656671 ∧ rFr [q656515, q656516] P656513 F656514 F656671 ∧ F656671 q656515 = .inr (1, [.ref q656516, .int 0, .int p656520, .int o656668]) ∧ F656671 q656516 = .inl (I .byte, n656523, .inl f656669) ∧ dc ≤ 0 ∧ ds ≤ 0 ∧ gB o656668 0 16777216 ∧ gF f656669 (-128) 127 ∧ o656668.toInt = p656521.toInt + (bs656519.length : Int) ∧ sK f656522 f656669 p656521.toInt ∧ sF (fun j => bs656519.getD j 0) f656669 p656521.toInt (bs656519.length : Int) ∧ tr_RAbstractStringBuilder_append4 bs656519 p656521 f656522 n656523 o656668 f656669
set_option maxRecDepth 100000 in
set_option maxHeartbeats 4000000 in
theorem cp_656526_AbstractStringBuilder_append (l : Launch) (hl0 : l.stackTraces = false) (D : va_G) (I : FieldType → ClassId) (P656513 : List Nat) (F656514 : Nat → va_E) (q656515 : Nat) (q656516 : Nat) (qs656517 : Nat) (qb656518 : Nat) (bs656519 : List Int32) (p656520 : Int32) (p656521 : Int32) (f656522 : Nat → Int32) (n656523 : Nat) (hmq656515 : q656515 ∈ P656513) (hmq656516 : q656516 ∈ P656513) (heq656515 : F656514 q656515 = .inr (1, [.ref q656516, .int 0, .int p656520, .int p656521])) (heq656516 : F656514 q656516 = .inl (I .byte, n656523, .inl f656522)) (hbs656519 : ∀ A s H, (gV D I).2.2.2.1 A s H → gSC qs656517 qb656518 bs656519 A s H) (nbs656519 : (bs656519.length : Int) ≤ 65535) (lbs656519 : gLB bs656519) (bp656520 : gB p656520 0 1) (bp656521 : gB p656521 0 16777216) (bf656522 : gF f656522 (-128) 127) (x656524 : p656521.toInt + (bs656519.length : Int) ≤ (n656523 : Int)) (x656525 : ((n656523 : Int) ≤ 16777216)) : CtA (gV D I) l yJ5_append_cf1ce cJ5_append_cf1ce 3 (some (FieldType.object "java/lang/AbstractStringBuilder")) 3 65 0 0 [.ref q656515, .ref qs656517] (va_pl P656513 F656514) (pp_656526_AbstractStringBuilder_append D I P656513 F656514 q656515 q656516 qs656517 qb656518 bs656519 p656520 p656521 f656522 n656523) gNA := by
  refine CtA_ofF hl0 (by decide +kernel) (Nat.le_of_ble_eq_true rfl) ?_
  refine G_aload_n 1 dr_cJ5_append_cf1ce_0 rfl ?_
  refine G_ifnonnull 9 dr_cJ5_append_cf1ce_1 (by decide +kernel) ?_
  refine G_aload_n 1 dr_cJ5_append_cf1ce_9 rfl ?_
  refine Gw_callVk (As := []) (gV_ok D I) (cp_656532_String_length l hl0 D I P656513 F656514 qs656517 qb656518 bs656519 hbs656519 nbs656519 lbs656519) dr_cJ5_append_cf1ce_10 ⟨wr_8_154, wr_1_21, wr_3_60, by decide, rfl, (Nat.le_of_ble_eq_true rfl), (Nat.le_of_ble_eq_true rfl)⟩ wr_3_58 wr_3_59 (fun _ _ _ h => (hbs656519 _ _ _ h).1) (show 0 + 0 ≤ 0 by first | omega | decide) (show 0 + 0 ≤ 0 by first | omega | decide) (Nat.le_of_ble_eq_true rfl) (fun r656550 w656551 dc656547 ds656548 hp656549 => ?_) (fun _ _ _ _ _ z => z.elim)
  obtain ⟨o656552, rfl, rfl, hdc, hds, bo656552, x656553, ht656554⟩ := hp656549
  change G _ _ _ _ _ _ _ (.int o656552 :: _) _ _ _
  refine G_widen (cs' := 0) (sl' := 0) (by omega) (by omega) ?_
  refine G_istore_n (L' := [(2, .int o656552), (0, .ref q656515), (1, .ref qs656517)]) dr_cJ5_append_cf1ce_13 (Nat.le_of_ble_eq_true rfl) rfl ?_
  refine G_aload_n 1 dr_cJ5_append_cf1ce_14 rfl ?_
  refine G_aload_n 1 dr_cJ5_append_cf1ce_15 rfl ?_
  refine Gp_get 3 hmq656515 heq656515 dr_cJ5_append_cf1ce_16 (gk_J4 D I) (Nat.le_of_ble_eq_true rfl) wr_7_64 rfl ?_
  refine G_iload_n 0 dr_cJ5_append_cf1ce_19 rfl ?_
  refine G_iadd dr_cJ5_append_cf1ce_20 (G_nam fun z656555 hz656555 => ?_)
  have ez656555 : z656555.toInt = p656521.toInt + o656552.toInt := by rw [gI_add hz656555 bp656521 bo656552 (by decide) (by decide)]
  have bz656555 : gB z656555 0 16842751 := gB_add (gI_add hz656555 bp656521 bo656552 (by decide) (by decide)) bp656521 bo656552 (by decide) (by decide)
  refine Gw_callVB (As := [.int z656555]) (gV_ok D I) (cp_655796_AbstractStringBuilder_ensureCapacityInternal l hl0 D I P656513 F656514 q656515 q656516 z656555 p656520 p656521 f656522 n656523 hmq656515 hmq656516 heq656515 heq656516 ⟨by omega, by omega⟩ bp656520 bp656521 bf656522 (by have qa0 : Int32.toInt 0 = 0 := (by decide); omega) (by have qa0 : Int32.toInt 0 = 0 := (by decide); omega)) dr_cJ5_append_cf1ce_21 ⟨wr_8_4, wr_1_19, wr_8_7, by decide, rfl, (Nat.le_of_ble_eq_true rfl), (Nat.le_of_ble_eq_true rfl)⟩ wr_8_6 wr_s_0 hmq656515 heq656515 rfl (show 0 + 0 ≤ 0 by first | omega | decide) (show 0 + 0 ≤ 0 by first | omega | decide) (Nat.le_of_ble_eq_true rfl) (fun r656559 w656560 dc656556 ds656557 hp656558 => ?_) (fun _ _ _ _ _ z => z.elim)
  obtain ⟨rfl, rfl, hdc, hds, ht656561⟩ := hp656558
  change G _ _ _ _ _ _ _ _ _ _ _
  refine G_widen (cs' := 0) (sl' := 0) (by omega) (by omega) ?_
  refine G_aload_n 1 dr_cJ5_append_cf1ce_24 rfl ?_
  refine G_aload_n 1 dr_cJ5_append_cf1ce_25 rfl ?_
  refine Gp_get 3 hmq656515 heq656515 dr_cJ5_append_cf1ce_26 (gk_J4 D I) (Nat.le_of_ble_eq_true rfl) wr_7_64 rfl ?_
  refine G_aload_n 2 dr_cJ5_append_cf1ce_29 rfl ?_
  refine Gw_callVB (As := [.int p656521, .ref qs656517]) (gV_ok D I) (cp_656576_AbstractStringBuilder_putStringAt l hl0 D I P656513 F656514 q656515 q656516 p656521 qs656517 qb656518 bs656519 p656520 p656521 f656522 n656523 hmq656515 hmq656516 heq656515 heq656516 hbs656519 nbs656519 lbs656519 bp656521 bp656520 bp656521 bf656522 (by have qa0 : Int32.toInt 0 = 0 := (by decide); omega) (by have qa0 : Int32.toInt 0 = 0 := (by decide); omega)) dr_cJ5_append_cf1ce_30 ⟨wr_8_155, wr_1_19, wr_8_158, by decide, rfl, (Nat.le_of_ble_eq_true rfl), (Nat.le_of_ble_eq_true rfl)⟩ wr_8_157 wr_s_4 hmq656515 heq656515 rfl (show 0 + 0 ≤ 0 by first | omega | decide) (show 0 + 0 ≤ 0 by first | omega | decide) (Nat.le_of_ble_eq_true rfl) (fun r656649 w656650 dc656646 ds656647 hp656648 => ?_) (fun _ _ _ _ _ z => z.elim)
  obtain ⟨F656655, f656651, rfl, rfl, hfr656657, he656658, he656659, hdc, hds, bf656651, x656652, x656653, ht656654⟩ := hp656648
  have hfr656660 : rFr [q656516] P656513 F656514 F656655 := rFr_call (rSub_rf (P := P656513)) (rFr_rf (W := []) (P := P656513) (F := F656514)) hfr656657 (fun b hb hn => ⟨nm_n, (nm_c (fun e => hn (e ▸ List.mem_cons_self)) nm_n)⟩)
  change G _ _ _ _ _ _ _ _ _ _ _
  refine G_widen (cs' := 0) (sl' := 0) (by omega) (by omega) ?_
  refine G_aload_n 1 dr_cJ5_append_cf1ce_33 rfl ?_
  refine G_dup dr_cJ5_append_cf1ce_34 rfl ?_
  refine Gp_get 3 hmq656515 he656658 dr_cJ5_append_cf1ce_35 (gk_J4 D I) (Nat.le_of_ble_eq_true rfl) wr_7_64 rfl ?_
  refine G_iload_n 0 dr_cJ5_append_cf1ce_38 rfl ?_
  refine G_iadd dr_cJ5_append_cf1ce_39 (G_nam fun z656661 hz656661 => ?_)
  have ez656661 : z656661.toInt = p656521.toInt + o656552.toInt := by rw [gI_add hz656661 bp656521 bo656552 (by decide) (by decide)]
  have bz656661 : gB z656661 0 16842751 := gB_add (gI_add hz656661 bp656521 bo656552 (by decide) (by decide)) bp656521 bo656552 (by decide) (by decide)
  refine Gp_put 3 hmq656515 he656658 dr_cJ5_append_cf1ce_40 (gk_J4 D I) (Nat.le_of_ble_eq_true rfl) wr_7_64 rfl rfl rfl (Nat.le_of_ble_eq_true rfl) (fun F656662 e656663 n656664 => ?_)
  have he656665 : F656662 q656516 = .inl (I .byte, n656523, .inl f656651) := (n656664 q656516 (rn_ao he656659 he656658)).trans he656659
  have he656666 : F656662 q656515 = .inr (1, [.ref q656516, .int 0, .int p656520, .int z656661]) := e656663
  have hfr656667 : rFr [q656515, q656516] P656513 F656514 F656662 := rFr_put hfr656660 n656664
  refine G_aload_n 1 dr_cJ5_append_cf1ce_43 rfl ?_
  exact G_aretA (FieldType.object "java/lang/AbstractStringBuilder") dr_cJ5_append_cf1ce_44 rfl (by first | exact Or.inl ⟨_, rfl⟩ | exact Or.inr ⟨_, rfl⟩) (Or.inr ⟨_, rfl⟩) (Nat.le_of_ble_eq_true rfl) (Nat.le_of_ble_eq_true rfl) ⟨F656662, z656661, f656651, rfl, rfl, hfr656667, he656666, he656665, (Nat.le_of_ble_eq_true rfl), (Nat.le_of_ble_eq_true rfl), ⟨by omega, by omega⟩, bf656651, (by have qa0 : Int32.toInt 0 = 0 := (by decide); omega), (sK_c x656652 (by omega)), (by assumption), (fun R c1 => c1 o656552 z656555 f656651 z656661 bo656552 ht656554 ez656555 ht656561 ht656654 ez656661)⟩
/- tr_RStringBuilder_append4: a.0...count, a.0.value.[] -/
def tr_RStringBuilder_append4 (bs : List Int32) (a0_count : Int32) (a0_value_v : Nat → Int32) (a0_value_n : Nat) (o1 : Int32) (o2 : Nat → Int32) : Prop := ∀ R : (Int32) → (Nat → Int32) → Prop,
  (∀ (x1 : Int32) (x2 : Nat → Int32), gB x1 0 16777216 → tr_RAbstractStringBuilder_append4 bs a0_count a0_value_v a0_value_n x1 x2 → R x1 x2) →
  R o1 o2
abbrev ky_656512_StringBuilder_append : gKey := (cJ4_append_15ec4, 2, "java/lang/StringBuilder", (some (FieldType.object "java/lang/StringBuilder")), [], "append", fun _ _ => True)
def pp_656512_StringBuilder_append (D : va_G) (I : FieldType → ClassId) (P656499 : List Nat) (F656500 : Nat → va_E) (q656501 : Nat) (q656502 : Nat) (qs656503 : Nat) (qb656504 : Nat) (bs656505 : List Int32) (p656506 : Int32) (p656507 : Int32) (f656508 : Nat → Int32) (n656509 : Nat) : Option Value → va_W → Nat → Nat → Prop := fun r w dc ds => ∃ (F656692 : Nat → va_E) (o656689 : Int32) (f656690 : Nat → Int32), r = some (.ref q656501) ∧ w = va_pl P656499 F656692 ∧ rFr [q656501, q656502] P656499 F656500 F656692 ∧ F656692 q656501 = .inr (1, [.ref q656502, .int 0, .int p656506, .int o656689]) ∧ F656692 q656502 = .inl (I .byte, n656509, .inl f656690) ∧ dc ≤ 0 ∧ ds ≤ 0 ∧ gB o656689 0 16777216 ∧ gF f656690 (-128) 127 ∧ o656689.toInt = p656507.toInt + (bs656505.length : Int) ∧ sK f656508 f656690 p656507.toInt ∧ sF (fun j => bs656505.getD j 0) f656690 p656507.toInt (bs656505.length : Int) ∧ tr_RStringBuilder_append4 bs656505 p656507 f656508 n656509 o656689 f656690
set_option maxRecDepth 100000 in
set_option maxHeartbeats 4000000 in
theorem cp_656512_StringBuilder_append (l : Launch) (hl0 : l.stackTraces = false) (D : va_G) (I : FieldType → ClassId) (P656499 : List Nat) (F656500 : Nat → va_E) (q656501 : Nat) (q656502 : Nat) (qs656503 : Nat) (qb656504 : Nat) (bs656505 : List Int32) (p656506 : Int32) (p656507 : Int32) (f656508 : Nat → Int32) (n656509 : Nat) (hmq656501 : q656501 ∈ P656499) (hmq656502 : q656502 ∈ P656499) (heq656501 : F656500 q656501 = .inr (1, [.ref q656502, .int 0, .int p656506, .int p656507])) (heq656502 : F656500 q656502 = .inl (I .byte, n656509, .inl f656508)) (hbs656505 : ∀ A s H, (gV D I).2.2.2.1 A s H → gSC qs656503 qb656504 bs656505 A s H) (nbs656505 : (bs656505.length : Int) ≤ 65535) (lbs656505 : gLB bs656505) (bp656506 : gB p656506 0 1) (bp656507 : gB p656507 0 16777216) (bf656508 : gF f656508 (-128) 127) (x656510 : p656507.toInt + (bs656505.length : Int) ≤ (n656509 : Int)) (x656511 : ((n656509 : Int) ≤ 16777216)) : CtA (gV D I) l yJ4_append_15ec4 cJ4_append_15ec4 2 (some (FieldType.object "java/lang/StringBuilder")) 4 87 0 0 [.ref q656501, .ref qs656503] (va_pl P656499 F656500) (pp_656512_StringBuilder_append D I P656499 F656500 q656501 q656502 qs656503 qb656504 bs656505 p656506 p656507 f656508 n656509) gNA := by
  refine CtA_ofF hl0 (by decide +kernel) (Nat.le_of_ble_eq_true rfl) ?_
  refine G_aload_n 0 dr_cJ4_append_15ec4_0 rfl ?_
  refine G_aload_n 1 dr_cJ4_append_15ec4_1 rfl ?_
  refine Gw_callSU (As := [.ref qs656503]) (gV_ok D I) (cp_656526_AbstractStringBuilder_append l hl0 D I P656499 F656500 q656501 q656502 qs656503 qb656504 bs656505 p656506 p656507 f656508 n656509 hmq656501 hmq656502 heq656501 heq656502 hbs656505 nbs656505 lbs656505 bp656506 bp656507 bf656508 (by have qa0 : Int32.toInt 0 = 0 := (by decide); omega) (by have qa0 : Int32.toInt 0 = 0 := (by decide); omega)) dr_cJ4_append_15ec4_2 ⟨wr_8_144, wr_1_19, wr_8_146, by decide, rfl, (Nat.le_of_ble_eq_true rfl), (Nat.le_of_ble_eq_true rfl)⟩ wr_8_145 wr_11_229 wr_7_73 wr_7_44 (by decide) hmq656501 heq656501 rfl (show 0 + 0 ≤ 0 by first | omega | decide) (show 0 + 0 ≤ 0 by first | omega | decide) (Nat.le_of_ble_eq_true rfl) (fun r656675 w656676 dc656672 ds656673 hp656674 => ?_)
  obtain ⟨F656683, o656677, f656678, rfl, rfl, hfr656685, he656686, he656687, hdc, hds, bo656677, bf656678, x656679, x656680, x656681, ht656682⟩ := hp656674
  have hfr656688 : rFr [q656501, q656502] P656499 F656500 F656683 := rFr_call (rSub_rf (P := P656499)) (rFr_rf (W := []) (P := P656499) (F := F656500)) hfr656685 (fun b hb hn => ⟨nm_n, (nm_c (fun e => hn (e ▸ List.mem_cons_self)) (nm_c (fun e => hn (e ▸ (List.mem_cons_of_mem _ List.mem_cons_self))) nm_n))⟩)
  change G _ _ _ _ _ _ _ (.ref q656501 :: _) _ _ _
  refine G_widen (cs' := 0) (sl' := 0) (by omega) (by omega) ?_
  refine G_pop dr_cJ4_append_15ec4_5 rfl ?_
  refine G_aload_n 0 dr_cJ4_append_15ec4_6 rfl ?_
  exact G_aretA (FieldType.object "java/lang/StringBuilder") dr_cJ4_append_15ec4_7 rfl (by first | exact Or.inl ⟨_, rfl⟩ | exact Or.inr ⟨_, rfl⟩) (Or.inr ⟨_, rfl⟩) (Nat.le_of_ble_eq_true rfl) (Nat.le_of_ble_eq_true rfl) ⟨F656683, o656677, f656678, rfl, rfl, hfr656688, he656686, he656687, (Nat.le_of_ble_eq_true rfl), (Nat.le_of_ble_eq_true rfl), bo656677, bf656678, (by have qa0 : Int32.toInt 0 = 0 := (by decide); omega), (sK_c x656680 (by omega)), (by assumption), (fun R c1 => c1 o656677 f656678 bo656677 ht656682)⟩
/- tr_RAbstractStringBuilder_append5: a.0...count, a.0.value.#, a.0.value.[] -/
def tr_RAbstractStringBuilder_append5 (a0_count : Int32) (a0_value_v : Nat → Int32) (a0_value_n : Nat) (a1_value_v : Nat → Int32) (a1_value_n : Nat) (o1 : Int32) (o2 : Nat) (o3 : Nat → Int32) : Prop := ∀ R : (Int32) → (Nat) → (Nat → Int32) → Prop,
  (∀ (x1 : Int32) (x2 : Int32) (x3 : Nat) (x4 : Nat → Int32) (x5 : Nat → Int32) (x6 : Int32), gB x1 0 16777216 → tr_RString_length a1_value_n x1 → x2.toInt = a0_count.toInt + x1.toInt → tr_RAbstractStringBuilder_ensureCapacityInternal2 x2 a0_value_v a0_value_n x3 x4 → tr_RAbstractStringBuilder_putStringAt a0_count x4 a1_value_v a1_value_n x5 → x6.toInt = a0_count.toInt + x1.toInt → R x6 x3 x5) →
  R o1 o2 o3
abbrev ky_656732_AbstractStringBuilder_append : gKey := (cJ5_append_cf1ce, 3, "java/lang/AbstractStringBuilder", (some (FieldType.object "java/lang/AbstractStringBuilder")), [], "append", fun _ _ => True)
def pp_656732_AbstractStringBuilder_append (D : va_G) (I : FieldType → ClassId) (P656713 : List Nat) (F656714 : Nat → va_E) (q656715 : Nat) (q656716 : Nat) (q656717 : Nat) (q656718 : Nat) (p656719 : Int32) (p656720 : Int32) (p656721 : Int32) (p656722 : Int32) (f656723 : Nat → Int32) (n656724 : Nat) (f656725 : Nat → Int32) (n656726 : Nat) : Option Value → va_W → Nat → Nat → Prop := fun r w dc ds => ∃ (P656804 : List Nat) (F656805 : Nat → va_E) (o656800 : Int32) (q656801 : Nat) (n656802 : Nat) (f656803 : Nat → Int32), r = some (.ref q656715) ∧ w = va_pl P656804 F656805 ∧ rSub P656713 P656804 ∧ rFr [q656715, q656717] P656713 F656714 F656805 ∧ F656805 q656715 = .inr (1, [.ref q656801, .int 0, .int p656719, .int o656800]) ∧ F656805 q656716 = .inr (0, [.ref q656718, .int 0, .int p656721, .int p656722]) ∧ F656805 q656801 = .inl (I .byte, n656802, .inl f656803) ∧ F656805 q656718 = .inl (I .byte, n656726, .inl f656725) ∧ q656801 ∈ P656804 ∧ (q656801 = q656717 ∨ q656801 ∉ P656713) ∧ dc ≤ 1 ∧ ds ≤ 2 * (n656802 - n656724) ∧ gB o656800 0 16777216 ∧ gF f656803 (-128) 127 ∧ o656800.toInt = p656720.toInt + (n656726 : Int) ∧ o656800.toInt ≤ (n656802 : Int) ∧ (n656724 : Int) ≤ (n656802 : Int) ∧ (n656802 : Int) ≤ 2 * (n656724 : Int) + 2 + p656720.toInt + (n656726 : Int) ∧ ((n656802 : Int) = (n656724 : Int) ∨ (n656724 : Int) < o656800.toInt) ∧ tr_RAbstractStringBuilder_append5 p656720 f656723 n656724 f656725 n656726 o656800 n656802 f656803
set_option maxRecDepth 100000 in
set_option maxHeartbeats 4000000 in
theorem cp_656732_AbstractStringBuilder_append (l : Launch) (hl0 : l.stackTraces = false) (D : va_G) (I : FieldType → ClassId) (P656713 : List Nat) (F656714 : Nat → va_E) (q656715 : Nat) (q656716 : Nat) (q656717 : Nat) (q656718 : Nat) (p656719 : Int32) (p656720 : Int32) (p656721 : Int32) (p656722 : Int32) (f656723 : Nat → Int32) (n656724 : Nat) (f656725 : Nat → Int32) (n656726 : Nat) (hmq656715 : q656715 ∈ P656713) (hmq656716 : q656716 ∈ P656713) (hmq656717 : q656717 ∈ P656713) (hmq656718 : q656718 ∈ P656713) (heq656715 : F656714 q656715 = .inr (1, [.ref q656717, .int 0, .int p656719, .int p656720])) (heq656716 : F656714 q656716 = .inr (0, [.ref q656718, .int 0, .int p656721, .int p656722])) (heq656717 : F656714 q656717 = .inl (I .byte, n656724, .inl f656723)) (heq656718 : F656714 q656718 = .inl (I .byte, n656726, .inl f656725)) (hneq656717q656718 : q656717 ≠ q656718) (bp656719 : gB p656719 0 1) (bp656720 : gB p656720 0 16777216) (bp656722 : gB p656722 0 1) (bf656723 : gF f656723 (-128) 127) (bf656725 : gF f656725 (-128) 127) (x656727 : (n656726 : Int) ≤ 65535) (x656728 : (n656724 : Int) ≤ 8388608 - 100000) (x656729 : p656720.toInt ≤ (n656724 : Int)) (x656730 : ((n656724 : Int) ≤ 16777216)) (x656731 : ((n656726 : Int) ≤ 16777216)) : CtA (gV D I) l yJ5_append_cf1ce cJ5_append_cf1ce 3 (some (FieldType.object "java/lang/AbstractStringBuilder")) 4 84 1 (4 * n656724 + 4 + 2 * n656726) [.ref q656715, .ref q656716] (va_pl P656713 F656714) (pp_656732_AbstractStringBuilder_append D I P656713 F656714 q656715 q656716 q656717 q656718 p656719 p656720 p656721 p656722 f656723 n656724 f656725 n656726) gNA := by
  refine CtA_ofF hl0 (by decide +kernel) (Nat.le_of_ble_eq_true rfl) ?_
  have bp656721 := gB_any p656721
  refine G_aload_n 1 dr_cJ5_append_cf1ce_0 rfl ?_
  refine G_ifnonnull 9 dr_cJ5_append_cf1ce_1 (by decide +kernel) ?_
  refine G_aload_n 1 dr_cJ5_append_cf1ce_9 rfl ?_
  refine Gw_callV (As := []) (gV_ok D I) (cp_656312_String_length l hl0 D I P656713 F656714 q656716 q656718 p656721 p656722 f656725 n656726 hmq656716 hmq656718 heq656716 heq656718 bp656722 bf656725 (by have qa0 : Int32.toInt 0 = 0 := (by decide); omega)) dr_cJ5_append_cf1ce_10 ⟨wr_8_154, wr_1_21, wr_3_60, by decide, rfl, (Nat.le_of_ble_eq_true rfl), (Nat.le_of_ble_eq_true rfl)⟩ wr_3_58 wr_3_59 hmq656716 heq656716 rfl (show 0 + 0 ≤ 1 by first | omega | decide) (show 0 + 0 ≤ (4 * n656724 + 4 + 2 * n656726) by first | omega | decide) (Nat.le_of_ble_eq_true rfl) (fun r656736 w656737 dc656733 ds656734 hp656735 => ?_) (fun _ _ _ _ _ z => z.elim)
  obtain ⟨o656738, rfl, rfl, hdc, hds, bo656738, x656739, ht656740⟩ := hp656735
  change G _ _ _ _ _ _ _ (.int o656738 :: _) _ _ _
  refine G_widen (cs' := 0) (sl' := 0) (by omega) (by omega) ?_
  refine G_istore_n (L' := [(2, .int o656738), (0, .ref q656715), (1, .ref q656716)]) dr_cJ5_append_cf1ce_13 (Nat.le_of_ble_eq_true rfl) rfl ?_
  refine G_aload_n 1 dr_cJ5_append_cf1ce_14 rfl ?_
  refine G_aload_n 1 dr_cJ5_append_cf1ce_15 rfl ?_
  refine Gp_get 3 hmq656715 heq656715 dr_cJ5_append_cf1ce_16 (gk_J4 D I) (Nat.le_of_ble_eq_true rfl) wr_7_64 rfl ?_
  refine G_iload_n 0 dr_cJ5_append_cf1ce_19 rfl ?_
  refine G_iadd dr_cJ5_append_cf1ce_20 (G_nam fun z656741 hz656741 => ?_)
  have ez656741 : z656741.toInt = p656720.toInt + o656738.toInt := by rw [gI_add hz656741 bp656720 bo656738 (by decide) (by decide)]
  have bz656741 : gB z656741 0 33554432 := gB_add (gI_add hz656741 bp656720 bo656738 (by decide) (by decide)) bp656720 bo656738 (by decide) (by decide)
  refine Gw_callVB (As := [.int z656741]) (gV_ok D I) (cp_655917_AbstractStringBuilder_ensureCapacityInternal l hl0 D I P656713 F656714 q656715 q656717 z656741 p656719 p656720 f656723 n656724 hmq656715 hmq656717 heq656715 heq656717 ⟨by omega, by omega⟩ bp656719 bp656720 bf656723 (by have qa0 : Int32.toInt 0 = 0 := (by decide); omega) (by have qa0 : Int32.toInt 0 = 0 := (by decide); omega)) dr_cJ5_append_cf1ce_21 ⟨wr_8_4, wr_1_19, wr_8_7, by decide, rfl, (Nat.le_of_ble_eq_true rfl), (Nat.le_of_ble_eq_true rfl)⟩ wr_8_6 wr_s_0 hmq656715 heq656715 rfl (show 0 + 1 ≤ 1 by first | omega | decide) (show 0 + (2 * n656724 + 2 + z656741.toInt.toNat) ≤ (4 * n656724 + 4 + 2 * n656726) by first | omega | decide) (Nat.le_of_ble_eq_true rfl) (fun r656745 w656746 dc656742 ds656743 hp656744 => ?_) (fun _ _ _ _ _ z => z.elim)
  obtain ⟨P656755, F656756, q656747, n656748, f656749, rfl, rfl, hsb656757, hfr656758, he656759, he656760, hm656761, hq656762, hdc, hds, bf656749, x656750, x656751, x656752, x656753, ht656754⟩ := hp656744
  have hm656763 : q656715 ∈ P656755 := hsb656757 q656715 hmq656715
  have hm656764 : q656716 ∈ P656755 := hsb656757 q656716 hmq656716
  have hm656765 : q656717 ∈ P656755 := hsb656757 q656717 hmq656717
  have hm656766 : q656718 ∈ P656755 := hsb656757 q656718 hmq656718
  have hor656767 : q656747 = q656717 ∨ q656747 ∉ P656713 := hq656762.elim Or.inl (fun n => Or.inr (fun z => n ((rSub_rf (P := P656713)) _ z)))
  have hsb656768 : rSub P656713 P656755 := rSub_tr (rSub_rf (P := P656713)) hsb656757
  have he656769 : F656756 q656716 = .inr (0, [.ref q656718, .int 0, .int p656721, .int p656722]) := (hfr656758 q656716 hmq656716 (nm_c (rn_oo heq656716 heq656715 (by decide)) nm_n)).trans heq656716
  have he656770 : F656756 q656717 = .inl (I .byte, n656724, .inl f656723) := (hfr656758 q656717 hmq656717 (nm_c (rn_ao heq656717 heq656715) nm_n)).trans heq656717
  have he656771 : F656756 q656718 = .inl (I .byte, n656726, .inl f656725) := (hfr656758 q656718 hmq656718 (nm_c (rn_ao heq656718 heq656715) nm_n)).trans heq656718
  have hfr656772 : rFr [q656715] P656713 F656714 F656756 := rFr_call (rSub_rf (P := P656713)) (rFr_rf (W := []) (P := P656713) (F := F656714)) hfr656758 (fun b hb hn => ⟨nm_n, (nm_c (fun e => hn (e ▸ List.mem_cons_self)) nm_n)⟩)
  have hne656773 : q656718 ≠ q656747 := fun e => hq656762.elim (fun e2 => (Ne.symm hneq656717q656718) (e.trans e2)) (fun n => n (e ▸ hmq656718))
  change G _ _ _ _ _ _ _ _ _ _ _
  refine G_widen (cs' := 1) (sl' := 2 * (n656748 - n656724)) (by omega) (by omega) ?_
  refine G_aload_n 1 dr_cJ5_append_cf1ce_24 rfl ?_
  refine G_aload_n 1 dr_cJ5_append_cf1ce_25 rfl ?_
  refine Gp_get 3 hm656763 he656759 dr_cJ5_append_cf1ce_26 (gk_J4 D I) (Nat.le_of_ble_eq_true rfl) wr_7_64 rfl ?_
  refine G_aload_n 2 dr_cJ5_append_cf1ce_29 rfl ?_
  refine Gw_callVB (As := [.int p656720, .ref q656716]) (gV_ok D I) (cp_656364_AbstractStringBuilder_putStringAt l hl0 D I P656755 F656756 q656715 q656716 q656747 q656718 p656720 p656719 p656720 p656721 p656722 f656749 n656748 f656725 n656726 hm656763 hm656764 hm656761 hm656766 he656759 he656769 he656760 he656771 (Ne.symm hne656773) bp656720 bp656719 bp656720 bp656722 bf656749 bf656725 (by have qa0 : Int32.toInt 0 = 0 := (by decide); omega) (by have qa0 : Int32.toInt 0 = 0 := (by decide); omega) (by have qa0 : Int32.toInt 0 = 0 := (by decide); omega)) dr_cJ5_append_cf1ce_30 ⟨wr_8_155, wr_1_19, wr_8_158, by decide, rfl, (Nat.le_of_ble_eq_true rfl), (Nat.le_of_ble_eq_true rfl)⟩ wr_8_157 wr_s_4 hm656763 he656759 rfl (show 1 + 0 ≤ 1 by first | omega | decide) (show 2 * (n656748 - n656724) + 0 ≤ (4 * n656724 + 4 + 2 * n656726) by first | omega | decide) (Nat.le_of_ble_eq_true rfl) (fun r656777 w656778 dc656774 ds656775 hp656776 => ?_) (fun _ _ _ _ _ z => z.elim)
  obtain ⟨F656783, f656779, rfl, rfl, hfr656785, he656786, he656787, he656788, he656789, hdc, hds, bf656779, x656780, x656781, ht656782⟩ := hp656776
  have hfr656790 : rFr [q656715, q656717] P656713 F656714 F656783 := rFr_call hsb656768 hfr656772 hfr656785 (fun b hb hn => ⟨(nm_c (fun e => hn (e ▸ List.mem_cons_self)) nm_n), (nm_c (fun e => hor656767.elim (fun e2 => hn ((e.trans e2) ▸ (List.mem_cons_of_mem _ List.mem_cons_self))) (fun n => n (e ▸ hb))) nm_n)⟩)
  change G _ _ _ _ _ _ _ _ _ _ _
  refine G_widen (cs' := 1) (sl' := 2 * (n656748 - n656724) + 0) (by omega) (by omega) ?_
  refine G_aload_n 1 dr_cJ5_append_cf1ce_33 rfl ?_
  refine G_dup dr_cJ5_append_cf1ce_34 rfl ?_
  refine Gp_get 3 hm656763 he656786 dr_cJ5_append_cf1ce_35 (gk_J4 D I) (Nat.le_of_ble_eq_true rfl) wr_7_64 rfl ?_
  refine G_iload_n 0 dr_cJ5_append_cf1ce_38 rfl ?_
  refine G_iadd dr_cJ5_append_cf1ce_39 (G_nam fun z656791 hz656791 => ?_)
  have ez656791 : z656791.toInt = p656720.toInt + o656738.toInt := by rw [gI_add hz656791 bp656720 bo656738 (by decide) (by decide)]
  have bz656791 : gB z656791 0 33554432 := gB_add (gI_add hz656791 bp656720 bo656738 (by decide) (by decide)) bp656720 bo656738 (by decide) (by decide)
  refine Gp_put 3 hm656763 he656786 dr_cJ5_append_cf1ce_40 (gk_J4 D I) (Nat.le_of_ble_eq_true rfl) wr_7_64 rfl rfl rfl (Nat.le_of_ble_eq_true rfl) (fun F656792 e656793 n656794 => ?_)
  have he656795 : F656792 q656716 = .inr (0, [.ref q656718, .int 0, .int p656721, .int p656722]) := (n656794 q656716 (rn_oo he656787 he656786 (by decide))).trans he656787
  have he656796 : F656792 q656747 = .inl (I .byte, n656748, .inl f656779) := (n656794 q656747 (rn_ao he656788 he656786)).trans he656788
  have he656797 : F656792 q656718 = .inl (I .byte, n656726, .inl f656725) := (n656794 q656718 (rn_ao he656789 he656786)).trans he656789
  have he656798 : F656792 q656715 = .inr (1, [.ref q656747, .int 0, .int p656719, .int z656791]) := e656793
  have hfr656799 : rFr [q656715, q656717] P656713 F656714 F656792 := rFr_put' List.mem_cons_self hfr656790 n656794
  refine G_aload_n 1 dr_cJ5_append_cf1ce_43 rfl ?_
  exact G_aretA (FieldType.object "java/lang/AbstractStringBuilder") dr_cJ5_append_cf1ce_44 rfl (by first | exact Or.inl ⟨_, rfl⟩ | exact Or.inr ⟨_, rfl⟩) (Or.inr ⟨_, rfl⟩) (Nat.le_of_ble_eq_true rfl) (show 2 * (n656748 - n656724) + 0 ≤ (4 * n656724 + 4 + 2 * n656726) by omega) ⟨P656755, F656792, z656791, q656747, n656748, f656779, rfl, rfl, hsb656768, hfr656799, he656798, he656795, he656796, he656797, hm656761, hor656767, (Nat.le_of_ble_eq_true rfl), (by omega), ⟨by omega, by omega⟩, bf656779, (by have qa0 : Int32.toInt 0 = 0 := (by decide); omega), (by have qa0 : Int32.toInt 0 = 0 := (by decide); omega), (by have qa0 : Int32.toInt 0 = 0 := (by decide); omega), (by have qa0 : Int32.toInt 0 = 0 := (by decide); omega), (by have qa0 : Int32.toInt 0 = 0 := (by decide); omega), (fun R c1 => c1 o656738 z656741 n656748 f656749 f656779 z656791 bo656738 ht656740 ez656741 ht656754 ht656782 ez656791)⟩
/- tr_RStringBuilder_append5: a.0...count, a.0.value.#, a.0.value.[] -/
def tr_RStringBuilder_append5 (a0_count : Int32) (a0_value_v : Nat → Int32) (a0_value_n : Nat) (a1_value_v : Nat → Int32) (a1_value_n : Nat) (o1 : Int32) (o2 : Nat) (o3 : Nat → Int32) : Prop := ∀ R : (Int32) → (Nat) → (Nat → Int32) → Prop,
  (∀ (x1 : Int32) (x2 : Nat) (x3 : Nat → Int32), gB x1 0 16777216 → tr_RAbstractStringBuilder_append5 a0_count a0_value_v a0_value_n a1_value_v a1_value_n x1 x2 x3 → R x1 x2 x3) →
  R o1 o2 o3
abbrev ky_656712_StringBuilder_append : gKey := (cJ4_append_15ec4, 2, "java/lang/StringBuilder", (some (FieldType.object "java/lang/StringBuilder")), [], "append", fun _ _ => True)
def pp_656712_StringBuilder_append (D : va_G) (I : FieldType → ClassId) (P656693 : List Nat) (F656694 : Nat → va_E) (q656695 : Nat) (q656696 : Nat) (q656697 : Nat) (q656698 : Nat) (p656699 : Int32) (p656700 : Int32) (p656701 : Int32) (p656702 : Int32) (f656703 : Nat → Int32) (n656704 : Nat) (f656705 : Nat → Int32) (n656706 : Nat) : Option Value → va_W → Nat → Nat → Prop := fun r w dc ds => ∃ (P656843 : List Nat) (F656844 : Nat → va_E) (o656839 : Int32) (q656840 : Nat) (n656841 : Nat) (f656842 : Nat → Int32), r = some (.ref q656695) ∧ w = va_pl P656843 F656844 ∧ rSub P656693 P656843 ∧ rFr [q656695, q656697] P656693 F656694 F656844 ∧ F656844 q656695 = .inr (1, [.ref q656840, .int 0, .int p656699, .int o656839]) ∧ F656844 q656696 = .inr (0, [.ref q656698, .int 0, .int p656701, .int p656702]) ∧ F656844 q656840 = .inl (I .byte, n656841, .inl f656842) ∧ F656844 q656698 = .inl (I .byte, n656706, .inl f656705) ∧ q656840 ∈ P656843 ∧ (q656840 = q656697 ∨ q656840 ∉ P656693) ∧ dc ≤ 1 ∧ ds ≤ 2 * (n656841 - n656704) ∧ gB o656839 0 16777216 ∧ gF f656842 (-128) 127 ∧ o656839.toInt = p656700.toInt + (n656706 : Int) ∧ o656839.toInt ≤ (n656841 : Int) ∧ (n656704 : Int) ≤ (n656841 : Int) ∧ (n656841 : Int) ≤ 2 * (n656704 : Int) + 2 + p656700.toInt + (n656706 : Int) ∧ ((n656841 : Int) = (n656704 : Int) ∨ (n656704 : Int) < o656839.toInt) ∧ tr_RStringBuilder_append5 p656700 f656703 n656704 f656705 n656706 o656839 n656841 f656842
set_option maxRecDepth 100000 in
set_option maxHeartbeats 4000000 in
theorem cp_656712_StringBuilder_append (l : Launch) (hl0 : l.stackTraces = false) (D : va_G) (I : FieldType → ClassId) (P656693 : List Nat) (F656694 : Nat → va_E) (q656695 : Nat) (q656696 : Nat) (q656697 : Nat) (q656698 : Nat) (p656699 : Int32) (p656700 : Int32) (p656701 : Int32) (p656702 : Int32) (f656703 : Nat → Int32) (n656704 : Nat) (f656705 : Nat → Int32) (n656706 : Nat) (hmq656695 : q656695 ∈ P656693) (hmq656696 : q656696 ∈ P656693) (hmq656697 : q656697 ∈ P656693) (hmq656698 : q656698 ∈ P656693) (heq656695 : F656694 q656695 = .inr (1, [.ref q656697, .int 0, .int p656699, .int p656700])) (heq656696 : F656694 q656696 = .inr (0, [.ref q656698, .int 0, .int p656701, .int p656702])) (heq656697 : F656694 q656697 = .inl (I .byte, n656704, .inl f656703)) (heq656698 : F656694 q656698 = .inl (I .byte, n656706, .inl f656705)) (hneq656697q656698 : q656697 ≠ q656698) (bp656699 : gB p656699 0 1) (bp656700 : gB p656700 0 16777216) (bp656702 : gB p656702 0 1) (bf656703 : gF f656703 (-128) 127) (bf656705 : gF f656705 (-128) 127) (x656707 : (n656706 : Int) ≤ 65535) (x656708 : (n656704 : Int) ≤ 8388608 - 100000) (x656709 : p656700.toInt ≤ (n656704 : Int)) (x656710 : ((n656704 : Int) ≤ 16777216)) (x656711 : ((n656706 : Int) ≤ 16777216)) : CtA (gV D I) l yJ4_append_15ec4 cJ4_append_15ec4 2 (some (FieldType.object "java/lang/StringBuilder")) 5 106 1 (4 * n656704 + 4 + 2 * n656706) [.ref q656695, .ref q656696] (va_pl P656693 F656694) (pp_656712_StringBuilder_append D I P656693 F656694 q656695 q656696 q656697 q656698 p656699 p656700 p656701 p656702 f656703 n656704 f656705 n656706) gNA := by
  refine CtA_ofF hl0 (by decide +kernel) (Nat.le_of_ble_eq_true rfl) ?_
  have bp656701 := gB_any p656701
  refine G_aload_n 0 dr_cJ4_append_15ec4_0 rfl ?_
  refine G_aload_n 1 dr_cJ4_append_15ec4_1 rfl ?_
  refine Gw_callSU (As := [.ref q656696]) (gV_ok D I) (cp_656732_AbstractStringBuilder_append l hl0 D I P656693 F656694 q656695 q656696 q656697 q656698 p656699 p656700 p656701 p656702 f656703 n656704 f656705 n656706 hmq656695 hmq656696 hmq656697 hmq656698 heq656695 heq656696 heq656697 heq656698 hneq656697q656698 bp656699 bp656700 bp656702 bf656703 bf656705 (by have qa0 : Int32.toInt 0 = 0 := (by decide); omega) (by have qa0 : Int32.toInt 0 = 0 := (by decide); omega) (by have qa0 : Int32.toInt 0 = 0 := (by decide); omega) (by have qa0 : Int32.toInt 0 = 0 := (by decide); omega) (by have qa0 : Int32.toInt 0 = 0 := (by decide); omega)) dr_cJ4_append_15ec4_2 ⟨wr_8_144, wr_1_19, wr_8_146, by decide, rfl, (Nat.le_of_ble_eq_true rfl), (Nat.le_of_ble_eq_true rfl)⟩ wr_8_145 wr_11_229 wr_7_73 wr_7_44 (by decide) hmq656695 heq656695 rfl (show 0 + 1 ≤ 1 by first | omega | decide) (show 0 + (4 * n656704 + 4 + 2 * n656706) ≤ (4 * n656704 + 4 + 2 * n656706) by first | omega | decide) (Nat.le_of_ble_eq_true rfl) (fun r656809 w656810 dc656806 ds656807 hp656808 => ?_)
  obtain ⟨P656821, F656822, o656811, q656812, n656813, f656814, rfl, rfl, hsb656823, hfr656824, he656825, he656826, he656827, he656828, hm656829, hq656830, hdc, hds, bo656811, bf656814, x656815, x656816, x656817, x656818, x656819, ht656820⟩ := hp656808
  have hm656831 : q656695 ∈ P656821 := hsb656823 q656695 hmq656695
  have hm656832 : q656696 ∈ P656821 := hsb656823 q656696 hmq656696
  have hm656833 : q656697 ∈ P656821 := hsb656823 q656697 hmq656697
  have hm656834 : q656698 ∈ P656821 := hsb656823 q656698 hmq656698
  have hor656835 : q656812 = q656697 ∨ q656812 ∉ P656693 := hq656830.elim Or.inl (fun n => Or.inr (fun z => n ((rSub_rf (P := P656693)) _ z)))
  have hsb656836 : rSub P656693 P656821 := rSub_tr (rSub_rf (P := P656693)) hsb656823
  have hfr656837 : rFr [q656695, q656697] P656693 F656694 F656822 := rFr_call (rSub_rf (P := P656693)) (rFr_rf (W := []) (P := P656693) (F := F656694)) hfr656824 (fun b hb hn => ⟨nm_n, (nm_c (fun e => hn (e ▸ List.mem_cons_self)) (nm_c (fun e => hn (e ▸ (List.mem_cons_of_mem _ List.mem_cons_self))) nm_n))⟩)
  have hne656838 : q656698 ≠ q656812 := fun e => hq656830.elim (fun e2 => (Ne.symm hneq656697q656698) (e.trans e2)) (fun n => n (e ▸ hmq656698))
  change G _ _ _ _ _ _ _ (.ref q656695 :: _) _ _ _
  refine G_widen (cs' := 1) (sl' := 2 * (n656813 - n656704)) (by omega) (by omega) ?_
  refine G_pop dr_cJ4_append_15ec4_5 rfl ?_
  refine G_aload_n 0 dr_cJ4_append_15ec4_6 rfl ?_
  exact G_aretA (FieldType.object "java/lang/StringBuilder") dr_cJ4_append_15ec4_7 rfl (by first | exact Or.inl ⟨_, rfl⟩ | exact Or.inr ⟨_, rfl⟩) (Or.inr ⟨_, rfl⟩) (Nat.le_of_ble_eq_true rfl) (show 2 * (n656813 - n656704) ≤ (4 * n656704 + 4 + 2 * n656706) by omega) ⟨P656821, F656822, o656811, q656812, n656813, f656814, rfl, rfl, hsb656836, hfr656837, he656825, he656826, he656827, he656828, hm656829, hor656835, (Nat.le_of_ble_eq_true rfl), (by omega), bo656811, bf656814, (by have qa0 : Int32.toInt 0 = 0 := (by decide); omega), (by have qa0 : Int32.toInt 0 = 0 := (by decide); omega), (by have qa0 : Int32.toInt 0 = 0 := (by decide); omega), (by have qa0 : Int32.toInt 0 = 0 := (by decide); omega), (by have qa0 : Int32.toInt 0 = 0 := (by decide); omega), (fun R c1 => c1 o656811 n656813 f656814 bo656811 ht656820)⟩
/- tr_RAbstractStringBuilder_append6: a.0...count, a.0.value.#, a.0.value.[] -/
def tr_RAbstractStringBuilder_append6 (bs : List Int32) (a0_count : Int32) (a0_value_v : Nat → Int32) (a0_value_n : Nat) (o1 : Int32) (o2 : Nat) (o3 : Nat → Int32) : Prop := ∀ R : (Int32) → (Nat) → (Nat → Int32) → Prop,
  (∀ (x1 : Int32) (x2 : Int32) (x3 : Nat) (x4 : Nat → Int32) (x5 : Nat → Int32) (x6 : Int32), gB x1 0 65535 → tr_RString_length2 bs x1 → x2.toInt = a0_count.toInt + x1.toInt → tr_RAbstractStringBuilder_ensureCapacityInternal2 x2 a0_value_v a0_value_n x3 x4 → tr_RAbstractStringBuilder_putStringAt2 a0_count bs x4 x5 → x6.toInt = a0_count.toInt + x1.toInt → R x6 x3 x5) →
  R o1 o2 o3
abbrev ky_656876_AbstractStringBuilder_append : gKey := (cJ5_append_cf1ce, 3, "java/lang/AbstractStringBuilder", (some (FieldType.object "java/lang/AbstractStringBuilder")), [], "append", fun _ _ => True)
def pp_656876_AbstractStringBuilder_append (D : va_G) (I : FieldType → ClassId) (P656861 : List Nat) (F656862 : Nat → va_E) (q656863 : Nat) (q656864 : Nat) (qs656865 : Nat) (qb656866 : Nat) (bs656867 : List Int32) (p656868 : Int32) (p656869 : Int32) (f656870 : Nat → Int32) (n656871 : Nat) : Option Value → va_W → Nat → Nat → Prop := fun r w dc ds => ∃ (P656939 : List Nat) (F656940 : Nat → va_E) (o656935 : Int32) (q656936 : Nat) (n656937 : Nat) (f656938 : Nat → Int32), r = some (.ref q656863) ∧ w = va_pl P656939 F656940 ∧ rSub P656861 P656939 ∧ rFr [q656863, q656864] P656861 F656862 F656940 ∧ F656940 q656863 = .inr (1, [.ref q656936, .int 0, .int p656868, .int o656935]) ∧ F656940 q656936 = .inl (I .byte, n656937, .inl f656938) ∧ q656936 ∈ P656939 ∧ (q656936 = q656864 ∨ q656936 ∉ P656861) ∧ dc ≤ 1 ∧ ds ≤ 2 * (n656937 - n656871) ∧ gB o656935 0 16777216 ∧ gF f656938 (-128) 127 ∧ o656935.toInt = p656869.toInt + (bs656867.length : Int) ∧ o656935.toInt ≤ (n656937 : Int) ∧ (n656871 : Int) ≤ (n656937 : Int) ∧ (n656937 : Int) ≤ 2 * (n656871 : Int) + 2 + p656869.toInt + (bs656867.length : Int) ∧ ((n656937 : Int) = (n656871 : Int) ∨ (n656871 : Int) < o656935.toInt) ∧ tr_RAbstractStringBuilder_append6 bs656867 p656869 f656870 n656871 o656935 n656937 f656938
set_option maxRecDepth 100000 in
set_option maxHeartbeats 4000000 in
theorem cp_656876_AbstractStringBuilder_append (l : Launch) (hl0 : l.stackTraces = false) (D : va_G) (I : FieldType → ClassId) (P656861 : List Nat) (F656862 : Nat → va_E) (q656863 : Nat) (q656864 : Nat) (qs656865 : Nat) (qb656866 : Nat) (bs656867 : List Int32) (p656868 : Int32) (p656869 : Int32) (f656870 : Nat → Int32) (n656871 : Nat) (hmq656863 : q656863 ∈ P656861) (hmq656864 : q656864 ∈ P656861) (heq656863 : F656862 q656863 = .inr (1, [.ref q656864, .int 0, .int p656868, .int p656869])) (heq656864 : F656862 q656864 = .inl (I .byte, n656871, .inl f656870)) (hbs656867 : ∀ A s H, (gV D I).2.2.2.1 A s H → gSC qs656865 qb656866 bs656867 A s H) (nbs656867 : (bs656867.length : Int) ≤ 65535) (lbs656867 : gLB bs656867) (bp656868 : gB p656868 0 1) (bp656869 : gB p656869 0 16777216) (bf656870 : gF f656870 (-128) 127) (x656872 : (bs656867.length : Int) ≤ 65535) (x656873 : (n656871 : Int) ≤ 8388608 - 100000) (x656874 : p656869.toInt ≤ (n656871 : Int)) (x656875 : ((n656871 : Int) ≤ 16777216)) : CtA (gV D I) l yJ5_append_cf1ce cJ5_append_cf1ce 3 (some (FieldType.object "java/lang/AbstractStringBuilder")) 4 84 1 (4 * n656871 + 4 + 2 * bs656867.length) [.ref q656863, .ref qs656865] (va_pl P656861 F656862) (pp_656876_AbstractStringBuilder_append D I P656861 F656862 q656863 q656864 qs656865 qb656866 bs656867 p656868 p656869 f656870 n656871) gNA := by
  refine CtA_ofF hl0 (by decide +kernel) (Nat.le_of_ble_eq_true rfl) ?_
  refine G_aload_n 1 dr_cJ5_append_cf1ce_0 rfl ?_
  refine G_ifnonnull 9 dr_cJ5_append_cf1ce_1 (by decide +kernel) ?_
  refine G_aload_n 1 dr_cJ5_append_cf1ce_9 rfl ?_
  refine Gw_callVk (As := []) (gV_ok D I) (cp_656532_String_length l hl0 D I P656861 F656862 qs656865 qb656866 bs656867 hbs656867 nbs656867 lbs656867) dr_cJ5_append_cf1ce_10 ⟨wr_8_154, wr_1_21, wr_3_60, by decide, rfl, (Nat.le_of_ble_eq_true rfl), (Nat.le_of_ble_eq_true rfl)⟩ wr_3_58 wr_3_59 (fun _ _ _ h => (hbs656867 _ _ _ h).1) (show 0 + 0 ≤ 1 by first | omega | decide) (show 0 + 0 ≤ (4 * n656871 + 4 + 2 * bs656867.length) by first | omega | decide) (Nat.le_of_ble_eq_true rfl) (fun r656880 w656881 dc656877 ds656878 hp656879 => ?_) (fun _ _ _ _ _ z => z.elim)
  obtain ⟨o656882, rfl, rfl, hdc, hds, bo656882, x656883, ht656884⟩ := hp656879
  change G _ _ _ _ _ _ _ (.int o656882 :: _) _ _ _
  refine G_widen (cs' := 0) (sl' := 0) (by omega) (by omega) ?_
  refine G_istore_n (L' := [(2, .int o656882), (0, .ref q656863), (1, .ref qs656865)]) dr_cJ5_append_cf1ce_13 (Nat.le_of_ble_eq_true rfl) rfl ?_
  refine G_aload_n 1 dr_cJ5_append_cf1ce_14 rfl ?_
  refine G_aload_n 1 dr_cJ5_append_cf1ce_15 rfl ?_
  refine Gp_get 3 hmq656863 heq656863 dr_cJ5_append_cf1ce_16 (gk_J4 D I) (Nat.le_of_ble_eq_true rfl) wr_7_64 rfl ?_
  refine G_iload_n 0 dr_cJ5_append_cf1ce_19 rfl ?_
  refine G_iadd dr_cJ5_append_cf1ce_20 (G_nam fun z656885 hz656885 => ?_)
  have ez656885 : z656885.toInt = p656869.toInt + o656882.toInt := by rw [gI_add hz656885 bp656869 bo656882 (by decide) (by decide)]
  have bz656885 : gB z656885 0 16842751 := gB_add (gI_add hz656885 bp656869 bo656882 (by decide) (by decide)) bp656869 bo656882 (by decide) (by decide)
  refine Gw_callVB (As := [.int z656885]) (gV_ok D I) (cp_655917_AbstractStringBuilder_ensureCapacityInternal l hl0 D I P656861 F656862 q656863 q656864 z656885 p656868 p656869 f656870 n656871 hmq656863 hmq656864 heq656863 heq656864 ⟨by omega, by omega⟩ bp656868 bp656869 bf656870 (by have qa0 : Int32.toInt 0 = 0 := (by decide); omega) (by have qa0 : Int32.toInt 0 = 0 := (by decide); omega)) dr_cJ5_append_cf1ce_21 ⟨wr_8_4, wr_1_19, wr_8_7, by decide, rfl, (Nat.le_of_ble_eq_true rfl), (Nat.le_of_ble_eq_true rfl)⟩ wr_8_6 wr_s_0 hmq656863 heq656863 rfl (show 0 + 1 ≤ 1 by first | omega | decide) (show 0 + (2 * n656871 + 2 + z656885.toInt.toNat) ≤ (4 * n656871 + 4 + 2 * bs656867.length) by first | omega | decide) (Nat.le_of_ble_eq_true rfl) (fun r656889 w656890 dc656886 ds656887 hp656888 => ?_) (fun _ _ _ _ _ z => z.elim)
  obtain ⟨P656899, F656900, q656891, n656892, f656893, rfl, rfl, hsb656901, hfr656902, he656903, he656904, hm656905, hq656906, hdc, hds, bf656893, x656894, x656895, x656896, x656897, ht656898⟩ := hp656888
  have hm656907 : q656863 ∈ P656899 := hsb656901 q656863 hmq656863
  have hm656908 : q656864 ∈ P656899 := hsb656901 q656864 hmq656864
  have hor656909 : q656891 = q656864 ∨ q656891 ∉ P656861 := hq656906.elim Or.inl (fun n => Or.inr (fun z => n ((rSub_rf (P := P656861)) _ z)))
  have hsb656910 : rSub P656861 P656899 := rSub_tr (rSub_rf (P := P656861)) hsb656901
  have he656911 : F656900 q656864 = .inl (I .byte, n656871, .inl f656870) := (hfr656902 q656864 hmq656864 (nm_c (rn_ao heq656864 heq656863) nm_n)).trans heq656864
  have hfr656912 : rFr [q656863] P656861 F656862 F656900 := rFr_call (rSub_rf (P := P656861)) (rFr_rf (W := []) (P := P656861) (F := F656862)) hfr656902 (fun b hb hn => ⟨nm_n, (nm_c (fun e => hn (e ▸ List.mem_cons_self)) nm_n)⟩)
  change G _ _ _ _ _ _ _ _ _ _ _
  refine G_widen (cs' := 1) (sl' := 2 * (n656892 - n656871)) (by omega) (by omega) ?_
  refine G_aload_n 1 dr_cJ5_append_cf1ce_24 rfl ?_
  refine G_aload_n 1 dr_cJ5_append_cf1ce_25 rfl ?_
  refine Gp_get 3 hm656907 he656903 dr_cJ5_append_cf1ce_26 (gk_J4 D I) (Nat.le_of_ble_eq_true rfl) wr_7_64 rfl ?_
  refine G_aload_n 2 dr_cJ5_append_cf1ce_29 rfl ?_
  refine Gw_callVB (As := [.int p656869, .ref qs656865]) (gV_ok D I) (cp_656576_AbstractStringBuilder_putStringAt l hl0 D I P656899 F656900 q656863 q656891 p656869 qs656865 qb656866 bs656867 p656868 p656869 f656893 n656892 hm656907 hm656905 he656903 he656904 hbs656867 nbs656867 lbs656867 bp656869 bp656868 bp656869 bf656893 (by have qa0 : Int32.toInt 0 = 0 := (by decide); omega) (by have qa0 : Int32.toInt 0 = 0 := (by decide); omega)) dr_cJ5_append_cf1ce_30 ⟨wr_8_155, wr_1_19, wr_8_158, by decide, rfl, (Nat.le_of_ble_eq_true rfl), (Nat.le_of_ble_eq_true rfl)⟩ wr_8_157 wr_s_4 hm656907 he656903 rfl (show 1 + 0 ≤ 1 by first | omega | decide) (show 2 * (n656892 - n656871) + 0 ≤ (4 * n656871 + 4 + 2 * bs656867.length) by first | omega | decide) (Nat.le_of_ble_eq_true rfl) (fun r656916 w656917 dc656913 ds656914 hp656915 => ?_) (fun _ _ _ _ _ z => z.elim)
  obtain ⟨F656922, f656918, rfl, rfl, hfr656924, he656925, he656926, hdc, hds, bf656918, x656919, x656920, ht656921⟩ := hp656915
  have hfr656927 : rFr [q656863, q656864] P656861 F656862 F656922 := rFr_call hsb656910 hfr656912 hfr656924 (fun b hb hn => ⟨(nm_c (fun e => hn (e ▸ List.mem_cons_self)) nm_n), (nm_c (fun e => hor656909.elim (fun e2 => hn ((e.trans e2) ▸ (List.mem_cons_of_mem _ List.mem_cons_self))) (fun n => n (e ▸ hb))) nm_n)⟩)
  change G _ _ _ _ _ _ _ _ _ _ _
  refine G_widen (cs' := 1) (sl' := 2 * (n656892 - n656871) + 0) (by omega) (by omega) ?_
  refine G_aload_n 1 dr_cJ5_append_cf1ce_33 rfl ?_
  refine G_dup dr_cJ5_append_cf1ce_34 rfl ?_
  refine Gp_get 3 hm656907 he656925 dr_cJ5_append_cf1ce_35 (gk_J4 D I) (Nat.le_of_ble_eq_true rfl) wr_7_64 rfl ?_
  refine G_iload_n 0 dr_cJ5_append_cf1ce_38 rfl ?_
  refine G_iadd dr_cJ5_append_cf1ce_39 (G_nam fun z656928 hz656928 => ?_)
  have ez656928 : z656928.toInt = p656869.toInt + o656882.toInt := by rw [gI_add hz656928 bp656869 bo656882 (by decide) (by decide)]
  have bz656928 : gB z656928 0 16842751 := gB_add (gI_add hz656928 bp656869 bo656882 (by decide) (by decide)) bp656869 bo656882 (by decide) (by decide)
  refine Gp_put 3 hm656907 he656925 dr_cJ5_append_cf1ce_40 (gk_J4 D I) (Nat.le_of_ble_eq_true rfl) wr_7_64 rfl rfl rfl (Nat.le_of_ble_eq_true rfl) (fun F656929 e656930 n656931 => ?_)
  have he656932 : F656929 q656891 = .inl (I .byte, n656892, .inl f656918) := (n656931 q656891 (rn_ao he656926 he656925)).trans he656926
  have he656933 : F656929 q656863 = .inr (1, [.ref q656891, .int 0, .int p656868, .int z656928]) := e656930
  have hfr656934 : rFr [q656863, q656864] P656861 F656862 F656929 := rFr_put' List.mem_cons_self hfr656927 n656931
  refine G_aload_n 1 dr_cJ5_append_cf1ce_43 rfl ?_
  exact G_aretA (FieldType.object "java/lang/AbstractStringBuilder") dr_cJ5_append_cf1ce_44 rfl (by first | exact Or.inl ⟨_, rfl⟩ | exact Or.inr ⟨_, rfl⟩) (Or.inr ⟨_, rfl⟩) (Nat.le_of_ble_eq_true rfl) (show 2 * (n656892 - n656871) + 0 ≤ (4 * n656871 + 4 + 2 * bs656867.length) by omega) ⟨P656899, F656929, z656928, q656891, n656892, f656918, rfl, rfl, hsb656910, hfr656934, he656933, he656932, hm656905, hor656909, (Nat.le_of_ble_eq_true rfl), (by omega), ⟨by omega, by omega⟩, bf656918, (by have qa0 : Int32.toInt 0 = 0 := (by decide); omega), (by have qa0 : Int32.toInt 0 = 0 := (by decide); omega), (by have qa0 : Int32.toInt 0 = 0 := (by decide); omega), (by have qa0 : Int32.toInt 0 = 0 := (by decide); omega), (by have qa0 : Int32.toInt 0 = 0 := (by decide); omega), (fun R c1 => c1 o656882 z656885 n656892 f656893 f656918 z656928 bo656882 ht656884 ez656885 ht656898 ht656921 ez656928)⟩
/- tr_RStringBuilder_append6: a.0...count, a.0.value.#, a.0.value.[] -/
def tr_RStringBuilder_append6 (bs : List Int32) (a0_count : Int32) (a0_value_v : Nat → Int32) (a0_value_n : Nat) (o1 : Int32) (o2 : Nat) (o3 : Nat → Int32) : Prop := ∀ R : (Int32) → (Nat) → (Nat → Int32) → Prop,
  (∀ (x1 : Int32) (x2 : Nat) (x3 : Nat → Int32), gB x1 0 16777216 → tr_RAbstractStringBuilder_append6 bs a0_count a0_value_v a0_value_n x1 x2 x3 → R x1 x2 x3) →
  R o1 o2 o3
