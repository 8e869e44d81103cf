theorem dr_cJ4_append_15ec4_0 : decode cJ4_append_15ec4 0 = .ok (.aload_n 0, 1) := by decide +kernel
theorem dr_cJ4_append_15ec4_1 : decode cJ4_append_15ec4 1 = .ok (.aload_n 1, 1) := by decide +kernel
theorem dr_cJ4_append_15ec4_2 : decode cJ4_append_15ec4 2 = .ok (.invokespecial 29, 3) := by decide +kernel
theorem wr_8_144 : (Jvm.Cond.methodLink "java/lang/StringBuilder" (29 : Nat) ({ cls := "java/lang/AbstractStringBuilder", name := "append", desc := "(Ljava/lang/String;)Ljava/lang/AbstractStringBuilder;" } : Jvm.MethodName)) ∈ gw := gw_8 144 rfl rfl
theorem wr_8_146 : (Jvm.Cond.code ({ cls := "java/lang/AbstractStringBuilder", name := "append", desc := "(Ljava/lang/String;)Ljava/lang/AbstractStringBuilder;" } : Jvm.MethodName) prog_21_method_22_code (3 : Nat) (Option.some (Jvm.ClassFile.FieldType.object "java/lang/AbstractStringBuilder"))) ∈ gw := gw_8 146 rfl rfl
theorem wr_8_145 : (Jvm.Cond.instanceMethod ({ cls := "java/lang/AbstractStringBuilder", name := "append", desc := "(Ljava/lang/String;)Ljava/lang/AbstractStringBuilder;" } : Jvm.MethodName)) ∈ gw := gw_8 145 rfl rfl
theorem wr_11_229 : (Jvm.Cond.sameMethod "java/lang/AbstractStringBuilder" "java/lang/AbstractStringBuilder" "append" "(Ljava/lang/String;)Ljava/lang/AbstractStringBuilder;") ∈ gw := gw_11 229 rfl rfl
theorem dr_cJ4_append_15ec4_5 : decode cJ4_append_15ec4 5 = .ok (.pop, 1) := by decide +kernel
theorem dr_cJ4_append_15ec4_6 : decode cJ4_append_15ec4 6 = .ok (.aload_n 0, 1) := by decide +kernel
theorem dr_cJ4_append_15ec4_7 : decode cJ4_append_15ec4 7 = .ok (.areturn, 1) := by decide +kernel
abbrev ky_659026_StringBuilder_append : gKey := (cJ4_append_15ec4, 2, "java/lang/StringBuilder", (some (FieldType.object "java/lang/StringBuilder")), [], "append", fun _ _ => True)
def pp_659026_StringBuilder_append (D : va_G) (I : FieldType → ClassId) (P659009 : List Nat) (F659010 : Nat → va_E) (q659011 : Nat) (q659012 : Nat) (q659013 : Nat) (q659014 : Nat) (p659015 : Int32) (p659016 : Int32) (p659017 : Int32) (p659018 : Int32) (f659019 : Nat → Int32) (n659020 : Nat) (f659021 : Nat → Int32) (n659022 : Nat) : Option Value → va_W → Nat → Nat → Prop := fun r w dc ds => ∃ (F659240 : Nat → va_E) (o659237 : Int32) (f659238 : Nat → Int32), r = some (.ref q659011) ∧ w = va_pl P659009 F659240 ∧ rFr [q659011, q659013] P659009 F659010 F659240 ∧ F659240 q659011 = .inr (1, [.ref q659013, .int 0, .int p659015, .int o659237]) ∧ F659240 q659012 = .inr (0, [.ref q659014, .int 0, .int p659017, .int p659018]) ∧ F659240 q659013 = .inl (I .byte, n659020, .inl f659238) ∧ F659240 q659014 = .inl (I .byte, n659022, .inl f659021) ∧ dc ≤ 0 ∧ ds ≤ 0 ∧ gB o659237 0 16777216 ∧ gF f659238 (-128) 127 ∧ o659237.toInt = p659016.toInt + (n659022 : Int) ∧ sK f659019 f659238 p659016.toInt ∧ sF f659021 f659238 p659016.toInt (n659022 : Int) ∧ tr_RStringBuilder_append3 p659016 f659019 n659020 f659021 n659022 o659237 f659238
set_option maxRecDepth 100000 in
set_option maxHeartbeats 4000000 in
theorem cp_659026_StringBuilder_append (l : Launch) (hl0 : l.stackTraces = false) (D : va_G) (I : FieldType → ClassId) (P659009 : List Nat) (F659010 : Nat → va_E) (q659011 : Nat) (q659012 : Nat) (q659013 : Nat) (q659014 : Nat) (p659015 : Int32) (p659016 : Int32) (p659017 : Int32) (p659018 : Int32) (f659019 : Nat → Int32) (n659020 : Nat) (f659021 : Nat → Int32) (n659022 : Nat) (hmq659011 : q659011 ∈ P659009) (hmq659012 : q659012 ∈ P659009) (hmq659013 : q659013 ∈ P659009) (hmq659014 : q659014 ∈ P659009) (heq659011 : F659010 q659011 = .inr (1, [.ref q659013, .int 0, .int p659015, .int p659016])) (heq659012 : F659010 q659012 = .inr (0, [.ref q659014, .int 0, .int p659017, .int p659018])) (heq659013 : F659010 q659013 = .inl (I .byte, n659020, .inl f659019)) (heq659014 : F659010 q659014 = .inl (I .byte, n659022, .inl f659021)) (hneq659013q659014 : q659013 ≠ q659014) (bp659015 : gB p659015 0 1) (bp659016 : gB p659016 0 16777216) (bp659018 : gB p659018 0 1) (bf659019 : gF f659019 (-128) 127) (bf659021 : gF f659021 (-128) 127) (x659023 : p659016.toInt + (n659022 : Int) ≤ (n659020 : Int)) (x659024 : ((n659020 : Int) ≤ 16777216)) (x659025 : ((n659022 : Int) ≤ 16777216)) : CtA (gV D I) l yJ4_append_15ec4 cJ4_append_15ec4 2 (some (FieldType.object "java/lang/StringBuilder")) 4 87 0 0 [.ref q659011, .ref q659012] (va_pl P659009 F659010) (pp_659026_StringBuilder_append D I P659009 F659010 q659011 q659012 q659013 q659014 p659015 p659016 p659017 p659018 f659019 n659020 f659021 n659022) gNA := by
  refine CtA_ofF hl0 (by decide +kernel) (Nat.le_of_ble_eq_true rfl) ?_
  have bp659017 := gB_any p659017
  refine G_aload_n 0 dr_cJ4_append_15ec4_0 rfl ?_
  refine G_aload_n 1 dr_cJ4_append_15ec4_1 rfl ?_
  refine Gw_callSU (As := [.ref q659012]) (gV_ok D I) (cp_659044_AbstractStringBuilder_append l hl0 D I P659009 F659010 q659011 q659012 q659013 q659014 p659015 p659016 p659017 p659018 f659019 n659020 f659021 n659022 hmq659011 hmq659012 hmq659013 hmq659014 heq659011 heq659012 heq659013 heq659014 hneq659013q659014 bp659015 bp659016 bp659018 bf659019 bf659021 (by have qa0 : Int32.toInt 0 = 0 := (by decide); omega) (by have qa0 : Int32.toInt 0 = 0 := (by decide); omega) (by have qa0 : Int32.toInt 0 = 0 := (by decide); omega)) dr_cJ4_append_15ec4_2 ⟨wr_8_144, wr_1_19, wr_8_146, by decide, rfl, (Nat.le_of_ble_eq_true rfl), (Nat.le_of_ble_eq_true rfl)⟩ wr_8_145 wr_11_229 wr_7_73 wr_7_44 (by decide) hmq659011 heq659011 rfl (show 0 + 0 ≤ 0 by first | omega | decide) (show 0 + 0 ≤ 0 by first | omega | decide) (Nat.le_of_ble_eq_true rfl) (fun r659221 w659222 dc659218 ds659219 hp659220 => ?_)
  obtain ⟨F659229, o659223, f659224, rfl, rfl, hfr659231, he659232, he659233, he659234, he659235, hdc, hds, bo659223, bf659224, x659225, x659226, x659227, ht659228⟩ := hp659220
  have hfr659236 : rFr [q659011, q659013] P659009 F659010 F659229 := rFr_call (rSub_rf (P := P659009)) (rFr_rf (W := []) (P := P659009) (F := F659010)) hfr659231 (fun b hb hn => ⟨nm_n, (nm_c (fun e => hn (e ▸ List.mem_cons_self)) (nm_c (fun e => hn (e ▸ (List.mem_cons_of_mem _ List.mem_cons_self))) nm_n))⟩)
  change G _ _ _ _ _ _ _ (.ref q659011 :: _) _ _ _
  refine G_widen (cs' := 0) (sl' := 0) (by omega) (by omega) ?_
  refine G_pop dr_cJ4_append_15ec4_5 rfl ?_
  refine G_aload_n 0 dr_cJ4_append_15ec4_6 rfl ?_
  exact G_aretA (FieldType.object "java/lang/StringBuilder") dr_cJ4_append_15ec4_7 rfl (by first | exact Or.inl ⟨_, rfl⟩ | exact Or.inr ⟨_, rfl⟩) (Or.inr ⟨_, rfl⟩) (Nat.le_of_ble_eq_true rfl) (Nat.le_of_ble_eq_true rfl) ⟨F659229, o659223, f659224, rfl, rfl, hfr659236, he659232, he659233, he659234, he659235, (Nat.le_of_ble_eq_true rfl), (Nat.le_of_ble_eq_true rfl), bo659223, bf659224, (by have qa0 : Int32.toInt 0 = 0 := (by decide); omega), (sK_c x659226 (by omega)), (by assumption), (fun R c1 => c1 o659223 f659224 bo659223 ht659228)⟩
abbrev ky_659281_String_coder : gKey := (cJ0_coder_7d493, 1, "java/lang/String", (some FieldType.byte), [], "coder", fun _ _ => True)
def pp_659281_String_coder (D : va_G) (I : FieldType → ClassId) (P659276 : List Nat) (F659277 : Nat → va_E) (qs659278 : Nat) (qb659279 : Nat) (bs659280 : List Int32) : Option Value → va_W → Nat → Nat → Prop := fun r w dc ds => r = some (.int 0) ∧ w = va_pl P659276 F659277 ∧ dc ≤ 0 ∧ ds ≤ 0
set_option maxRecDepth 100000 in
set_option maxHeartbeats 4000000 in
theorem cp_659281_String_coder (l : Launch) (hl0 : l.stackTraces = false) (D : va_G) (I : FieldType → ClassId) (P659276 : List Nat) (F659277 : Nat → va_E) (qs659278 : Nat) (qb659279 : Nat) (bs659280 : List Int32) (hbs659280 : ∀ A s H, (gV D I).2.2.2.1 A s H → gSC qs659278 qb659279 bs659280 A s H) (nbs659280 : (bs659280.length : Int) ≤ 65535) (lbs659280 : gLB bs659280) : CtA (gV D I) l yJ0_coder_7d493 cJ0_coder_7d493 1 (some FieldType.byte) 0 0 0 0 [.ref qs659278] (va_pl P659276 F659277) (pp_659281_String_coder D I P659276 F659277 qs659278 qb659279 bs659280) gNA := by
  refine CtA_ofF hl0 (by decide +kernel) (Nat.le_of_ble_eq_true rfl) ?_
  refine G_gets dr_cJ0_coder_7d493_0 wr_3_65 gz_cs (fun x hx => ?_)
  subst hx
  refine G_if_eq 13 dr_cJ0_coder_7d493_3 (by decide +kernel) (fun hc => absurd hc (by decide)) (fun _ => ?_)
  refine G_aload_n 0 dr_cJ0_coder_7d493_6 rfl ?_
  refine G_kget dr_cJ0_coder_7d493_7 wr_8_183 (fun _ _ _ h => (hbs659280 _ _ _ h).2.1) ?_
  refine G_goto 14 dr_cJ0_coder_7d493_10 (by decide +kernel) ?_
  exact G_zretA FieldType.byte dr_cJ0_coder_7d493_14 rfl rfl (Nat.le_of_ble_eq_true rfl) (Nat.le_of_ble_eq_true rfl) ⟨rfl, rfl, (Nat.le_of_ble_eq_true rfl), (Nat.le_of_ble_eq_true rfl)⟩
/- tr_RString_length2: result -/
def tr_RString_length2 (bs : List Int32) (o1 : Int32) : Prop := ∀ R : (Int32) → Prop,
  (∀ (x1 : Int32) (x2 : Int32), x1.toInt = (bs.length : Int) → x2.toInt = x1.toInt / 1 → R x2) →
  R o1
abbrev ky_659274_String_length : gKey := (cJ0_length_8abf5, 1, "java/lang/String", (some FieldType.int), [], "length", fun _ _ => True)
def pp_659274_String_length (D : va_G) (I : FieldType → ClassId) (P659269 : List Nat) (F659270 : Nat → va_E) (qs659271 : Nat) (qb659272 : Nat) (bs659273 : List Int32) : Option Value → va_W → Nat → Nat → Prop := fun r w dc ds => ∃ (o659288 : Int32), r = some (.int o659288) ∧ w = va_pl P659269 F659270 ∧ dc ≤ 0 ∧ ds ≤ 0 ∧ gB o659288 0 65535 ∧ o659288.toInt = (bs659273.length : Int) ∧ tr_RString_length2 bs659273 o659288
set_option maxRecDepth 100000 in
set_option maxHeartbeats 4000000 in
theorem cp_659274_String_length (l : Launch) (hl0 : l.stackTraces = false) (D : va_G) (I : FieldType → ClassId) (P659269 : List Nat) (F659270 : Nat → va_E) (qs659271 : Nat) (qb659272 : Nat) (bs659273 : List Int32) (hbs659273 : ∀ A s H, (gV D I).2.2.2.1 A s H → gSC qs659271 qb659272 bs659273 A s H) (nbs659273 : (bs659273.length : Int) ≤ 65535) (lbs659273 : gLB bs659273) : CtA (gV D I) l yJ0_length_8abf5 cJ0_length_8abf5 1 (some FieldType.int) 1 20 0 0 [.ref qs659271] (va_pl P659269 F659270) (pp_659274_String_length D I P659269 F659270 qs659271 qb659272 bs659273) gNA := by
  refine CtA_ofF hl0 (by decide +kernel) (Nat.le_of_ble_eq_true rfl) ?_
  refine G_aload_n 0 dr_cJ0_length_8abf5_0 rfl ?_
  refine G_kget dr_cJ0_length_8abf5_1 wr_8_182 (fun _ _ _ h => (hbs659273 _ _ _ h).2.2.1) ?_
  refine G_klen dr_cJ0_length_8abf5_4 (fun _ _ _ h => (hbs659273 _ _ _ h).2.2.2) (G_nam fun z659275 hz659275 => ?_)
  have ez659275 : z659275.toInt = (bs659273.length : Int) := gI_ofN hz659275 (by omega)
  have bz659275 : gB z659275 0 65535 := ⟨by omega, by omega⟩
  refine G_aload_n 0 dr_cJ0_length_8abf5_5 rfl ?_
  refine Gw_callVk (As := []) (gV_ok D I) (cp_659281_String_coder l hl0 D I P659269 F659270 qs659271 qb659272 bs659273 hbs659273 nbs659273 lbs659273) dr_cJ0_length_8abf5_6 ⟨wr_3_61, wr_1_21, wr_3_64, by decide, rfl, (Nat.le_of_ble_eq_true rfl), (Nat.le_of_ble_eq_true rfl)⟩ wr_3_62 wr_3_63 (fun _ _ _ h => (hbs659273 _ _ _ h).1) (show 0 + 0 ≤ 0 by first | omega | decide) (show 0 + 0 ≤ 0 by first | omega | decide) (Nat.le_of_ble_eq_true rfl) (fun r659285 w659286 dc659282 ds659283 hp659284 => ?_) (fun _ _ _ _ _ z => z.elim)
  obtain ⟨rfl, rfl, hdc, hds⟩ := hp659284
  change G _ _ _ _ _ _ _ (.int 0 :: _) _ _ _
  refine G_widen (cs' := 0) (sl' := 0) (by omega) (by omega) ?_
  refine G_ishr dr_cJ0_length_8abf5_9 (G_nam fun z659287 hz659287 => ?_)
  have ez659287 : z659287.toInt = z659275.toInt / 1 := gI_shr (k := 0) hz659287 (by decide)
  have bz659287 : gB z659287 0 65535 := ⟨by omega, by omega⟩
  exact G_iretA dr_cJ0_length_8abf5_10 rfl (Nat.le_of_ble_eq_true rfl) (Nat.le_of_ble_eq_true rfl) ⟨z659287, rfl, rfl, (Nat.le_of_ble_eq_true rfl), (Nat.le_of_ble_eq_true rfl), bz659287, (by omega), (fun R c1 => c1 z659275 z659287 ez659275 ez659287)⟩
abbrev ky_659331_AbstractStringBuilder_inflateIfNeededFor : gKey := (cJ5_inflateIfNeededFor_a7421, 2, "java/lang/AbstractStringBuilder", none, [], "inflateIfNeededFor", fun _ _ => True)
def pp_659331_AbstractStringBuilder_inflateIfNeededFor (D : va_G) (I : FieldType → ClassId) (P659319 : List Nat) (F659320 : Nat → va_E) (q659321 : Nat) (q659322 : Nat) (qs659323 : Nat) (qb659324 : Nat) (bs659325 : List Int32) (p659326 : Int32) (p659327 : Int32) (f659328 : Nat → Int32) (n659329 : Nat) : Option Value → va_W → Nat → Nat → Prop := fun r w dc ds => r = none ∧ w = va_pl P659319 F659320 ∧ dc ≤ 0 ∧ ds ≤ 0
set_option maxRecDepth 100000 in
set_option maxHeartbeats 4000000 in
theorem cp_659331_AbstractStringBuilder_inflateIfNeededFor (l : Launch) (hl0 : l.stackTraces = false) (D : va_G) (I : FieldType → ClassId) (P659319 : List Nat) (F659320 : Nat → va_E) (q659321 : Nat) (q659322 : Nat) (qs659323 : Nat) (qb659324 : Nat) (bs659325 : List Int32) (p659326 : Int32) (p659327 : Int32) (f659328 : Nat → Int32) (n659329 : Nat) (hmq659321 : q659321 ∈ P659319) (hmq659322 : q659322 ∈ P659319) (heq659321 : F659320 q659321 = .inr (1, [.ref q659322, .int 0, .int p659326, .int p659327])) (heq659322 : F659320 q659322 = .inl (I .byte, n659329, .inl f659328)) (hbs659325 : ∀ A s H, (gV D I).2.2.2.1 A s H → gSC qs659323 qb659324 bs659325 A s H) (nbs659325 : (bs659325.length : Int) ≤ 65535) (lbs659325 : gLB bs659325) (bp659326 : gB p659326 0 1) (bp659327 : gB p659327 0 16777216) (bf659328 : gF f659328 (-128) 127) (x659330 : ((n659329 : Int) ≤ 16777216)) : CtA (gV D I) l yJ5_inflateIfNeededFor_a7421 cJ5_inflateIfNeededFor_a7421 2 none 1 20 0 0 [.ref q659321, .ref qs659323] (va_pl P659319 F659320) (pp_659331_AbstractStringBuilder_inflateIfNeededFor D I P659319 F659320 q659321 q659322 qs659323 qb659324 bs659325 p659326 p659327 f659328 n659329) gNA := by
  refine CtA_ofF hl0 (by decide +kernel) (Nat.le_of_ble_eq_true rfl) ?_
  refine G_gets dr_cJ5_inflateIfNeededFor_a7421_0 wr_7_52 gz_cs (fun x hx => ?_)
  subst hx
  refine G_if_eq 21 dr_cJ5_inflateIfNeededFor_a7421_3 (by decide +kernel) (fun hc => absurd hc (by decide)) (fun _ => ?_)
  refine G_aload_n 0 dr_cJ5_inflateIfNeededFor_a7421_6 rfl ?_
  refine Gp_get 1 hmq659321 heq659321 dr_cJ5_inflateIfNeededFor_a7421_7 (gk_J4 D I) (Nat.le_of_ble_eq_true rfl) wr_7_61 rfl ?_
  refine G_aload_n 1 dr_cJ5_inflateIfNeededFor_a7421_10 rfl ?_
  refine Gw_callVk (As := []) (gV_ok D I) (cp_659281_String_coder l hl0 D I P659319 F659320 qs659323 qb659324 bs659325 hbs659325 nbs659325 lbs659325) dr_cJ5_inflateIfNeededFor_a7421_11 ⟨wr_8_163, wr_1_21, wr_3_64, by decide, rfl, (Nat.le_of_ble_eq_true rfl), (Nat.le_of_ble_eq_true rfl)⟩ wr_3_62 wr_3_63 (fun _ _ _ h => (hbs659325 _ _ _ h).1) (show 0 + 0 ≤ 0 by first | omega | decide) (show 0 + 0 ≤ 0 by first | omega | decide) (Nat.le_of_ble_eq_true rfl) (fun r659335 w659336 dc659332 ds659333 hp659334 => ?_) (fun _ _ _ _ _ z => z.elim)
  obtain ⟨rfl, rfl, hdc, hds⟩ := hp659334
  change G _ _ _ _ _ _ _ (.int 0 :: _) _ _ _
  refine G_widen (cs' := 0) (sl' := 0) (by omega) (by omega) ?_
  refine G_icmp_eq 21 dr_cJ5_inflateIfNeededFor_a7421_14 (by decide +kernel) (fun _ => ?_) (fun hc => absurd hc (by decide))
  exact G_vretA dr_cJ5_inflateIfNeededFor_a7421_21 rfl (Nat.le_of_ble_eq_true rfl) (Nat.le_of_ble_eq_true rfl) ⟨rfl, rfl, (Nat.le_of_ble_eq_true rfl), (Nat.le_of_ble_eq_true rfl)⟩
/- tr_RString_getBytes2: a.1.[] -/
def tr_RString_getBytes2 (bs : List Int32) (a2 : Int32) (a1_v : Nat → Int32) (o1 : Nat → Int32) : Prop := ∀ R : (Nat → Int32) → Prop,
  (∀ (x1 : Int32) (x2 : Int32) (x3 : Nat → Int32), x1.toInt = a2.toInt * 1 → x2.toInt = (bs.length : Int) → (x3 = va_cpy (fun j => bs.getD j 0) a1_v (0 : Int32).toNatClampNeg x1.toNatClampNeg x2.toNatClampNeg) → R x3) →
  R o1
abbrev ky_659353_String_getBytes : gKey := (cJ0_getBytes_840e7, 4, "java/lang/String", none, [], "getBytes", fun _ _ => True)
def pp_659353_String_getBytes (D : va_G) (I : FieldType → ClassId) (P659342 : List Nat) (F659343 : Nat → va_E) (q659344 : Nat) (qs659345 : Nat) (qb659346 : Nat) (bs659347 : List Int32) (p659348 : Int32) (f659349 : Nat → Int32) (n659350 : Nat) : Option Value → va_W → Nat → Nat → Prop := fun r w dc ds => ∃ (F659369 : Nat → va_E) (f659367 : Nat → Int32), r = none ∧ w = va_pl P659342 F659369 ∧ rFr [q659344] P659342 F659343 F659369 ∧ F659369 q659344 = .inl (I .byte, n659350, .inl f659367) ∧ dc ≤ 0 ∧ ds ≤ 0 ∧ gF f659367 (-128) 127 ∧ sK f659349 f659367 p659348.toInt ∧ sF (fun j => bs659347.getD j 0) f659367 p659348.toInt (bs659347.length : Int) ∧ tr_RString_getBytes2 bs659347 p659348 f659349 f659367
set_option maxRecDepth 100000 in
set_option maxHeartbeats 4000000 in
theorem cp_659353_String_getBytes (l : Launch) (hl0 : l.stackTraces = false) (D : va_G) (I : FieldType → ClassId) (P659342 : List Nat) (F659343 : Nat → va_E) (q659344 : Nat) (qs659345 : Nat) (qb659346 : Nat) (bs659347 : List Int32) (p659348 : Int32) (f659349 : Nat → Int32) (n659350 : Nat) (hmq659344 : q659344 ∈ P659342) (heq659344 : F659343 q659344 = .inl (I .byte, n659350, .inl f659349)) (hbs659347 : ∀ A s H, (gV D I).2.2.2.1 A s H → gSC qs659345 qb659346 bs659347 A s H) (nbs659347 : (bs659347.length : Int) ≤ 65535) (lbs659347 : gLB bs659347) (bp659348 : gB p659348 0 16777216) (bf659349 : gF f659349 (-128) 127) (x659351 : p659348.toInt + (bs659347.length : Int) ≤ (n659350 : Int)) (x659352 : ((n659350 : Int) ≤ 16777216)) : CtA (gV D I) l yJ0_getBytes_840e7 cJ0_getBytes_840e7 4 none 1 20 0 0 [.ref qs659345, .ref q659344, .int p659348, .int 0] (va_pl P659342 F659343) (pp_659353_String_getBytes D I P659342 F659343 q659344 qs659345 qb659346 bs659347 p659348 f659349 n659350) gNA := by
  refine CtA_ofF hl0 (by decide +kernel) (Nat.le_of_ble_eq_true rfl) ?_
  refine G_aload_n 0 dr_cJ0_getBytes_840e7_0 rfl ?_
  refine Gw_callVk (As := []) (gV_ok D I) (cp_659281_String_coder l hl0 D I P659342 F659343 qs659345 qb659346 bs659347 hbs659347 nbs659347 lbs659347) dr_cJ0_getBytes_840e7_1 ⟨wr_3_61, wr_1_21, wr_3_64, by decide, rfl, (Nat.le_of_ble_eq_true rfl), (Nat.le_of_ble_eq_true rfl)⟩ wr_3_62 wr_3_63 (fun _ _ _ h => (hbs659347 _ _ _ h).1) (show 0 + 0 ≤ 0 by first | omega | decide) (show 0 + 0 ≤ 0 by first | omega | decide) (Nat.le_of_ble_eq_true rfl) (fun r659357 w659358 dc659354 ds659355 hp659356 => ?_) (fun _ _ _ _ _ z => z.elim)
  obtain ⟨rfl, rfl, hdc, hds⟩ := hp659356
  change G _ _ _ _ _ _ _ (.int 0 :: _) _ _ _
  refine G_widen (cs' := 0) (sl' := 0) (by omega) (by omega) ?_
  refine G_iload_n 3 dr_cJ0_getBytes_840e7_4 rfl ?_
  refine G_icmp_ne 28 dr_cJ0_getBytes_840e7_5 (by decide +kernel) (fun hc => absurd hc (by decide)) (fun _ => ?_)
  refine G_aload_n 0 dr_cJ0_getBytes_840e7_8 rfl ?_
  refine G_kget dr_cJ0_getBytes_840e7_9 wr_8_182 (fun _ _ _ h => (hbs659347 _ _ _ h).2.2.1) ?_
  refine G_iconst 0 dr_cJ0_getBytes_840e7_12 (by decide +kernel) ?_
  refine G_aload_n 1 dr_cJ0_getBytes_840e7_13 rfl ?_
  refine G_iload_n 2 dr_cJ0_getBytes_840e7_14 rfl ?_
  refine G_iload_n 3 dr_cJ0_getBytes_840e7_15 rfl ?_
  refine G_ishl dr_cJ0_getBytes_840e7_16 (G_nam fun z659359 hz659359 => ?_)
  have ez659359 : z659359.toInt = p659348.toInt * 1 := gI_shl (k := 0) hz659359 (by decide) bp659348 (by decide) (by decide)
  have bz659359 : gB z659359 0 16777216 := ⟨by omega, by omega⟩
  refine G_aload_n 0 dr_cJ0_getBytes_840e7_17 rfl ?_
  refine G_kget dr_cJ0_getBytes_840e7_18 wr_8_182 (fun _ _ _ h => (hbs659347 _ _ _ h).2.2.1) ?_
  refine G_klen dr_cJ0_getBytes_840e7_21 (fun _ _ _ h => (hbs659347 _ _ _ h).2.2.2) (G_nam fun z659360 hz659360 => ?_)
  have ez659360 : z659360.toInt = (bs659347.length : Int) := gI_ofN hz659360 (by omega)
  have bz659360 : gB z659360 0 65535 := ⟨by omega, by omega⟩
  refine Gp_copyK 1 (fun _ _ _ h => (hbs659347 _ _ _ h).2.2.2) hmq659344 heq659344 dr_cJ0_getBytes_840e7_22 wr_8_168 wr_5_113 wr_5_112 wr_1_34 rfl (gF_lst lbs659347) (by decide) (by omega) (by omega) (by have qa0 : Int32.toInt 0 = 0 := (by decide); omega) (by have qa0 : Int32.toInt 0 = 0 := (by decide); omega) (Nat.le_of_ble_eq_true rfl) (Nat.le_of_ble_eq_true rfl) (fun F659361 e659362 n659363 => ?_)
  obtain ⟨f659364, hf659364⟩ : ∃ z, z = va_cpy (fun j => bs659347.getD j 0) f659349 (0 : Int32).toNatClampNeg z659359.toNatClampNeg z659360.toNatClampNeg := ⟨_, rfl⟩
  rw [← hf659364] at e659362
  have bf659364 : gF f659364 (-128) 127 := gF_cpy hf659364 (gF_lst lbs659347) bf659349
  have he659365 : F659361 q659344 = .inl (I .byte, n659350, .inl f659364) := e659362
  have hfr659366 : rFr [q659344] P659342 F659343 F659361 := rFr_put (rFr_rf (W := []) (P := P659342) (F := F659343)) n659363
  refine G_goto 43 dr_cJ0_getBytes_840e7_25 (by decide +kernel) ?_
  exact G_vretA dr_cJ0_getBytes_840e7_43 rfl (Nat.le_of_ble_eq_true rfl) (Nat.le_of_ble_eq_true rfl) ⟨F659361, f659364, rfl, rfl, hfr659366, he659365, (Nat.le_of_ble_eq_true rfl), (Nat.le_of_ble_eq_true rfl), bf659364, (sK_cpy hf659364 (by omega)), (sF_cpy hf659364 (by decide) (by omega) (by omega)), (fun R c1 => c1 z659359 z659360 f659364 ez659359 ez659360 hf659364)⟩
/- tr_RAbstractStringBuilder_putStringAt2: a.0.value.[] -/
def tr_RAbstractStringBuilder_putStringAt2 (a1 : Int32) (bs : List Int32) (a0_value_v : Nat → Int32) (o1 : Nat → Int32) : Prop := ∀ R : (Nat → Int32) → Prop,
  (∀ (x1 : Nat → Int32), tr_RString_getBytes2 bs a1 a0_value_v x1 → R x1) →
  R o1
abbrev ky_659318_AbstractStringBuilder_putStringAt : gKey := (cJ5_putStringAt_47b60, 3, "java/lang/AbstractStringBuilder", none, [], "putStringAt", fun _ _ => True)
def pp_659318_AbstractStringBuilder_putStringAt (D : va_G) (I : FieldType → ClassId) (P659304 : List Nat) (F659305 : Nat → va_E) (q659306 : Nat) (q659307 : Nat) (p659308 : Int32) (qs659309 : Nat) (qb659310 : Nat) (bs659311 : List Int32) (p659312 : Int32) (p659313 : Int32) (f659314 : Nat → Int32) (n659315 : Nat) : Option Value → va_W → Nat → Nat → Prop := fun r w dc ds => ∃ (F659387 : Nat → va_E) (f659385 : Nat → Int32), r = none ∧ w = va_pl P659304 F659387 ∧ rFr [q659307] P659304 F659305 F659387 ∧ F659387 q659306 = .inr (1, [.ref q659307, .int 0, .int p659312, .int p659313]) ∧ F659387 q659307 = .inl (I .byte, n659315, .inl f659385) ∧ dc ≤ 0 ∧ ds ≤ 0 ∧ gF f659385 (-128) 127 ∧ sK f659314 f659385 p659308.toInt ∧ sF (fun j => bs659311.getD j 0) f659385 p659308.toInt (bs659311.length : Int) ∧ tr_RAbstractStringBuilder_putStringAt2 p659308 bs659311 f659314 f659385
set_option maxRecDepth 100000 in
set_option maxHeartbeats 4000000 in
theorem cp_659318_AbstractStringBuilder_putStringAt (l : Launch) (hl0 : l.stackTraces = false) (D : va_G) (I : FieldType → ClassId) (P659304 : List Nat) (F659305 : Nat → va_E) (q659306 : Nat) (q659307 : Nat) (p659308 : Int32) (qs659309 : Nat) (qb659310 : Nat) (bs659311 : List Int32) (p659312 : Int32) (p659313 : Int32) (f659314 : Nat → Int32) (n659315 : Nat) (hmq659306 : q659306 ∈ P659304) (hmq659307 : q659307 ∈ P659304) (heq659306 : F659305 q659306 = .inr (1, [.ref q659307, .int 0, .int p659312, .int p659313])) (heq659307 : F659305 q659307 = .inl (I .byte, n659315, .inl f659314)) (hbs659311 : ∀ A s H, (gV D I).2.2.2.1 A s H → gSC qs659309 qb659310 bs659311 A s H) (nbs659311 : (bs659311.length : Int) ≤ 65535) (lbs659311 : gLB bs659311) (bp659308 : gB p659308 0 16777216) (bp659312 : gB p659312 0 1) (bp659313 : gB p659313 0 16777216) (bf659314 : gF f659314 (-128) 127) (x659316 : p659308.toInt + (bs659311.length : Int) ≤ (n659315 : Int)) (x659317 : ((n659315 : Int) ≤ 16777216)) : CtA (gV D I) l yJ5_putStringAt_47b60 cJ5_putStringAt_47b60 3 none 2 43 0 0 [.ref q659306, .int p659308, .ref qs659309] (va_pl P659304 F659305) (pp_659318_AbstractStringBuilder_putStringAt D I P659304 F659305 q659306 q659307 p659308 qs659309 qb659310 bs659311 p659312 p659313 f659314 n659315) gNA := by
  refine CtA_ofF hl0 (by decide +kernel) (Nat.le_of_ble_eq_true rfl) ?_
  refine G_aload_n 0 dr_cJ5_putStringAt_47b60_0 rfl ?_
  refine G_aload_n 2 dr_cJ5_putStringAt_47b60_1 rfl ?_
  refine Gw_callVB (As := [.ref qs659309]) (gV_ok D I) (cp_659331_AbstractStringBuilder_inflateIfNeededFor l hl0 D I P659304 F659305 q659306 q659307 qs659309 qb659310 bs659311 p659312 p659313 f659314 n659315 hmq659306 hmq659307 heq659306 heq659307 hbs659311 nbs659311 lbs659311 bp659312 bp659313 bf659314 (by have qa0 : Int32.toInt 0 = 0 := (by decide); omega)) dr_cJ5_putStringAt_47b60_2 ⟨wr_8_159, wr_1_19, wr_8_162, by decide, rfl, (Nat.le_of_ble_eq_true rfl), (Nat.le_of_ble_eq_true rfl)⟩ wr_8_161 wr_s_5 hmq659306 heq659306 rfl (show 0 + 0 ≤ 0 by first | omega | decide) (show 0 + 0 ≤ 0 by first | omega | decide) (Nat.le_of_ble_eq_true rfl) (fun r659340 w659341 dc659337 ds659338 hp659339 => ?_) (fun _ _ _ _ _ z => z.elim)
  obtain ⟨rfl, rfl, hdc, hds⟩ := hp659339
  change G _ _ _ _ _ _ _ _ _ _ _
  refine G_widen (cs' := 0) (sl' := 0) (by omega) (by omega) ?_
  refine G_aload_n 2 dr_cJ5_putStringAt_47b60_5 rfl ?_
  refine G_aload_n 0 dr_cJ5_putStringAt_47b60_6 rfl ?_
  refine Gp_get 0 hmq659306 heq659306 dr_cJ5_putStringAt_47b60_7 (gk_J4 D I) (Nat.le_of_ble_eq_true rfl) wr_7_60 rfl ?_
  refine G_iload_n 1 dr_cJ5_putStringAt_47b60_10 rfl ?_
  refine G_aload_n 0 dr_cJ5_putStringAt_47b60_11 rfl ?_
  refine Gp_get 1 hmq659306 heq659306 dr_cJ5_putStringAt_47b60_12 (gk_J4 D I) (Nat.le_of_ble_eq_true rfl) wr_7_61 rfl ?_
  refine Gw_callVk (As := [.ref q659307, .int p659308, .int 0]) (gV_ok D I) (cp_659353_String_getBytes l hl0 D I P659304 F659305 q659307 qs659309 qb659310 bs659311 p659308 f659314 n659315 hmq659307 heq659307 hbs659311 nbs659311 lbs659311 bp659308 bf659314 (by have qa0 : Int32.toInt 0 = 0 := (by decide); omega) (by have qa0 : Int32.toInt 0 = 0 := (by decide); omega)) dr_cJ5_putStringAt_47b60_15 ⟨wr_8_164, wr_1_21, wr_8_167, by decide, rfl, (Nat.le_of_ble_eq_true rfl), (Nat.le_of_ble_eq_true rfl)⟩ wr_8_165 wr_8_166 (fun _ _ _ h => (hbs659311 _ _ _ h).1) (show 0 + 0 ≤ 0 by first | omega | decide) (show 0 + 0 ≤ 0 by first | omega | decide) (Nat.le_of_ble_eq_true rfl) (fun r659373 w659374 dc659370 ds659371 hp659372 => ?_) (fun _ _ _ _ _ z => z.elim)
  obtain ⟨F659379, f659375, rfl, rfl, hfr659381, he659382, hdc, hds, bf659375, x659376, x659377, ht659378⟩ := hp659372
  have he659383 : F659379 q659306 = .inr (1, [.ref q659307, .int 0, .int p659312, .int p659313]) := (hfr659381 q659306 hmq659306 (nm_c (rn_oa heq659306 heq659307) nm_n)).trans heq659306
  have hfr659384 : rFr [q659307] P659304 F659305 F659379 := rFr_call (rSub_rf (P := P659304)) (rFr_rf (W := []) (P := P659304) (F := F659305)) hfr659381 (fun b hb hn => ⟨nm_n, (nm_c (fun e => hn (e ▸ List.mem_cons_self)) nm_n)⟩)
  change G _ _ _ _ _ _ _ _ _ _ _
  refine G_widen (cs' := 0) (sl' := 0) (by omega) (by omega) ?_
  exact G_vretA dr_cJ5_putStringAt_47b60_18 rfl (Nat.le_of_ble_eq_true rfl) (Nat.le_of_ble_eq_true rfl) ⟨F659379, f659375, rfl, rfl, hfr659384, he659383, he659382, (Nat.le_of_ble_eq_true rfl), (Nat.le_of_ble_eq_true rfl), bf659375, (sK_c x659376 (by omega)), (by assumption), (fun R c1 => c1 f659375 ht659378)⟩
/- tr_RAbstractStringBuilder_append4: a.0...count, a.0.value.[] -/
def tr_RAbstractStringBuilder_append4 (bs : List Int32) (a0_count : Int32) (a0_value_v : Nat → Int32) (a0_value_n : Nat) (o1 : Int32) (o2 : Nat → Int32) : Prop := ∀ R : (Int32) → (Nat → Int32) → Prop,
  (∀ (x1 : Int32) (x2 : Int32) (x3 : Nat → Int32) (x4 : Int32), gB x1 0 65535 → tr_RString_length2 bs x1 → x2.toInt = a0_count.toInt + x1.toInt → tr_RAbstractStringBuilder_ensureCapacityInternal x2 a0_value_n → tr_RAbstractStringBuilder_putStringAt2 a0_count bs a0_value_v x3 → x4.toInt = a0_count.toInt + x1.toInt → R x4 x3) →
  R o1 o2
abbrev ky_659268_AbstractStringBuilder_append : gKey := (cJ5_append_cf1ce, 3, "java/lang/AbstractStringBuilder", (some (FieldType.object "java/lang/AbstractStringBuilder")), [], "append", fun _ _ => True)
def pp_659268_AbstractStringBuilder_append (D : va_G) (I : FieldType → ClassId) (P659255 : List Nat) (F659256 : Nat → va_E) (q659257 : Nat) (q659258 : Nat) (qs659259 : Nat) (qb659260 : Nat) (bs659261 : List Int32) (p659262 : Int32) (p659263 : Int32) (f659264 : Nat → Int32) (n659265 : Nat) : Option Value → va_W → Nat → Nat → Prop := fun r w dc ds => ∃ (F659413 : Nat → va_E) (o659410 : Int32) (f659411 : Nat → Int32), r = some (.ref q659257) ∧ w = va_pl P659255 F659413 ∧ rFr [q659257, q659258] P659255 F659256 F659413 ∧ F659413 q659257 = .inr (1, [.ref q659258, .int 0, .int p659262, .int o659410]) ∧ F659413 q659258 = .inl (I .byte, n659265, .inl f659411) ∧ dc ≤ 0 ∧ ds ≤ 0 ∧ gB o659410 0 16777216 ∧ gF f659411 (-128) 127 ∧ o659410.toInt = p659263.toInt + (bs659261.length : Int) ∧ sK f659264 f659411 p659263.toInt ∧ sF (fun j => bs659261.getD j 0) f659411 p659263.toInt (bs659261.length : Int) ∧ tr_RAbstractStringBuilder_append4 bs659261 p659263 f659264 n659265 o659410 f659411
set_option maxRecDepth 100000 in
set_option maxHeartbeats 4000000 in
theorem cp_659268_AbstractStringBuilder_append (l : Launch) (hl0 : l.stackTraces = false) (D : va_G) (I : FieldType → ClassId) (P659255 : List Nat) (F659256 : Nat → va_E) (q659257 : Nat) (q659258 : Nat) (qs659259 : Nat) (qb659260 : Nat) (bs659261 : List Int32) (p659262 : Int32) (p659263 : Int32) (f659264 : Nat → Int32) (n659265 : Nat) (hmq659257 : q659257 ∈ P659255) (hmq659258 : q659258 ∈ P659255) (heq659257 : F659256 q659257 = .inr (1, [.ref q659258, .int 0, .int p659262, .int p659263])) (heq659258 : F659256 q659258 = .inl (I .byte, n659265, .inl f659264)) (hbs659261 : ∀ A s H, (gV D I).2.2.2.1 A s H → gSC qs659259 qb659260 bs659261 A s H) (nbs659261 : (bs659261.length : Int) ≤ 65535) (lbs659261 : gLB bs659261) (bp659262 : gB p659262 0 1) (bp659263 : gB p659263 0 16777216) (bf659264 : gF f659264 (-128) 127) (x659266 : p659263.toInt + (bs659261.length : Int) ≤ (n659265 : Int)) (x659267 : ((n659265 : Int) ≤ 16777216)) : CtA (gV D I) l yJ5_append_cf1ce cJ5_append_cf1ce 3 (some (FieldType.object "java/lang/AbstractStringBuilder")) 3 65 0 0 [.ref q659257, .ref qs659259] (va_pl P659255 F659256) (pp_659268_AbstractStringBuilder_append D I P659255 F659256 q659257 q659258 qs659259 qb659260 bs659261 p659262 p659263 f659264 n659265) gNA := by
  refine CtA_ofF hl0 (by decide +kernel) (Nat.le_of_ble_eq_true rfl) ?_
  refine G_aload_n 1 dr_cJ5_append_cf1ce_0 rfl ?_
  refine G_ifnonnull 9 dr_cJ5_append_cf1ce_1 (by decide +kernel) ?_
  refine G_aload_n 1 dr_cJ5_append_cf1ce_9 rfl ?_
  refine Gw_callVk (As := []) (gV_ok D I) (cp_659274_String_length l hl0 D I P659255 F659256 qs659259 qb659260 bs659261 hbs659261 nbs659261 lbs659261) dr_cJ5_append_cf1ce_10 ⟨wr_8_154, wr_1_21, wr_3_60, by decide, rfl, (Nat.le_of_ble_eq_true rfl), (Nat.le_of_ble_eq_true rfl)⟩ wr_3_58 wr_3_59 (fun _ _ _ h => (hbs659261 _ _ _ h).1) (show 0 + 0 ≤ 0 by first | omega | decide) (show 0 + 0 ≤ 0 by first | omega | decide) (Nat.le_of_ble_eq_true rfl) (fun r659292 w659293 dc659289 ds659290 hp659291 => ?_) (fun _ _ _ _ _ z => z.elim)
  obtain ⟨o659294, rfl, rfl, hdc, hds, bo659294, x659295, ht659296⟩ := hp659291
  change G _ _ _ _ _ _ _ (.int o659294 :: _) _ _ _
  refine G_widen (cs' := 0) (sl' := 0) (by omega) (by omega) ?_
  refine G_istore_n (L' := [(2, .int o659294), (0, .ref q659257), (1, .ref qs659259)]) dr_cJ5_append_cf1ce_13 (Nat.le_of_ble_eq_true rfl) rfl ?_
  refine G_aload_n 1 dr_cJ5_append_cf1ce_14 rfl ?_
  refine G_aload_n 1 dr_cJ5_append_cf1ce_15 rfl ?_
  refine Gp_get 3 hmq659257 heq659257 dr_cJ5_append_cf1ce_16 (gk_J4 D I) (Nat.le_of_ble_eq_true rfl) wr_7_64 rfl ?_
  refine G_iload_n 0 dr_cJ5_append_cf1ce_19 rfl ?_
  refine G_iadd dr_cJ5_append_cf1ce_20 (G_nam fun z659297 hz659297 => ?_)
  have ez659297 : z659297.toInt = p659263.toInt + o659294.toInt := by rw [gI_add hz659297 bp659263 bo659294 (by decide) (by decide)]
  have bz659297 : gB z659297 0 16842751 := gB_add (gI_add hz659297 bp659263 bo659294 (by decide) (by decide)) bp659263 bo659294 (by decide) (by decide)
  refine Gw_callVB (As := [.int z659297]) (gV_ok D I) (cp_658538_AbstractStringBuilder_ensureCapacityInternal l hl0 D I P659255 F659256 q659257 q659258 z659297 p659262 p659263 f659264 n659265 hmq659257 hmq659258 heq659257 heq659258 ⟨by omega, by omega⟩ bp659262 bp659263 bf659264 (by have qa0 : Int32.toInt 0 = 0 := (by decide); omega) (by have qa0 : Int32.toInt 0 = 0 := (by decide); omega)) dr_cJ5_append_cf1ce_21 ⟨wr_8_4, wr_1_19, wr_8_7, by decide, rfl, (Nat.le_of_ble_eq_true rfl), (Nat.le_of_ble_eq_true rfl)⟩ wr_8_6 wr_s_0 hmq659257 heq659257 rfl (show 0 + 0 ≤ 0 by first | omega | decide) (show 0 + 0 ≤ 0 by first | omega | decide) (Nat.le_of_ble_eq_true rfl) (fun r659301 w659302 dc659298 ds659299 hp659300 => ?_) (fun _ _ _ _ _ z => z.elim)
  obtain ⟨rfl, rfl, hdc, hds, ht659303⟩ := hp659300
  change G _ _ _ _ _ _ _ _ _ _ _
  refine G_widen (cs' := 0) (sl' := 0) (by omega) (by omega) ?_
  refine G_aload_n 1 dr_cJ5_append_cf1ce_24 rfl ?_
  refine G_aload_n 1 dr_cJ5_append_cf1ce_25 rfl ?_
  refine Gp_get 3 hmq659257 heq659257 dr_cJ5_append_cf1ce_26 (gk_J4 D I) (Nat.le_of_ble_eq_true rfl) wr_7_64 rfl ?_
  refine G_aload_n 2 dr_cJ5_append_cf1ce_29 rfl ?_
  refine Gw_callVB (As := [.int p659263, .ref qs659259]) (gV_ok D I) (cp_659318_AbstractStringBuilder_putStringAt l hl0 D I P659255 F659256 q659257 q659258 p659263 qs659259 qb659260 bs659261 p659262 p659263 f659264 n659265 hmq659257 hmq659258 heq659257 heq659258 hbs659261 nbs659261 lbs659261 bp659263 bp659262 bp659263 bf659264 (by have qa0 : Int32.toInt 0 = 0 := (by decide); omega) (by have qa0 : Int32.toInt 0 = 0 := (by decide); omega)) dr_cJ5_append_cf1ce_30 ⟨wr_8_155, wr_1_19, wr_8_158, by decide, rfl, (Nat.le_of_ble_eq_true rfl), (Nat.le_of_ble_eq_true rfl)⟩ wr_8_157 wr_s_4 hmq659257 heq659257 rfl (show 0 + 0 ≤ 0 by first | omega | decide) (show 0 + 0 ≤ 0 by first | omega | decide) (Nat.le_of_ble_eq_true rfl) (fun r659391 w659392 dc659388 ds659389 hp659390 => ?_) (fun _ _ _ _ _ z => z.elim)
  obtain ⟨F659397, f659393, rfl, rfl, hfr659399, he659400, he659401, hdc, hds, bf659393, x659394, x659395, ht659396⟩ := hp659390
  have hfr659402 : rFr [q659258] P659255 F659256 F659397 := rFr_call (rSub_rf (P := P659255)) (rFr_rf (W := []) (P := P659255) (F := F659256)) hfr659399 (fun b hb hn => ⟨nm_n, (nm_c (fun e => hn (e ▸ List.mem_cons_self)) nm_n)⟩)
  change G _ _ _ _ _ _ _ _ _ _ _
  refine G_widen (cs' := 0) (sl' := 0) (by omega) (by omega) ?_
  refine G_aload_n 1 dr_cJ5_append_cf1ce_33 rfl ?_
  refine G_dup dr_cJ5_append_cf1ce_34 rfl ?_
  refine Gp_get 3 hmq659257 he659400 dr_cJ5_append_cf1ce_35 (gk_J4 D I) (Nat.le_of_ble_eq_true rfl) wr_7_64 rfl ?_
  refine G_iload_n 0 dr_cJ5_append_cf1ce_38 rfl ?_
  refine G_iadd dr_cJ5_append_cf1ce_39 (G_nam fun z659403 hz659403 => ?_)
  have ez659403 : z659403.toInt = p659263.toInt + o659294.toInt := by rw [gI_add hz659403 bp659263 bo659294 (by decide) (by decide)]
  have bz659403 : gB z659403 0 16842751 := gB_add (gI_add hz659403 bp659263 bo659294 (by decide) (by decide)) bp659263 bo659294 (by decide) (by decide)
  refine Gp_put 3 hmq659257 he659400 dr_cJ5_append_cf1ce_40 (gk_J4 D I) (Nat.le_of_ble_eq_true rfl) wr_7_64 rfl rfl rfl (Nat.le_of_ble_eq_true rfl) (fun F659404 e659405 n659406 => ?_)
  have he659407 : F659404 q659258 = .inl (I .byte, n659265, .inl f659393) := (n659406 q659258 (rn_ao he659401 he659400)).trans he659401
  have he659408 : F659404 q659257 = .inr (1, [.ref q659258, .int 0, .int p659262, .int z659403]) := e659405
  have hfr659409 : rFr [q659257, q659258] P659255 F659256 F659404 := rFr_put hfr659402 n659406
  refine G_aload_n 1 dr_cJ5_append_cf1ce_43 rfl ?_
  exact G_aretA (FieldType.object "java/lang/AbstractStringBuilder") dr_cJ5_append_cf1ce_44 rfl (by first | exact Or.inl ⟨_, rfl⟩ | exact Or.inr ⟨_, rfl⟩) (Or.inr ⟨_, rfl⟩) (Nat.le_of_ble_eq_true rfl) (Nat.le_of_ble_eq_true rfl) ⟨F659404, z659403, f659393, rfl, rfl, hfr659409, he659408, he659407, (Nat.le_of_ble_eq_true rfl), (Nat.le_of_ble_eq_true rfl), ⟨by omega, by omega⟩, bf659393, (by have qa0 : Int32.toInt 0 = 0 := (by decide); omega), (sK_c x659394 (by omega)), (by assumption), (fun R c1 => c1 o659294 z659297 f659393 z659403 bo659294 ht659296 ez659297 ht659303 ht659396 ez659403)⟩
/- tr_RStringBuilder_append4: a.0...count, a.0.value.[] -/
def tr_RStringBuilder_append4 (bs : List Int32) (a0_count : Int32) (a0_value_v : Nat → Int32) (a0_value_n : Nat) (o1 : Int32) (o2 : Nat → Int32) : Prop := ∀ R : (Int32) → (Nat → Int32) → Prop,
  (∀ (x1 : Int32) (x2 : Nat → Int32), gB x1 0 16777216 → tr_RAbstractStringBuilder_append4 bs a0_count a0_value_v a0_value_n x1 x2 → R x1 x2) →
  R o1 o2
abbrev ky_659254_StringBuilder_append : gKey := (cJ4_append_15ec4, 2, "java/lang/StringBuilder", (some (FieldType.object "java/lang/StringBuilder")), [], "append", fun _ _ => True)
def pp_659254_StringBuilder_append (D : va_G) (I : FieldType → ClassId) (P659241 : List Nat) (F659242 : Nat → va_E) (q659243 : Nat) (q659244 : Nat) (qs659245 : Nat) (qb659246 : Nat) (bs659247 : List Int32) (p659248 : Int32) (p659249 : Int32) (f659250 : Nat → Int32) (n659251 : Nat) : Option Value → va_W → Nat → Nat → Prop := fun r w dc ds => ∃ (F659434 : Nat → va_E) (o659431 : Int32) (f659432 : Nat → Int32), r = some (.ref q659243) ∧ w = va_pl P659241 F659434 ∧ rFr [q659243, q659244] P659241 F659242 F659434 ∧ F659434 q659243 = .inr (1, [.ref q659244, .int 0, .int p659248, .int o659431]) ∧ F659434 q659244 = .inl (I .byte, n659251, .inl f659432) ∧ dc ≤ 0 ∧ ds ≤ 0 ∧ gB o659431 0 16777216 ∧ gF f659432 (-128) 127 ∧ o659431.toInt = p659249.toInt + (bs659247.length : Int) ∧ sK f659250 f659432 p659249.toInt ∧ sF (fun j => bs659247.getD j 0) f659432 p659249.toInt (bs659247.length : Int) ∧ tr_RStringBuilder_append4 bs659247 p659249 f659250 n659251 o659431 f659432
set_option maxRecDepth 100000 in
set_option maxHeartbeats 4000000 in
theorem cp_659254_StringBuilder_append (l : Launch) (hl0 : l.stackTraces = false) (D : va_G) (I : FieldType → ClassId) (P659241 : List Nat) (F659242 : Nat → va_E) (q659243 : Nat) (q659244 : Nat) (qs659245 : Nat) (qb659246 : Nat) (bs659247 : List Int32) (p659248 : Int32) (p659249 : Int32) (f659250 : Nat → Int32) (n659251 : Nat) (hmq659243 : q659243 ∈ P659241) (hmq659244 : q659244 ∈ P659241) (heq659243 : F659242 q659243 = .inr (1, [.ref q659244, .int 0, .int p659248, .int p659249])) (heq659244 : F659242 q659244 = .inl (I .byte, n659251, .inl f659250)) (hbs659247 : ∀ A s H, (gV D I).2.2.2.1 A s H → gSC qs659245 qb659246 bs659247 A s H) (nbs659247 : (bs659247.length : Int) ≤ 65535) (lbs659247 : gLB bs659247) (bp659248 : gB p659248 0 1) (bp659249 : gB p659249 0 16777216) (bf659250 : gF f659250 (-128) 127) (x659252 : p659249.toInt + (bs659247.length : Int) ≤ (n659251 : Int)) (x659253 : ((n659251 : Int) ≤ 16777216)) : CtA (gV D I) l yJ4_append_15ec4 cJ4_append_15ec4 2 (some (FieldType.object "java/lang/StringBuilder")) 4 87 0 0 [.ref q659243, .ref qs659245] (va_pl P659241 F659242) (pp_659254_StringBuilder_append D I P659241 F659242 q659243 q659244 qs659245 qb659246 bs659247 p659248 p659249 f659250 n659251) gNA := by
  refine CtA_ofF hl0 (by decide +kernel) (Nat.le_of_ble_eq_true rfl) ?_
  refine G_aload_n 0 dr_cJ4_append_15ec4_0 rfl ?_
  refine G_aload_n 1 dr_cJ4_append_15ec4_1 rfl ?_
  refine Gw_callSU (As := [.ref qs659245]) (gV_ok D I) (cp_659268_AbstractStringBuilder_append l hl0 D I P659241 F659242 q659243 q659244 qs659245 qb659246 bs659247 p659248 p659249 f659250 n659251 hmq659243 hmq659244 heq659243 heq659244 hbs659247 nbs659247 lbs659247 bp659248 bp659249 bf659250 (by have qa0 : Int32.toInt 0 = 0 := (by decide); omega) (by have qa0 : Int32.toInt 0 = 0 := (by decide); omega)) dr_cJ4_append_15ec4_2 ⟨wr_8_144, wr_1_19, wr_8_146, by decide, rfl, (Nat.le_of_ble_eq_true rfl), (Nat.le_of_ble_eq_true rfl)⟩ wr_8_145 wr_11_229 wr_7_73 wr_7_44 (by decide) hmq659243 heq659243 rfl (show 0 + 0 ≤ 0 by first | omega | decide) (show 0 + 0 ≤ 0 by first | omega | decide) (Nat.le_of_ble_eq_true rfl) (fun r659417 w659418 dc659414 ds659415 hp659416 => ?_)
  obtain ⟨F659425, o659419, f659420, rfl, rfl, hfr659427, he659428, he659429, hdc, hds, bo659419, bf659420, x659421, x659422, x659423, ht659424⟩ := hp659416
  have hfr659430 : rFr [q659243, q659244] P659241 F659242 F659425 := rFr_call (rSub_rf (P := P659241)) (rFr_rf (W := []) (P := P659241) (F := F659242)) hfr659427 (fun b hb hn => ⟨nm_n, (nm_c (fun e => hn (e ▸ List.mem_cons_self)) (nm_c (fun e => hn (e ▸ (List.mem_cons_of_mem _ List.mem_cons_self))) nm_n))⟩)
  change G _ _ _ _ _ _ _ (.ref q659243 :: _) _ _ _
  refine G_widen (cs' := 0) (sl' := 0) (by omega) (by omega) ?_
  refine G_pop dr_cJ4_append_15ec4_5 rfl ?_
  refine G_aload_n 0 dr_cJ4_append_15ec4_6 rfl ?_
  exact G_aretA (FieldType.object "java/lang/StringBuilder") dr_cJ4_append_15ec4_7 rfl (by first | exact Or.inl ⟨_, rfl⟩ | exact Or.inr ⟨_, rfl⟩) (Or.inr ⟨_, rfl⟩) (Nat.le_of_ble_eq_true rfl) (Nat.le_of_ble_eq_true rfl) ⟨F659425, o659419, f659420, rfl, rfl, hfr659430, he659428, he659429, (Nat.le_of_ble_eq_true rfl), (Nat.le_of_ble_eq_true rfl), bo659419, bf659420, (by have qa0 : Int32.toInt 0 = 0 := (by decide); omega), (sK_c x659422 (by omega)), (by assumption), (fun R c1 => c1 o659419 f659420 bo659419 ht659424)⟩
/- tr_RAbstractStringBuilder_append5: a.0...count, a.0.value.#, a.0.value.[] -/
def tr_RAbstractStringBuilder_append5 (a0_count : Int32) (a0_value_v : Nat → Int32) (a0_value_n : Nat) (a1_value_v : Nat → Int32) (a1_value_n : Nat) (o1 : Int32) (o2 : Nat) (o3 : Nat → Int32) : Prop := ∀ R : (Int32) → (Nat) → (Nat → Int32) → Prop,
  (∀ (x1 : Int32) (x2 : Int32) (x3 : Nat) (x4 : Nat → Int32) (x5 : Nat → Int32) (x6 : Int32), gB x1 0 16777216 → tr_RString_length a1_value_n x1 → x2.toInt = a0_count.toInt + x1.toInt → tr_RAbstractStringBuilder_ensureCapacityInternal2 x2 a0_value_v a0_value_n x3 x4 → tr_RAbstractStringBuilder_putStringAt a0_count x4 a1_value_v a1_value_n x5 → x6.toInt = a0_count.toInt + x1.toInt → R x6 x3 x5) →
  R o1 o2 o3
abbrev ky_659474_AbstractStringBuilder_append : gKey := (cJ5_append_cf1ce, 3, "java/lang/AbstractStringBuilder", (some (FieldType.object "java/lang/AbstractStringBuilder")), [], "append", fun _ _ => True)
def pp_659474_AbstractStringBuilder_append (D : va_G) (I : FieldType → ClassId) (P659455 : List Nat) (F659456 : Nat → va_E) (q659457 : Nat) (q659458 : Nat) (q659459 : Nat) (q659460 : Nat) (p659461 : Int32) (p659462 : Int32) (p659463 : Int32) (p659464 : Int32) (f659465 : Nat → Int32) (n659466 : Nat) (f659467 : Nat → Int32) (n659468 : Nat) : Option Value → va_W → Nat → Nat → Prop := fun r w dc ds => ∃ (P659546 : List Nat) (F659547 : Nat → va_E) (o659542 : Int32) (q659543 : Nat) (n659544 : Nat) (f659545 : Nat → Int32), r = some (.ref q659457) ∧ w = va_pl P659546 F659547 ∧ rSub P659455 P659546 ∧ rFr [q659457, q659459] P659455 F659456 F659547 ∧ F659547 q659457 = .inr (1, [.ref q659543, .int 0, .int p659461, .int o659542]) ∧ F659547 q659458 = .inr (0, [.ref q659460, .int 0, .int p659463, .int p659464]) ∧ F659547 q659543 = .inl (I .byte, n659544, .inl f659545) ∧ F659547 q659460 = .inl (I .byte, n659468, .inl f659467) ∧ q659543 ∈ P659546 ∧ (q659543 = q659459 ∨ q659543 ∉ P659455) ∧ dc ≤ 1 ∧ ds ≤ 2 * (n659544 - n659466) ∧ gB o659542 0 16777216 ∧ gF f659545 (-128) 127 ∧ o659542.toInt = p659462.toInt + (n659468 : Int) ∧ o659542.toInt ≤ (n659544 : Int) ∧ (n659466 : Int) ≤ (n659544 : Int) ∧ (n659544 : Int) ≤ 2 * (n659466 : Int) + 2 + p659462.toInt + (n659468 : Int) ∧ ((n659544 : Int) = (n659466 : Int) ∨ (n659466 : Int) < o659542.toInt) ∧ tr_RAbstractStringBuilder_append5 p659462 f659465 n659466 f659467 n659468 o659542 n659544 f659545
set_option maxRecDepth 100000 in
set_option maxHeartbeats 4000000 in
theorem cp_659474_AbstractStringBuilder_append (l : Launch) (hl0 : l.stackTraces = false) (D : va_G) (I : FieldType → ClassId) (P659455 : List Nat) (F659456 : Nat → va_E) (q659457 : Nat) (q659458 : Nat) (q659459 : Nat) (q659460 : Nat) (p659461 : Int32) (p659462 : Int32) (p659463 : Int32) (p659464 : Int32) (f659465 : Nat → Int32) (n659466 : Nat) (f659467 : Nat → Int32) (n659468 : Nat) (hmq659457 : q659457 ∈ P659455) (hmq659458 : q659458 ∈ P659455) (hmq659459 : q659459 ∈ P659455) (hmq659460 : q659460 ∈ P659455) (heq659457 : F659456 q659457 = .inr (1, [.ref q659459, .int 0, .int p659461, .int p659462])) (heq659458 : F659456 q659458 = .inr (0, [.ref q659460, .int 0, .int p659463, .int p659464])) (heq659459 : F659456 q659459 = .inl (I .byte, n659466, .inl f659465)) (heq659460 : F659456 q659460 = .inl (I .byte, n659468, .inl f659467)) (hneq659459q659460 : q659459 ≠ q659460) (bp659461 : gB p659461 0 1) (bp659462 : gB p659462 0 16777216) (bp659464 : gB p659464 0 1) (bf659465 : gF f659465 (-128) 127) (bf659467 : gF f659467 (-128) 127) (x659469 : (n659468 : Int) ≤ 65535) (x659470 : (n659466 : Int) ≤ 8388608 - 100000) (x659471 : p659462.toInt ≤ (n659466 : Int)) (x659472 : ((n659466 : Int) ≤ 16777216)) (x659473 : ((n659468 : Int) ≤ 16777216)) : CtA (gV D I) l yJ5_append_cf1ce cJ5_append_cf1ce 3 (some (FieldType.object "java/lang/AbstractStringBuilder")) 4 84 1 (4 * n659466 + 4 + 2 * n659468) [.ref q659457, .ref q659458] (va_pl P659455 F659456) (pp_659474_AbstractStringBuilder_append D I P659455 F659456 q659457 q659458 q659459 q659460 p659461 p659462 p659463 p659464 f659465 n659466 f659467 n659468) gNA := by
  refine CtA_ofF hl0 (by decide +kernel) (Nat.le_of_ble_eq_true rfl) ?_
  have bp659463 := gB_any p659463
  refine G_aload_n 1 dr_cJ5_append_cf1ce_0 rfl ?_
  refine G_ifnonnull 9 dr_cJ5_append_cf1ce_1 (by decide +kernel) ?_
  refine G_aload_n 1 dr_cJ5_append_cf1ce_9 rfl ?_
  refine Gw_callV (As := []) (gV_ok D I) (cp_659054_String_length l hl0 D I P659455 F659456 q659458 q659460 p659463 p659464 f659467 n659468 hmq659458 hmq659460 heq659458 heq659460 bp659464 bf659467 (by have qa0 : Int32.toInt 0 = 0 := (by decide); omega)) dr_cJ5_append_cf1ce_10 ⟨wr_8_154, wr_1_21, wr_3_60, by decide, rfl, (Nat.le_of_ble_eq_true rfl), (Nat.le_of_ble_eq_true rfl)⟩ wr_3_58 wr_3_59 hmq659458 heq659458 rfl (show 0 + 0 ≤ 1 by first | omega | decide) (show 0 + 0 ≤ (4 * n659466 + 4 + 2 * n659468) by first | omega | decide) (Nat.le_of_ble_eq_true rfl) (fun r659478 w659479 dc659475 ds659476 hp659477 => ?_) (fun _ _ _ _ _ z => z.elim)
  obtain ⟨o659480, rfl, rfl, hdc, hds, bo659480, x659481, ht659482⟩ := hp659477
  change G _ _ _ _ _ _ _ (.int o659480 :: _) _ _ _
  refine G_widen (cs' := 0) (sl' := 0) (by omega) (by omega) ?_
  refine G_istore_n (L' := [(2, .int o659480), (0, .ref q659457), (1, .ref q659458)]) dr_cJ5_append_cf1ce_13 (Nat.le_of_ble_eq_true rfl) rfl ?_
  refine G_aload_n 1 dr_cJ5_append_cf1ce_14 rfl ?_
  refine G_aload_n 1 dr_cJ5_append_cf1ce_15 rfl ?_
  refine Gp_get 3 hmq659457 heq659457 dr_cJ5_append_cf1ce_16 (gk_J4 D I) (Nat.le_of_ble_eq_true rfl) wr_7_64 rfl ?_
  refine G_iload_n 0 dr_cJ5_append_cf1ce_19 rfl ?_
  refine G_iadd dr_cJ5_append_cf1ce_20 (G_nam fun z659483 hz659483 => ?_)
  have ez659483 : z659483.toInt = p659462.toInt + o659480.toInt := by rw [gI_add hz659483 bp659462 bo659480 (by decide) (by decide)]
  have bz659483 : gB z659483 0 33554432 := gB_add (gI_add hz659483 bp659462 bo659480 (by decide) (by decide)) bp659462 bo659480 (by decide) (by decide)
  refine Gw_callVB (As := [.int z659483]) (gV_ok D I) (cp_658659_AbstractStringBuilder_ensureCapacityInternal l hl0 D I P659455 F659456 q659457 q659459 z659483 p659461 p659462 f659465 n659466 hmq659457 hmq659459 heq659457 heq659459 ⟨by omega, by omega⟩ bp659461 bp659462 bf659465 (by have qa0 : Int32.toInt 0 = 0 := (by decide); omega) (by have qa0 : Int32.toInt 0 = 0 := (by decide); omega)) dr_cJ5_append_cf1ce_21 ⟨wr_8_4, wr_1_19, wr_8_7, by decide, rfl, (Nat.le_of_ble_eq_true rfl), (Nat.le_of_ble_eq_true rfl)⟩ wr_8_6 wr_s_0 hmq659457 heq659457 rfl (show 0 + 1 ≤ 1 by first | omega | decide) (show 0 + (2 * n659466 + 2 + z659483.toInt.toNat) ≤ (4 * n659466 + 4 + 2 * n659468) by first | omega | decide) (Nat.le_of_ble_eq_true rfl) (fun r659487 w659488 dc659484 ds659485 hp659486 => ?_) (fun _ _ _ _ _ z => z.elim)
  obtain ⟨P659497, F659498, q659489, n659490, f659491, rfl, rfl, hsb659499, hfr659500, he659501, he659502, hm659503, hq659504, hdc, hds, bf659491, x659492, x659493, x659494, x659495, ht659496⟩ := hp659486
  have hm659505 : q659457 ∈ P659497 := hsb659499 q659457 hmq659457
  have hm659506 : q659458 ∈ P659497 := hsb659499 q659458 hmq659458
  have hm659507 : q659459 ∈ P659497 := hsb659499 q659459 hmq659459
  have hm659508 : q659460 ∈ P659497 := hsb659499 q659460 hmq659460
  have hor659509 : q659489 = q659459 ∨ q659489 ∉ P659455 := hq659504.elim Or.inl (fun n => Or.inr (fun z => n ((rSub_rf (P := P659455)) _ z)))
  have hsb659510 : rSub P659455 P659497 := rSub_tr (rSub_rf (P := P659455)) hsb659499
  have he659511 : F659498 q659458 = .inr (0, [.ref q659460, .int 0, .int p659463, .int p659464]) := (hfr659500 q659458 hmq659458 (nm_c (rn_oo heq659458 heq659457 (by decide)) nm_n)).trans heq659458
  have he659512 : F659498 q659459 = .inl (I .byte, n659466, .inl f659465) := (hfr659500 q659459 hmq659459 (nm_c (rn_ao heq659459 heq659457) nm_n)).trans heq659459
  have he659513 : F659498 q659460 = .inl (I .byte, n659468, .inl f659467) := (hfr659500 q659460 hmq659460 (nm_c (rn_ao heq659460 heq659457) nm_n)).trans heq659460
  have hfr659514 : rFr [q659457] P659455 F659456 F659498 := rFr_call (rSub_rf (P := P659455)) (rFr_rf (W := []) (P := P659455) (F := F659456)) hfr659500 (fun b hb hn => ⟨nm_n, (nm_c (fun e => hn (e ▸ List.mem_cons_self)) nm_n)⟩)
  have hne659515 : q659460 ≠ q659489 := fun e => hq659504.elim (fun e2 => (Ne.symm hneq659459q659460) (e.trans e2)) (fun n => n (e ▸ hmq659460))
  change G _ _ _ _ _ _ _ _ _ _ _
  refine G_widen (cs' := 1) (sl' := 2 * (n659490 - n659466)) (by omega) (by omega) ?_
  refine G_aload_n 1 dr_cJ5_append_cf1ce_24 rfl ?_
  refine G_aload_n 1 dr_cJ5_append_cf1ce_25 rfl ?_
  refine Gp_get 3 hm659505 he659501 dr_cJ5_append_cf1ce_26 (gk_J4 D I) (Nat.le_of_ble_eq_true rfl) wr_7_64 rfl ?_
  refine G_aload_n 2 dr_cJ5_append_cf1ce_29 rfl ?_
  refine Gw_callVB (As := [.int p659462, .ref q659458]) (gV_ok D I) (cp_659106_AbstractStringBuilder_putStringAt l hl0 D I P659497 F659498 q659457 q659458 q659489 q659460 p659462 p659461 p659462 p659463 p659464 f659491 n659490 f659467 n659468 hm659505 hm659506 hm659503 hm659508 he659501 he659511 he659502 he659513 (Ne.symm hne659515) bp659462 bp659461 bp659462 bp659464 bf659491 bf659467 (by have qa0 : Int32.toInt 0 = 0 := (by decide); omega) (by have qa0 : Int32.toInt 0 = 0 := (by decide); omega) (by have qa0 : Int32.toInt 0 = 0 := (by decide); omega)) dr_cJ5_append_cf1ce_30 ⟨wr_8_155, wr_1_19, wr_8_158, by decide, rfl, (Nat.le_of_ble_eq_true rfl), (Nat.le_of_ble_eq_true rfl)⟩ wr_8_157 wr_s_4 hm659505 he659501 rfl (show 1 + 0 ≤ 1 by first | omega | decide) (show 2 * (n659490 - n659466) + 0 ≤ (4 * n659466 + 4 + 2 * n659468) by first | omega | decide) (Nat.le_of_ble_eq_true rfl) (fun r659519 w659520 dc659516 ds659517 hp659518 => ?_) (fun _ _ _ _ _ z => z.elim)
  obtain ⟨F659525, f659521, rfl, rfl, hfr659527, he659528, he659529, he659530, he659531, hdc, hds, bf659521, x659522, x659523, ht659524⟩ := hp659518
  have hfr659532 : rFr [q659457, q659459] P659455 F659456 F659525 := rFr_call hsb659510 hfr659514 hfr659527 (fun b hb hn => ⟨(nm_c (fun e => hn (e ▸ List.mem_cons_self)) nm_n), (nm_c (fun e => hor659509.elim (fun e2 => hn ((e.trans e2) ▸ (List.mem_cons_of_mem _ List.mem_cons_self))) (fun n => n (e ▸ hb))) nm_n)⟩)
  change G _ _ _ _ _ _ _ _ _ _ _
  refine G_widen (cs' := 1) (sl' := 2 * (n659490 - n659466) + 0) (by omega) (by omega) ?_
  refine G_aload_n 1 dr_cJ5_append_cf1ce_33 rfl ?_
  refine G_dup dr_cJ5_append_cf1ce_34 rfl ?_
  refine Gp_get 3 hm659505 he659528 dr_cJ5_append_cf1ce_35 (gk_J4 D I) (Nat.le_of_ble_eq_true rfl) wr_7_64 rfl ?_
  refine G_iload_n 0 dr_cJ5_append_cf1ce_38 rfl ?_
  refine G_iadd dr_cJ5_append_cf1ce_39 (G_nam fun z659533 hz659533 => ?_)
  have ez659533 : z659533.toInt = p659462.toInt + o659480.toInt := by rw [gI_add hz659533 bp659462 bo659480 (by decide) (by decide)]
  have bz659533 : gB z659533 0 33554432 := gB_add (gI_add hz659533 bp659462 bo659480 (by decide) (by decide)) bp659462 bo659480 (by decide) (by decide)
  refine Gp_put 3 hm659505 he659528 dr_cJ5_append_cf1ce_40 (gk_J4 D I) (Nat.le_of_ble_eq_true rfl) wr_7_64 rfl rfl rfl (Nat.le_of_ble_eq_true rfl) (fun F659534 e659535 n659536 => ?_)
  have he659537 : F659534 q659458 = .inr (0, [.ref q659460, .int 0, .int p659463, .int p659464]) := (n659536 q659458 (rn_oo he659529 he659528 (by decide))).trans he659529
  have he659538 : F659534 q659489 = .inl (I .byte, n659490, .inl f659521) := (n659536 q659489 (rn_ao he659530 he659528)).trans he659530
  have he659539 : F659534 q659460 = .inl (I .byte, n659468, .inl f659467) := (n659536 q659460 (rn_ao he659531 he659528)).trans he659531
  have he659540 : F659534 q659457 = .inr (1, [.ref q659489, .int 0, .int p659461, .int z659533]) := e659535
  have hfr659541 : rFr [q659457, q659459] P659455 F659456 F659534 := rFr_put' List.mem_cons_self hfr659532 n659536
  refine G_aload_n 1 dr_cJ5_append_cf1ce_43 rfl ?_
  exact G_aretA (FieldType.object "java/lang/AbstractStringBuilder") dr_cJ5_append_cf1ce_44 rfl (by first | exact Or.inl ⟨_, rfl⟩ | exact Or.inr ⟨_, rfl⟩) (Or.inr ⟨_, rfl⟩) (Nat.le_of_ble_eq_true rfl) (show 2 * (n659490 - n659466) + 0 ≤ (4 * n659466 + 4 + 2 * n659468) by omega) ⟨P659497, F659534, z659533, q659489, n659490, f659521, rfl, rfl, hsb659510, hfr659541, he659540, he659537, he659538, he659539, hm659503, hor659509, (Nat.le_of_ble_eq_true rfl), (by omega), ⟨by omega, by omega⟩, bf659521, (by have qa0 : Int32.toInt 0 = 0 := (by decide); omega), (by have qa0 : Int32.toInt 0 = 0 := (by decide); omega), (by have qa0 : Int32.toInt 0 = 0 := (by decide); omega), (by have qa0 : Int32.toInt 0 = 0 := (by decide); omega), (by have qa0 : Int32.toInt 0 = 0 := (by decide); omega), (fun R c1 => c1 o659480 z659483 n659490 f659491 f659521 z659533 bo659480 ht659482 ez659483 ht659496 ht659524 ez659533)⟩
/- tr_RStringBuilder_append5: a.0...count, a.0.value.#, a.0.value.[] -/
def tr_RStringBuilder_append5 (a0_count : Int32) (a0_value_v : Nat → Int32) (a0_value_n : Nat) (a1_value_v : Nat → Int32) (a1_value_n : Nat) (o1 : Int32) (o2 : Nat) (o3 : Nat → Int32) : Prop := ∀ R : (Int32) → (Nat) → (Nat → Int32) → Prop,
  (∀ (x1 : Int32) (x2 : Nat) (x3 : Nat → Int32), gB x1 0 16777216 → tr_RAbstractStringBuilder_append5 a0_count a0_value_v a0_value_n a1_value_v a1_value_n x1 x2 x3 → R x1 x2 x3) →
  R o1 o2 o3
abbrev ky_659454_StringBuilder_append : gKey := (cJ4_append_15ec4, 2, "java/lang/StringBuilder", (some (FieldType.object "java/lang/StringBuilder")), [], "append", fun _ _ => True)
def pp_659454_StringBuilder_append (D : va_G) (I : FieldType → ClassId) (P659435 : List Nat) (F659436 : Nat → va_E) (q659437 : Nat) (q659438 : Nat) (q659439 : Nat) (q659440 : Nat) (p659441 : Int32) (p659442 : Int32) (p659443 : Int32) (p659444 : Int32) (f659445 : Nat → Int32) (n659446 : Nat) (f659447 : Nat → Int32) (n659448 : Nat) : Option Value → va_W → Nat → Nat → Prop := fun r w dc ds => ∃ (P659585 : List Nat) (F659586 : Nat → va_E) (o659581 : Int32) (q659582 : Nat) (n659583 : Nat) (f659584 : Nat → Int32), r = some (.ref q659437) ∧ w = va_pl P659585 F659586 ∧ rSub P659435 P659585 ∧ rFr [q659437, q659439] P659435 F659436 F659586 ∧ F659586 q659437 = .inr (1, [.ref q659582, .int 0, .int p659441, .int o659581]) ∧ F659586 q659438 = .inr (0, [.ref q659440, .int 0, .int p659443, .int p659444]) ∧ F659586 q659582 = .inl (I .byte, n659583, .inl f659584) ∧ F659586 q659440 = .inl (I .byte, n659448, .inl f659447) ∧ q659582 ∈ P659585 ∧ (q659582 = q659439 ∨ q659582 ∉ P659435) ∧ dc ≤ 1 ∧ ds ≤ 2 * (n659583 - n659446) ∧ gB o659581 0 16777216 ∧ gF f659584 (-128) 127 ∧ o659581.toInt = p659442.toInt + (n659448 : Int) ∧ o659581.toInt ≤ (n659583 : Int) ∧ (n659446 : Int) ≤ (n659583 : Int) ∧ (n659583 : Int) ≤ 2 * (n659446 : Int) + 2 + p659442.toInt + (n659448 : Int) ∧ ((n659583 : Int) = (n659446 : Int) ∨ (n659446 : Int) < o659581.toInt) ∧ tr_RStringBuilder_append5 p659442 f659445 n659446 f659447 n659448 o659581 n659583 f659584
set_option maxRecDepth 100000 in
set_option maxHeartbeats 4000000 in
theorem cp_659454_StringBuilder_append (l : Launch) (hl0 : l.stackTraces = false) (D : va_G) (I : FieldType → ClassId) (P659435 : List Nat) (F659436 : Nat → va_E) (q659437 : Nat) (q659438 : Nat) (q659439 : Nat) (q659440 : Nat) (p659441 : Int32) (p659442 : Int32) (p659443 : Int32) (p659444 : Int32) (f659445 : Nat → Int32) (n659446 : Nat) (f659447 : Nat → Int32) (n659448 : Nat) (hmq659437 : q659437 ∈ P659435) (hmq659438 : q659438 ∈ P659435) (hmq659439 : q659439 ∈ P659435) (hmq659440 : q659440 ∈ P659435) (heq659437 : F659436 q659437 = .inr (1, [.ref q659439, .int 0, .int p659441, .int p659442])) (heq659438 : F659436 q659438 = .inr (0, [.ref q659440, .int 0, .int p659443, .int p659444])) (heq659439 : F659436 q659439 = .inl (I .byte, n659446, .inl f659445)) (heq659440 : F659436 q659440 = .inl (I .byte, n659448, .inl f659447)) (hneq659439q659440 : q659439 ≠ q659440) (bp659441 : gB p659441 0 1) (bp659442 : gB p659442 0 16777216) (bp659444 : gB p659444 0 1) (bf659445 : gF f659445 (-128) 127) (bf659447 : gF f659447 (-128) 127) (x659449 : (n659448 : Int) ≤ 65535) (x659450 : (n659446 : Int) ≤ 8388608 - 100000) (x659451 : p659442.toInt ≤ (n659446 : Int)) (x659452 : ((n659446 : Int) ≤ 16777216)) (x659453 : ((n659448 : Int) ≤ 16777216)) : CtA (gV D I) l yJ4_append_15ec4 cJ4_append_15ec4 2 (some (FieldType.object "java/lang/StringBuilder")) 5 106 1 (4 * n659446 + 4 + 2 * n659448) [.ref q659437, .ref q659438] (va_pl P659435 F659436) (pp_659454_StringBuilder_append D I P659435 F659436 q659437 q659438 q659439 q659440 p659441 p659442 p659443 p659444 f659445 n659446 f659447 n659448) gNA := by
  refine CtA_ofF hl0 (by decide +kernel) (Nat.le_of_ble_eq_true rfl) ?_
  have bp659443 := gB_any p659443
  refine G_aload_n 0 dr_cJ4_append_15ec4_0 rfl ?_
  refine G_aload_n 1 dr_cJ4_append_15ec4_1 rfl ?_
  refine Gw_callSU (As := [.ref q659438]) (gV_ok D I) (cp_659474_AbstractStringBuilder_append l hl0 D I P659435 F659436 q659437 q659438 q659439 q659440 p659441 p659442 p659443 p659444 f659445 n659446 f659447 n659448 hmq659437 hmq659438 hmq659439 hmq659440 heq659437 heq659438 heq659439 heq659440 hneq659439q659440 bp659441 bp659442 bp659444 bf659445 bf659447 (by have qa0 : Int32.toInt 0 = 0 := (by decide); omega) (by have qa0 : Int32.toInt 0 = 0 := (by decide); omega) (by have qa0 : Int32.toInt 0 = 0 := (by decide); omega) (by have qa0 : Int32.toInt 0 = 0 := (by decide); omega) (by have qa0 : Int32.toInt 0 = 0 := (by decide); omega)) dr_cJ4_append_15ec4_2 ⟨wr_8_144, wr_1_19, wr_8_146, by decide, rfl, (Nat.le_of_ble_eq_true rfl), (Nat.le_of_ble_eq_true rfl)⟩ wr_8_145 wr_11_229 wr_7_73 wr_7_44 (by decide) hmq659437 heq659437 rfl (show 0 + 1 ≤ 1 by first | omega | decide) (show 0 + (4 * n659446 + 4 + 2 * n659448) ≤ (4 * n659446 + 4 + 2 * n659448) by first | omega | decide) (Nat.le_of_ble_eq_true rfl) (fun r659551 w659552 dc659548 ds659549 hp659550 => ?_)
  obtain ⟨P659563, F659564, o659553, q659554, n659555, f659556, rfl, rfl, hsb659565, hfr659566, he659567, he659568, he659569, he659570, hm659571, hq659572, hdc, hds, bo659553, bf659556, x659557, x659558, x659559, x659560, x659561, ht659562⟩ := hp659550
  have hm659573 : q659437 ∈ P659563 := hsb659565 q659437 hmq659437
  have hm659574 : q659438 ∈ P659563 := hsb659565 q659438 hmq659438
  have hm659575 : q659439 ∈ P659563 := hsb659565 q659439 hmq659439
  have hm659576 : q659440 ∈ P659563 := hsb659565 q659440 hmq659440
  have hor659577 : q659554 = q659439 ∨ q659554 ∉ P659435 := hq659572.elim Or.inl (fun n => Or.inr (fun z => n ((rSub_rf (P := P659435)) _ z)))
  have hsb659578 : rSub P659435 P659563 := rSub_tr (rSub_rf (P := P659435)) hsb659565
  have hfr659579 : rFr [q659437, q659439] P659435 F659436 F659564 := rFr_call (rSub_rf (P := P659435)) (rFr_rf (W := []) (P := P659435) (F := F659436)) hfr659566 (fun b hb hn => ⟨nm_n, (nm_c (fun e => hn (e ▸ List.mem_cons_self)) (nm_c (fun e => hn (e ▸ (List.mem_cons_of_mem _ List.mem_cons_self))) nm_n))⟩)
  have hne659580 : q659440 ≠ q659554 := fun e => hq659572.elim (fun e2 => (Ne.symm hneq659439q659440) (e.trans e2)) (fun n => n (e ▸ hmq659440))
  change G _ _ _ _ _ _ _ (.ref q659437 :: _) _ _ _
  refine G_widen (cs' := 1) (sl' := 2 * (n659555 - n659446)) (by omega) (by omega) ?_
  refine G_pop dr_cJ4_append_15ec4_5 rfl ?_
  refine G_aload_n 0 dr_cJ4_append_15ec4_6 rfl ?_
  exact G_aretA (FieldType.object "java/lang/StringBuilder") dr_cJ4_append_15ec4_7 rfl (by first | exact Or.inl ⟨_, rfl⟩ | exact Or.inr ⟨_, rfl⟩) (Or.inr ⟨_, rfl⟩) (Nat.le_of_ble_eq_true rfl) (show 2 * (n659555 - n659446) ≤ (4 * n659446 + 4 + 2 * n659448) by omega) ⟨P659563, F659564, o659553, q659554, n659555, f659556, rfl, rfl, hsb659578, hfr659579, he659567, he659568, he659569, he659570, hm659571, hor659577, (Nat.le_of_ble_eq_true rfl), (by omega), bo659553, bf659556, (by have qa0 : Int32.toInt 0 = 0 := (by decide); omega), (by have qa0 : Int32.toInt 0 = 0 := (by decide); omega), (by have qa0 : Int32.toInt 0 = 0 := (by decide); omega), (by have qa0 : Int32.toInt 0 = 0 := (by decide); omega), (by have qa0 : Int32.toInt 0 = 0 := (by decide); omega), (fun R c1 => c1 o659553 n659555 f659556 bo659553 ht659562)⟩
/- tr_RAbstractStringBuilder_append6: a.0...count, a.0.value.#, a.0.value.[] -/
def tr_RAbstractStringBuilder_append6 (bs : List Int32) (a0_count : Int32) (a0_value_v : Nat → Int32) (a0_value_n : Nat) (o1 : Int32) (o2 : Nat) (o3 : Nat → Int32) : Prop := ∀ R : (Int32) → (Nat) → (Nat → Int32) → Prop,
  (∀ (x1 : Int32) (x2 : Int32) (x3 : Nat) (x4 : Nat → Int32) (x5 : Nat → Int32) (x6 : Int32), gB x1 0 65535 → tr_RString_length2 bs x1 → x2.toInt = a0_count.toInt + x1.toInt → tr_RAbstractStringBuilder_ensureCapacityInternal2 x2 a0_value_v a0_value_n x3 x4 → tr_RAbstractStringBuilder_putStringAt2 a0_count bs x4 x5 → x6.toInt = a0_count.toInt + x1.toInt → R x6 x3 x5) →
  R o1 o2 o3
abbrev ky_659618_AbstractStringBuilder_append : gKey := (cJ5_append_cf1ce, 3, "java/lang/AbstractStringBuilder", (some (FieldType.object "java/lang/AbstractStringBuilder")), [], "append", fun _ _ => True)
def pp_659618_AbstractStringBuilder_append (D : va_G) (I : FieldType → ClassId) (P659603 : List Nat) (F659604 : Nat → va_E) (q659605 : Nat) (q659606 : Nat) (qs659607 : Nat) (qb659608 : Nat) (bs659609 : List Int32) (p659610 : Int32) (p659611 : Int32) (f659612 : Nat → Int32) (n659613 : Nat) : Option Value → va_W → Nat → Nat → Prop := fun r w dc ds => ∃ (P659681 : List Nat) (F659682 : Nat → va_E) (o659677 : Int32) (q659678 : Nat) (n659679 : Nat) (f659680 : Nat → Int32), r = some (.ref q659605) ∧ w = va_pl P659681 F659682 ∧ rSub P659603 P659681 ∧ rFr [q659605, q659606] P659603 F659604 F659682 ∧ F659682 q659605 = .inr (1, [.ref q659678, .int 0, .int p659610, .int o659677]) ∧ F659682 q659678 = .inl (I .byte, n659679, .inl f659680) ∧ q659678 ∈ P659681 ∧ (q659678 = q659606 ∨ q659678 ∉ P659603) ∧ dc ≤ 1 ∧ ds ≤ 2 * (n659679 - n659613) ∧ gB o659677 0 16777216 ∧ gF f659680 (-128) 127 ∧ o659677.toInt = p659611.toInt + (bs659609.length : Int) ∧ o659677.toInt ≤ (n659679 : Int) ∧ (n659613 : Int) ≤ (n659679 : Int) ∧ (n659679 : Int) ≤ 2 * (n659613 : Int) + 2 + p659611.toInt + (bs659609.length : Int) ∧ ((n659679 : Int) = (n659613 : Int) ∨ (n659613 : Int) < o659677.toInt) ∧ tr_RAbstractStringBuilder_append6 bs659609 p659611 f659612 n659613 o659677 n659679 f659680
set_option maxRecDepth 100000 in
set_option maxHeartbeats 4000000 in
theorem cp_659618_AbstractStringBuilder_append (l : Launch) (hl0 : l.stackTraces = false) (D : va_G) (I : FieldType → ClassId) (P659603 : List Nat) (F659604 : Nat → va_E) (q659605 : Nat) (q659606 : Nat) (qs659607 : Nat) (qb659608 : Nat) (bs659609 : List Int32) (p659610 : Int32) (p659611 : Int32) (f659612 : Nat → Int32) (n659613 : Nat) (hmq659605 : q659605 ∈ P659603) (hmq659606 : q659606 ∈ P659603) (heq659605 : F659604 q659605 = .inr (1, [.ref q659606, .int 0, .int p659610, .int p659611])) (heq659606 : F659604 q659606 = .inl (I .byte, n659613, .inl f659612)) (hbs659609 : ∀ A s H, (gV D I).2.2.2.1 A s H → gSC qs659607 qb659608 bs659609 A s H) (nbs659609 : (bs659609.length : Int) ≤ 65535) (lbs659609 : gLB bs659609) (bp659610 : gB p659610 0 1) (bp659611 : gB p659611 0 16777216) (bf659612 : gF f659612 (-128) 127) (x659614 : (bs659609.length : Int) ≤ 65535) (x659615 : (n659613 : Int) ≤ 8388608 - 100000) (x659616 : p659611.toInt ≤ (n659613 : Int)) (x659617 : ((n659613 : Int) ≤ 16777216)) : CtA (gV D I) l yJ5_append_cf1ce cJ5_append_cf1ce 3 (some (FieldType.object "java/lang/AbstractStringBuilder")) 4 84 1 (4 * n659613 + 4 + 2 * bs659609.length) [.ref q659605, .ref qs659607] (va_pl P659603 F659604) (pp_659618_AbstractStringBuilder_append D I P659603 F659604 q659605 q659606 qs659607 qb659608 bs659609 p659610 p659611 f659612 n659613) gNA := by
  refine CtA_ofF hl0 (by decide +kernel) (Nat.le_of_ble_eq_true rfl) ?_
  refine G_aload_n 1 dr_cJ5_append_cf1ce_0 rfl ?_
  refine G_ifnonnull 9 dr_cJ5_append_cf1ce_1 (by decide +kernel) ?_
  refine G_aload_n 1 dr_cJ5_append_cf1ce_9 rfl ?_
  refine Gw_callVk (As := []) (gV_ok D I) (cp_659274_String_length l hl0 D I P659603 F659604 qs659607 qb659608 bs659609 hbs659609 nbs659609 lbs659609) dr_cJ5_append_cf1ce_10 ⟨wr_8_154, wr_1_21, wr_3_60, by decide, rfl, (Nat.le_of_ble_eq_true rfl), (Nat.le_of_ble_eq_true rfl)⟩ wr_3_58 wr_3_59 (fun _ _ _ h => (hbs659609 _ _ _ h).1) (show 0 + 0 ≤ 1 by first | omega | decide) (show 0 + 0 ≤ (4 * n659613 + 4 + 2 * bs659609.length) by first | omega | decide) (Nat.le_of_ble_eq_true rfl) (fun r659622 w659623 dc659619 ds659620 hp659621 => ?_) (fun _ _ _ _ _ z => z.elim)
  obtain ⟨o659624, rfl, rfl, hdc, hds, bo659624, x659625, ht659626⟩ := hp659621
  change G _ _ _ _ _ _ _ (.int o659624 :: _) _ _ _
  refine G_widen (cs' := 0) (sl' := 0) (by omega) (by omega) ?_
  refine G_istore_n (L' := [(2, .int o659624), (0, .ref q659605), (1, .ref qs659607)]) dr_cJ5_append_cf1ce_13 (Nat.le_of_ble_eq_true rfl) rfl ?_
  refine G_aload_n 1 dr_cJ5_append_cf1ce_14 rfl ?_
  refine G_aload_n 1 dr_cJ5_append_cf1ce_15 rfl ?_
  refine Gp_get 3 hmq659605 heq659605 dr_cJ5_append_cf1ce_16 (gk_J4 D I) (Nat.le_of_ble_eq_true rfl) wr_7_64 rfl ?_
  refine G_iload_n 0 dr_cJ5_append_cf1ce_19 rfl ?_
  refine G_iadd dr_cJ5_append_cf1ce_20 (G_nam fun z659627 hz659627 => ?_)
  have ez659627 : z659627.toInt = p659611.toInt + o659624.toInt := by rw [gI_add hz659627 bp659611 bo659624 (by decide) (by decide)]
  have bz659627 : gB z659627 0 16842751 := gB_add (gI_add hz659627 bp659611 bo659624 (by decide) (by decide)) bp659611 bo659624 (by decide) (by decide)
  refine Gw_callVB (As := [.int z659627]) (gV_ok D I) (cp_658659_AbstractStringBuilder_ensureCapacityInternal l hl0 D I P659603 F659604 q659605 q659606 z659627 p659610 p659611 f659612 n659613 hmq659605 hmq659606 heq659605 heq659606 ⟨by omega, by omega⟩ bp659610 bp659611 bf659612 (by have qa0 : Int32.toInt 0 = 0 := (by decide); omega) (by have qa0 : Int32.toInt 0 = 0 := (by decide); omega)) dr_cJ5_append_cf1ce_21 ⟨wr_8_4, wr_1_19, wr_8_7, by decide, rfl, (Nat.le_of_ble_eq_true rfl), (Nat.le_of_ble_eq_true rfl)⟩ wr_8_6 wr_s_0 hmq659605 heq659605 rfl (show 0 + 1 ≤ 1 by first | omega | decide) (show 0 + (2 * n659613 + 2 + z659627.toInt.toNat) ≤ (4 * n659613 + 4 + 2 * bs659609.length) by first | omega | decide) (Nat.le_of_ble_eq_true rfl) (fun r659631 w659632 dc659628 ds659629 hp659630 => ?_) (fun _ _ _ _ _ z => z.elim)
  obtain ⟨P659641, F659642, q659633, n659634, f659635, rfl, rfl, hsb659643, hfr659644, he659645, he659646, hm659647, hq659648, hdc, hds, bf659635, x659636, x659637, x659638, x659639, ht659640⟩ := hp659630
  have hm659649 : q659605 ∈ P659641 := hsb659643 q659605 hmq659605
  have hm659650 : q659606 ∈ P659641 := hsb659643 q659606 hmq659606
  have hor659651 : q659633 = q659606 ∨ q659633 ∉ P659603 := hq659648.elim Or.inl (fun n => Or.inr (fun z => n ((rSub_rf (P := P659603)) _ z)))
  have hsb659652 : rSub P659603 P659641 := rSub_tr (rSub_rf (P := P659603)) hsb659643
  have he659653 : F659642 q659606 = .inl (I .byte, n659613, .inl f659612) := (hfr659644 q659606 hmq659606 (nm_c (rn_ao heq659606 heq659605) nm_n)).trans heq659606
  have hfr659654 : rFr [q659605] P659603 F659604 F659642 := rFr_call (rSub_rf (P := P659603)) (rFr_rf (W := []) (P := P659603) (F := F659604)) hfr659644 (fun b hb hn => ⟨nm_n, (nm_c (fun e => hn (e ▸ List.mem_cons_self)) nm_n)⟩)
  change G _ _ _ _ _ _ _ _ _ _ _
  refine G_widen (cs' := 1) (sl' := 2 * (n659634 - n659613)) (by omega) (by omega) ?_
  refine G_aload_n 1 dr_cJ5_append_cf1ce_24 rfl ?_
  refine G_aload_n 1 dr_cJ5_append_cf1ce_25 rfl ?_
  refine Gp_get 3 hm659649 he659645 dr_cJ5_append_cf1ce_26 (gk_J4 D I) (Nat.le_of_ble_eq_true rfl) wr_7_64 rfl ?_
  refine G_aload_n 2 dr_cJ5_append_cf1ce_29 rfl ?_
  refine Gw_callVB (As := [.int p659611, .ref qs659607]) (gV_ok D I) (cp_659318_AbstractStringBuilder_putStringAt l hl0 D I P659641 F659642 q659605 q659633 p659611 qs659607 qb659608 bs659609 p659610 p659611 f659635 n659634 hm659649 hm659647 he659645 he659646 hbs659609 nbs659609 lbs659609 bp659611 bp659610 bp659611 bf659635 (by have qa0 : Int32.toInt 0 = 0 := (by decide); omega) (by have qa0 : Int32.toInt 0 = 0 := (by decide); omega)) dr_cJ5_append_cf1ce_30 ⟨wr_8_155, wr_1_19, wr_8_158, by decide, rfl, (Nat.le_of_ble_eq_true rfl), (Nat.le_of_ble_eq_true rfl)⟩ wr_8_157 wr_s_4 hm659649 he659645 rfl (show 1 + 0 ≤ 1 by first | omega | decide) (show 2 * (n659634 - n659613) + 0 ≤ (4 * n659613 + 4 + 2 * bs659609.length) by first | omega | decide) (Nat.le_of_ble_eq_true rfl) (fun r659658 w659659 dc659655 ds659656 hp659657 => ?_) (fun _ _ _ _ _ z => z.elim)
  obtain ⟨F659664, f659660, rfl, rfl, hfr659666, he659667, he659668, hdc, hds, bf659660, x659661, x659662, ht659663⟩ := hp659657
  have hfr659669 : rFr [q659605, q659606] P659603 F659604 F659664 := rFr_call hsb659652 hfr659654 hfr659666 (fun b hb hn => ⟨(nm_c (fun e => hn (e ▸ List.mem_cons_self)) nm_n), (nm_c (fun e => hor659651.elim (fun e2 => hn ((e.trans e2) ▸ (List.mem_cons_of_mem _ List.mem_cons_self))) (fun n => n (e ▸ hb))) nm_n)⟩)
  change G _ _ _ _ _ _ _ _ _ _ _
  refine G_widen (cs' := 1) (sl' := 2 * (n659634 - n659613) + 0) (by omega) (by omega) ?_
  refine G_aload_n 1 dr_cJ5_append_cf1ce_33 rfl ?_
  refine G_dup dr_cJ5_append_cf1ce_34 rfl ?_
  refine Gp_get 3 hm659649 he659667 dr_cJ5_append_cf1ce_35 (gk_J4 D I) (Nat.le_of_ble_eq_true rfl) wr_7_64 rfl ?_
  refine G_iload_n 0 dr_cJ5_append_cf1ce_38 rfl ?_
  refine G_iadd dr_cJ5_append_cf1ce_39 (G_nam fun z659670 hz659670 => ?_)
  have ez659670 : z659670.toInt = p659611.toInt + o659624.toInt := by rw [gI_add hz659670 bp659611 bo659624 (by decide) (by decide)]
  have bz659670 : gB z659670 0 16842751 := gB_add (gI_add hz659670 bp659611 bo659624 (by decide) (by decide)) bp659611 bo659624 (by decide) (by decide)
  refine Gp_put 3 hm659649 he659667 dr_cJ5_append_cf1ce_40 (gk_J4 D I) (Nat.le_of_ble_eq_true rfl) wr_7_64 rfl rfl rfl (Nat.le_of_ble_eq_true rfl) (fun F659671 e659672 n659673 => ?_)
  have he659674 : F659671 q659633 = .inl (I .byte, n659634, .inl f659660) := (n659673 q659633 (rn_ao he659668 he659667)).trans he659668
  have he659675 : F659671 q659605 = .inr (1, [.ref q659633, .int 0, .int p659610, .int z659670]) := e659672
  have hfr659676 : rFr [q659605, q659606] P659603 F659604 F659671 := rFr_put' List.mem_cons_self hfr659669 n659673
  refine G_aload_n 1 dr_cJ5_append_cf1ce_43 rfl ?_
  exact G_aretA (FieldType.object "java/lang/AbstractStringBuilder") dr_cJ5_append_cf1ce_44 rfl (by first | exact Or.inl ⟨_, rfl⟩ | exact Or.inr ⟨_, rfl⟩) (Or.inr ⟨_, rfl⟩) (Nat.le_of_ble_eq_true rfl) (show 2 * (n659634 - n659613) + 0 ≤ (4 * n659613 + 4 + 2 * bs659609.length) by omega) ⟨P659641, F659671, z659670, q659633, n659634, f659660, rfl, rfl, hsb659652, hfr659676, he659675, he659674, hm659647, hor659651, (Nat.le_of_ble_eq_true rfl), (by omega), ⟨by omega, by omega⟩, bf659660, (by have qa0 : Int32.toInt 0 = 0 := (by decide); omega), (by have qa0 : Int32.toInt 0 = 0 := (by decide); omega), (by have qa0 : Int32.toInt 0 = 0 := (by decide); omega), (by have qa0 : Int32.toInt 0 = 0 := (by decide); omega), (by have qa0 : Int32.toInt 0 = 0 := (by decide); omega), (fun R c1 => c1 o659624 z659627 n659634 f659635 f659660 z659670 bo659624 ht659626 ez659627 ht659640 ht659663 ez659670)⟩
/- tr_RStringBuilder_append6: a.0...count, a.0.value.#, a.0.value.[] -/
def tr_RStringBuilder_append6 (bs : List Int32) (a0_count : Int32) (a0_value_v : Nat → Int32) (a0_value_n : Nat) (o1 : Int32) (o2 : Nat) (o3 : Nat → Int32) : Prop := ∀ R : (Int32) → (Nat) → (Nat → Int32) → Prop,
  (∀ (x1 : Int32) (x2 : Nat) (x3 : Nat → Int32), gB x1 0 16777216 → tr_RAbstractStringBuilder_append6 bs a0_count a0_value_v a0_value_n x1 x2 x3 → R x1 x2 x3) →
  R o1 o2 o3
