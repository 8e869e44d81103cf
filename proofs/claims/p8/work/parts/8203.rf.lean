theorem dr_cJ4_append_15ec4_0 : decode cJ4_append_15ec4 0 = .ok (.aload_n 0, 1) := by decide +kernel
theorem dr_cJ4_append_15ec4_1 : decode cJ4_append_15ec4 1 = .ok (.aload_n 1, 1) := by decide +kernel
theorem dr_cJ4_append_15ec4_2 : decode cJ4_append_15ec4 2 = .ok (.invokespecial 29, 3) := by decide +kernel
theorem wr_8_144 : (Jvm.Cond.methodLink "java/lang/StringBuilder" (29 : Nat) ({ cls := "java/lang/AbstractStringBuilder", name := "append", desc := "(Ljava/lang/String;)Ljava/lang/AbstractStringBuilder;" } : Jvm.MethodName)) ∈ gw := gw_8 144 rfl rfl
theorem wr_8_146 : (Jvm.Cond.code ({ cls := "java/lang/AbstractStringBuilder", name := "append", desc := "(Ljava/lang/String;)Ljava/lang/AbstractStringBuilder;" } : Jvm.MethodName) prog_21_method_22_code (3 : Nat) (Option.some (Jvm.ClassFile.FieldType.object "java/lang/AbstractStringBuilder"))) ∈ gw := gw_8 146 rfl rfl
theorem wr_8_145 : (Jvm.Cond.instanceMethod ({ cls := "java/lang/AbstractStringBuilder", name := "append", desc := "(Ljava/lang/String;)Ljava/lang/AbstractStringBuilder;" } : Jvm.MethodName)) ∈ gw := gw_8 145 rfl rfl
theorem wr_11_229 : (Jvm.Cond.sameMethod "java/lang/AbstractStringBuilder" "java/lang/AbstractStringBuilder" "append" "(Ljava/lang/String;)Ljava/lang/AbstractStringBuilder;") ∈ gw := gw_11 229 rfl rfl
theorem dr_cJ4_append_15ec4_5 : decode cJ4_append_15ec4 5 = .ok (.pop, 1) := by decide +kernel
theorem dr_cJ4_append_15ec4_6 : decode cJ4_append_15ec4 6 = .ok (.aload_n 0, 1) := by decide +kernel
theorem dr_cJ4_append_15ec4_7 : decode cJ4_append_15ec4 7 = .ok (.areturn, 1) := by decide +kernel
abbrev ky_658258_StringBuilder_append : gKey := (cJ4_append_15ec4, 2, "java/lang/StringBuilder", (some (FieldType.object "java/lang/StringBuilder")), [], "append", fun _ _ => True)
def pp_658258_StringBuilder_append (D : va_G) (I : FieldType → ClassId) (P658241 : List Nat) (F658242 : Nat → va_E) (q658243 : Nat) (q658244 : Nat) (q658245 : Nat) (q658246 : Nat) (p658247 : Int32) (p658248 : Int32) (p658249 : Int32) (p658250 : Int32) (f658251 : Nat → Int32) (n658252 : Nat) (f658253 : Nat → Int32) (n658254 : Nat) : Option Value → va_W → Nat → Nat → Prop := fun r w dc ds => ∃ (F658472 : Nat → va_E) (o658469 : Int32) (f658470 : Nat → Int32), r = some (.ref q658243) ∧ w = va_pl P658241 F658472 ∧ rFr [q658243, q658245] P658241 F658242 F658472 ∧ F658472 q658243 = .inr (1, [.ref q658245, .int 0, .int p658247, .int o658469]) ∧ F658472 q658244 = .inr (0, [.ref q658246, .int 0, .int p658249, .int p658250]) ∧ F658472 q658245 = .inl (I .byte, n658252, .inl f658470) ∧ F658472 q658246 = .inl (I .byte, n658254, .inl f658253) ∧ dc ≤ 0 ∧ ds ≤ 0 ∧ gB o658469 0 16777216 ∧ gF f658470 (-128) 127 ∧ o658469.toInt = p658248.toInt + (n658254 : Int) ∧ sK f658251 f658470 p658248.toInt ∧ sF f658253 f658470 p658248.toInt (n658254 : Int) ∧ tr_RStringBuilder_append3 p658248 f658251 n658252 f658253 n658254 o658469 f658470
set_option maxRecDepth 100000 in
set_option maxHeartbeats 4000000 in
theorem cp_658258_StringBuilder_append (l : Launch) (hl0 : l.stackTraces = false) (D : va_G) (I : FieldType → ClassId) (P658241 : List Nat) (F658242 : Nat → va_E) (q658243 : Nat) (q658244 : Nat) (q658245 : Nat) (q658246 : Nat) (p658247 : Int32) (p658248 : Int32) (p658249 : Int32) (p658250 : Int32) (f658251 : Nat → Int32) (n658252 : Nat) (f658253 : Nat → Int32) (n658254 : Nat) (hmq658243 : q658243 ∈ P658241) (hmq658244 : q658244 ∈ P658241) (hmq658245 : q658245 ∈ P658241) (hmq658246 : q658246 ∈ P658241) (heq658243 : F658242 q658243 = .inr (1, [.ref q658245, .int 0, .int p658247, .int p658248])) (heq658244 : F658242 q658244 = .inr (0, [.ref q658246, .int 0, .int p658249, .int p658250])) (heq658245 : F658242 q658245 = .inl (I .byte, n658252, .inl f658251)) (heq658246 : F658242 q658246 = .inl (I .byte, n658254, .inl f658253)) (hneq658245q658246 : q658245 ≠ q658246) (bp658247 : gB p658247 0 1) (bp658248 : gB p658248 0 16777216) (bp658250 : gB p658250 0 1) (bf658251 : gF f658251 (-128) 127) (bf658253 : gF f658253 (-128) 127) (x658255 : p658248.toInt + (n658254 : Int) ≤ (n658252 : Int)) (x658256 : ((n658252 : Int) ≤ 16777216)) (x658257 : ((n658254 : Int) ≤ 16777216)) : CtA (gV D I) l yJ4_append_15ec4 cJ4_append_15ec4 2 (some (FieldType.object "java/lang/StringBuilder")) 4 87 0 0 [.ref q658243, .ref q658244] (va_pl P658241 F658242) (pp_658258_StringBuilder_append D I P658241 F658242 q658243 q658244 q658245 q658246 p658247 p658248 p658249 p658250 f658251 n658252 f658253 n658254) gNA := by
  refine CtA_ofF hl0 (by decide +kernel) (Nat.le_of_ble_eq_true rfl) ?_
  have bp658249 := gB_any p658249
  refine G_aload_n 0 dr_cJ4_append_15ec4_0 rfl ?_
  refine G_aload_n 1 dr_cJ4_append_15ec4_1 rfl ?_
  refine Gw_callSU (As := [.ref q658244]) (gV_ok D I) (cp_658276_AbstractStringBuilder_append l hl0 D I P658241 F658242 q658243 q658244 q658245 q658246 p658247 p658248 p658249 p658250 f658251 n658252 f658253 n658254 hmq658243 hmq658244 hmq658245 hmq658246 heq658243 heq658244 heq658245 heq658246 hneq658245q658246 bp658247 bp658248 bp658250 bf658251 bf658253 (by have qa0 : Int32.toInt 0 = 0 := (by decide); omega) (by have qa0 : Int32.toInt 0 = 0 := (by decide); omega) (by have qa0 : Int32.toInt 0 = 0 := (by decide); omega)) dr_cJ4_append_15ec4_2 ⟨wr_8_144, wr_1_19, wr_8_146, by decide, rfl, (Nat.le_of_ble_eq_true rfl), (Nat.le_of_ble_eq_true rfl)⟩ wr_8_145 wr_11_229 wr_7_73 wr_7_44 (by decide) hmq658243 heq658243 rfl (show 0 + 0 ≤ 0 by first | omega | decide) (show 0 + 0 ≤ 0 by first | omega | decide) (Nat.le_of_ble_eq_true rfl) (fun r658453 w658454 dc658450 ds658451 hp658452 => ?_)
  obtain ⟨F658461, o658455, f658456, rfl, rfl, hfr658463, he658464, he658465, he658466, he658467, hdc, hds, bo658455, bf658456, x658457, x658458, x658459, ht658460⟩ := hp658452
  have hfr658468 : rFr [q658243, q658245] P658241 F658242 F658461 := rFr_call (rSub_rf (P := P658241)) (rFr_rf (W := []) (P := P658241) (F := F658242)) hfr658463 (fun b hb hn => ⟨nm_n, (nm_c (fun e => hn (e ▸ List.mem_cons_self)) (nm_c (fun e => hn (e ▸ (List.mem_cons_of_mem _ List.mem_cons_self))) nm_n))⟩)
  change G _ _ _ _ _ _ _ (.ref q658243 :: _) _ _ _
  refine G_widen (cs' := 0) (sl' := 0) (by omega) (by omega) ?_
  refine G_pop dr_cJ4_append_15ec4_5 rfl ?_
  refine G_aload_n 0 dr_cJ4_append_15ec4_6 rfl ?_
  exact G_aretA (FieldType.object "java/lang/StringBuilder") dr_cJ4_append_15ec4_7 rfl (by first | exact Or.inl ⟨_, rfl⟩ | exact Or.inr ⟨_, rfl⟩) (Or.inr ⟨_, rfl⟩) (Nat.le_of_ble_eq_true rfl) (Nat.le_of_ble_eq_true rfl) ⟨F658461, o658455, f658456, rfl, rfl, hfr658468, he658464, he658465, he658466, he658467, (Nat.le_of_ble_eq_true rfl), (Nat.le_of_ble_eq_true rfl), bo658455, bf658456, (by have qa0 : Int32.toInt 0 = 0 := (by decide); omega), (sK_c x658458 (by omega)), (by assumption), (fun R c1 => c1 o658455 f658456 bo658455 ht658460)⟩
abbrev ky_658513_String_coder : gKey := (cJ0_coder_7d493, 1, "java/lang/String", (some FieldType.byte), [], "coder", fun _ _ => True)
def pp_658513_String_coder (D : va_G) (I : FieldType → ClassId) (P658508 : List Nat) (F658509 : Nat → va_E) (qs658510 : Nat) (qb658511 : Nat) (bs658512 : List Int32) : Option Value → va_W → Nat → Nat → Prop := fun r w dc ds => r = some (.int 0) ∧ w = va_pl P658508 F658509 ∧ dc ≤ 0 ∧ ds ≤ 0
set_option maxRecDepth 100000 in
set_option maxHeartbeats 4000000 in
theorem cp_658513_String_coder (l : Launch) (hl0 : l.stackTraces = false) (D : va_G) (I : FieldType → ClassId) (P658508 : List Nat) (F658509 : Nat → va_E) (qs658510 : Nat) (qb658511 : Nat) (bs658512 : List Int32) (hbs658512 : ∀ A s H, (gV D I).2.2.2.1 A s H → gSC qs658510 qb658511 bs658512 A s H) (nbs658512 : (bs658512.length : Int) ≤ 65535) (lbs658512 : gLB bs658512) : CtA (gV D I) l yJ0_coder_7d493 cJ0_coder_7d493 1 (some FieldType.byte) 0 0 0 0 [.ref qs658510] (va_pl P658508 F658509) (pp_658513_String_coder D I P658508 F658509 qs658510 qb658511 bs658512) gNA := by
  refine CtA_ofF hl0 (by decide +kernel) (Nat.le_of_ble_eq_true rfl) ?_
  refine G_gets dr_cJ0_coder_7d493_0 wr_3_65 gz_cs (fun x hx => ?_)
  subst hx
  refine G_if_eq 13 dr_cJ0_coder_7d493_3 (by decide +kernel) (fun hc => absurd hc (by decide)) (fun _ => ?_)
  refine G_aload_n 0 dr_cJ0_coder_7d493_6 rfl ?_
  refine G_kget dr_cJ0_coder_7d493_7 wr_8_183 (fun _ _ _ h => (hbs658512 _ _ _ h).2.1) ?_
  refine G_goto 14 dr_cJ0_coder_7d493_10 (by decide +kernel) ?_
  exact G_zretA FieldType.byte dr_cJ0_coder_7d493_14 rfl rfl (Nat.le_of_ble_eq_true rfl) (Nat.le_of_ble_eq_true rfl) ⟨rfl, rfl, (Nat.le_of_ble_eq_true rfl), (Nat.le_of_ble_eq_true rfl)⟩
/- tr_RString_length2: result -/
def tr_RString_length2 (bs : List Int32) (o1 : Int32) : Prop := ∀ R : (Int32) → Prop,
  (∀ (x1 : Int32) (x2 : Int32), x1.toInt = (bs.length : Int) → x2.toInt = x1.toInt / 1 → R x2) →
  R o1
abbrev ky_658506_String_length : gKey := (cJ0_length_8abf5, 1, "java/lang/String", (some FieldType.int), [], "length", fun _ _ => True)
def pp_658506_String_length (D : va_G) (I : FieldType → ClassId) (P658501 : List Nat) (F658502 : Nat → va_E) (qs658503 : Nat) (qb658504 : Nat) (bs658505 : List Int32) : Option Value → va_W → Nat → Nat → Prop := fun r w dc ds => ∃ (o658520 : Int32), r = some (.int o658520) ∧ w = va_pl P658501 F658502 ∧ dc ≤ 0 ∧ ds ≤ 0 ∧ gB o658520 0 65535 ∧ o658520.toInt = (bs658505.length : Int) ∧ tr_RString_length2 bs658505 o658520
set_option maxRecDepth 100000 in
set_option maxHeartbeats 4000000 in
theorem cp_658506_String_length (l : Launch) (hl0 : l.stackTraces = false) (D : va_G) (I : FieldType → ClassId) (P658501 : List Nat) (F658502 : Nat → va_E) (qs658503 : Nat) (qb658504 : Nat) (bs658505 : List Int32) (hbs658505 : ∀ A s H, (gV D I).2.2.2.1 A s H → gSC qs658503 qb658504 bs658505 A s H) (nbs658505 : (bs658505.length : Int) ≤ 65535) (lbs658505 : gLB bs658505) : CtA (gV D I) l yJ0_length_8abf5 cJ0_length_8abf5 1 (some FieldType.int) 1 20 0 0 [.ref qs658503] (va_pl P658501 F658502) (pp_658506_String_length D I P658501 F658502 qs658503 qb658504 bs658505) gNA := by
  refine CtA_ofF hl0 (by decide +kernel) (Nat.le_of_ble_eq_true rfl) ?_
  refine G_aload_n 0 dr_cJ0_length_8abf5_0 rfl ?_
  refine G_kget dr_cJ0_length_8abf5_1 wr_8_182 (fun _ _ _ h => (hbs658505 _ _ _ h).2.2.1) ?_
  refine G_klen dr_cJ0_length_8abf5_4 (fun _ _ _ h => (hbs658505 _ _ _ h).2.2.2) (G_nam fun z658507 hz658507 => ?_)
  have ez658507 : z658507.toInt = (bs658505.length : Int) := gI_ofN hz658507 (by omega)
  have bz658507 : gB z658507 0 65535 := ⟨by omega, by omega⟩
  refine G_aload_n 0 dr_cJ0_length_8abf5_5 rfl ?_
  refine Gw_callVk (As := []) (gV_ok D I) (cp_658513_String_coder l hl0 D I P658501 F658502 qs658503 qb658504 bs658505 hbs658505 nbs658505 lbs658505) dr_cJ0_length_8abf5_6 ⟨wr_3_61, wr_1_21, wr_3_64, by decide, rfl, (Nat.le_of_ble_eq_true rfl), (Nat.le_of_ble_eq_true rfl)⟩ wr_3_62 wr_3_63 (fun _ _ _ h => (hbs658505 _ _ _ h).1) (show 0 + 0 ≤ 0 by first | omega | decide) (show 0 + 0 ≤ 0 by first | omega | decide) (Nat.le_of_ble_eq_true rfl) (fun r658517 w658518 dc658514 ds658515 hp658516 => ?_) (fun _ _ _ _ _ z => z.elim)
  obtain ⟨rfl, rfl, hdc, hds⟩ := hp658516
  change G _ _ _ _ _ _ _ (.int 0 :: _) _ _ _
  refine G_widen (cs' := 0) (sl' := 0) (by omega) (by omega) ?_
  refine G_ishr dr_cJ0_length_8abf5_9 (G_nam fun z658519 hz658519 => ?_)
  have ez658519 : z658519.toInt = z658507.toInt / 1 := gI_shr (k := 0) hz658519 (by decide)
  have bz658519 : gB z658519 0 65535 := ⟨by omega, by omega⟩
  exact G_iretA dr_cJ0_length_8abf5_10 rfl (Nat.le_of_ble_eq_true rfl) (Nat.le_of_ble_eq_true rfl) ⟨z658519, rfl, rfl, (Nat.le_of_ble_eq_true rfl), (Nat.le_of_ble_eq_true rfl), bz658519, (by omega), (fun R c1 => c1 z658507 z658519 ez658507 ez658519)⟩
abbrev ky_658563_AbstractStringBuilder_inflateIfNeededFor : gKey := (cJ5_inflateIfNeededFor_a7421, 2, "java/lang/AbstractStringBuilder", none, [], "inflateIfNeededFor", fun _ _ => True)
def pp_658563_AbstractStringBuilder_inflateIfNeededFor (D : va_G) (I : FieldType → ClassId) (P658551 : List Nat) (F658552 : Nat → va_E) (q658553 : Nat) (q658554 : Nat) (qs658555 : Nat) (qb658556 : Nat) (bs658557 : List Int32) (p658558 : Int32) (p658559 : Int32) (f658560 : Nat → Int32) (n658561 : Nat) : Option Value → va_W → Nat → Nat → Prop := fun r w dc ds => r = none ∧ w = va_pl P658551 F658552 ∧ dc ≤ 0 ∧ ds ≤ 0
set_option maxRecDepth 100000 in
set_option maxHeartbeats 4000000 in
theorem cp_658563_AbstractStringBuilder_inflateIfNeededFor (l : Launch) (hl0 : l.stackTraces = false) (D : va_G) (I : FieldType → ClassId) (P658551 : List Nat) (F658552 : Nat → va_E) (q658553 : Nat) (q658554 : Nat) (qs658555 : Nat) (qb658556 : Nat) (bs658557 : List Int32) (p658558 : Int32) (p658559 : Int32) (f658560 : Nat → Int32) (n658561 : Nat) (hmq658553 : q658553 ∈ P658551) (hmq658554 : q658554 ∈ P658551) (heq658553 : F658552 q658553 = .inr (1, [.ref q658554, .int 0, .int p658558, .int p658559])) (heq658554 : F658552 q658554 = .inl (I .byte, n658561, .inl f658560)) (hbs658557 : ∀ A s H, (gV D I).2.2.2.1 A s H → gSC qs658555 qb658556 bs658557 A s H) (nbs658557 : (bs658557.length : Int) ≤ 65535) (lbs658557 : gLB bs658557) (bp658558 : gB p658558 0 1) (bp658559 : gB p658559 0 16777216) (bf658560 : gF f658560 (-128) 127) (x658562 : ((n658561 : Int) ≤ 16777216)) : CtA (gV D I) l yJ5_inflateIfNeededFor_a7421 cJ5_inflateIfNeededFor_a7421 2 none 1 20 0 0 [.ref q658553, .ref qs658555] (va_pl P658551 F658552) (pp_658563_AbstractStringBuilder_inflateIfNeededFor D I P658551 F658552 q658553 q658554 qs658555 qb658556 bs658557 p658558 p658559 f658560 n658561) gNA := by
  refine CtA_ofF hl0 (by decide +kernel) (Nat.le_of_ble_eq_true rfl) ?_
  refine G_gets dr_cJ5_inflateIfNeededFor_a7421_0 wr_7_52 gz_cs (fun x hx => ?_)
  subst hx
  refine G_if_eq 21 dr_cJ5_inflateIfNeededFor_a7421_3 (by decide +kernel) (fun hc => absurd hc (by decide)) (fun _ => ?_)
  refine G_aload_n 0 dr_cJ5_inflateIfNeededFor_a7421_6 rfl ?_
  refine Gp_get 1 hmq658553 heq658553 dr_cJ5_inflateIfNeededFor_a7421_7 (gk_J4 D I) (Nat.le_of_ble_eq_true rfl) wr_7_61 rfl ?_
  refine G_aload_n 1 dr_cJ5_inflateIfNeededFor_a7421_10 rfl ?_
  refine Gw_callVk (As := []) (gV_ok D I) (cp_658513_String_coder l hl0 D I P658551 F658552 qs658555 qb658556 bs658557 hbs658557 nbs658557 lbs658557) dr_cJ5_inflateIfNeededFor_a7421_11 ⟨wr_8_163, wr_1_21, wr_3_64, by decide, rfl, (Nat.le_of_ble_eq_true rfl), (Nat.le_of_ble_eq_true rfl)⟩ wr_3_62 wr_3_63 (fun _ _ _ h => (hbs658557 _ _ _ h).1) (show 0 + 0 ≤ 0 by first | omega | decide) (show 0 + 0 ≤ 0 by first | omega | decide) (Nat.le_of_ble_eq_true rfl) (fun r658567 w658568 dc658564 ds658565 hp658566 => ?_) (fun _ _ _ _ _ z => z.elim)
  obtain ⟨rfl, rfl, hdc, hds⟩ := hp658566
  change G _ _ _ _ _ _ _ (.int 0 :: _) _ _ _
  refine G_widen (cs' := 0) (sl' := 0) (by omega) (by omega) ?_
  refine G_icmp_eq 21 dr_cJ5_inflateIfNeededFor_a7421_14 (by decide +kernel) (fun _ => ?_) (fun hc => absurd hc (by decide))
  exact G_vretA dr_cJ5_inflateIfNeededFor_a7421_21 rfl (Nat.le_of_ble_eq_true rfl) (Nat.le_of_ble_eq_true rfl) ⟨rfl, rfl, (Nat.le_of_ble_eq_true rfl), (Nat.le_of_ble_eq_true rfl)⟩
/- tr_RString_getBytes2: a.1.[] -/
def tr_RString_getBytes2 (bs : List Int32) (a2 : Int32) (a1_v : Nat → Int32) (o1 : Nat → Int32) : Prop := ∀ R : (Nat → Int32) → Prop,
  (∀ (x1 : Int32) (x2 : Int32) (x3 : Nat → Int32), x1.toInt = a2.toInt * 1 → x2.toInt = (bs.length : Int) → (x3 = va_cpy (fun j => bs.getD j 0) a1_v (0 : Int32).toNatClampNeg x1.toNatClampNeg x2.toNatClampNeg) → R x3) →
  R o1
abbrev ky_658585_String_getBytes : gKey := (cJ0_getBytes_840e7, 4, "java/lang/String", none, [], "getBytes", fun _ _ => True)
def pp_658585_String_getBytes (D : va_G) (I : FieldType → ClassId) (P658574 : List Nat) (F658575 : Nat → va_E) (q658576 : Nat) (qs658577 : Nat) (qb658578 : Nat) (bs658579 : List Int32) (p658580 : Int32) (f658581 : Nat → Int32) (n658582 : Nat) : Option Value → va_W → Nat → Nat → Prop := fun r w dc ds => ∃ (F658601 : Nat → va_E) (f658599 : Nat → Int32), r = none ∧ w = va_pl P658574 F658601 ∧ rFr [q658576] P658574 F658575 F658601 ∧ F658601 q658576 = .inl (I .byte, n658582, .inl f658599) ∧ dc ≤ 0 ∧ ds ≤ 0 ∧ gF f658599 (-128) 127 ∧ sK f658581 f658599 p658580.toInt ∧ sF (fun j => bs658579.getD j 0) f658599 p658580.toInt (bs658579.length : Int) ∧ tr_RString_getBytes2 bs658579 p658580 f658581 f658599
set_option maxRecDepth 100000 in
set_option maxHeartbeats 4000000 in
theorem cp_658585_String_getBytes (l : Launch) (hl0 : l.stackTraces = false) (D : va_G) (I : FieldType → ClassId) (P658574 : List Nat) (F658575 : Nat → va_E) (q658576 : Nat) (qs658577 : Nat) (qb658578 : Nat) (bs658579 : List Int32) (p658580 : Int32) (f658581 : Nat → Int32) (n658582 : Nat) (hmq658576 : q658576 ∈ P658574) (heq658576 : F658575 q658576 = .inl (I .byte, n658582, .inl f658581)) (hbs658579 : ∀ A s H, (gV D I).2.2.2.1 A s H → gSC qs658577 qb658578 bs658579 A s H) (nbs658579 : (bs658579.length : Int) ≤ 65535) (lbs658579 : gLB bs658579) (bp658580 : gB p658580 0 16777216) (bf658581 : gF f658581 (-128) 127) (x658583 : p658580.toInt + (bs658579.length : Int) ≤ (n658582 : Int)) (x658584 : ((n658582 : Int) ≤ 16777216)) : CtA (gV D I) l yJ0_getBytes_840e7 cJ0_getBytes_840e7 4 none 1 20 0 0 [.ref qs658577, .ref q658576, .int p658580, .int 0] (va_pl P658574 F658575) (pp_658585_String_getBytes D I P658574 F658575 q658576 qs658577 qb658578 bs658579 p658580 f658581 n658582) gNA := by
  refine CtA_ofF hl0 (by decide +kernel) (Nat.le_of_ble_eq_true rfl) ?_
  refine G_aload_n 0 dr_cJ0_getBytes_840e7_0 rfl ?_
  refine Gw_callVk (As := []) (gV_ok D I) (cp_658513_String_coder l hl0 D I P658574 F658575 qs658577 qb658578 bs658579 hbs658579 nbs658579 lbs658579) dr_cJ0_getBytes_840e7_1 ⟨wr_3_61, wr_1_21, wr_3_64, by decide, rfl, (Nat.le_of_ble_eq_true rfl), (Nat.le_of_ble_eq_true rfl)⟩ wr_3_62 wr_3_63 (fun _ _ _ h => (hbs658579 _ _ _ h).1) (show 0 + 0 ≤ 0 by first | omega | decide) (show 0 + 0 ≤ 0 by first | omega | decide) (Nat.le_of_ble_eq_true rfl) (fun r658589 w658590 dc658586 ds658587 hp658588 => ?_) (fun _ _ _ _ _ z => z.elim)
  obtain ⟨rfl, rfl, hdc, hds⟩ := hp658588
  change G _ _ _ _ _ _ _ (.int 0 :: _) _ _ _
  refine G_widen (cs' := 0) (sl' := 0) (by omega) (by omega) ?_
  refine G_iload_n 3 dr_cJ0_getBytes_840e7_4 rfl ?_
  refine G_icmp_ne 28 dr_cJ0_getBytes_840e7_5 (by decide +kernel) (fun hc => absurd hc (by decide)) (fun _ => ?_)
  refine G_aload_n 0 dr_cJ0_getBytes_840e7_8 rfl ?_
  refine G_kget dr_cJ0_getBytes_840e7_9 wr_8_182 (fun _ _ _ h => (hbs658579 _ _ _ h).2.2.1) ?_
  refine G_iconst 0 dr_cJ0_getBytes_840e7_12 (by decide +kernel) ?_
  refine G_aload_n 1 dr_cJ0_getBytes_840e7_13 rfl ?_
  refine G_iload_n 2 dr_cJ0_getBytes_840e7_14 rfl ?_
  refine G_iload_n 3 dr_cJ0_getBytes_840e7_15 rfl ?_
  refine G_ishl dr_cJ0_getBytes_840e7_16 (G_nam fun z658591 hz658591 => ?_)
  have ez658591 : z658591.toInt = p658580.toInt * 1 := gI_shl (k := 0) hz658591 (by decide) bp658580 (by decide) (by decide)
  have bz658591 : gB z658591 0 16777216 := ⟨by omega, by omega⟩
  refine G_aload_n 0 dr_cJ0_getBytes_840e7_17 rfl ?_
  refine G_kget dr_cJ0_getBytes_840e7_18 wr_8_182 (fun _ _ _ h => (hbs658579 _ _ _ h).2.2.1) ?_
  refine G_klen dr_cJ0_getBytes_840e7_21 (fun _ _ _ h => (hbs658579 _ _ _ h).2.2.2) (G_nam fun z658592 hz658592 => ?_)
  have ez658592 : z658592.toInt = (bs658579.length : Int) := gI_ofN hz658592 (by omega)
  have bz658592 : gB z658592 0 65535 := ⟨by omega, by omega⟩
  refine Gp_copyK 1 (fun _ _ _ h => (hbs658579 _ _ _ h).2.2.2) hmq658576 heq658576 dr_cJ0_getBytes_840e7_22 wr_8_168 wr_5_113 wr_5_112 wr_1_34 rfl (gF_lst lbs658579) (by decide) (by omega) (by omega) (by have qa0 : Int32.toInt 0 = 0 := (by decide); omega) (by have qa0 : Int32.toInt 0 = 0 := (by decide); omega) (Nat.le_of_ble_eq_true rfl) (Nat.le_of_ble_eq_true rfl) (fun F658593 e658594 n658595 => ?_)
  obtain ⟨f658596, hf658596⟩ : ∃ z, z = va_cpy (fun j => bs658579.getD j 0) f658581 (0 : Int32).toNatClampNeg z658591.toNatClampNeg z658592.toNatClampNeg := ⟨_, rfl⟩
  rw [← hf658596] at e658594
  have bf658596 : gF f658596 (-128) 127 := gF_cpy hf658596 (gF_lst lbs658579) bf658581
  have he658597 : F658593 q658576 = .inl (I .byte, n658582, .inl f658596) := e658594
  have hfr658598 : rFr [q658576] P658574 F658575 F658593 := rFr_put (rFr_rf (W := []) (P := P658574) (F := F658575)) n658595
  refine G_goto 43 dr_cJ0_getBytes_840e7_25 (by decide +kernel) ?_
  exact G_vretA dr_cJ0_getBytes_840e7_43 rfl (Nat.le_of_ble_eq_true rfl) (Nat.le_of_ble_eq_true rfl) ⟨F658593, f658596, rfl, rfl, hfr658598, he658597, (Nat.le_of_ble_eq_true rfl), (Nat.le_of_ble_eq_true rfl), bf658596, (sK_cpy hf658596 (by omega)), (sF_cpy hf658596 (by decide) (by omega) (by omega)), (fun R c1 => c1 z658591 z658592 f658596 ez658591 ez658592 hf658596)⟩
/- tr_RAbstractStringBuilder_putStringAt2: a.0.value.[] -/
def tr_RAbstractStringBuilder_putStringAt2 (a1 : Int32) (bs : List Int32) (a0_value_v : Nat → Int32) (o1 : Nat → Int32) : Prop := ∀ R : (Nat → Int32) → Prop,
  (∀ (x1 : Nat → Int32), tr_RString_getBytes2 bs a1 a0_value_v x1 → R x1) →
  R o1
abbrev ky_658550_AbstractStringBuilder_putStringAt : gKey := (cJ5_putStringAt_47b60, 3, "java/lang/AbstractStringBuilder", none, [], "putStringAt", fun _ _ => True)
def pp_658550_AbstractStringBuilder_putStringAt (D : va_G) (I : FieldType → ClassId) (P658536 : List Nat) (F658537 : Nat → va_E) (q658538 : Nat) (q658539 : Nat) (p658540 : Int32) (qs658541 : Nat) (qb658542 : Nat) (bs658543 : List Int32) (p658544 : Int32) (p658545 : Int32) (f658546 : Nat → Int32) (n658547 : Nat) : Option Value → va_W → Nat → Nat → Prop := fun r w dc ds => ∃ (F658619 : Nat → va_E) (f658617 : Nat → Int32), r = none ∧ w = va_pl P658536 F658619 ∧ rFr [q658539] P658536 F658537 F658619 ∧ F658619 q658538 = .inr (1, [.ref q658539, .int 0, .int p658544, .int p658545]) ∧ F658619 q658539 = .inl (I .byte, n658547, .inl f658617) ∧ dc ≤ 0 ∧ ds ≤ 0 ∧ gF f658617 (-128) 127 ∧ sK f658546 f658617 p658540.toInt ∧ sF (fun j => bs658543.getD j 0) f658617 p658540.toInt (bs658543.length : Int) ∧ tr_RAbstractStringBuilder_putStringAt2 p658540 bs658543 f658546 f658617
set_option maxRecDepth 100000 in
set_option maxHeartbeats 4000000 in
theorem cp_658550_AbstractStringBuilder_putStringAt (l : Launch) (hl0 : l.stackTraces = false) (D : va_G) (I : FieldType → ClassId) (P658536 : List Nat) (F658537 : Nat → va_E) (q658538 : Nat) (q658539 : Nat) (p658540 : Int32) (qs658541 : Nat) (qb658542 : Nat) (bs658543 : List Int32) (p658544 : Int32) (p658545 : Int32) (f658546 : Nat → Int32) (n658547 : Nat) (hmq658538 : q658538 ∈ P658536) (hmq658539 : q658539 ∈ P658536) (heq658538 : F658537 q658538 = .inr (1, [.ref q658539, .int 0, .int p658544, .int p658545])) (heq658539 : F658537 q658539 = .inl (I .byte, n658547, .inl f658546)) (hbs658543 : ∀ A s H, (gV D I).2.2.2.1 A s H → gSC qs658541 qb658542 bs658543 A s H) (nbs658543 : (bs658543.length : Int) ≤ 65535) (lbs658543 : gLB bs658543) (bp658540 : gB p658540 0 16777216) (bp658544 : gB p658544 0 1) (bp658545 : gB p658545 0 16777216) (bf658546 : gF f658546 (-128) 127) (x658548 : p658540.toInt + (bs658543.length : Int) ≤ (n658547 : Int)) (x658549 : ((n658547 : Int) ≤ 16777216)) : CtA (gV D I) l yJ5_putStringAt_47b60 cJ5_putStringAt_47b60 3 none 2 43 0 0 [.ref q658538, .int p658540, .ref qs658541] (va_pl P658536 F658537) (pp_658550_AbstractStringBuilder_putStringAt D I P658536 F658537 q658538 q658539 p658540 qs658541 qb658542 bs658543 p658544 p658545 f658546 n658547) gNA := by
  refine CtA_ofF hl0 (by decide +kernel) (Nat.le_of_ble_eq_true rfl) ?_
  refine G_aload_n 0 dr_cJ5_putStringAt_47b60_0 rfl ?_
  refine G_aload_n 2 dr_cJ5_putStringAt_47b60_1 rfl ?_
  refine Gw_callVB (As := [.ref qs658541]) (gV_ok D I) (cp_658563_AbstractStringBuilder_inflateIfNeededFor l hl0 D I P658536 F658537 q658538 q658539 qs658541 qb658542 bs658543 p658544 p658545 f658546 n658547 hmq658538 hmq658539 heq658538 heq658539 hbs658543 nbs658543 lbs658543 bp658544 bp658545 bf658546 (by have qa0 : Int32.toInt 0 = 0 := (by decide); omega)) dr_cJ5_putStringAt_47b60_2 ⟨wr_8_159, wr_1_19, wr_8_162, by decide, rfl, (Nat.le_of_ble_eq_true rfl), (Nat.le_of_ble_eq_true rfl)⟩ wr_8_161 wr_s_5 hmq658538 heq658538 rfl (show 0 + 0 ≤ 0 by first | omega | decide) (show 0 + 0 ≤ 0 by first | omega | decide) (Nat.le_of_ble_eq_true rfl) (fun r658572 w658573 dc658569 ds658570 hp658571 => ?_) (fun _ _ _ _ _ z => z.elim)
  obtain ⟨rfl, rfl, hdc, hds⟩ := hp658571
  change G _ _ _ _ _ _ _ _ _ _ _
  refine G_widen (cs' := 0) (sl' := 0) (by omega) (by omega) ?_
  refine G_aload_n 2 dr_cJ5_putStringAt_47b60_5 rfl ?_
  refine G_aload_n 0 dr_cJ5_putStringAt_47b60_6 rfl ?_
  refine Gp_get 0 hmq658538 heq658538 dr_cJ5_putStringAt_47b60_7 (gk_J4 D I) (Nat.le_of_ble_eq_true rfl) wr_7_60 rfl ?_
  refine G_iload_n 1 dr_cJ5_putStringAt_47b60_10 rfl ?_
  refine G_aload_n 0 dr_cJ5_putStringAt_47b60_11 rfl ?_
  refine Gp_get 1 hmq658538 heq658538 dr_cJ5_putStringAt_47b60_12 (gk_J4 D I) (Nat.le_of_ble_eq_true rfl) wr_7_61 rfl ?_
  refine Gw_callVk (As := [.ref q658539, .int p658540, .int 0]) (gV_ok D I) (cp_658585_String_getBytes l hl0 D I P658536 F658537 q658539 qs658541 qb658542 bs658543 p658540 f658546 n658547 hmq658539 heq658539 hbs658543 nbs658543 lbs658543 bp658540 bf658546 (by have qa0 : Int32.toInt 0 = 0 := (by decide); omega) (by have qa0 : Int32.toInt 0 = 0 := (by decide); omega)) dr_cJ5_putStringAt_47b60_15 ⟨wr_8_164, wr_1_21, wr_8_167, by decide, rfl, (Nat.le_of_ble_eq_true rfl), (Nat.le_of_ble_eq_true rfl)⟩ wr_8_165 wr_8_166 (fun _ _ _ h => (hbs658543 _ _ _ h).1) (show 0 + 0 ≤ 0 by first | omega | decide) (show 0 + 0 ≤ 0 by first | omega | decide) (Nat.le_of_ble_eq_true rfl) (fun r658605 w658606 dc658602 ds658603 hp658604 => ?_) (fun _ _ _ _ _ z => z.elim)
  obtain ⟨F658611, f658607, rfl, rfl, hfr658613, he658614, hdc, hds, bf658607, x658608, x658609, ht658610⟩ := hp658604
  have he658615 : F658611 q658538 = .inr (1, [.ref q658539, .int 0, .int p658544, .int p658545]) := (hfr658613 q658538 hmq658538 (nm_c (rn_oa heq658538 heq658539) nm_n)).trans heq658538
  have hfr658616 : rFr [q658539] P658536 F658537 F658611 := rFr_call (rSub_rf (P := P658536)) (rFr_rf (W := []) (P := P658536) (F := F658537)) hfr658613 (fun b hb hn => ⟨nm_n, (nm_c (fun e => hn (e ▸ List.mem_cons_self)) nm_n)⟩)
  change G _ _ _ _ _ _ _ _ _ _ _
  refine G_widen (cs' := 0) (sl' := 0) (by omega) (by omega) ?_
  exact G_vretA dr_cJ5_putStringAt_47b60_18 rfl (Nat.le_of_ble_eq_true rfl) (Nat.le_of_ble_eq_true rfl) ⟨F658611, f658607, rfl, rfl, hfr658616, he658615, he658614, (Nat.le_of_ble_eq_true rfl), (Nat.le_of_ble_eq_true rfl), bf658607, (sK_c x658608 (by omega)), (by assumption), (fun R c1 => c1 f658607 ht658610)⟩
/- tr_RAbstractStringBuilder_append4: a.0...count, a.0.value.[] -/
def tr_RAbstractStringBuilder_append4 (bs : List Int32) (a0_count : Int32) (a0_value_v : Nat → Int32) (a0_value_n : Nat) (o1 : Int32) (o2 : Nat → Int32) : Prop := ∀ R : (Int32) → (Nat → Int32) → Prop,
  (∀ (x1 : Int32) (x2 : Int32) (x3 : Nat → Int32) (x4 : Int32), gB x1 0 65535 → tr_RString_length2 bs x1 → x2.toInt = a0_count.toInt + x1.toInt → tr_RAbstractStringBuilder_ensureCapacityInternal x2 a0_value_n → tr_RAbstractStringBuilder_putStringAt2 a0_count bs a0_value_v x3 → x4.toInt = a0_count.toInt + x1.toInt → R x4 x3) →
  R o1 o2
abbrev ky_658500_AbstractStringBuilder_append : gKey := (cJ5_append_cf1ce, 3, "java/lang/AbstractStringBuilder", (some (FieldType.object "java/lang/AbstractStringBuilder")), [], "append", fun _ _ => True)
def pp_658500_AbstractStringBuilder_append (D : va_G) (I : FieldType → ClassId) (P658487 : List Nat) (F658488 : Nat → va_E) (q658489 : Nat) (q658490 : Nat) (qs658491 : Nat) (qb658492 : Nat) (bs658493 : List Int32) (p658494 : Int32) (p658495 : Int32) (f658496 : Nat → Int32) (n658497 : Nat) : Option Value → va_W → Nat → Nat → Prop := fun r w dc ds => ∃ (F658645 : Nat → va_E) (o658642 : Int32) (f658643 : Nat → Int32), r = some (.ref q658489) ∧ w = va_pl P658487 F658645 ∧ rFr [q658489, q658490] P658487 F658488 F658645 ∧ F658645 q658489 = .inr (1, [.ref q658490, .int 0, .int p658494, .int o658642]) ∧ F658645 q658490 = .inl (I .byte, n658497, .inl f658643) ∧ dc ≤ 0 ∧ ds ≤ 0 ∧ gB o658642 0 16777216 ∧ gF f658643 (-128) 127 ∧ o658642.toInt = p658495.toInt + (bs658493.length : Int) ∧ sK f658496 f658643 p658495.toInt ∧ sF (fun j => bs658493.getD j 0) f658643 p658495.toInt (bs658493.length : Int) ∧ tr_RAbstractStringBuilder_append4 bs658493 p658495 f658496 n658497 o658642 f658643
set_option maxRecDepth 100000 in
set_option maxHeartbeats 4000000 in
theorem cp_658500_AbstractStringBuilder_append (l : Launch) (hl0 : l.stackTraces = false) (D : va_G) (I : FieldType → ClassId) (P658487 : List Nat) (F658488 : Nat → va_E) (q658489 : Nat) (q658490 : Nat) (qs658491 : Nat) (qb658492 : Nat) (bs658493 : List Int32) (p658494 : Int32) (p658495 : Int32) (f658496 : Nat → Int32) (n658497 : Nat) (hmq658489 : q658489 ∈ P658487) (hmq658490 : q658490 ∈ P658487) (heq658489 : F658488 q658489 = .inr (1, [.ref q658490, .int 0, .int p658494, .int p658495])) (heq658490 : F658488 q658490 = .inl (I .byte, n658497, .inl f658496)) (hbs658493 : ∀ A s H, (gV D I).2.2.2.1 A s H → gSC qs658491 qb658492 bs658493 A s H) (nbs658493 : (bs658493.length : Int) ≤ 65535) (lbs658493 : gLB bs658493) (bp658494 : gB p658494 0 1) (bp658495 : gB p658495 0 16777216) (bf658496 : gF f658496 (-128) 127) (x658498 : p658495.toInt + (bs658493.length : Int) ≤ (n658497 : Int)) (x658499 : ((n658497 : Int) ≤ 16777216)) : CtA (gV D I) l yJ5_append_cf1ce cJ5_append_cf1ce 3 (some (FieldType.object "java/lang/AbstractStringBuilder")) 3 65 0 0 [.ref q658489, .ref qs658491] (va_pl P658487 F658488) (pp_658500_AbstractStringBuilder_append D I P658487 F658488 q658489 q658490 qs658491 qb658492 bs658493 p658494 p658495 f658496 n658497) gNA := by
  refine CtA_ofF hl0 (by decide +kernel) (Nat.le_of_ble_eq_true rfl) ?_
  refine G_aload_n 1 dr_cJ5_append_cf1ce_0 rfl ?_
  refine G_ifnonnull 9 dr_cJ5_append_cf1ce_1 (by decide +kernel) ?_
  refine G_aload_n 1 dr_cJ5_append_cf1ce_9 rfl ?_
  refine Gw_callVk (As := []) (gV_ok D I) (cp_658506_String_length l hl0 D I P658487 F658488 qs658491 qb658492 bs658493 hbs658493 nbs658493 lbs658493) dr_cJ5_append_cf1ce_10 ⟨wr_8_154, wr_1_21, wr_3_60, by decide, rfl, (Nat.le_of_ble_eq_true rfl), (Nat.le_of_ble_eq_true rfl)⟩ wr_3_58 wr_3_59 (fun _ _ _ h => (hbs658493 _ _ _ h).1) (show 0 + 0 ≤ 0 by first | omega | decide) (show 0 + 0 ≤ 0 by first | omega | decide) (Nat.le_of_ble_eq_true rfl) (fun r658524 w658525 dc658521 ds658522 hp658523 => ?_) (fun _ _ _ _ _ z => z.elim)
  obtain ⟨o658526, rfl, rfl, hdc, hds, bo658526, x658527, ht658528⟩ := hp658523
  change G _ _ _ _ _ _ _ (.int o658526 :: _) _ _ _
  refine G_widen (cs' := 0) (sl' := 0) (by omega) (by omega) ?_
  refine G_istore_n (L' := [(2, .int o658526), (0, .ref q658489), (1, .ref qs658491)]) dr_cJ5_append_cf1ce_13 (Nat.le_of_ble_eq_true rfl) rfl ?_
  refine G_aload_n 1 dr_cJ5_append_cf1ce_14 rfl ?_
  refine G_aload_n 1 dr_cJ5_append_cf1ce_15 rfl ?_
  refine Gp_get 3 hmq658489 heq658489 dr_cJ5_append_cf1ce_16 (gk_J4 D I) (Nat.le_of_ble_eq_true rfl) wr_7_64 rfl ?_
  refine G_iload_n 0 dr_cJ5_append_cf1ce_19 rfl ?_
  refine G_iadd dr_cJ5_append_cf1ce_20 (G_nam fun z658529 hz658529 => ?_)
  have ez658529 : z658529.toInt = p658495.toInt + o658526.toInt := by rw [gI_add hz658529 bp658495 bo658526 (by decide) (by decide)]
  have bz658529 : gB z658529 0 16842751 := gB_add (gI_add hz658529 bp658495 bo658526 (by decide) (by decide)) bp658495 bo658526 (by decide) (by decide)
  refine Gw_callVB (As := [.int z658529]) (gV_ok D I) (cp_657770_AbstractStringBuilder_ensureCapacityInternal l hl0 D I P658487 F658488 q658489 q658490 z658529 p658494 p658495 f658496 n658497 hmq658489 hmq658490 heq658489 heq658490 ⟨by omega, by omega⟩ bp658494 bp658495 bf658496 (by have qa0 : Int32.toInt 0 = 0 := (by decide); omega) (by have qa0 : Int32.toInt 0 = 0 := (by decide); omega)) dr_cJ5_append_cf1ce_21 ⟨wr_8_4, wr_1_19, wr_8_7, by decide, rfl, (Nat.le_of_ble_eq_true rfl), (Nat.le_of_ble_eq_true rfl)⟩ wr_8_6 wr_s_0 hmq658489 heq658489 rfl (show 0 + 0 ≤ 0 by first | omega | decide) (show 0 + 0 ≤ 0 by first | omega | decide) (Nat.le_of_ble_eq_true rfl) (fun r658533 w658534 dc658530 ds658531 hp658532 => ?_) (fun _ _ _ _ _ z => z.elim)
  obtain ⟨rfl, rfl, hdc, hds, ht658535⟩ := hp658532
  change G _ _ _ _ _ _ _ _ _ _ _
  refine G_widen (cs' := 0) (sl' := 0) (by omega) (by omega) ?_
  refine G_aload_n 1 dr_cJ5_append_cf1ce_24 rfl ?_
  refine G_aload_n 1 dr_cJ5_append_cf1ce_25 rfl ?_
  refine Gp_get 3 hmq658489 heq658489 dr_cJ5_append_cf1ce_26 (gk_J4 D I) (Nat.le_of_ble_eq_true rfl) wr_7_64 rfl ?_
  refine G_aload_n 2 dr_cJ5_append_cf1ce_29 rfl ?_
  refine Gw_callVB (As := [.int p658495, .ref qs658491]) (gV_ok D I) (cp_658550_AbstractStringBuilder_putStringAt l hl0 D I P658487 F658488 q658489 q658490 p658495 qs658491 qb658492 bs658493 p658494 p658495 f658496 n658497 hmq658489 hmq658490 heq658489 heq658490 hbs658493 nbs658493 lbs658493 bp658495 bp658494 bp658495 bf658496 (by have qa0 : Int32.toInt 0 = 0 := (by decide); omega) (by have qa0 : Int32.toInt 0 = 0 := (by decide); omega)) dr_cJ5_append_cf1ce_30 ⟨wr_8_155, wr_1_19, wr_8_158, by decide, rfl, (Nat.le_of_ble_eq_true rfl), (Nat.le_of_ble_eq_true rfl)⟩ wr_8_157 wr_s_4 hmq658489 heq658489 rfl (show 0 + 0 ≤ 0 by first | omega | decide) (show 0 + 0 ≤ 0 by first | omega | decide) (Nat.le_of_ble_eq_true rfl) (fun r658623 w658624 dc658620 ds658621 hp658622 => ?_) (fun _ _ _ _ _ z => z.elim)
  obtain ⟨F658629, f658625, rfl, rfl, hfr658631, he658632, he658633, hdc, hds, bf658625, x658626, x658627, ht658628⟩ := hp658622
  have hfr658634 : rFr [q658490] P658487 F658488 F658629 := rFr_call (rSub_rf (P := P658487)) (rFr_rf (W := []) (P := P658487) (F := F658488)) hfr658631 (fun b hb hn => ⟨nm_n, (nm_c (fun e => hn (e ▸ List.mem_cons_self)) nm_n)⟩)
  change G _ _ _ _ _ _ _ _ _ _ _
  refine G_widen (cs' := 0) (sl' := 0) (by omega) (by omega) ?_
  refine G_aload_n 1 dr_cJ5_append_cf1ce_33 rfl ?_
  refine G_dup dr_cJ5_append_cf1ce_34 rfl ?_
  refine Gp_get 3 hmq658489 he658632 dr_cJ5_append_cf1ce_35 (gk_J4 D I) (Nat.le_of_ble_eq_true rfl) wr_7_64 rfl ?_
  refine G_iload_n 0 dr_cJ5_append_cf1ce_38 rfl ?_
  refine G_iadd dr_cJ5_append_cf1ce_39 (G_nam fun z658635 hz658635 => ?_)
  have ez658635 : z658635.toInt = p658495.toInt + o658526.toInt := by rw [gI_add hz658635 bp658495 bo658526 (by decide) (by decide)]
  have bz658635 : gB z658635 0 16842751 := gB_add (gI_add hz658635 bp658495 bo658526 (by decide) (by decide)) bp658495 bo658526 (by decide) (by decide)
  refine Gp_put 3 hmq658489 he658632 dr_cJ5_append_cf1ce_40 (gk_J4 D I) (Nat.le_of_ble_eq_true rfl) wr_7_64 rfl rfl rfl (Nat.le_of_ble_eq_true rfl) (fun F658636 e658637 n658638 => ?_)
  have he658639 : F658636 q658490 = .inl (I .byte, n658497, .inl f658625) := (n658638 q658490 (rn_ao he658633 he658632)).trans he658633
  have he658640 : F658636 q658489 = .inr (1, [.ref q658490, .int 0, .int p658494, .int z658635]) := e658637
  have hfr658641 : rFr [q658489, q658490] P658487 F658488 F658636 := rFr_put hfr658634 n658638
  refine G_aload_n 1 dr_cJ5_append_cf1ce_43 rfl ?_
  exact G_aretA (FieldType.object "java/lang/AbstractStringBuilder") dr_cJ5_append_cf1ce_44 rfl (by first | exact Or.inl ⟨_, rfl⟩ | exact Or.inr ⟨_, rfl⟩) (Or.inr ⟨_, rfl⟩) (Nat.le_of_ble_eq_true rfl) (Nat.le_of_ble_eq_true rfl) ⟨F658636, z658635, f658625, rfl, rfl, hfr658641, he658640, he658639, (Nat.le_of_ble_eq_true rfl), (Nat.le_of_ble_eq_true rfl), ⟨by omega, by omega⟩, bf658625, (by have qa0 : Int32.toInt 0 = 0 := (by decide); omega), (sK_c x658626 (by omega)), (by assumption), (fun R c1 => c1 o658526 z658529 f658625 z658635 bo658526 ht658528 ez658529 ht658535 ht658628 ez658635)⟩
/- tr_RStringBuilder_append4: a.0...count, a.0.value.[] -/
def tr_RStringBuilder_append4 (bs : List Int32) (a0_count : Int32) (a0_value_v : Nat → Int32) (a0_value_n : Nat) (o1 : Int32) (o2 : Nat → Int32) : Prop := ∀ R : (Int32) → (Nat → Int32) → Prop,
  (∀ (x1 : Int32) (x2 : Nat → Int32), gB x1 0 16777216 → tr_RAbstractStringBuilder_append4 bs a0_count a0_value_v a0_value_n x1 x2 → R x1 x2) →
  R o1 o2
abbrev ky_658486_StringBuilder_append : gKey := (cJ4_append_15ec4, 2, "java/lang/StringBuilder", (some (FieldType.object "java/lang/StringBuilder")), [], "append", fun _ _ => True)
def pp_658486_StringBuilder_append (D : va_G) (I : FieldType → ClassId) (P658473 : List Nat) (F658474 : Nat → va_E) (q658475 : Nat) (q658476 : Nat) (qs658477 : Nat) (qb658478 : Nat) (bs658479 : List Int32) (p658480 : Int32) (p658481 : Int32) (f658482 : Nat → Int32) (n658483 : Nat) : Option Value → va_W → Nat → Nat → Prop := fun r w dc ds => ∃ (F658666 : Nat → va_E) (o658663 : Int32) (f658664 : Nat → Int32), r = some (.ref q658475) ∧ w = va_pl P658473 F658666 ∧ rFr [q658475, q658476] P658473 F658474 F658666 ∧ F658666 q658475 = .inr (1, [.ref q658476, .int 0, .int p658480, .int o658663]) ∧ F658666 q658476 = .inl (I .byte, n658483, .inl f658664) ∧ dc ≤ 0 ∧ ds ≤ 0 ∧ gB o658663 0 16777216 ∧ gF f658664 (-128) 127 ∧ o658663.toInt = p658481.toInt + (bs658479.length : Int) ∧ sK f658482 f658664 p658481.toInt ∧ sF (fun j => bs658479.getD j 0) f658664 p658481.toInt (bs658479.length : Int) ∧ tr_RStringBuilder_append4 bs658479 p658481 f658482 n658483 o658663 f658664
set_option maxRecDepth 100000 in
set_option maxHeartbeats 4000000 in
theorem cp_658486_StringBuilder_append (l : Launch) (hl0 : l.stackTraces = false) (D : va_G) (I : FieldType → ClassId) (P658473 : List Nat) (F658474 : Nat → va_E) (q658475 : Nat) (q658476 : Nat) (qs658477 : Nat) (qb658478 : Nat) (bs658479 : List Int32) (p658480 : Int32) (p658481 : Int32) (f658482 : Nat → Int32) (n658483 : Nat) (hmq658475 : q658475 ∈ P658473) (hmq658476 : q658476 ∈ P658473) (heq658475 : F658474 q658475 = .inr (1, [.ref q658476, .int 0, .int p658480, .int p658481])) (heq658476 : F658474 q658476 = .inl (I .byte, n658483, .inl f658482)) (hbs658479 : ∀ A s H, (gV D I).2.2.2.1 A s H → gSC qs658477 qb658478 bs658479 A s H) (nbs658479 : (bs658479.length : Int) ≤ 65535) (lbs658479 : gLB bs658479) (bp658480 : gB p658480 0 1) (bp658481 : gB p658481 0 16777216) (bf658482 : gF f658482 (-128) 127) (x658484 : p658481.toInt + (bs658479.length : Int) ≤ (n658483 : Int)) (x658485 : ((n658483 : Int) ≤ 16777216)) : CtA (gV D I) l yJ4_append_15ec4 cJ4_append_15ec4 2 (some (FieldType.object "java/lang/StringBuilder")) 4 87 0 0 [.ref q658475, .ref qs658477] (va_pl P658473 F658474) (pp_658486_StringBuilder_append D I P658473 F658474 q658475 q658476 qs658477 qb658478 bs658479 p658480 p658481 f658482 n658483) gNA := by
  refine CtA_ofF hl0 (by decide +kernel) (Nat.le_of_ble_eq_true rfl) ?_
  refine G_aload_n 0 dr_cJ4_append_15ec4_0 rfl ?_
  refine G_aload_n 1 dr_cJ4_append_15ec4_1 rfl ?_
  refine Gw_callSU (As := [.ref qs658477]) (gV_ok D I) (cp_658500_AbstractStringBuilder_append l hl0 D I P658473 F658474 q658475 q658476 qs658477 qb658478 bs658479 p658480 p658481 f658482 n658483 hmq658475 hmq658476 heq658475 heq658476 hbs658479 nbs658479 lbs658479 bp658480 bp658481 bf658482 (by have qa0 : Int32.toInt 0 = 0 := (by decide); omega) (by have qa0 : Int32.toInt 0 = 0 := (by decide); omega)) dr_cJ4_append_15ec4_2 ⟨wr_8_144, wr_1_19, wr_8_146, by decide, rfl, (Nat.le_of_ble_eq_true rfl), (Nat.le_of_ble_eq_true rfl)⟩ wr_8_145 wr_11_229 wr_7_73 wr_7_44 (by decide) hmq658475 heq658475 rfl (show 0 + 0 ≤ 0 by first | omega | decide) (show 0 + 0 ≤ 0 by first | omega | decide) (Nat.le_of_ble_eq_true rfl) (fun r658649 w658650 dc658646 ds658647 hp658648 => ?_)
  obtain ⟨F658657, o658651, f658652, rfl, rfl, hfr658659, he658660, he658661, hdc, hds, bo658651, bf658652, x658653, x658654, x658655, ht658656⟩ := hp658648
  have hfr658662 : rFr [q658475, q658476] P658473 F658474 F658657 := rFr_call (rSub_rf (P := P658473)) (rFr_rf (W := []) (P := P658473) (F := F658474)) hfr658659 (fun b hb hn => ⟨nm_n, (nm_c (fun e => hn (e ▸ List.mem_cons_self)) (nm_c (fun e => hn (e ▸ (List.mem_cons_of_mem _ List.mem_cons_self))) nm_n))⟩)
  change G _ _ _ _ _ _ _ (.ref q658475 :: _) _ _ _
  refine G_widen (cs' := 0) (sl' := 0) (by omega) (by omega) ?_
  refine G_pop dr_cJ4_append_15ec4_5 rfl ?_
  refine G_aload_n 0 dr_cJ4_append_15ec4_6 rfl ?_
  exact G_aretA (FieldType.object "java/lang/StringBuilder") dr_cJ4_append_15ec4_7 rfl (by first | exact Or.inl ⟨_, rfl⟩ | exact Or.inr ⟨_, rfl⟩) (Or.inr ⟨_, rfl⟩) (Nat.le_of_ble_eq_true rfl) (Nat.le_of_ble_eq_true rfl) ⟨F658657, o658651, f658652, rfl, rfl, hfr658662, he658660, he658661, (Nat.le_of_ble_eq_true rfl), (Nat.le_of_ble_eq_true rfl), bo658651, bf658652, (by have qa0 : Int32.toInt 0 = 0 := (by decide); omega), (sK_c x658654 (by omega)), (by assumption), (fun R c1 => c1 o658651 f658652 bo658651 ht658656)⟩
/- tr_RAbstractStringBuilder_append5: a.0...count, a.0.value.#, a.0.value.[] -/
def tr_RAbstractStringBuilder_append5 (a0_count : Int32) (a0_value_v : Nat → Int32) (a0_value_n : Nat) (a1_value_v : Nat → Int32) (a1_value_n : Nat) (o1 : Int32) (o2 : Nat) (o3 : Nat → Int32) : Prop := ∀ R : (Int32) → (Nat) → (Nat → Int32) → Prop,
  (∀ (x1 : Int32) (x2 : Int32) (x3 : Nat) (x4 : Nat → Int32) (x5 : Nat → Int32) (x6 : Int32), gB x1 0 16777216 → tr_RString_length a1_value_n x1 → x2.toInt = a0_count.toInt + x1.toInt → tr_RAbstractStringBuilder_ensureCapacityInternal2 x2 a0_value_v a0_value_n x3 x4 → tr_RAbstractStringBuilder_putStringAt a0_count x4 a1_value_v a1_value_n x5 → x6.toInt = a0_count.toInt + x1.toInt → R x6 x3 x5) →
  R o1 o2 o3
abbrev ky_658706_AbstractStringBuilder_append : gKey := (cJ5_append_cf1ce, 3, "java/lang/AbstractStringBuilder", (some (FieldType.object "java/lang/AbstractStringBuilder")), [], "append", fun _ _ => True)
def pp_658706_AbstractStringBuilder_append (D : va_G) (I : FieldType → ClassId) (P658687 : List Nat) (F658688 : Nat → va_E) (q658689 : Nat) (q658690 : Nat) (q658691 : Nat) (q658692 : Nat) (p658693 : Int32) (p658694 : Int32) (p658695 : Int32) (p658696 : Int32) (f658697 : Nat → Int32) (n658698 : Nat) (f658699 : Nat → Int32) (n658700 : Nat) : Option Value → va_W → Nat → Nat → Prop := fun r w dc ds => ∃ (P658778 : List Nat) (F658779 : Nat → va_E) (o658774 : Int32) (q658775 : Nat) (n658776 : Nat) (f658777 : Nat → Int32), r = some (.ref q658689) ∧ w = va_pl P658778 F658779 ∧ rSub P658687 P658778 ∧ rFr [q658689, q658691] P658687 F658688 F658779 ∧ F658779 q658689 = .inr (1, [.ref q658775, .int 0, .int p658693, .int o658774]) ∧ F658779 q658690 = .inr (0, [.ref q658692, .int 0, .int p658695, .int p658696]) ∧ F658779 q658775 = .inl (I .byte, n658776, .inl f658777) ∧ F658779 q658692 = .inl (I .byte, n658700, .inl f658699) ∧ q658775 ∈ P658778 ∧ (q658775 = q658691 ∨ q658775 ∉ P658687) ∧ dc ≤ 1 ∧ ds ≤ 2 * (n658776 - n658698) ∧ gB o658774 0 16777216 ∧ gF f658777 (-128) 127 ∧ o658774.toInt = p658694.toInt + (n658700 : Int) ∧ o658774.toInt ≤ (n658776 : Int) ∧ (n658698 : Int) ≤ (n658776 : Int) ∧ (n658776 : Int) ≤ 2 * (n658698 : Int) + 2 + p658694.toInt + (n658700 : Int) ∧ ((n658776 : Int) = (n658698 : Int) ∨ (n658698 : Int) < o658774.toInt) ∧ tr_RAbstractStringBuilder_append5 p658694 f658697 n658698 f658699 n658700 o658774 n658776 f658777
set_option maxRecDepth 100000 in
set_option maxHeartbeats 4000000 in
theorem cp_658706_AbstractStringBuilder_append (l : Launch) (hl0 : l.stackTraces = false) (D : va_G) (I : FieldType → ClassId) (P658687 : List Nat) (F658688 : Nat → va_E) (q658689 : Nat) (q658690 : Nat) (q658691 : Nat) (q658692 : Nat) (p658693 : Int32) (p658694 : Int32) (p658695 : Int32) (p658696 : Int32) (f658697 : Nat → Int32) (n658698 : Nat) (f658699 : Nat → Int32) (n658700 : Nat) (hmq658689 : q658689 ∈ P658687) (hmq658690 : q658690 ∈ P658687) (hmq658691 : q658691 ∈ P658687) (hmq658692 : q658692 ∈ P658687) (heq658689 : F658688 q658689 = .inr (1, [.ref q658691, .int 0, .int p658693, .int p658694])) (heq658690 : F658688 q658690 = .inr (0, [.ref q658692, .int 0, .int p658695, .int p658696])) (heq658691 : F658688 q658691 = .inl (I .byte, n658698, .inl f658697)) (heq658692 : F658688 q658692 = .inl (I .byte, n658700, .inl f658699)) (hneq658691q658692 : q658691 ≠ q658692) (bp658693 : gB p658693 0 1) (bp658694 : gB p658694 0 16777216) (bp658696 : gB p658696 0 1) (bf658697 : gF f658697 (-128) 127) (bf658699 : gF f658699 (-128) 127) (x658701 : (n658700 : Int) ≤ 65535) (x658702 : (n658698 : Int) ≤ 8388608 - 100000) (x658703 : p658694.toInt ≤ (n658698 : Int)) (x658704 : ((n658698 : Int) ≤ 16777216)) (x658705 : ((n658700 : Int) ≤ 16777216)) : CtA (gV D I) l yJ5_append_cf1ce cJ5_append_cf1ce 3 (some (FieldType.object "java/lang/AbstractStringBuilder")) 4 84 1 (4 * n658698 + 4 + 2 * n658700) [.ref q658689, .ref q658690] (va_pl P658687 F658688) (pp_658706_AbstractStringBuilder_append D I P658687 F658688 q658689 q658690 q658691 q658692 p658693 p658694 p658695 p658696 f658697 n658698 f658699 n658700) gNA := by
  refine CtA_ofF hl0 (by decide +kernel) (Nat.le_of_ble_eq_true rfl) ?_
  have bp658695 := gB_any p658695
  refine G_aload_n 1 dr_cJ5_append_cf1ce_0 rfl ?_
  refine G_ifnonnull 9 dr_cJ5_append_cf1ce_1 (by decide +kernel) ?_
  refine G_aload_n 1 dr_cJ5_append_cf1ce_9 rfl ?_
  refine Gw_callV (As := []) (gV_ok D I) (cp_658286_String_length l hl0 D I P658687 F658688 q658690 q658692 p658695 p658696 f658699 n658700 hmq658690 hmq658692 heq658690 heq658692 bp658696 bf658699 (by have qa0 : Int32.toInt 0 = 0 := (by decide); omega)) dr_cJ5_append_cf1ce_10 ⟨wr_8_154, wr_1_21, wr_3_60, by decide, rfl, (Nat.le_of_ble_eq_true rfl), (Nat.le_of_ble_eq_true rfl)⟩ wr_3_58 wr_3_59 hmq658690 heq658690 rfl (show 0 + 0 ≤ 1 by first | omega | decide) (show 0 + 0 ≤ (4 * n658698 + 4 + 2 * n658700) by first | omega | decide) (Nat.le_of_ble_eq_true rfl) (fun r658710 w658711 dc658707 ds658708 hp658709 => ?_) (fun _ _ _ _ _ z => z.elim)
  obtain ⟨o658712, rfl, rfl, hdc, hds, bo658712, x658713, ht658714⟩ := hp658709
  change G _ _ _ _ _ _ _ (.int o658712 :: _) _ _ _
  refine G_widen (cs' := 0) (sl' := 0) (by omega) (by omega) ?_
  refine G_istore_n (L' := [(2, .int o658712), (0, .ref q658689), (1, .ref q658690)]) dr_cJ5_append_cf1ce_13 (Nat.le_of_ble_eq_true rfl) rfl ?_
  refine G_aload_n 1 dr_cJ5_append_cf1ce_14 rfl ?_
  refine G_aload_n 1 dr_cJ5_append_cf1ce_15 rfl ?_
  refine Gp_get 3 hmq658689 heq658689 dr_cJ5_append_cf1ce_16 (gk_J4 D I) (Nat.le_of_ble_eq_true rfl) wr_7_64 rfl ?_
  refine G_iload_n 0 dr_cJ5_append_cf1ce_19 rfl ?_
  refine G_iadd dr_cJ5_append_cf1ce_20 (G_nam fun z658715 hz658715 => ?_)
  have ez658715 : z658715.toInt = p658694.toInt + o658712.toInt := by rw [gI_add hz658715 bp658694 bo658712 (by decide) (by decide)]
  have bz658715 : gB z658715 0 33554432 := gB_add (gI_add hz658715 bp658694 bo658712 (by decide) (by decide)) bp658694 bo658712 (by decide) (by decide)
  refine Gw_callVB (As := [.int z658715]) (gV_ok D I) (cp_657891_AbstractStringBuilder_ensureCapacityInternal l hl0 D I P658687 F658688 q658689 q658691 z658715 p658693 p658694 f658697 n658698 hmq658689 hmq658691 heq658689 heq658691 ⟨by omega, by omega⟩ bp658693 bp658694 bf658697 (by have qa0 : Int32.toInt 0 = 0 := (by decide); omega) (by have qa0 : Int32.toInt 0 = 0 := (by decide); omega)) dr_cJ5_append_cf1ce_21 ⟨wr_8_4, wr_1_19, wr_8_7, by decide, rfl, (Nat.le_of_ble_eq_true rfl), (Nat.le_of_ble_eq_true rfl)⟩ wr_8_6 wr_s_0 hmq658689 heq658689 rfl (show 0 + 1 ≤ 1 by first | omega | decide) (show 0 + (2 * n658698 + 2 + z658715.toInt.toNat) ≤ (4 * n658698 + 4 + 2 * n658700) by first | omega | decide) (Nat.le_of_ble_eq_true rfl) (fun r658719 w658720 dc658716 ds658717 hp658718 => ?_) (fun _ _ _ _ _ z => z.elim)
  obtain ⟨P658729, F658730, q658721, n658722, f658723, rfl, rfl, hsb658731, hfr658732, he658733, he658734, hm658735, hq658736, hdc, hds, bf658723, x658724, x658725, x658726, x658727, ht658728⟩ := hp658718
  have hm658737 : q658689 ∈ P658729 := hsb658731 q658689 hmq658689
  have hm658738 : q658690 ∈ P658729 := hsb658731 q658690 hmq658690
  have hm658739 : q658691 ∈ P658729 := hsb658731 q658691 hmq658691
  have hm658740 : q658692 ∈ P658729 := hsb658731 q658692 hmq658692
  have hor658741 : q658721 = q658691 ∨ q658721 ∉ P658687 := hq658736.elim Or.inl (fun n => Or.inr (fun z => n ((rSub_rf (P := P658687)) _ z)))
  have hsb658742 : rSub P658687 P658729 := rSub_tr (rSub_rf (P := P658687)) hsb658731
  have he658743 : F658730 q658690 = .inr (0, [.ref q658692, .int 0, .int p658695, .int p658696]) := (hfr658732 q658690 hmq658690 (nm_c (rn_oo heq658690 heq658689 (by decide)) nm_n)).trans heq658690
  have he658744 : F658730 q658691 = .inl (I .byte, n658698, .inl f658697) := (hfr658732 q658691 hmq658691 (nm_c (rn_ao heq658691 heq658689) nm_n)).trans heq658691
  have he658745 : F658730 q658692 = .inl (I .byte, n658700, .inl f658699) := (hfr658732 q658692 hmq658692 (nm_c (rn_ao heq658692 heq658689) nm_n)).trans heq658692
  have hfr658746 : rFr [q658689] P658687 F658688 F658730 := rFr_call (rSub_rf (P := P658687)) (rFr_rf (W := []) (P := P658687) (F := F658688)) hfr658732 (fun b hb hn => ⟨nm_n, (nm_c (fun e => hn (e ▸ List.mem_cons_self)) nm_n)⟩)
  have hne658747 : q658692 ≠ q658721 := fun e => hq658736.elim (fun e2 => (Ne.symm hneq658691q658692) (e.trans e2)) (fun n => n (e ▸ hmq658692))
  change G _ _ _ _ _ _ _ _ _ _ _
  refine G_widen (cs' := 1) (sl' := 2 * (n658722 - n658698)) (by omega) (by omega) ?_
  refine G_aload_n 1 dr_cJ5_append_cf1ce_24 rfl ?_
  refine G_aload_n 1 dr_cJ5_append_cf1ce_25 rfl ?_
  refine Gp_get 3 hm658737 he658733 dr_cJ5_append_cf1ce_26 (gk_J4 D I) (Nat.le_of_ble_eq_true rfl) wr_7_64 rfl ?_
  refine G_aload_n 2 dr_cJ5_append_cf1ce_29 rfl ?_
  refine Gw_callVB (As := [.int p658694, .ref q658690]) (gV_ok D I) (cp_658338_AbstractStringBuilder_putStringAt l hl0 D I P658729 F658730 q658689 q658690 q658721 q658692 p658694 p658693 p658694 p658695 p658696 f658723 n658722 f658699 n658700 hm658737 hm658738 hm658735 hm658740 he658733 he658743 he658734 he658745 (Ne.symm hne658747) bp658694 bp658693 bp658694 bp658696 bf658723 bf658699 (by have qa0 : Int32.toInt 0 = 0 := (by decide); omega) (by have qa0 : Int32.toInt 0 = 0 := (by decide); omega) (by have qa0 : Int32.toInt 0 = 0 := (by decide); omega)) dr_cJ5_append_cf1ce_30 ⟨wr_8_155, wr_1_19, wr_8_158, by decide, rfl, (Nat.le_of_ble_eq_true rfl), (Nat.le_of_ble_eq_true rfl)⟩ wr_8_157 wr_s_4 hm658737 he658733 rfl (show 1 + 0 ≤ 1 by first | omega | decide) (show 2 * (n658722 - n658698) + 0 ≤ (4 * n658698 + 4 + 2 * n658700) by first | omega | decide) (Nat.le_of_ble_eq_true rfl) (fun r658751 w658752 dc658748 ds658749 hp658750 => ?_) (fun _ _ _ _ _ z => z.elim)
  obtain ⟨F658757, f658753, rfl, rfl, hfr658759, he658760, he658761, he658762, he658763, hdc, hds, bf658753, x658754, x658755, ht658756⟩ := hp658750
  have hfr658764 : rFr [q658689, q658691] P658687 F658688 F658757 := rFr_call hsb658742 hfr658746 hfr658759 (fun b hb hn => ⟨(nm_c (fun e => hn (e ▸ List.mem_cons_self)) nm_n), (nm_c (fun e => hor658741.elim (fun e2 => hn ((e.trans e2) ▸ (List.mem_cons_of_mem _ List.mem_cons_self))) (fun n => n (e ▸ hb))) nm_n)⟩)
  change G _ _ _ _ _ _ _ _ _ _ _
  refine G_widen (cs' := 1) (sl' := 2 * (n658722 - n658698) + 0) (by omega) (by omega) ?_
  refine G_aload_n 1 dr_cJ5_append_cf1ce_33 rfl ?_
  refine G_dup dr_cJ5_append_cf1ce_34 rfl ?_
  refine Gp_get 3 hm658737 he658760 dr_cJ5_append_cf1ce_35 (gk_J4 D I) (Nat.le_of_ble_eq_true rfl) wr_7_64 rfl ?_
  refine G_iload_n 0 dr_cJ5_append_cf1ce_38 rfl ?_
  refine G_iadd dr_cJ5_append_cf1ce_39 (G_nam fun z658765 hz658765 => ?_)
  have ez658765 : z658765.toInt = p658694.toInt + o658712.toInt := by rw [gI_add hz658765 bp658694 bo658712 (by decide) (by decide)]
  have bz658765 : gB z658765 0 33554432 := gB_add (gI_add hz658765 bp658694 bo658712 (by decide) (by decide)) bp658694 bo658712 (by decide) (by decide)
  refine Gp_put 3 hm658737 he658760 dr_cJ5_append_cf1ce_40 (gk_J4 D I) (Nat.le_of_ble_eq_true rfl) wr_7_64 rfl rfl rfl (Nat.le_of_ble_eq_true rfl) (fun F658766 e658767 n658768 => ?_)
  have he658769 : F658766 q658690 = .inr (0, [.ref q658692, .int 0, .int p658695, .int p658696]) := (n658768 q658690 (rn_oo he658761 he658760 (by decide))).trans he658761
  have he658770 : F658766 q658721 = .inl (I .byte, n658722, .inl f658753) := (n658768 q658721 (rn_ao he658762 he658760)).trans he658762
  have he658771 : F658766 q658692 = .inl (I .byte, n658700, .inl f658699) := (n658768 q658692 (rn_ao he658763 he658760)).trans he658763
  have he658772 : F658766 q658689 = .inr (1, [.ref q658721, .int 0, .int p658693, .int z658765]) := e658767
  have hfr658773 : rFr [q658689, q658691] P658687 F658688 F658766 := rFr_put' List.mem_cons_self hfr658764 n658768
  refine G_aload_n 1 dr_cJ5_append_cf1ce_43 rfl ?_
  exact G_aretA (FieldType.object "java/lang/AbstractStringBuilder") dr_cJ5_append_cf1ce_44 rfl (by first | exact Or.inl ⟨_, rfl⟩ | exact Or.inr ⟨_, rfl⟩) (Or.inr ⟨_, rfl⟩) (Nat.le_of_ble_eq_true rfl) (show 2 * (n658722 - n658698) + 0 ≤ (4 * n658698 + 4 + 2 * n658700) by omega) ⟨P658729, F658766, z658765, q658721, n658722, f658753, rfl, rfl, hsb658742, hfr658773, he658772, he658769, he658770, he658771, hm658735, hor658741, (Nat.le_of_ble_eq_true rfl), (by omega), ⟨by omega, by omega⟩, bf658753, (by have qa0 : Int32.toInt 0 = 0 := (by decide); omega), (by have qa0 : Int32.toInt 0 = 0 := (by decide); omega), (by have qa0 : Int32.toInt 0 = 0 := (by decide); omega), (by have qa0 : Int32.toInt 0 = 0 := (by decide); omega), (by have qa0 : Int32.toInt 0 = 0 := (by decide); omega), (fun R c1 => c1 o658712 z658715 n658722 f658723 f658753 z658765 bo658712 ht658714 ez658715 ht658728 ht658756 ez658765)⟩
/- tr_RStringBuilder_append5: a.0...count, a.0.value.#, a.0.value.[] -/
def tr_RStringBuilder_append5 (a0_count : Int32) (a0_value_v : Nat → Int32) (a0_value_n : Nat) (a1_value_v : Nat → Int32) (a1_value_n : Nat) (o1 : Int32) (o2 : Nat) (o3 : Nat → Int32) : Prop := ∀ R : (Int32) → (Nat) → (Nat → Int32) → Prop,
  (∀ (x1 : Int32) (x2 : Nat) (x3 : Nat → Int32), gB x1 0 16777216 → tr_RAbstractStringBuilder_append5 a0_count a0_value_v a0_value_n a1_value_v a1_value_n x1 x2 x3 → R x1 x2 x3) →
  R o1 o2 o3
abbrev ky_658686_StringBuilder_append : gKey := (cJ4_append_15ec4, 2, "java/lang/StringBuilder", (some (FieldType.object "java/lang/StringBuilder")), [], "append", fun _ _ => True)
def pp_658686_StringBuilder_append (D : va_G) (I : FieldType → ClassId) (P658667 : List Nat) (F658668 : Nat → va_E) (q658669 : Nat) (q658670 : Nat) (q658671 : Nat) (q658672 : Nat) (p658673 : Int32) (p658674 : Int32) (p658675 : Int32) (p658676 : Int32) (f658677 : Nat → Int32) (n658678 : Nat) (f658679 : Nat → Int32) (n658680 : Nat) : Option Value → va_W → Nat → Nat → Prop := fun r w dc ds => ∃ (P658817 : List Nat) (F658818 : Nat → va_E) (o658813 : Int32) (q658814 : Nat) (n658815 : Nat) (f658816 : Nat → Int32), r = some (.ref q658669) ∧ w = va_pl P658817 F658818 ∧ rSub P658667 P658817 ∧ rFr [q658669, q658671] P658667 F658668 F658818 ∧ F658818 q658669 = .inr (1, [.ref q658814, .int 0, .int p658673, .int o658813]) ∧ F658818 q658670 = .inr (0, [.ref q658672, .int 0, .int p658675, .int p658676]) ∧ F658818 q658814 = .inl (I .byte, n658815, .inl f658816) ∧ F658818 q658672 = .inl (I .byte, n658680, .inl f658679) ∧ q658814 ∈ P658817 ∧ (q658814 = q658671 ∨ q658814 ∉ P658667) ∧ dc ≤ 1 ∧ ds ≤ 2 * (n658815 - n658678) ∧ gB o658813 0 16777216 ∧ gF f658816 (-128) 127 ∧ o658813.toInt = p658674.toInt + (n658680 : Int) ∧ o658813.toInt ≤ (n658815 : Int) ∧ (n658678 : Int) ≤ (n658815 : Int) ∧ (n658815 : Int) ≤ 2 * (n658678 : Int) + 2 + p658674.toInt + (n658680 : Int) ∧ ((n658815 : Int) = (n658678 : Int) ∨ (n658678 : Int) < o658813.toInt) ∧ tr_RStringBuilder_append5 p658674 f658677 n658678 f658679 n658680 o658813 n658815 f658816
set_option maxRecDepth 100000 in
set_option maxHeartbeats 4000000 in
theorem cp_658686_StringBuilder_append (l : Launch) (hl0 : l.stackTraces = false) (D : va_G) (I : FieldType → ClassId) (P658667 : List Nat) (F658668 : Nat → va_E) (q658669 : Nat) (q658670 : Nat) (q658671 : Nat) (q658672 : Nat) (p658673 : Int32) (p658674 : Int32) (p658675 : Int32) (p658676 : Int32) (f658677 : Nat → Int32) (n658678 : Nat) (f658679 : Nat → Int32) (n658680 : Nat) (hmq658669 : q658669 ∈ P658667) (hmq658670 : q658670 ∈ P658667) (hmq658671 : q658671 ∈ P658667) (hmq658672 : q658672 ∈ P658667) (heq658669 : F658668 q658669 = .inr (1, [.ref q658671, .int 0, .int p658673, .int p658674])) (heq658670 : F658668 q658670 = .inr (0, [.ref q658672, .int 0, .int p658675, .int p658676])) (heq658671 : F658668 q658671 = .inl (I .byte, n658678, .inl f658677)) (heq658672 : F658668 q658672 = .inl (I .byte, n658680, .inl f658679)) (hneq658671q658672 : q658671 ≠ q658672) (bp658673 : gB p658673 0 1) (bp658674 : gB p658674 0 16777216) (bp658676 : gB p658676 0 1) (bf658677 : gF f658677 (-128) 127) (bf658679 : gF f658679 (-128) 127) (x658681 : (n658680 : Int) ≤ 65535) (x658682 : (n658678 : Int) ≤ 8388608 - 100000) (x658683 : p658674.toInt ≤ (n658678 : Int)) (x658684 : ((n658678 : Int) ≤ 16777216)) (x658685 : ((n658680 : Int) ≤ 16777216)) : CtA (gV D I) l yJ4_append_15ec4 cJ4_append_15ec4 2 (some (FieldType.object "java/lang/StringBuilder")) 5 106 1 (4 * n658678 + 4 + 2 * n658680) [.ref q658669, .ref q658670] (va_pl P658667 F658668) (pp_658686_StringBuilder_append D I P658667 F658668 q658669 q658670 q658671 q658672 p658673 p658674 p658675 p658676 f658677 n658678 f658679 n658680) gNA := by
  refine CtA_ofF hl0 (by decide +kernel) (Nat.le_of_ble_eq_true rfl) ?_
  have bp658675 := gB_any p658675
  refine G_aload_n 0 dr_cJ4_append_15ec4_0 rfl ?_
  refine G_aload_n 1 dr_cJ4_append_15ec4_1 rfl ?_
  refine Gw_callSU (As := [.ref q658670]) (gV_ok D I) (cp_658706_AbstractStringBuilder_append l hl0 D I P658667 F658668 q658669 q658670 q658671 q658672 p658673 p658674 p658675 p658676 f658677 n658678 f658679 n658680 hmq658669 hmq658670 hmq658671 hmq658672 heq658669 heq658670 heq658671 heq658672 hneq658671q658672 bp658673 bp658674 bp658676 bf658677 bf658679 (by have qa0 : Int32.toInt 0 = 0 := (by decide); omega) (by have qa0 : Int32.toInt 0 = 0 := (by decide); omega) (by have qa0 : Int32.toInt 0 = 0 := (by decide); omega) (by have qa0 : Int32.toInt 0 = 0 := (by decide); omega) (by have qa0 : Int32.toInt 0 = 0 := (by decide); omega)) dr_cJ4_append_15ec4_2 ⟨wr_8_144, wr_1_19, wr_8_146, by decide, rfl, (Nat.le_of_ble_eq_true rfl), (Nat.le_of_ble_eq_true rfl)⟩ wr_8_145 wr_11_229 wr_7_73 wr_7_44 (by decide) hmq658669 heq658669 rfl (show 0 + 1 ≤ 1 by first | omega | decide) (show 0 + (4 * n658678 + 4 + 2 * n658680) ≤ (4 * n658678 + 4 + 2 * n658680) by first | omega | decide) (Nat.le_of_ble_eq_true rfl) (fun r658783 w658784 dc658780 ds658781 hp658782 => ?_)
  obtain ⟨P658795, F658796, o658785, q658786, n658787, f658788, rfl, rfl, hsb658797, hfr658798, he658799, he658800, he658801, he658802, hm658803, hq658804, hdc, hds, bo658785, bf658788, x658789, x658790, x658791, x658792, x658793, ht658794⟩ := hp658782
  have hm658805 : q658669 ∈ P658795 := hsb658797 q658669 hmq658669
  have hm658806 : q658670 ∈ P658795 := hsb658797 q658670 hmq658670
  have hm658807 : q658671 ∈ P658795 := hsb658797 q658671 hmq658671
  have hm658808 : q658672 ∈ P658795 := hsb658797 q658672 hmq658672
  have hor658809 : q658786 = q658671 ∨ q658786 ∉ P658667 := hq658804.elim Or.inl (fun n => Or.inr (fun z => n ((rSub_rf (P := P658667)) _ z)))
  have hsb658810 : rSub P658667 P658795 := rSub_tr (rSub_rf (P := P658667)) hsb658797
  have hfr658811 : rFr [q658669, q658671] P658667 F658668 F658796 := rFr_call (rSub_rf (P := P658667)) (rFr_rf (W := []) (P := P658667) (F := F658668)) hfr658798 (fun b hb hn => ⟨nm_n, (nm_c (fun e => hn (e ▸ List.mem_cons_self)) (nm_c (fun e => hn (e ▸ (List.mem_cons_of_mem _ List.mem_cons_self))) nm_n))⟩)
  have hne658812 : q658672 ≠ q658786 := fun e => hq658804.elim (fun e2 => (Ne.symm hneq658671q658672) (e.trans e2)) (fun n => n (e ▸ hmq658672))
  change G _ _ _ _ _ _ _ (.ref q658669 :: _) _ _ _
  refine G_widen (cs' := 1) (sl' := 2 * (n658787 - n658678)) (by omega) (by omega) ?_
  refine G_pop dr_cJ4_append_15ec4_5 rfl ?_
  refine G_aload_n 0 dr_cJ4_append_15ec4_6 rfl ?_
  exact G_aretA (FieldType.object "java/lang/StringBuilder") dr_cJ4_append_15ec4_7 rfl (by first | exact Or.inl ⟨_, rfl⟩ | exact Or.inr ⟨_, rfl⟩) (Or.inr ⟨_, rfl⟩) (Nat.le_of_ble_eq_true rfl) (show 2 * (n658787 - n658678) ≤ (4 * n658678 + 4 + 2 * n658680) by omega) ⟨P658795, F658796, o658785, q658786, n658787, f658788, rfl, rfl, hsb658810, hfr658811, he658799, he658800, he658801, he658802, hm658803, hor658809, (Nat.le_of_ble_eq_true rfl), (by omega), bo658785, bf658788, (by have qa0 : Int32.toInt 0 = 0 := (by decide); omega), (by have qa0 : Int32.toInt 0 = 0 := (by decide); omega), (by have qa0 : Int32.toInt 0 = 0 := (by decide); omega), (by have qa0 : Int32.toInt 0 = 0 := (by decide); omega), (by have qa0 : Int32.toInt 0 = 0 := (by decide); omega), (fun R c1 => c1 o658785 n658787 f658788 bo658785 ht658794)⟩
/- tr_RAbstractStringBuilder_append6: a.0...count, a.0.value.#, a.0.value.[] -/
def tr_RAbstractStringBuilder_append6 (bs : List Int32) (a0_count : Int32) (a0_value_v : Nat → Int32) (a0_value_n : Nat) (o1 : Int32) (o2 : Nat) (o3 : Nat → Int32) : Prop := ∀ R : (Int32) → (Nat) → (Nat → Int32) → Prop,
  (∀ (x1 : Int32) (x2 : Int32) (x3 : Nat) (x4 : Nat → Int32) (x5 : Nat → Int32) (x6 : Int32), gB x1 0 65535 → tr_RString_length2 bs x1 → x2.toInt = a0_count.toInt + x1.toInt → tr_RAbstractStringBuilder_ensureCapacityInternal2 x2 a0_value_v a0_value_n x3 x4 → tr_RAbstractStringBuilder_putStringAt2 a0_count bs x4 x5 → x6.toInt = a0_count.toInt + x1.toInt → R x6 x3 x5) →
  R o1 o2 o3
abbrev ky_658850_AbstractStringBuilder_append : gKey := (cJ5_append_cf1ce, 3, "java/lang/AbstractStringBuilder", (some (FieldType.object "java/lang/AbstractStringBuilder")), [], "append", fun _ _ => True)
def pp_658850_AbstractStringBuilder_append (D : va_G) (I : FieldType → ClassId) (P658835 : List Nat) (F658836 : Nat → va_E) (q658837 : Nat) (q658838 : Nat) (qs658839 : Nat) (qb658840 : Nat) (bs658841 : List Int32) (p658842 : Int32) (p658843 : Int32) (f658844 : Nat → Int32) (n658845 : Nat) : Option Value → va_W → Nat → Nat → Prop := fun r w dc ds => ∃ (P658913 : List Nat) (F658914 : Nat → va_E) (o658909 : Int32) (q658910 : Nat) (n658911 : Nat) (f658912 : Nat → Int32), r = some (.ref q658837) ∧ w = va_pl P658913 F658914 ∧ rSub P658835 P658913 ∧ rFr [q658837, q658838] P658835 F658836 F658914 ∧ F658914 q658837 = .inr (1, [.ref q658910, .int 0, .int p658842, .int o658909]) ∧ F658914 q658910 = .inl (I .byte, n658911, .inl f658912) ∧ q658910 ∈ P658913 ∧ (q658910 = q658838 ∨ q658910 ∉ P658835) ∧ dc ≤ 1 ∧ ds ≤ 2 * (n658911 - n658845) ∧ gB o658909 0 16777216 ∧ gF f658912 (-128) 127 ∧ o658909.toInt = p658843.toInt + (bs658841.length : Int) ∧ o658909.toInt ≤ (n658911 : Int) ∧ (n658845 : Int) ≤ (n658911 : Int) ∧ (n658911 : Int) ≤ 2 * (n658845 : Int) + 2 + p658843.toInt + (bs658841.length : Int) ∧ ((n658911 : Int) = (n658845 : Int) ∨ (n658845 : Int) < o658909.toInt) ∧ tr_RAbstractStringBuilder_append6 bs658841 p658843 f658844 n658845 o658909 n658911 f658912
set_option maxRecDepth 100000 in
set_option maxHeartbeats 4000000 in
theorem cp_658850_AbstractStringBuilder_append (l : Launch) (hl0 : l.stackTraces = false) (D : va_G) (I : FieldType → ClassId) (P658835 : List Nat) (F658836 : Nat → va_E) (q658837 : Nat) (q658838 : Nat) (qs658839 : Nat) (qb658840 : Nat) (bs658841 : List Int32) (p658842 : Int32) (p658843 : Int32) (f658844 : Nat → Int32) (n658845 : Nat) (hmq658837 : q658837 ∈ P658835) (hmq658838 : q658838 ∈ P658835) (heq658837 : F658836 q658837 = .inr (1, [.ref q658838, .int 0, .int p658842, .int p658843])) (heq658838 : F658836 q658838 = .inl (I .byte, n658845, .inl f658844)) (hbs658841 : ∀ A s H, (gV D I).2.2.2.1 A s H → gSC qs658839 qb658840 bs658841 A s H) (nbs658841 : (bs658841.length : Int) ≤ 65535) (lbs658841 : gLB bs658841) (bp658842 : gB p658842 0 1) (bp658843 : gB p658843 0 16777216) (bf658844 : gF f658844 (-128) 127) (x658846 : (bs658841.length : Int) ≤ 65535) (x658847 : (n658845 : Int) ≤ 8388608 - 100000) (x658848 : p658843.toInt ≤ (n658845 : Int)) (x658849 : ((n658845 : Int) ≤ 16777216)) : CtA (gV D I) l yJ5_append_cf1ce cJ5_append_cf1ce 3 (some (FieldType.object "java/lang/AbstractStringBuilder")) 4 84 1 (4 * n658845 + 4 + 2 * bs658841.length) [.ref q658837, .ref qs658839] (va_pl P658835 F658836) (pp_658850_AbstractStringBuilder_append D I P658835 F658836 q658837 q658838 qs658839 qb658840 bs658841 p658842 p658843 f658844 n658845) gNA := by
  refine CtA_ofF hl0 (by decide +kernel) (Nat.le_of_ble_eq_true rfl) ?_
  refine G_aload_n 1 dr_cJ5_append_cf1ce_0 rfl ?_
  refine G_ifnonnull 9 dr_cJ5_append_cf1ce_1 (by decide +kernel) ?_
  refine G_aload_n 1 dr_cJ5_append_cf1ce_9 rfl ?_
  refine Gw_callVk (As := []) (gV_ok D I) (cp_658506_String_length l hl0 D I P658835 F658836 qs658839 qb658840 bs658841 hbs658841 nbs658841 lbs658841) dr_cJ5_append_cf1ce_10 ⟨wr_8_154, wr_1_21, wr_3_60, by decide, rfl, (Nat.le_of_ble_eq_true rfl), (Nat.le_of_ble_eq_true rfl)⟩ wr_3_58 wr_3_59 (fun _ _ _ h => (hbs658841 _ _ _ h).1) (show 0 + 0 ≤ 1 by first | omega | decide) (show 0 + 0 ≤ (4 * n658845 + 4 + 2 * bs658841.length) by first | omega | decide) (Nat.le_of_ble_eq_true rfl) (fun r658854 w658855 dc658851 ds658852 hp658853 => ?_) (fun _ _ _ _ _ z => z.elim)
  obtain ⟨o658856, rfl, rfl, hdc, hds, bo658856, x658857, ht658858⟩ := hp658853
  change G _ _ _ _ _ _ _ (.int o658856 :: _) _ _ _
  refine G_widen (cs' := 0) (sl' := 0) (by omega) (by omega) ?_
  refine G_istore_n (L' := [(2, .int o658856), (0, .ref q658837), (1, .ref qs658839)]) dr_cJ5_append_cf1ce_13 (Nat.le_of_ble_eq_true rfl) rfl ?_
  refine G_aload_n 1 dr_cJ5_append_cf1ce_14 rfl ?_
  refine G_aload_n 1 dr_cJ5_append_cf1ce_15 rfl ?_
  refine Gp_get 3 hmq658837 heq658837 dr_cJ5_append_cf1ce_16 (gk_J4 D I) (Nat.le_of_ble_eq_true rfl) wr_7_64 rfl ?_
  refine G_iload_n 0 dr_cJ5_append_cf1ce_19 rfl ?_
  refine G_iadd dr_cJ5_append_cf1ce_20 (G_nam fun z658859 hz658859 => ?_)
  have ez658859 : z658859.toInt = p658843.toInt + o658856.toInt := by rw [gI_add hz658859 bp658843 bo658856 (by decide) (by decide)]
  have bz658859 : gB z658859 0 16842751 := gB_add (gI_add hz658859 bp658843 bo658856 (by decide) (by decide)) bp658843 bo658856 (by decide) (by decide)
  refine Gw_callVB (As := [.int z658859]) (gV_ok D I) (cp_657891_AbstractStringBuilder_ensureCapacityInternal l hl0 D I P658835 F658836 q658837 q658838 z658859 p658842 p658843 f658844 n658845 hmq658837 hmq658838 heq658837 heq658838 ⟨by omega, by omega⟩ bp658842 bp658843 bf658844 (by have qa0 : Int32.toInt 0 = 0 := (by decide); omega) (by have qa0 : Int32.toInt 0 = 0 := (by decide); omega)) dr_cJ5_append_cf1ce_21 ⟨wr_8_4, wr_1_19, wr_8_7, by decide, rfl, (Nat.le_of_ble_eq_true rfl), (Nat.le_of_ble_eq_true rfl)⟩ wr_8_6 wr_s_0 hmq658837 heq658837 rfl (show 0 + 1 ≤ 1 by first | omega | decide) (show 0 + (2 * n658845 + 2 + z658859.toInt.toNat) ≤ (4 * n658845 + 4 + 2 * bs658841.length) by first | omega | decide) (Nat.le_of_ble_eq_true rfl) (fun r658863 w658864 dc658860 ds658861 hp658862 => ?_) (fun _ _ _ _ _ z => z.elim)
  obtain ⟨P658873, F658874, q658865, n658866, f658867, rfl, rfl, hsb658875, hfr658876, he658877, he658878, hm658879, hq658880, hdc, hds, bf658867, x658868, x658869, x658870, x658871, ht658872⟩ := hp658862
  have hm658881 : q658837 ∈ P658873 := hsb658875 q658837 hmq658837
  have hm658882 : q658838 ∈ P658873 := hsb658875 q658838 hmq658838
  have hor658883 : q658865 = q658838 ∨ q658865 ∉ P658835 := hq658880.elim Or.inl (fun n => Or.inr (fun z => n ((rSub_rf (P := P658835)) _ z)))
  have hsb658884 : rSub P658835 P658873 := rSub_tr (rSub_rf (P := P658835)) hsb658875
  have he658885 : F658874 q658838 = .inl (I .byte, n658845, .inl f658844) := (hfr658876 q658838 hmq658838 (nm_c (rn_ao heq658838 heq658837) nm_n)).trans heq658838
  have hfr658886 : rFr [q658837] P658835 F658836 F658874 := rFr_call (rSub_rf (P := P658835)) (rFr_rf (W := []) (P := P658835) (F := F658836)) hfr658876 (fun b hb hn => ⟨nm_n, (nm_c (fun e => hn (e ▸ List.mem_cons_self)) nm_n)⟩)
  change G _ _ _ _ _ _ _ _ _ _ _
  refine G_widen (cs' := 1) (sl' := 2 * (n658866 - n658845)) (by omega) (by omega) ?_
  refine G_aload_n 1 dr_cJ5_append_cf1ce_24 rfl ?_
  refine G_aload_n 1 dr_cJ5_append_cf1ce_25 rfl ?_
  refine Gp_get 3 hm658881 he658877 dr_cJ5_append_cf1ce_26 (gk_J4 D I) (Nat.le_of_ble_eq_true rfl) wr_7_64 rfl ?_
  refine G_aload_n 2 dr_cJ5_append_cf1ce_29 rfl ?_
  refine Gw_callVB (As := [.int p658843, .ref qs658839]) (gV_ok D I) (cp_658550_AbstractStringBuilder_putStringAt l hl0 D I P658873 F658874 q658837 q658865 p658843 qs658839 qb658840 bs658841 p658842 p658843 f658867 n658866 hm658881 hm658879 he658877 he658878 hbs658841 nbs658841 lbs658841 bp658843 bp658842 bp658843 bf658867 (by have qa0 : Int32.toInt 0 = 0 := (by decide); omega) (by have qa0 : Int32.toInt 0 = 0 := (by decide); omega)) dr_cJ5_append_cf1ce_30 ⟨wr_8_155, wr_1_19, wr_8_158, by decide, rfl, (Nat.le_of_ble_eq_true rfl), (Nat.le_of_ble_eq_true rfl)⟩ wr_8_157 wr_s_4 hm658881 he658877 rfl (show 1 + 0 ≤ 1 by first | omega | decide) (show 2 * (n658866 - n658845) + 0 ≤ (4 * n658845 + 4 + 2 * bs658841.length) by first | omega | decide) (Nat.le_of_ble_eq_true rfl) (fun r658890 w658891 dc658887 ds658888 hp658889 => ?_) (fun _ _ _ _ _ z => z.elim)
  obtain ⟨F658896, f658892, rfl, rfl, hfr658898, he658899, he658900, hdc, hds, bf658892, x658893, x658894, ht658895⟩ := hp658889
  have hfr658901 : rFr [q658837, q658838] P658835 F658836 F658896 := rFr_call hsb658884 hfr658886 hfr658898 (fun b hb hn => ⟨(nm_c (fun e => hn (e ▸ List.mem_cons_self)) nm_n), (nm_c (fun e => hor658883.elim (fun e2 => hn ((e.trans e2) ▸ (List.mem_cons_of_mem _ List.mem_cons_self))) (fun n => n (e ▸ hb))) nm_n)⟩)
  change G _ _ _ _ _ _ _ _ _ _ _
  refine G_widen (cs' := 1) (sl' := 2 * (n658866 - n658845) + 0) (by omega) (by omega) ?_
  refine G_aload_n 1 dr_cJ5_append_cf1ce_33 rfl ?_
  refine G_dup dr_cJ5_append_cf1ce_34 rfl ?_
  refine Gp_get 3 hm658881 he658899 dr_cJ5_append_cf1ce_35 (gk_J4 D I) (Nat.le_of_ble_eq_true rfl) wr_7_64 rfl ?_
  refine G_iload_n 0 dr_cJ5_append_cf1ce_38 rfl ?_
  refine G_iadd dr_cJ5_append_cf1ce_39 (G_nam fun z658902 hz658902 => ?_)
  have ez658902 : z658902.toInt = p658843.toInt + o658856.toInt := by rw [gI_add hz658902 bp658843 bo658856 (by decide) (by decide)]
  have bz658902 : gB z658902 0 16842751 := gB_add (gI_add hz658902 bp658843 bo658856 (by decide) (by decide)) bp658843 bo658856 (by decide) (by decide)
  refine Gp_put 3 hm658881 he658899 dr_cJ5_append_cf1ce_40 (gk_J4 D I) (Nat.le_of_ble_eq_true rfl) wr_7_64 rfl rfl rfl (Nat.le_of_ble_eq_true rfl) (fun F658903 e658904 n658905 => ?_)
  have he658906 : F658903 q658865 = .inl (I .byte, n658866, .inl f658892) := (n658905 q658865 (rn_ao he658900 he658899)).trans he658900
  have he658907 : F658903 q658837 = .inr (1, [.ref q658865, .int 0, .int p658842, .int z658902]) := e658904
  have hfr658908 : rFr [q658837, q658838] P658835 F658836 F658903 := rFr_put' List.mem_cons_self hfr658901 n658905
  refine G_aload_n 1 dr_cJ5_append_cf1ce_43 rfl ?_
  exact G_aretA (FieldType.object "java/lang/AbstractStringBuilder") dr_cJ5_append_cf1ce_44 rfl (by first | exact Or.inl ⟨_, rfl⟩ | exact Or.inr ⟨_, rfl⟩) (Or.inr ⟨_, rfl⟩) (Nat.le_of_ble_eq_true rfl) (show 2 * (n658866 - n658845) + 0 ≤ (4 * n658845 + 4 + 2 * bs658841.length) by omega) ⟨P658873, F658903, z658902, q658865, n658866, f658892, rfl, rfl, hsb658884, hfr658908, he658907, he658906, hm658879, hor658883, (Nat.le_of_ble_eq_true rfl), (by omega), ⟨by omega, by omega⟩, bf658892, (by have qa0 : Int32.toInt 0 = 0 := (by decide); omega), (by have qa0 : Int32.toInt 0 = 0 := (by decide); omega), (by have qa0 : Int32.toInt 0 = 0 := (by decide); omega), (by have qa0 : Int32.toInt 0 = 0 := (by decide); omega), (by have qa0 : Int32.toInt 0 = 0 := (by decide); omega), (fun R c1 => c1 o658856 z658859 n658866 f658867 f658892 z658902 bo658856 ht658858 ez658859 ht658872 ht658895 ez658902)⟩
/- tr_RStringBuilder_append6: a.0...count, a.0.value.#, a.0.value.[] -/
def tr_RStringBuilder_append6 (bs : List Int32) (a0_count : Int32) (a0_value_v : Nat → Int32) (a0_value_n : Nat) (o1 : Int32) (o2 : Nat) (o3 : Nat → Int32) : Prop := ∀ R : (Int32) → (Nat) → (Nat → Int32) → Prop,
  (∀ (x1 : Int32) (x2 : Nat) (x3 : Nat → Int32), gB x1 0 16777216 → tr_RAbstractStringBuilder_append6 bs a0_count a0_value_v a0_value_n x1 x2 x3 → R x1 x2 x3) →
  R o1 o2 o3
