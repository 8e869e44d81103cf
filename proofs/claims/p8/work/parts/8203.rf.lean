theorem dr_cJ4_append_15ec4_0 : decode cJ4_append_15ec4 0 = .ok (.aload_n 0, 1) := by decide +kernel
theorem dr_cJ4_append_15ec4_1 : decode cJ4_append_15ec4 1 = .ok (.aload_n 1, 1) := by decide +kernel
theorem dr_cJ4_append_15ec4_2 : decode cJ4_append_15ec4 2 = .ok (.invokespecial 29, 3) := by decide +kernel
theorem wr_8_144 : (Jvm.Cond.methodLink "java/lang/StringBuilder" (29 : Nat) ({ cls := "java/lang/AbstractStringBuilder", name := "append", desc := "(Ljava/lang/String;)Ljava/lang/AbstractStringBuilder;" } : Jvm.MethodName)) ∈ gw := gw_8 144 rfl rfl
theorem wr_8_146 : (Jvm.Cond.code ({ cls := "java/lang/AbstractStringBuilder", name := "append", desc := "(Ljava/lang/String;)Ljava/lang/AbstractStringBuilder;" } : Jvm.MethodName) prog_21_method_22_code (3 : Nat) (Option.some (Jvm.ClassFile.FieldType.object "java/lang/AbstractStringBuilder"))) ∈ gw := gw_8 146 rfl rfl
theorem wr_8_145 : (Jvm.Cond.instanceMethod ({ cls := "java/lang/AbstractStringBuilder", name := "append", desc := "(Ljava/lang/String;)Ljava/lang/AbstractStringBuilder;" } : Jvm.MethodName)) ∈ gw := gw_8 145 rfl rfl
theorem wr_11_229 : (Jvm.Cond.sameMethod "java/lang/AbstractStringBuilder" "java/lang/AbstractStringBuilder" "append" "(Ljava/lang/String;)Ljava/lang/AbstractStringBuilder;") ∈ gw := gw_11 229 rfl rfl
theorem dr_cJ4_append_15ec4_5 : decode cJ4_append_15ec4 5 = .ok (.pop, 1) := by decide +kernel
theorem dr_cJ4_append_15ec4_6 : decode cJ4_append_15ec4 6 = .ok (.aload_n 0, 1) := by decide +kernel
theorem dr_cJ4_append_15ec4_7 : decode cJ4_append_15ec4 7 = .ok (.areturn, 1) := by decide +kernel
abbrev ky_655955_StringBuilder_append : gKey := (cJ4_append_15ec4, 2, "java/lang/StringBuilder", (some (FieldType.object "java/lang/StringBuilder")), [], "append", fun _ _ => True)
def pp_655955_StringBuilder_append (D : va_G) (I : FieldType → ClassId) (P655938 : List Nat) (F655939 : Nat → va_E) (q655940 : Nat) (q655941 : Nat) (q655942 : Nat) (q655943 : Nat) (p655944 : Int32) (p655945 : Int32) (p655946 : Int32) (p655947 : Int32) (f655948 : Nat → Int32) (n655949 : Nat) (f655950 : Nat → Int32) (n655951 : Nat) : Option Value → va_W → Nat → Nat → Prop := fun r w dc ds => ∃ (F656169 : Nat → va_E) (o656166 : Int32) (f656167 : Nat → Int32), r = some (.ref q655940) ∧ w = va_pl P655938 F656169 ∧ rFr [q655940, q655942] P655938 F655939 F656169 ∧ F656169 q655940 = .inr (1, [.ref q655942, .int 0, .int p655944, .int o656166]) ∧ F656169 q655941 = .inr (0, [.ref q655943, .int 0, .int p655946, .int p655947]) ∧ F656169 q655942 = .inl (I .byte, n655949, .inl f656167) ∧ F656169 q655943 = .inl (I .byte, n655951, .inl f655950) ∧ dc ≤ 0 ∧ ds ≤ 0 ∧ gB o656166 0 16777216 ∧ gF f656167 (-128) 127 ∧ o656166.toInt = p655945.toInt + (n655951 : Int) ∧ sK f655948 f656167 p655945.toInt ∧ sF f655950 f656167 p655945.toInt (n655951 : Int) ∧ tr_RStringBuilder_append3 p655945 f655948 n655949 f655950 n655951 o656166 f656167
set_option maxRecDepth 100000 in
set_option maxHeartbeats 4000000 in
theorem cp_655955_StringBuilder_append (l : Launch) (hl0 : l.stackTraces = false) (D : va_G) (I : FieldType → ClassId) (P655938 : List Nat) (F655939 : Nat → va_E) (q655940 : Nat) (q655941 : Nat) (q655942 : Nat) (q655943 : Nat) (p655944 : Int32) (p655945 : Int32) (p655946 : Int32) (p655947 : Int32) (f655948 : Nat → Int32) (n655949 : Nat) (f655950 : Nat → Int32) (n655951 : Nat) (hmq655940 : q655940 ∈ P655938) (hmq655941 : q655941 ∈ P655938) (hmq655942 : q655942 ∈ P655938) (hmq655943 : q655943 ∈ P655938) (heq655940 : F655939 q655940 = .inr (1, [.ref q655942, .int 0, .int p655944, .int p655945])) (heq655941 : F655939 q655941 = .inr (0, [.ref q655943, .int 0, .int p655946, .int p655947])) (heq655942 : F655939 q655942 = .inl (I .byte, n655949, .inl f655948)) (heq655943 : F655939 q655943 = .inl (I .byte, n655951, .inl f655950)) (hneq655942q655943 : q655942 ≠ q655943) (bp655944 : gB p655944 0 1) (bp655945 : gB p655945 0 16777216) (bp655947 : gB p655947 0 1) (bf655948 : gF f655948 (-128) 127) (bf655950 : gF f655950 (-128) 127) (x655952 : p655945.toInt + (n655951 : Int) ≤ (n655949 : Int)) (x655953 : ((n655949 : Int) ≤ 16777216)) (x655954 : ((n655951 : Int) ≤ 16777216)) : CtA (gV D I) l yJ4_append_15ec4 cJ4_append_15ec4 2 (some (FieldType.object "java/lang/StringBuilder")) 4 87 0 0 [.ref q655940, .ref q655941] (va_pl P655938 F655939) (pp_655955_StringBuilder_append D I P655938 F655939 q655940 q655941 q655942 q655943 p655944 p655945 p655946 p655947 f655948 n655949 f655950 n655951) gNA := by
  refine CtA_ofF hl0 (by decide +kernel) (Nat.le_of_ble_eq_true rfl) ?_
  have bp655946 := gB_any p655946
  refine G_aload_n 0 dr_cJ4_append_15ec4_0 rfl ?_
  refine G_aload_n 1 dr_cJ4_append_15ec4_1 rfl ?_
  refine Gw_callSU (As := [.ref q655941]) (gV_ok D I) (cp_655973_AbstractStringBuilder_append l hl0 D I P655938 F655939 q655940 q655941 q655942 q655943 p655944 p655945 p655946 p655947 f655948 n655949 f655950 n655951 hmq655940 hmq655941 hmq655942 hmq655943 heq655940 heq655941 heq655942 heq655943 hneq655942q655943 bp655944 bp655945 bp655947 bf655948 bf655950 (by have qa0 : Int32.toInt 0 = 0 := (by decide); omega) (by have qa0 : Int32.toInt 0 = 0 := (by decide); omega) (by have qa0 : Int32.toInt 0 = 0 := (by decide); omega)) dr_cJ4_append_15ec4_2 ⟨wr_8_144, wr_1_19, wr_8_146, by decide, rfl, (Nat.le_of_ble_eq_true rfl), (Nat.le_of_ble_eq_true rfl)⟩ wr_8_145 wr_11_229 wr_7_73 wr_7_44 (by decide) hmq655940 heq655940 rfl (show 0 + 0 ≤ 0 by first | omega | decide) (show 0 + 0 ≤ 0 by first | omega | decide) (Nat.le_of_ble_eq_true rfl) (fun r656150 w656151 dc656147 ds656148 hp656149 => ?_)
  obtain ⟨F656158, o656152, f656153, rfl, rfl, hfr656160, he656161, he656162, he656163, he656164, hdc, hds, bo656152, bf656153, x656154, x656155, x656156, ht656157⟩ := hp656149
  have hfr656165 : rFr [q655940, q655942] P655938 F655939 F656158 := rFr_call (rSub_rf (P := P655938)) (rFr_rf (W := []) (P := P655938) (F := F655939)) hfr656160 (fun b hb hn => ⟨nm_n, (nm_c (fun e => hn (e ▸ List.mem_cons_self)) (nm_c (fun e => hn (e ▸ (List.mem_cons_of_mem _ List.mem_cons_self))) nm_n))⟩)
  change G _ _ _ _ _ _ _ (.ref q655940 :: _) _ _ _
  refine G_widen (cs' := 0) (sl' := 0) (by omega) (by omega) ?_
  refine G_pop dr_cJ4_append_15ec4_5 rfl ?_
  refine G_aload_n 0 dr_cJ4_append_15ec4_6 rfl ?_
  exact G_aretA (FieldType.object "java/lang/StringBuilder") dr_cJ4_append_15ec4_7 rfl (by first | exact Or.inl ⟨_, rfl⟩ | exact Or.inr ⟨_, rfl⟩) (Or.inr ⟨_, rfl⟩) (Nat.le_of_ble_eq_true rfl) (Nat.le_of_ble_eq_true rfl) ⟨F656158, o656152, f656153, rfl, rfl, hfr656165, he656161, he656162, he656163, he656164, (Nat.le_of_ble_eq_true rfl), (Nat.le_of_ble_eq_true rfl), bo656152, bf656153, (by have qa0 : Int32.toInt 0 = 0 := (by decide); omega), (sK_c x656155 (by omega)), (by assumption), (fun R c1 => c1 o656152 f656153 bo656152 ht656157)⟩
abbrev ky_656210_String_coder : gKey := (cJ0_coder_7d493, 1, "java/lang/String", (some FieldType.byte), [], "coder", fun _ _ => True)
def pp_656210_String_coder (D : va_G) (I : FieldType → ClassId) (P656205 : List Nat) (F656206 : Nat → va_E) (qs656207 : Nat) (qb656208 : Nat) (bs656209 : List Int32) : Option Value → va_W → Nat → Nat → Prop := fun r w dc ds => r = some (.int 0) ∧ w = va_pl P656205 F656206 ∧ dc ≤ 0 ∧ ds ≤ 0
set_option maxRecDepth 100000 in
set_option maxHeartbeats 4000000 in
theorem cp_656210_String_coder (l : Launch) (hl0 : l.stackTraces = false) (D : va_G) (I : FieldType → ClassId) (P656205 : List Nat) (F656206 : Nat → va_E) (qs656207 : Nat) (qb656208 : Nat) (bs656209 : List Int32) (hbs656209 : ∀ A s H, (gV D I).2.2.2.1 A s H → gSC qs656207 qb656208 bs656209 A s H) (nbs656209 : (bs656209.length : Int) ≤ 65535) (lbs656209 : gLB bs656209) : CtA (gV D I) l yJ0_coder_7d493 cJ0_coder_7d493 1 (some FieldType.byte) 0 0 0 0 [.ref qs656207] (va_pl P656205 F656206) (pp_656210_String_coder D I P656205 F656206 qs656207 qb656208 bs656209) gNA := by
  refine CtA_ofF hl0 (by decide +kernel) (Nat.le_of_ble_eq_true rfl) ?_
  refine G_gets dr_cJ0_coder_7d493_0 wr_3_65 gz_cs (fun x hx => ?_)
  subst hx
  refine G_if_eq 13 dr_cJ0_coder_7d493_3 (by decide +kernel) (fun hc => absurd hc (by decide)) (fun _ => ?_)
  refine G_aload_n 0 dr_cJ0_coder_7d493_6 rfl ?_
  refine G_kget dr_cJ0_coder_7d493_7 wr_8_183 (fun _ _ _ h => (hbs656209 _ _ _ h).2.1) ?_
  refine G_goto 14 dr_cJ0_coder_7d493_10 (by decide +kernel) ?_
  exact G_zretA FieldType.byte dr_cJ0_coder_7d493_14 rfl rfl (Nat.le_of_ble_eq_true rfl) (Nat.le_of_ble_eq_true rfl) ⟨rfl, rfl, (Nat.le_of_ble_eq_true rfl), (Nat.le_of_ble_eq_true rfl)⟩
/- tr_RString_length2: result -/
def tr_RString_length2 (bs : List Int32) (o1 : Int32) : Prop := ∀ R : (Int32) → Prop,
  (∀ (x1 : Int32) (x2 : Int32), x1.toInt = (bs.length : Int) → x2.toInt = x1.toInt / 1 → R x2) →
  R o1
abbrev ky_656203_String_length : gKey := (cJ0_length_8abf5, 1, "java/lang/String", (some FieldType.int), [], "length", fun _ _ => True)
def pp_656203_String_length (D : va_G) (I : FieldType → ClassId) (P656198 : List Nat) (F656199 : Nat → va_E) (qs656200 : Nat) (qb656201 : Nat) (bs656202 : List Int32) : Option Value → va_W → Nat → Nat → Prop := fun r w dc ds => ∃ (o656217 : Int32), r = some (.int o656217) ∧ w = va_pl P656198 F656199 ∧ dc ≤ 0 ∧ ds ≤ 0 ∧ gB o656217 0 65535 ∧ o656217.toInt = (bs656202.length : Int) ∧ tr_RString_length2 bs656202 o656217
set_option maxRecDepth 100000 in
set_option maxHeartbeats 4000000 in
theorem cp_656203_String_length (l : Launch) (hl0 : l.stackTraces = false) (D : va_G) (I : FieldType → ClassId) (P656198 : List Nat) (F656199 : Nat → va_E) (qs656200 : Nat) (qb656201 : Nat) (bs656202 : List Int32) (hbs656202 : ∀ A s H, (gV D I).2.2.2.1 A s H → gSC qs656200 qb656201 bs656202 A s H) (nbs656202 : (bs656202.length : Int) ≤ 65535) (lbs656202 : gLB bs656202) : CtA (gV D I) l yJ0_length_8abf5 cJ0_length_8abf5 1 (some FieldType.int) 1 20 0 0 [.ref qs656200] (va_pl P656198 F656199) (pp_656203_String_length D I P656198 F656199 qs656200 qb656201 bs656202) gNA := by
  refine CtA_ofF hl0 (by decide +kernel) (Nat.le_of_ble_eq_true rfl) ?_
  refine G_aload_n 0 dr_cJ0_length_8abf5_0 rfl ?_
  refine G_kget dr_cJ0_length_8abf5_1 wr_8_182 (fun _ _ _ h => (hbs656202 _ _ _ h).2.2.1) ?_
  refine G_klen dr_cJ0_length_8abf5_4 (fun _ _ _ h => (hbs656202 _ _ _ h).2.2.2) (G_nam fun z656204 hz656204 => ?_)
  have ez656204 : z656204.toInt = (bs656202.length : Int) := gI_ofN hz656204 (by omega)
  have bz656204 : gB z656204 0 65535 := ⟨by omega, by omega⟩
  refine G_aload_n 0 dr_cJ0_length_8abf5_5 rfl ?_
  refine Gw_callVk (As := []) (gV_ok D I) (cp_656210_String_coder l hl0 D I P656198 F656199 qs656200 qb656201 bs656202 hbs656202 nbs656202 lbs656202) dr_cJ0_length_8abf5_6 ⟨wr_3_61, wr_1_21, wr_3_64, by decide, rfl, (Nat.le_of_ble_eq_true rfl), (Nat.le_of_ble_eq_true rfl)⟩ wr_3_62 wr_3_63 (fun _ _ _ h => (hbs656202 _ _ _ h).1) (show 0 + 0 ≤ 0 by first | omega | decide) (show 0 + 0 ≤ 0 by first | omega | decide) (Nat.le_of_ble_eq_true rfl) (fun r656214 w656215 dc656211 ds656212 hp656213 => ?_) (fun _ _ _ _ _ z => z.elim)
  obtain ⟨rfl, rfl, hdc, hds⟩ := hp656213
  change G _ _ _ _ _ _ _ (.int 0 :: _) _ _ _
  refine G_widen (cs' := 0) (sl' := 0) (by omega) (by omega) ?_
  refine G_ishr dr_cJ0_length_8abf5_9 (G_nam fun z656216 hz656216 => ?_)
  have ez656216 : z656216.toInt = z656204.toInt / 1 := gI_shr (k := 0) hz656216 (by decide)
  have bz656216 : gB z656216 0 65535 := ⟨by omega, by omega⟩
  exact G_iretA dr_cJ0_length_8abf5_10 rfl (Nat.le_of_ble_eq_true rfl) (Nat.le_of_ble_eq_true rfl) ⟨z656216, rfl, rfl, (Nat.le_of_ble_eq_true rfl), (Nat.le_of_ble_eq_true rfl), bz656216, (by omega), (fun R c1 => c1 z656204 z656216 ez656204 ez656216)⟩
abbrev ky_656260_AbstractStringBuilder_inflateIfNeededFor : gKey := (cJ5_inflateIfNeededFor_a7421, 2, "java/lang/AbstractStringBuilder", none, [], "inflateIfNeededFor", fun _ _ => True)
def pp_656260_AbstractStringBuilder_inflateIfNeededFor (D : va_G) (I : FieldType → ClassId) (P656248 : List Nat) (F656249 : Nat → va_E) (q656250 : Nat) (q656251 : Nat) (qs656252 : Nat) (qb656253 : Nat) (bs656254 : List Int32) (p656255 : Int32) (p656256 : Int32) (f656257 : Nat → Int32) (n656258 : Nat) : Option Value → va_W → Nat → Nat → Prop := fun r w dc ds => r = none ∧ w = va_pl P656248 F656249 ∧ dc ≤ 0 ∧ ds ≤ 0
set_option maxRecDepth 100000 in
set_option maxHeartbeats 4000000 in
theorem cp_656260_AbstractStringBuilder_inflateIfNeededFor (l : Launch) (hl0 : l.stackTraces = false) (D : va_G) (I : FieldType → ClassId) (P656248 : List Nat) (F656249 : Nat → va_E) (q656250 : Nat) (q656251 : Nat) (qs656252 : Nat) (qb656253 : Nat) (bs656254 : List Int32) (p656255 : Int32) (p656256 : Int32) (f656257 : Nat → Int32) (n656258 : Nat) (hmq656250 : q656250 ∈ P656248) (hmq656251 : q656251 ∈ P656248) (heq656250 : F656249 q656250 = .inr (1, [.ref q656251, .int 0, .int p656255, .int p656256])) (heq656251 : F656249 q656251 = .inl (I .byte, n656258, .inl f656257)) (hbs656254 : ∀ A s H, (gV D I).2.2.2.1 A s H → gSC qs656252 qb656253 bs656254 A s H) (nbs656254 : (bs656254.length : Int) ≤ 65535) (lbs656254 : gLB bs656254) (bp656255 : gB p656255 0 1) (bp656256 : gB p656256 0 16777216) (bf656257 : gF f656257 (-128) 127) (x656259 : ((n656258 : Int) ≤ 16777216)) : CtA (gV D I) l yJ5_inflateIfNeededFor_a7421 cJ5_inflateIfNeededFor_a7421 2 none 1 20 0 0 [.ref q656250, .ref qs656252] (va_pl P656248 F656249) (pp_656260_AbstractStringBuilder_inflateIfNeededFor D I P656248 F656249 q656250 q656251 qs656252 qb656253 bs656254 p656255 p656256 f656257 n656258) gNA := by
  refine CtA_ofF hl0 (by decide +kernel) (Nat.le_of_ble_eq_true rfl) ?_
  refine G_gets dr_cJ5_inflateIfNeededFor_a7421_0 wr_7_52 gz_cs (fun x hx => ?_)
  subst hx
  refine G_if_eq 21 dr_cJ5_inflateIfNeededFor_a7421_3 (by decide +kernel) (fun hc => absurd hc (by decide)) (fun _ => ?_)
  refine G_aload_n 0 dr_cJ5_inflateIfNeededFor_a7421_6 rfl ?_
  refine Gp_get 1 hmq656250 heq656250 dr_cJ5_inflateIfNeededFor_a7421_7 (gk_J4 D I) (Nat.le_of_ble_eq_true rfl) wr_7_61 rfl ?_
  refine G_aload_n 1 dr_cJ5_inflateIfNeededFor_a7421_10 rfl ?_
  refine Gw_callVk (As := []) (gV_ok D I) (cp_656210_String_coder l hl0 D I P656248 F656249 qs656252 qb656253 bs656254 hbs656254 nbs656254 lbs656254) dr_cJ5_inflateIfNeededFor_a7421_11 ⟨wr_8_163, wr_1_21, wr_3_64, by decide, rfl, (Nat.le_of_ble_eq_true rfl), (Nat.le_of_ble_eq_true rfl)⟩ wr_3_62 wr_3_63 (fun _ _ _ h => (hbs656254 _ _ _ h).1) (show 0 + 0 ≤ 0 by first | omega | decide) (show 0 + 0 ≤ 0 by first | omega | decide) (Nat.le_of_ble_eq_true rfl) (fun r656264 w656265 dc656261 ds656262 hp656263 => ?_) (fun _ _ _ _ _ z => z.elim)
  obtain ⟨rfl, rfl, hdc, hds⟩ := hp656263
  change G _ _ _ _ _ _ _ (.int 0 :: _) _ _ _
  refine G_widen (cs' := 0) (sl' := 0) (by omega) (by omega) ?_
  refine G_icmp_eq 21 dr_cJ5_inflateIfNeededFor_a7421_14 (by decide +kernel) (fun _ => ?_) (fun hc => absurd hc (by decide))
  exact G_vretA dr_cJ5_inflateIfNeededFor_a7421_21 rfl (Nat.le_of_ble_eq_true rfl) (Nat.le_of_ble_eq_true rfl) ⟨rfl, rfl, (Nat.le_of_ble_eq_true rfl), (Nat.le_of_ble_eq_true rfl)⟩
/- tr_RString_getBytes2: a.1.[] -/
def tr_RString_getBytes2 (bs : List Int32) (a2 : Int32) (a1_v : Nat → Int32) (o1 : Nat → Int32) : Prop := ∀ R : (Nat → Int32) → Prop,
  (∀ (x1 : Int32) (x2 : Int32) (x3 : Nat → Int32), x1.toInt = a2.toInt * 1 → x2.toInt = (bs.length : Int) → (x3 = va_cpy (fun j => bs.getD j 0) a1_v (0 : Int32).toNatClampNeg x1.toNatClampNeg x2.toNatClampNeg) → R x3) →
  R o1
abbrev ky_656282_String_getBytes : gKey := (cJ0_getBytes_840e7, 4, "java/lang/String", none, [], "getBytes", fun _ _ => True)
def pp_656282_String_getBytes (D : va_G) (I : FieldType → ClassId) (P656271 : List Nat) (F656272 : Nat → va_E) (q656273 : Nat) (qs656274 : Nat) (qb656275 : Nat) (bs656276 : List Int32) (p656277 : Int32) (f656278 : Nat → Int32) (n656279 : Nat) : Option Value → va_W → Nat → Nat → Prop := fun r w dc ds => ∃ (F656298 : Nat → va_E) (f656296 : Nat → Int32), r = none ∧ w = va_pl P656271 F656298 ∧ rFr [q656273] P656271 F656272 F656298 ∧ F656298 q656273 = .inl (I .byte, n656279, .inl f656296) ∧ dc ≤ 0 ∧ ds ≤ 0 ∧ gF f656296 (-128) 127 ∧ sK f656278 f656296 p656277.toInt ∧ sF (fun j => bs656276.getD j 0) f656296 p656277.toInt (bs656276.length : Int) ∧ tr_RString_getBytes2 bs656276 p656277 f656278 f656296
set_option maxRecDepth 100000 in
set_option maxHeartbeats 4000000 in
theorem cp_656282_String_getBytes (l : Launch) (hl0 : l.stackTraces = false) (D : va_G) (I : FieldType → ClassId) (P656271 : List Nat) (F656272 : Nat → va_E) (q656273 : Nat) (qs656274 : Nat) (qb656275 : Nat) (bs656276 : List Int32) (p656277 : Int32) (f656278 : Nat → Int32) (n656279 : Nat) (hmq656273 : q656273 ∈ P656271) (heq656273 : F656272 q656273 = .inl (I .byte, n656279, .inl f656278)) (hbs656276 : ∀ A s H, (gV D I).2.2.2.1 A s H → gSC qs656274 qb656275 bs656276 A s H) (nbs656276 : (bs656276.length : Int) ≤ 65535) (lbs656276 : gLB bs656276) (bp656277 : gB p656277 0 16777216) (bf656278 : gF f656278 (-128) 127) (x656280 : p656277.toInt + (bs656276.length : Int) ≤ (n656279 : Int)) (x656281 : ((n656279 : Int) ≤ 16777216)) : CtA (gV D I) l yJ0_getBytes_840e7 cJ0_getBytes_840e7 4 none 1 20 0 0 [.ref qs656274, .ref q656273, .int p656277, .int 0] (va_pl P656271 F656272) (pp_656282_String_getBytes D I P656271 F656272 q656273 qs656274 qb656275 bs656276 p656277 f656278 n656279) gNA := by
  refine CtA_ofF hl0 (by decide +kernel) (Nat.le_of_ble_eq_true rfl) ?_
  refine G_aload_n 0 dr_cJ0_getBytes_840e7_0 rfl ?_
  refine Gw_callVk (As := []) (gV_ok D I) (cp_656210_String_coder l hl0 D I P656271 F656272 qs656274 qb656275 bs656276 hbs656276 nbs656276 lbs656276) dr_cJ0_getBytes_840e7_1 ⟨wr_3_61, wr_1_21, wr_3_64, by decide, rfl, (Nat.le_of_ble_eq_true rfl), (Nat.le_of_ble_eq_true rfl)⟩ wr_3_62 wr_3_63 (fun _ _ _ h => (hbs656276 _ _ _ h).1) (show 0 + 0 ≤ 0 by first | omega | decide) (show 0 + 0 ≤ 0 by first | omega | decide) (Nat.le_of_ble_eq_true rfl) (fun r656286 w656287 dc656283 ds656284 hp656285 => ?_) (fun _ _ _ _ _ z => z.elim)
  obtain ⟨rfl, rfl, hdc, hds⟩ := hp656285
  change G _ _ _ _ _ _ _ (.int 0 :: _) _ _ _
  refine G_widen (cs' := 0) (sl' := 0) (by omega) (by omega) ?_
  refine G_iload_n 3 dr_cJ0_getBytes_840e7_4 rfl ?_
  refine G_icmp_ne 28 dr_cJ0_getBytes_840e7_5 (by decide +kernel) (fun hc => absurd hc (by decide)) (fun _ => ?_)
  refine G_aload_n 0 dr_cJ0_getBytes_840e7_8 rfl ?_
  refine G_kget dr_cJ0_getBytes_840e7_9 wr_8_182 (fun _ _ _ h => (hbs656276 _ _ _ h).2.2.1) ?_
  refine G_iconst 0 dr_cJ0_getBytes_840e7_12 (by decide +kernel) ?_
  refine G_aload_n 1 dr_cJ0_getBytes_840e7_13 rfl ?_
  refine G_iload_n 2 dr_cJ0_getBytes_840e7_14 rfl ?_
  refine G_iload_n 3 dr_cJ0_getBytes_840e7_15 rfl ?_
  refine G_ishl dr_cJ0_getBytes_840e7_16 (G_nam fun z656288 hz656288 => ?_)
  have ez656288 : z656288.toInt = p656277.toInt * 1 := gI_shl (k := 0) hz656288 (by decide) bp656277 (by decide) (by decide)
  have bz656288 : gB z656288 0 16777216 := ⟨by omega, by omega⟩
  refine G_aload_n 0 dr_cJ0_getBytes_840e7_17 rfl ?_
  refine G_kget dr_cJ0_getBytes_840e7_18 wr_8_182 (fun _ _ _ h => (hbs656276 _ _ _ h).2.2.1) ?_
  refine G_klen dr_cJ0_getBytes_840e7_21 (fun _ _ _ h => (hbs656276 _ _ _ h).2.2.2) (G_nam fun z656289 hz656289 => ?_)
  have ez656289 : z656289.toInt = (bs656276.length : Int) := gI_ofN hz656289 (by omega)
  have bz656289 : gB z656289 0 65535 := ⟨by omega, by omega⟩
  refine Gp_copyK 1 (fun _ _ _ h => (hbs656276 _ _ _ h).2.2.2) hmq656273 heq656273 dr_cJ0_getBytes_840e7_22 wr_8_168 wr_5_113 wr_5_112 wr_1_34 rfl (gF_lst lbs656276) (by decide) (by omega) (by omega) (by have qa0 : Int32.toInt 0 = 0 := (by decide); omega) (by have qa0 : Int32.toInt 0 = 0 := (by decide); omega) (Nat.le_of_ble_eq_true rfl) (Nat.le_of_ble_eq_true rfl) (fun F656290 e656291 n656292 => ?_)
  obtain ⟨f656293, hf656293⟩ : ∃ z, z = va_cpy (fun j => bs656276.getD j 0) f656278 (0 : Int32).toNatClampNeg z656288.toNatClampNeg z656289.toNatClampNeg := ⟨_, rfl⟩
  rw [← hf656293] at e656291
  have bf656293 : gF f656293 (-128) 127 := gF_cpy hf656293 (gF_lst lbs656276) bf656278
  have he656294 : F656290 q656273 = .inl (I .byte, n656279, .inl f656293) := e656291
  have hfr656295 : rFr [q656273] P656271 F656272 F656290 := rFr_put (rFr_rf (W := []) (P := P656271) (F := F656272)) n656292
  refine G_goto 43 dr_cJ0_getBytes_840e7_25 (by decide +kernel) ?_
  exact G_vretA dr_cJ0_getBytes_840e7_43 rfl (Nat.le_of_ble_eq_true rfl) (Nat.le_of_ble_eq_true rfl) ⟨F656290, f656293, rfl, rfl, hfr656295, he656294, (Nat.le_of_ble_eq_true rfl), (Nat.le_of_ble_eq_true rfl), bf656293, (sK_cpy hf656293 (by omega)), (sF_cpy hf656293 (by decide) (by omega) (by omega)), (fun R c1 => c1 z656288 z656289 f656293 ez656288 ez656289 hf656293)⟩
/- tr_RAbstractStringBuilder_putStringAt2: a.0.value.[] -/
def tr_RAbstractStringBuilder_putStringAt2 (a1 : Int32) (bs : List Int32) (a0_value_v : Nat → Int32) (o1 : Nat → Int32) : Prop := ∀ R : (Nat → Int32) → Prop,
  (∀ (x1 : Nat → Int32), tr_RString_getBytes2 bs a1 a0_value_v x1 → R x1) →
  R o1
abbrev ky_656247_AbstractStringBuilder_putStringAt : gKey := (cJ5_putStringAt_47b60, 3, "java/lang/AbstractStringBuilder", none, [], "putStringAt", fun _ _ => True)
def pp_656247_AbstractStringBuilder_putStringAt (D : va_G) (I : FieldType → ClassId) (P656233 : List Nat) (F656234 : Nat → va_E) (q656235 : Nat) (q656236 : Nat) (p656237 : Int32) (qs656238 : Nat) (qb656239 : Nat) (bs656240 : List Int32) (p656241 : Int32) (p656242 : Int32) (f656243 : Nat → Int32) (n656244 : Nat) : Option Value → va_W → Nat → Nat → Prop := fun r w dc ds => ∃ (F656316 : Nat → va_E) (f656314 : Nat → Int32), r = none ∧ w = va_pl P656233 F656316 ∧ rFr [q656236] P656233 F656234 F656316 ∧ F656316 q656235 = .inr (1, [.ref q656236, .int 0, .int p656241, .int p656242]) ∧ F656316 q656236 = .inl (I .byte, n656244, .inl f656314) ∧ dc ≤ 0 ∧ ds ≤ 0 ∧ gF f656314 (-128) 127 ∧ sK f656243 f656314 p656237.toInt ∧ sF (fun j => bs656240.getD j 0) f656314 p656237.toInt (bs656240.length : Int) ∧ tr_RAbstractStringBuilder_putStringAt2 p656237 bs656240 f656243 f656314
set_option maxRecDepth 100000 in
set_option maxHeartbeats 4000000 in
theorem cp_656247_AbstractStringBuilder_putStringAt (l : Launch) (hl0 : l.stackTraces = false) (D : va_G) (I : FieldType → ClassId) (P656233 : List Nat) (F656234 : Nat → va_E) (q656235 : Nat) (q656236 : Nat) (p656237 : Int32) (qs656238 : Nat) (qb656239 : Nat) (bs656240 : List Int32) (p656241 : Int32) (p656242 : Int32) (f656243 : Nat → Int32) (n656244 : Nat) (hmq656235 : q656235 ∈ P656233) (hmq656236 : q656236 ∈ P656233) (heq656235 : F656234 q656235 = .inr (1, [.ref q656236, .int 0, .int p656241, .int p656242])) (heq656236 : F656234 q656236 = .inl (I .byte, n656244, .inl f656243)) (hbs656240 : ∀ A s H, (gV D I).2.2.2.1 A s H → gSC qs656238 qb656239 bs656240 A s H) (nbs656240 : (bs656240.length : Int) ≤ 65535) (lbs656240 : gLB bs656240) (bp656237 : gB p656237 0 16777216) (bp656241 : gB p656241 0 1) (bp656242 : gB p656242 0 16777216) (bf656243 : gF f656243 (-128) 127) (x656245 : p656237.toInt + (bs656240.length : Int) ≤ (n656244 : Int)) (x656246 : ((n656244 : Int) ≤ 16777216)) : CtA (gV D I) l yJ5_putStringAt_47b60 cJ5_putStringAt_47b60 3 none 2 43 0 0 [.ref q656235, .int p656237, .ref qs656238] (va_pl P656233 F656234) (pp_656247_AbstractStringBuilder_putStringAt D I P656233 F656234 q656235 q656236 p656237 qs656238 qb656239 bs656240 p656241 p656242 f656243 n656244) gNA := by
  refine CtA_ofF hl0 (by decide +kernel) (Nat.le_of_ble_eq_true rfl) ?_
  refine G_aload_n 0 dr_cJ5_putStringAt_47b60_0 rfl ?_
  refine G_aload_n 2 dr_cJ5_putStringAt_47b60_1 rfl ?_
  refine Gw_callVB (As := [.ref qs656238]) (gV_ok D I) (cp_656260_AbstractStringBuilder_inflateIfNeededFor l hl0 D I P656233 F656234 q656235 q656236 qs656238 qb656239 bs656240 p656241 p656242 f656243 n656244 hmq656235 hmq656236 heq656235 heq656236 hbs656240 nbs656240 lbs656240 bp656241 bp656242 bf656243 (by have qa0 : Int32.toInt 0 = 0 := (by decide); omega)) dr_cJ5_putStringAt_47b60_2 ⟨wr_8_159, wr_1_19, wr_8_162, by decide, rfl, (Nat.le_of_ble_eq_true rfl), (Nat.le_of_ble_eq_true rfl)⟩ wr_8_161 wr_s_5 hmq656235 heq656235 rfl (show 0 + 0 ≤ 0 by first | omega | decide) (show 0 + 0 ≤ 0 by first | omega | decide) (Nat.le_of_ble_eq_true rfl) (fun r656269 w656270 dc656266 ds656267 hp656268 => ?_) (fun _ _ _ _ _ z => z.elim)
  obtain ⟨rfl, rfl, hdc, hds⟩ := hp656268
  change G _ _ _ _ _ _ _ _ _ _ _
  refine G_widen (cs' := 0) (sl' := 0) (by omega) (by omega) ?_
  refine G_aload_n 2 dr_cJ5_putStringAt_47b60_5 rfl ?_
  refine G_aload_n 0 dr_cJ5_putStringAt_47b60_6 rfl ?_
  refine Gp_get 0 hmq656235 heq656235 dr_cJ5_putStringAt_47b60_7 (gk_J4 D I) (Nat.le_of_ble_eq_true rfl) wr_7_60 rfl ?_
  refine G_iload_n 1 dr_cJ5_putStringAt_47b60_10 rfl ?_
  refine G_aload_n 0 dr_cJ5_putStringAt_47b60_11 rfl ?_
  refine Gp_get 1 hmq656235 heq656235 dr_cJ5_putStringAt_47b60_12 (gk_J4 D I) (Nat.le_of_ble_eq_true rfl) wr_7_61 rfl ?_
  refine Gw_callVk (As := [.ref q656236, .int p656237, .int 0]) (gV_ok D I) (cp_656282_String_getBytes l hl0 D I P656233 F656234 q656236 qs656238 qb656239 bs656240 p656237 f656243 n656244 hmq656236 heq656236 hbs656240 nbs656240 lbs656240 bp656237 bf656243 (by have qa0 : Int32.toInt 0 = 0 := (by decide); omega) (by have qa0 : Int32.toInt 0 = 0 := (by decide); omega)) dr_cJ5_putStringAt_47b60_15 ⟨wr_8_164, wr_1_21, wr_8_167, by decide, rfl, (Nat.le_of_ble_eq_true rfl), (Nat.le_of_ble_eq_true rfl)⟩ wr_8_165 wr_8_166 (fun _ _ _ h => (hbs656240 _ _ _ h).1) (show 0 + 0 ≤ 0 by first | omega | decide) (show 0 + 0 ≤ 0 by first | omega | decide) (Nat.le_of_ble_eq_true rfl) (fun r656302 w656303 dc656299 ds656300 hp656301 => ?_) (fun _ _ _ _ _ z => z.elim)
  obtain ⟨F656308, f656304, rfl, rfl, hfr656310, he656311, hdc, hds, bf656304, x656305, x656306, ht656307⟩ := hp656301
  have he656312 : F656308 q656235 = .inr (1, [.ref q656236, .int 0, .int p656241, .int p656242]) := (hfr656310 q656235 hmq656235 (nm_c (rn_oa heq656235 heq656236) nm_n)).trans heq656235
  have hfr656313 : rFr [q656236] P656233 F656234 F656308 := rFr_call (rSub_rf (P := P656233)) (rFr_rf (W := []) (P := P656233) (F := F656234)) hfr656310 (fun b hb hn => ⟨nm_n, (nm_c (fun e => hn (e ▸ List.mem_cons_self)) nm_n)⟩)
  change G _ _ _ _ _ _ _ _ _ _ _
  refine G_widen (cs' := 0) (sl' := 0) (by omega) (by omega) ?_
  exact G_vretA dr_cJ5_putStringAt_47b60_18 rfl (Nat.le_of_ble_eq_true rfl) (Nat.le_of_ble_eq_true rfl) ⟨F656308, f656304, rfl, rfl, hfr656313, he656312, he656311, (Nat.le_of_ble_eq_true rfl), (Nat.le_of_ble_eq_true rfl), bf656304, (sK_c x656305 (by omega)), (by assumption), (fun R c1 => c1 f656304 ht656307)⟩
/- tr_RAbstractStringBuilder_append4: a.0...count, a.0.value.[] -/
def tr_RAbstractStringBuilder_append4 (bs : List Int32) (a0_count : Int32) (a0_value_v : Nat → Int32) (a0_value_n : Nat) (o1 : Int32) (o2 : Nat → Int32) : Prop := ∀ R : (Int32) → (Nat → Int32) → Prop,
  (∀ (x1 : Int32) (x2 : Int32) (x3 : Nat → Int32) (x4 : Int32), gB x1 0 65535 → tr_RString_length2 bs x1 → x2.toInt = a0_count.toInt + x1.toInt → tr_RAbstractStringBuilder_ensureCapacityInternal x2 a0_value_n → tr_RAbstractStringBuilder_putStringAt2 a0_count bs a0_value_v x3 → x4.toInt = a0_count.toInt + x1.toInt → R x4 x3) →
  R o1 o2
abbrev ky_656197_AbstractStringBuilder_append : gKey := (cJ5_append_cf1ce, 3, "java/lang/AbstractStringBuilder", (some (FieldType.object "java/lang/AbstractStringBuilder")), [], "append", fun _ _ => True)
def pp_656197_AbstractStringBuilder_append (D : va_G) (I : FieldType → ClassId) (P656184 : List Nat) (F656185 : Nat → va_E) (q656186 : Nat) (q656187 : Nat) (qs656188 : Nat) (qb656189 : Nat) (bs656190 : List Int32) (p656191 : Int32) (p656192 : Int32) (f656193 : Nat → Int32) (n656194 : Nat) : Option Value → va_W → Nat → Nat → Prop := fun r w dc ds => ∃ (F656342 : Nat → va_E) (o656339 : Int32) (f656340 : Nat → Int32), r = some (.ref q656186) ∧ w = va_pl P656184 F656342 ∧ rFr [q656186, q656187] P656184 F656185 F656342 ∧ F656342 q656186 = .inr (1, [.ref q656187, .int 0, .int p656191, .int o656339]) ∧ F656342 q656187 = .inl (I .byte, n656194, .inl f656340) ∧ dc ≤ 0 ∧ ds ≤ 0 ∧ gB o656339 0 16777216 ∧ gF f656340 (-128) 127 ∧ o656339.toInt = p656192.toInt + (bs656190.length : Int) ∧ sK f656193 f656340 p656192.toInt ∧ sF (fun j => bs656190.getD j 0) f656340 p656192.toInt (bs656190.length : Int) ∧ tr_RAbstractStringBuilder_append4 bs656190 p656192 f656193 n656194 o656339 f656340
set_option maxRecDepth 100000 in
set_option maxHeartbeats 4000000 in
theorem cp_656197_AbstractStringBuilder_append (l : Launch) (hl0 : l.stackTraces = false) (D : va_G) (I : FieldType → ClassId) (P656184 : List Nat) (F656185 : Nat → va_E) (q656186 : Nat) (q656187 : Nat) (qs656188 : Nat) (qb656189 : Nat) (bs656190 : List Int32) (p656191 : Int32) (p656192 : Int32) (f656193 : Nat → Int32) (n656194 : Nat) (hmq656186 : q656186 ∈ P656184) (hmq656187 : q656187 ∈ P656184) (heq656186 : F656185 q656186 = .inr (1, [.ref q656187, .int 0, .int p656191, .int p656192])) (heq656187 : F656185 q656187 = .inl (I .byte, n656194, .inl f656193)) (hbs656190 : ∀ A s H, (gV D I).2.2.2.1 A s H → gSC qs656188 qb656189 bs656190 A s H) (nbs656190 : (bs656190.length : Int) ≤ 65535) (lbs656190 : gLB bs656190) (bp656191 : gB p656191 0 1) (bp656192 : gB p656192 0 16777216) (bf656193 : gF f656193 (-128) 127) (x656195 : p656192.toInt + (bs656190.length : Int) ≤ (n656194 : Int)) (x656196 : ((n656194 : Int) ≤ 16777216)) : CtA (gV D I) l yJ5_append_cf1ce cJ5_append_cf1ce 3 (some (FieldType.object "java/lang/AbstractStringBuilder")) 3 65 0 0 [.ref q656186, .ref qs656188] (va_pl P656184 F656185) (pp_656197_AbstractStringBuilder_append D I P656184 F656185 q656186 q656187 qs656188 qb656189 bs656190 p656191 p656192 f656193 n656194) gNA := by
  refine CtA_ofF hl0 (by decide +kernel) (Nat.le_of_ble_eq_true rfl) ?_
  refine G_aload_n 1 dr_cJ5_append_cf1ce_0 rfl ?_
  refine G_ifnonnull 9 dr_cJ5_append_cf1ce_1 (by decide +kernel) ?_
  refine G_aload_n 1 dr_cJ5_append_cf1ce_9 rfl ?_
  refine Gw_callVk (As := []) (gV_ok D I) (cp_656203_String_length l hl0 D I P656184 F656185 qs656188 qb656189 bs656190 hbs656190 nbs656190 lbs656190) dr_cJ5_append_cf1ce_10 ⟨wr_8_154, wr_1_21, wr_3_60, by decide, rfl, (Nat.le_of_ble_eq_true rfl), (Nat.le_of_ble_eq_true rfl)⟩ wr_3_58 wr_3_59 (fun _ _ _ h => (hbs656190 _ _ _ h).1) (show 0 + 0 ≤ 0 by first | omega | decide) (show 0 + 0 ≤ 0 by first | omega | decide) (Nat.le_of_ble_eq_true rfl) (fun r656221 w656222 dc656218 ds656219 hp656220 => ?_) (fun _ _ _ _ _ z => z.elim)
  obtain ⟨o656223, rfl, rfl, hdc, hds, bo656223, x656224, ht656225⟩ := hp656220
  change G _ _ _ _ _ _ _ (.int o656223 :: _) _ _ _
  refine G_widen (cs' := 0) (sl' := 0) (by omega) (by omega) ?_
  refine G_istore_n (L' := [(2, .int o656223), (0, .ref q656186), (1, .ref qs656188)]) dr_cJ5_append_cf1ce_13 (Nat.le_of_ble_eq_true rfl) rfl ?_
  refine G_aload_n 1 dr_cJ5_append_cf1ce_14 rfl ?_
  refine G_aload_n 1 dr_cJ5_append_cf1ce_15 rfl ?_
  refine Gp_get 3 hmq656186 heq656186 dr_cJ5_append_cf1ce_16 (gk_J4 D I) (Nat.le_of_ble_eq_true rfl) wr_7_64 rfl ?_
  refine G_iload_n 0 dr_cJ5_append_cf1ce_19 rfl ?_
  refine G_iadd dr_cJ5_append_cf1ce_20 (G_nam fun z656226 hz656226 => ?_)
  have ez656226 : z656226.toInt = p656192.toInt + o656223.toInt := by rw [gI_add hz656226 bp656192 bo656223 (by decide) (by decide)]
  have bz656226 : gB z656226 0 16842751 := gB_add (gI_add hz656226 bp656192 bo656223 (by decide) (by decide)) bp656192 bo656223 (by decide) (by decide)
  refine Gw_callVB (As := [.int z656226]) (gV_ok D I) (cp_655467_AbstractStringBuilder_ensureCapacityInternal l hl0 D I P656184 F656185 q656186 q656187 z656226 p656191 p656192 f656193 n656194 hmq656186 hmq656187 heq656186 heq656187 ⟨by omega, by omega⟩ bp656191 bp656192 bf656193 (by have qa0 : Int32.toInt 0 = 0 := (by decide); omega) (by have qa0 : Int32.toInt 0 = 0 := (by decide); omega)) dr_cJ5_append_cf1ce_21 ⟨wr_8_4, wr_1_19, wr_8_7, by decide, rfl, (Nat.le_of_ble_eq_true rfl), (Nat.le_of_ble_eq_true rfl)⟩ wr_8_6 wr_s_0 hmq656186 heq656186 rfl (show 0 + 0 ≤ 0 by first | omega | decide) (show 0 + 0 ≤ 0 by first | omega | decide) (Nat.le_of_ble_eq_true rfl) (fun r656230 w656231 dc656227 ds656228 hp656229 => ?_) (fun _ _ _ _ _ z => z.elim)
  obtain ⟨rfl, rfl, hdc, hds, ht656232⟩ := hp656229
  change G _ _ _ _ _ _ _ _ _ _ _
  refine G_widen (cs' := 0) (sl' := 0) (by omega) (by omega) ?_
  refine G_aload_n 1 dr_cJ5_append_cf1ce_24 rfl ?_
  refine G_aload_n 1 dr_cJ5_append_cf1ce_25 rfl ?_
  refine Gp_get 3 hmq656186 heq656186 dr_cJ5_append_cf1ce_26 (gk_J4 D I) (Nat.le_of_ble_eq_true rfl) wr_7_64 rfl ?_
  refine G_aload_n 2 dr_cJ5_append_cf1ce_29 rfl ?_
  refine Gw_callVB (As := [.int p656192, .ref qs656188]) (gV_ok D I) (cp_656247_AbstractStringBuilder_putStringAt l hl0 D I P656184 F656185 q656186 q656187 p656192 qs656188 qb656189 bs656190 p656191 p656192 f656193 n656194 hmq656186 hmq656187 heq656186 heq656187 hbs656190 nbs656190 lbs656190 bp656192 bp656191 bp656192 bf656193 (by have qa0 : Int32.toInt 0 = 0 := (by decide); omega) (by have qa0 : Int32.toInt 0 = 0 := (by decide); omega)) dr_cJ5_append_cf1ce_30 ⟨wr_8_155, wr_1_19, wr_8_158, by decide, rfl, (Nat.le_of_ble_eq_true rfl), (Nat.le_of_ble_eq_true rfl)⟩ wr_8_157 wr_s_4 hmq656186 heq656186 rfl (show 0 + 0 ≤ 0 by first | omega | decide) (show 0 + 0 ≤ 0 by first | omega | decide) (Nat.le_of_ble_eq_true rfl) (fun r656320 w656321 dc656317 ds656318 hp656319 => ?_) (fun _ _ _ _ _ z => z.elim)
  obtain ⟨F656326, f656322, rfl, rfl, hfr656328, he656329, he656330, hdc, hds, bf656322, x656323, x656324, ht656325⟩ := hp656319
  have hfr656331 : rFr [q656187] P656184 F656185 F656326 := rFr_call (rSub_rf (P := P656184)) (rFr_rf (W := []) (P := P656184) (F := F656185)) hfr656328 (fun b hb hn => ⟨nm_n, (nm_c (fun e => hn (e ▸ List.mem_cons_self)) nm_n)⟩)
  change G _ _ _ _ _ _ _ _ _ _ _
  refine G_widen (cs' := 0) (sl' := 0) (by omega) (by omega) ?_
  refine G_aload_n 1 dr_cJ5_append_cf1ce_33 rfl ?_
  refine G_dup dr_cJ5_append_cf1ce_34 rfl ?_
  refine Gp_get 3 hmq656186 he656329 dr_cJ5_append_cf1ce_35 (gk_J4 D I) (Nat.le_of_ble_eq_true rfl) wr_7_64 rfl ?_
  refine G_iload_n 0 dr_cJ5_append_cf1ce_38 rfl ?_
  refine G_iadd dr_cJ5_append_cf1ce_39 (G_nam fun z656332 hz656332 => ?_)
  have ez656332 : z656332.toInt = p656192.toInt + o656223.toInt := by rw [gI_add hz656332 bp656192 bo656223 (by decide) (by decide)]
  have bz656332 : gB z656332 0 16842751 := gB_add (gI_add hz656332 bp656192 bo656223 (by decide) (by decide)) bp656192 bo656223 (by decide) (by decide)
  refine Gp_put 3 hmq656186 he656329 dr_cJ5_append_cf1ce_40 (gk_J4 D I) (Nat.le_of_ble_eq_true rfl) wr_7_64 rfl rfl rfl (Nat.le_of_ble_eq_true rfl) (fun F656333 e656334 n656335 => ?_)
  have he656336 : F656333 q656187 = .inl (I .byte, n656194, .inl f656322) := (n656335 q656187 (rn_ao he656330 he656329)).trans he656330
  have he656337 : F656333 q656186 = .inr (1, [.ref q656187, .int 0, .int p656191, .int z656332]) := e656334
  have hfr656338 : rFr [q656186, q656187] P656184 F656185 F656333 := rFr_put hfr656331 n656335
  refine G_aload_n 1 dr_cJ5_append_cf1ce_43 rfl ?_
  exact G_aretA (FieldType.object "java/lang/AbstractStringBuilder") dr_cJ5_append_cf1ce_44 rfl (by first | exact Or.inl ⟨_, rfl⟩ | exact Or.inr ⟨_, rfl⟩) (Or.inr ⟨_, rfl⟩) (Nat.le_of_ble_eq_true rfl) (Nat.le_of_ble_eq_true rfl) ⟨F656333, z656332, f656322, rfl, rfl, hfr656338, he656337, he656336, (Nat.le_of_ble_eq_true rfl), (Nat.le_of_ble_eq_true rfl), ⟨by omega, by omega⟩, bf656322, (by have qa0 : Int32.toInt 0 = 0 := (by decide); omega), (sK_c x656323 (by omega)), (by assumption), (fun R c1 => c1 o656223 z656226 f656322 z656332 bo656223 ht656225 ez656226 ht656232 ht656325 ez656332)⟩
/- tr_RStringBuilder_append4: a.0...count, a.0.value.[] -/
def tr_RStringBuilder_append4 (bs : List Int32) (a0_count : Int32) (a0_value_v : Nat → Int32) (a0_value_n : Nat) (o1 : Int32) (o2 : Nat → Int32) : Prop := ∀ R : (Int32) → (Nat → Int32) → Prop,
  (∀ (x1 : Int32) (x2 : Nat → Int32), gB x1 0 16777216 → tr_RAbstractStringBuilder_append4 bs a0_count a0_value_v a0_value_n x1 x2 → R x1 x2) →
  R o1 o2
abbrev ky_656183_StringBuilder_append : gKey := (cJ4_append_15ec4, 2, "java/lang/StringBuilder", (some (FieldType.object "java/lang/StringBuilder")), [], "append", fun _ _ => True)
def pp_656183_StringBuilder_append (D : va_G) (I : FieldType → ClassId) (P656170 : List Nat) (F656171 : Nat → va_E) (q656172 : Nat) (q656173 : Nat) (qs656174 : Nat) (qb656175 : Nat) (bs656176 : List Int32) (p656177 : Int32) (p656178 : Int32) (f656179 : Nat → Int32) (n656180 : Nat) : Option Value → va_W → Nat → Nat → Prop := fun r w dc ds => ∃ (F656363 : Nat → va_E) (o656360 : Int32) (f656361 : Nat → Int32), r = some (.ref q656172) ∧ w = va_pl P656170 F656363 ∧ rFr [q656172, q656173] P656170 F656171 F656363 ∧ F656363 q656172 = .inr (1, [.ref q656173, .int 0, .int p656177, .int o656360]) ∧ F656363 q656173 = .inl (I .byte, n656180, .inl f656361) ∧ dc ≤ 0 ∧ ds ≤ 0 ∧ gB o656360 0 16777216 ∧ gF f656361 (-128) 127 ∧ o656360.toInt = p656178.toInt + (bs656176.length : Int) ∧ sK f656179 f656361 p656178.toInt ∧ sF (fun j => bs656176.getD j 0) f656361 p656178.toInt (bs656176.length : Int) ∧ tr_RStringBuilder_append4 bs656176 p656178 f656179 n656180 o656360 f656361
set_option maxRecDepth 100000 in
set_option maxHeartbeats 4000000 in
theorem cp_656183_StringBuilder_append (l : Launch) (hl0 : l.stackTraces = false) (D : va_G) (I : FieldType → ClassId) (P656170 : List Nat) (F656171 : Nat → va_E) (q656172 : Nat) (q656173 : Nat) (qs656174 : Nat) (qb656175 : Nat) (bs656176 : List Int32) (p656177 : Int32) (p656178 : Int32) (f656179 : Nat → Int32) (n656180 : Nat) (hmq656172 : q656172 ∈ P656170) (hmq656173 : q656173 ∈ P656170) (heq656172 : F656171 q656172 = .inr (1, [.ref q656173, .int 0, .int p656177, .int p656178])) (heq656173 : F656171 q656173 = .inl (I .byte, n656180, .inl f656179)) (hbs656176 : ∀ A s H, (gV D I).2.2.2.1 A s H → gSC qs656174 qb656175 bs656176 A s H) (nbs656176 : (bs656176.length : Int) ≤ 65535) (lbs656176 : gLB bs656176) (bp656177 : gB p656177 0 1) (bp656178 : gB p656178 0 16777216) (bf656179 : gF f656179 (-128) 127) (x656181 : p656178.toInt + (bs656176.length : Int) ≤ (n656180 : Int)) (x656182 : ((n656180 : Int) ≤ 16777216)) : CtA (gV D I) l yJ4_append_15ec4 cJ4_append_15ec4 2 (some (FieldType.object "java/lang/StringBuilder")) 4 87 0 0 [.ref q656172, .ref qs656174] (va_pl P656170 F656171) (pp_656183_StringBuilder_append D I P656170 F656171 q656172 q656173 qs656174 qb656175 bs656176 p656177 p656178 f656179 n656180) gNA := by
  refine CtA_ofF hl0 (by decide +kernel) (Nat.le_of_ble_eq_true rfl) ?_
  refine G_aload_n 0 dr_cJ4_append_15ec4_0 rfl ?_
  refine G_aload_n 1 dr_cJ4_append_15ec4_1 rfl ?_
  refine Gw_callSU (As := [.ref qs656174]) (gV_ok D I) (cp_656197_AbstractStringBuilder_append l hl0 D I P656170 F656171 q656172 q656173 qs656174 qb656175 bs656176 p656177 p656178 f656179 n656180 hmq656172 hmq656173 heq656172 heq656173 hbs656176 nbs656176 lbs656176 bp656177 bp656178 bf656179 (by have qa0 : Int32.toInt 0 = 0 := (by decide); omega) (by have qa0 : Int32.toInt 0 = 0 := (by decide); omega)) dr_cJ4_append_15ec4_2 ⟨wr_8_144, wr_1_19, wr_8_146, by decide, rfl, (Nat.le_of_ble_eq_true rfl), (Nat.le_of_ble_eq_true rfl)⟩ wr_8_145 wr_11_229 wr_7_73 wr_7_44 (by decide) hmq656172 heq656172 rfl (show 0 + 0 ≤ 0 by first | omega | decide) (show 0 + 0 ≤ 0 by first | omega | decide) (Nat.le_of_ble_eq_true rfl) (fun r656346 w656347 dc656343 ds656344 hp656345 => ?_)
  obtain ⟨F656354, o656348, f656349, rfl, rfl, hfr656356, he656357, he656358, hdc, hds, bo656348, bf656349, x656350, x656351, x656352, ht656353⟩ := hp656345
  have hfr656359 : rFr [q656172, q656173] P656170 F656171 F656354 := rFr_call (rSub_rf (P := P656170)) (rFr_rf (W := []) (P := P656170) (F := F656171)) hfr656356 (fun b hb hn => ⟨nm_n, (nm_c (fun e => hn (e ▸ List.mem_cons_self)) (nm_c (fun e => hn (e ▸ (List.mem_cons_of_mem _ List.mem_cons_self))) nm_n))⟩)
  change G _ _ _ _ _ _ _ (.ref q656172 :: _) _ _ _
  refine G_widen (cs' := 0) (sl' := 0) (by omega) (by omega) ?_
  refine G_pop dr_cJ4_append_15ec4_5 rfl ?_
  refine G_aload_n 0 dr_cJ4_append_15ec4_6 rfl ?_
  exact G_aretA (FieldType.object "java/lang/StringBuilder") dr_cJ4_append_15ec4_7 rfl (by first | exact Or.inl ⟨_, rfl⟩ | exact Or.inr ⟨_, rfl⟩) (Or.inr ⟨_, rfl⟩) (Nat.le_of_ble_eq_true rfl) (Nat.le_of_ble_eq_true rfl) ⟨F656354, o656348, f656349, rfl, rfl, hfr656359, he656357, he656358, (Nat.le_of_ble_eq_true rfl), (Nat.le_of_ble_eq_true rfl), bo656348, bf656349, (by have qa0 : Int32.toInt 0 = 0 := (by decide); omega), (sK_c x656351 (by omega)), (by assumption), (fun R c1 => c1 o656348 f656349 bo656348 ht656353)⟩
/- tr_RAbstractStringBuilder_append5: a.0...count, a.0.value.#, a.0.value.[] -/
def tr_RAbstractStringBuilder_append5 (a0_count : Int32) (a0_value_v : Nat → Int32) (a0_value_n : Nat) (a1_value_v : Nat → Int32) (a1_value_n : Nat) (o1 : Int32) (o2 : Nat) (o3 : Nat → Int32) : Prop := ∀ R : (Int32) → (Nat) → (Nat → Int32) → Prop,
  (∀ (x1 : Int32) (x2 : Int32) (x3 : Nat) (x4 : Nat → Int32) (x5 : Nat → Int32) (x6 : Int32), gB x1 0 16777216 → tr_RString_length a1_value_n x1 → x2.toInt = a0_count.toInt + x1.toInt → tr_RAbstractStringBuilder_ensureCapacityInternal2 x2 a0_value_v a0_value_n x3 x4 → tr_RAbstractStringBuilder_putStringAt a0_count x4 a1_value_v a1_value_n x5 → x6.toInt = a0_count.toInt + x1.toInt → R x6 x3 x5) →
  R o1 o2 o3
abbrev ky_656403_AbstractStringBuilder_append : gKey := (cJ5_append_cf1ce, 3, "java/lang/AbstractStringBuilder", (some (FieldType.object "java/lang/AbstractStringBuilder")), [], "append", fun _ _ => True)
def pp_656403_AbstractStringBuilder_append (D : va_G) (I : FieldType → ClassId) (P656384 : List Nat) (F656385 : Nat → va_E) (q656386 : Nat) (q656387 : Nat) (q656388 : Nat) (q656389 : Nat) (p656390 : Int32) (p656391 : Int32) (p656392 : Int32) (p656393 : Int32) (f656394 : Nat → Int32) (n656395 : Nat) (f656396 : Nat → Int32) (n656397 : Nat) : Option Value → va_W → Nat → Nat → Prop := fun r w dc ds => ∃ (P656475 : List Nat) (F656476 : Nat → va_E) (o656471 : Int32) (q656472 : Nat) (n656473 : Nat) (f656474 : Nat → Int32), r = some (.ref q656386) ∧ w = va_pl P656475 F656476 ∧ rSub P656384 P656475 ∧ rFr [q656386, q656388] P656384 F656385 F656476 ∧ F656476 q656386 = .inr (1, [.ref q656472, .int 0, .int p656390, .int o656471]) ∧ F656476 q656387 = .inr (0, [.ref q656389, .int 0, .int p656392, .int p656393]) ∧ F656476 q656472 = .inl (I .byte, n656473, .inl f656474) ∧ F656476 q656389 = .inl (I .byte, n656397, .inl f656396) ∧ q656472 ∈ P656475 ∧ (q656472 = q656388 ∨ q656472 ∉ P656384) ∧ dc ≤ 1 ∧ ds ≤ 2 * (n656473 - n656395) ∧ gB o656471 0 16777216 ∧ gF f656474 (-128) 127 ∧ o656471.toInt = p656391.toInt + (n656397 : Int) ∧ o656471.toInt ≤ (n656473 : Int) ∧ (n656395 : Int) ≤ (n656473 : Int) ∧ (n656473 : Int) ≤ 2 * (n656395 : Int) + 2 + p656391.toInt + (n656397 : Int) ∧ ((n656473 : Int) = (n656395 : Int) ∨ (n656395 : Int) < o656471.toInt) ∧ tr_RAbstractStringBuilder_append5 p656391 f656394 n656395 f656396 n656397 o656471 n656473 f656474
set_option maxRecDepth 100000 in
set_option maxHeartbeats 4000000 in
theorem cp_656403_AbstractStringBuilder_append (l : Launch) (hl0 : l.stackTraces = false) (D : va_G) (I : FieldType → ClassId) (P656384 : List Nat) (F656385 : Nat → va_E) (q656386 : Nat) (q656387 : Nat) (q656388 : Nat) (q656389 : Nat) (p656390 : Int32) (p656391 : Int32) (p656392 : Int32) (p656393 : Int32) (f656394 : Nat → Int32) (n656395 : Nat) (f656396 : Nat → Int32) (n656397 : Nat) (hmq656386 : q656386 ∈ P656384) (hmq656387 : q656387 ∈ P656384) (hmq656388 : q656388 ∈ P656384) (hmq656389 : q656389 ∈ P656384) (heq656386 : F656385 q656386 = .inr (1, [.ref q656388, .int 0, .int p656390, .int p656391])) (heq656387 : F656385 q656387 = .inr (0, [.ref q656389, .int 0, .int p656392, .int p656393])) (heq656388 : F656385 q656388 = .inl (I .byte, n656395, .inl f656394)) (heq656389 : F656385 q656389 = .inl (I .byte, n656397, .inl f656396)) (hneq656388q656389 : q656388 ≠ q656389) (bp656390 : gB p656390 0 1) (bp656391 : gB p656391 0 16777216) (bp656393 : gB p656393 0 1) (bf656394 : gF f656394 (-128) 127) (bf656396 : gF f656396 (-128) 127) (x656398 : (n656397 : Int) ≤ 65535) (x656399 : (n656395 : Int) ≤ 8388608 - 100000) (x656400 : p656391.toInt ≤ (n656395 : Int)) (x656401 : ((n656395 : Int) ≤ 16777216)) (x656402 : ((n656397 : Int) ≤ 16777216)) : CtA (gV D I) l yJ5_append_cf1ce cJ5_append_cf1ce 3 (some (FieldType.object "java/lang/AbstractStringBuilder")) 4 84 1 (4 * n656395 + 4 + 2 * n656397) [.ref q656386, .ref q656387] (va_pl P656384 F656385) (pp_656403_AbstractStringBuilder_append D I P656384 F656385 q656386 q656387 q656388 q656389 p656390 p656391 p656392 p656393 f656394 n656395 f656396 n656397) gNA := by
  refine CtA_ofF hl0 (by decide +kernel) (Nat.le_of_ble_eq_true rfl) ?_
  have bp656392 := gB_any p656392
  refine G_aload_n 1 dr_cJ5_append_cf1ce_0 rfl ?_
  refine G_ifnonnull 9 dr_cJ5_append_cf1ce_1 (by decide +kernel) ?_
  refine G_aload_n 1 dr_cJ5_append_cf1ce_9 rfl ?_
  refine Gw_callV (As := []) (gV_ok D I) (cp_655983_String_length l hl0 D I P656384 F656385 q656387 q656389 p656392 p656393 f656396 n656397 hmq656387 hmq656389 heq656387 heq656389 bp656393 bf656396 (by have qa0 : Int32.toInt 0 = 0 := (by decide); omega)) dr_cJ5_append_cf1ce_10 ⟨wr_8_154, wr_1_21, wr_3_60, by decide, rfl, (Nat.le_of_ble_eq_true rfl), (Nat.le_of_ble_eq_true rfl)⟩ wr_3_58 wr_3_59 hmq656387 heq656387 rfl (show 0 + 0 ≤ 1 by first | omega | decide) (show 0 + 0 ≤ (4 * n656395 + 4 + 2 * n656397) by first | omega | decide) (Nat.le_of_ble_eq_true rfl) (fun r656407 w656408 dc656404 ds656405 hp656406 => ?_) (fun _ _ _ _ _ z => z.elim)
  obtain ⟨o656409, rfl, rfl, hdc, hds, bo656409, x656410, ht656411⟩ := hp656406
  change G _ _ _ _ _ _ _ (.int o656409 :: _) _ _ _
  refine G_widen (cs' := 0) (sl' := 0) (by omega) (by omega) ?_
  refine G_istore_n (L' := [(2, .int o656409), (0, .ref q656386), (1, .ref q656387)]) dr_cJ5_append_cf1ce_13 (Nat.le_of_ble_eq_true rfl) rfl ?_
  refine G_aload_n 1 dr_cJ5_append_cf1ce_14 rfl ?_
  refine G_aload_n 1 dr_cJ5_append_cf1ce_15 rfl ?_
  refine Gp_get 3 hmq656386 heq656386 dr_cJ5_append_cf1ce_16 (gk_J4 D I) (Nat.le_of_ble_eq_true rfl) wr_7_64 rfl ?_
  refine G_iload_n 0 dr_cJ5_append_cf1ce_19 rfl ?_
  refine G_iadd dr_cJ5_append_cf1ce_20 (G_nam fun z656412 hz656412 => ?_)
  have ez656412 : z656412.toInt = p656391.toInt + o656409.toInt := by rw [gI_add hz656412 bp656391 bo656409 (by decide) (by decide)]
  have bz656412 : gB z656412 0 33554432 := gB_add (gI_add hz656412 bp656391 bo656409 (by decide) (by decide)) bp656391 bo656409 (by decide) (by decide)
  refine Gw_callVB (As := [.int z656412]) (gV_ok D I) (cp_655588_AbstractStringBuilder_ensureCapacityInternal l hl0 D I P656384 F656385 q656386 q656388 z656412 p656390 p656391 f656394 n656395 hmq656386 hmq656388 heq656386 heq656388 ⟨by omega, by omega⟩ bp656390 bp656391 bf656394 (by have qa0 : Int32.toInt 0 = 0 := (by decide); omega) (by have qa0 : Int32.toInt 0 = 0 := (by decide); omega)) dr_cJ5_append_cf1ce_21 ⟨wr_8_4, wr_1_19, wr_8_7, by decide, rfl, (Nat.le_of_ble_eq_true rfl), (Nat.le_of_ble_eq_true rfl)⟩ wr_8_6 wr_s_0 hmq656386 heq656386 rfl (show 0 + 1 ≤ 1 by first | omega | decide) (show 0 + (2 * n656395 + 2 + z656412.toInt.toNat) ≤ (4 * n656395 + 4 + 2 * n656397) by first | omega | decide) (Nat.le_of_ble_eq_true rfl) (fun r656416 w656417 dc656413 ds656414 hp656415 => ?_) (fun _ _ _ _ _ z => z.elim)
  obtain ⟨P656426, F656427, q656418, n656419, f656420, rfl, rfl, hsb656428, hfr656429, he656430, he656431, hm656432, hq656433, hdc, hds, bf656420, x656421, x656422, x656423, x656424, ht656425⟩ := hp656415
  have hm656434 : q656386 ∈ P656426 := hsb656428 q656386 hmq656386
  have hm656435 : q656387 ∈ P656426 := hsb656428 q656387 hmq656387
  have hm656436 : q656388 ∈ P656426 := hsb656428 q656388 hmq656388
  have hm656437 : q656389 ∈ P656426 := hsb656428 q656389 hmq656389
  have hor656438 : q656418 = q656388 ∨ q656418 ∉ P656384 := hq656433.elim Or.inl (fun n => Or.inr (fun z => n ((rSub_rf (P := P656384)) _ z)))
  have hsb656439 : rSub P656384 P656426 := rSub_tr (rSub_rf (P := P656384)) hsb656428
  have he656440 : F656427 q656387 = .inr (0, [.ref q656389, .int 0, .int p656392, .int p656393]) := (hfr656429 q656387 hmq656387 (nm_c (rn_oo heq656387 heq656386 (by decide)) nm_n)).trans heq656387
  have he656441 : F656427 q656388 = .inl (I .byte, n656395, .inl f656394) := (hfr656429 q656388 hmq656388 (nm_c (rn_ao heq656388 heq656386) nm_n)).trans heq656388
  have he656442 : F656427 q656389 = .inl (I .byte, n656397, .inl f656396) := (hfr656429 q656389 hmq656389 (nm_c (rn_ao heq656389 heq656386) nm_n)).trans heq656389
  have hfr656443 : rFr [q656386] P656384 F656385 F656427 := rFr_call (rSub_rf (P := P656384)) (rFr_rf (W := []) (P := P656384) (F := F656385)) hfr656429 (fun b hb hn => ⟨nm_n, (nm_c (fun e => hn (e ▸ List.mem_cons_self)) nm_n)⟩)
  have hne656444 : q656389 ≠ q656418 := fun e => hq656433.elim (fun e2 => (Ne.symm hneq656388q656389) (e.trans e2)) (fun n => n (e ▸ hmq656389))
  change G _ _ _ _ _ _ _ _ _ _ _
  refine G_widen (cs' := 1) (sl' := 2 * (n656419 - n656395)) (by omega) (by omega) ?_
  refine G_aload_n 1 dr_cJ5_append_cf1ce_24 rfl ?_
  refine G_aload_n 1 dr_cJ5_append_cf1ce_25 rfl ?_
  refine Gp_get 3 hm656434 he656430 dr_cJ5_append_cf1ce_26 (gk_J4 D I) (Nat.le_of_ble_eq_true rfl) wr_7_64 rfl ?_
  refine G_aload_n 2 dr_cJ5_append_cf1ce_29 rfl ?_
  refine Gw_callVB (As := [.int p656391, .ref q656387]) (gV_ok D I) (cp_656035_AbstractStringBuilder_putStringAt l hl0 D I P656426 F656427 q656386 q656387 q656418 q656389 p656391 p656390 p656391 p656392 p656393 f656420 n656419 f656396 n656397 hm656434 hm656435 hm656432 hm656437 he656430 he656440 he656431 he656442 (Ne.symm hne656444) bp656391 bp656390 bp656391 bp656393 bf656420 bf656396 (by have qa0 : Int32.toInt 0 = 0 := (by decide); omega) (by have qa0 : Int32.toInt 0 = 0 := (by decide); omega) (by have qa0 : Int32.toInt 0 = 0 := (by decide); omega)) dr_cJ5_append_cf1ce_30 ⟨wr_8_155, wr_1_19, wr_8_158, by decide, rfl, (Nat.le_of_ble_eq_true rfl), (Nat.le_of_ble_eq_true rfl)⟩ wr_8_157 wr_s_4 hm656434 he656430 rfl (show 1 + 0 ≤ 1 by first | omega | decide) (show 2 * (n656419 - n656395) + 0 ≤ (4 * n656395 + 4 + 2 * n656397) by first | omega | decide) (Nat.le_of_ble_eq_true rfl) (fun r656448 w656449 dc656445 ds656446 hp656447 => ?_) (fun _ _ _ _ _ z => z.elim)
  obtain ⟨F656454, f656450, rfl, rfl, hfr656456, he656457, he656458, he656459, he656460, hdc, hds, bf656450, x656451, x656452, ht656453⟩ := hp656447
  have hfr656461 : rFr [q656386, q656388] P656384 F656385 F656454 := rFr_call hsb656439 hfr656443 hfr656456 (fun b hb hn => ⟨(nm_c (fun e => hn (e ▸ List.mem_cons_self)) nm_n), (nm_c (fun e => hor656438.elim (fun e2 => hn ((e.trans e2) ▸ (List.mem_cons_of_mem _ List.mem_cons_self))) (fun n => n (e ▸ hb))) nm_n)⟩)
  change G _ _ _ _ _ _ _ _ _ _ _
  refine G_widen (cs' := 1) (sl' := 2 * (n656419 - n656395) + 0) (by omega) (by omega) ?_
  refine G_aload_n 1 dr_cJ5_append_cf1ce_33 rfl ?_
  refine G_dup dr_cJ5_append_cf1ce_34 rfl ?_
  refine Gp_get 3 hm656434 he656457 dr_cJ5_append_cf1ce_35 (gk_J4 D I) (Nat.le_of_ble_eq_true rfl) wr_7_64 rfl ?_
  refine G_iload_n 0 dr_cJ5_append_cf1ce_38 rfl ?_
  refine G_iadd dr_cJ5_append_cf1ce_39 (G_nam fun z656462 hz656462 => ?_)
  have ez656462 : z656462.toInt = p656391.toInt + o656409.toInt := by rw [gI_add hz656462 bp656391 bo656409 (by decide) (by decide)]
  have bz656462 : gB z656462 0 33554432 := gB_add (gI_add hz656462 bp656391 bo656409 (by decide) (by decide)) bp656391 bo656409 (by decide) (by decide)
  refine Gp_put 3 hm656434 he656457 dr_cJ5_append_cf1ce_40 (gk_J4 D I) (Nat.le_of_ble_eq_true rfl) wr_7_64 rfl rfl rfl (Nat.le_of_ble_eq_true rfl) (fun F656463 e656464 n656465 => ?_)
  have he656466 : F656463 q656387 = .inr (0, [.ref q656389, .int 0, .int p656392, .int p656393]) := (n656465 q656387 (rn_oo he656458 he656457 (by decide))).trans he656458
  have he656467 : F656463 q656418 = .inl (I .byte, n656419, .inl f656450) := (n656465 q656418 (rn_ao he656459 he656457)).trans he656459
  have he656468 : F656463 q656389 = .inl (I .byte, n656397, .inl f656396) := (n656465 q656389 (rn_ao he656460 he656457)).trans he656460
  have he656469 : F656463 q656386 = .inr (1, [.ref q656418, .int 0, .int p656390, .int z656462]) := e656464
  have hfr656470 : rFr [q656386, q656388] P656384 F656385 F656463 := rFr_put' List.mem_cons_self hfr656461 n656465
  refine G_aload_n 1 dr_cJ5_append_cf1ce_43 rfl ?_
  exact G_aretA (FieldType.object "java/lang/AbstractStringBuilder") dr_cJ5_append_cf1ce_44 rfl (by first | exact Or.inl ⟨_, rfl⟩ | exact Or.inr ⟨_, rfl⟩) (Or.inr ⟨_, rfl⟩) (Nat.le_of_ble_eq_true rfl) (show 2 * (n656419 - n656395) + 0 ≤ (4 * n656395 + 4 + 2 * n656397) by omega) ⟨P656426, F656463, z656462, q656418, n656419, f656450, rfl, rfl, hsb656439, hfr656470, he656469, he656466, he656467, he656468, hm656432, hor656438, (Nat.le_of_ble_eq_true rfl), (by omega), ⟨by omega, by omega⟩, bf656450, (by have qa0 : Int32.toInt 0 = 0 := (by decide); omega), (by have qa0 : Int32.toInt 0 = 0 := (by decide); omega), (by have qa0 : Int32.toInt 0 = 0 := (by decide); omega), (by have qa0 : Int32.toInt 0 = 0 := (by decide); omega), (by have qa0 : Int32.toInt 0 = 0 := (by decide); omega), (fun R c1 => c1 o656409 z656412 n656419 f656420 f656450 z656462 bo656409 ht656411 ez656412 ht656425 ht656453 ez656462)⟩
/- tr_RStringBuilder_append5: a.0...count, a.0.value.#, a.0.value.[] -/
def tr_RStringBuilder_append5 (a0_count : Int32) (a0_value_v : Nat → Int32) (a0_value_n : Nat) (a1_value_v : Nat → Int32) (a1_value_n : Nat) (o1 : Int32) (o2 : Nat) (o3 : Nat → Int32) : Prop := ∀ R : (Int32) → (Nat) → (Nat → Int32) → Prop,
  (∀ (x1 : Int32) (x2 : Nat) (x3 : Nat → Int32), gB x1 0 16777216 → tr_RAbstractStringBuilder_append5 a0_count a0_value_v a0_value_n a1_value_v a1_value_n x1 x2 x3 → R x1 x2 x3) →
  R o1 o2 o3
abbrev ky_656383_StringBuilder_append : gKey := (cJ4_append_15ec4, 2, "java/lang/StringBuilder", (some (FieldType.object "java/lang/StringBuilder")), [], "append", fun _ _ => True)
def pp_656383_StringBuilder_append (D : va_G) (I : FieldType → ClassId) (P656364 : List Nat) (F656365 : Nat → va_E) (q656366 : Nat) (q656367 : Nat) (q656368 : Nat) (q656369 : Nat) (p656370 : Int32) (p656371 : Int32) (p656372 : Int32) (p656373 : Int32) (f656374 : Nat → Int32) (n656375 : Nat) (f656376 : Nat → Int32) (n656377 : Nat) : Option Value → va_W → Nat → Nat → Prop := fun r w dc ds => ∃ (P656514 : List Nat) (F656515 : Nat → va_E) (o656510 : Int32) (q656511 : Nat) (n656512 : Nat) (f656513 : Nat → Int32), r = some (.ref q656366) ∧ w = va_pl P656514 F656515 ∧ rSub P656364 P656514 ∧ rFr [q656366, q656368] P656364 F656365 F656515 ∧ F656515 q656366 = .inr (1, [.ref q656511, .int 0, .int p656370, .int o656510]) ∧ F656515 q656367 = .inr (0, [.ref q656369, .int 0, .int p656372, .int p656373]) ∧ F656515 q656511 = .inl (I .byte, n656512, .inl f656513) ∧ F656515 q656369 = .inl (I .byte, n656377, .inl f656376) ∧ q656511 ∈ P656514 ∧ (q656511 = q656368 ∨ q656511 ∉ P656364) ∧ dc ≤ 1 ∧ ds ≤ 2 * (n656512 - n656375) ∧ gB o656510 0 16777216 ∧ gF f656513 (-128) 127 ∧ o656510.toInt = p656371.toInt + (n656377 : Int) ∧ o656510.toInt ≤ (n656512 : Int) ∧ (n656375 : Int) ≤ (n656512 : Int) ∧ (n656512 : Int) ≤ 2 * (n656375 : Int) + 2 + p656371.toInt + (n656377 : Int) ∧ ((n656512 : Int) = (n656375 : Int) ∨ (n656375 : Int) < o656510.toInt) ∧ tr_RStringBuilder_append5 p656371 f656374 n656375 f656376 n656377 o656510 n656512 f656513
set_option maxRecDepth 100000 in
set_option maxHeartbeats 4000000 in
theorem cp_656383_StringBuilder_append (l : Launch) (hl0 : l.stackTraces = false) (D : va_G) (I : FieldType → ClassId) (P656364 : List Nat) (F656365 : Nat → va_E) (q656366 : Nat) (q656367 : Nat) (q656368 : Nat) (q656369 : Nat) (p656370 : Int32) (p656371 : Int32) (p656372 : Int32) (p656373 : Int32) (f656374 : Nat → Int32) (n656375 : Nat) (f656376 : Nat → Int32) (n656377 : Nat) (hmq656366 : q656366 ∈ P656364) (hmq656367 : q656367 ∈ P656364) (hmq656368 : q656368 ∈ P656364) (hmq656369 : q656369 ∈ P656364) (heq656366 : F656365 q656366 = .inr (1, [.ref q656368, .int 0, .int p656370, .int p656371])) (heq656367 : F656365 q656367 = .inr (0, [.ref q656369, .int 0, .int p656372, .int p656373])) (heq656368 : F656365 q656368 = .inl (I .byte, n656375, .inl f656374)) (heq656369 : F656365 q656369 = .inl (I .byte, n656377, .inl f656376)) (hneq656368q656369 : q656368 ≠ q656369) (bp656370 : gB p656370 0 1) (bp656371 : gB p656371 0 16777216) (bp656373 : gB p656373 0 1) (bf656374 : gF f656374 (-128) 127) (bf656376 : gF f656376 (-128) 127) (x656378 : (n656377 : Int) ≤ 65535) (x656379 : (n656375 : Int) ≤ 8388608 - 100000) (x656380 : p656371.toInt ≤ (n656375 : Int)) (x656381 : ((n656375 : Int) ≤ 16777216)) (x656382 : ((n656377 : Int) ≤ 16777216)) : CtA (gV D I) l yJ4_append_15ec4 cJ4_append_15ec4 2 (some (FieldType.object "java/lang/StringBuilder")) 5 106 1 (4 * n656375 + 4 + 2 * n656377) [.ref q656366, .ref q656367] (va_pl P656364 F656365) (pp_656383_StringBuilder_append D I P656364 F656365 q656366 q656367 q656368 q656369 p656370 p656371 p656372 p656373 f656374 n656375 f656376 n656377) gNA := by
  refine CtA_ofF hl0 (by decide +kernel) (Nat.le_of_ble_eq_true rfl) ?_
  have bp656372 := gB_any p656372
  refine G_aload_n 0 dr_cJ4_append_15ec4_0 rfl ?_
  refine G_aload_n 1 dr_cJ4_append_15ec4_1 rfl ?_
  refine Gw_callSU (As := [.ref q656367]) (gV_ok D I) (cp_656403_AbstractStringBuilder_append l hl0 D I P656364 F656365 q656366 q656367 q656368 q656369 p656370 p656371 p656372 p656373 f656374 n656375 f656376 n656377 hmq656366 hmq656367 hmq656368 hmq656369 heq656366 heq656367 heq656368 heq656369 hneq656368q656369 bp656370 bp656371 bp656373 bf656374 bf656376 (by have qa0 : Int32.toInt 0 = 0 := (by decide); omega) (by have qa0 : Int32.toInt 0 = 0 := (by decide); omega) (by have qa0 : Int32.toInt 0 = 0 := (by decide); omega) (by have qa0 : Int32.toInt 0 = 0 := (by decide); omega) (by have qa0 : Int32.toInt 0 = 0 := (by decide); omega)) dr_cJ4_append_15ec4_2 ⟨wr_8_144, wr_1_19, wr_8_146, by decide, rfl, (Nat.le_of_ble_eq_true rfl), (Nat.le_of_ble_eq_true rfl)⟩ wr_8_145 wr_11_229 wr_7_73 wr_7_44 (by decide) hmq656366 heq656366 rfl (show 0 + 1 ≤ 1 by first | omega | decide) (show 0 + (4 * n656375 + 4 + 2 * n656377) ≤ (4 * n656375 + 4 + 2 * n656377) by first | omega | decide) (Nat.le_of_ble_eq_true rfl) (fun r656480 w656481 dc656477 ds656478 hp656479 => ?_)
  obtain ⟨P656492, F656493, o656482, q656483, n656484, f656485, rfl, rfl, hsb656494, hfr656495, he656496, he656497, he656498, he656499, hm656500, hq656501, hdc, hds, bo656482, bf656485, x656486, x656487, x656488, x656489, x656490, ht656491⟩ := hp656479
  have hm656502 : q656366 ∈ P656492 := hsb656494 q656366 hmq656366
  have hm656503 : q656367 ∈ P656492 := hsb656494 q656367 hmq656367
  have hm656504 : q656368 ∈ P656492 := hsb656494 q656368 hmq656368
  have hm656505 : q656369 ∈ P656492 := hsb656494 q656369 hmq656369
  have hor656506 : q656483 = q656368 ∨ q656483 ∉ P656364 := hq656501.elim Or.inl (fun n => Or.inr (fun z => n ((rSub_rf (P := P656364)) _ z)))
  have hsb656507 : rSub P656364 P656492 := rSub_tr (rSub_rf (P := P656364)) hsb656494
  have hfr656508 : rFr [q656366, q656368] P656364 F656365 F656493 := rFr_call (rSub_rf (P := P656364)) (rFr_rf (W := []) (P := P656364) (F := F656365)) hfr656495 (fun b hb hn => ⟨nm_n, (nm_c (fun e => hn (e ▸ List.mem_cons_self)) (nm_c (fun e => hn (e ▸ (List.mem_cons_of_mem _ List.mem_cons_self))) nm_n))⟩)
  have hne656509 : q656369 ≠ q656483 := fun e => hq656501.elim (fun e2 => (Ne.symm hneq656368q656369) (e.trans e2)) (fun n => n (e ▸ hmq656369))
  change G _ _ _ _ _ _ _ (.ref q656366 :: _) _ _ _
  refine G_widen (cs' := 1) (sl' := 2 * (n656484 - n656375)) (by omega) (by omega) ?_
  refine G_pop dr_cJ4_append_15ec4_5 rfl ?_
  refine G_aload_n 0 dr_cJ4_append_15ec4_6 rfl ?_
  exact G_aretA (FieldType.object "java/lang/StringBuilder") dr_cJ4_append_15ec4_7 rfl (by first | exact Or.inl ⟨_, rfl⟩ | exact Or.inr ⟨_, rfl⟩) (Or.inr ⟨_, rfl⟩) (Nat.le_of_ble_eq_true rfl) (show 2 * (n656484 - n656375) ≤ (4 * n656375 + 4 + 2 * n656377) by omega) ⟨P656492, F656493, o656482, q656483, n656484, f656485, rfl, rfl, hsb656507, hfr656508, he656496, he656497, he656498, he656499, hm656500, hor656506, (Nat.le_of_ble_eq_true rfl), (by omega), bo656482, bf656485, (by have qa0 : Int32.toInt 0 = 0 := (by decide); omega), (by have qa0 : Int32.toInt 0 = 0 := (by decide); omega), (by have qa0 : Int32.toInt 0 = 0 := (by decide); omega), (by have qa0 : Int32.toInt 0 = 0 := (by decide); omega), (by have qa0 : Int32.toInt 0 = 0 := (by decide); omega), (fun R c1 => c1 o656482 n656484 f656485 bo656482 ht656491)⟩
/- tr_RAbstractStringBuilder_append6: a.0...count, a.0.value.#, a.0.value.[] -/
def tr_RAbstractStringBuilder_append6 (bs : List Int32) (a0_count : Int32) (a0_value_v : Nat → Int32) (a0_value_n : Nat) (o1 : Int32) (o2 : Nat) (o3 : Nat → Int32) : Prop := ∀ R : (Int32) → (Nat) → (Nat → Int32) → Prop,
  (∀ (x1 : Int32) (x2 : Int32) (x3 : Nat) (x4 : Nat → Int32) (x5 : Nat → Int32) (x6 : Int32), gB x1 0 65535 → tr_RString_length2 bs x1 → x2.toInt = a0_count.toInt + x1.toInt → tr_RAbstractStringBuilder_ensureCapacityInternal2 x2 a0_value_v a0_value_n x3 x4 → tr_RAbstractStringBuilder_putStringAt2 a0_count bs x4 x5 → x6.toInt = a0_count.toInt + x1.toInt → R x6 x3 x5) →
  R o1 o2 o3
abbrev ky_656547_AbstractStringBuilder_append : gKey := (cJ5_append_cf1ce, 3, "java/lang/AbstractStringBuilder", (some (FieldType.object "java/lang/AbstractStringBuilder")), [], "append", fun _ _ => True)
def pp_656547_AbstractStringBuilder_append (D : va_G) (I : FieldType → ClassId) (P656532 : List Nat) (F656533 : Nat → va_E) (q656534 : Nat) (q656535 : Nat) (qs656536 : Nat) (qb656537 : Nat) (bs656538 : List Int32) (p656539 : Int32) (p656540 : Int32) (f656541 : Nat → Int32) (n656542 : Nat) : Option Value → va_W → Nat → Nat → Prop := fun r w dc ds => ∃ (P656610 : List Nat) (F656611 : Nat → va_E) (o656606 : Int32) (q656607 : Nat) (n656608 : Nat) (f656609 : Nat → Int32), r = some (.ref q656534) ∧ w = va_pl P656610 F656611 ∧ rSub P656532 P656610 ∧ rFr [q656534, q656535] P656532 F656533 F656611 ∧ F656611 q656534 = .inr (1, [.ref q656607, .int 0, .int p656539, .int o656606]) ∧ F656611 q656607 = .inl (I .byte, n656608, .inl f656609) ∧ q656607 ∈ P656610 ∧ (q656607 = q656535 ∨ q656607 ∉ P656532) ∧ dc ≤ 1 ∧ ds ≤ 2 * (n656608 - n656542) ∧ gB o656606 0 16777216 ∧ gF f656609 (-128) 127 ∧ o656606.toInt = p656540.toInt + (bs656538.length : Int) ∧ o656606.toInt ≤ (n656608 : Int) ∧ (n656542 : Int) ≤ (n656608 : Int) ∧ (n656608 : Int) ≤ 2 * (n656542 : Int) + 2 + p656540.toInt + (bs656538.length : Int) ∧ ((n656608 : Int) = (n656542 : Int) ∨ (n656542 : Int) < o656606.toInt) ∧ tr_RAbstractStringBuilder_append6 bs656538 p656540 f656541 n656542 o656606 n656608 f656609
set_option maxRecDepth 100000 in
set_option maxHeartbeats 4000000 in
theorem cp_656547_AbstractStringBuilder_append (l : Launch) (hl0 : l.stackTraces = false) (D : va_G) (I : FieldType → ClassId) (P656532 : List Nat) (F656533 : Nat → va_E) (q656534 : Nat) (q656535 : Nat) (qs656536 : Nat) (qb656537 : Nat) (bs656538 : List Int32) (p656539 : Int32) (p656540 : Int32) (f656541 : Nat → Int32) (n656542 : Nat) (hmq656534 : q656534 ∈ P656532) (hmq656535 : q656535 ∈ P656532) (heq656534 : F656533 q656534 = .inr (1, [.ref q656535, .int 0, .int p656539, .int p656540])) (heq656535 : F656533 q656535 = .inl (I .byte, n656542, .inl f656541)) (hbs656538 : ∀ A s H, (gV D I).2.2.2.1 A s H → gSC qs656536 qb656537 bs656538 A s H) (nbs656538 : (bs656538.length : Int) ≤ 65535) (lbs656538 : gLB bs656538) (bp656539 : gB p656539 0 1) (bp656540 : gB p656540 0 16777216) (bf656541 : gF f656541 (-128) 127) (x656543 : (bs656538.length : Int) ≤ 65535) (x656544 : (n656542 : Int) ≤ 8388608 - 100000) (x656545 : p656540.toInt ≤ (n656542 : Int)) (x656546 : ((n656542 : Int) ≤ 16777216)) : CtA (gV D I) l yJ5_append_cf1ce cJ5_append_cf1ce 3 (some (FieldType.object "java/lang/AbstractStringBuilder")) 4 84 1 (4 * n656542 + 4 + 2 * bs656538.length) [.ref q656534, .ref qs656536] (va_pl P656532 F656533) (pp_656547_AbstractStringBuilder_append D I P656532 F656533 q656534 q656535 qs656536 qb656537 bs656538 p656539 p656540 f656541 n656542) gNA := by
  refine CtA_ofF hl0 (by decide +kernel) (Nat.le_of_ble_eq_true rfl) ?_
  refine G_aload_n 1 dr_cJ5_append_cf1ce_0 rfl ?_
  refine G_ifnonnull 9 dr_cJ5_append_cf1ce_1 (by decide +kernel) ?_
  refine G_aload_n 1 dr_cJ5_append_cf1ce_9 rfl ?_
  refine Gw_callVk (As := []) (gV_ok D I) (cp_656203_String_length l hl0 D I P656532 F656533 qs656536 qb656537 bs656538 hbs656538 nbs656538 lbs656538) dr_cJ5_append_cf1ce_10 ⟨wr_8_154, wr_1_21, wr_3_60, by decide, rfl, (Nat.le_of_ble_eq_true rfl), (Nat.le_of_ble_eq_true rfl)⟩ wr_3_58 wr_3_59 (fun _ _ _ h => (hbs656538 _ _ _ h).1) (show 0 + 0 ≤ 1 by first | omega | decide) (show 0 + 0 ≤ (4 * n656542 + 4 + 2 * bs656538.length) by first | omega | decide) (Nat.le_of_ble_eq_true rfl) (fun r656551 w656552 dc656548 ds656549 hp656550 => ?_) (fun _ _ _ _ _ z => z.elim)
  obtain ⟨o656553, rfl, rfl, hdc, hds, bo656553, x656554, ht656555⟩ := hp656550
  change G _ _ _ _ _ _ _ (.int o656553 :: _) _ _ _
  refine G_widen (cs' := 0) (sl' := 0) (by omega) (by omega) ?_
  refine G_istore_n (L' := [(2, .int o656553), (0, .ref q656534), (1, .ref qs656536)]) dr_cJ5_append_cf1ce_13 (Nat.le_of_ble_eq_true rfl) rfl ?_
  refine G_aload_n 1 dr_cJ5_append_cf1ce_14 rfl ?_
  refine G_aload_n 1 dr_cJ5_append_cf1ce_15 rfl ?_
  refine Gp_get 3 hmq656534 heq656534 dr_cJ5_append_cf1ce_16 (gk_J4 D I) (Nat.le_of_ble_eq_true rfl) wr_7_64 rfl ?_
  refine G_iload_n 0 dr_cJ5_append_cf1ce_19 rfl ?_
  refine G_iadd dr_cJ5_append_cf1ce_20 (G_nam fun z656556 hz656556 => ?_)
  have ez656556 : z656556.toInt = p656540.toInt + o656553.toInt := by rw [gI_add hz656556 bp656540 bo656553 (by decide) (by decide)]
  have bz656556 : gB z656556 0 16842751 := gB_add (gI_add hz656556 bp656540 bo656553 (by decide) (by decide)) bp656540 bo656553 (by decide) (by decide)
  refine Gw_callVB (As := [.int z656556]) (gV_ok D I) (cp_655588_AbstractStringBuilder_ensureCapacityInternal l hl0 D I P656532 F656533 q656534 q656535 z656556 p656539 p656540 f656541 n656542 hmq656534 hmq656535 heq656534 heq656535 ⟨by omega, by omega⟩ bp656539 bp656540 bf656541 (by have qa0 : Int32.toInt 0 = 0 := (by decide); omega) (by have qa0 : Int32.toInt 0 = 0 := (by decide); omega)) dr_cJ5_append_cf1ce_21 ⟨wr_8_4, wr_1_19, wr_8_7, by decide, rfl, (Nat.le_of_ble_eq_true rfl), (Nat.le_of_ble_eq_true rfl)⟩ wr_8_6 wr_s_0 hmq656534 heq656534 rfl (show 0 + 1 ≤ 1 by first | omega | decide) (show 0 + (2 * n656542 + 2 + z656556.toInt.toNat) ≤ (4 * n656542 + 4 + 2 * bs656538.length) by first | omega | decide) (Nat.le_of_ble_eq_true rfl) (fun r656560 w656561 dc656557 ds656558 hp656559 => ?_) (fun _ _ _ _ _ z => z.elim)
  obtain ⟨P656570, F656571, q656562, n656563, f656564, rfl, rfl, hsb656572, hfr656573, he656574, he656575, hm656576, hq656577, hdc, hds, bf656564, x656565, x656566, x656567, x656568, ht656569⟩ := hp656559
  have hm656578 : q656534 ∈ P656570 := hsb656572 q656534 hmq656534
  have hm656579 : q656535 ∈ P656570 := hsb656572 q656535 hmq656535
  have hor656580 : q656562 = q656535 ∨ q656562 ∉ P656532 := hq656577.elim Or.inl (fun n => Or.inr (fun z => n ((rSub_rf (P := P656532)) _ z)))
  have hsb656581 : rSub P656532 P656570 := rSub_tr (rSub_rf (P := P656532)) hsb656572
  have he656582 : F656571 q656535 = .inl (I .byte, n656542, .inl f656541) := (hfr656573 q656535 hmq656535 (nm_c (rn_ao heq656535 heq656534) nm_n)).trans heq656535
  have hfr656583 : rFr [q656534] P656532 F656533 F656571 := rFr_call (rSub_rf (P := P656532)) (rFr_rf (W := []) (P := P656532) (F := F656533)) hfr656573 (fun b hb hn => ⟨nm_n, (nm_c (fun e => hn (e ▸ List.mem_cons_self)) nm_n)⟩)
  change G _ _ _ _ _ _ _ _ _ _ _
  refine G_widen (cs' := 1) (sl' := 2 * (n656563 - n656542)) (by omega) (by omega) ?_
  refine G_aload_n 1 dr_cJ5_append_cf1ce_24 rfl ?_
  refine G_aload_n 1 dr_cJ5_append_cf1ce_25 rfl ?_
  refine Gp_get 3 hm656578 he656574 dr_cJ5_append_cf1ce_26 (gk_J4 D I) (Nat.le_of_ble_eq_true rfl) wr_7_64 rfl ?_
  refine G_aload_n 2 dr_cJ5_append_cf1ce_29 rfl ?_
  refine Gw_callVB (As := [.int p656540, .ref qs656536]) (gV_ok D I) (cp_656247_AbstractStringBuilder_putStringAt l hl0 D I P656570 F656571 q656534 q656562 p656540 qs656536 qb656537 bs656538 p656539 p656540 f656564 n656563 hm656578 hm656576 he656574 he656575 hbs656538 nbs656538 lbs656538 bp656540 bp656539 bp656540 bf656564 (by have qa0 : Int32.toInt 0 = 0 := (by decide); omega) (by have qa0 : Int32.toInt 0 = 0 := (by decide); omega)) dr_cJ5_append_cf1ce_30 ⟨wr_8_155, wr_1_19, wr_8_158, by decide, rfl, (Nat.le_of_ble_eq_true rfl), (Nat.le_of_ble_eq_true rfl)⟩ wr_8_157 wr_s_4 hm656578 he656574 rfl (show 1 + 0 ≤ 1 by first | omega | decide) (show 2 * (n656563 - n656542) + 0 ≤ (4 * n656542 + 4 + 2 * bs656538.length) by first | omega | decide) (Nat.le_of_ble_eq_true rfl) (fun r656587 w656588 dc656584 ds656585 hp656586 => ?_) (fun _ _ _ _ _ z => z.elim)
  obtain ⟨F656593, f656589, rfl, rfl, hfr656595, he656596, he656597, hdc, hds, bf656589, x656590, x656591, ht656592⟩ := hp656586
  have hfr656598 : rFr [q656534, q656535] P656532 F656533 F656593 := rFr_call hsb656581 hfr656583 hfr656595 (fun b hb hn => ⟨(nm_c (fun e => hn (e ▸ List.mem_cons_self)) nm_n), (nm_c (fun e => hor656580.elim (fun e2 => hn ((e.trans e2) ▸ (List.mem_cons_of_mem _ List.mem_cons_self))) (fun n => n (e ▸ hb))) nm_n)⟩)
  change G _ _ _ _ _ _ _ _ _ _ _
  refine G_widen (cs' := 1) (sl' := 2 * (n656563 - n656542) + 0) (by omega) (by omega) ?_
  refine G_aload_n 1 dr_cJ5_append_cf1ce_33 rfl ?_
  refine G_dup dr_cJ5_append_cf1ce_34 rfl ?_
  refine Gp_get 3 hm656578 he656596 dr_cJ5_append_cf1ce_35 (gk_J4 D I) (Nat.le_of_ble_eq_true rfl) wr_7_64 rfl ?_
  refine G_iload_n 0 dr_cJ5_append_cf1ce_38 rfl ?_
  refine G_iadd dr_cJ5_append_cf1ce_39 (G_nam fun z656599 hz656599 => ?_)
  have ez656599 : z656599.toInt = p656540.toInt + o656553.toInt := by rw [gI_add hz656599 bp656540 bo656553 (by decide) (by decide)]
  have bz656599 : gB z656599 0 16842751 := gB_add (gI_add hz656599 bp656540 bo656553 (by decide) (by decide)) bp656540 bo656553 (by decide) (by decide)
  refine Gp_put 3 hm656578 he656596 dr_cJ5_append_cf1ce_40 (gk_J4 D I) (Nat.le_of_ble_eq_true rfl) wr_7_64 rfl rfl rfl (Nat.le_of_ble_eq_true rfl) (fun F656600 e656601 n656602 => ?_)
  have he656603 : F656600 q656562 = .inl (I .byte, n656563, .inl f656589) := (n656602 q656562 (rn_ao he656597 he656596)).trans he656597
  have he656604 : F656600 q656534 = .inr (1, [.ref q656562, .int 0, .int p656539, .int z656599]) := e656601
  have hfr656605 : rFr [q656534, q656535] P656532 F656533 F656600 := rFr_put' List.mem_cons_self hfr656598 n656602
  refine G_aload_n 1 dr_cJ5_append_cf1ce_43 rfl ?_
  exact G_aretA (FieldType.object "java/lang/AbstractStringBuilder") dr_cJ5_append_cf1ce_44 rfl (by first | exact Or.inl ⟨_, rfl⟩ | exact Or.inr ⟨_, rfl⟩) (Or.inr ⟨_, rfl⟩) (Nat.le_of_ble_eq_true rfl) (show 2 * (n656563 - n656542) + 0 ≤ (4 * n656542 + 4 + 2 * bs656538.length) by omega) ⟨P656570, F656600, z656599, q656562, n656563, f656589, rfl, rfl, hsb656581, hfr656605, he656604, he656603, hm656576, hor656580, (Nat.le_of_ble_eq_true rfl), (by omega), ⟨by omega, by omega⟩, bf656589, (by have qa0 : Int32.toInt 0 = 0 := (by decide); omega), (by have qa0 : Int32.toInt 0 = 0 := (by decide); omega), (by have qa0 : Int32.toInt 0 = 0 := (by decide); omega), (by have qa0 : Int32.toInt 0 = 0 := (by decide); omega), (by have qa0 : Int32.toInt 0 = 0 := (by decide); omega), (fun R c1 => c1 o656553 z656556 n656563 f656564 f656589 z656599 bo656553 ht656555 ez656556 ht656569 ht656592 ez656599)⟩
/- tr_RStringBuilder_append6: a.0...count, a.0.value.#, a.0.value.[] -/
def tr_RStringBuilder_append6 (bs : List Int32) (a0_count : Int32) (a0_value_v : Nat → Int32) (a0_value_n : Nat) (o1 : Int32) (o2 : Nat) (o3 : Nat → Int32) : Prop := ∀ R : (Int32) → (Nat) → (Nat → Int32) → Prop,
  (∀ (x1 : Int32) (x2 : Nat) (x3 : Nat → Int32), gB x1 0 16777216 → tr_RAbstractStringBuilder_append6 bs a0_count a0_value_v a0_value_n x1 x2 x3 → R x1 x2 x3) →
  R o1 o2 o3
