theorem dr_cJ4_append_15ec4_0 : decode cJ4_append_15ec4 0 = .ok (.aload_n 0, 1) := by decide +kernel
theorem dr_cJ4_append_15ec4_1 : decode cJ4_append_15ec4 1 = .ok (.aload_n 1, 1) := by decide +kernel
theorem dr_cJ4_append_15ec4_2 : decode cJ4_append_15ec4 2 = .ok (.invokespecial 29, 3) := by decide +kernel
theorem wr_8_144 : (Jvm.Cond.methodLink "java/lang/StringBuilder" (29 : Nat) ({ cls := "java/lang/AbstractStringBuilder", name := "append", desc := "(Ljava/lang/String;)Ljava/lang/AbstractStringBuilder;" } : Jvm.MethodName)) ∈ gw := gw_8 144 rfl rfl
theorem wr_8_146 : (Jvm.Cond.code ({ cls := "java/lang/AbstractStringBuilder", name := "append", desc := "(Ljava/lang/String;)Ljava/lang/AbstractStringBuilder;" } : Jvm.MethodName) prog_21_method_22_code (3 : Nat) (Option.some (Jvm.ClassFile.FieldType.object "java/lang/AbstractStringBuilder"))) ∈ gw := gw_8 146 rfl rfl
theorem wr_8_145 : (Jvm.Cond.instanceMethod ({ cls := "java/lang/AbstractStringBuilder", name := "append", desc := "(Ljava/lang/String;)Ljava/lang/AbstractStringBuilder;" } : Jvm.MethodName)) ∈ gw := gw_8 145 rfl rfl
theorem wr_11_229 : (Jvm.Cond.sameMethod "java/lang/AbstractStringBuilder" "java/lang/AbstractStringBuilder" "append" "(Ljava/lang/String;)Ljava/lang/AbstractStringBuilder;") ∈ gw := gw_11 229 rfl rfl
theorem dr_cJ4_append_15ec4_5 : decode cJ4_append_15ec4 5 = .ok (.pop, 1) := by decide +kernel
theorem dr_cJ4_append_15ec4_6 : decode cJ4_append_15ec4 6 = .ok (.aload_n 0, 1) := by decide +kernel
theorem dr_cJ4_append_15ec4_7 : decode cJ4_append_15ec4 7 = .ok (.areturn, 1) := by decide +kernel
abbrev ky_640599_StringBuilder_append : gKey := (cJ4_append_15ec4, 2, "java/lang/StringBuilder", (some (FieldType.object "java/lang/StringBuilder")), [], "append", fun _ _ => True)
def pp_640599_StringBuilder_append (D : va_G) (I : FieldType → ClassId) (P640582 : List Nat) (F640583 : Nat → va_E) (q640584 : Nat) (q640585 : Nat) (q640586 : Nat) (q640587 : Nat) (p640588 : Int32) (p640589 : Int32) (p640590 : Int32) (p640591 : Int32) (f640592 : Nat → Int32) (n640593 : Nat) (f640594 : Nat → Int32) (n640595 : Nat) : Option Value → va_W → Nat → Nat → Prop := fun r w dc ds => ∃ (F640808 : Nat → va_E) (o640805 : Int32) (f640806 : Nat → Int32), r = some (.ref q640584) ∧ w = va_pl P640582 F640808 ∧ rFr [q640584, q640586] P640582 F640583 F640808 ∧ F640808 q640584 = .inr (1, [.ref q640586, .int 0, .int p640588, .int o640805]) ∧ F640808 q640585 = .inr (0, [.ref q640587, .int 0, .int p640590, .int p640591]) ∧ F640808 q640586 = .inl (I .byte, n640593, .inl f640806) ∧ F640808 q640587 = .inl (I .byte, n640595, .inl f640594) ∧ dc ≤ 0 ∧ ds ≤ 0 ∧ gB o640805 0 16777216 ∧ gF f640806 (-128) 127 ∧ o640805.toInt = p640589.toInt + (n640595 : Int) ∧ sK f640592 f640806 p640589.toInt ∧ sF f640594 f640806 p640589.toInt (n640595 : Int)
set_option maxRecDepth 100000 in
set_option maxHeartbeats 4000000 in
theorem cp_640599_StringBuilder_append (l : Launch) (hl0 : l.stackTraces = false) (D : va_G) (I : FieldType → ClassId) (P640582 : List Nat) (F640583 : Nat → va_E) (q640584 : Nat) (q640585 : Nat) (q640586 : Nat) (q640587 : Nat) (p640588 : Int32) (p640589 : Int32) (p640590 : Int32) (p640591 : Int32) (f640592 : Nat → Int32) (n640593 : Nat) (f640594 : Nat → Int32) (n640595 : Nat) (hmq640584 : q640584 ∈ P640582) (hmq640585 : q640585 ∈ P640582) (hmq640586 : q640586 ∈ P640582) (hmq640587 : q640587 ∈ P640582) (heq640584 : F640583 q640584 = .inr (1, [.ref q640586, .int 0, .int p640588, .int p640589])) (heq640585 : F640583 q640585 = .inr (0, [.ref q640587, .int 0, .int p640590, .int p640591])) (heq640586 : F640583 q640586 = .inl (I .byte, n640593, .inl f640592)) (heq640587 : F640583 q640587 = .inl (I .byte, n640595, .inl f640594)) (hneq640586q640587 : q640586 ≠ q640587) (bp640588 : gB p640588 0 1) (bp640589 : gB p640589 0 16777216) (bp640591 : gB p640591 0 1) (bf640592 : gF f640592 (-128) 127) (bf640594 : gF f640594 (-128) 127) (x640596 : p640589.toInt + (n640595 : Int) ≤ (n640593 : Int)) (x640597 : ((n640593 : Int) ≤ 16777216)) (x640598 : ((n640595 : Int) ≤ 16777216)) : CtA (gV D I) l yJ4_append_15ec4 cJ4_append_15ec4 2 (some (FieldType.object "java/lang/StringBuilder")) 4 87 0 0 [.ref q640584, .ref q640585] (va_pl P640582 F640583) (pp_640599_StringBuilder_append D I P640582 F640583 q640584 q640585 q640586 q640587 p640588 p640589 p640590 p640591 f640592 n640593 f640594 n640595) gNA := by
  refine CtA_ofF hl0 (by decide +kernel) (Nat.le_of_ble_eq_true rfl) ?_
  have bp640590 := gB_any p640590
  refine G_aload_n 0 dr_cJ4_append_15ec4_0 rfl ?_
  refine G_aload_n 1 dr_cJ4_append_15ec4_1 rfl ?_
  refine Gw_callSU (As := [.ref q640585]) (gV_ok D I) (cp_640617_AbstractStringBuilder_append l hl0 D I P640582 F640583 q640584 q640585 q640586 q640587 p640588 p640589 p640590 p640591 f640592 n640593 f640594 n640595 hmq640584 hmq640585 hmq640586 hmq640587 heq640584 heq640585 heq640586 heq640587 hneq640586q640587 bp640588 bp640589 bp640591 bf640592 bf640594 (by have qa0 : Int32.toInt 0 = 0 := (by decide); omega) (by have qa0 : Int32.toInt 0 = 0 := (by decide); omega) (by have qa0 : Int32.toInt 0 = 0 := (by decide); omega)) dr_cJ4_append_15ec4_2 ⟨wr_8_144, wr_1_19, wr_8_146, by decide, rfl, (Nat.le_of_ble_eq_true rfl), (Nat.le_of_ble_eq_true rfl)⟩ wr_8_145 wr_11_229 wr_7_73 wr_7_44 (by decide) hmq640584 heq640584 rfl (show 0 + 0 ≤ 0 by first | omega | decide) (show 0 + 0 ≤ 0 by first | omega | decide) (Nat.le_of_ble_eq_true rfl) (fun r640790 w640791 dc640787 ds640788 hp640789 => ?_)
  obtain ⟨F640797, o640792, f640793, rfl, rfl, hfr640799, he640800, he640801, he640802, he640803, hdc, hds, bo640792, bf640793, x640794, x640795, x640796⟩ := hp640789
  have hfr640804 : rFr [q640584, q640586] P640582 F640583 F640797 := rFr_call (rSub_rf (P := P640582)) (rFr_rf (W := []) (P := P640582) (F := F640583)) hfr640799 (fun b hb hn => ⟨nm_n, (nm_c (fun e => hn (e ▸ List.mem_cons_self)) (nm_c (fun e => hn (e ▸ (List.mem_cons_of_mem _ List.mem_cons_self))) nm_n))⟩)
  change G _ _ _ _ _ _ _ (.ref q640584 :: _) _ _ _
  refine G_widen (cs' := 0) (sl' := 0) (by omega) (by omega) ?_
  refine G_pop dr_cJ4_append_15ec4_5 rfl ?_
  refine G_aload_n 0 dr_cJ4_append_15ec4_6 rfl ?_
  exact G_aretA (FieldType.object "java/lang/StringBuilder") dr_cJ4_append_15ec4_7 rfl (by first | exact Or.inl ⟨_, rfl⟩ | exact Or.inr ⟨_, rfl⟩) (Or.inr ⟨_, rfl⟩) (Nat.le_of_ble_eq_true rfl) (Nat.le_of_ble_eq_true rfl) ⟨F640797, o640792, f640793, rfl, rfl, hfr640804, he640800, he640801, he640802, he640803, (Nat.le_of_ble_eq_true rfl), (Nat.le_of_ble_eq_true rfl), bo640792, bf640793, (by have qa0 : Int32.toInt 0 = 0 := (by decide); omega), (sK_c x640795 (by omega)), (by assumption)⟩
abbrev ky_640849_String_coder : gKey := (cJ0_coder_7d493, 1, "java/lang/String", (some FieldType.byte), [], "coder", fun _ _ => True)
def pp_640849_String_coder (D : va_G) (I : FieldType → ClassId) (P640844 : List Nat) (F640845 : Nat → va_E) (qs640846 : Nat) (qb640847 : Nat) (bs640848 : List Int32) : Option Value → va_W → Nat → Nat → Prop := fun r w dc ds => r = some (.int 0) ∧ w = va_pl P640844 F640845 ∧ dc ≤ 0 ∧ ds ≤ 0
set_option maxRecDepth 100000 in
set_option maxHeartbeats 4000000 in
theorem cp_640849_String_coder (l : Launch) (hl0 : l.stackTraces = false) (D : va_G) (I : FieldType → ClassId) (P640844 : List Nat) (F640845 : Nat → va_E) (qs640846 : Nat) (qb640847 : Nat) (bs640848 : List Int32) (hbs640848 : ∀ A s H, (gV D I).2.2.2.1 A s H → gSC qs640846 qb640847 bs640848 A s H) (nbs640848 : (bs640848.length : Int) ≤ 65535) (lbs640848 : gLB bs640848) : CtA (gV D I) l yJ0_coder_7d493 cJ0_coder_7d493 1 (some FieldType.byte) 0 0 0 0 [.ref qs640846] (va_pl P640844 F640845) (pp_640849_String_coder D I P640844 F640845 qs640846 qb640847 bs640848) gNA := by
  refine CtA_ofF hl0 (by decide +kernel) (Nat.le_of_ble_eq_true rfl) ?_
  refine G_gets dr_cJ0_coder_7d493_0 wr_3_65 gz_cs (fun x hx => ?_)
  subst hx
  refine G_if_eq 13 dr_cJ0_coder_7d493_3 (by decide +kernel) (fun hc => absurd hc (by decide)) (fun _ => ?_)
  refine G_aload_n 0 dr_cJ0_coder_7d493_6 rfl ?_
  refine G_kget dr_cJ0_coder_7d493_7 wr_8_183 (fun _ _ _ h => (hbs640848 _ _ _ h).2.1) ?_
  refine G_goto 14 dr_cJ0_coder_7d493_10 (by decide +kernel) ?_
  exact G_zretA FieldType.byte dr_cJ0_coder_7d493_14 rfl rfl (Nat.le_of_ble_eq_true rfl) (Nat.le_of_ble_eq_true rfl) ⟨rfl, rfl, (Nat.le_of_ble_eq_true rfl), (Nat.le_of_ble_eq_true rfl)⟩
abbrev ky_640842_String_length : gKey := (cJ0_length_8abf5, 1, "java/lang/String", (some FieldType.int), [], "length", fun _ _ => True)
def pp_640842_String_length (D : va_G) (I : FieldType → ClassId) (P640837 : List Nat) (F640838 : Nat → va_E) (qs640839 : Nat) (qb640840 : Nat) (bs640841 : List Int32) : Option Value → va_W → Nat → Nat → Prop := fun r w dc ds => ∃ (o640856 : Int32), r = some (.int o640856) ∧ w = va_pl P640837 F640838 ∧ dc ≤ 0 ∧ ds ≤ 0 ∧ gB o640856 0 65535 ∧ o640856.toInt = (bs640841.length : Int)
set_option maxRecDepth 100000 in
set_option maxHeartbeats 4000000 in
theorem cp_640842_String_length (l : Launch) (hl0 : l.stackTraces = false) (D : va_G) (I : FieldType → ClassId) (P640837 : List Nat) (F640838 : Nat → va_E) (qs640839 : Nat) (qb640840 : Nat) (bs640841 : List Int32) (hbs640841 : ∀ A s H, (gV D I).2.2.2.1 A s H → gSC qs640839 qb640840 bs640841 A s H) (nbs640841 : (bs640841.length : Int) ≤ 65535) (lbs640841 : gLB bs640841) : CtA (gV D I) l yJ0_length_8abf5 cJ0_length_8abf5 1 (some FieldType.int) 1 20 0 0 [.ref qs640839] (va_pl P640837 F640838) (pp_640842_String_length D I P640837 F640838 qs640839 qb640840 bs640841) gNA := by
  refine CtA_ofF hl0 (by decide +kernel) (Nat.le_of_ble_eq_true rfl) ?_
  refine G_aload_n 0 dr_cJ0_length_8abf5_0 rfl ?_
  refine G_kget dr_cJ0_length_8abf5_1 wr_8_182 (fun _ _ _ h => (hbs640841 _ _ _ h).2.2.1) ?_
  refine G_klen dr_cJ0_length_8abf5_4 (fun _ _ _ h => (hbs640841 _ _ _ h).2.2.2) (G_nam fun z640843 hz640843 => ?_)
  have ez640843 : z640843.toInt = (bs640841.length : Int) := gI_ofN hz640843 (by omega)
  have bz640843 : gB z640843 0 65535 := ⟨by omega, by omega⟩
  refine G_aload_n 0 dr_cJ0_length_8abf5_5 rfl ?_
  refine Gw_callVk (As := []) (gV_ok D I) (cp_640849_String_coder l hl0 D I P640837 F640838 qs640839 qb640840 bs640841 hbs640841 nbs640841 lbs640841) dr_cJ0_length_8abf5_6 ⟨wr_3_61, wr_1_21, wr_3_64, by decide, rfl, (Nat.le_of_ble_eq_true rfl), (Nat.le_of_ble_eq_true rfl)⟩ wr_3_62 wr_3_63 (fun _ _ _ h => (hbs640841 _ _ _ h).1) (show 0 + 0 ≤ 0 by first | omega | decide) (show 0 + 0 ≤ 0 by first | omega | decide) (Nat.le_of_ble_eq_true rfl) (fun r640853 w640854 dc640850 ds640851 hp640852 => ?_) (fun _ _ _ _ _ z => z.elim)
  obtain ⟨rfl, rfl, hdc, hds⟩ := hp640852
  change G _ _ _ _ _ _ _ (.int 0 :: _) _ _ _
  refine G_widen (cs' := 0) (sl' := 0) (by omega) (by omega) ?_
  refine G_ishr dr_cJ0_length_8abf5_9 (G_nam fun z640855 hz640855 => ?_)
  have ez640855 : z640855.toInt = z640843.toInt / 1 := gI_shr (k := 0) hz640855 (by decide)
  have bz640855 : gB z640855 0 65535 := ⟨by omega, by omega⟩
  exact G_iretA dr_cJ0_length_8abf5_10 rfl (Nat.le_of_ble_eq_true rfl) (Nat.le_of_ble_eq_true rfl) ⟨z640855, rfl, rfl, (Nat.le_of_ble_eq_true rfl), (Nat.le_of_ble_eq_true rfl), bz640855, (by omega)⟩
abbrev ky_640897_AbstractStringBuilder_inflateIfNeededFor : gKey := (cJ5_inflateIfNeededFor_a7421, 2, "java/lang/AbstractStringBuilder", none, [], "inflateIfNeededFor", fun _ _ => True)
def pp_640897_AbstractStringBuilder_inflateIfNeededFor (D : va_G) (I : FieldType → ClassId) (P640885 : List Nat) (F640886 : Nat → va_E) (q640887 : Nat) (q640888 : Nat) (qs640889 : Nat) (qb640890 : Nat) (bs640891 : List Int32) (p640892 : Int32) (p640893 : Int32) (f640894 : Nat → Int32) (n640895 : Nat) : Option Value → va_W → Nat → Nat → Prop := fun r w dc ds => r = none ∧ w = va_pl P640885 F640886 ∧ dc ≤ 0 ∧ ds ≤ 0
set_option maxRecDepth 100000 in
set_option maxHeartbeats 4000000 in
theorem cp_640897_AbstractStringBuilder_inflateIfNeededFor (l : Launch) (hl0 : l.stackTraces = false) (D : va_G) (I : FieldType → ClassId) (P640885 : List Nat) (F640886 : Nat → va_E) (q640887 : Nat) (q640888 : Nat) (qs640889 : Nat) (qb640890 : Nat) (bs640891 : List Int32) (p640892 : Int32) (p640893 : Int32) (f640894 : Nat → Int32) (n640895 : Nat) (hmq640887 : q640887 ∈ P640885) (hmq640888 : q640888 ∈ P640885) (heq640887 : F640886 q640887 = .inr (1, [.ref q640888, .int 0, .int p640892, .int p640893])) (heq640888 : F640886 q640888 = .inl (I .byte, n640895, .inl f640894)) (hbs640891 : ∀ A s H, (gV D I).2.2.2.1 A s H → gSC qs640889 qb640890 bs640891 A s H) (nbs640891 : (bs640891.length : Int) ≤ 65535) (lbs640891 : gLB bs640891) (bp640892 : gB p640892 0 1) (bp640893 : gB p640893 0 16777216) (bf640894 : gF f640894 (-128) 127) (x640896 : ((n640895 : Int) ≤ 16777216)) : CtA (gV D I) l yJ5_inflateIfNeededFor_a7421 cJ5_inflateIfNeededFor_a7421 2 none 1 20 0 0 [.ref q640887, .ref qs640889] (va_pl P640885 F640886) (pp_640897_AbstractStringBuilder_inflateIfNeededFor D I P640885 F640886 q640887 q640888 qs640889 qb640890 bs640891 p640892 p640893 f640894 n640895) gNA := by
  refine CtA_ofF hl0 (by decide +kernel) (Nat.le_of_ble_eq_true rfl) ?_
  refine G_gets dr_cJ5_inflateIfNeededFor_a7421_0 wr_7_52 gz_cs (fun x hx => ?_)
  subst hx
  refine G_if_eq 21 dr_cJ5_inflateIfNeededFor_a7421_3 (by decide +kernel) (fun hc => absurd hc (by decide)) (fun _ => ?_)
  refine G_aload_n 0 dr_cJ5_inflateIfNeededFor_a7421_6 rfl ?_
  refine Gp_get 1 hmq640887 heq640887 dr_cJ5_inflateIfNeededFor_a7421_7 (gk_J4 D I) (Nat.le_of_ble_eq_true rfl) wr_7_61 rfl ?_
  refine G_aload_n 1 dr_cJ5_inflateIfNeededFor_a7421_10 rfl ?_
  refine Gw_callVk (As := []) (gV_ok D I) (cp_640849_String_coder l hl0 D I P640885 F640886 qs640889 qb640890 bs640891 hbs640891 nbs640891 lbs640891) dr_cJ5_inflateIfNeededFor_a7421_11 ⟨wr_8_163, wr_1_21, wr_3_64, by decide, rfl, (Nat.le_of_ble_eq_true rfl), (Nat.le_of_ble_eq_true rfl)⟩ wr_3_62 wr_3_63 (fun _ _ _ h => (hbs640891 _ _ _ h).1) (show 0 + 0 ≤ 0 by first | omega | decide) (show 0 + 0 ≤ 0 by first | omega | decide) (Nat.le_of_ble_eq_true rfl) (fun r640901 w640902 dc640898 ds640899 hp640900 => ?_) (fun _ _ _ _ _ z => z.elim)
  obtain ⟨rfl, rfl, hdc, hds⟩ := hp640900
  change G _ _ _ _ _ _ _ (.int 0 :: _) _ _ _
  refine G_widen (cs' := 0) (sl' := 0) (by omega) (by omega) ?_
  refine G_icmp_eq 21 dr_cJ5_inflateIfNeededFor_a7421_14 (by decide +kernel) (fun _ => ?_) (fun hc => absurd hc (by decide))
  exact G_vretA dr_cJ5_inflateIfNeededFor_a7421_21 rfl (Nat.le_of_ble_eq_true rfl) (Nat.le_of_ble_eq_true rfl) ⟨rfl, rfl, (Nat.le_of_ble_eq_true rfl), (Nat.le_of_ble_eq_true rfl)⟩
abbrev ky_640919_String_getBytes : gKey := (cJ0_getBytes_840e7, 4, "java/lang/String", none, [], "getBytes", fun _ _ => True)
def pp_640919_String_getBytes (D : va_G) (I : FieldType → ClassId) (P640908 : List Nat) (F640909 : Nat → va_E) (q640910 : Nat) (qs640911 : Nat) (qb640912 : Nat) (bs640913 : List Int32) (p640914 : Int32) (f640915 : Nat → Int32) (n640916 : Nat) : Option Value → va_W → Nat → Nat → Prop := fun r w dc ds => ∃ (F640935 : Nat → va_E) (f640933 : Nat → Int32), r = none ∧ w = va_pl P640908 F640935 ∧ rFr [q640910] P640908 F640909 F640935 ∧ F640935 q640910 = .inl (I .byte, n640916, .inl f640933) ∧ dc ≤ 0 ∧ ds ≤ 0 ∧ gF f640933 (-128) 127 ∧ sK f640915 f640933 p640914.toInt ∧ sF (fun j => bs640913.getD j 0) f640933 p640914.toInt (bs640913.length : Int)
set_option maxRecDepth 100000 in
set_option maxHeartbeats 4000000 in
theorem cp_640919_String_getBytes (l : Launch) (hl0 : l.stackTraces = false) (D : va_G) (I : FieldType → ClassId) (P640908 : List Nat) (F640909 : Nat → va_E) (q640910 : Nat) (qs640911 : Nat) (qb640912 : Nat) (bs640913 : List Int32) (p640914 : Int32) (f640915 : Nat → Int32) (n640916 : Nat) (hmq640910 : q640910 ∈ P640908) (heq640910 : F640909 q640910 = .inl (I .byte, n640916, .inl f640915)) (hbs640913 : ∀ A s H, (gV D I).2.2.2.1 A s H → gSC qs640911 qb640912 bs640913 A s H) (nbs640913 : (bs640913.length : Int) ≤ 65535) (lbs640913 : gLB bs640913) (bp640914 : gB p640914 0 16777216) (bf640915 : gF f640915 (-128) 127) (x640917 : p640914.toInt + (bs640913.length : Int) ≤ (n640916 : Int)) (x640918 : ((n640916 : Int) ≤ 16777216)) : CtA (gV D I) l yJ0_getBytes_840e7 cJ0_getBytes_840e7 4 none 1 20 0 0 [.ref qs640911, .ref q640910, .int p640914, .int 0] (va_pl P640908 F640909) (pp_640919_String_getBytes D I P640908 F640909 q640910 qs640911 qb640912 bs640913 p640914 f640915 n640916) gNA := by
  refine CtA_ofF hl0 (by decide +kernel) (Nat.le_of_ble_eq_true rfl) ?_
  refine G_aload_n 0 dr_cJ0_getBytes_840e7_0 rfl ?_
  refine Gw_callVk (As := []) (gV_ok D I) (cp_640849_String_coder l hl0 D I P640908 F640909 qs640911 qb640912 bs640913 hbs640913 nbs640913 lbs640913) dr_cJ0_getBytes_840e7_1 ⟨wr_3_61, wr_1_21, wr_3_64, by decide, rfl, (Nat.le_of_ble_eq_true rfl), (Nat.le_of_ble_eq_true rfl)⟩ wr_3_62 wr_3_63 (fun _ _ _ h => (hbs640913 _ _ _ h).1) (show 0 + 0 ≤ 0 by first | omega | decide) (show 0 + 0 ≤ 0 by first | omega | decide) (Nat.le_of_ble_eq_true rfl) (fun r640923 w640924 dc640920 ds640921 hp640922 => ?_) (fun _ _ _ _ _ z => z.elim)
  obtain ⟨rfl, rfl, hdc, hds⟩ := hp640922
  change G _ _ _ _ _ _ _ (.int 0 :: _) _ _ _
  refine G_widen (cs' := 0) (sl' := 0) (by omega) (by omega) ?_
  refine G_iload_n 3 dr_cJ0_getBytes_840e7_4 rfl ?_
  refine G_icmp_ne 28 dr_cJ0_getBytes_840e7_5 (by decide +kernel) (fun hc => absurd hc (by decide)) (fun _ => ?_)
  refine G_aload_n 0 dr_cJ0_getBytes_840e7_8 rfl ?_
  refine G_kget dr_cJ0_getBytes_840e7_9 wr_8_182 (fun _ _ _ h => (hbs640913 _ _ _ h).2.2.1) ?_
  refine G_iconst 0 dr_cJ0_getBytes_840e7_12 (by decide +kernel) ?_
  refine G_aload_n 1 dr_cJ0_getBytes_840e7_13 rfl ?_
  refine G_iload_n 2 dr_cJ0_getBytes_840e7_14 rfl ?_
  refine G_iload_n 3 dr_cJ0_getBytes_840e7_15 rfl ?_
  refine G_ishl dr_cJ0_getBytes_840e7_16 (G_nam fun z640925 hz640925 => ?_)
  have ez640925 : z640925.toInt = p640914.toInt * 1 := gI_shl (k := 0) hz640925 (by decide) bp640914 (by decide) (by decide)
  have bz640925 : gB z640925 0 16777216 := ⟨by omega, by omega⟩
  refine G_aload_n 0 dr_cJ0_getBytes_840e7_17 rfl ?_
  refine G_kget dr_cJ0_getBytes_840e7_18 wr_8_182 (fun _ _ _ h => (hbs640913 _ _ _ h).2.2.1) ?_
  refine G_klen dr_cJ0_getBytes_840e7_21 (fun _ _ _ h => (hbs640913 _ _ _ h).2.2.2) (G_nam fun z640926 hz640926 => ?_)
  have ez640926 : z640926.toInt = (bs640913.length : Int) := gI_ofN hz640926 (by omega)
  have bz640926 : gB z640926 0 65535 := ⟨by omega, by omega⟩
  refine Gp_copyK 1 (fun _ _ _ h => (hbs640913 _ _ _ h).2.2.2) hmq640910 heq640910 dr_cJ0_getBytes_840e7_22 wr_8_168 wr_5_113 wr_5_112 wr_1_34 rfl (gF_lst lbs640913) (by decide) (by omega) (by omega) (by have qa0 : Int32.toInt 0 = 0 := (by decide); omega) (by have qa0 : Int32.toInt 0 = 0 := (by decide); omega) (Nat.le_of_ble_eq_true rfl) (Nat.le_of_ble_eq_true rfl) (fun F640927 e640928 n640929 => ?_)
  obtain ⟨f640930, hf640930⟩ : ∃ z, z = va_cpy (fun j => bs640913.getD j 0) f640915 (0 : Int32).toNatClampNeg z640925.toNatClampNeg z640926.toNatClampNeg := ⟨_, rfl⟩
  rw [← hf640930] at e640928
  have bf640930 : gF f640930 (-128) 127 := gF_cpy hf640930 (gF_lst lbs640913) bf640915
  have he640931 : F640927 q640910 = .inl (I .byte, n640916, .inl f640930) := e640928
  have hfr640932 : rFr [q640910] P640908 F640909 F640927 := rFr_put (rFr_rf (W := []) (P := P640908) (F := F640909)) n640929
  refine G_goto 43 dr_cJ0_getBytes_840e7_25 (by decide +kernel) ?_
  exact G_vretA dr_cJ0_getBytes_840e7_43 rfl (Nat.le_of_ble_eq_true rfl) (Nat.le_of_ble_eq_true rfl) ⟨F640927, f640930, rfl, rfl, hfr640932, he640931, (Nat.le_of_ble_eq_true rfl), (Nat.le_of_ble_eq_true rfl), bf640930, (sK_cpy hf640930 (by omega)), (sF_cpy hf640930 (by decide) (by omega) (by omega))⟩
abbrev ky_640884_AbstractStringBuilder_putStringAt : gKey := (cJ5_putStringAt_47b60, 3, "java/lang/AbstractStringBuilder", none, [], "putStringAt", fun _ _ => True)
def pp_640884_AbstractStringBuilder_putStringAt (D : va_G) (I : FieldType → ClassId) (P640870 : List Nat) (F640871 : Nat → va_E) (q640872 : Nat) (q640873 : Nat) (p640874 : Int32) (qs640875 : Nat) (qb640876 : Nat) (bs640877 : List Int32) (p640878 : Int32) (p640879 : Int32) (f640880 : Nat → Int32) (n640881 : Nat) : Option Value → va_W → Nat → Nat → Prop := fun r w dc ds => ∃ (F640952 : Nat → va_E) (f640950 : Nat → Int32), r = none ∧ w = va_pl P640870 F640952 ∧ rFr [q640873] P640870 F640871 F640952 ∧ F640952 q640872 = .inr (1, [.ref q640873, .int 0, .int p640878, .int p640879]) ∧ F640952 q640873 = .inl (I .byte, n640881, .inl f640950) ∧ dc ≤ 0 ∧ ds ≤ 0 ∧ gF f640950 (-128) 127 ∧ sK f640880 f640950 p640874.toInt ∧ sF (fun j => bs640877.getD j 0) f640950 p640874.toInt (bs640877.length : Int)
set_option maxRecDepth 100000 in
set_option maxHeartbeats 4000000 in
theorem cp_640884_AbstractStringBuilder_putStringAt (l : Launch) (hl0 : l.stackTraces = false) (D : va_G) (I : FieldType → ClassId) (P640870 : List Nat) (F640871 : Nat → va_E) (q640872 : Nat) (q640873 : Nat) (p640874 : Int32) (qs640875 : Nat) (qb640876 : Nat) (bs640877 : List Int32) (p640878 : Int32) (p640879 : Int32) (f640880 : Nat → Int32) (n640881 : Nat) (hmq640872 : q640872 ∈ P640870) (hmq640873 : q640873 ∈ P640870) (heq640872 : F640871 q640872 = .inr (1, [.ref q640873, .int 0, .int p640878, .int p640879])) (heq640873 : F640871 q640873 = .inl (I .byte, n640881, .inl f640880)) (hbs640877 : ∀ A s H, (gV D I).2.2.2.1 A s H → gSC qs640875 qb640876 bs640877 A s H) (nbs640877 : (bs640877.length : Int) ≤ 65535) (lbs640877 : gLB bs640877) (bp640874 : gB p640874 0 16777216) (bp640878 : gB p640878 0 1) (bp640879 : gB p640879 0 16777216) (bf640880 : gF f640880 (-128) 127) (x640882 : p640874.toInt + (bs640877.length : Int) ≤ (n640881 : Int)) (x640883 : ((n640881 : Int) ≤ 16777216)) : CtA (gV D I) l yJ5_putStringAt_47b60 cJ5_putStringAt_47b60 3 none 2 43 0 0 [.ref q640872, .int p640874, .ref qs640875] (va_pl P640870 F640871) (pp_640884_AbstractStringBuilder_putStringAt D I P640870 F640871 q640872 q640873 p640874 qs640875 qb640876 bs640877 p640878 p640879 f640880 n640881) gNA := by
  refine CtA_ofF hl0 (by decide +kernel) (Nat.le_of_ble_eq_true rfl) ?_
  refine G_aload_n 0 dr_cJ5_putStringAt_47b60_0 rfl ?_
  refine G_aload_n 2 dr_cJ5_putStringAt_47b60_1 rfl ?_
  refine Gw_callVB (As := [.ref qs640875]) (gV_ok D I) (cp_640897_AbstractStringBuilder_inflateIfNeededFor l hl0 D I P640870 F640871 q640872 q640873 qs640875 qb640876 bs640877 p640878 p640879 f640880 n640881 hmq640872 hmq640873 heq640872 heq640873 hbs640877 nbs640877 lbs640877 bp640878 bp640879 bf640880 (by have qa0 : Int32.toInt 0 = 0 := (by decide); omega)) dr_cJ5_putStringAt_47b60_2 ⟨wr_8_159, wr_1_19, wr_8_162, by decide, rfl, (Nat.le_of_ble_eq_true rfl), (Nat.le_of_ble_eq_true rfl)⟩ wr_8_161 wr_s_5 hmq640872 heq640872 rfl (show 0 + 0 ≤ 0 by first | omega | decide) (show 0 + 0 ≤ 0 by first | omega | decide) (Nat.le_of_ble_eq_true rfl) (fun r640906 w640907 dc640903 ds640904 hp640905 => ?_) (fun _ _ _ _ _ z => z.elim)
  obtain ⟨rfl, rfl, hdc, hds⟩ := hp640905
  change G _ _ _ _ _ _ _ _ _ _ _
  refine G_widen (cs' := 0) (sl' := 0) (by omega) (by omega) ?_
  refine G_aload_n 2 dr_cJ5_putStringAt_47b60_5 rfl ?_
  refine G_aload_n 0 dr_cJ5_putStringAt_47b60_6 rfl ?_
  refine Gp_get 0 hmq640872 heq640872 dr_cJ5_putStringAt_47b60_7 (gk_J4 D I) (Nat.le_of_ble_eq_true rfl) wr_7_60 rfl ?_
  refine G_iload_n 1 dr_cJ5_putStringAt_47b60_10 rfl ?_
  refine G_aload_n 0 dr_cJ5_putStringAt_47b60_11 rfl ?_
  refine Gp_get 1 hmq640872 heq640872 dr_cJ5_putStringAt_47b60_12 (gk_J4 D I) (Nat.le_of_ble_eq_true rfl) wr_7_61 rfl ?_
  refine Gw_callVk (As := [.ref q640873, .int p640874, .int 0]) (gV_ok D I) (cp_640919_String_getBytes l hl0 D I P640870 F640871 q640873 qs640875 qb640876 bs640877 p640874 f640880 n640881 hmq640873 heq640873 hbs640877 nbs640877 lbs640877 bp640874 bf640880 (by have qa0 : Int32.toInt 0 = 0 := (by decide); omega) (by have qa0 : Int32.toInt 0 = 0 := (by decide); omega)) dr_cJ5_putStringAt_47b60_15 ⟨wr_8_164, wr_1_21, wr_8_167, by decide, rfl, (Nat.le_of_ble_eq_true rfl), (Nat.le_of_ble_eq_true rfl)⟩ wr_8_165 wr_8_166 (fun _ _ _ h => (hbs640877 _ _ _ h).1) (show 0 + 0 ≤ 0 by first | omega | decide) (show 0 + 0 ≤ 0 by first | omega | decide) (Nat.le_of_ble_eq_true rfl) (fun r640939 w640940 dc640936 ds640937 hp640938 => ?_) (fun _ _ _ _ _ z => z.elim)
  obtain ⟨F640944, f640941, rfl, rfl, hfr640946, he640947, hdc, hds, bf640941, x640942, x640943⟩ := hp640938
  have he640948 : F640944 q640872 = .inr (1, [.ref q640873, .int 0, .int p640878, .int p640879]) := (hfr640946 q640872 hmq640872 (nm_c (rn_oa heq640872 heq640873) nm_n)).trans heq640872
  have hfr640949 : rFr [q640873] P640870 F640871 F640944 := rFr_call (rSub_rf (P := P640870)) (rFr_rf (W := []) (P := P640870) (F := F640871)) hfr640946 (fun b hb hn => ⟨nm_n, (nm_c (fun e => hn (e ▸ List.mem_cons_self)) nm_n)⟩)
  change G _ _ _ _ _ _ _ _ _ _ _
  refine G_widen (cs' := 0) (sl' := 0) (by omega) (by omega) ?_
  exact G_vretA dr_cJ5_putStringAt_47b60_18 rfl (Nat.le_of_ble_eq_true rfl) (Nat.le_of_ble_eq_true rfl) ⟨F640944, f640941, rfl, rfl, hfr640949, he640948, he640947, (Nat.le_of_ble_eq_true rfl), (Nat.le_of_ble_eq_true rfl), bf640941, (sK_c x640942 (by omega)), (by assumption)⟩
abbrev ky_640836_AbstractStringBuilder_append : gKey := (cJ5_append_cf1ce, 3, "java/lang/AbstractStringBuilder", (some (FieldType.object "java/lang/AbstractStringBuilder")), [], "append", fun _ _ => True)
def pp_640836_AbstractStringBuilder_append (D : va_G) (I : FieldType → ClassId) (P640823 : List Nat) (F640824 : Nat → va_E) (q640825 : Nat) (q640826 : Nat) (qs640827 : Nat) (qb640828 : Nat) (bs640829 : List Int32) (p640830 : Int32) (p640831 : Int32) (f640832 : Nat → Int32) (n640833 : Nat) : Option Value → va_W → Nat → Nat → Prop := fun r w dc ds => ∃ (F640977 : Nat → va_E) (o640974 : Int32) (f640975 : Nat → Int32), r = some (.ref q640825) ∧ w = va_pl P640823 F640977 ∧ rFr [q640825, q640826] P640823 F640824 F640977 ∧ F640977 q640825 = .inr (1, [.ref q640826, .int 0, .int p640830, .int o640974]) ∧ F640977 q640826 = .inl (I .byte, n640833, .inl f640975) ∧ dc ≤ 0 ∧ ds ≤ 0 ∧ gB o640974 0 16777216 ∧ gF f640975 (-128) 127 ∧ o640974.toInt = p640831.toInt + (bs640829.length : Int) ∧ sK f640832 f640975 p640831.toInt ∧ sF (fun j => bs640829.getD j 0) f640975 p640831.toInt (bs640829.length : Int)
set_option maxRecDepth 100000 in
set_option maxHeartbeats 4000000 in
theorem cp_640836_AbstractStringBuilder_append (l : Launch) (hl0 : l.stackTraces = false) (D : va_G) (I : FieldType → ClassId) (P640823 : List Nat) (F640824 : Nat → va_E) (q640825 : Nat) (q640826 : Nat) (qs640827 : Nat) (qb640828 : Nat) (bs640829 : List Int32) (p640830 : Int32) (p640831 : Int32) (f640832 : Nat → Int32) (n640833 : Nat) (hmq640825 : q640825 ∈ P640823) (hmq640826 : q640826 ∈ P640823) (heq640825 : F640824 q640825 = .inr (1, [.ref q640826, .int 0, .int p640830, .int p640831])) (heq640826 : F640824 q640826 = .inl (I .byte, n640833, .inl f640832)) (hbs640829 : ∀ A s H, (gV D I).2.2.2.1 A s H → gSC qs640827 qb640828 bs640829 A s H) (nbs640829 : (bs640829.length : Int) ≤ 65535) (lbs640829 : gLB bs640829) (bp640830 : gB p640830 0 1) (bp640831 : gB p640831 0 16777216) (bf640832 : gF f640832 (-128) 127) (x640834 : p640831.toInt + (bs640829.length : Int) ≤ (n640833 : Int)) (x640835 : ((n640833 : Int) ≤ 16777216)) : CtA (gV D I) l yJ5_append_cf1ce cJ5_append_cf1ce 3 (some (FieldType.object "java/lang/AbstractStringBuilder")) 3 65 0 0 [.ref q640825, .ref qs640827] (va_pl P640823 F640824) (pp_640836_AbstractStringBuilder_append D I P640823 F640824 q640825 q640826 qs640827 qb640828 bs640829 p640830 p640831 f640832 n640833) gNA := by
  refine CtA_ofF hl0 (by decide +kernel) (Nat.le_of_ble_eq_true rfl) ?_
  refine G_aload_n 1 dr_cJ5_append_cf1ce_0 rfl ?_
  refine G_ifnonnull 9 dr_cJ5_append_cf1ce_1 (by decide +kernel) ?_
  refine G_aload_n 1 dr_cJ5_append_cf1ce_9 rfl ?_
  refine Gw_callVk (As := []) (gV_ok D I) (cp_640842_String_length l hl0 D I P640823 F640824 qs640827 qb640828 bs640829 hbs640829 nbs640829 lbs640829) dr_cJ5_append_cf1ce_10 ⟨wr_8_154, wr_1_21, wr_3_60, by decide, rfl, (Nat.le_of_ble_eq_true rfl), (Nat.le_of_ble_eq_true rfl)⟩ wr_3_58 wr_3_59 (fun _ _ _ h => (hbs640829 _ _ _ h).1) (show 0 + 0 ≤ 0 by first | omega | decide) (show 0 + 0 ≤ 0 by first | omega | decide) (Nat.le_of_ble_eq_true rfl) (fun r640860 w640861 dc640857 ds640858 hp640859 => ?_) (fun _ _ _ _ _ z => z.elim)
  obtain ⟨o640862, rfl, rfl, hdc, hds, bo640862, x640863⟩ := hp640859
  change G _ _ _ _ _ _ _ (.int o640862 :: _) _ _ _
  refine G_widen (cs' := 0) (sl' := 0) (by omega) (by omega) ?_
  refine G_istore_n (L' := [(2, .int o640862), (0, .ref q640825), (1, .ref qs640827)]) dr_cJ5_append_cf1ce_13 (Nat.le_of_ble_eq_true rfl) rfl ?_
  refine G_aload_n 1 dr_cJ5_append_cf1ce_14 rfl ?_
  refine G_aload_n 1 dr_cJ5_append_cf1ce_15 rfl ?_
  refine Gp_get 3 hmq640825 heq640825 dr_cJ5_append_cf1ce_16 (gk_J4 D I) (Nat.le_of_ble_eq_true rfl) wr_7_64 rfl ?_
  refine G_iload_n 0 dr_cJ5_append_cf1ce_19 rfl ?_
  refine G_iadd dr_cJ5_append_cf1ce_20 (G_nam fun z640864 hz640864 => ?_)
  have ez640864 : z640864.toInt = p640831.toInt + o640862.toInt := by rw [gI_add hz640864 bp640831 bo640862 (by decide) (by decide)]
  have bz640864 : gB z640864 0 16842751 := gB_add (gI_add hz640864 bp640831 bo640862 (by decide) (by decide)) bp640831 bo640862 (by decide) (by decide)
  refine Gw_callVB (As := [.int z640864]) (gV_ok D I) (cp_640124_AbstractStringBuilder_ensureCapacityInternal l hl0 D I P640823 F640824 q640825 q640826 z640864 p640830 p640831 f640832 n640833 hmq640825 hmq640826 heq640825 heq640826 ⟨by omega, by omega⟩ bp640830 bp640831 bf640832 (by have qa0 : Int32.toInt 0 = 0 := (by decide); omega) (by have qa0 : Int32.toInt 0 = 0 := (by decide); omega)) dr_cJ5_append_cf1ce_21 ⟨wr_8_4, wr_1_19, wr_8_7, by decide, rfl, (Nat.le_of_ble_eq_true rfl), (Nat.le_of_ble_eq_true rfl)⟩ wr_8_6 wr_s_0 hmq640825 heq640825 rfl (show 0 + 0 ≤ 0 by first | omega | decide) (show 0 + 0 ≤ 0 by first | omega | decide) (Nat.le_of_ble_eq_true rfl) (fun r640868 w640869 dc640865 ds640866 hp640867 => ?_) (fun _ _ _ _ _ z => z.elim)
  obtain ⟨rfl, rfl, hdc, hds⟩ := hp640867
  change G _ _ _ _ _ _ _ _ _ _ _
  refine G_widen (cs' := 0) (sl' := 0) (by omega) (by omega) ?_
  refine G_aload_n 1 dr_cJ5_append_cf1ce_24 rfl ?_
  refine G_aload_n 1 dr_cJ5_append_cf1ce_25 rfl ?_
  refine Gp_get 3 hmq640825 heq640825 dr_cJ5_append_cf1ce_26 (gk_J4 D I) (Nat.le_of_ble_eq_true rfl) wr_7_64 rfl ?_
  refine G_aload_n 2 dr_cJ5_append_cf1ce_29 rfl ?_
  refine Gw_callVB (As := [.int p640831, .ref qs640827]) (gV_ok D I) (cp_640884_AbstractStringBuilder_putStringAt l hl0 D I P640823 F640824 q640825 q640826 p640831 qs640827 qb640828 bs640829 p640830 p640831 f640832 n640833 hmq640825 hmq640826 heq640825 heq640826 hbs640829 nbs640829 lbs640829 bp640831 bp640830 bp640831 bf640832 (by have qa0 : Int32.toInt 0 = 0 := (by decide); omega) (by have qa0 : Int32.toInt 0 = 0 := (by decide); omega)) dr_cJ5_append_cf1ce_30 ⟨wr_8_155, wr_1_19, wr_8_158, by decide, rfl, (Nat.le_of_ble_eq_true rfl), (Nat.le_of_ble_eq_true rfl)⟩ wr_8_157 wr_s_4 hmq640825 heq640825 rfl (show 0 + 0 ≤ 0 by first | omega | decide) (show 0 + 0 ≤ 0 by first | omega | decide) (Nat.le_of_ble_eq_true rfl) (fun r640956 w640957 dc640953 ds640954 hp640955 => ?_) (fun _ _ _ _ _ z => z.elim)
  obtain ⟨F640961, f640958, rfl, rfl, hfr640963, he640964, he640965, hdc, hds, bf640958, x640959, x640960⟩ := hp640955
  have hfr640966 : rFr [q640826] P640823 F640824 F640961 := rFr_call (rSub_rf (P := P640823)) (rFr_rf (W := []) (P := P640823) (F := F640824)) hfr640963 (fun b hb hn => ⟨nm_n, (nm_c (fun e => hn (e ▸ List.mem_cons_self)) nm_n)⟩)
  change G _ _ _ _ _ _ _ _ _ _ _
  refine G_widen (cs' := 0) (sl' := 0) (by omega) (by omega) ?_
  refine G_aload_n 1 dr_cJ5_append_cf1ce_33 rfl ?_
  refine G_dup dr_cJ5_append_cf1ce_34 rfl ?_
  refine Gp_get 3 hmq640825 he640964 dr_cJ5_append_cf1ce_35 (gk_J4 D I) (Nat.le_of_ble_eq_true rfl) wr_7_64 rfl ?_
  refine G_iload_n 0 dr_cJ5_append_cf1ce_38 rfl ?_
  refine G_iadd dr_cJ5_append_cf1ce_39 (G_nam fun z640967 hz640967 => ?_)
  have ez640967 : z640967.toInt = p640831.toInt + o640862.toInt := by rw [gI_add hz640967 bp640831 bo640862 (by decide) (by decide)]
  have bz640967 : gB z640967 0 16842751 := gB_add (gI_add hz640967 bp640831 bo640862 (by decide) (by decide)) bp640831 bo640862 (by decide) (by decide)
  refine Gp_put 3 hmq640825 he640964 dr_cJ5_append_cf1ce_40 (gk_J4 D I) (Nat.le_of_ble_eq_true rfl) wr_7_64 rfl rfl rfl (Nat.le_of_ble_eq_true rfl) (fun F640968 e640969 n640970 => ?_)
  have he640971 : F640968 q640826 = .inl (I .byte, n640833, .inl f640958) := (n640970 q640826 (rn_ao he640965 he640964)).trans he640965
  have he640972 : F640968 q640825 = .inr (1, [.ref q640826, .int 0, .int p640830, .int z640967]) := e640969
  have hfr640973 : rFr [q640825, q640826] P640823 F640824 F640968 := rFr_put hfr640966 n640970
  refine G_aload_n 1 dr_cJ5_append_cf1ce_43 rfl ?_
  exact G_aretA (FieldType.object "java/lang/AbstractStringBuilder") dr_cJ5_append_cf1ce_44 rfl (by first | exact Or.inl ⟨_, rfl⟩ | exact Or.inr ⟨_, rfl⟩) (Or.inr ⟨_, rfl⟩) (Nat.le_of_ble_eq_true rfl) (Nat.le_of_ble_eq_true rfl) ⟨F640968, z640967, f640958, rfl, rfl, hfr640973, he640972, he640971, (Nat.le_of_ble_eq_true rfl), (Nat.le_of_ble_eq_true rfl), ⟨by omega, by omega⟩, bf640958, (by have qa0 : Int32.toInt 0 = 0 := (by decide); omega), (sK_c x640959 (by omega)), (by assumption)⟩
abbrev ky_640822_StringBuilder_append : gKey := (cJ4_append_15ec4, 2, "java/lang/StringBuilder", (some (FieldType.object "java/lang/StringBuilder")), [], "append", fun _ _ => True)
def pp_640822_StringBuilder_append (D : va_G) (I : FieldType → ClassId) (P640809 : List Nat) (F640810 : Nat → va_E) (q640811 : Nat) (q640812 : Nat) (qs640813 : Nat) (qb640814 : Nat) (bs640815 : List Int32) (p640816 : Int32) (p640817 : Int32) (f640818 : Nat → Int32) (n640819 : Nat) : Option Value → va_W → Nat → Nat → Prop := fun r w dc ds => ∃ (F640997 : Nat → va_E) (o640994 : Int32) (f640995 : Nat → Int32), r = some (.ref q640811) ∧ w = va_pl P640809 F640997 ∧ rFr [q640811, q640812] P640809 F640810 F640997 ∧ F640997 q640811 = .inr (1, [.ref q640812, .int 0, .int p640816, .int o640994]) ∧ F640997 q640812 = .inl (I .byte, n640819, .inl f640995) ∧ dc ≤ 0 ∧ ds ≤ 0 ∧ gB o640994 0 16777216 ∧ gF f640995 (-128) 127 ∧ o640994.toInt = p640817.toInt + (bs640815.length : Int) ∧ sK f640818 f640995 p640817.toInt ∧ sF (fun j => bs640815.getD j 0) f640995 p640817.toInt (bs640815.length : Int)
set_option maxRecDepth 100000 in
set_option maxHeartbeats 4000000 in
theorem cp_640822_StringBuilder_append (l : Launch) (hl0 : l.stackTraces = false) (D : va_G) (I : FieldType → ClassId) (P640809 : List Nat) (F640810 : Nat → va_E) (q640811 : Nat) (q640812 : Nat) (qs640813 : Nat) (qb640814 : Nat) (bs640815 : List Int32) (p640816 : Int32) (p640817 : Int32) (f640818 : Nat → Int32) (n640819 : Nat) (hmq640811 : q640811 ∈ P640809) (hmq640812 : q640812 ∈ P640809) (heq640811 : F640810 q640811 = .inr (1, [.ref q640812, .int 0, .int p640816, .int p640817])) (heq640812 : F640810 q640812 = .inl (I .byte, n640819, .inl f640818)) (hbs640815 : ∀ A s H, (gV D I).2.2.2.1 A s H → gSC qs640813 qb640814 bs640815 A s H) (nbs640815 : (bs640815.length : Int) ≤ 65535) (lbs640815 : gLB bs640815) (bp640816 : gB p640816 0 1) (bp640817 : gB p640817 0 16777216) (bf640818 : gF f640818 (-128) 127) (x640820 : p640817.toInt + (bs640815.length : Int) ≤ (n640819 : Int)) (x640821 : ((n640819 : Int) ≤ 16777216)) : CtA (gV D I) l yJ4_append_15ec4 cJ4_append_15ec4 2 (some (FieldType.object "java/lang/StringBuilder")) 4 87 0 0 [.ref q640811, .ref qs640813] (va_pl P640809 F640810) (pp_640822_StringBuilder_append D I P640809 F640810 q640811 q640812 qs640813 qb640814 bs640815 p640816 p640817 f640818 n640819) gNA := by
  refine CtA_ofF hl0 (by decide +kernel) (Nat.le_of_ble_eq_true rfl) ?_
  refine G_aload_n 0 dr_cJ4_append_15ec4_0 rfl ?_
  refine G_aload_n 1 dr_cJ4_append_15ec4_1 rfl ?_
  refine Gw_callSU (As := [.ref qs640813]) (gV_ok D I) (cp_640836_AbstractStringBuilder_append l hl0 D I P640809 F640810 q640811 q640812 qs640813 qb640814 bs640815 p640816 p640817 f640818 n640819 hmq640811 hmq640812 heq640811 heq640812 hbs640815 nbs640815 lbs640815 bp640816 bp640817 bf640818 (by have qa0 : Int32.toInt 0 = 0 := (by decide); omega) (by have qa0 : Int32.toInt 0 = 0 := (by decide); omega)) dr_cJ4_append_15ec4_2 ⟨wr_8_144, wr_1_19, wr_8_146, by decide, rfl, (Nat.le_of_ble_eq_true rfl), (Nat.le_of_ble_eq_true rfl)⟩ wr_8_145 wr_11_229 wr_7_73 wr_7_44 (by decide) hmq640811 heq640811 rfl (show 0 + 0 ≤ 0 by first | omega | decide) (show 0 + 0 ≤ 0 by first | omega | decide) (Nat.le_of_ble_eq_true rfl) (fun r640981 w640982 dc640978 ds640979 hp640980 => ?_)
  obtain ⟨F640988, o640983, f640984, rfl, rfl, hfr640990, he640991, he640992, hdc, hds, bo640983, bf640984, x640985, x640986, x640987⟩ := hp640980
  have hfr640993 : rFr [q640811, q640812] P640809 F640810 F640988 := rFr_call (rSub_rf (P := P640809)) (rFr_rf (W := []) (P := P640809) (F := F640810)) hfr640990 (fun b hb hn => ⟨nm_n, (nm_c (fun e => hn (e ▸ List.mem_cons_self)) (nm_c (fun e => hn (e ▸ (List.mem_cons_of_mem _ List.mem_cons_self))) nm_n))⟩)
  change G _ _ _ _ _ _ _ (.ref q640811 :: _) _ _ _
  refine G_widen (cs' := 0) (sl' := 0) (by omega) (by omega) ?_
  refine G_pop dr_cJ4_append_15ec4_5 rfl ?_
  refine G_aload_n 0 dr_cJ4_append_15ec4_6 rfl ?_
  exact G_aretA (FieldType.object "java/lang/StringBuilder") dr_cJ4_append_15ec4_7 rfl (by first | exact Or.inl ⟨_, rfl⟩ | exact Or.inr ⟨_, rfl⟩) (Or.inr ⟨_, rfl⟩) (Nat.le_of_ble_eq_true rfl) (Nat.le_of_ble_eq_true rfl) ⟨F640988, o640983, f640984, rfl, rfl, hfr640993, he640991, he640992, (Nat.le_of_ble_eq_true rfl), (Nat.le_of_ble_eq_true rfl), bo640983, bf640984, (by have qa0 : Int32.toInt 0 = 0 := (by decide); omega), (sK_c x640986 (by omega)), (by assumption)⟩
abbrev ky_641037_AbstractStringBuilder_append : gKey := (cJ5_append_cf1ce, 3, "java/lang/AbstractStringBuilder", (some (FieldType.object "java/lang/AbstractStringBuilder")), [], "append", fun _ _ => True)
def pp_641037_AbstractStringBuilder_append (D : va_G) (I : FieldType → ClassId) (P641018 : List Nat) (F641019 : Nat → va_E) (q641020 : Nat) (q641021 : Nat) (q641022 : Nat) (q641023 : Nat) (p641024 : Int32) (p641025 : Int32) (p641026 : Int32) (p641027 : Int32) (f641028 : Nat → Int32) (n641029 : Nat) (f641030 : Nat → Int32) (n641031 : Nat) : Option Value → va_W → Nat → Nat → Prop := fun r w dc ds => ∃ (P641106 : List Nat) (F641107 : Nat → va_E) (o641102 : Int32) (q641103 : Nat) (n641104 : Nat) (f641105 : Nat → Int32), r = some (.ref q641020) ∧ w = va_pl P641106 F641107 ∧ rSub P641018 P641106 ∧ rFr [q641020, q641022] P641018 F641019 F641107 ∧ F641107 q641020 = .inr (1, [.ref q641103, .int 0, .int p641024, .int o641102]) ∧ F641107 q641021 = .inr (0, [.ref q641023, .int 0, .int p641026, .int p641027]) ∧ F641107 q641103 = .inl (I .byte, n641104, .inl f641105) ∧ F641107 q641023 = .inl (I .byte, n641031, .inl f641030) ∧ q641103 ∈ P641106 ∧ (q641103 = q641022 ∨ q641103 ∉ P641018) ∧ dc ≤ 1 ∧ ds ≤ 2 * (n641104 - n641029) ∧ gB o641102 0 16777216 ∧ gF f641105 (-128) 127 ∧ o641102.toInt = p641025.toInt + (n641031 : Int) ∧ o641102.toInt ≤ (n641104 : Int) ∧ (n641029 : Int) ≤ (n641104 : Int) ∧ (n641104 : Int) ≤ 2 * (n641029 : Int) + 2 + p641025.toInt + (n641031 : Int) ∧ ((n641104 : Int) = (n641029 : Int) ∨ (n641029 : Int) < o641102.toInt)
set_option maxRecDepth 100000 in
set_option maxHeartbeats 4000000 in
theorem cp_641037_AbstractStringBuilder_append (l : Launch) (hl0 : l.stackTraces = false) (D : va_G) (I : FieldType → ClassId) (P641018 : List Nat) (F641019 : Nat → va_E) (q641020 : Nat) (q641021 : Nat) (q641022 : Nat) (q641023 : Nat) (p641024 : Int32) (p641025 : Int32) (p641026 : Int32) (p641027 : Int32) (f641028 : Nat → Int32) (n641029 : Nat) (f641030 : Nat → Int32) (n641031 : Nat) (hmq641020 : q641020 ∈ P641018) (hmq641021 : q641021 ∈ P641018) (hmq641022 : q641022 ∈ P641018) (hmq641023 : q641023 ∈ P641018) (heq641020 : F641019 q641020 = .inr (1, [.ref q641022, .int 0, .int p641024, .int p641025])) (heq641021 : F641019 q641021 = .inr (0, [.ref q641023, .int 0, .int p641026, .int p641027])) (heq641022 : F641019 q641022 = .inl (I .byte, n641029, .inl f641028)) (heq641023 : F641019 q641023 = .inl (I .byte, n641031, .inl f641030)) (hneq641022q641023 : q641022 ≠ q641023) (bp641024 : gB p641024 0 1) (bp641025 : gB p641025 0 16777216) (bp641027 : gB p641027 0 1) (bf641028 : gF f641028 (-128) 127) (bf641030 : gF f641030 (-128) 127) (x641032 : (n641031 : Int) ≤ 65535) (x641033 : (n641029 : Int) ≤ 8388608 - 100000) (x641034 : p641025.toInt ≤ (n641029 : Int)) (x641035 : ((n641029 : Int) ≤ 16777216)) (x641036 : ((n641031 : Int) ≤ 16777216)) : CtA (gV D I) l yJ5_append_cf1ce cJ5_append_cf1ce 3 (some (FieldType.object "java/lang/AbstractStringBuilder")) 4 84 1 (4 * n641029 + 4 + 2 * n641031) [.ref q641020, .ref q641021] (va_pl P641018 F641019) (pp_641037_AbstractStringBuilder_append D I P641018 F641019 q641020 q641021 q641022 q641023 p641024 p641025 p641026 p641027 f641028 n641029 f641030 n641031) gNA := by
  refine CtA_ofF hl0 (by decide +kernel) (Nat.le_of_ble_eq_true rfl) ?_
  have bp641026 := gB_any p641026
  refine G_aload_n 1 dr_cJ5_append_cf1ce_0 rfl ?_
  refine G_ifnonnull 9 dr_cJ5_append_cf1ce_1 (by decide +kernel) ?_
  refine G_aload_n 1 dr_cJ5_append_cf1ce_9 rfl ?_
  refine Gw_callV (As := []) (gV_ok D I) (cp_640627_String_length l hl0 D I P641018 F641019 q641021 q641023 p641026 p641027 f641030 n641031 hmq641021 hmq641023 heq641021 heq641023 bp641027 bf641030 (by have qa0 : Int32.toInt 0 = 0 := (by decide); omega)) dr_cJ5_append_cf1ce_10 ⟨wr_8_154, wr_1_21, wr_3_60, by decide, rfl, (Nat.le_of_ble_eq_true rfl), (Nat.le_of_ble_eq_true rfl)⟩ wr_3_58 wr_3_59 hmq641021 heq641021 rfl (show 0 + 0 ≤ 1 by first | omega | decide) (show 0 + 0 ≤ (4 * n641029 + 4 + 2 * n641031) by first | omega | decide) (Nat.le_of_ble_eq_true rfl) (fun r641041 w641042 dc641038 ds641039 hp641040 => ?_) (fun _ _ _ _ _ z => z.elim)
  obtain ⟨o641043, rfl, rfl, hdc, hds, bo641043, x641044⟩ := hp641040
  change G _ _ _ _ _ _ _ (.int o641043 :: _) _ _ _
  refine G_widen (cs' := 0) (sl' := 0) (by omega) (by omega) ?_
  refine G_istore_n (L' := [(2, .int o641043), (0, .ref q641020), (1, .ref q641021)]) dr_cJ5_append_cf1ce_13 (Nat.le_of_ble_eq_true rfl) rfl ?_
  refine G_aload_n 1 dr_cJ5_append_cf1ce_14 rfl ?_
  refine G_aload_n 1 dr_cJ5_append_cf1ce_15 rfl ?_
  refine Gp_get 3 hmq641020 heq641020 dr_cJ5_append_cf1ce_16 (gk_J4 D I) (Nat.le_of_ble_eq_true rfl) wr_7_64 rfl ?_
  refine G_iload_n 0 dr_cJ5_append_cf1ce_19 rfl ?_
  refine G_iadd dr_cJ5_append_cf1ce_20 (G_nam fun z641045 hz641045 => ?_)
  have ez641045 : z641045.toInt = p641025.toInt + o641043.toInt := by rw [gI_add hz641045 bp641025 bo641043 (by decide) (by decide)]
  have bz641045 : gB z641045 0 33554432 := gB_add (gI_add hz641045 bp641025 bo641043 (by decide) (by decide)) bp641025 bo641043 (by decide) (by decide)
  refine Gw_callVB (As := [.int z641045]) (gV_ok D I) (cp_640241_AbstractStringBuilder_ensureCapacityInternal l hl0 D I P641018 F641019 q641020 q641022 z641045 p641024 p641025 f641028 n641029 hmq641020 hmq641022 heq641020 heq641022 ⟨by omega, by omega⟩ bp641024 bp641025 bf641028 (by have qa0 : Int32.toInt 0 = 0 := (by decide); omega) (by have qa0 : Int32.toInt 0 = 0 := (by decide); omega)) dr_cJ5_append_cf1ce_21 ⟨wr_8_4, wr_1_19, wr_8_7, by decide, rfl, (Nat.le_of_ble_eq_true rfl), (Nat.le_of_ble_eq_true rfl)⟩ wr_8_6 wr_s_0 hmq641020 heq641020 rfl (show 0 + 1 ≤ 1 by first | omega | decide) (show 0 + (2 * n641029 + 2 + z641045.toInt.toNat) ≤ (4 * n641029 + 4 + 2 * n641031) by first | omega | decide) (Nat.le_of_ble_eq_true rfl) (fun r641049 w641050 dc641046 ds641047 hp641048 => ?_) (fun _ _ _ _ _ z => z.elim)
  obtain ⟨P641058, F641059, q641051, n641052, f641053, rfl, rfl, hsb641060, hfr641061, he641062, he641063, hm641064, hq641065, hdc, hds, bf641053, x641054, x641055, x641056, x641057⟩ := hp641048
  have hm641066 : q641020 ∈ P641058 := hsb641060 q641020 hmq641020
  have hm641067 : q641021 ∈ P641058 := hsb641060 q641021 hmq641021
  have hm641068 : q641022 ∈ P641058 := hsb641060 q641022 hmq641022
  have hm641069 : q641023 ∈ P641058 := hsb641060 q641023 hmq641023
  have hor641070 : q641051 = q641022 ∨ q641051 ∉ P641018 := hq641065.elim Or.inl (fun n => Or.inr (fun z => n ((rSub_rf (P := P641018)) _ z)))
  have hsb641071 : rSub P641018 P641058 := rSub_tr (rSub_rf (P := P641018)) hsb641060
  have he641072 : F641059 q641021 = .inr (0, [.ref q641023, .int 0, .int p641026, .int p641027]) := (hfr641061 q641021 hmq641021 (nm_c (rn_oo heq641021 heq641020 (by decide)) nm_n)).trans heq641021
  have he641073 : F641059 q641022 = .inl (I .byte, n641029, .inl f641028) := (hfr641061 q641022 hmq641022 (nm_c (rn_ao heq641022 heq641020) nm_n)).trans heq641022
  have he641074 : F641059 q641023 = .inl (I .byte, n641031, .inl f641030) := (hfr641061 q641023 hmq641023 (nm_c (rn_ao heq641023 heq641020) nm_n)).trans heq641023
  have hfr641075 : rFr [q641020] P641018 F641019 F641059 := rFr_call (rSub_rf (P := P641018)) (rFr_rf (W := []) (P := P641018) (F := F641019)) hfr641061 (fun b hb hn => ⟨nm_n, (nm_c (fun e => hn (e ▸ List.mem_cons_self)) nm_n)⟩)
  have hne641076 : q641023 ≠ q641051 := fun e => hq641065.elim (fun e2 => (Ne.symm hneq641022q641023) (e.trans e2)) (fun n => n (e ▸ hmq641023))
  change G _ _ _ _ _ _ _ _ _ _ _
  refine G_widen (cs' := 1) (sl' := 2 * (n641052 - n641029)) (by omega) (by omega) ?_
  refine G_aload_n 1 dr_cJ5_append_cf1ce_24 rfl ?_
  refine G_aload_n 1 dr_cJ5_append_cf1ce_25 rfl ?_
  refine Gp_get 3 hm641066 he641062 dr_cJ5_append_cf1ce_26 (gk_J4 D I) (Nat.le_of_ble_eq_true rfl) wr_7_64 rfl ?_
  refine G_aload_n 2 dr_cJ5_append_cf1ce_29 rfl ?_
  refine Gw_callVB (As := [.int p641025, .ref q641021]) (gV_ok D I) (cp_640677_AbstractStringBuilder_putStringAt l hl0 D I P641058 F641059 q641020 q641021 q641051 q641023 p641025 p641024 p641025 p641026 p641027 f641053 n641052 f641030 n641031 hm641066 hm641067 hm641064 hm641069 he641062 he641072 he641063 he641074 (Ne.symm hne641076) bp641025 bp641024 bp641025 bp641027 bf641053 bf641030 (by have qa0 : Int32.toInt 0 = 0 := (by decide); omega) (by have qa0 : Int32.toInt 0 = 0 := (by decide); omega) (by have qa0 : Int32.toInt 0 = 0 := (by decide); omega)) dr_cJ5_append_cf1ce_30 ⟨wr_8_155, wr_1_19, wr_8_158, by decide, rfl, (Nat.le_of_ble_eq_true rfl), (Nat.le_of_ble_eq_true rfl)⟩ wr_8_157 wr_s_4 hm641066 he641062 rfl (show 1 + 0 ≤ 1 by first | omega | decide) (show 2 * (n641052 - n641029) + 0 ≤ (4 * n641029 + 4 + 2 * n641031) by first | omega | decide) (Nat.le_of_ble_eq_true rfl) (fun r641080 w641081 dc641077 ds641078 hp641079 => ?_) (fun _ _ _ _ _ z => z.elim)
  obtain ⟨F641085, f641082, rfl, rfl, hfr641087, he641088, he641089, he641090, he641091, hdc, hds, bf641082, x641083, x641084⟩ := hp641079
  have hfr641092 : rFr [q641020, q641022] P641018 F641019 F641085 := rFr_call hsb641071 hfr641075 hfr641087 (fun b hb hn => ⟨(nm_c (fun e => hn (e ▸ List.mem_cons_self)) nm_n), (nm_c (fun e => hor641070.elim (fun e2 => hn ((e.trans e2) ▸ (List.mem_cons_of_mem _ List.mem_cons_self))) (fun n => n (e ▸ hb))) nm_n)⟩)
  change G _ _ _ _ _ _ _ _ _ _ _
  refine G_widen (cs' := 1) (sl' := 2 * (n641052 - n641029) + 0) (by omega) (by omega) ?_
  refine G_aload_n 1 dr_cJ5_append_cf1ce_33 rfl ?_
  refine G_dup dr_cJ5_append_cf1ce_34 rfl ?_
  refine Gp_get 3 hm641066 he641088 dr_cJ5_append_cf1ce_35 (gk_J4 D I) (Nat.le_of_ble_eq_true rfl) wr_7_64 rfl ?_
  refine G_iload_n 0 dr_cJ5_append_cf1ce_38 rfl ?_
  refine G_iadd dr_cJ5_append_cf1ce_39 (G_nam fun z641093 hz641093 => ?_)
  have ez641093 : z641093.toInt = p641025.toInt + o641043.toInt := by rw [gI_add hz641093 bp641025 bo641043 (by decide) (by decide)]
  have bz641093 : gB z641093 0 33554432 := gB_add (gI_add hz641093 bp641025 bo641043 (by decide) (by decide)) bp641025 bo641043 (by decide) (by decide)
  refine Gp_put 3 hm641066 he641088 dr_cJ5_append_cf1ce_40 (gk_J4 D I) (Nat.le_of_ble_eq_true rfl) wr_7_64 rfl rfl rfl (Nat.le_of_ble_eq_true rfl) (fun F641094 e641095 n641096 => ?_)
  have he641097 : F641094 q641021 = .inr (0, [.ref q641023, .int 0, .int p641026, .int p641027]) := (n641096 q641021 (rn_oo he641089 he641088 (by decide))).trans he641089
  have he641098 : F641094 q641051 = .inl (I .byte, n641052, .inl f641082) := (n641096 q641051 (rn_ao he641090 he641088)).trans he641090
  have he641099 : F641094 q641023 = .inl (I .byte, n641031, .inl f641030) := (n641096 q641023 (rn_ao he641091 he641088)).trans he641091
  have he641100 : F641094 q641020 = .inr (1, [.ref q641051, .int 0, .int p641024, .int z641093]) := e641095
  have hfr641101 : rFr [q641020, q641022] P641018 F641019 F641094 := rFr_put' List.mem_cons_self hfr641092 n641096
  refine G_aload_n 1 dr_cJ5_append_cf1ce_43 rfl ?_
  exact G_aretA (FieldType.object "java/lang/AbstractStringBuilder") dr_cJ5_append_cf1ce_44 rfl (by first | exact Or.inl ⟨_, rfl⟩ | exact Or.inr ⟨_, rfl⟩) (Or.inr ⟨_, rfl⟩) (Nat.le_of_ble_eq_true rfl) (show 2 * (n641052 - n641029) + 0 ≤ (4 * n641029 + 4 + 2 * n641031) by omega) ⟨P641058, F641094, z641093, q641051, n641052, f641082, rfl, rfl, hsb641071, hfr641101, he641100, he641097, he641098, he641099, hm641064, hor641070, (Nat.le_of_ble_eq_true rfl), (by omega), ⟨by omega, by omega⟩, bf641082, (by have qa0 : Int32.toInt 0 = 0 := (by decide); omega), (by have qa0 : Int32.toInt 0 = 0 := (by decide); omega), (by have qa0 : Int32.toInt 0 = 0 := (by decide); omega), (by have qa0 : Int32.toInt 0 = 0 := (by decide); omega), (by have qa0 : Int32.toInt 0 = 0 := (by decide); omega)⟩
abbrev ky_641017_StringBuilder_append : gKey := (cJ4_append_15ec4, 2, "java/lang/StringBuilder", (some (FieldType.object "java/lang/StringBuilder")), [], "append", fun _ _ => True)
def pp_641017_StringBuilder_append (D : va_G) (I : FieldType → ClassId) (P640998 : List Nat) (F640999 : Nat → va_E) (q641000 : Nat) (q641001 : Nat) (q641002 : Nat) (q641003 : Nat) (p641004 : Int32) (p641005 : Int32) (p641006 : Int32) (p641007 : Int32) (f641008 : Nat → Int32) (n641009 : Nat) (f641010 : Nat → Int32) (n641011 : Nat) : Option Value → va_W → Nat → Nat → Prop := fun r w dc ds => ∃ (P641144 : List Nat) (F641145 : Nat → va_E) (o641140 : Int32) (q641141 : Nat) (n641142 : Nat) (f641143 : Nat → Int32), r = some (.ref q641000) ∧ w = va_pl P641144 F641145 ∧ rSub P640998 P641144 ∧ rFr [q641000, q641002] P640998 F640999 F641145 ∧ F641145 q641000 = .inr (1, [.ref q641141, .int 0, .int p641004, .int o641140]) ∧ F641145 q641001 = .inr (0, [.ref q641003, .int 0, .int p641006, .int p641007]) ∧ F641145 q641141 = .inl (I .byte, n641142, .inl f641143) ∧ F641145 q641003 = .inl (I .byte, n641011, .inl f641010) ∧ q641141 ∈ P641144 ∧ (q641141 = q641002 ∨ q641141 ∉ P640998) ∧ dc ≤ 1 ∧ ds ≤ 2 * (n641142 - n641009) ∧ gB o641140 0 16777216 ∧ gF f641143 (-128) 127 ∧ o641140.toInt = p641005.toInt + (n641011 : Int) ∧ o641140.toInt ≤ (n641142 : Int) ∧ (n641009 : Int) ≤ (n641142 : Int) ∧ (n641142 : Int) ≤ 2 * (n641009 : Int) + 2 + p641005.toInt + (n641011 : Int) ∧ ((n641142 : Int) = (n641009 : Int) ∨ (n641009 : Int) < o641140.toInt)
set_option maxRecDepth 100000 in
set_option maxHeartbeats 4000000 in
theorem cp_641017_StringBuilder_append (l : Launch) (hl0 : l.stackTraces = false) (D : va_G) (I : FieldType → ClassId) (P640998 : List Nat) (F640999 : Nat → va_E) (q641000 : Nat) (q641001 : Nat) (q641002 : Nat) (q641003 : Nat) (p641004 : Int32) (p641005 : Int32) (p641006 : Int32) (p641007 : Int32) (f641008 : Nat → Int32) (n641009 : Nat) (f641010 : Nat → Int32) (n641011 : Nat) (hmq641000 : q641000 ∈ P640998) (hmq641001 : q641001 ∈ P640998) (hmq641002 : q641002 ∈ P640998) (hmq641003 : q641003 ∈ P640998) (heq641000 : F640999 q641000 = .inr (1, [.ref q641002, .int 0, .int p641004, .int p641005])) (heq641001 : F640999 q641001 = .inr (0, [.ref q641003, .int 0, .int p641006, .int p641007])) (heq641002 : F640999 q641002 = .inl (I .byte, n641009, .inl f641008)) (heq641003 : F640999 q641003 = .inl (I .byte, n641011, .inl f641010)) (hneq641002q641003 : q641002 ≠ q641003) (bp641004 : gB p641004 0 1) (bp641005 : gB p641005 0 16777216) (bp641007 : gB p641007 0 1) (bf641008 : gF f641008 (-128) 127) (bf641010 : gF f641010 (-128) 127) (x641012 : (n641011 : Int) ≤ 65535) (x641013 : (n641009 : Int) ≤ 8388608 - 100000) (x641014 : p641005.toInt ≤ (n641009 : Int)) (x641015 : ((n641009 : Int) ≤ 16777216)) (x641016 : ((n641011 : Int) ≤ 16777216)) : CtA (gV D I) l yJ4_append_15ec4 cJ4_append_15ec4 2 (some (FieldType.object "java/lang/StringBuilder")) 5 106 1 (4 * n641009 + 4 + 2 * n641011) [.ref q641000, .ref q641001] (va_pl P640998 F640999) (pp_641017_StringBuilder_append D I P640998 F640999 q641000 q641001 q641002 q641003 p641004 p641005 p641006 p641007 f641008 n641009 f641010 n641011) gNA := by
  refine CtA_ofF hl0 (by decide +kernel) (Nat.le_of_ble_eq_true rfl) ?_
  have bp641006 := gB_any p641006
  refine G_aload_n 0 dr_cJ4_append_15ec4_0 rfl ?_
  refine G_aload_n 1 dr_cJ4_append_15ec4_1 rfl ?_
  refine Gw_callSU (As := [.ref q641001]) (gV_ok D I) (cp_641037_AbstractStringBuilder_append l hl0 D I P640998 F640999 q641000 q641001 q641002 q641003 p641004 p641005 p641006 p641007 f641008 n641009 f641010 n641011 hmq641000 hmq641001 hmq641002 hmq641003 heq641000 heq641001 heq641002 heq641003 hneq641002q641003 bp641004 bp641005 bp641007 bf641008 bf641010 (by have qa0 : Int32.toInt 0 = 0 := (by decide); omega) (by have qa0 : Int32.toInt 0 = 0 := (by decide); omega) (by have qa0 : Int32.toInt 0 = 0 := (by decide); omega) (by have qa0 : Int32.toInt 0 = 0 := (by decide); omega) (by have qa0 : Int32.toInt 0 = 0 := (by decide); omega)) dr_cJ4_append_15ec4_2 ⟨wr_8_144, wr_1_19, wr_8_146, by decide, rfl, (Nat.le_of_ble_eq_true rfl), (Nat.le_of_ble_eq_true rfl)⟩ wr_8_145 wr_11_229 wr_7_73 wr_7_44 (by decide) hmq641000 heq641000 rfl (show 0 + 1 ≤ 1 by first | omega | decide) (show 0 + (4 * n641009 + 4 + 2 * n641011) ≤ (4 * n641009 + 4 + 2 * n641011) by first | omega | decide) (Nat.le_of_ble_eq_true rfl) (fun r641111 w641112 dc641108 ds641109 hp641110 => ?_)
  obtain ⟨P641122, F641123, o641113, q641114, n641115, f641116, rfl, rfl, hsb641124, hfr641125, he641126, he641127, he641128, he641129, hm641130, hq641131, hdc, hds, bo641113, bf641116, x641117, x641118, x641119, x641120, x641121⟩ := hp641110
  have hm641132 : q641000 ∈ P641122 := hsb641124 q641000 hmq641000
  have hm641133 : q641001 ∈ P641122 := hsb641124 q641001 hmq641001
  have hm641134 : q641002 ∈ P641122 := hsb641124 q641002 hmq641002
  have hm641135 : q641003 ∈ P641122 := hsb641124 q641003 hmq641003
  have hor641136 : q641114 = q641002 ∨ q641114 ∉ P640998 := hq641131.elim Or.inl (fun n => Or.inr (fun z => n ((rSub_rf (P := P640998)) _ z)))
  have hsb641137 : rSub P640998 P641122 := rSub_tr (rSub_rf (P := P640998)) hsb641124
  have hfr641138 : rFr [q641000, q641002] P640998 F640999 F641123 := rFr_call (rSub_rf (P := P640998)) (rFr_rf (W := []) (P := P640998) (F := F640999)) hfr641125 (fun b hb hn => ⟨nm_n, (nm_c (fun e => hn (e ▸ List.mem_cons_self)) (nm_c (fun e => hn (e ▸ (List.mem_cons_of_mem _ List.mem_cons_self))) nm_n))⟩)
  have hne641139 : q641003 ≠ q641114 := fun e => hq641131.elim (fun e2 => (Ne.symm hneq641002q641003) (e.trans e2)) (fun n => n (e ▸ hmq641003))
  change G _ _ _ _ _ _ _ (.ref q641000 :: _) _ _ _
  refine G_widen (cs' := 1) (sl' := 2 * (n641115 - n641009)) (by omega) (by omega) ?_
  refine G_pop dr_cJ4_append_15ec4_5 rfl ?_
  refine G_aload_n 0 dr_cJ4_append_15ec4_6 rfl ?_
  exact G_aretA (FieldType.object "java/lang/StringBuilder") dr_cJ4_append_15ec4_7 rfl (by first | exact Or.inl ⟨_, rfl⟩ | exact Or.inr ⟨_, rfl⟩) (Or.inr ⟨_, rfl⟩) (Nat.le_of_ble_eq_true rfl) (show 2 * (n641115 - n641009) ≤ (4 * n641009 + 4 + 2 * n641011) by omega) ⟨P641122, F641123, o641113, q641114, n641115, f641116, rfl, rfl, hsb641137, hfr641138, he641126, he641127, he641128, he641129, hm641130, hor641136, (Nat.le_of_ble_eq_true rfl), (by omega), bo641113, bf641116, (by have qa0 : Int32.toInt 0 = 0 := (by decide); omega), (by have qa0 : Int32.toInt 0 = 0 := (by decide); omega), (by have qa0 : Int32.toInt 0 = 0 := (by decide); omega), (by have qa0 : Int32.toInt 0 = 0 := (by decide); omega), (by have qa0 : Int32.toInt 0 = 0 := (by decide); omega)⟩
abbrev ky_641177_AbstractStringBuilder_append : gKey := (cJ5_append_cf1ce, 3, "java/lang/AbstractStringBuilder", (some (FieldType.object "java/lang/AbstractStringBuilder")), [], "append", fun _ _ => True)
def pp_641177_AbstractStringBuilder_append (D : va_G) (I : FieldType → ClassId) (P641162 : List Nat) (F641163 : Nat → va_E) (q641164 : Nat) (q641165 : Nat) (qs641166 : Nat) (qb641167 : Nat) (bs641168 : List Int32) (p641169 : Int32) (p641170 : Int32) (f641171 : Nat → Int32) (n641172 : Nat) : Option Value → va_W → Nat → Nat → Prop := fun r w dc ds => ∃ (P641237 : List Nat) (F641238 : Nat → va_E) (o641233 : Int32) (q641234 : Nat) (n641235 : Nat) (f641236 : Nat → Int32), r = some (.ref q641164) ∧ w = va_pl P641237 F641238 ∧ rSub P641162 P641237 ∧ rFr [q641164, q641165] P641162 F641163 F641238 ∧ F641238 q641164 = .inr (1, [.ref q641234, .int 0, .int p641169, .int o641233]) ∧ F641238 q641234 = .inl (I .byte, n641235, .inl f641236) ∧ q641234 ∈ P641237 ∧ (q641234 = q641165 ∨ q641234 ∉ P641162) ∧ dc ≤ 1 ∧ ds ≤ 2 * (n641235 - n641172) ∧ gB o641233 0 16777216 ∧ gF f641236 (-128) 127 ∧ o641233.toInt = p641170.toInt + (bs641168.length : Int) ∧ o641233.toInt ≤ (n641235 : Int) ∧ (n641172 : Int) ≤ (n641235 : Int) ∧ (n641235 : Int) ≤ 2 * (n641172 : Int) + 2 + p641170.toInt + (bs641168.length : Int) ∧ ((n641235 : Int) = (n641172 : Int) ∨ (n641172 : Int) < o641233.toInt)
set_option maxRecDepth 100000 in
set_option maxHeartbeats 4000000 in
theorem cp_641177_AbstractStringBuilder_append (l : Launch) (hl0 : l.stackTraces = false) (D : va_G) (I : FieldType → ClassId) (P641162 : List Nat) (F641163 : Nat → va_E) (q641164 : Nat) (q641165 : Nat) (qs641166 : Nat) (qb641167 : Nat) (bs641168 : List Int32) (p641169 : Int32) (p641170 : Int32) (f641171 : Nat → Int32) (n641172 : Nat) (hmq641164 : q641164 ∈ P641162) (hmq641165 : q641165 ∈ P641162) (heq641164 : F641163 q641164 = .inr (1, [.ref q641165, .int 0, .int p641169, .int p641170])) (heq641165 : F641163 q641165 = .inl (I .byte, n641172, .inl f641171)) (hbs641168 : ∀ A s H, (gV D I).2.2.2.1 A s H → gSC qs641166 qb641167 bs641168 A s H) (nbs641168 : (bs641168.length : Int) ≤ 65535) (lbs641168 : gLB bs641168) (bp641169 : gB p641169 0 1) (bp641170 : gB p641170 0 16777216) (bf641171 : gF f641171 (-128) 127) (x641173 : (bs641168.length : Int) ≤ 65535) (x641174 : (n641172 : Int) ≤ 8388608 - 100000) (x641175 : p641170.toInt ≤ (n641172 : Int)) (x641176 : ((n641172 : Int) ≤ 16777216)) : CtA (gV D I) l yJ5_append_cf1ce cJ5_append_cf1ce 3 (some (FieldType.object "java/lang/AbstractStringBuilder")) 4 84 1 (4 * n641172 + 4 + 2 * bs641168.length) [.ref q641164, .ref qs641166] (va_pl P641162 F641163) (pp_641177_AbstractStringBuilder_append D I P641162 F641163 q641164 q641165 qs641166 qb641167 bs641168 p641169 p641170 f641171 n641172) gNA := by
  refine CtA_ofF hl0 (by decide +kernel) (Nat.le_of_ble_eq_true rfl) ?_
  refine G_aload_n 1 dr_cJ5_append_cf1ce_0 rfl ?_
  refine G_ifnonnull 9 dr_cJ5_append_cf1ce_1 (by decide +kernel) ?_
  refine G_aload_n 1 dr_cJ5_append_cf1ce_9 rfl ?_
  refine Gw_callVk (As := []) (gV_ok D I) (cp_640842_String_length l hl0 D I P641162 F641163 qs641166 qb641167 bs641168 hbs641168 nbs641168 lbs641168) dr_cJ5_append_cf1ce_10 ⟨wr_8_154, wr_1_21, wr_3_60, by decide, rfl, (Nat.le_of_ble_eq_true rfl), (Nat.le_of_ble_eq_true rfl)⟩ wr_3_58 wr_3_59 (fun _ _ _ h => (hbs641168 _ _ _ h).1) (show 0 + 0 ≤ 1 by first | omega | decide) (show 0 + 0 ≤ (4 * n641172 + 4 + 2 * bs641168.length) by first | omega | decide) (Nat.le_of_ble_eq_true rfl) (fun r641181 w641182 dc641178 ds641179 hp641180 => ?_) (fun _ _ _ _ _ z => z.elim)
  obtain ⟨o641183, rfl, rfl, hdc, hds, bo641183, x641184⟩ := hp641180
  change G _ _ _ _ _ _ _ (.int o641183 :: _) _ _ _
  refine G_widen (cs' := 0) (sl' := 0) (by omega) (by omega) ?_
  refine G_istore_n (L' := [(2, .int o641183), (0, .ref q641164), (1, .ref qs641166)]) dr_cJ5_append_cf1ce_13 (Nat.le_of_ble_eq_true rfl) rfl ?_
  refine G_aload_n 1 dr_cJ5_append_cf1ce_14 rfl ?_
  refine G_aload_n 1 dr_cJ5_append_cf1ce_15 rfl ?_
  refine Gp_get 3 hmq641164 heq641164 dr_cJ5_append_cf1ce_16 (gk_J4 D I) (Nat.le_of_ble_eq_true rfl) wr_7_64 rfl ?_
  refine G_iload_n 0 dr_cJ5_append_cf1ce_19 rfl ?_
  refine G_iadd dr_cJ5_append_cf1ce_20 (G_nam fun z641185 hz641185 => ?_)
  have ez641185 : z641185.toInt = p641170.toInt + o641183.toInt := by rw [gI_add hz641185 bp641170 bo641183 (by decide) (by decide)]
  have bz641185 : gB z641185 0 16842751 := gB_add (gI_add hz641185 bp641170 bo641183 (by decide) (by decide)) bp641170 bo641183 (by decide) (by decide)
  refine Gw_callVB (As := [.int z641185]) (gV_ok D I) (cp_640241_AbstractStringBuilder_ensureCapacityInternal l hl0 D I P641162 F641163 q641164 q641165 z641185 p641169 p641170 f641171 n641172 hmq641164 hmq641165 heq641164 heq641165 ⟨by omega, by omega⟩ bp641169 bp641170 bf641171 (by have qa0 : Int32.toInt 0 = 0 := (by decide); omega) (by have qa0 : Int32.toInt 0 = 0 := (by decide); omega)) dr_cJ5_append_cf1ce_21 ⟨wr_8_4, wr_1_19, wr_8_7, by decide, rfl, (Nat.le_of_ble_eq_true rfl), (Nat.le_of_ble_eq_true rfl)⟩ wr_8_6 wr_s_0 hmq641164 heq641164 rfl (show 0 + 1 ≤ 1 by first | omega | decide) (show 0 + (2 * n641172 + 2 + z641185.toInt.toNat) ≤ (4 * n641172 + 4 + 2 * bs641168.length) by first | omega | decide) (Nat.le_of_ble_eq_true rfl) (fun r641189 w641190 dc641186 ds641187 hp641188 => ?_) (fun _ _ _ _ _ z => z.elim)
  obtain ⟨P641198, F641199, q641191, n641192, f641193, rfl, rfl, hsb641200, hfr641201, he641202, he641203, hm641204, hq641205, hdc, hds, bf641193, x641194, x641195, x641196, x641197⟩ := hp641188
  have hm641206 : q641164 ∈ P641198 := hsb641200 q641164 hmq641164
  have hm641207 : q641165 ∈ P641198 := hsb641200 q641165 hmq641165
  have hor641208 : q641191 = q641165 ∨ q641191 ∉ P641162 := hq641205.elim Or.inl (fun n => Or.inr (fun z => n ((rSub_rf (P := P641162)) _ z)))
  have hsb641209 : rSub P641162 P641198 := rSub_tr (rSub_rf (P := P641162)) hsb641200
  have he641210 : F641199 q641165 = .inl (I .byte, n641172, .inl f641171) := (hfr641201 q641165 hmq641165 (nm_c (rn_ao heq641165 heq641164) nm_n)).trans heq641165
  have hfr641211 : rFr [q641164] P641162 F641163 F641199 := rFr_call (rSub_rf (P := P641162)) (rFr_rf (W := []) (P := P641162) (F := F641163)) hfr641201 (fun b hb hn => ⟨nm_n, (nm_c (fun e => hn (e ▸ List.mem_cons_self)) nm_n)⟩)
  change G _ _ _ _ _ _ _ _ _ _ _
  refine G_widen (cs' := 1) (sl' := 2 * (n641192 - n641172)) (by omega) (by omega) ?_
  refine G_aload_n 1 dr_cJ5_append_cf1ce_24 rfl ?_
  refine G_aload_n 1 dr_cJ5_append_cf1ce_25 rfl ?_
  refine Gp_get 3 hm641206 he641202 dr_cJ5_append_cf1ce_26 (gk_J4 D I) (Nat.le_of_ble_eq_true rfl) wr_7_64 rfl ?_
  refine G_aload_n 2 dr_cJ5_append_cf1ce_29 rfl ?_
  refine Gw_callVB (As := [.int p641170, .ref qs641166]) (gV_ok D I) (cp_640884_AbstractStringBuilder_putStringAt l hl0 D I P641198 F641199 q641164 q641191 p641170 qs641166 qb641167 bs641168 p641169 p641170 f641193 n641192 hm641206 hm641204 he641202 he641203 hbs641168 nbs641168 lbs641168 bp641170 bp641169 bp641170 bf641193 (by have qa0 : Int32.toInt 0 = 0 := (by decide); omega) (by have qa0 : Int32.toInt 0 = 0 := (by decide); omega)) dr_cJ5_append_cf1ce_30 ⟨wr_8_155, wr_1_19, wr_8_158, by decide, rfl, (Nat.le_of_ble_eq_true rfl), (Nat.le_of_ble_eq_true rfl)⟩ wr_8_157 wr_s_4 hm641206 he641202 rfl (show 1 + 0 ≤ 1 by first | omega | decide) (show 2 * (n641192 - n641172) + 0 ≤ (4 * n641172 + 4 + 2 * bs641168.length) by first | omega | decide) (Nat.le_of_ble_eq_true rfl) (fun r641215 w641216 dc641212 ds641213 hp641214 => ?_) (fun _ _ _ _ _ z => z.elim)
  obtain ⟨F641220, f641217, rfl, rfl, hfr641222, he641223, he641224, hdc, hds, bf641217, x641218, x641219⟩ := hp641214
  have hfr641225 : rFr [q641164, q641165] P641162 F641163 F641220 := rFr_call hsb641209 hfr641211 hfr641222 (fun b hb hn => ⟨(nm_c (fun e => hn (e ▸ List.mem_cons_self)) nm_n), (nm_c (fun e => hor641208.elim (fun e2 => hn ((e.trans e2) ▸ (List.mem_cons_of_mem _ List.mem_cons_self))) (fun n => n (e ▸ hb))) nm_n)⟩)
  change G _ _ _ _ _ _ _ _ _ _ _
  refine G_widen (cs' := 1) (sl' := 2 * (n641192 - n641172) + 0) (by omega) (by omega) ?_
  refine G_aload_n 1 dr_cJ5_append_cf1ce_33 rfl ?_
  refine G_dup dr_cJ5_append_cf1ce_34 rfl ?_
  refine Gp_get 3 hm641206 he641223 dr_cJ5_append_cf1ce_35 (gk_J4 D I) (Nat.le_of_ble_eq_true rfl) wr_7_64 rfl ?_
  refine G_iload_n 0 dr_cJ5_append_cf1ce_38 rfl ?_
  refine G_iadd dr_cJ5_append_cf1ce_39 (G_nam fun z641226 hz641226 => ?_)
  have ez641226 : z641226.toInt = p641170.toInt + o641183.toInt := by rw [gI_add hz641226 bp641170 bo641183 (by decide) (by decide)]
  have bz641226 : gB z641226 0 16842751 := gB_add (gI_add hz641226 bp641170 bo641183 (by decide) (by decide)) bp641170 bo641183 (by decide) (by decide)
  refine Gp_put 3 hm641206 he641223 dr_cJ5_append_cf1ce_40 (gk_J4 D I) (Nat.le_of_ble_eq_true rfl) wr_7_64 rfl rfl rfl (Nat.le_of_ble_eq_true rfl) (fun F641227 e641228 n641229 => ?_)
  have he641230 : F641227 q641191 = .inl (I .byte, n641192, .inl f641217) := (n641229 q641191 (rn_ao he641224 he641223)).trans he641224
  have he641231 : F641227 q641164 = .inr (1, [.ref q641191, .int 0, .int p641169, .int z641226]) := e641228
  have hfr641232 : rFr [q641164, q641165] P641162 F641163 F641227 := rFr_put' List.mem_cons_self hfr641225 n641229
  refine G_aload_n 1 dr_cJ5_append_cf1ce_43 rfl ?_
  exact G_aretA (FieldType.object "java/lang/AbstractStringBuilder") dr_cJ5_append_cf1ce_44 rfl (by first | exact Or.inl ⟨_, rfl⟩ | exact Or.inr ⟨_, rfl⟩) (Or.inr ⟨_, rfl⟩) (Nat.le_of_ble_eq_true rfl) (show 2 * (n641192 - n641172) + 0 ≤ (4 * n641172 + 4 + 2 * bs641168.length) by omega) ⟨P641198, F641227, z641226, q641191, n641192, f641217, rfl, rfl, hsb641209, hfr641232, he641231, he641230, hm641204, hor641208, (Nat.le_of_ble_eq_true rfl), (by omega), ⟨by omega, by omega⟩, bf641217, (by have qa0 : Int32.toInt 0 = 0 := (by decide); omega), (by have qa0 : Int32.toInt 0 = 0 := (by decide); omega), (by have qa0 : Int32.toInt 0 = 0 := (by decide); omega), (by have qa0 : Int32.toInt 0 = 0 := (by decide); omega), (by have qa0 : Int32.toInt 0 = 0 := (by decide); omega)⟩
