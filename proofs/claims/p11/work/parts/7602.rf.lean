theorem dr_cJx4a65c_grow_92f84_10 : decode cJx4a65c_grow_92f84 10 = .ok (.aload_n 0, 1) := by decide +kernel
theorem dr_cJx4a65c_grow_92f84_11 : decode cJx4a65c_grow_92f84 11 = .ok (.getfield 9, 3) := by decide +kernel
theorem dr_cJx4a65c_grow_92f84_14 : decode cJx4a65c_grow_92f84 14 = .ok (.getstatic 39, 3) := by decide +kernel
theorem wr_7_15 : (Jvm.Cond.fieldLink "java/util/ArrayList" (39 : Nat) "java/util/ArrayList" "DEFAULTCAPACITY_EMPTY_ELEMENTDATA" "[Ljava/lang/Object;") ∈ gw := gw_7 15 rfl rfl
theorem dr_cJx4a65c_grow_92f84_17 : decode cJx4a65c_grow_92f84 17 = .ok (.if_acmp .eq 28, 3) := by decide +kernel
theorem dr_cJx4a65c_grow_92f84_45 : decode cJx4a65c_grow_92f84 45 = .ok (.aload_n 0, 1) := by decide +kernel
theorem dr_cJx4a65c_grow_92f84_46 : decode cJx4a65c_grow_92f84 46 = .ok (.bipush 10, 2) := by decide +kernel
theorem dr_cJx4a65c_grow_92f84_48 : decode cJx4a65c_grow_92f84 48 = .ok (.iload_n 1, 1) := by decide +kernel
theorem dr_cJx4a65c_grow_92f84_49 : decode cJx4a65c_grow_92f84 49 = .ok (.invokestatic 79, 3) := by decide +kernel
theorem wr_10_60 : (Jvm.Cond.methodLink "java/util/ArrayList" (79 : Nat) ({ cls := "java/lang/Math", name := "max", desc := "(II)I" } : Jvm.MethodName)) ∈ gw := gw_10 60 rfl rfl
theorem dr_cJx4a65c_grow_92f84_52 : decode cJx4a65c_grow_92f84 52 = .ok (.anewarray 7, 3) := by decide +kernel
theorem wr_10_61 : (Jvm.Cond.classLink "java/util/ArrayList" (7 : Nat) "java/lang/Object") ∈ gw := gw_10 61 rfl rfl
theorem dr_cJx4a65c_grow_92f84_55 : decode cJx4a65c_grow_92f84 55 = .ok (.dup_x1, 1) := by decide +kernel
theorem dr_cJx4a65c_grow_92f84_56 : decode cJx4a65c_grow_92f84 56 = .ok (.putfield 9, 3) := by decide +kernel
theorem dr_cJx4a65c_grow_92f84_59 : decode cJx4a65c_grow_92f84 59 = .ok (.areturn, 1) := by decide +kernel
theorem dr_cJx4a65c_rangeCheckForAdd_d00df_0 : decode cJx4a65c_rangeCheckForAdd_d00df 0 = .ok (.iload_n 1, 1) := by decide +kernel
theorem dr_cJx4a65c_rangeCheckForAdd_d00df_1 : decode cJx4a65c_rangeCheckForAdd_d00df 1 = .ok (.aload_n 0, 1) := by decide +kernel
theorem dr_cJx4a65c_rangeCheckForAdd_d00df_2 : decode cJx4a65c_rangeCheckForAdd_d00df 2 = .ok (.getfield 48, 3) := by decide +kernel
theorem dr_cJx4a65c_rangeCheckForAdd_d00df_5 : decode cJx4a65c_rangeCheckForAdd_d00df 5 = .ok (.if_icmp .gt 7, 3) := by decide +kernel
theorem dr_cJx4a65c_rangeCheckForAdd_d00df_8 : decode cJx4a65c_rangeCheckForAdd_d00df 8 = .ok (.iload_n 1, 1) := by decide +kernel
theorem dr_cJx4a65c_rangeCheckForAdd_d00df_9 : decode cJx4a65c_rangeCheckForAdd_d00df 9 = .ok (.ifCond .ge 16, 3) := by decide +kernel
theorem dr_cJx4a65c_rangeCheckForAdd_d00df_25 : decode cJx4a65c_rangeCheckForAdd_d00df 25 = .ok (.return_, 1) := by decide +kernel
theorem dr_cJx4a65c_add_7a177_0 : decode cJx4a65c_add_7a177 0 = .ok (.aload_n 0, 1) := by decide +kernel
theorem dr_cJx4a65c_add_7a177_1 : decode cJx4a65c_add_7a177 1 = .ok (.iload_n 1, 1) := by decide +kernel
theorem dr_cJx4a65c_add_7a177_2 : decode cJx4a65c_add_7a177 2 = .ok (.invokevirtual 135, 3) := by decide +kernel
theorem wr_10_211 : (Jvm.Cond.methodLink "java/util/ArrayList" (135 : Nat) ({ cls := "java/util/ArrayList", name := "rangeCheckForAdd", desc := "(I)V" } : Jvm.MethodName)) ∈ gw := gw_10 211 rfl rfl
theorem wr_10_214 : (Jvm.Cond.code ({ cls := "java/util/ArrayList", name := "rangeCheckForAdd", desc := "(I)V" } : Jvm.MethodName) prog_43_method_45_code (2 : Nat) (Option.none : Option Jvm.ClassFile.FieldType)) ∈ gw := gw_10 214 rfl rfl
theorem wr_10_213 : (Jvm.Cond.instanceMethod ({ cls := "java/util/ArrayList", name := "rangeCheckForAdd", desc := "(I)V" } : Jvm.MethodName)) ∈ gw := gw_10 213 rfl rfl
theorem wr_p_97 : Cond.selects "java/util/ArrayList" ⟨"java/util/ArrayList", "rangeCheckForAdd", "(I)V"⟩ ⟨"java/util/ArrayList", "rangeCheckForAdd", "(I)V"⟩ ∈ gw := gw_p _ 97 rfl rfl rfl
theorem dr_cJx4a65c_add_7a177_5 : decode cJx4a65c_add_7a177 5 = .ok (.aload_n 0, 1) := by decide +kernel
theorem dr_cJx4a65c_add_7a177_6 : decode cJx4a65c_add_7a177 6 = .ok (.dup, 1) := by decide +kernel
theorem dr_cJx4a65c_add_7a177_7 : decode cJx4a65c_add_7a177 7 = .ok (.getfield 63, 3) := by decide +kernel
theorem dr_cJx4a65c_add_7a177_10 : decode cJx4a65c_add_7a177 10 = .ok (.iconst 1, 1) := by decide +kernel
theorem dr_cJx4a65c_add_7a177_11 : decode cJx4a65c_add_7a177 11 = .ok (.iadd, 1) := by decide +kernel
theorem dr_cJx4a65c_add_7a177_12 : decode cJx4a65c_add_7a177 12 = .ok (.putfield 63, 3) := by decide +kernel
theorem dr_cJx4a65c_add_7a177_15 : decode cJx4a65c_add_7a177 15 = .ok (.aload_n 0, 1) := by decide +kernel
theorem dr_cJx4a65c_add_7a177_16 : decode cJx4a65c_add_7a177 16 = .ok (.getfield 48, 3) := by decide +kernel
theorem dr_cJx4a65c_add_7a177_19 : decode cJx4a65c_add_7a177 19 = .ok (.dup, 1) := by decide +kernel
theorem dr_cJx4a65c_add_7a177_20 : decode cJx4a65c_add_7a177 20 = .ok (.istore_n 3, 1) := by decide +kernel
theorem dr_cJx4a65c_add_7a177_21 : decode cJx4a65c_add_7a177 21 = .ok (.aload_n 0, 1) := by decide +kernel
theorem dr_cJx4a65c_add_7a177_22 : decode cJx4a65c_add_7a177 22 = .ok (.getfield 9, 3) := by decide +kernel
theorem dr_cJx4a65c_add_7a177_25 : decode cJx4a65c_add_7a177 25 = .ok (.dup, 1) := by decide +kernel
theorem dr_cJx4a65c_add_7a177_26 : decode cJx4a65c_add_7a177 26 = .ok (.astore 4, 2) := by decide +kernel
theorem dr_cJx4a65c_add_7a177_28 : decode cJx4a65c_add_7a177 28 = .ok (.arraylength, 1) := by decide +kernel
theorem dr_cJx4a65c_add_7a177_29 : decode cJx4a65c_add_7a177 29 = .ok (.if_icmp .ne 9, 3) := by decide +kernel
theorem dr_cJx4a65c_add_7a177_38 : decode cJx4a65c_add_7a177 38 = .ok (.aload 4, 2) := by decide +kernel
theorem dr_cJx4a65c_add_7a177_40 : decode cJx4a65c_add_7a177 40 = .ok (.iload_n 1, 1) := by decide +kernel
theorem dr_cJx4a65c_add_7a177_41 : decode cJx4a65c_add_7a177 41 = .ok (.aload 4, 2) := by decide +kernel
theorem dr_cJx4a65c_add_7a177_43 : decode cJx4a65c_add_7a177 43 = .ok (.iload_n 1, 1) := by decide +kernel
theorem dr_cJx4a65c_add_7a177_44 : decode cJx4a65c_add_7a177 44 = .ok (.iconst 1, 1) := by decide +kernel
theorem dr_cJx4a65c_add_7a177_45 : decode cJx4a65c_add_7a177 45 = .ok (.iadd, 1) := by decide +kernel
theorem dr_cJx4a65c_add_7a177_46 : decode cJx4a65c_add_7a177 46 = .ok (.iload_n 3, 1) := by decide +kernel
theorem dr_cJx4a65c_add_7a177_47 : decode cJx4a65c_add_7a177 47 = .ok (.iload_n 1, 1) := by decide +kernel
theorem dr_cJx4a65c_add_7a177_48 : decode cJx4a65c_add_7a177 48 = .ok (.isub, 1) := by decide +kernel
theorem dr_cJx4a65c_add_7a177_49 : decode cJx4a65c_add_7a177 49 = .ok (.invokestatic 112, 3) := by decide +kernel
theorem wr_10_228 : (Jvm.Cond.methodLink "java/util/ArrayList" (112 : Nat) ({ cls := "java/lang/System", name := "arraycopy", desc := "(Ljava/lang/Object;ILjava/lang/Object;II)V" } : Jvm.MethodName)) ∈ gw := gw_10 228 rfl rfl
theorem dr_cJx4a65c_add_7a177_52 : decode cJx4a65c_add_7a177 52 = .ok (.aload 4, 2) := by decide +kernel
theorem dr_cJx4a65c_add_7a177_54 : decode cJx4a65c_add_7a177 54 = .ok (.iload_n 1, 1) := by decide +kernel
theorem dr_cJx4a65c_add_7a177_55 : decode cJx4a65c_add_7a177 55 = .ok (.aload_n 2, 1) := by decide +kernel
theorem dr_cJx4a65c_add_7a177_56 : decode cJx4a65c_add_7a177 56 = .ok (.aastore, 1) := by decide +kernel
theorem dr_cJx4a65c_add_7a177_57 : decode cJx4a65c_add_7a177 57 = .ok (.aload_n 0, 1) := by decide +kernel
theorem dr_cJx4a65c_add_7a177_58 : decode cJx4a65c_add_7a177 58 = .ok (.iload_n 3, 1) := by decide +kernel
theorem dr_cJx4a65c_add_7a177_59 : decode cJx4a65c_add_7a177 59 = .ok (.iconst 1, 1) := by decide +kernel
theorem dr_cJx4a65c_add_7a177_60 : decode cJx4a65c_add_7a177 60 = .ok (.iadd, 1) := by decide +kernel
theorem dr_cJx4a65c_add_7a177_61 : decode cJx4a65c_add_7a177 61 = .ok (.putfield 48, 3) := by decide +kernel
theorem dr_cJx4a65c_add_7a177_64 : decode cJx4a65c_add_7a177 64 = .ok (.return_, 1) := by decide +kernel
abbrev ky_276_ArrayList_add : gKey := (cJx4a65c_add_9ea2d, 2, "java/util/ArrayList", (some FieldType.boolean), [], "add", fun _ _ => True)
def pp_276_ArrayList_add (D : va_G) (I : FieldType → ClassId) (P255 : List Nat) (F256 : Nat → va_E) (q257 : Nat) (q258 : Nat) (q259 : Nat) (p260 : Int32) (p261 : Int32) (p262 : Int32) (p263 : Int32) (p264 : Int32) (p265 : Int32) (p266 : Int32) (p267 : Int32) (p268 : Int32) (f269 : Nat → Option Nat) (n270 : Nat) : Option Value → va_W → Nat → Nat → Prop := fun r w dc ds => ∃ (P591 : List Nat) (F592 : Nat → va_E) (o586 : Int32) (o587 : Int32) (q588 : Nat) (n589 : Nat) (f590 : Nat → Option Nat), r = some (.int 1) ∧ w = va_pl P591 F592 ∧ rSub P255 P591 ∧ rFr [q257] P255 F256 F592 ∧ F592 q258 = .inr (20, [.int p262, .int p263, .int p264, .int p265, .int p266, .int p267, .int p268]) ∧ F592 q257 = .inr (4, [.int o586, .ref q588, .int o587]) ∧ F592 q588 = .inl (I (.object "java/lang/Object"), n589, .inr (.inr (.inr (.inr f590)))) ∧ q588 ∈ P591 ∧ q588 ∉ P255 ∧ dc ≤ 1 ∧ ds ≤ n270 + n270 / 2 + 1 ∧ gB o587 1 16777217 ∧ o587.toInt = p261.toInt + 1 ∧ ((∀ j : Nat, (j : Int) < p261.toInt → f590 j = f269 j) ∧ f590 p261.toInt.toNat = some q258) ∧ rSrcX f590 f269 q258 ∧ ((n589 : Int) ≤ (n270 : Int) + (n270 : Int) / 2 + 1 ∧ (n270 : Int) + 1 ≤ (n589 : Int) ∧ (n270 : Int) + (n270 : Int) / 2 ≤ (n589 : Int))
set_option maxRecDepth 100000 in
set_option maxHeartbeats 4000000 in
theorem cp_276_ArrayList_add (l : Launch) (hl0 : l.stackTraces = false) (D : va_G) (I : FieldType → ClassId) (P255 : List Nat) (F256 : Nat → va_E) (q257 : Nat) (q258 : Nat) (q259 : Nat) (p260 : Int32) (p261 : Int32) (p262 : Int32) (p263 : Int32) (p264 : Int32) (p265 : Int32) (p266 : Int32) (p267 : Int32) (p268 : Int32) (f269 : Nat → Option Nat) (n270 : Nat) (hmq257 : q257 ∈ P255) (hmq258 : q258 ∈ P255) (hmq259 : q259 ∈ P255) (heq257 : F256 q257 = .inr (4, [.int p260, .ref q259, .int p261])) (heq258 : F256 q258 = .inr (20, [.int p262, .int p263, .int p264, .int p265, .int p266, .int p267, .int p268])) (heq259 : F256 q259 = .inl (I (.object "java/lang/Object"), n270, .inr (.inr (.inr (.inr f269))))) (bp261 : gB p261 0 16777216) (bp262 : gB p262 0 32) (bp263 : gB p263 0 1999) (bp266 : gB p266 0 1999) (bp267 : gB p267 0 1) (bp268 : gB p268 0 1) (x271 : 0 < (n270 : Int)) (x272 : (n270 : Int) ≤ 1000000) (x273 : p261.toInt = (n270 : Int)) (x274 : rEl P255 F256 f269) (x275 : ((n270 : Int) ≤ 16777216)) : CtA (gV D I) l yJx4a65c_add_9ea2d cJx4a65c_add_9ea2d 2 (some FieldType.boolean) 6 128 1 (n270 + n270 / 2 + 1) [.ref q257, .ref q258] (va_pl P255 F256) (pp_276_ArrayList_add D I P255 F256 q257 q258 q259 p260 p261 p262 p263 p264 p265 p266 p267 p268 f269 n270) gNA := by
  refine CtA_ofF hl0 (by decide +kernel) (Nat.le_of_ble_eq_true rfl) ?_
  have bp260 := gB_any p260
  have bp264 := gB_any p264
  have bp265 := gB_any p265
  refine G_aload_n 0 dr_cJx4a65c_add_9ea2d_0 rfl ?_
  refine G_dup dr_cJx4a65c_add_9ea2d_1 rfl ?_
  refine Gp_getS 0 hmq257 heq257 dr_cJx4a65c_add_9ea2d_2 (gk_Jx4a65c D I) (Nat.le_of_ble_eq_true rfl) wr_7_20 wr_7_21 rfl ?_
  refine G_iconst 1 dr_cJx4a65c_add_9ea2d_5 (by decide +kernel) ?_
  refine G_iadd dr_cJx4a65c_add_9ea2d_6 (G_nam fun z277 hz277 => ?_)
  have bz277 : gB z277 (-2147483648) 2147483647 := gB_any z277
  refine Gp_putS 0 hmq257 heq257 dr_cJx4a65c_add_9ea2d_7 (gk_Jx4a65c D I) (Nat.le_of_ble_eq_true rfl) wr_7_20 wr_7_21 rfl rfl rfl (Nat.le_of_ble_eq_true rfl) (fun F278 e279 n280 => ?_)
  have he281 : F278 q258 = .inr (20, [.int p262, .int p263, .int p264, .int p265, .int p266, .int p267, .int p268]) := (n280 q258 (rn_oo heq258 heq257 (by decide))).trans heq258
  have he282 : F278 q259 = .inl (I (.object "java/lang/Object"), n270, .inr (.inr (.inr (.inr f269)))) := (n280 q259 (rn_ao heq259 heq257)).trans heq259
  have he283 : F278 q257 = .inr (4, [.int z277, .ref q259, .int p261]) := e279
  have hfr284 : rFr [q257] P255 F256 F278 := rFr_put (rFr_rf (W := []) (P := P255) (F := F256)) n280
  refine G_aload_n 0 dr_cJx4a65c_add_9ea2d_10 rfl ?_
  refine G_aload_n 1 dr_cJx4a65c_add_9ea2d_11 rfl ?_
  refine G_aload_n 0 dr_cJx4a65c_add_9ea2d_12 rfl ?_
  refine Gp_get 1 hmq257 he283 dr_cJx4a65c_add_9ea2d_13 (gk_Jx4a65c D I) (Nat.le_of_ble_eq_true rfl) wr_7_17 rfl ?_
  refine G_aload_n 0 dr_cJx4a65c_add_9ea2d_16 rfl ?_
  refine Gp_get 2 hmq257 he283 dr_cJx4a65c_add_9ea2d_17 (gk_Jx4a65c D I) (Nat.le_of_ble_eq_true rfl) wr_7_18 rfl ?_
  refine Gw_callV (As := [.ref q258, .ref q259, .int p261]) (gV_ok D I) (cp_308_ArrayList_add l hl0 D I P255 F278 q257 q258 q259 p261 z277 p261 p262 p263 p264 p265 p266 p267 p268 f269 n270 hmq257 hmq258 hmq259 he283 he281 he282 bp261 bp261 bp262 bp263 bp266 bp267 bp268 (by omega) (by omega) (by omega) (by omega) (rEl_frG (rEl_src x274 rSrc_rf) (rSub_rf (P := P255)) hfr284 (rNg_c (rNg_o heq257 (by decide) (by decide)) rNg_n)) (by omega)) dr_cJx4a65c_add_9ea2d_20 ⟨wr_10_7, wr_1_18, wr_10_10, by decide, rfl, (Nat.le_of_ble_eq_true rfl), (Nat.le_of_ble_eq_true rfl)⟩ wr_10_9 wr_p_85 hmq257 he283 rfl (show 0 + 1 ≤ 1 by first | omega | decide) (show 0 + (n270 + n270 / 2 + 1) ≤ (n270 + n270 / 2 + 1) by first | omega | decide) (Nat.le_of_ble_eq_true rfl) (fun r560 w561 dc557 ds558 hp559 => ?_) (fun _ _ _ _ _ z => z.elim)
  obtain ⟨P570, F571, o562, q563, n564, f565, rfl, rfl, hsb572, hfr573, he574, he575, he576, he577, hm578, hq579, hdc, hds, bo562, x566, x567, x568, x569⟩ := hp559
  have hm580 : q257 ∈ P570 := hsb572 q257 hmq257
  have hm581 : q258 ∈ P570 := hsb572 q258 hmq258
  have hm582 : q259 ∈ P570 := hsb572 q259 hmq259
  have hq583 : q563 ∉ P255 := fun z => hq579 ((rSub_rf (P := P255)) q563 z)
  have hsb584 : rSub P255 P570 := rSub_tr (rSub_rf (P := P255)) hsb572
  have hfr585 : rFr [q257] P255 F256 F571 := rFr_call (rSub_rf (P := P255)) hfr284 hfr573 (fun b hb hn => ⟨(nm_c (fun e => hn (e ▸ List.mem_cons_self)) nm_n), (nm_c (fun e => hn (e ▸ List.mem_cons_self)) nm_n)⟩)
  change G _ _ _ _ _ _ _ _ _ _ _
  refine G_widen (cs' := 1) (sl' := n270 + n270 / 2 + 1) (by omega) (by omega) ?_
  refine G_iconst 1 dr_cJx4a65c_add_9ea2d_23 (by decide +kernel) ?_
  exact G_zretA FieldType.boolean dr_cJx4a65c_add_9ea2d_24 rfl rfl (Nat.le_of_ble_eq_true rfl) (show n270 + n270 / 2 + 1 ≤ (n270 + n270 / 2 + 1) by omega) ⟨P570, F571, z277, o562, q563, n564, f565, rfl, rfl, hsb584, hfr585, he574, he576, he577, hm578, hq583, (Nat.le_of_ble_eq_true rfl), (by omega), bo562, (by omega), (by assumption), (by assumption), (by omega)⟩
abbrev ky_640_ArrayList_add : gKey := (cJx4a65c_add_72be8, 4, "java/util/ArrayList", none, [], "add", fun _ _ => True)
def pp_640_ArrayList_add (D : va_G) (I : FieldType → ClassId) (P620 : List Nat) (F621 : Nat → va_E) (q622 : Nat) (q623 : Nat) (q624 : Nat) (p625 : Int32) (p626 : Int32) (p627 : Int32) (qo628 : Nat) (qo629 : Nat) (p630 : Int32) (p631 : Int32) (f632 : Nat → Option Nat) (n633 : Nat) : Option Value → va_W → Nat → Nat → Prop := fun r w dc ds => ∃ (P694 : List Nat) (F695 : Nat → va_E) (o690 : Int32) (q691 : Nat) (n692 : Nat) (f693 : Nat → Option Nat), r = none ∧ w = va_pl P694 F695 ∧ rSub P620 P694 ∧ rFr [q622] P620 F621 F695 ∧ F695 q623 = .inr (17, [.ref qo628, .ref qo629, .int p630, .int p631]) ∧ F695 q624 = .inl (I (.object "java/lang/Object"), n633, .inr (.inr (.inr (.inr f632)))) ∧ F695 q622 = .inr (4, [.int p626, .ref q691, .int o690]) ∧ F695 q691 = .inl (I (.object "java/lang/Object"), n692, .inr (.inr (.inr (.inr f693)))) ∧ q691 ∈ P694 ∧ q691 ∉ P620 ∧ dc ≤ 1 ∧ ds ≤ n633 + n633 / 2 + 1 ∧ gB o690 1 16777217 ∧ o690.toInt = p627.toInt + 1 ∧ ((∀ j : Nat, (j : Int) < p627.toInt → f693 j = f632 j) ∧ f693 p625.toInt.toNat = some q623) ∧ rSrcX f693 f632 q623 ∧ ((n692 : Int) ≤ (n633 : Int) + (n633 : Int) / 2 + 1 ∧ (n633 : Int) + 1 ≤ (n692 : Int) ∧ (n633 : Int) + (n633 : Int) / 2 ≤ (n692 : Int))
set_option maxRecDepth 100000 in
set_option maxHeartbeats 4000000 in
theorem cp_640_ArrayList_add (l : Launch) (hl0 : l.stackTraces = false) (D : va_G) (I : FieldType → ClassId) (P620 : List Nat) (F621 : Nat → va_E) (q622 : Nat) (q623 : Nat) (q624 : Nat) (p625 : Int32) (p626 : Int32) (p627 : Int32) (qo628 : Nat) (qo629 : Nat) (p630 : Int32) (p631 : Int32) (f632 : Nat → Option Nat) (n633 : Nat) (hmq622 : q622 ∈ P620) (hmq623 : q623 ∈ P620) (hmq624 : q624 ∈ P620) (heq622 : F621 q622 = .inr (4, [.int p626, .ref q624, .int p627])) (heq623 : F621 q623 = .inr (17, [.ref qo628, .ref qo629, .int p630, .int p631])) (heq624 : F621 q624 = .inl (I (.object "java/lang/Object"), n633, .inr (.inr (.inr (.inr f632))))) (bp625 : gB p625 0 16777216) (bp627 : gB p627 0 16777216) (bp630 : gB p630 0 39) (bp631 : gB p631 0 39) (x634 : 0 < (n633 : Int)) (x635 : (n633 : Int) ≤ 1000000) (x636 : p627.toInt = (n633 : Int)) (x637 : p625.toInt = p627.toInt) (x638 : rEl P620 F621 f632) (x639 : ((n633 : Int) ≤ 16777216)) : CtA (gV D I) l yJx4a65c_add_72be8 cJx4a65c_add_72be8 4 none 5 105 1 (n633 + n633 / 2 + 1) [.ref q622, .ref q623, .ref q624, .int p625] (va_pl P620 F621) (pp_640_ArrayList_add D I P620 F621 q622 q623 q624 p625 p626 p627 qo628 qo629 p630 p631 f632 n633) gNA := by
  refine CtA_ofF hl0 (by decide +kernel) (Nat.le_of_ble_eq_true rfl) ?_
  have bp626 := gB_any p626
  refine G_iload_n 3 dr_cJx4a65c_add_72be8_0 rfl ?_
  refine G_aload_n 2 dr_cJx4a65c_add_72be8_1 rfl ?_
  refine Gp_alen (Int32.ofNat n633) 4 hmq624 heq624 dr_cJx4a65c_add_72be8_2 rfl rfl (G_nam fun z641 hz641 => ?_)
  have ez641 : z641.toInt = (n633 : Nat) := gI_ofM hz641 (by omega)
  have bz641 : gB z641 0 16777216 := ⟨by omega, by omega⟩
  refine G_icmp_ne 11 dr_cJx4a65c_add_72be8_3 (by decide +kernel) (fun hc => absurd (show False by have := gC_ne hc; omega) not_false) (fun hc642 => ?_)
  have r644 : p625.toInt = z641.toInt := gC_eq hc642
  refine G_aload_n 0 dr_cJx4a65c_add_72be8_6 rfl ?_
  refine Gw_callV (As := []) (gV_ok D I) (cp_326_ArrayList_grow l hl0 D I P620 F621 q622 q624 p626 p627 f632 n633 hmq622 hmq624 heq622 heq624 bp627 (by omega) (by omega) (by omega) (rEl_frG (rEl_src x638 rSrc_rf) (rSub_rf (P := P620)) (rFr_rf (W := []) (P := P620) (F := F621)) rNg_n) (by omega)) dr_cJx4a65c_add_72be8_7 ⟨wr_10_11, wr_1_18, wr_10_14, by decide, rfl, (Nat.le_of_ble_eq_true rfl), (Nat.le_of_ble_eq_true rfl)⟩ wr_10_13 wr_p_86 hmq622 heq622 rfl (show 0 + 1 ≤ 1 by first | omega | decide) (show 0 + (n633 + n633 / 2 + 1) ≤ (n633 + n633 / 2 + 1) by first | omega | decide) (Nat.le_of_ble_eq_true rfl) (fun r648 w649 dc645 ds646 hp647 => ?_) (fun _ _ _ _ _ z => z.elim)
  obtain ⟨P656, F657, q650, n651, f652, rfl, rfl, hsb658, hfr659, he660, he661, hm662, hq663, hdc, hds, x653, x654, x655⟩ := hp647
  have hm664 : q622 ∈ P656 := hsb658 q622 hmq622
  have hm665 : q623 ∈ P656 := hsb658 q623 hmq623
  have hm666 : q624 ∈ P656 := hsb658 q624 hmq624
  have hq667 : q650 ∉ P620 := fun z => hq663 ((rSub_rf (P := P620)) q650 z)
  have hsb668 : rSub P620 P656 := rSub_tr (rSub_rf (P := P620)) hsb658
  have he669 : F657 q623 = .inr (17, [.ref qo628, .ref qo629, .int p630, .int p631]) := (hfr659 q623 hmq623 (nm_c (rn_oo heq623 heq622 (by decide)) nm_n)).trans heq623
  have he670 : F657 q624 = .inl (I (.object "java/lang/Object"), n633, .inr (.inr (.inr (.inr f632)))) := (hfr659 q624 hmq624 (nm_c (rn_ao heq624 heq622) nm_n)).trans heq624
  have hfr671 : rFr [q622] P620 F621 F657 := rFr_call (rSub_rf (P := P620)) (rFr_rf (W := []) (P := P620) (F := F621)) hfr659 (fun b hb hn => ⟨nm_n, (nm_c (fun e => hn (e ▸ List.mem_cons_self)) nm_n)⟩)
  change G _ _ _ _ _ _ _ (.ref q650 :: _) _ _ _
  refine G_widen (cs' := 1) (sl' := n633 + n633 / 2 + 1) (by omega) (by omega) ?_
  refine G_astore_n (L' := [(2, .ref q650), (0, .ref q622), (1, .ref q623), (3, .int p625)]) dr_cJx4a65c_add_72be8_10 (Nat.le_of_ble_eq_true rfl) rfl ?_
  refine G_aload_n 0 dr_cJx4a65c_add_72be8_11 rfl ?_
  refine G_iload_n 3 dr_cJx4a65c_add_72be8_12 rfl ?_
  refine G_aload_n 2 dr_cJx4a65c_add_72be8_13 rfl ?_
  refine Gp_aast 4 hm662 he661 dr_cJx4a65c_add_72be8_14 rfl ⟨hm665, _, _, _, _, _, he669, rfl, gr_cast 2 rfl⟩ (gB_inr (by omega) (by omega)) (fun F672 e673 n674 => ?_)
  obtain ⟨f675, hf675⟩ : ∃ z, z = va_up f652 p625.toNatClampNeg (some q623) := ⟨_, rfl⟩
  rw [← hf675] at e673
  have he676 : F672 q623 = .inr (17, [.ref qo628, .ref qo629, .int p630, .int p631]) := (n674 q623 (fun h => hq667 (h ▸ hmq623))).trans he669
  have he677 : F672 q624 = .inl (I (.object "java/lang/Object"), n633, .inr (.inr (.inr (.inr f632)))) := (n674 q624 (fun h => hq667 (h ▸ hmq624))).trans he670
  have he678 : F672 q622 = .inr (4, [.int p626, .ref q650, .int p627]) := (n674 q622 (fun h => hq667 (h ▸ hmq622))).trans he660
  have he679 : F672 q650 = .inl (I (.object "java/lang/Object"), n651, .inr (.inr (.inr (.inr f675)))) := e673
  have hfr680 : rFr [q622] P620 F621 F672 := rFr_newp hq667 hfr671 n674
  refine G_aload_n 1 dr_cJx4a65c_add_72be8_15 rfl ?_
  refine G_iload_n 3 dr_cJx4a65c_add_72be8_16 rfl ?_
  refine G_iconst 1 dr_cJx4a65c_add_72be8_17 (by decide +kernel) ?_
  refine G_iadd dr_cJx4a65c_add_72be8_18 (G_nam fun z681 hz681 => ?_)
  have ez681 : z681.toInt = p625.toInt + 1 := by rw [gI_add hz681 bp625 (gBl (show Int32.toInt 1 = 1 by decide)) (by decide) (by decide), show Int32.toInt 1 = 1 from by decide]
  have bz681 : gB z681 1 16777217 := gB_add (gI_add hz681 bp625 (gBl (show Int32.toInt 1 = 1 by decide)) (by decide) (by decide)) bp625 (gBl (show Int32.toInt 1 = 1 by decide)) (by decide) (by decide)
  refine Gp_put 2 hm664 he678 dr_cJx4a65c_add_72be8_19 (gk_Jx4a65c D I) (Nat.le_of_ble_eq_true rfl) wr_7_18 rfl rfl rfl (Nat.le_of_ble_eq_true rfl) (fun F682 e683 n684 => ?_)
  have he685 : F682 q623 = .inr (17, [.ref qo628, .ref qo629, .int p630, .int p631]) := (n684 q623 (rn_oo he676 he678 (by decide))).trans he676
  have he686 : F682 q624 = .inl (I (.object "java/lang/Object"), n633, .inr (.inr (.inr (.inr f632)))) := (n684 q624 (rn_ao he677 he678)).trans he677
  have he687 : F682 q650 = .inl (I (.object "java/lang/Object"), n651, .inr (.inr (.inr (.inr f675)))) := (n684 q650 (fun h => hq667 (h ▸ hmq622))).trans he679
  have he688 : F682 q622 = .inr (4, [.int p626, .ref q650, .int z681]) := e683
  have hfr689 : rFr [q622] P620 F621 F682 := rFr_put' List.mem_cons_self hfr680 n684
  exact G_vretA dr_cJx4a65c_add_72be8_22 rfl (Nat.le_of_ble_eq_true rfl) (show n633 + n633 / 2 + 1 ≤ (n633 + n633 / 2 + 1) by omega) ⟨P656, F682, z681, q650, n651, f675, rfl, rfl, hsb668, hfr689, he685, he686, he688, he687, hm662, hq667, (Nat.le_of_ble_eq_true rfl), (by omega), bz681, (by omega), (rI_add (fun j hj => x653 j (by omega)) hf675 (by omega) (by omega)), (rSrcX_up hf675 (rSrc_tr x654 rSrc_rf)), (by omega)⟩
abbrev ky_611_ArrayList_add : gKey := (cJx4a65c_add_9ea2d, 2, "java/util/ArrayList", (some FieldType.boolean), [], "add", fun _ _ => True)
def pp_611_ArrayList_add (D : va_G) (I : FieldType → ClassId) (P593 : List Nat) (F594 : Nat → va_E) (q595 : Nat) (q596 : Nat) (q597 : Nat) (p598 : Int32) (p599 : Int32) (qo600 : Nat) (qo601 : Nat) (p602 : Int32) (p603 : Int32) (f604 : Nat → Option Nat) (n605 : Nat) : Option Value → va_W → Nat → Nat → Prop := fun r w dc ds => ∃ (P730 : List Nat) (F731 : Nat → va_E) (o725 : Int32) (o726 : Int32) (q727 : Nat) (n728 : Nat) (f729 : Nat → Option Nat), r = some (.int 1) ∧ w = va_pl P730 F731 ∧ rSub P593 P730 ∧ rFr [q595] P593 F594 F731 ∧ F731 q596 = .inr (17, [.ref qo600, .ref qo601, .int p602, .int p603]) ∧ F731 q595 = .inr (4, [.int o725, .ref q727, .int o726]) ∧ F731 q727 = .inl (I (.object "java/lang/Object"), n728, .inr (.inr (.inr (.inr f729)))) ∧ q727 ∈ P730 ∧ q727 ∉ P593 ∧ dc ≤ 1 ∧ ds ≤ n605 + n605 / 2 + 1 ∧ gB o726 1 16777217 ∧ o726.toInt = p599.toInt + 1 ∧ ((∀ j : Nat, (j : Int) < p599.toInt → f729 j = f604 j) ∧ f729 p599.toInt.toNat = some q596) ∧ rSrcX f729 f604 q596 ∧ ((n728 : Int) ≤ (n605 : Int) + (n605 : Int) / 2 + 1 ∧ (n605 : Int) + 1 ≤ (n728 : Int) ∧ (n605 : Int) + (n605 : Int) / 2 ≤ (n728 : Int))
set_option maxRecDepth 100000 in
set_option maxHeartbeats 4000000 in
theorem cp_611_ArrayList_add (l : Launch) (hl0 : l.stackTraces = false) (D : va_G) (I : FieldType → ClassId) (P593 : List Nat) (F594 : Nat → va_E) (q595 : Nat) (q596 : Nat) (q597 : Nat) (p598 : Int32) (p599 : Int32) (qo600 : Nat) (qo601 : Nat) (p602 : Int32) (p603 : Int32) (f604 : Nat → Option Nat) (n605 : Nat) (hmq595 : q595 ∈ P593) (hmq596 : q596 ∈ P593) (hmq597 : q597 ∈ P593) (heq595 : F594 q595 = .inr (4, [.int p598, .ref q597, .int p599])) (heq596 : F594 q596 = .inr (17, [.ref qo600, .ref qo601, .int p602, .int p603])) (heq597 : F594 q597 = .inl (I (.object "java/lang/Object"), n605, .inr (.inr (.inr (.inr f604))))) (bp599 : gB p599 0 16777216) (bp602 : gB p602 0 39) (bp603 : gB p603 0 39) (x606 : 0 < (n605 : Int)) (x607 : (n605 : Int) ≤ 1000000) (x608 : p599.toInt = (n605 : Int)) (x609 : rEl P593 F594 f604) (x610 : ((n605 : Int) ≤ 16777216)) : CtA (gV D I) l yJx4a65c_add_9ea2d cJx4a65c_add_9ea2d 2 (some FieldType.boolean) 6 128 1 (n605 + n605 / 2 + 1) [.ref q595, .ref q596] (va_pl P593 F594) (pp_611_ArrayList_add D I P593 F594 q595 q596 q597 p598 p599 qo600 qo601 p602 p603 f604 n605) gNA := by
  refine CtA_ofF hl0 (by decide +kernel) (Nat.le_of_ble_eq_true rfl) ?_
  have bp598 := gB_any p598
  refine G_aload_n 0 dr_cJx4a65c_add_9ea2d_0 rfl ?_
  refine G_dup dr_cJx4a65c_add_9ea2d_1 rfl ?_
  refine Gp_getS 0 hmq595 heq595 dr_cJx4a65c_add_9ea2d_2 (gk_Jx4a65c D I) (Nat.le_of_ble_eq_true rfl) wr_7_20 wr_7_21 rfl ?_
  refine G_iconst 1 dr_cJx4a65c_add_9ea2d_5 (by decide +kernel) ?_
  refine G_iadd dr_cJx4a65c_add_9ea2d_6 (G_nam fun z612 hz612 => ?_)
  have bz612 : gB z612 (-2147483648) 2147483647 := gB_any z612
  refine Gp_putS 0 hmq595 heq595 dr_cJx4a65c_add_9ea2d_7 (gk_Jx4a65c D I) (Nat.le_of_ble_eq_true rfl) wr_7_20 wr_7_21 rfl rfl rfl (Nat.le_of_ble_eq_true rfl) (fun F613 e614 n615 => ?_)
  have he616 : F613 q596 = .inr (17, [.ref qo600, .ref qo601, .int p602, .int p603]) := (n615 q596 (rn_oo heq596 heq595 (by decide))).trans heq596
  have he617 : F613 q597 = .inl (I (.object "java/lang/Object"), n605, .inr (.inr (.inr (.inr f604)))) := (n615 q597 (rn_ao heq597 heq595)).trans heq597
  have he618 : F613 q595 = .inr (4, [.int z612, .ref q597, .int p599]) := e614
  have hfr619 : rFr [q595] P593 F594 F613 := rFr_put (rFr_rf (W := []) (P := P593) (F := F594)) n615
  refine G_aload_n 0 dr_cJx4a65c_add_9ea2d_10 rfl ?_
  refine G_aload_n 1 dr_cJx4a65c_add_9ea2d_11 rfl ?_
  refine G_aload_n 0 dr_cJx4a65c_add_9ea2d_12 rfl ?_
  refine Gp_get 1 hmq595 he618 dr_cJx4a65c_add_9ea2d_13 (gk_Jx4a65c D I) (Nat.le_of_ble_eq_true rfl) wr_7_17 rfl ?_
  refine G_aload_n 0 dr_cJx4a65c_add_9ea2d_16 rfl ?_
  refine Gp_get 2 hmq595 he618 dr_cJx4a65c_add_9ea2d_17 (gk_Jx4a65c D I) (Nat.le_of_ble_eq_true rfl) wr_7_18 rfl ?_
  refine Gw_callV (As := [.ref q596, .ref q597, .int p599]) (gV_ok D I) (cp_640_ArrayList_add l hl0 D I P593 F613 q595 q596 q597 p599 z612 p599 qo600 qo601 p602 p603 f604 n605 hmq595 hmq596 hmq597 he618 he616 he617 bp599 bp599 bp602 bp603 (by omega) (by omega) (by omega) (by omega) (rEl_frG (rEl_src x609 rSrc_rf) (rSub_rf (P := P593)) hfr619 (rNg_c (rNg_o heq595 (by decide) (by decide)) rNg_n)) (by omega)) dr_cJx4a65c_add_9ea2d_20 ⟨wr_10_7, wr_1_18, wr_10_10, by decide, rfl, (Nat.le_of_ble_eq_true rfl), (Nat.le_of_ble_eq_true rfl)⟩ wr_10_9 wr_p_85 hmq595 he618 rfl (show 0 + 1 ≤ 1 by first | omega | decide) (show 0 + (n605 + n605 / 2 + 1) ≤ (n605 + n605 / 2 + 1) by first | omega | decide) (Nat.le_of_ble_eq_true rfl) (fun r699 w700 dc696 ds697 hp698 => ?_) (fun _ _ _ _ _ z => z.elim)
  obtain ⟨P709, F710, o701, q702, n703, f704, rfl, rfl, hsb711, hfr712, he713, he714, he715, he716, hm717, hq718, hdc, hds, bo701, x705, x706, x707, x708⟩ := hp698
  have hm719 : q595 ∈ P709 := hsb711 q595 hmq595
  have hm720 : q596 ∈ P709 := hsb711 q596 hmq596
  have hm721 : q597 ∈ P709 := hsb711 q597 hmq597
  have hq722 : q702 ∉ P593 := fun z => hq718 ((rSub_rf (P := P593)) q702 z)
  have hsb723 : rSub P593 P709 := rSub_tr (rSub_rf (P := P593)) hsb711
  have hfr724 : rFr [q595] P593 F594 F710 := rFr_call (rSub_rf (P := P593)) hfr619 hfr712 (fun b hb hn => ⟨(nm_c (fun e => hn (e ▸ List.mem_cons_self)) nm_n), (nm_c (fun e => hn (e ▸ List.mem_cons_self)) nm_n)⟩)
  change G _ _ _ _ _ _ _ _ _ _ _
  refine G_widen (cs' := 1) (sl' := n605 + n605 / 2 + 1) (by omega) (by omega) ?_
  refine G_iconst 1 dr_cJx4a65c_add_9ea2d_23 (by decide +kernel) ?_
  exact G_zretA FieldType.boolean dr_cJx4a65c_add_9ea2d_24 rfl rfl (Nat.le_of_ble_eq_true rfl) (show n605 + n605 / 2 + 1 ≤ (n605 + n605 / 2 + 1) by omega) ⟨P709, F710, z612, o701, q702, n703, f704, rfl, rfl, hsb723, hfr724, he713, he715, he716, hm717, hq722, (Nat.le_of_ble_eq_true rfl), (by omega), bo701, (by omega), (by assumption), (by assumption), (by omega)⟩
abbrev ky_790_ArrayList_grow : gKey := (cJx4a65c_grow_92f84, 4, "java/util/ArrayList", (some (FieldType.array (FieldType.object "java/lang/Object"))), [], "grow", fun _ _ => True)
def pp_790_ArrayList_grow (D : va_G) (I : FieldType → ClassId) (P782 : List Nat) (F783 : Nat → va_E) (q784 : Nat) (p785 : Int32) (p786 : Int32) (p787 : Int32) : Option Value → va_W → Nat → Nat → Prop := fun r w dc ds => ∃ (P816 : List Nat) (F817 : Nat → va_E) (q814 : Nat) (n815 : Nat), r = some (.ref q814) ∧ w = va_pl P816 F817 ∧ rSub P782 P816 ∧ rFr [q784] P782 F783 F817 ∧ F817 q784 = .inr (4, [.int p786, .ref q814, .int p787]) ∧ F817 q814 = .inl (I (.object "java/lang/Object"), n815, .inr (.inr (.inr (.inr (fun _ => none))))) ∧ q814 ∈ P816 ∧ q814 ∉ P782 ∧ dc ≤ 1 ∧ ds ≤ 10 ∧ (n815 : Int) = 10
set_option maxRecDepth 100000 in
set_option maxHeartbeats 4000000 in
theorem cp_790_ArrayList_grow (l : Launch) (hl0 : l.stackTraces = false) (D : va_G) (I : FieldType → ClassId) (P782 : List Nat) (F783 : Nat → va_E) (q784 : Nat) (p785 : Int32) (p786 : Int32) (p787 : Int32) (hmq784 : q784 ∈ P782) (heq784 : F783 q784 = .inr (4, [.int p786, .ref (D.2 1002 1), .int p787])) (bp785 : gB p785 0 16777216) (bp787 : gB p787 0 16777216) (x788 : p787.toInt = 0) (x789 : p785.toInt = 1) : CtA (gV D I) l yJx4a65c_grow_92f84 cJx4a65c_grow_92f84 4 (some (FieldType.array (FieldType.object "java/lang/Object"))) 1 14 1 10 [.ref q784, .int p785] (va_pl P782 F783) (pp_790_ArrayList_grow D I P782 F783 q784 p785 p786 p787) gNA := by
  refine CtA_ofF hl0 (by decide +kernel) (Nat.le_of_ble_eq_true rfl) ?_
  have bp786 := gB_any p786
  refine G_aload_n 0 dr_cJx4a65c_grow_92f84_0 rfl ?_
  refine Gp_get 1 hmq784 heq784 dr_cJx4a65c_grow_92f84_1 (gk_Jx4a65c D I) (Nat.le_of_ble_eq_true rfl) wr_7_17 rfl ?_
  refine G_klen dr_cJx4a65c_grow_92f84_4 gr_dt ?_
  refine G_istore_n (L' := [(2, .int 0), (0, .ref q784), (1, .int p785)]) dr_cJx4a65c_grow_92f84_5 (Nat.le_of_ble_eq_true rfl) rfl ?_
  refine G_iload_n 0 dr_cJx4a65c_grow_92f84_6 rfl ?_
  refine G_if_gt 20 dr_cJx4a65c_grow_92f84_7 (by decide +kernel) (fun hc => absurd hc (by decide)) (fun _ => ?_)
  refine G_aload_n 1 dr_cJx4a65c_grow_92f84_10 rfl ?_
  refine Gp_get 1 hmq784 heq784 dr_cJx4a65c_grow_92f84_11 (gk_Jx4a65c D I) (Nat.le_of_ble_eq_true rfl) wr_7_17 rfl ?_
  refine G_gets dr_cJx4a65c_grow_92f84_14 wr_7_15 gr_de (fun x792 hx791 => ?_)
  subst hx791
  refine G_acmp_eq 45 dr_cJx4a65c_grow_92f84_17 (by decide +kernel) (fun _ => ?_) (fun hc => absurd rfl hc)
  refine G_aload_n 1 dr_cJx4a65c_grow_92f84_45 rfl ?_
  refine G_bipush 10 dr_cJx4a65c_grow_92f84_46 (by decide +kernel) ?_
  refine G_iload_n 2 dr_cJx4a65c_grow_92f84_48 rfl ?_
  refine G_mmax dr_cJx4a65c_grow_92f84_49 wr_10_60 wr_1_140 wr_1_6 wr_1_141 (Nat.le_of_ble_eq_true rfl) (Nat.le_of_ble_eq_true rfl) (show 0 ≤ 1 by first | omega | decide) (show 0 ≤ 10 by first | omega | decide) (G_nam fun z793 hz793 => ?_)
  have ez793 : 10 ≤ z793.toInt ∧ p785.toInt ≤ z793.toInt ∧ (z793.toInt = 10 ∨ z793.toInt = p785.toInt) := by have := gI_max hz793; rw [show Int32.toInt 10 = 10 from by decide] at this; omega
  have bz793 : gB z793 10 16777216 := ⟨by omega, by omega⟩
  refine Gp_newq (M := z793.toInt.toNat) 4 dr_cJx4a65c_grow_92f84_52 wr_10_61 gr_ao rfl (g_n0 (by omega)) rfl (show z793.toInt.toNat * 4 ≤ 536870912 by omega) (show 0 + 1 ≤ 1 by first | omega | decide) (show 0 + z793.toInt.toNat ≤ 10 by first | omega | decide) (fun q794 P795 F796 hq797 hP798 e799 n800 => ?_)
  refine G_widen (cs' := 1) (sl' := z793.toInt.toNat) (by omega) (by omega) ?_
  have he801 : F796 q784 = .inr (4, [.int p786, .ref (D.2 1002 1), .int p787]) := (n800 q784 (fun h => hq797 (h ▸ hmq784))).trans heq784
  have he802 : F796 q794 = .inl (I (.object "java/lang/Object"), z793.toInt.toNat, .inr (.inr (.inr (.inr (fun _ => none))))) := e799
  have hm803 : q784 ∈ P795 := (hP798 q784).mpr (Or.inl hmq784)
  have hm804 : q794 ∈ P795 := (hP798 q794).mpr (Or.inr rfl)
  have hq805 : q794 ∉ P782 := fun z => hq797 ((rSub_rf (P := P782)) q794 z)
  have hfr806 : rFr [] P782 F783 F796 := rFr_new (rSub_rf (P := P782)) hq797 (rFr_rf (W := []) (P := P782) (F := F783)) n800
  have hsb807 : rSub P782 P795 := rSub_new (rSub_rf (P := P782)) hP798
  refine G_dup_x1 dr_cJx4a65c_grow_92f84_55 rfl rfl ?_
  refine Gp_put 1 hm803 he801 dr_cJx4a65c_grow_92f84_56 (gk_Jx4a65c D I) (Nat.le_of_ble_eq_true rfl) wr_7_17 rfl rfl rfl (Nat.le_of_ble_eq_true rfl) (fun F808 e809 n810 => ?_)
  have he811 : F808 q794 = .inl (I (.object "java/lang/Object"), z793.toInt.toNat, .inr (.inr (.inr (.inr (fun _ => none))))) := (n810 q794 (fun h => hq805 (h ▸ hmq784))).trans he802
  have he812 : F808 q784 = .inr (4, [.int p786, .ref q794, .int p787]) := e809
  have hfr813 : rFr [q784] P782 F783 F808 := rFr_put hfr806 n810
  exact G_aretA (FieldType.array (FieldType.object "java/lang/Object")) dr_cJx4a65c_grow_92f84_59 rfl (by first | exact Or.inl ⟨_, rfl⟩ | exact Or.inr ⟨_, rfl⟩) (Or.inr ⟨_, rfl⟩) (Nat.le_of_ble_eq_true rfl) (show z793.toInt.toNat ≤ 10 by omega) ⟨P795, F808, q794, z793.toInt.toNat, rfl, rfl, hsb807, hfr813, he812, he811, hm804, hq805, (Nat.le_of_ble_eq_true rfl), (by omega), (by have qa0 : Int32.toInt 0 = 0 := (by decide); omega)⟩
abbrev ky_780_ArrayList_grow : gKey := (cJx4a65c_grow_d5877, 1, "java/util/ArrayList", (some (FieldType.array (FieldType.object "java/lang/Object"))), [], "grow", fun _ _ => True)
def pp_780_ArrayList_grow (D : va_G) (I : FieldType → ClassId) (P774 : List Nat) (F775 : Nat → va_E) (q776 : Nat) (p777 : Int32) (p778 : Int32) : Option Value → va_W → Nat → Nat → Prop := fun r w dc ds => ∃ (P840 : List Nat) (F841 : Nat → va_E) (q838 : Nat) (n839 : Nat), r = some (.ref q838) ∧ w = va_pl P840 F841 ∧ rSub P774 P840 ∧ rFr [q776] P774 F775 F841 ∧ F841 q776 = .inr (4, [.int p777, .ref q838, .int p778]) ∧ F841 q838 = .inl (I (.object "java/lang/Object"), n839, .inr (.inr (.inr (.inr (fun _ => none))))) ∧ q838 ∈ P840 ∧ q838 ∉ P774 ∧ dc ≤ 1 ∧ ds ≤ 10 ∧ (n839 : Int) = 10
set_option maxRecDepth 100000 in
set_option maxHeartbeats 4000000 in
theorem cp_780_ArrayList_grow (l : Launch) (hl0 : l.stackTraces = false) (D : va_G) (I : FieldType → ClassId) (P774 : List Nat) (F775 : Nat → va_E) (q776 : Nat) (p777 : Int32) (p778 : Int32) (hmq776 : q776 ∈ P774) (heq776 : F775 q776 = .inr (4, [.int p777, .ref (D.2 1002 1), .int p778])) (bp778 : gB p778 0 16777216) (x779 : p778.toInt = 0) : CtA (gV D I) l yJx4a65c_grow_d5877 cJx4a65c_grow_d5877 1 (some (FieldType.array (FieldType.object "java/lang/Object"))) 2 37 1 10 [.ref q776] (va_pl P774 F775) (pp_780_ArrayList_grow D I P774 F775 q776 p777 p778) gNA := by
  refine CtA_ofF hl0 (by decide +kernel) (Nat.le_of_ble_eq_true rfl) ?_
  have bp777 := gB_any p777
  refine G_aload_n 0 dr_cJx4a65c_grow_d5877_0 rfl ?_
  refine G_aload_n 0 dr_cJx4a65c_grow_d5877_1 rfl ?_
  refine Gp_get 2 hmq776 heq776 dr_cJx4a65c_grow_d5877_2 (gk_Jx4a65c D I) (Nat.le_of_ble_eq_true rfl) wr_7_18 rfl ?_
  refine G_iconst 1 dr_cJx4a65c_grow_d5877_5 (by decide +kernel) ?_
  refine G_iadd dr_cJx4a65c_grow_d5877_6 (G_nam fun z781 hz781 => ?_)
  have ez781 : z781.toInt = p778.toInt + 1 := by rw [gI_add hz781 bp778 (gBl (show Int32.toInt 1 = 1 by decide)) (by decide) (by decide), show Int32.toInt 1 = 1 from by decide]
  have bz781 : gB z781 1 16777217 := gB_add (gI_add hz781 bp778 (gBl (show Int32.toInt 1 = 1 by decide)) (by decide) (by decide)) bp778 (gBl (show Int32.toInt 1 = 1 by decide)) (by decide) (by decide)
  refine Gw_callV (As := [.int z781]) (gV_ok D I) (cp_790_ArrayList_grow l hl0 D I P774 F775 q776 z781 p777 p778 hmq776 heq776 ⟨by omega, by omega⟩ bp778 (by omega) (by omega)) dr_cJx4a65c_grow_d5877_7 ⟨wr_10_15, wr_1_18, wr_10_18, by decide, rfl, (Nat.le_of_ble_eq_true rfl), (Nat.le_of_ble_eq_true rfl)⟩ wr_10_17 wr_p_87 hmq776 heq776 rfl (show 0 + 1 ≤ 1 by first | omega | decide) (show 0 + 10 ≤ 10 by first | omega | decide) (Nat.le_of_ble_eq_true rfl) (fun r821 w822 dc818 ds819 hp820 => ?_) (fun _ _ _ _ _ z => z.elim)
  obtain ⟨P826, F827, q823, n824, rfl, rfl, hsb828, hfr829, he830, he831, hm832, hq833, hdc, hds, x825⟩ := hp820
  have hm834 : q776 ∈ P826 := hsb828 q776 hmq776
  have hq835 : q823 ∉ P774 := fun z => hq833 ((rSub_rf (P := P774)) q823 z)
  have hsb836 : rSub P774 P826 := rSub_tr (rSub_rf (P := P774)) hsb828
  have hfr837 : rFr [q776] P774 F775 F827 := rFr_call (rSub_rf (P := P774)) (rFr_rf (W := []) (P := P774) (F := F775)) hfr829 (fun b hb hn => ⟨nm_n, (nm_c (fun e => hn (e ▸ List.mem_cons_self)) nm_n)⟩)
  change G _ _ _ _ _ _ _ (.ref q823 :: _) _ _ _
  refine G_widen (cs' := 1) (sl' := 10) (by omega) (by omega) ?_
  exact G_aretA (FieldType.array (FieldType.object "java/lang/Object")) dr_cJx4a65c_grow_d5877_10 rfl (by first | exact Or.inl ⟨_, rfl⟩ | exact Or.inr ⟨_, rfl⟩) (Or.inr ⟨_, rfl⟩) (Nat.le_of_ble_eq_true rfl) (Nat.le_of_ble_eq_true rfl) ⟨P826, F827, q823, n824, rfl, rfl, hsb836, hfr837, he830, he831, hm832, hq835, (Nat.le_of_ble_eq_true rfl), (Nat.le_of_ble_eq_true rfl), (by omega)⟩
abbrev ky_770_ArrayList_add : gKey := (cJx4a65c_add_72be8, 4, "java/util/ArrayList", none, [], "add", fun _ _ => True)
def pp_770_ArrayList_add (D : va_G) (I : FieldType → ClassId) (P754 : List Nat) (F755 : Nat → va_E) (q756 : Nat) (q757 : Nat) (p758 : Int32) (p759 : Int32) (p760 : Int32) (p761 : Int32) (p762 : Int32) (p763 : Int32) (p764 : Int32) (p765 : Int32) (p766 : Int32) (p767 : Int32) : Option Value → va_W → Nat → Nat → Prop := fun r w dc ds => ∃ (P884 : List Nat) (F885 : Nat → va_E) (o880 : Int32) (q881 : Nat) (n882 : Nat) (f883 : Nat → Option Nat), r = none ∧ w = va_pl P884 F885 ∧ rSub P754 P884 ∧ rFr [q756] P754 F755 F885 ∧ F885 q757 = .inr (20, [.int p761, .int p762, .int p763, .int p764, .int p765, .int p766, .int p767]) ∧ F885 q756 = .inr (4, [.int p759, .ref q881, .int o880]) ∧ F885 q881 = .inl (I (.object "java/lang/Object"), n882, .inr (.inr (.inr (.inr f883)))) ∧ q881 ∈ P884 ∧ q881 ∉ P754 ∧ dc ≤ 1 ∧ ds ≤ 10 ∧ gB o880 1 1 ∧ o880.toInt = p760.toInt + 1 ∧ f883 p758.toInt.toNat = some q757 ∧ (∀ j w, f883 j = some w → w = q757) ∧ (n882 : Int) = 10
set_option maxRecDepth 100000 in
set_option maxHeartbeats 4000000 in
theorem cp_770_ArrayList_add (l : Launch) (hl0 : l.stackTraces = false) (D : va_G) (I : FieldType → ClassId) (P754 : List Nat) (F755 : Nat → va_E) (q756 : Nat) (q757 : Nat) (p758 : Int32) (p759 : Int32) (p760 : Int32) (p761 : Int32) (p762 : Int32) (p763 : Int32) (p764 : Int32) (p765 : Int32) (p766 : Int32) (p767 : Int32) (hmq756 : q756 ∈ P754) (hmq757 : q757 ∈ P754) (heq756 : F755 q756 = .inr (4, [.int p759, .ref (D.2 1002 1), .int p760])) (heq757 : F755 q757 = .inr (20, [.int p761, .int p762, .int p763, .int p764, .int p765, .int p766, .int p767])) (bp758 : gB p758 0 16777216) (bp760 : gB p760 0 16777216) (bp761 : gB p761 0 32) (bp762 : gB p762 0 1999) (bp765 : gB p765 0 1999) (bp766 : gB p766 0 1) (bp767 : gB p767 0 1) (x768 : p760.toInt = 0) (x769 : p758.toInt = p760.toInt) : CtA (gV D I) l yJx4a65c_add_72be8 cJx4a65c_add_72be8 4 none 3 57 1 10 [.ref q756, .ref q757, .ref (D.2 1002 1), .int p758] (va_pl P754 F755) (pp_770_ArrayList_add D I P754 F755 q756 q757 p758 p759 p760 p761 p762 p763 p764 p765 p766 p767) gNA := by
  refine CtA_ofF hl0 (by decide +kernel) (Nat.le_of_ble_eq_true rfl) ?_
  have bp759 := gB_any p759
  have bp763 := gB_any p763
  have bp764 := gB_any p764
  refine G_iload_n 3 dr_cJx4a65c_add_72be8_0 rfl ?_
  refine G_aload_n 2 dr_cJx4a65c_add_72be8_1 rfl ?_
  refine G_klen dr_cJx4a65c_add_72be8_2 gr_dt ?_
  refine G_icmp_ne 11 dr_cJx4a65c_add_72be8_3 (by decide +kernel) (fun hc => absurd (show False by have := gj_neq hc (show Int32.toInt 0 = 0 by decide); omega) not_false) (fun hc771 => ?_)
  have r773 : p758.toInt = 0 := gj_eq hc771 (show Int32.toInt 0 = 0 by decide)
  have bp758' : gB p758 0 0 := ⟨by omega, by omega⟩
  refine G_aload_n 0 dr_cJx4a65c_add_72be8_6 rfl ?_
  refine Gw_callV (As := []) (gV_ok D I) (cp_780_ArrayList_grow l hl0 D I P754 F755 q756 p759 p760 hmq756 heq756 bp760 (by omega)) dr_cJx4a65c_add_72be8_7 ⟨wr_10_11, wr_1_18, wr_10_14, by decide, rfl, (Nat.le_of_ble_eq_true rfl), (Nat.le_of_ble_eq_true rfl)⟩ wr_10_13 wr_p_86 hmq756 heq756 rfl (show 0 + 1 ≤ 1 by first | omega | decide) (show 0 + 10 ≤ 10 by first | omega | decide) (Nat.le_of_ble_eq_true rfl) (fun r845 w846 dc842 ds843 hp844 => ?_) (fun _ _ _ _ _ z => z.elim)
  obtain ⟨P850, F851, q847, n848, rfl, rfl, hsb852, hfr853, he854, he855, hm856, hq857, hdc, hds, x849⟩ := hp844
  have hm858 : q756 ∈ P850 := hsb852 q756 hmq756
  have hm859 : q757 ∈ P850 := hsb852 q757 hmq757
  have hq860 : q847 ∉ P754 := fun z => hq857 ((rSub_rf (P := P754)) q847 z)
  have hsb861 : rSub P754 P850 := rSub_tr (rSub_rf (P := P754)) hsb852
  have he862 : F851 q757 = .inr (20, [.int p761, .int p762, .int p763, .int p764, .int p765, .int p766, .int p767]) := (hfr853 q757 hmq757 (nm_c (rn_oo heq757 heq756 (by decide)) nm_n)).trans heq757
  have hfr863 : rFr [q756] P754 F755 F851 := rFr_call (rSub_rf (P := P754)) (rFr_rf (W := []) (P := P754) (F := F755)) hfr853 (fun b hb hn => ⟨nm_n, (nm_c (fun e => hn (e ▸ List.mem_cons_self)) nm_n)⟩)
  change G _ _ _ _ _ _ _ (.ref q847 :: _) _ _ _
  refine G_widen (cs' := 1) (sl' := 10) (by omega) (by omega) ?_
  refine G_astore_n (L' := [(2, .ref q847), (0, .ref q756), (1, .ref q757), (3, .int p758)]) dr_cJx4a65c_add_72be8_10 (Nat.le_of_ble_eq_true rfl) rfl ?_
  refine G_aload_n 0 dr_cJx4a65c_add_72be8_11 rfl ?_
  refine G_iload_n 3 dr_cJx4a65c_add_72be8_12 rfl ?_
  refine G_aload_n 2 dr_cJx4a65c_add_72be8_13 rfl ?_
  refine Gp_aast 4 hm856 he855 dr_cJx4a65c_add_72be8_14 rfl ⟨hm859, _, _, _, _, _, he862, rfl, gr_cast 3 rfl⟩ (gB_inr (by omega) (by omega)) (fun F864 e865 n866 => ?_)
  obtain ⟨f867, hf867⟩ : ∃ z, z = va_up (fun _ => none) p758.toNatClampNeg (some q757) := ⟨_, rfl⟩
  rw [← hf867] at e865
  have he868 : F864 q757 = .inr (20, [.int p761, .int p762, .int p763, .int p764, .int p765, .int p766, .int p767]) := (n866 q757 (fun h => hq860 (h ▸ hmq757))).trans he862
  have he869 : F864 q756 = .inr (4, [.int p759, .ref q847, .int p760]) := (n866 q756 (fun h => hq860 (h ▸ hmq756))).trans he854
  have he870 : F864 q847 = .inl (I (.object "java/lang/Object"), n848, .inr (.inr (.inr (.inr f867)))) := e865
  have hfr871 : rFr [q756] P754 F755 F864 := rFr_newp hq860 hfr863 n866
  refine G_aload_n 1 dr_cJx4a65c_add_72be8_15 rfl ?_
  refine G_iload_n 3 dr_cJx4a65c_add_72be8_16 rfl ?_
  refine G_iconst 1 dr_cJx4a65c_add_72be8_17 (by decide +kernel) ?_
  refine G_iadd dr_cJx4a65c_add_72be8_18 (G_nam fun z872 hz872 => ?_)
  have ez872 : z872.toInt = p758.toInt + 1 := by rw [gI_add hz872 bp758' (gBl (show Int32.toInt 1 = 1 by decide)) (by decide) (by decide), show Int32.toInt 1 = 1 from by decide]
  have bz872 : gB z872 1 1 := gB_add (gI_add hz872 bp758' (gBl (show Int32.toInt 1 = 1 by decide)) (by decide) (by decide)) bp758' (gBl (show Int32.toInt 1 = 1 by decide)) (by decide) (by decide)
  refine Gp_put 2 hm858 he869 dr_cJx4a65c_add_72be8_19 (gk_Jx4a65c D I) (Nat.le_of_ble_eq_true rfl) wr_7_18 rfl rfl rfl (Nat.le_of_ble_eq_true rfl) (fun F873 e874 n875 => ?_)
  have he876 : F873 q757 = .inr (20, [.int p761, .int p762, .int p763, .int p764, .int p765, .int p766, .int p767]) := (n875 q757 (rn_oo he868 he869 (by decide))).trans he868
  have he877 : F873 q847 = .inl (I (.object "java/lang/Object"), n848, .inr (.inr (.inr (.inr f867)))) := (n875 q847 (fun h => hq860 (h ▸ hmq756))).trans he870
  have he878 : F873 q756 = .inr (4, [.int p759, .ref q847, .int z872]) := e874
  have hfr879 : rFr [q756] P754 F755 F873 := rFr_put' List.mem_cons_self hfr871 n875
  exact G_vretA dr_cJx4a65c_add_72be8_22 rfl (Nat.le_of_ble_eq_true rfl) (Nat.le_of_ble_eq_true rfl) ⟨P850, F873, z872, q847, n848, f867, rfl, rfl, hsb861, hfr879, he876, he878, he877, hm856, hq860, (Nat.le_of_ble_eq_true rfl), (Nat.le_of_ble_eq_true rfl), bz872, (by omega), (rI_add (f := fun _ => none) (m := 0) (fun _ _ => rfl) hf867 (by omega) (by omega)).2, (rX_none (rSrcX_up hf867 rSrc_none)), (by omega)⟩
abbrev ky_746_ArrayList_add : gKey := (cJx4a65c_add_9ea2d, 2, "java/util/ArrayList", (some FieldType.boolean), [], "add", fun _ _ => True)
def pp_746_ArrayList_add (D : va_G) (I : FieldType → ClassId) (P732 : List Nat) (F733 : Nat → va_E) (q734 : Nat) (q735 : Nat) (p736 : Int32) (p737 : Int32) (p738 : Int32) (p739 : Int32) (p740 : Int32) (p741 : Int32) (p742 : Int32) (p743 : Int32) (p744 : Int32) : Option Value → va_W → Nat → Nat → Prop := fun r w dc ds => ∃ (P918 : List Nat) (F919 : Nat → va_E) (o913 : Int32) (o914 : Int32) (q915 : Nat) (n916 : Nat) (f917 : Nat → Option Nat), r = some (.int 1) ∧ w = va_pl P918 F919 ∧ rSub P732 P918 ∧ rFr [q734] P732 F733 F919 ∧ F919 q735 = .inr (20, [.int p738, .int p739, .int p740, .int p741, .int p742, .int p743, .int p744]) ∧ F919 q734 = .inr (4, [.int o913, .ref q915, .int o914]) ∧ F919 q915 = .inl (I (.object "java/lang/Object"), n916, .inr (.inr (.inr (.inr f917)))) ∧ q915 ∈ P918 ∧ q915 ∉ P732 ∧ dc ≤ 1 ∧ ds ≤ 10 ∧ gB o914 1 1 ∧ o914.toInt = p737.toInt + 1 ∧ f917 p737.toInt.toNat = some q735 ∧ (∀ j w, f917 j = some w → w = q735) ∧ (n916 : Int) = 10
set_option maxRecDepth 100000 in
set_option maxHeartbeats 4000000 in
theorem cp_746_ArrayList_add (l : Launch) (hl0 : l.stackTraces = false) (D : va_G) (I : FieldType → ClassId) (P732 : List Nat) (F733 : Nat → va_E) (q734 : Nat) (q735 : Nat) (p736 : Int32) (p737 : Int32) (p738 : Int32) (p739 : Int32) (p740 : Int32) (p741 : Int32) (p742 : Int32) (p743 : Int32) (p744 : Int32) (hmq734 : q734 ∈ P732) (hmq735 : q735 ∈ P732) (heq734 : F733 q734 = .inr (4, [.int p736, .ref (D.2 1002 1), .int p737])) (heq735 : F733 q735 = .inr (20, [.int p738, .int p739, .int p740, .int p741, .int p742, .int p743, .int p744])) (bp737 : gB p737 0 16777216) (bp738 : gB p738 0 32) (bp739 : gB p739 0 1999) (bp742 : gB p742 0 1999) (bp743 : gB p743 0 1) (bp744 : gB p744 0 1) (x745 : p737.toInt = 0) : CtA (gV D I) l yJx4a65c_add_9ea2d cJx4a65c_add_9ea2d 2 (some FieldType.boolean) 4 80 1 10 [.ref q734, .ref q735] (va_pl P732 F733) (pp_746_ArrayList_add D I P732 F733 q734 q735 p736 p737 p738 p739 p740 p741 p742 p743 p744) gNA := by
  refine CtA_ofF hl0 (by decide +kernel) (Nat.le_of_ble_eq_true rfl) ?_
  have bp736 := gB_any p736
  have bp740 := gB_any p740
  have bp741 := gB_any p741
  refine G_aload_n 0 dr_cJx4a65c_add_9ea2d_0 rfl ?_
  refine G_dup dr_cJx4a65c_add_9ea2d_1 rfl ?_
  refine Gp_getS 0 hmq734 heq734 dr_cJx4a65c_add_9ea2d_2 (gk_Jx4a65c D I) (Nat.le_of_ble_eq_true rfl) wr_7_20 wr_7_21 rfl ?_
  refine G_iconst 1 dr_cJx4a65c_add_9ea2d_5 (by decide +kernel) ?_
  refine G_iadd dr_cJx4a65c_add_9ea2d_6 (G_nam fun z747 hz747 => ?_)
  have bz747 : gB z747 (-2147483648) 2147483647 := gB_any z747
  refine Gp_putS 0 hmq734 heq734 dr_cJx4a65c_add_9ea2d_7 (gk_Jx4a65c D I) (Nat.le_of_ble_eq_true rfl) wr_7_20 wr_7_21 rfl rfl rfl (Nat.le_of_ble_eq_true rfl) (fun F748 e749 n750 => ?_)
  have he751 : F748 q735 = .inr (20, [.int p738, .int p739, .int p740, .int p741, .int p742, .int p743, .int p744]) := (n750 q735 (rn_oo heq735 heq734 (by decide))).trans heq735
  have he752 : F748 q734 = .inr (4, [.int z747, .ref (D.2 1002 1), .int p737]) := e749
  have hfr753 : rFr [q734] P732 F733 F748 := rFr_put (rFr_rf (W := []) (P := P732) (F := F733)) n750
  refine G_aload_n 0 dr_cJx4a65c_add_9ea2d_10 rfl ?_
  refine G_aload_n 1 dr_cJx4a65c_add_9ea2d_11 rfl ?_
  refine G_aload_n 0 dr_cJx4a65c_add_9ea2d_12 rfl ?_
  refine Gp_get 1 hmq734 he752 dr_cJx4a65c_add_9ea2d_13 (gk_Jx4a65c D I) (Nat.le_of_ble_eq_true rfl) wr_7_17 rfl ?_
  refine G_aload_n 0 dr_cJx4a65c_add_9ea2d_16 rfl ?_
  refine Gp_get 2 hmq734 he752 dr_cJx4a65c_add_9ea2d_17 (gk_Jx4a65c D I) (Nat.le_of_ble_eq_true rfl) wr_7_18 rfl ?_
  refine Gw_callV (As := [.ref q735, .ref (D.2 1002 1), .int p737]) (gV_ok D I) (cp_770_ArrayList_add l hl0 D I P732 F748 q734 q735 p737 z747 p737 p738 p739 p740 p741 p742 p743 p744 hmq734 hmq735 he752 he751 bp737 bp737 bp738 bp739 bp742 bp743 bp744 (by omega) (by omega)) dr_cJx4a65c_add_9ea2d_20 ⟨wr_10_7, wr_1_18, wr_10_10, by decide, rfl, (Nat.le_of_ble_eq_true rfl), (Nat.le_of_ble_eq_true rfl)⟩ wr_10_9 wr_p_85 hmq734 he752 rfl (show 0 + 1 ≤ 1 by first | omega | decide) (show 0 + 10 ≤ 10 by first | omega | decide) (Nat.le_of_ble_eq_true rfl) (fun r889 w890 dc886 ds887 hp888 => ?_) (fun _ _ _ _ _ z => z.elim)
  obtain ⟨P899, F900, o891, q892, n893, f894, rfl, rfl, hsb901, hfr902, he903, he904, he905, hm906, hq907, hdc, hds, bo891, x895, x896, x897, x898⟩ := hp888
  have hm908 : q734 ∈ P899 := hsb901 q734 hmq734
  have hm909 : q735 ∈ P899 := hsb901 q735 hmq735
  have hq910 : q892 ∉ P732 := fun z => hq907 ((rSub_rf (P := P732)) q892 z)
  have hsb911 : rSub P732 P899 := rSub_tr (rSub_rf (P := P732)) hsb901
  have hfr912 : rFr [q734] P732 F733 F900 := rFr_call (rSub_rf (P := P732)) hfr753 hfr902 (fun b hb hn => ⟨(nm_c (fun e => hn (e ▸ List.mem_cons_self)) nm_n), (nm_c (fun e => hn (e ▸ List.mem_cons_self)) nm_n)⟩)
  change G _ _ _ _ _ _ _ _ _ _ _
  refine G_widen (cs' := 1) (sl' := 10) (by omega) (by omega) ?_
  refine G_iconst 1 dr_cJx4a65c_add_9ea2d_23 (by decide +kernel) ?_
  exact G_zretA FieldType.boolean dr_cJx4a65c_add_9ea2d_24 rfl rfl (Nat.le_of_ble_eq_true rfl) (Nat.le_of_ble_eq_true rfl) ⟨P899, F900, z747, o891, q892, n893, f894, rfl, rfl, hsb911, hfr912, he903, he904, he905, hm906, hq910, (Nat.le_of_ble_eq_true rfl), (Nat.le_of_ble_eq_true rfl), bo891, (by omega), (by assumption), (by assumption), (by omega)⟩
abbrev ky_952_ArrayList_add : gKey := (cJx4a65c_add_72be8, 4, "java/util/ArrayList", none, [], "add", fun _ _ => True)
def pp_952_ArrayList_add (D : va_G) (I : FieldType → ClassId) (P939 : List Nat) (F940 : Nat → va_E) (q941 : Nat) (q942 : Nat) (p943 : Int32) (p944 : Int32) (p945 : Int32) (qo946 : Nat) (qo947 : Nat) (p948 : Int32) (p949 : Int32) : Option Value → va_W → Nat → Nat → Prop := fun r w dc ds => ∃ (P998 : List Nat) (F999 : Nat → va_E) (o994 : Int32) (q995 : Nat) (n996 : Nat) (f997 : Nat → Option Nat), r = none ∧ w = va_pl P998 F999 ∧ rSub P939 P998 ∧ rFr [q941] P939 F940 F999 ∧ F999 q942 = .inr (17, [.ref qo946, .ref qo947, .int p948, .int p949]) ∧ F999 q941 = .inr (4, [.int p944, .ref q995, .int o994]) ∧ F999 q995 = .inl (I (.object "java/lang/Object"), n996, .inr (.inr (.inr (.inr f997)))) ∧ q995 ∈ P998 ∧ q995 ∉ P939 ∧ dc ≤ 1 ∧ ds ≤ 10 ∧ gB o994 1 1 ∧ o994.toInt = p945.toInt + 1 ∧ f997 p943.toInt.toNat = some q942 ∧ (∀ j w, f997 j = some w → w = q942) ∧ (n996 : Int) = 10
set_option maxRecDepth 100000 in
set_option maxHeartbeats 4000000 in
theorem cp_952_ArrayList_add (l : Launch) (hl0 : l.stackTraces = false) (D : va_G) (I : FieldType → ClassId) (P939 : List Nat) (F940 : Nat → va_E) (q941 : Nat) (q942 : Nat) (p943 : Int32) (p944 : Int32) (p945 : Int32) (qo946 : Nat) (qo947 : Nat) (p948 : Int32) (p949 : Int32) (hmq941 : q941 ∈ P939) (hmq942 : q942 ∈ P939) (heq941 : F940 q941 = .inr (4, [.int p944, .ref (D.2 1002 1), .int p945])) (heq942 : F940 q942 = .inr (17, [.ref qo946, .ref qo947, .int p948, .int p949])) (bp943 : gB p943 0 16777216) (bp945 : gB p945 0 16777216) (bp948 : gB p948 0 39) (bp949 : gB p949 0 39) (x950 : p945.toInt = 0) (x951 : p943.toInt = p945.toInt) : CtA (gV D I) l yJx4a65c_add_72be8 cJx4a65c_add_72be8 4 none 3 57 1 10 [.ref q941, .ref q942, .ref (D.2 1002 1), .int p943] (va_pl P939 F940) (pp_952_ArrayList_add D I P939 F940 q941 q942 p943 p944 p945 qo946 qo947 p948 p949) gNA := by
  refine CtA_ofF hl0 (by decide +kernel) (Nat.le_of_ble_eq_true rfl) ?_
  have bp944 := gB_any p944
  refine G_iload_n 3 dr_cJx4a65c_add_72be8_0 rfl ?_
  refine G_aload_n 2 dr_cJx4a65c_add_72be8_1 rfl ?_
  refine G_klen dr_cJx4a65c_add_72be8_2 gr_dt ?_
  refine G_icmp_ne 11 dr_cJx4a65c_add_72be8_3 (by decide +kernel) (fun hc => absurd (show False by have := gj_neq hc (show Int32.toInt 0 = 0 by decide); omega) not_false) (fun hc953 => ?_)
  have r955 : p943.toInt = 0 := gj_eq hc953 (show Int32.toInt 0 = 0 by decide)
  have bp943' : gB p943 0 0 := ⟨by omega, by omega⟩
  refine G_aload_n 0 dr_cJx4a65c_add_72be8_6 rfl ?_
  refine Gw_callV (As := []) (gV_ok D I) (cp_780_ArrayList_grow l hl0 D I P939 F940 q941 p944 p945 hmq941 heq941 bp945 (by omega)) dr_cJx4a65c_add_72be8_7 ⟨wr_10_11, wr_1_18, wr_10_14, by decide, rfl, (Nat.le_of_ble_eq_true rfl), (Nat.le_of_ble_eq_true rfl)⟩ wr_10_13 wr_p_86 hmq941 heq941 rfl (show 0 + 1 ≤ 1 by first | omega | decide) (show 0 + 10 ≤ 10 by first | omega | decide) (Nat.le_of_ble_eq_true rfl) (fun r959 w960 dc956 ds957 hp958 => ?_) (fun _ _ _ _ _ z => z.elim)
  obtain ⟨P964, F965, q961, n962, rfl, rfl, hsb966, hfr967, he968, he969, hm970, hq971, hdc, hds, x963⟩ := hp958
  have hm972 : q941 ∈ P964 := hsb966 q941 hmq941
  have hm973 : q942 ∈ P964 := hsb966 q942 hmq942
  have hq974 : q961 ∉ P939 := fun z => hq971 ((rSub_rf (P := P939)) q961 z)
  have hsb975 : rSub P939 P964 := rSub_tr (rSub_rf (P := P939)) hsb966
  have he976 : F965 q942 = .inr (17, [.ref qo946, .ref qo947, .int p948, .int p949]) := (hfr967 q942 hmq942 (nm_c (rn_oo heq942 heq941 (by decide)) nm_n)).trans heq942
  have hfr977 : rFr [q941] P939 F940 F965 := rFr_call (rSub_rf (P := P939)) (rFr_rf (W := []) (P := P939) (F := F940)) hfr967 (fun b hb hn => ⟨nm_n, (nm_c (fun e => hn (e ▸ List.mem_cons_self)) nm_n)⟩)
  change G _ _ _ _ _ _ _ (.ref q961 :: _) _ _ _
  refine G_widen (cs' := 1) (sl' := 10) (by omega) (by omega) ?_
  refine G_astore_n (L' := [(2, .ref q961), (0, .ref q941), (1, .ref q942), (3, .int p943)]) dr_cJx4a65c_add_72be8_10 (Nat.le_of_ble_eq_true rfl) rfl ?_
  refine G_aload_n 0 dr_cJx4a65c_add_72be8_11 rfl ?_
  refine G_iload_n 3 dr_cJx4a65c_add_72be8_12 rfl ?_
  refine G_aload_n 2 dr_cJx4a65c_add_72be8_13 rfl ?_
  refine Gp_aast 4 hm970 he969 dr_cJx4a65c_add_72be8_14 rfl ⟨hm973, _, _, _, _, _, he976, rfl, gr_cast 2 rfl⟩ (gB_inr (by omega) (by omega)) (fun F978 e979 n980 => ?_)
  obtain ⟨f981, hf981⟩ : ∃ z, z = va_up (fun _ => none) p943.toNatClampNeg (some q942) := ⟨_, rfl⟩
  rw [← hf981] at e979
  have he982 : F978 q942 = .inr (17, [.ref qo946, .ref qo947, .int p948, .int p949]) := (n980 q942 (fun h => hq974 (h ▸ hmq942))).trans he976
  have he983 : F978 q941 = .inr (4, [.int p944, .ref q961, .int p945]) := (n980 q941 (fun h => hq974 (h ▸ hmq941))).trans he968
  have he984 : F978 q961 = .inl (I (.object "java/lang/Object"), n962, .inr (.inr (.inr (.inr f981)))) := e979
  have hfr985 : rFr [q941] P939 F940 F978 := rFr_newp hq974 hfr977 n980
  refine G_aload_n 1 dr_cJx4a65c_add_72be8_15 rfl ?_
  refine G_iload_n 3 dr_cJx4a65c_add_72be8_16 rfl ?_
  refine G_iconst 1 dr_cJx4a65c_add_72be8_17 (by decide +kernel) ?_
  refine G_iadd dr_cJx4a65c_add_72be8_18 (G_nam fun z986 hz986 => ?_)
  have ez986 : z986.toInt = p943.toInt + 1 := by rw [gI_add hz986 bp943' (gBl (show Int32.toInt 1 = 1 by decide)) (by decide) (by decide), show Int32.toInt 1 = 1 from by decide]
  have bz986 : gB z986 1 1 := gB_add (gI_add hz986 bp943' (gBl (show Int32.toInt 1 = 1 by decide)) (by decide) (by decide)) bp943' (gBl (show Int32.toInt 1 = 1 by decide)) (by decide) (by decide)
  refine Gp_put 2 hm972 he983 dr_cJx4a65c_add_72be8_19 (gk_Jx4a65c D I) (Nat.le_of_ble_eq_true rfl) wr_7_18 rfl rfl rfl (Nat.le_of_ble_eq_true rfl) (fun F987 e988 n989 => ?_)
  have he990 : F987 q942 = .inr (17, [.ref qo946, .ref qo947, .int p948, .int p949]) := (n989 q942 (rn_oo he982 he983 (by decide))).trans he982
  have he991 : F987 q961 = .inl (I (.object "java/lang/Object"), n962, .inr (.inr (.inr (.inr f981)))) := (n989 q961 (fun h => hq974 (h ▸ hmq941))).trans he984
  have he992 : F987 q941 = .inr (4, [.int p944, .ref q961, .int z986]) := e988
  have hfr993 : rFr [q941] P939 F940 F987 := rFr_put' List.mem_cons_self hfr985 n989
  exact G_vretA dr_cJx4a65c_add_72be8_22 rfl (Nat.le_of_ble_eq_true rfl) (Nat.le_of_ble_eq_true rfl) ⟨P964, F987, z986, q961, n962, f981, rfl, rfl, hsb975, hfr993, he990, he992, he991, hm970, hq974, (Nat.le_of_ble_eq_true rfl), (Nat.le_of_ble_eq_true rfl), bz986, (by omega), (rI_add (f := fun _ => none) (m := 0) (fun _ _ => rfl) hf981 (by omega) (by omega)).2, (rX_none (rSrcX_up hf981 rSrc_none)), (by omega)⟩
abbrev ky_931_ArrayList_add : gKey := (cJx4a65c_add_9ea2d, 2, "java/util/ArrayList", (some FieldType.boolean), [], "add", fun _ _ => True)
def pp_931_ArrayList_add (D : va_G) (I : FieldType → ClassId) (P920 : List Nat) (F921 : Nat → va_E) (q922 : Nat) (q923 : Nat) (p924 : Int32) (p925 : Int32) (qo926 : Nat) (qo927 : Nat) (p928 : Int32) (p929 : Int32) : Option Value → va_W → Nat → Nat → Prop := fun r w dc ds => ∃ (P1032 : List Nat) (F1033 : Nat → va_E) (o1027 : Int32) (o1028 : Int32) (q1029 : Nat) (n1030 : Nat) (f1031 : Nat → Option Nat), r = some (.int 1) ∧ w = va_pl P1032 F1033 ∧ rSub P920 P1032 ∧ rFr [q922] P920 F921 F1033 ∧ F1033 q923 = .inr (17, [.ref qo926, .ref qo927, .int p928, .int p929]) ∧ F1033 q922 = .inr (4, [.int o1027, .ref q1029, .int o1028]) ∧ F1033 q1029 = .inl (I (.object "java/lang/Object"), n1030, .inr (.inr (.inr (.inr f1031)))) ∧ q1029 ∈ P1032 ∧ q1029 ∉ P920 ∧ dc ≤ 1 ∧ ds ≤ 10 ∧ gB o1028 1 1 ∧ o1028.toInt = p925.toInt + 1 ∧ f1031 p925.toInt.toNat = some q923 ∧ (∀ j w, f1031 j = some w → w = q923) ∧ (n1030 : Int) = 10
set_option maxRecDepth 100000 in
set_option maxHeartbeats 4000000 in
theorem cp_931_ArrayList_add (l : Launch) (hl0 : l.stackTraces = false) (D : va_G) (I : FieldType → ClassId) (P920 : List Nat) (F921 : Nat → va_E) (q922 : Nat) (q923 : Nat) (p924 : Int32) (p925 : Int32) (qo926 : Nat) (qo927 : Nat) (p928 : Int32) (p929 : Int32) (hmq922 : q922 ∈ P920) (hmq923 : q923 ∈ P920) (heq922 : F921 q922 = .inr (4, [.int p924, .ref (D.2 1002 1), .int p925])) (heq923 : F921 q923 = .inr (17, [.ref qo926, .ref qo927, .int p928, .int p929])) (bp925 : gB p925 0 16777216) (bp928 : gB p928 0 39) (bp929 : gB p929 0 39) (x930 : p925.toInt = 0) : CtA (gV D I) l yJx4a65c_add_9ea2d cJx4a65c_add_9ea2d 2 (some FieldType.boolean) 4 80 1 10 [.ref q922, .ref q923] (va_pl P920 F921) (pp_931_ArrayList_add D I P920 F921 q922 q923 p924 p925 qo926 qo927 p928 p929) gNA := by
  refine CtA_ofF hl0 (by decide +kernel) (Nat.le_of_ble_eq_true rfl) ?_
  have bp924 := gB_any p924
  refine G_aload_n 0 dr_cJx4a65c_add_9ea2d_0 rfl ?_
  refine G_dup dr_cJx4a65c_add_9ea2d_1 rfl ?_
  refine Gp_getS 0 hmq922 heq922 dr_cJx4a65c_add_9ea2d_2 (gk_Jx4a65c D I) (Nat.le_of_ble_eq_true rfl) wr_7_20 wr_7_21 rfl ?_
  refine G_iconst 1 dr_cJx4a65c_add_9ea2d_5 (by decide +kernel) ?_
  refine G_iadd dr_cJx4a65c_add_9ea2d_6 (G_nam fun z932 hz932 => ?_)
  have bz932 : gB z932 (-2147483648) 2147483647 := gB_any z932
  refine Gp_putS 0 hmq922 heq922 dr_cJx4a65c_add_9ea2d_7 (gk_Jx4a65c D I) (Nat.le_of_ble_eq_true rfl) wr_7_20 wr_7_21 rfl rfl rfl (Nat.le_of_ble_eq_true rfl) (fun F933 e934 n935 => ?_)
  have he936 : F933 q923 = .inr (17, [.ref qo926, .ref qo927, .int p928, .int p929]) := (n935 q923 (rn_oo heq923 heq922 (by decide))).trans heq923
  have he937 : F933 q922 = .inr (4, [.int z932, .ref (D.2 1002 1), .int p925]) := e934
  have hfr938 : rFr [q922] P920 F921 F933 := rFr_put (rFr_rf (W := []) (P := P920) (F := F921)) n935
  refine G_aload_n 0 dr_cJx4a65c_add_9ea2d_10 rfl ?_
  refine G_aload_n 1 dr_cJx4a65c_add_9ea2d_11 rfl ?_
  refine G_aload_n 0 dr_cJx4a65c_add_9ea2d_12 rfl ?_
  refine Gp_get 1 hmq922 he937 dr_cJx4a65c_add_9ea2d_13 (gk_Jx4a65c D I) (Nat.le_of_ble_eq_true rfl) wr_7_17 rfl ?_
  refine G_aload_n 0 dr_cJx4a65c_add_9ea2d_16 rfl ?_
  refine Gp_get 2 hmq922 he937 dr_cJx4a65c_add_9ea2d_17 (gk_Jx4a65c D I) (Nat.le_of_ble_eq_true rfl) wr_7_18 rfl ?_
  refine Gw_callV (As := [.ref q923, .ref (D.2 1002 1), .int p925]) (gV_ok D I) (cp_952_ArrayList_add l hl0 D I P920 F933 q922 q923 p925 z932 p925 qo926 qo927 p928 p929 hmq922 hmq923 he937 he936 bp925 bp925 bp928 bp929 (by omega) (by omega)) dr_cJx4a65c_add_9ea2d_20 ⟨wr_10_7, wr_1_18, wr_10_10, by decide, rfl, (Nat.le_of_ble_eq_true rfl), (Nat.le_of_ble_eq_true rfl)⟩ wr_10_9 wr_p_85 hmq922 he937 rfl (show 0 + 1 ≤ 1 by first | omega | decide) (show 0 + 10 ≤ 10 by first | omega | decide) (Nat.le_of_ble_eq_true rfl) (fun r1003 w1004 dc1000 ds1001 hp1002 => ?_) (fun _ _ _ _ _ z => z.elim)
  obtain ⟨P1013, F1014, o1005, q1006, n1007, f1008, rfl, rfl, hsb1015, hfr1016, he1017, he1018, he1019, hm1020, hq1021, hdc, hds, bo1005, x1009, x1010, x1011, x1012⟩ := hp1002
  have hm1022 : q922 ∈ P1013 := hsb1015 q922 hmq922
  have hm1023 : q923 ∈ P1013 := hsb1015 q923 hmq923
  have hq1024 : q1006 ∉ P920 := fun z => hq1021 ((rSub_rf (P := P920)) q1006 z)
  have hsb1025 : rSub P920 P1013 := rSub_tr (rSub_rf (P := P920)) hsb1015
  have hfr1026 : rFr [q922] P920 F921 F1014 := rFr_call (rSub_rf (P := P920)) hfr938 hfr1016 (fun b hb hn => ⟨(nm_c (fun e => hn (e ▸ List.mem_cons_self)) nm_n), (nm_c (fun e => hn (e ▸ List.mem_cons_self)) nm_n)⟩)
  change G _ _ _ _ _ _ _ _ _ _ _
  refine G_widen (cs' := 1) (sl' := 10) (by omega) (by omega) ?_
  refine G_iconst 1 dr_cJx4a65c_add_9ea2d_23 (by decide +kernel) ?_
  exact G_zretA FieldType.boolean dr_cJx4a65c_add_9ea2d_24 rfl rfl (Nat.le_of_ble_eq_true rfl) (Nat.le_of_ble_eq_true rfl) ⟨P1013, F1014, z932, o1005, q1006, n1007, f1008, rfl, rfl, hsb1025, hfr1026, he1017, he1018, he1019, hm1020, hq1024, (Nat.le_of_ble_eq_true rfl), (Nat.le_of_ble_eq_true rfl), bo1005, (by omega), (by assumption), (by assumption), (by omega)⟩
abbrev ky_1067_ArrayList_rangeCheckForAdd : gKey := (cJx4a65c_rangeCheckForAdd_d00df, 2, "java/util/ArrayList", none, [], "rangeCheckForAdd", fun _ _ => True)
def pp_1067_ArrayList_rangeCheckForAdd (D : va_G) (I : FieldType → ClassId) (P1056 : List Nat) (F1057 : Nat → va_E) (q1058 : Nat) (q1059 : Nat) (p1060 : Int32) (p1061 : Int32) (p1062 : Int32) (f1063 : Nat → Option Nat) (n1064 : Nat) : Option Value → va_W → Nat → Nat → Prop := fun r w dc ds => r = none ∧ w = va_pl P1056 F1057 ∧ dc ≤ 0 ∧ ds ≤ 0
set_option maxRecDepth 100000 in
set_option maxHeartbeats 4000000 in
theorem cp_1067_ArrayList_rangeCheckForAdd (l : Launch) (hl0 : l.stackTraces = false) (D : va_G) (I : FieldType → ClassId) (P1056 : List Nat) (F1057 : Nat → va_E) (q1058 : Nat) (q1059 : Nat) (p1060 : Int32) (p1061 : Int32) (p1062 : Int32) (f1063 : Nat → Option Nat) (n1064 : Nat) (hmq1058 : q1058 ∈ P1056) (hmq1059 : q1059 ∈ P1056) (heq1058 : F1057 q1058 = .inr (4, [.int p1061, .ref q1059, .int p1062])) (heq1059 : F1057 q1059 = .inl (I (.object "java/lang/Object"), n1064, .inr (.inr (.inr (.inr f1063))))) (bp1060 : gB p1060 0 16777216) (bp1062 : gB p1062 0 16777216) (x1065 : p1060.toInt ≤ p1062.toInt) (x1066 : ((n1064 : Int) ≤ 16777216)) : CtA (gV D I) l yJx4a65c_rangeCheckForAdd_d00df cJx4a65c_rangeCheckForAdd_d00df 2 none 0 0 0 0 [.ref q1058, .int p1060] (va_pl P1056 F1057) (pp_1067_ArrayList_rangeCheckForAdd D I P1056 F1057 q1058 q1059 p1060 p1061 p1062 f1063 n1064) gNA := by
  refine CtA_ofF hl0 (by decide +kernel) (Nat.le_of_ble_eq_true rfl) ?_
  have bp1061 := gB_any p1061
  refine G_iload_n 1 dr_cJx4a65c_rangeCheckForAdd_d00df_0 rfl ?_
  refine G_aload_n 0 dr_cJx4a65c_rangeCheckForAdd_d00df_1 rfl ?_
  refine Gp_get 2 hmq1058 heq1058 dr_cJx4a65c_rangeCheckForAdd_d00df_2 (gk_Jx4a65c D I) (Nat.le_of_ble_eq_true rfl) wr_7_18 rfl ?_
  refine G_icmp_gt 12 dr_cJx4a65c_rangeCheckForAdd_d00df_5 (by decide +kernel) (fun hc => absurd (show False by have := gC_lt hc; omega) not_false) (fun hc1068 => ?_)
  have r1070 : p1060.toInt ≤ p1062.toInt := gC_nlt hc1068
  refine G_iload_n 1 dr_cJx4a65c_rangeCheckForAdd_d00df_8 rfl ?_
  refine G_if_ge 25 dr_cJx4a65c_rangeCheckForAdd_d00df_9 (by decide +kernel) (fun _ => ?_) (fun hc => absurd (show False by have := gj_nleL hc (show Int32.toInt 0 = 0 by decide); omega) not_false)
  exact G_vretA dr_cJx4a65c_rangeCheckForAdd_d00df_25 rfl (Nat.le_of_ble_eq_true rfl) (Nat.le_of_ble_eq_true rfl) ⟨rfl, rfl, (Nat.le_of_ble_eq_true rfl), (Nat.le_of_ble_eq_true rfl)⟩
abbrev ky_1055_ArrayList_add : gKey := (cJx4a65c_add_7a177, 5, "java/util/ArrayList", none, [], "add", fun _ _ => True)
def pp_1055_ArrayList_add (D : va_G) (I : FieldType → ClassId) (P1034 : List Nat) (F1035 : Nat → va_E) (q1036 : Nat) (q1037 : Nat) (q1038 : Nat) (p1039 : Int32) (p1040 : Int32) (p1041 : Int32) (p1042 : Int32) (p1043 : Int32) (p1044 : Int32) (p1045 : Int32) (p1046 : Int32) (p1047 : Int32) (p1048 : Int32) (f1049 : Nat → Option Nat) (n1050 : Nat) : Option Value → va_W → Nat → Nat → Prop := fun r w dc ds => ∃ (F1118 : Nat → va_E) (o1114 : Int32) (o1115 : Int32) (f1116 : Nat → Option Nat), r = none ∧ w = va_pl P1034 F1118 ∧ rFr [q1038, q1036] P1034 F1035 F1118 ∧ F1118 q1036 = .inr (4, [.int o1114, .ref q1038, .int o1115]) ∧ F1118 q1037 = .inr (20, [.int p1042, .int p1043, .int p1044, .int p1045, .int p1046, .int p1047, .int p1048]) ∧ F1118 q1038 = .inl (I (.object "java/lang/Object"), n1050, .inr (.inr (.inr (.inr f1116)))) ∧ dc ≤ 0 ∧ ds ≤ 0 ∧ gB o1115 1 16777217 ∧ o1115.toInt = p1041.toInt + 1 ∧ ((∀ j : Nat, (j : Int) < p1039.toInt → f1116 j = f1049 j) ∧ f1116 p1039.toInt.toNat = some q1037 ∧ ∀ j : Nat, p1039.toInt ≤ (j : Int) → (j : Int) < p1041.toInt → f1116 (j + 1) = f1049 j) ∧ rSrcX f1116 f1049 q1037
set_option maxRecDepth 100000 in
set_option maxHeartbeats 4000000 in
theorem cp_1055_ArrayList_add (l : Launch) (hl0 : l.stackTraces = false) (D : va_G) (I : FieldType → ClassId) (P1034 : List Nat) (F1035 : Nat → va_E) (q1036 : Nat) (q1037 : Nat) (q1038 : Nat) (p1039 : Int32) (p1040 : Int32) (p1041 : Int32) (p1042 : Int32) (p1043 : Int32) (p1044 : Int32) (p1045 : Int32) (p1046 : Int32) (p1047 : Int32) (p1048 : Int32) (f1049 : Nat → Option Nat) (n1050 : Nat) (hmq1036 : q1036 ∈ P1034) (hmq1037 : q1037 ∈ P1034) (hmq1038 : q1038 ∈ P1034) (heq1036 : F1035 q1036 = .inr (4, [.int p1040, .ref q1038, .int p1041])) (heq1037 : F1035 q1037 = .inr (20, [.int p1042, .int p1043, .int p1044, .int p1045, .int p1046, .int p1047, .int p1048])) (heq1038 : F1035 q1038 = .inl (I (.object "java/lang/Object"), n1050, .inr (.inr (.inr (.inr f1049))))) (bp1039 : gB p1039 0 16777216) (bp1041 : gB p1041 0 16777216) (bp1042 : gB p1042 0 32) (bp1043 : gB p1043 0 1999) (bp1046 : gB p1046 0 1999) (bp1047 : gB p1047 0 1) (bp1048 : gB p1048 0 1) (x1051 : p1041.toInt < (n1050 : Int)) (x1052 : p1039.toInt ≤ p1041.toInt) (x1053 : rEl P1034 F1035 f1049) (x1054 : ((n1050 : Int) ≤ 16777216)) : CtA (gV D I) l yJx4a65c_add_7a177 cJx4a65c_add_7a177 5 none 1 21 0 0 [.ref q1036, .int p1039, .ref q1037] (va_pl P1034 F1035) (pp_1055_ArrayList_add D I P1034 F1035 q1036 q1037 q1038 p1039 p1040 p1041 p1042 p1043 p1044 p1045 p1046 p1047 p1048 f1049 n1050) gNA := by
  refine CtA_ofF hl0 (by decide +kernel) (Nat.le_of_ble_eq_true rfl) ?_
  have bp1040 := gB_any p1040
  have bp1044 := gB_any p1044
  have bp1045 := gB_any p1045
  refine G_aload_n 0 dr_cJx4a65c_add_7a177_0 rfl ?_
  refine G_iload_n 1 dr_cJx4a65c_add_7a177_1 rfl ?_
  refine Gw_callV (As := [.int p1039]) (gV_ok D I) (cp_1067_ArrayList_rangeCheckForAdd l hl0 D I P1034 F1035 q1036 q1038 p1039 p1040 p1041 f1049 n1050 hmq1036 hmq1038 heq1036 heq1038 bp1039 bp1041 (by omega) (by omega)) dr_cJx4a65c_add_7a177_2 ⟨wr_10_211, wr_1_18, wr_10_214, by decide, rfl, (Nat.le_of_ble_eq_true rfl), (Nat.le_of_ble_eq_true rfl)⟩ wr_10_213 wr_p_97 hmq1036 heq1036 rfl (show 0 + 0 ≤ 0 by first | omega | decide) (show 0 + 0 ≤ 0 by first | omega | decide) (Nat.le_of_ble_eq_true rfl) (fun r1074 w1075 dc1071 ds1072 hp1073 => ?_) (fun _ _ _ _ _ z => z.elim)
  obtain ⟨rfl, rfl, hdc, hds⟩ := hp1073
  change G _ _ _ _ _ _ _ _ _ _ _
  refine G_widen (cs' := 0) (sl' := 0) (by omega) (by omega) ?_
  refine G_aload_n 0 dr_cJx4a65c_add_7a177_5 rfl ?_
  refine G_dup dr_cJx4a65c_add_7a177_6 rfl ?_
  refine Gp_getS 0 hmq1036 heq1036 dr_cJx4a65c_add_7a177_7 (gk_Jx4a65c D I) (Nat.le_of_ble_eq_true rfl) wr_7_20 wr_7_21 rfl ?_
  refine G_iconst 1 dr_cJx4a65c_add_7a177_10 (by decide +kernel) ?_
  refine G_iadd dr_cJx4a65c_add_7a177_11 (G_nam fun z1076 hz1076 => ?_)
  have bz1076 : gB z1076 (-2147483648) 2147483647 := gB_any z1076
  refine Gp_putS 0 hmq1036 heq1036 dr_cJx4a65c_add_7a177_12 (gk_Jx4a65c D I) (Nat.le_of_ble_eq_true rfl) wr_7_20 wr_7_21 rfl rfl rfl (Nat.le_of_ble_eq_true rfl) (fun F1077 e1078 n1079 => ?_)
  have he1080 : F1077 q1037 = .inr (20, [.int p1042, .int p1043, .int p1044, .int p1045, .int p1046, .int p1047, .int p1048]) := (n1079 q1037 (rn_oo heq1037 heq1036 (by decide))).trans heq1037
  have he1081 : F1077 q1038 = .inl (I (.object "java/lang/Object"), n1050, .inr (.inr (.inr (.inr f1049)))) := (n1079 q1038 (rn_ao heq1038 heq1036)).trans heq1038
  have he1082 : F1077 q1036 = .inr (4, [.int z1076, .ref q1038, .int p1041]) := e1078
  have hfr1083 : rFr [q1036] P1034 F1035 F1077 := rFr_put (rFr_rf (W := []) (P := P1034) (F := F1035)) n1079
  refine G_aload_n 0 dr_cJx4a65c_add_7a177_15 rfl ?_
  refine Gp_get 2 hmq1036 he1082 dr_cJx4a65c_add_7a177_16 (gk_Jx4a65c D I) (Nat.le_of_ble_eq_true rfl) wr_7_18 rfl ?_
  refine G_dup dr_cJx4a65c_add_7a177_19 rfl ?_
  refine G_istore_n (L' := [(3, .int p1041), (0, .ref q1036), (1, .int p1039), (2, .ref q1037)]) dr_cJx4a65c_add_7a177_20 (Nat.le_of_ble_eq_true rfl) rfl ?_
  refine G_aload_n 1 dr_cJx4a65c_add_7a177_21 rfl ?_
  refine Gp_get 1 hmq1036 he1082 dr_cJx4a65c_add_7a177_22 (gk_Jx4a65c D I) (Nat.le_of_ble_eq_true rfl) wr_7_17 rfl ?_
  refine G_dup dr_cJx4a65c_add_7a177_25 rfl ?_
  refine G_astore (L' := [(4, .ref q1038), (3, .int p1041), (0, .ref q1036), (1, .int p1039), (2, .ref q1037)]) dr_cJx4a65c_add_7a177_26 (Nat.le_of_ble_eq_true rfl) rfl ?_
  refine Gp_alen (Int32.ofNat n1050) 4 hmq1038 he1081 dr_cJx4a65c_add_7a177_28 rfl rfl (G_nam fun z1084 hz1084 => ?_)
  have ez1084 : z1084.toInt = (n1050 : Nat) := gI_ofM hz1084 (by omega)
  have bz1084 : gB z1084 0 16777216 := ⟨by omega, by omega⟩
  refine G_icmp_ne 38 dr_cJx4a65c_add_7a177_29 (by decide +kernel) (fun hc1085 => ?_) (fun hc => absurd (show False by have := gC_eq hc; omega) not_false)
  have r1087 : p1041.toInt ≠ z1084.toInt := gC_ne hc1085
  refine G_aload 0 dr_cJx4a65c_add_7a177_38 rfl ?_
  refine G_iload_n 3 dr_cJx4a65c_add_7a177_40 rfl ?_
  refine G_aload 0 dr_cJx4a65c_add_7a177_41 rfl ?_
  refine G_iload_n 3 dr_cJx4a65c_add_7a177_43 rfl ?_
  refine G_iconst 1 dr_cJx4a65c_add_7a177_44 (by decide +kernel) ?_
  refine G_iadd dr_cJx4a65c_add_7a177_45 (G_nam fun z1088 hz1088 => ?_)
  have ez1088 : z1088.toInt = p1039.toInt + 1 := by rw [gI_add hz1088 bp1039 (gBl (show Int32.toInt 1 = 1 by decide)) (by decide) (by decide), show Int32.toInt 1 = 1 from by decide]
  have bz1088 : gB z1088 1 16777217 := gB_add (gI_add hz1088 bp1039 (gBl (show Int32.toInt 1 = 1 by decide)) (by decide) (by decide)) bp1039 (gBl (show Int32.toInt 1 = 1 by decide)) (by decide) (by decide)
  refine G_iload_n 1 dr_cJx4a65c_add_7a177_46 rfl ?_
  refine G_iload_n 3 dr_cJx4a65c_add_7a177_47 rfl ?_
  refine G_isub dr_cJx4a65c_add_7a177_48 (G_nam fun z1089 hz1089 => ?_)
  have ez1089 : z1089.toInt = p1041.toInt - p1039.toInt := by rw [gI_sub hz1089 bp1041 bp1039 (by decide) (by decide)]
  have bz1089 : gB z1089 (-16777216) 16777216 := gB_sub (gI_sub hz1089 bp1041 bp1039 (by decide) (by decide)) bp1041 bp1039 (by decide) (by decide)
  refine Gp_copyq 4 hmq1038 hmq1038 he1081 he1081 dr_cJx4a65c_add_7a177_49 wr_10_228 wr_5_113 wr_5_112 wr_1_34 rfl (by omega) (by omega) (by omega) (by omega) (by omega) (fun j _ w hw => rEl_ob (rEl_frG (rEl_src x1053 rSrc_rf) (rSub_rf (P := P1034)) hfr1083 (rNg_c (rNg_o heq1036 (by decide) (by decide)) rNg_n)) hw) (Nat.le_of_ble_eq_true rfl) (Nat.le_of_ble_eq_true rfl) (fun F1090 e1091 n1092 => ?_)
  obtain ⟨f1093, hf1093⟩ : ∃ z, z = va_cpy f1049 f1049 p1039.toNatClampNeg z1088.toNatClampNeg z1089.toNatClampNeg := ⟨_, rfl⟩
  rw [← hf1093] at e1091
  have he1094 : F1090 q1036 = .inr (4, [.int z1076, .ref q1038, .int p1041]) := (n1092 q1036 (rn_oa he1082 he1081)).trans he1082
  have he1095 : F1090 q1037 = .inr (20, [.int p1042, .int p1043, .int p1044, .int p1045, .int p1046, .int p1047, .int p1048]) := (n1092 q1037 (rn_oa he1080 he1081)).trans he1080
  have he1096 : F1090 q1038 = .inl (I (.object "java/lang/Object"), n1050, .inr (.inr (.inr (.inr f1093)))) := e1091
  have hfr1097 : rFr [q1038, q1036] P1034 F1035 F1090 := rFr_put hfr1083 n1092
  refine G_aload 0 dr_cJx4a65c_add_7a177_52 rfl ?_
  refine G_iload_n 3 dr_cJx4a65c_add_7a177_54 rfl ?_
  refine G_aload_n 4 dr_cJx4a65c_add_7a177_55 rfl ?_
  refine Gp_aast 4 hmq1038 he1096 dr_cJx4a65c_add_7a177_56 rfl ⟨hmq1037, _, _, _, _, _, he1095, rfl, gr_cast 3 rfl⟩ (gB_inr (by omega) (by omega)) (fun F1098 e1099 n1100 => ?_)
  obtain ⟨f1101, hf1101⟩ : ∃ z, z = va_up f1093 p1039.toNatClampNeg (some q1037) := ⟨_, rfl⟩
  rw [← hf1101] at e1099
  have he1102 : F1098 q1036 = .inr (4, [.int z1076, .ref q1038, .int p1041]) := (n1100 q1036 (rn_oa he1094 he1096)).trans he1094
  have he1103 : F1098 q1037 = .inr (20, [.int p1042, .int p1043, .int p1044, .int p1045, .int p1046, .int p1047, .int p1048]) := (n1100 q1037 (rn_oa he1095 he1096)).trans he1095
  have he1104 : F1098 q1038 = .inl (I (.object "java/lang/Object"), n1050, .inr (.inr (.inr (.inr f1101)))) := e1099
  have hfr1105 : rFr [q1038, q1036] P1034 F1035 F1098 := rFr_put' List.mem_cons_self hfr1097 n1100
  refine G_aload_n 2 dr_cJx4a65c_add_7a177_57 rfl ?_
  refine G_iload_n 1 dr_cJx4a65c_add_7a177_58 rfl ?_
  refine G_iconst 1 dr_cJx4a65c_add_7a177_59 (by decide +kernel) ?_
  refine G_iadd dr_cJx4a65c_add_7a177_60 (G_nam fun z1106 hz1106 => ?_)
  have ez1106 : z1106.toInt = p1041.toInt + 1 := by rw [gI_add hz1106 bp1041 (gBl (show Int32.toInt 1 = 1 by decide)) (by decide) (by decide), show Int32.toInt 1 = 1 from by decide]
  have bz1106 : gB z1106 1 16777217 := gB_add (gI_add hz1106 bp1041 (gBl (show Int32.toInt 1 = 1 by decide)) (by decide) (by decide)) bp1041 (gBl (show Int32.toInt 1 = 1 by decide)) (by decide) (by decide)
  refine Gp_put 2 hmq1036 he1102 dr_cJx4a65c_add_7a177_61 (gk_Jx4a65c D I) (Nat.le_of_ble_eq_true rfl) wr_7_18 rfl rfl rfl (Nat.le_of_ble_eq_true rfl) (fun F1107 e1108 n1109 => ?_)
  have he1110 : F1107 q1037 = .inr (20, [.int p1042, .int p1043, .int p1044, .int p1045, .int p1046, .int p1047, .int p1048]) := (n1109 q1037 (rn_oo he1103 he1102 (by decide))).trans he1103
  have he1111 : F1107 q1038 = .inl (I (.object "java/lang/Object"), n1050, .inr (.inr (.inr (.inr f1101)))) := (n1109 q1038 (rn_ao he1104 he1102)).trans he1104
  have he1112 : F1107 q1036 = .inr (4, [.int z1076, .ref q1038, .int z1106]) := e1108
  have hfr1113 : rFr [q1038, q1036] P1034 F1035 F1107 := rFr_put' (List.mem_cons_of_mem _ List.mem_cons_self) hfr1105 n1109
  exact G_vretA dr_cJx4a65c_add_7a177_64 rfl (Nat.le_of_ble_eq_true rfl) (Nat.le_of_ble_eq_true rfl) ⟨F1107, z1076, z1106, f1101, rfl, rfl, hfr1113, he1112, he1110, he1111, (Nat.le_of_ble_eq_true rfl), (Nat.le_of_ble_eq_true rfl), bz1106, (by omega), (rI_ins (m := _) (fun _ _ => rfl) hf1093 hf1101 (by omega) (by omega) (by omega) (by omega)), (rSrcX_up hf1101 (rSrc_cpy hf1093 rSrc_rf rSrc_rf))⟩
