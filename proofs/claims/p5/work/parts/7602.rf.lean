theorem dr_cJx4a65c_grow_92f84_10 : decode cJx4a65c_grow_92f84 10 = .ok (.aload_n 0, 1) := by decide +kernel
theorem dr_cJx4a65c_grow_92f84_11 : decode cJx4a65c_grow_92f84 11 = .ok (.getfield 9, 3) := by decide +kernel
theorem dr_cJx4a65c_grow_92f84_14 : decode cJx4a65c_grow_92f84 14 = .ok (.getstatic 39, 3) := by decide +kernel
theorem wr_7_15 : (Jvm.Cond.fieldLink "java/util/ArrayList" (39 : Nat) "java/util/ArrayList" "DEFAULTCAPACITY_EMPTY_ELEMENTDATA" "[Ljava/lang/Object;") ∈ gw := gw_7 15 rfl rfl
theorem dr_cJx4a65c_grow_92f84_17 : decode cJx4a65c_grow_92f84 17 = .ok (.if_acmp .eq 28, 3) := by decide +kernel
theorem dr_cJx4a65c_grow_92f84_45 : decode cJx4a65c_grow_92f84 45 = .ok (.aload_n 0, 1) := by decide +kernel
theorem dr_cJx4a65c_grow_92f84_46 : decode cJx4a65c_grow_92f84 46 = .ok (.bipush 10, 2) := by decide +kernel
theorem dr_cJx4a65c_grow_92f84_48 : decode cJx4a65c_grow_92f84 48 = .ok (.iload_n 1, 1) := by decide +kernel
theorem dr_cJx4a65c_grow_92f84_49 : decode cJx4a65c_grow_92f84 49 = .ok (.invokestatic 79, 3) := by decide +kernel
theorem wr_10_56 : (Jvm.Cond.methodLink "java/util/ArrayList" (79 : Nat) ({ cls := "java/lang/Math", name := "max", desc := "(II)I" } : Jvm.MethodName)) ∈ gw := gw_10 56 rfl rfl
theorem dr_cJx4a65c_grow_92f84_52 : decode cJx4a65c_grow_92f84 52 = .ok (.anewarray 7, 3) := by decide +kernel
theorem wr_10_57 : (Jvm.Cond.classLink "java/util/ArrayList" (7 : Nat) "java/lang/Object") ∈ gw := gw_10 57 rfl rfl
theorem dr_cJx4a65c_grow_92f84_55 : decode cJx4a65c_grow_92f84 55 = .ok (.dup_x1, 1) := by decide +kernel
theorem dr_cJx4a65c_grow_92f84_56 : decode cJx4a65c_grow_92f84 56 = .ok (.putfield 9, 3) := by decide +kernel
theorem dr_cJx4a65c_grow_92f84_59 : decode cJx4a65c_grow_92f84 59 = .ok (.areturn, 1) := by decide +kernel
theorem dr_cJx4a65c_rangeCheckForAdd_d00df_0 : decode cJx4a65c_rangeCheckForAdd_d00df 0 = .ok (.iload_n 1, 1) := by decide +kernel
theorem dr_cJx4a65c_rangeCheckForAdd_d00df_1 : decode cJx4a65c_rangeCheckForAdd_d00df 1 = .ok (.aload_n 0, 1) := by decide +kernel
theorem dr_cJx4a65c_rangeCheckForAdd_d00df_2 : decode cJx4a65c_rangeCheckForAdd_d00df 2 = .ok (.getfield 48, 3) := by decide +kernel
theorem dr_cJx4a65c_rangeCheckForAdd_d00df_5 : decode cJx4a65c_rangeCheckForAdd_d00df 5 = .ok (.if_icmp .gt 7, 3) := by decide +kernel
theorem dr_cJx4a65c_rangeCheckForAdd_d00df_8 : decode cJx4a65c_rangeCheckForAdd_d00df 8 = .ok (.iload_n 1, 1) := by decide +kernel
theorem dr_cJx4a65c_rangeCheckForAdd_d00df_9 : decode cJx4a65c_rangeCheckForAdd_d00df 9 = .ok (.ifCond .ge 16, 3) := by decide +kernel
theorem dr_cJx4a65c_rangeCheckForAdd_d00df_25 : decode cJx4a65c_rangeCheckForAdd_d00df 25 = .ok (.return_, 1) := by decide +kernel
theorem dr_cJx4a65c_add_7a177_0 : decode cJx4a65c_add_7a177 0 = .ok (.aload_n 0, 1) := by decide +kernel
theorem dr_cJx4a65c_add_7a177_1 : decode cJx4a65c_add_7a177 1 = .ok (.iload_n 1, 1) := by decide +kernel
theorem dr_cJx4a65c_add_7a177_2 : decode cJx4a65c_add_7a177 2 = .ok (.invokevirtual 135, 3) := by decide +kernel
theorem wr_10_207 : (Jvm.Cond.methodLink "java/util/ArrayList" (135 : Nat) ({ cls := "java/util/ArrayList", name := "rangeCheckForAdd", desc := "(I)V" } : Jvm.MethodName)) ∈ gw := gw_10 207 rfl rfl
theorem wr_10_210 : (Jvm.Cond.code ({ cls := "java/util/ArrayList", name := "rangeCheckForAdd", desc := "(I)V" } : Jvm.MethodName) prog_43_method_45_code (2 : Nat) (Option.none : Option Jvm.ClassFile.FieldType)) ∈ gw := gw_10 210 rfl rfl
theorem wr_10_209 : (Jvm.Cond.instanceMethod ({ cls := "java/util/ArrayList", name := "rangeCheckForAdd", desc := "(I)V" } : Jvm.MethodName)) ∈ gw := gw_10 209 rfl rfl
theorem wr_p_97 : Cond.selects "java/util/ArrayList" ⟨"java/util/ArrayList", "rangeCheckForAdd", "(I)V"⟩ ⟨"java/util/ArrayList", "rangeCheckForAdd", "(I)V"⟩ ∈ gw := gw_p _ 97 rfl rfl rfl
theorem dr_cJx4a65c_add_7a177_5 : decode cJx4a65c_add_7a177 5 = .ok (.aload_n 0, 1) := by decide +kernel
theorem dr_cJx4a65c_add_7a177_6 : decode cJx4a65c_add_7a177 6 = .ok (.dup, 1) := by decide +kernel
theorem dr_cJx4a65c_add_7a177_7 : decode cJx4a65c_add_7a177 7 = .ok (.getfield 63, 3) := by decide +kernel
theorem dr_cJx4a65c_add_7a177_10 : decode cJx4a65c_add_7a177 10 = .ok (.iconst 1, 1) := by decide +kernel
theorem dr_cJx4a65c_add_7a177_11 : decode cJx4a65c_add_7a177 11 = .ok (.iadd, 1) := by decide +kernel
theorem dr_cJx4a65c_add_7a177_12 : decode cJx4a65c_add_7a177 12 = .ok (.putfield 63, 3) := by decide +kernel
theorem dr_cJx4a65c_add_7a177_15 : decode cJx4a65c_add_7a177 15 = .ok (.aload_n 0, 1) := by decide +kernel
theorem dr_cJx4a65c_add_7a177_16 : decode cJx4a65c_add_7a177 16 = .ok (.getfield 48, 3) := by decide +kernel
theorem dr_cJx4a65c_add_7a177_19 : decode cJx4a65c_add_7a177 19 = .ok (.dup, 1) := by decide +kernel
theorem dr_cJx4a65c_add_7a177_20 : decode cJx4a65c_add_7a177 20 = .ok (.istore_n 3, 1) := by decide +kernel
theorem dr_cJx4a65c_add_7a177_21 : decode cJx4a65c_add_7a177 21 = .ok (.aload_n 0, 1) := by decide +kernel
theorem dr_cJx4a65c_add_7a177_22 : decode cJx4a65c_add_7a177 22 = .ok (.getfield 9, 3) := by decide +kernel
theorem dr_cJx4a65c_add_7a177_25 : decode cJx4a65c_add_7a177 25 = .ok (.dup, 1) := by decide +kernel
theorem dr_cJx4a65c_add_7a177_26 : decode cJx4a65c_add_7a177 26 = .ok (.astore 4, 2) := by decide +kernel
theorem dr_cJx4a65c_add_7a177_28 : decode cJx4a65c_add_7a177 28 = .ok (.arraylength, 1) := by decide +kernel
theorem dr_cJx4a65c_add_7a177_29 : decode cJx4a65c_add_7a177 29 = .ok (.if_icmp .ne 9, 3) := by decide +kernel
theorem dr_cJx4a65c_add_7a177_38 : decode cJx4a65c_add_7a177 38 = .ok (.aload 4, 2) := by decide +kernel
theorem dr_cJx4a65c_add_7a177_40 : decode cJx4a65c_add_7a177 40 = .ok (.iload_n 1, 1) := by decide +kernel
theorem dr_cJx4a65c_add_7a177_41 : decode cJx4a65c_add_7a177 41 = .ok (.aload 4, 2) := by decide +kernel
theorem dr_cJx4a65c_add_7a177_43 : decode cJx4a65c_add_7a177 43 = .ok (.iload_n 1, 1) := by decide +kernel
theorem dr_cJx4a65c_add_7a177_44 : decode cJx4a65c_add_7a177 44 = .ok (.iconst 1, 1) := by decide +kernel
theorem dr_cJx4a65c_add_7a177_45 : decode cJx4a65c_add_7a177 45 = .ok (.iadd, 1) := by decide +kernel
theorem dr_cJx4a65c_add_7a177_46 : decode cJx4a65c_add_7a177 46 = .ok (.iload_n 3, 1) := by decide +kernel
theorem dr_cJx4a65c_add_7a177_47 : decode cJx4a65c_add_7a177 47 = .ok (.iload_n 1, 1) := by decide +kernel
theorem dr_cJx4a65c_add_7a177_48 : decode cJx4a65c_add_7a177 48 = .ok (.isub, 1) := by decide +kernel
theorem dr_cJx4a65c_add_7a177_49 : decode cJx4a65c_add_7a177 49 = .ok (.invokestatic 112, 3) := by decide +kernel
theorem wr_10_224 : (Jvm.Cond.methodLink "java/util/ArrayList" (112 : Nat) ({ cls := "java/lang/System", name := "arraycopy", desc := "(Ljava/lang/Object;ILjava/lang/Object;II)V" } : Jvm.MethodName)) ∈ gw := gw_10 224 rfl rfl
theorem dr_cJx4a65c_add_7a177_52 : decode cJx4a65c_add_7a177 52 = .ok (.aload 4, 2) := by decide +kernel
theorem dr_cJx4a65c_add_7a177_54 : decode cJx4a65c_add_7a177 54 = .ok (.iload_n 1, 1) := by decide +kernel
theorem dr_cJx4a65c_add_7a177_55 : decode cJx4a65c_add_7a177 55 = .ok (.aload_n 2, 1) := by decide +kernel
theorem dr_cJx4a65c_add_7a177_56 : decode cJx4a65c_add_7a177 56 = .ok (.aastore, 1) := by decide +kernel
theorem dr_cJx4a65c_add_7a177_57 : decode cJx4a65c_add_7a177 57 = .ok (.aload_n 0, 1) := by decide +kernel
theorem dr_cJx4a65c_add_7a177_58 : decode cJx4a65c_add_7a177 58 = .ok (.iload_n 3, 1) := by decide +kernel
theorem dr_cJx4a65c_add_7a177_59 : decode cJx4a65c_add_7a177 59 = .ok (.iconst 1, 1) := by decide +kernel
theorem dr_cJx4a65c_add_7a177_60 : decode cJx4a65c_add_7a177 60 = .ok (.iadd, 1) := by decide +kernel
theorem dr_cJx4a65c_add_7a177_61 : decode cJx4a65c_add_7a177 61 = .ok (.putfield 48, 3) := by decide +kernel
theorem dr_cJx4a65c_add_7a177_64 : decode cJx4a65c_add_7a177 64 = .ok (.return_, 1) := by decide +kernel
abbrev ky_274_ArrayList_add : gKey := (cJx4a65c_add_9ea2d, 2, "java/util/ArrayList", (some FieldType.boolean), [], "add", fun _ _ => True)
def pp_274_ArrayList_add (D : va_G) (I : FieldType → ClassId) (P253 : List Nat) (F254 : Nat → va_E) (q255 : Nat) (q256 : Nat) (q257 : Nat) (p258 : Int32) (p259 : Int32) (p260 : Int32) (p261 : Int32) (p262 : Int32) (p263 : Int32) (p264 : Int32) (p265 : Int32) (p266 : Int32) (f267 : Nat → Option Nat) (n268 : Nat) : Option Value → va_W → Nat → Nat → Prop := fun r w dc ds => ∃ (P586 : List Nat) (F587 : Nat → va_E) (o581 : Int32) (o582 : Int32) (q583 : Nat) (n584 : Nat) (f585 : Nat → Option Nat), r = some (.int 1) ∧ w = va_pl P586 F587 ∧ rSub P253 P586 ∧ rFr [q255] P253 F254 F587 ∧ F587 q256 = .inr (20, [.int p260, .int p261, .int p262, .int p263, .int p264, .int p265, .int p266]) ∧ F587 q255 = .inr (4, [.int o581, .ref q583, .int o582]) ∧ F587 q583 = .inl (I (.object "java/lang/Object"), n584, .inr (.inr (.inr (.inr f585)))) ∧ q583 ∈ P586 ∧ q583 ∉ P253 ∧ dc ≤ 1 ∧ ds ≤ n268 + n268 / 2 + 1 ∧ gB o582 1 16777217 ∧ o582.toInt = p259.toInt + 1 ∧ ((∀ j : Nat, (j : Int) < p259.toInt → f585 j = f267 j) ∧ f585 p259.toInt.toNat = some q256) ∧ rSrcX f585 f267 q256 ∧ ((n584 : Int) ≤ (n268 : Int) + (n268 : Int) / 2 + 1 ∧ (n268 : Int) + 1 ≤ (n584 : Int) ∧ (n268 : Int) + (n268 : Int) / 2 ≤ (n584 : Int))
set_option maxRecDepth 100000 in
set_option maxHeartbeats 4000000 in
theorem cp_274_ArrayList_add (l : Launch) (hl0 : l.stackTraces = false) (D : va_G) (I : FieldType → ClassId) (P253 : List Nat) (F254 : Nat → va_E) (q255 : Nat) (q256 : Nat) (q257 : Nat) (p258 : Int32) (p259 : Int32) (p260 : Int32) (p261 : Int32) (p262 : Int32) (p263 : Int32) (p264 : Int32) (p265 : Int32) (p266 : Int32) (f267 : Nat → Option Nat) (n268 : Nat) (hmq255 : q255 ∈ P253) (hmq256 : q256 ∈ P253) (hmq257 : q257 ∈ P253) (heq255 : F254 q255 = .inr (4, [.int p258, .ref q257, .int p259])) (heq256 : F254 q256 = .inr (20, [.int p260, .int p261, .int p262, .int p263, .int p264, .int p265, .int p266])) (heq257 : F254 q257 = .inl (I (.object "java/lang/Object"), n268, .inr (.inr (.inr (.inr f267))))) (bp259 : gB p259 0 16777216) (bp260 : gB p260 0 32) (bp261 : gB p261 0 1999) (bp264 : gB p264 0 1999) (bp265 : gB p265 0 1) (bp266 : gB p266 0 1) (x269 : 0 < (n268 : Int)) (x270 : (n268 : Int) ≤ 1000000) (x271 : p259.toInt = (n268 : Int)) (x272 : rEl P253 F254 f267) (x273 : ((n268 : Int) ≤ 16777216)) : CtA (gV D I) l yJx4a65c_add_9ea2d cJx4a65c_add_9ea2d 2 (some FieldType.boolean) 6 128 1 (n268 + n268 / 2 + 1) [.ref q255, .ref q256] (va_pl P253 F254) (pp_274_ArrayList_add D I P253 F254 q255 q256 q257 p258 p259 p260 p261 p262 p263 p264 p265 p266 f267 n268) gNA := by
  refine CtA_ofF hl0 (by decide +kernel) (Nat.le_of_ble_eq_true rfl) ?_
  have bp258 := gB_any p258
  have bp262 := gB_any p262
  have bp263 := gB_any p263
  refine G_aload_n 0 dr_cJx4a65c_add_9ea2d_0 rfl ?_
  refine G_dup dr_cJx4a65c_add_9ea2d_1 rfl ?_
  refine Gp_getS 0 hmq255 heq255 dr_cJx4a65c_add_9ea2d_2 (gk_Jx4a65c D I) (Nat.le_of_ble_eq_true rfl) wr_7_20 wr_7_21 rfl ?_
  refine G_iconst 1 dr_cJx4a65c_add_9ea2d_5 (by decide +kernel) ?_
  refine G_iadd dr_cJx4a65c_add_9ea2d_6 (G_nam fun z275 hz275 => ?_)
  have bz275 : gB z275 (-2147483648) 2147483647 := gB_any z275
  refine Gp_putS 0 hmq255 heq255 dr_cJx4a65c_add_9ea2d_7 (gk_Jx4a65c D I) (Nat.le_of_ble_eq_true rfl) wr_7_20 wr_7_21 rfl rfl rfl (Nat.le_of_ble_eq_true rfl) (fun F276 e277 n278 => ?_)
  have he279 : F276 q256 = .inr (20, [.int p260, .int p261, .int p262, .int p263, .int p264, .int p265, .int p266]) := (n278 q256 (rn_oo heq256 heq255 (by decide))).trans heq256
  have he280 : F276 q257 = .inl (I (.object "java/lang/Object"), n268, .inr (.inr (.inr (.inr f267)))) := (n278 q257 (rn_ao heq257 heq255)).trans heq257
  have he281 : F276 q255 = .inr (4, [.int z275, .ref q257, .int p259]) := e277
  have hfr282 : rFr [q255] P253 F254 F276 := rFr_put (rFr_rf (W := []) (P := P253) (F := F254)) n278
  refine G_aload_n 0 dr_cJx4a65c_add_9ea2d_10 rfl ?_
  refine G_aload_n 1 dr_cJx4a65c_add_9ea2d_11 rfl ?_
  refine G_aload_n 0 dr_cJx4a65c_add_9ea2d_12 rfl ?_
  refine Gp_get 1 hmq255 he281 dr_cJx4a65c_add_9ea2d_13 (gk_Jx4a65c D I) (Nat.le_of_ble_eq_true rfl) wr_7_17 rfl ?_
  refine G_aload_n 0 dr_cJx4a65c_add_9ea2d_16 rfl ?_
  refine Gp_get 2 hmq255 he281 dr_cJx4a65c_add_9ea2d_17 (gk_Jx4a65c D I) (Nat.le_of_ble_eq_true rfl) wr_7_18 rfl ?_
  refine Gw_callV (As := [.ref q256, .ref q257, .int p259]) (gV_ok D I) (cp_306_ArrayList_add l hl0 D I P253 F276 q255 q256 q257 p259 z275 p259 p260 p261 p262 p263 p264 p265 p266 f267 n268 hmq255 hmq256 hmq257 he281 he279 he280 bp259 bp259 bp260 bp261 bp264 bp265 bp266 (by omega) (by omega) (by omega) (by omega) (rEl_frG (rEl_src x272 rSrc_rf) (rSub_rf (P := P253)) hfr282 (rNg_c (rNg_o heq255 (by decide) (by decide)) rNg_n)) (by omega)) dr_cJx4a65c_add_9ea2d_20 ⟨wr_10_3, wr_1_18, wr_10_6, by decide, rfl, (Nat.le_of_ble_eq_true rfl), (Nat.le_of_ble_eq_true rfl)⟩ wr_10_5 wr_p_85 hmq255 he281 rfl (show 0 + 1 ≤ 1 by first | omega | decide) (show 0 + (n268 + n268 / 2 + 1) ≤ (n268 + n268 / 2 + 1) by first | omega | decide) (Nat.le_of_ble_eq_true rfl) (fun r555 w556 dc552 ds553 hp554 => ?_) (fun _ _ _ _ _ z => z.elim)
  obtain ⟨P565, F566, o557, q558, n559, f560, rfl, rfl, hsb567, hfr568, he569, he570, he571, he572, hm573, hq574, hdc, hds, bo557, x561, x562, x563, x564⟩ := hp554
  have hm575 : q255 ∈ P565 := hsb567 q255 hmq255
  have hm576 : q256 ∈ P565 := hsb567 q256 hmq256
  have hm577 : q257 ∈ P565 := hsb567 q257 hmq257
  have hq578 : q558 ∉ P253 := fun z => hq574 ((rSub_rf (P := P253)) q558 z)
  have hsb579 : rSub P253 P565 := rSub_tr (rSub_rf (P := P253)) hsb567
  have hfr580 : rFr [q255] P253 F254 F566 := rFr_call (rSub_rf (P := P253)) hfr282 hfr568 (fun b hb hn => ⟨(nm_c (fun e => hn (e ▸ List.mem_cons_self)) nm_n), (nm_c (fun e => hn (e ▸ List.mem_cons_self)) nm_n)⟩)
  change G _ _ _ _ _ _ _ _ _ _ _
  refine G_widen (cs' := 1) (sl' := n268 + n268 / 2 + 1) (by omega) (by omega) ?_
  refine G_iconst 1 dr_cJx4a65c_add_9ea2d_23 (by decide +kernel) ?_
  exact G_zretA FieldType.boolean dr_cJx4a65c_add_9ea2d_24 rfl rfl (Nat.le_of_ble_eq_true rfl) (show n268 + n268 / 2 + 1 ≤ (n268 + n268 / 2 + 1) by omega) ⟨P565, F566, z275, o557, q558, n559, f560, rfl, rfl, hsb579, hfr580, he569, he571, he572, hm573, hq578, (Nat.le_of_ble_eq_true rfl), (by omega), bo557, (by omega), (by assumption), (by assumption), (by omega)⟩
abbrev ky_635_ArrayList_add : gKey := (cJx4a65c_add_72be8, 4, "java/util/ArrayList", none, [], "add", fun _ _ => True)
def pp_635_ArrayList_add (D : va_G) (I : FieldType → ClassId) (P615 : List Nat) (F616 : Nat → va_E) (q617 : Nat) (q618 : Nat) (q619 : Nat) (p620 : Int32) (p621 : Int32) (p622 : Int32) (qo623 : Nat) (qo624 : Nat) (p625 : Int32) (p626 : Int32) (f627 : Nat → Option Nat) (n628 : Nat) : Option Value → va_W → Nat → Nat → Prop := fun r w dc ds => ∃ (P689 : List Nat) (F690 : Nat → va_E) (o685 : Int32) (q686 : Nat) (n687 : Nat) (f688 : Nat → Option Nat), r = none ∧ w = va_pl P689 F690 ∧ rSub P615 P689 ∧ rFr [q617] P615 F616 F690 ∧ F690 q618 = .inr (17, [.ref qo623, .ref qo624, .int p625, .int p626]) ∧ F690 q619 = .inl (I (.object "java/lang/Object"), n628, .inr (.inr (.inr (.inr f627)))) ∧ F690 q617 = .inr (4, [.int p621, .ref q686, .int o685]) ∧ F690 q686 = .inl (I (.object "java/lang/Object"), n687, .inr (.inr (.inr (.inr f688)))) ∧ q686 ∈ P689 ∧ q686 ∉ P615 ∧ dc ≤ 1 ∧ ds ≤ n628 + n628 / 2 + 1 ∧ gB o685 1 16777217 ∧ o685.toInt = p622.toInt + 1 ∧ ((∀ j : Nat, (j : Int) < p622.toInt → f688 j = f627 j) ∧ f688 p620.toInt.toNat = some q618) ∧ rSrcX f688 f627 q618 ∧ ((n687 : Int) ≤ (n628 : Int) + (n628 : Int) / 2 + 1 ∧ (n628 : Int) + 1 ≤ (n687 : Int) ∧ (n628 : Int) + (n628 : Int) / 2 ≤ (n687 : Int))
set_option maxRecDepth 100000 in
set_option maxHeartbeats 4000000 in
theorem cp_635_ArrayList_add (l : Launch) (hl0 : l.stackTraces = false) (D : va_G) (I : FieldType → ClassId) (P615 : List Nat) (F616 : Nat → va_E) (q617 : Nat) (q618 : Nat) (q619 : Nat) (p620 : Int32) (p621 : Int32) (p622 : Int32) (qo623 : Nat) (qo624 : Nat) (p625 : Int32) (p626 : Int32) (f627 : Nat → Option Nat) (n628 : Nat) (hmq617 : q617 ∈ P615) (hmq618 : q618 ∈ P615) (hmq619 : q619 ∈ P615) (heq617 : F616 q617 = .inr (4, [.int p621, .ref q619, .int p622])) (heq618 : F616 q618 = .inr (17, [.ref qo623, .ref qo624, .int p625, .int p626])) (heq619 : F616 q619 = .inl (I (.object "java/lang/Object"), n628, .inr (.inr (.inr (.inr f627))))) (bp620 : gB p620 0 16777216) (bp622 : gB p622 0 16777216) (bp625 : gB p625 0 39) (bp626 : gB p626 0 39) (x629 : 0 < (n628 : Int)) (x630 : (n628 : Int) ≤ 1000000) (x631 : p622.toInt = (n628 : Int)) (x632 : p620.toInt = p622.toInt) (x633 : rEl P615 F616 f627) (x634 : ((n628 : Int) ≤ 16777216)) : CtA (gV D I) l yJx4a65c_add_72be8 cJx4a65c_add_72be8 4 none 5 105 1 (n628 + n628 / 2 + 1) [.ref q617, .ref q618, .ref q619, .int p620] (va_pl P615 F616) (pp_635_ArrayList_add D I P615 F616 q617 q618 q619 p620 p621 p622 qo623 qo624 p625 p626 f627 n628) gNA := by
  refine CtA_ofF hl0 (by decide +kernel) (Nat.le_of_ble_eq_true rfl) ?_
  have bp621 := gB_any p621
  refine G_iload_n 3 dr_cJx4a65c_add_72be8_0 rfl ?_
  refine G_aload_n 2 dr_cJx4a65c_add_72be8_1 rfl ?_
  refine Gp_alen (Int32.ofNat n628) 4 hmq619 heq619 dr_cJx4a65c_add_72be8_2 rfl rfl (G_nam fun z636 hz636 => ?_)
  have ez636 : z636.toInt = (n628 : Nat) := gI_ofM hz636 (by omega)
  have bz636 : gB z636 0 16777216 := ⟨by omega, by omega⟩
  refine G_icmp_ne 11 dr_cJx4a65c_add_72be8_3 (by decide +kernel) (fun hc => absurd (show False by have := gC_ne hc; omega) not_false) (fun hc637 => ?_)
  have r639 : p620.toInt = z636.toInt := gC_eq hc637
  refine G_aload_n 0 dr_cJx4a65c_add_72be8_6 rfl ?_
  refine Gw_callV (As := []) (gV_ok D I) (cp_324_ArrayList_grow l hl0 D I P615 F616 q617 q619 p621 p622 f627 n628 hmq617 hmq619 heq617 heq619 bp622 (by omega) (by omega) (by omega) (rEl_frG (rEl_src x633 rSrc_rf) (rSub_rf (P := P615)) (rFr_rf (W := []) (P := P615) (F := F616)) rNg_n) (by omega)) dr_cJx4a65c_add_72be8_7 ⟨wr_10_7, wr_1_18, wr_10_10, by decide, rfl, (Nat.le_of_ble_eq_true rfl), (Nat.le_of_ble_eq_true rfl)⟩ wr_10_9 wr_p_86 hmq617 heq617 rfl (show 0 + 1 ≤ 1 by first | omega | decide) (show 0 + (n628 + n628 / 2 + 1) ≤ (n628 + n628 / 2 + 1) by first | omega | decide) (Nat.le_of_ble_eq_true rfl) (fun r643 w644 dc640 ds641 hp642 => ?_) (fun _ _ _ _ _ z => z.elim)
  obtain ⟨P651, F652, q645, n646, f647, rfl, rfl, hsb653, hfr654, he655, he656, hm657, hq658, hdc, hds, x648, x649, x650⟩ := hp642
  have hm659 : q617 ∈ P651 := hsb653 q617 hmq617
  have hm660 : q618 ∈ P651 := hsb653 q618 hmq618
  have hm661 : q619 ∈ P651 := hsb653 q619 hmq619
  have hq662 : q645 ∉ P615 := fun z => hq658 ((rSub_rf (P := P615)) q645 z)
  have hsb663 : rSub P615 P651 := rSub_tr (rSub_rf (P := P615)) hsb653
  have he664 : F652 q618 = .inr (17, [.ref qo623, .ref qo624, .int p625, .int p626]) := (hfr654 q618 hmq618 (nm_c (rn_oo heq618 heq617 (by decide)) nm_n)).trans heq618
  have he665 : F652 q619 = .inl (I (.object "java/lang/Object"), n628, .inr (.inr (.inr (.inr f627)))) := (hfr654 q619 hmq619 (nm_c (rn_ao heq619 heq617) nm_n)).trans heq619
  have hfr666 : rFr [q617] P615 F616 F652 := rFr_call (rSub_rf (P := P615)) (rFr_rf (W := []) (P := P615) (F := F616)) hfr654 (fun b hb hn => ⟨nm_n, (nm_c (fun e => hn (e ▸ List.mem_cons_self)) nm_n)⟩)
  change G _ _ _ _ _ _ _ (.ref q645 :: _) _ _ _
  refine G_widen (cs' := 1) (sl' := n628 + n628 / 2 + 1) (by omega) (by omega) ?_
  refine G_astore_n (L' := [(2, .ref q645), (0, .ref q617), (1, .ref q618), (3, .int p620)]) dr_cJx4a65c_add_72be8_10 (Nat.le_of_ble_eq_true rfl) rfl ?_
  refine G_aload_n 0 dr_cJx4a65c_add_72be8_11 rfl ?_
  refine G_iload_n 3 dr_cJx4a65c_add_72be8_12 rfl ?_
  refine G_aload_n 2 dr_cJx4a65c_add_72be8_13 rfl ?_
  refine Gp_aast 4 hm657 he656 dr_cJx4a65c_add_72be8_14 rfl ⟨hm660, _, _, _, _, _, he664, rfl, gr_cast 2 rfl⟩ (gB_inr (by omega) (by omega)) (fun F667 e668 n669 => ?_)
  obtain ⟨f670, hf670⟩ : ∃ z, z = va_up f647 p620.toNatClampNeg (some q618) := ⟨_, rfl⟩
  rw [← hf670] at e668
  have he671 : F667 q618 = .inr (17, [.ref qo623, .ref qo624, .int p625, .int p626]) := (n669 q618 (fun h => hq662 (h ▸ hmq618))).trans he664
  have he672 : F667 q619 = .inl (I (.object "java/lang/Object"), n628, .inr (.inr (.inr (.inr f627)))) := (n669 q619 (fun h => hq662 (h ▸ hmq619))).trans he665
  have he673 : F667 q617 = .inr (4, [.int p621, .ref q645, .int p622]) := (n669 q617 (fun h => hq662 (h ▸ hmq617))).trans he655
  have he674 : F667 q645 = .inl (I (.object "java/lang/Object"), n646, .inr (.inr (.inr (.inr f670)))) := e668
  have hfr675 : rFr [q617] P615 F616 F667 := rFr_newp hq662 hfr666 n669
  refine G_aload_n 1 dr_cJx4a65c_add_72be8_15 rfl ?_
  refine G_iload_n 3 dr_cJx4a65c_add_72be8_16 rfl ?_
  refine G_iconst 1 dr_cJx4a65c_add_72be8_17 (by decide +kernel) ?_
  refine G_iadd dr_cJx4a65c_add_72be8_18 (G_nam fun z676 hz676 => ?_)
  have ez676 : z676.toInt = p620.toInt + 1 := by rw [gI_add hz676 bp620 (gBl (show Int32.toInt 1 = 1 by decide)) (by decide) (by decide), show Int32.toInt 1 = 1 from by decide]
  have bz676 : gB z676 1 16777217 := gB_add (gI_add hz676 bp620 (gBl (show Int32.toInt 1 = 1 by decide)) (by decide) (by decide)) bp620 (gBl (show Int32.toInt 1 = 1 by decide)) (by decide) (by decide)
  refine Gp_put 2 hm659 he673 dr_cJx4a65c_add_72be8_19 (gk_Jx4a65c D I) (Nat.le_of_ble_eq_true rfl) wr_7_18 rfl rfl rfl (Nat.le_of_ble_eq_true rfl) (fun F677 e678 n679 => ?_)
  have he680 : F677 q618 = .inr (17, [.ref qo623, .ref qo624, .int p625, .int p626]) := (n679 q618 (rn_oo he671 he673 (by decide))).trans he671
  have he681 : F677 q619 = .inl (I (.object "java/lang/Object"), n628, .inr (.inr (.inr (.inr f627)))) := (n679 q619 (rn_ao he672 he673)).trans he672
  have he682 : F677 q645 = .inl (I (.object "java/lang/Object"), n646, .inr (.inr (.inr (.inr f670)))) := (n679 q645 (fun h => hq662 (h ▸ hmq617))).trans he674
  have he683 : F677 q617 = .inr (4, [.int p621, .ref q645, .int z676]) := e678
  have hfr684 : rFr [q617] P615 F616 F677 := rFr_put' List.mem_cons_self hfr675 n679
  exact G_vretA dr_cJx4a65c_add_72be8_22 rfl (Nat.le_of_ble_eq_true rfl) (show n628 + n628 / 2 + 1 ≤ (n628 + n628 / 2 + 1) by omega) ⟨P651, F677, z676, q645, n646, f670, rfl, rfl, hsb663, hfr684, he680, he681, he683, he682, hm657, hq662, (Nat.le_of_ble_eq_true rfl), (by omega), bz676, (by omega), (rI_add (fun j hj => x648 j (by omega)) hf670 (by omega) (by omega)), (rSrcX_up hf670 (rSrc_tr x649 rSrc_rf)), (by omega)⟩
abbrev ky_606_ArrayList_add : gKey := (cJx4a65c_add_9ea2d, 2, "java/util/ArrayList", (some FieldType.boolean), [], "add", fun _ _ => True)
def pp_606_ArrayList_add (D : va_G) (I : FieldType → ClassId) (P588 : List Nat) (F589 : Nat → va_E) (q590 : Nat) (q591 : Nat) (q592 : Nat) (p593 : Int32) (p594 : Int32) (qo595 : Nat) (qo596 : Nat) (p597 : Int32) (p598 : Int32) (f599 : Nat → Option Nat) (n600 : Nat) : Option Value → va_W → Nat → Nat → Prop := fun r w dc ds => ∃ (P725 : List Nat) (F726 : Nat → va_E) (o720 : Int32) (o721 : Int32) (q722 : Nat) (n723 : Nat) (f724 : Nat → Option Nat), r = some (.int 1) ∧ w = va_pl P725 F726 ∧ rSub P588 P725 ∧ rFr [q590] P588 F589 F726 ∧ F726 q591 = .inr (17, [.ref qo595, .ref qo596, .int p597, .int p598]) ∧ F726 q590 = .inr (4, [.int o720, .ref q722, .int o721]) ∧ F726 q722 = .inl (I (.object "java/lang/Object"), n723, .inr (.inr (.inr (.inr f724)))) ∧ q722 ∈ P725 ∧ q722 ∉ P588 ∧ dc ≤ 1 ∧ ds ≤ n600 + n600 / 2 + 1 ∧ gB o721 1 16777217 ∧ o721.toInt = p594.toInt + 1 ∧ ((∀ j : Nat, (j : Int) < p594.toInt → f724 j = f599 j) ∧ f724 p594.toInt.toNat = some q591) ∧ rSrcX f724 f599 q591 ∧ ((n723 : Int) ≤ (n600 : Int) + (n600 : Int) / 2 + 1 ∧ (n600 : Int) + 1 ≤ (n723 : Int) ∧ (n600 : Int) + (n600 : Int) / 2 ≤ (n723 : Int))
set_option maxRecDepth 100000 in
set_option maxHeartbeats 4000000 in
theorem cp_606_ArrayList_add (l : Launch) (hl0 : l.stackTraces = false) (D : va_G) (I : FieldType → ClassId) (P588 : List Nat) (F589 : Nat → va_E) (q590 : Nat) (q591 : Nat) (q592 : Nat) (p593 : Int32) (p594 : Int32) (qo595 : Nat) (qo596 : Nat) (p597 : Int32) (p598 : Int32) (f599 : Nat → Option Nat) (n600 : Nat) (hmq590 : q590 ∈ P588) (hmq591 : q591 ∈ P588) (hmq592 : q592 ∈ P588) (heq590 : F589 q590 = .inr (4, [.int p593, .ref q592, .int p594])) (heq591 : F589 q591 = .inr (17, [.ref qo595, .ref qo596, .int p597, .int p598])) (heq592 : F589 q592 = .inl (I (.object "java/lang/Object"), n600, .inr (.inr (.inr (.inr f599))))) (bp594 : gB p594 0 16777216) (bp597 : gB p597 0 39) (bp598 : gB p598 0 39) (x601 : 0 < (n600 : Int)) (x602 : (n600 : Int) ≤ 1000000) (x603 : p594.toInt = (n600 : Int)) (x604 : rEl P588 F589 f599) (x605 : ((n600 : Int) ≤ 16777216)) : CtA (gV D I) l yJx4a65c_add_9ea2d cJx4a65c_add_9ea2d 2 (some FieldType.boolean) 6 128 1 (n600 + n600 / 2 + 1) [.ref q590, .ref q591] (va_pl P588 F589) (pp_606_ArrayList_add D I P588 F589 q590 q591 q592 p593 p594 qo595 qo596 p597 p598 f599 n600) gNA := by
  refine CtA_ofF hl0 (by decide +kernel) (Nat.le_of_ble_eq_true rfl) ?_
  have bp593 := gB_any p593
  refine G_aload_n 0 dr_cJx4a65c_add_9ea2d_0 rfl ?_
  refine G_dup dr_cJx4a65c_add_9ea2d_1 rfl ?_
  refine Gp_getS 0 hmq590 heq590 dr_cJx4a65c_add_9ea2d_2 (gk_Jx4a65c D I) (Nat.le_of_ble_eq_true rfl) wr_7_20 wr_7_21 rfl ?_
  refine G_iconst 1 dr_cJx4a65c_add_9ea2d_5 (by decide +kernel) ?_
  refine G_iadd dr_cJx4a65c_add_9ea2d_6 (G_nam fun z607 hz607 => ?_)
  have bz607 : gB z607 (-2147483648) 2147483647 := gB_any z607
  refine Gp_putS 0 hmq590 heq590 dr_cJx4a65c_add_9ea2d_7 (gk_Jx4a65c D I) (Nat.le_of_ble_eq_true rfl) wr_7_20 wr_7_21 rfl rfl rfl (Nat.le_of_ble_eq_true rfl) (fun F608 e609 n610 => ?_)
  have he611 : F608 q591 = .inr (17, [.ref qo595, .ref qo596, .int p597, .int p598]) := (n610 q591 (rn_oo heq591 heq590 (by decide))).trans heq591
  have he612 : F608 q592 = .inl (I (.object "java/lang/Object"), n600, .inr (.inr (.inr (.inr f599)))) := (n610 q592 (rn_ao heq592 heq590)).trans heq592
  have he613 : F608 q590 = .inr (4, [.int z607, .ref q592, .int p594]) := e609
  have hfr614 : rFr [q590] P588 F589 F608 := rFr_put (rFr_rf (W := []) (P := P588) (F := F589)) n610
  refine G_aload_n 0 dr_cJx4a65c_add_9ea2d_10 rfl ?_
  refine G_aload_n 1 dr_cJx4a65c_add_9ea2d_11 rfl ?_
  refine G_aload_n 0 dr_cJx4a65c_add_9ea2d_12 rfl ?_
  refine Gp_get 1 hmq590 he613 dr_cJx4a65c_add_9ea2d_13 (gk_Jx4a65c D I) (Nat.le_of_ble_eq_true rfl) wr_7_17 rfl ?_
  refine G_aload_n 0 dr_cJx4a65c_add_9ea2d_16 rfl ?_
  refine Gp_get 2 hmq590 he613 dr_cJx4a65c_add_9ea2d_17 (gk_Jx4a65c D I) (Nat.le_of_ble_eq_true rfl) wr_7_18 rfl ?_
  refine Gw_callV (As := [.ref q591, .ref q592, .int p594]) (gV_ok D I) (cp_635_ArrayList_add l hl0 D I P588 F608 q590 q591 q592 p594 z607 p594 qo595 qo596 p597 p598 f599 n600 hmq590 hmq591 hmq592 he613 he611 he612 bp594 bp594 bp597 bp598 (by omega) (by omega) (by omega) (by omega) (rEl_frG (rEl_src x604 rSrc_rf) (rSub_rf (P := P588)) hfr614 (rNg_c (rNg_o heq590 (by decide) (by decide)) rNg_n)) (by omega)) dr_cJx4a65c_add_9ea2d_20 ⟨wr_10_3, wr_1_18, wr_10_6, by decide, rfl, (Nat.le_of_ble_eq_true rfl), (Nat.le_of_ble_eq_true rfl)⟩ wr_10_5 wr_p_85 hmq590 he613 rfl (show 0 + 1 ≤ 1 by first | omega | decide) (show 0 + (n600 + n600 / 2 + 1) ≤ (n600 + n600 / 2 + 1) by first | omega | decide) (Nat.le_of_ble_eq_true rfl) (fun r694 w695 dc691 ds692 hp693 => ?_) (fun _ _ _ _ _ z => z.elim)
  obtain ⟨P704, F705, o696, q697, n698, f699, rfl, rfl, hsb706, hfr707, he708, he709, he710, he711, hm712, hq713, hdc, hds, bo696, x700, x701, x702, x703⟩ := hp693
  have hm714 : q590 ∈ P704 := hsb706 q590 hmq590
  have hm715 : q591 ∈ P704 := hsb706 q591 hmq591
  have hm716 : q592 ∈ P704 := hsb706 q592 hmq592
  have hq717 : q697 ∉ P588 := fun z => hq713 ((rSub_rf (P := P588)) q697 z)
  have hsb718 : rSub P588 P704 := rSub_tr (rSub_rf (P := P588)) hsb706
  have hfr719 : rFr [q590] P588 F589 F705 := rFr_call (rSub_rf (P := P588)) hfr614 hfr707 (fun b hb hn => ⟨(nm_c (fun e => hn (e ▸ List.mem_cons_self)) nm_n), (nm_c (fun e => hn (e ▸ List.mem_cons_self)) nm_n)⟩)
  change G _ _ _ _ _ _ _ _ _ _ _
  refine G_widen (cs' := 1) (sl' := n600 + n600 / 2 + 1) (by omega) (by omega) ?_
  refine G_iconst 1 dr_cJx4a65c_add_9ea2d_23 (by decide +kernel) ?_
  exact G_zretA FieldType.boolean dr_cJx4a65c_add_9ea2d_24 rfl rfl (Nat.le_of_ble_eq_true rfl) (show n600 + n600 / 2 + 1 ≤ (n600 + n600 / 2 + 1) by omega) ⟨P704, F705, z607, o696, q697, n698, f699, rfl, rfl, hsb718, hfr719, he708, he710, he711, hm712, hq717, (Nat.le_of_ble_eq_true rfl), (by omega), bo696, (by omega), (by assumption), (by assumption), (by omega)⟩
abbrev ky_785_ArrayList_grow : gKey := (cJx4a65c_grow_92f84, 4, "java/util/ArrayList", (some (FieldType.array (FieldType.object "java/lang/Object"))), [], "grow", fun _ _ => True)
def pp_785_ArrayList_grow (D : va_G) (I : FieldType → ClassId) (P777 : List Nat) (F778 : Nat → va_E) (q779 : Nat) (p780 : Int32) (p781 : Int32) (p782 : Int32) : Option Value → va_W → Nat → Nat → Prop := fun r w dc ds => ∃ (P811 : List Nat) (F812 : Nat → va_E) (q809 : Nat) (n810 : Nat), r = some (.ref q809) ∧ w = va_pl P811 F812 ∧ rSub P777 P811 ∧ rFr [q779] P777 F778 F812 ∧ F812 q779 = .inr (4, [.int p781, .ref q809, .int p782]) ∧ F812 q809 = .inl (I (.object "java/lang/Object"), n810, .inr (.inr (.inr (.inr (fun _ => none))))) ∧ q809 ∈ P811 ∧ q809 ∉ P777 ∧ dc ≤ 1 ∧ ds ≤ 10 ∧ (n810 : Int) = 10
set_option maxRecDepth 100000 in
set_option maxHeartbeats 4000000 in
theorem cp_785_ArrayList_grow (l : Launch) (hl0 : l.stackTraces = false) (D : va_G) (I : FieldType → ClassId) (P777 : List Nat) (F778 : Nat → va_E) (q779 : Nat) (p780 : Int32) (p781 : Int32) (p782 : Int32) (hmq779 : q779 ∈ P777) (heq779 : F778 q779 = .inr (4, [.int p781, .ref (D.2 1002 1), .int p782])) (bp780 : gB p780 0 16777216) (bp782 : gB p782 0 16777216) (x783 : p782.toInt = 0) (x784 : p780.toInt = 1) : CtA (gV D I) l yJx4a65c_grow_92f84 cJx4a65c_grow_92f84 4 (some (FieldType.array (FieldType.object "java/lang/Object"))) 1 14 1 10 [.ref q779, .int p780] (va_pl P777 F778) (pp_785_ArrayList_grow D I P777 F778 q779 p780 p781 p782) gNA := by
  refine CtA_ofF hl0 (by decide +kernel) (Nat.le_of_ble_eq_true rfl) ?_
  have bp781 := gB_any p781
  refine G_aload_n 0 dr_cJx4a65c_grow_92f84_0 rfl ?_
  refine Gp_get 1 hmq779 heq779 dr_cJx4a65c_grow_92f84_1 (gk_Jx4a65c D I) (Nat.le_of_ble_eq_true rfl) wr_7_17 rfl ?_
  refine G_klen dr_cJx4a65c_grow_92f84_4 gr_dt ?_
  refine G_istore_n (L' := [(2, .int 0), (0, .ref q779), (1, .int p780)]) dr_cJx4a65c_grow_92f84_5 (Nat.le_of_ble_eq_true rfl) rfl ?_
  refine G_iload_n 0 dr_cJx4a65c_grow_92f84_6 rfl ?_
  refine G_if_gt 20 dr_cJx4a65c_grow_92f84_7 (by decide +kernel) (fun hc => absurd hc (by decide)) (fun _ => ?_)
  refine G_aload_n 1 dr_cJx4a65c_grow_92f84_10 rfl ?_
  refine Gp_get 1 hmq779 heq779 dr_cJx4a65c_grow_92f84_11 (gk_Jx4a65c D I) (Nat.le_of_ble_eq_true rfl) wr_7_17 rfl ?_
  refine G_gets dr_cJx4a65c_grow_92f84_14 wr_7_15 gr_de (fun x787 hx786 => ?_)
  subst hx786
  refine G_acmp_eq 45 dr_cJx4a65c_grow_92f84_17 (by decide +kernel) (fun _ => ?_) (fun hc => absurd rfl hc)
  refine G_aload_n 1 dr_cJx4a65c_grow_92f84_45 rfl ?_
  refine G_bipush 10 dr_cJx4a65c_grow_92f84_46 (by decide +kernel) ?_
  refine G_iload_n 2 dr_cJx4a65c_grow_92f84_48 rfl ?_
  refine G_mmax dr_cJx4a65c_grow_92f84_49 wr_10_56 wr_1_140 wr_1_6 wr_1_141 (Nat.le_of_ble_eq_true rfl) (Nat.le_of_ble_eq_true rfl) (show 0 ≤ 1 by first | omega | decide) (show 0 ≤ 10 by first | omega | decide) (G_nam fun z788 hz788 => ?_)
  have ez788 : 10 ≤ z788.toInt ∧ p780.toInt ≤ z788.toInt ∧ (z788.toInt = 10 ∨ z788.toInt = p780.toInt) := by have := gI_max hz788; rw [show Int32.toInt 10 = 10 from by decide] at this; omega
  have bz788 : gB z788 10 16777216 := ⟨by omega, by omega⟩
  refine Gp_newq (M := z788.toInt.toNat) 4 dr_cJx4a65c_grow_92f84_52 wr_10_57 gr_ao rfl (g_n0 (by omega)) rfl (show z788.toInt.toNat * 4 ≤ 536870912 by omega) (show 0 + 1 ≤ 1 by first | omega | decide) (show 0 + z788.toInt.toNat ≤ 10 by first | omega | decide) (fun q789 P790 F791 hq792 hP793 e794 n795 => ?_)
  refine G_widen (cs' := 1) (sl' := z788.toInt.toNat) (by omega) (by omega) ?_
  have he796 : F791 q779 = .inr (4, [.int p781, .ref (D.2 1002 1), .int p782]) := (n795 q779 (fun h => hq792 (h ▸ hmq779))).trans heq779
  have he797 : F791 q789 = .inl (I (.object "java/lang/Object"), z788.toInt.toNat, .inr (.inr (.inr (.inr (fun _ => none))))) := e794
  have hm798 : q779 ∈ P790 := (hP793 q779).mpr (Or.inl hmq779)
  have hm799 : q789 ∈ P790 := (hP793 q789).mpr (Or.inr rfl)
  have hq800 : q789 ∉ P777 := fun z => hq792 ((rSub_rf (P := P777)) q789 z)
  have hfr801 : rFr [] P777 F778 F791 := rFr_new (rSub_rf (P := P777)) hq792 (rFr_rf (W := []) (P := P777) (F := F778)) n795
  have hsb802 : rSub P777 P790 := rSub_new (rSub_rf (P := P777)) hP793
  refine G_dup_x1 dr_cJx4a65c_grow_92f84_55 rfl rfl ?_
  refine Gp_put 1 hm798 he796 dr_cJx4a65c_grow_92f84_56 (gk_Jx4a65c D I) (Nat.le_of_ble_eq_true rfl) wr_7_17 rfl rfl rfl (Nat.le_of_ble_eq_true rfl) (fun F803 e804 n805 => ?_)
  have he806 : F803 q789 = .inl (I (.object "java/lang/Object"), z788.toInt.toNat, .inr (.inr (.inr (.inr (fun _ => none))))) := (n805 q789 (fun h => hq800 (h ▸ hmq779))).trans he797
  have he807 : F803 q779 = .inr (4, [.int p781, .ref q789, .int p782]) := e804
  have hfr808 : rFr [q779] P777 F778 F803 := rFr_put hfr801 n805
  exact G_aretA (FieldType.array (FieldType.object "java/lang/Object")) dr_cJx4a65c_grow_92f84_59 rfl (by first | exact Or.inl ⟨_, rfl⟩ | exact Or.inr ⟨_, rfl⟩) (Or.inr ⟨_, rfl⟩) (Nat.le_of_ble_eq_true rfl) (show z788.toInt.toNat ≤ 10 by omega) ⟨P790, F803, q789, z788.toInt.toNat, rfl, rfl, hsb802, hfr808, he807, he806, hm799, hq800, (Nat.le_of_ble_eq_true rfl), (by omega), (by have qa0 : Int32.toInt 0 = 0 := (by decide); omega)⟩
abbrev ky_775_ArrayList_grow : gKey := (cJx4a65c_grow_d5877, 1, "java/util/ArrayList", (some (FieldType.array (FieldType.object "java/lang/Object"))), [], "grow", fun _ _ => True)
def pp_775_ArrayList_grow (D : va_G) (I : FieldType → ClassId) (P769 : List Nat) (F770 : Nat → va_E) (q771 : Nat) (p772 : Int32) (p773 : Int32) : Option Value → va_W → Nat → Nat → Prop := fun r w dc ds => ∃ (P835 : List Nat) (F836 : Nat → va_E) (q833 : Nat) (n834 : Nat), r = some (.ref q833) ∧ w = va_pl P835 F836 ∧ rSub P769 P835 ∧ rFr [q771] P769 F770 F836 ∧ F836 q771 = .inr (4, [.int p772, .ref q833, .int p773]) ∧ F836 q833 = .inl (I (.object "java/lang/Object"), n834, .inr (.inr (.inr (.inr (fun _ => none))))) ∧ q833 ∈ P835 ∧ q833 ∉ P769 ∧ dc ≤ 1 ∧ ds ≤ 10 ∧ (n834 : Int) = 10
set_option maxRecDepth 100000 in
set_option maxHeartbeats 4000000 in
theorem cp_775_ArrayList_grow (l : Launch) (hl0 : l.stackTraces = false) (D : va_G) (I : FieldType → ClassId) (P769 : List Nat) (F770 : Nat → va_E) (q771 : Nat) (p772 : Int32) (p773 : Int32) (hmq771 : q771 ∈ P769) (heq771 : F770 q771 = .inr (4, [.int p772, .ref (D.2 1002 1), .int p773])) (bp773 : gB p773 0 16777216) (x774 : p773.toInt = 0) : CtA (gV D I) l yJx4a65c_grow_d5877 cJx4a65c_grow_d5877 1 (some (FieldType.array (FieldType.object "java/lang/Object"))) 2 37 1 10 [.ref q771] (va_pl P769 F770) (pp_775_ArrayList_grow D I P769 F770 q771 p772 p773) gNA := by
  refine CtA_ofF hl0 (by decide +kernel) (Nat.le_of_ble_eq_true rfl) ?_
  have bp772 := gB_any p772
  refine G_aload_n 0 dr_cJx4a65c_grow_d5877_0 rfl ?_
  refine G_aload_n 0 dr_cJx4a65c_grow_d5877_1 rfl ?_
  refine Gp_get 2 hmq771 heq771 dr_cJx4a65c_grow_d5877_2 (gk_Jx4a65c D I) (Nat.le_of_ble_eq_true rfl) wr_7_18 rfl ?_
  refine G_iconst 1 dr_cJx4a65c_grow_d5877_5 (by decide +kernel) ?_
  refine G_iadd dr_cJx4a65c_grow_d5877_6 (G_nam fun z776 hz776 => ?_)
  have ez776 : z776.toInt = p773.toInt + 1 := by rw [gI_add hz776 bp773 (gBl (show Int32.toInt 1 = 1 by decide)) (by decide) (by decide), show Int32.toInt 1 = 1 from by decide]
  have bz776 : gB z776 1 16777217 := gB_add (gI_add hz776 bp773 (gBl (show Int32.toInt 1 = 1 by decide)) (by decide) (by decide)) bp773 (gBl (show Int32.toInt 1 = 1 by decide)) (by decide) (by decide)
  refine Gw_callV (As := [.int z776]) (gV_ok D I) (cp_785_ArrayList_grow l hl0 D I P769 F770 q771 z776 p772 p773 hmq771 heq771 ⟨by omega, by omega⟩ bp773 (by omega) (by omega)) dr_cJx4a65c_grow_d5877_7 ⟨wr_10_11, wr_1_18, wr_10_14, by decide, rfl, (Nat.le_of_ble_eq_true rfl), (Nat.le_of_ble_eq_true rfl)⟩ wr_10_13 wr_p_87 hmq771 heq771 rfl (show 0 + 1 ≤ 1 by first | omega | decide) (show 0 + 10 ≤ 10 by first | omega | decide) (Nat.le_of_ble_eq_true rfl) (fun r816 w817 dc813 ds814 hp815 => ?_) (fun _ _ _ _ _ z => z.elim)
  obtain ⟨P821, F822, q818, n819, rfl, rfl, hsb823, hfr824, he825, he826, hm827, hq828, hdc, hds, x820⟩ := hp815
  have hm829 : q771 ∈ P821 := hsb823 q771 hmq771
  have hq830 : q818 ∉ P769 := fun z => hq828 ((rSub_rf (P := P769)) q818 z)
  have hsb831 : rSub P769 P821 := rSub_tr (rSub_rf (P := P769)) hsb823
  have hfr832 : rFr [q771] P769 F770 F822 := rFr_call (rSub_rf (P := P769)) (rFr_rf (W := []) (P := P769) (F := F770)) hfr824 (fun b hb hn => ⟨nm_n, (nm_c (fun e => hn (e ▸ List.mem_cons_self)) nm_n)⟩)
  change G _ _ _ _ _ _ _ (.ref q818 :: _) _ _ _
  refine G_widen (cs' := 1) (sl' := 10) (by omega) (by omega) ?_
  exact G_aretA (FieldType.array (FieldType.object "java/lang/Object")) dr_cJx4a65c_grow_d5877_10 rfl (by first | exact Or.inl ⟨_, rfl⟩ | exact Or.inr ⟨_, rfl⟩) (Or.inr ⟨_, rfl⟩) (Nat.le_of_ble_eq_true rfl) (Nat.le_of_ble_eq_true rfl) ⟨P821, F822, q818, n819, rfl, rfl, hsb831, hfr832, he825, he826, hm827, hq830, (Nat.le_of_ble_eq_true rfl), (Nat.le_of_ble_eq_true rfl), (by omega)⟩
abbrev ky_765_ArrayList_add : gKey := (cJx4a65c_add_72be8, 4, "java/util/ArrayList", none, [], "add", fun _ _ => True)
def pp_765_ArrayList_add (D : va_G) (I : FieldType → ClassId) (P749 : List Nat) (F750 : Nat → va_E) (q751 : Nat) (q752 : Nat) (p753 : Int32) (p754 : Int32) (p755 : Int32) (p756 : Int32) (p757 : Int32) (p758 : Int32) (p759 : Int32) (p760 : Int32) (p761 : Int32) (p762 : Int32) : Option Value → va_W → Nat → Nat → Prop := fun r w dc ds => ∃ (P879 : List Nat) (F880 : Nat → va_E) (o875 : Int32) (q876 : Nat) (n877 : Nat) (f878 : Nat → Option Nat), r = none ∧ w = va_pl P879 F880 ∧ rSub P749 P879 ∧ rFr [q751] P749 F750 F880 ∧ F880 q752 = .inr (20, [.int p756, .int p757, .int p758, .int p759, .int p760, .int p761, .int p762]) ∧ F880 q751 = .inr (4, [.int p754, .ref q876, .int o875]) ∧ F880 q876 = .inl (I (.object "java/lang/Object"), n877, .inr (.inr (.inr (.inr f878)))) ∧ q876 ∈ P879 ∧ q876 ∉ P749 ∧ dc ≤ 1 ∧ ds ≤ 10 ∧ gB o875 1 1 ∧ o875.toInt = p755.toInt + 1 ∧ f878 p753.toInt.toNat = some q752 ∧ (∀ j w, f878 j = some w → w = q752) ∧ (n877 : Int) = 10
set_option maxRecDepth 100000 in
set_option maxHeartbeats 4000000 in
theorem cp_765_ArrayList_add (l : Launch) (hl0 : l.stackTraces = false) (D : va_G) (I : FieldType → ClassId) (P749 : List Nat) (F750 : Nat → va_E) (q751 : Nat) (q752 : Nat) (p753 : Int32) (p754 : Int32) (p755 : Int32) (p756 : Int32) (p757 : Int32) (p758 : Int32) (p759 : Int32) (p760 : Int32) (p761 : Int32) (p762 : Int32) (hmq751 : q751 ∈ P749) (hmq752 : q752 ∈ P749) (heq751 : F750 q751 = .inr (4, [.int p754, .ref (D.2 1002 1), .int p755])) (heq752 : F750 q752 = .inr (20, [.int p756, .int p757, .int p758, .int p759, .int p760, .int p761, .int p762])) (bp753 : gB p753 0 16777216) (bp755 : gB p755 0 16777216) (bp756 : gB p756 0 32) (bp757 : gB p757 0 1999) (bp760 : gB p760 0 1999) (bp761 : gB p761 0 1) (bp762 : gB p762 0 1) (x763 : p755.toInt = 0) (x764 : p753.toInt = p755.toInt) : CtA (gV D I) l yJx4a65c_add_72be8 cJx4a65c_add_72be8 4 none 3 57 1 10 [.ref q751, .ref q752, .ref (D.2 1002 1), .int p753] (va_pl P749 F750) (pp_765_ArrayList_add D I P749 F750 q751 q752 p753 p754 p755 p756 p757 p758 p759 p760 p761 p762) gNA := by
  refine CtA_ofF hl0 (by decide +kernel) (Nat.le_of_ble_eq_true rfl) ?_
  have bp754 := gB_any p754
  have bp758 := gB_any p758
  have bp759 := gB_any p759
  refine G_iload_n 3 dr_cJx4a65c_add_72be8_0 rfl ?_
  refine G_aload_n 2 dr_cJx4a65c_add_72be8_1 rfl ?_
  refine G_klen dr_cJx4a65c_add_72be8_2 gr_dt ?_
  refine G_icmp_ne 11 dr_cJx4a65c_add_72be8_3 (by decide +kernel) (fun hc => absurd (show False by have := gj_neq hc (show Int32.toInt 0 = 0 by decide); omega) not_false) (fun hc766 => ?_)
  have r768 : p753.toInt = 0 := gj_eq hc766 (show Int32.toInt 0 = 0 by decide)
  have bp753' : gB p753 0 0 := ⟨by omega, by omega⟩
  refine G_aload_n 0 dr_cJx4a65c_add_72be8_6 rfl ?_
  refine Gw_callV (As := []) (gV_ok D I) (cp_775_ArrayList_grow l hl0 D I P749 F750 q751 p754 p755 hmq751 heq751 bp755 (by omega)) dr_cJx4a65c_add_72be8_7 ⟨wr_10_7, wr_1_18, wr_10_10, by decide, rfl, (Nat.le_of_ble_eq_true rfl), (Nat.le_of_ble_eq_true rfl)⟩ wr_10_9 wr_p_86 hmq751 heq751 rfl (show 0 + 1 ≤ 1 by first | omega | decide) (show 0 + 10 ≤ 10 by first | omega | decide) (Nat.le_of_ble_eq_true rfl) (fun r840 w841 dc837 ds838 hp839 => ?_) (fun _ _ _ _ _ z => z.elim)
  obtain ⟨P845, F846, q842, n843, rfl, rfl, hsb847, hfr848, he849, he850, hm851, hq852, hdc, hds, x844⟩ := hp839
  have hm853 : q751 ∈ P845 := hsb847 q751 hmq751
  have hm854 : q752 ∈ P845 := hsb847 q752 hmq752
  have hq855 : q842 ∉ P749 := fun z => hq852 ((rSub_rf (P := P749)) q842 z)
  have hsb856 : rSub P749 P845 := rSub_tr (rSub_rf (P := P749)) hsb847
  have he857 : F846 q752 = .inr (20, [.int p756, .int p757, .int p758, .int p759, .int p760, .int p761, .int p762]) := (hfr848 q752 hmq752 (nm_c (rn_oo heq752 heq751 (by decide)) nm_n)).trans heq752
  have hfr858 : rFr [q751] P749 F750 F846 := rFr_call (rSub_rf (P := P749)) (rFr_rf (W := []) (P := P749) (F := F750)) hfr848 (fun b hb hn => ⟨nm_n, (nm_c (fun e => hn (e ▸ List.mem_cons_self)) nm_n)⟩)
  change G _ _ _ _ _ _ _ (.ref q842 :: _) _ _ _
  refine G_widen (cs' := 1) (sl' := 10) (by omega) (by omega) ?_
  refine G_astore_n (L' := [(2, .ref q842), (0, .ref q751), (1, .ref q752), (3, .int p753)]) dr_cJx4a65c_add_72be8_10 (Nat.le_of_ble_eq_true rfl) rfl ?_
  refine G_aload_n 0 dr_cJx4a65c_add_72be8_11 rfl ?_
  refine G_iload_n 3 dr_cJx4a65c_add_72be8_12 rfl ?_
  refine G_aload_n 2 dr_cJx4a65c_add_72be8_13 rfl ?_
  refine Gp_aast 4 hm851 he850 dr_cJx4a65c_add_72be8_14 rfl ⟨hm854, _, _, _, _, _, he857, rfl, gr_cast 3 rfl⟩ (gB_inr (by omega) (by omega)) (fun F859 e860 n861 => ?_)
  obtain ⟨f862, hf862⟩ : ∃ z, z = va_up (fun _ => none) p753.toNatClampNeg (some q752) := ⟨_, rfl⟩
  rw [← hf862] at e860
  have he863 : F859 q752 = .inr (20, [.int p756, .int p757, .int p758, .int p759, .int p760, .int p761, .int p762]) := (n861 q752 (fun h => hq855 (h ▸ hmq752))).trans he857
  have he864 : F859 q751 = .inr (4, [.int p754, .ref q842, .int p755]) := (n861 q751 (fun h => hq855 (h ▸ hmq751))).trans he849
  have he865 : F859 q842 = .inl (I (.object "java/lang/Object"), n843, .inr (.inr (.inr (.inr f862)))) := e860
  have hfr866 : rFr [q751] P749 F750 F859 := rFr_newp hq855 hfr858 n861
  refine G_aload_n 1 dr_cJx4a65c_add_72be8_15 rfl ?_
  refine G_iload_n 3 dr_cJx4a65c_add_72be8_16 rfl ?_
  refine G_iconst 1 dr_cJx4a65c_add_72be8_17 (by decide +kernel) ?_
  refine G_iadd dr_cJx4a65c_add_72be8_18 (G_nam fun z867 hz867 => ?_)
  have ez867 : z867.toInt = p753.toInt + 1 := by rw [gI_add hz867 bp753' (gBl (show Int32.toInt 1 = 1 by decide)) (by decide) (by decide), show Int32.toInt 1 = 1 from by decide]
  have bz867 : gB z867 1 1 := gB_add (gI_add hz867 bp753' (gBl (show Int32.toInt 1 = 1 by decide)) (by decide) (by decide)) bp753' (gBl (show Int32.toInt 1 = 1 by decide)) (by decide) (by decide)
  refine Gp_put 2 hm853 he864 dr_cJx4a65c_add_72be8_19 (gk_Jx4a65c D I) (Nat.le_of_ble_eq_true rfl) wr_7_18 rfl rfl rfl (Nat.le_of_ble_eq_true rfl) (fun F868 e869 n870 => ?_)
  have he871 : F868 q752 = .inr (20, [.int p756, .int p757, .int p758, .int p759, .int p760, .int p761, .int p762]) := (n870 q752 (rn_oo he863 he864 (by decide))).trans he863
  have he872 : F868 q842 = .inl (I (.object "java/lang/Object"), n843, .inr (.inr (.inr (.inr f862)))) := (n870 q842 (fun h => hq855 (h ▸ hmq751))).trans he865
  have he873 : F868 q751 = .inr (4, [.int p754, .ref q842, .int z867]) := e869
  have hfr874 : rFr [q751] P749 F750 F868 := rFr_put' List.mem_cons_self hfr866 n870
  exact G_vretA dr_cJx4a65c_add_72be8_22 rfl (Nat.le_of_ble_eq_true rfl) (Nat.le_of_ble_eq_true rfl) ⟨P845, F868, z867, q842, n843, f862, rfl, rfl, hsb856, hfr874, he871, he873, he872, hm851, hq855, (Nat.le_of_ble_eq_true rfl), (Nat.le_of_ble_eq_true rfl), bz867, (by omega), (rI_add (f := fun _ => none) (m := 0) (fun _ _ => rfl) hf862 (by omega) (by omega)).2, (rX_none (rSrcX_up hf862 rSrc_none)), (by omega)⟩
abbrev ky_741_ArrayList_add : gKey := (cJx4a65c_add_9ea2d, 2, "java/util/ArrayList", (some FieldType.boolean), [], "add", fun _ _ => True)
def pp_741_ArrayList_add (D : va_G) (I : FieldType → ClassId) (P727 : List Nat) (F728 : Nat → va_E) (q729 : Nat) (q730 : Nat) (p731 : Int32) (p732 : Int32) (p733 : Int32) (p734 : Int32) (p735 : Int32) (p736 : Int32) (p737 : Int32) (p738 : Int32) (p739 : Int32) : Option Value → va_W → Nat → Nat → Prop := fun r w dc ds => ∃ (P913 : List Nat) (F914 : Nat → va_E) (o908 : Int32) (o909 : Int32) (q910 : Nat) (n911 : Nat) (f912 : Nat → Option Nat), r = some (.int 1) ∧ w = va_pl P913 F914 ∧ rSub P727 P913 ∧ rFr [q729] P727 F728 F914 ∧ F914 q730 = .inr (20, [.int p733, .int p734, .int p735, .int p736, .int p737, .int p738, .int p739]) ∧ F914 q729 = .inr (4, [.int o908, .ref q910, .int o909]) ∧ F914 q910 = .inl (I (.object "java/lang/Object"), n911, .inr (.inr (.inr (.inr f912)))) ∧ q910 ∈ P913 ∧ q910 ∉ P727 ∧ dc ≤ 1 ∧ ds ≤ 10 ∧ gB o909 1 1 ∧ o909.toInt = p732.toInt + 1 ∧ f912 p732.toInt.toNat = some q730 ∧ (∀ j w, f912 j = some w → w = q730) ∧ (n911 : Int) = 10
set_option maxRecDepth 100000 in
set_option maxHeartbeats 4000000 in
theorem cp_741_ArrayList_add (l : Launch) (hl0 : l.stackTraces = false) (D : va_G) (I : FieldType → ClassId) (P727 : List Nat) (F728 : Nat → va_E) (q729 : Nat) (q730 : Nat) (p731 : Int32) (p732 : Int32) (p733 : Int32) (p734 : Int32) (p735 : Int32) (p736 : Int32) (p737 : Int32) (p738 : Int32) (p739 : Int32) (hmq729 : q729 ∈ P727) (hmq730 : q730 ∈ P727) (heq729 : F728 q729 = .inr (4, [.int p731, .ref (D.2 1002 1), .int p732])) (heq730 : F728 q730 = .inr (20, [.int p733, .int p734, .int p735, .int p736, .int p737, .int p738, .int p739])) (bp732 : gB p732 0 16777216) (bp733 : gB p733 0 32) (bp734 : gB p734 0 1999) (bp737 : gB p737 0 1999) (bp738 : gB p738 0 1) (bp739 : gB p739 0 1) (x740 : p732.toInt = 0) : CtA (gV D I) l yJx4a65c_add_9ea2d cJx4a65c_add_9ea2d 2 (some FieldType.boolean) 4 80 1 10 [.ref q729, .ref q730] (va_pl P727 F728) (pp_741_ArrayList_add D I P727 F728 q729 q730 p731 p732 p733 p734 p735 p736 p737 p738 p739) gNA := by
  refine CtA_ofF hl0 (by decide +kernel) (Nat.le_of_ble_eq_true rfl) ?_
  have bp731 := gB_any p731
  have bp735 := gB_any p735
  have bp736 := gB_any p736
  refine G_aload_n 0 dr_cJx4a65c_add_9ea2d_0 rfl ?_
  refine G_dup dr_cJx4a65c_add_9ea2d_1 rfl ?_
  refine Gp_getS 0 hmq729 heq729 dr_cJx4a65c_add_9ea2d_2 (gk_Jx4a65c D I) (Nat.le_of_ble_eq_true rfl) wr_7_20 wr_7_21 rfl ?_
  refine G_iconst 1 dr_cJx4a65c_add_9ea2d_5 (by decide +kernel) ?_
  refine G_iadd dr_cJx4a65c_add_9ea2d_6 (G_nam fun z742 hz742 => ?_)
  have bz742 : gB z742 (-2147483648) 2147483647 := gB_any z742
  refine Gp_putS 0 hmq729 heq729 dr_cJx4a65c_add_9ea2d_7 (gk_Jx4a65c D I) (Nat.le_of_ble_eq_true rfl) wr_7_20 wr_7_21 rfl rfl rfl (Nat.le_of_ble_eq_true rfl) (fun F743 e744 n745 => ?_)
  have he746 : F743 q730 = .inr (20, [.int p733, .int p734, .int p735, .int p736, .int p737, .int p738, .int p739]) := (n745 q730 (rn_oo heq730 heq729 (by decide))).trans heq730
  have he747 : F743 q729 = .inr (4, [.int z742, .ref (D.2 1002 1), .int p732]) := e744
  have hfr748 : rFr [q729] P727 F728 F743 := rFr_put (rFr_rf (W := []) (P := P727) (F := F728)) n745
  refine G_aload_n 0 dr_cJx4a65c_add_9ea2d_10 rfl ?_
  refine G_aload_n 1 dr_cJx4a65c_add_9ea2d_11 rfl ?_
  refine G_aload_n 0 dr_cJx4a65c_add_9ea2d_12 rfl ?_
  refine Gp_get 1 hmq729 he747 dr_cJx4a65c_add_9ea2d_13 (gk_Jx4a65c D I) (Nat.le_of_ble_eq_true rfl) wr_7_17 rfl ?_
  refine G_aload_n 0 dr_cJx4a65c_add_9ea2d_16 rfl ?_
  refine Gp_get 2 hmq729 he747 dr_cJx4a65c_add_9ea2d_17 (gk_Jx4a65c D I) (Nat.le_of_ble_eq_true rfl) wr_7_18 rfl ?_
  refine Gw_callV (As := [.ref q730, .ref (D.2 1002 1), .int p732]) (gV_ok D I) (cp_765_ArrayList_add l hl0 D I P727 F743 q729 q730 p732 z742 p732 p733 p734 p735 p736 p737 p738 p739 hmq729 hmq730 he747 he746 bp732 bp732 bp733 bp734 bp737 bp738 bp739 (by omega) (by omega)) dr_cJx4a65c_add_9ea2d_20 ⟨wr_10_3, wr_1_18, wr_10_6, by decide, rfl, (Nat.le_of_ble_eq_true rfl), (Nat.le_of_ble_eq_true rfl)⟩ wr_10_5 wr_p_85 hmq729 he747 rfl (show 0 + 1 ≤ 1 by first | omega | decide) (show 0 + 10 ≤ 10 by first | omega | decide) (Nat.le_of_ble_eq_true rfl) (fun r884 w885 dc881 ds882 hp883 => ?_) (fun _ _ _ _ _ z => z.elim)
  obtain ⟨P894, F895, o886, q887, n888, f889, rfl, rfl, hsb896, hfr897, he898, he899, he900, hm901, hq902, hdc, hds, bo886, x890, x891, x892, x893⟩ := hp883
  have hm903 : q729 ∈ P894 := hsb896 q729 hmq729
  have hm904 : q730 ∈ P894 := hsb896 q730 hmq730
  have hq905 : q887 ∉ P727 := fun z => hq902 ((rSub_rf (P := P727)) q887 z)
  have hsb906 : rSub P727 P894 := rSub_tr (rSub_rf (P := P727)) hsb896
  have hfr907 : rFr [q729] P727 F728 F895 := rFr_call (rSub_rf (P := P727)) hfr748 hfr897 (fun b hb hn => ⟨(nm_c (fun e => hn (e ▸ List.mem_cons_self)) nm_n), (nm_c (fun e => hn (e ▸ List.mem_cons_self)) nm_n)⟩)
  change G _ _ _ _ _ _ _ _ _ _ _
  refine G_widen (cs' := 1) (sl' := 10) (by omega) (by omega) ?_
  refine G_iconst 1 dr_cJx4a65c_add_9ea2d_23 (by decide +kernel) ?_
  exact G_zretA FieldType.boolean dr_cJx4a65c_add_9ea2d_24 rfl rfl (Nat.le_of_ble_eq_true rfl) (Nat.le_of_ble_eq_true rfl) ⟨P894, F895, z742, o886, q887, n888, f889, rfl, rfl, hsb906, hfr907, he898, he899, he900, hm901, hq905, (Nat.le_of_ble_eq_true rfl), (Nat.le_of_ble_eq_true rfl), bo886, (by omega), (by assumption), (by assumption), (by omega)⟩
abbrev ky_947_ArrayList_add : gKey := (cJx4a65c_add_72be8, 4, "java/util/ArrayList", none, [], "add", fun _ _ => True)
def pp_947_ArrayList_add (D : va_G) (I : FieldType → ClassId) (P934 : List Nat) (F935 : Nat → va_E) (q936 : Nat) (q937 : Nat) (p938 : Int32) (p939 : Int32) (p940 : Int32) (qo941 : Nat) (qo942 : Nat) (p943 : Int32) (p944 : Int32) : Option Value → va_W → Nat → Nat → Prop := fun r w dc ds => ∃ (P993 : List Nat) (F994 : Nat → va_E) (o989 : Int32) (q990 : Nat) (n991 : Nat) (f992 : Nat → Option Nat), r = none ∧ w = va_pl P993 F994 ∧ rSub P934 P993 ∧ rFr [q936] P934 F935 F994 ∧ F994 q937 = .inr (17, [.ref qo941, .ref qo942, .int p943, .int p944]) ∧ F994 q936 = .inr (4, [.int p939, .ref q990, .int o989]) ∧ F994 q990 = .inl (I (.object "java/lang/Object"), n991, .inr (.inr (.inr (.inr f992)))) ∧ q990 ∈ P993 ∧ q990 ∉ P934 ∧ dc ≤ 1 ∧ ds ≤ 10 ∧ gB o989 1 1 ∧ o989.toInt = p940.toInt + 1 ∧ f992 p938.toInt.toNat = some q937 ∧ (∀ j w, f992 j = some w → w = q937) ∧ (n991 : Int) = 10
set_option maxRecDepth 100000 in
set_option maxHeartbeats 4000000 in
theorem cp_947_ArrayList_add (l : Launch) (hl0 : l.stackTraces = false) (D : va_G) (I : FieldType → ClassId) (P934 : List Nat) (F935 : Nat → va_E) (q936 : Nat) (q937 : Nat) (p938 : Int32) (p939 : Int32) (p940 : Int32) (qo941 : Nat) (qo942 : Nat) (p943 : Int32) (p944 : Int32) (hmq936 : q936 ∈ P934) (hmq937 : q937 ∈ P934) (heq936 : F935 q936 = .inr (4, [.int p939, .ref (D.2 1002 1), .int p940])) (heq937 : F935 q937 = .inr (17, [.ref qo941, .ref qo942, .int p943, .int p944])) (bp938 : gB p938 0 16777216) (bp940 : gB p940 0 16777216) (bp943 : gB p943 0 39) (bp944 : gB p944 0 39) (x945 : p940.toInt = 0) (x946 : p938.toInt = p940.toInt) : CtA (gV D I) l yJx4a65c_add_72be8 cJx4a65c_add_72be8 4 none 3 57 1 10 [.ref q936, .ref q937, .ref (D.2 1002 1), .int p938] (va_pl P934 F935) (pp_947_ArrayList_add D I P934 F935 q936 q937 p938 p939 p940 qo941 qo942 p943 p944) gNA := by
  refine CtA_ofF hl0 (by decide +kernel) (Nat.le_of_ble_eq_true rfl) ?_
  have bp939 := gB_any p939
  refine G_iload_n 3 dr_cJx4a65c_add_72be8_0 rfl ?_
  refine G_aload_n 2 dr_cJx4a65c_add_72be8_1 rfl ?_
  refine G_klen dr_cJx4a65c_add_72be8_2 gr_dt ?_
  refine G_icmp_ne 11 dr_cJx4a65c_add_72be8_3 (by decide +kernel) (fun hc => absurd (show False by have := gj_neq hc (show Int32.toInt 0 = 0 by decide); omega) not_false) (fun hc948 => ?_)
  have r950 : p938.toInt = 0 := gj_eq hc948 (show Int32.toInt 0 = 0 by decide)
  have bp938' : gB p938 0 0 := ⟨by omega, by omega⟩
  refine G_aload_n 0 dr_cJx4a65c_add_72be8_6 rfl ?_
  refine Gw_callV (As := []) (gV_ok D I) (cp_775_ArrayList_grow l hl0 D I P934 F935 q936 p939 p940 hmq936 heq936 bp940 (by omega)) dr_cJx4a65c_add_72be8_7 ⟨wr_10_7, wr_1_18, wr_10_10, by decide, rfl, (Nat.le_of_ble_eq_true rfl), (Nat.le_of_ble_eq_true rfl)⟩ wr_10_9 wr_p_86 hmq936 heq936 rfl (show 0 + 1 ≤ 1 by first | omega | decide) (show 0 + 10 ≤ 10 by first | omega | decide) (Nat.le_of_ble_eq_true rfl) (fun r954 w955 dc951 ds952 hp953 => ?_) (fun _ _ _ _ _ z => z.elim)
  obtain ⟨P959, F960, q956, n957, rfl, rfl, hsb961, hfr962, he963, he964, hm965, hq966, hdc, hds, x958⟩ := hp953
  have hm967 : q936 ∈ P959 := hsb961 q936 hmq936
  have hm968 : q937 ∈ P959 := hsb961 q937 hmq937
  have hq969 : q956 ∉ P934 := fun z => hq966 ((rSub_rf (P := P934)) q956 z)
  have hsb970 : rSub P934 P959 := rSub_tr (rSub_rf (P := P934)) hsb961
  have he971 : F960 q937 = .inr (17, [.ref qo941, .ref qo942, .int p943, .int p944]) := (hfr962 q937 hmq937 (nm_c (rn_oo heq937 heq936 (by decide)) nm_n)).trans heq937
  have hfr972 : rFr [q936] P934 F935 F960 := rFr_call (rSub_rf (P := P934)) (rFr_rf (W := []) (P := P934) (F := F935)) hfr962 (fun b hb hn => ⟨nm_n, (nm_c (fun e => hn (e ▸ List.mem_cons_self)) nm_n)⟩)
  change G _ _ _ _ _ _ _ (.ref q956 :: _) _ _ _
  refine G_widen (cs' := 1) (sl' := 10) (by omega) (by omega) ?_
  refine G_astore_n (L' := [(2, .ref q956), (0, .ref q936), (1, .ref q937), (3, .int p938)]) dr_cJx4a65c_add_72be8_10 (Nat.le_of_ble_eq_true rfl) rfl ?_
  refine G_aload_n 0 dr_cJx4a65c_add_72be8_11 rfl ?_
  refine G_iload_n 3 dr_cJx4a65c_add_72be8_12 rfl ?_
  refine G_aload_n 2 dr_cJx4a65c_add_72be8_13 rfl ?_
  refine Gp_aast 4 hm965 he964 dr_cJx4a65c_add_72be8_14 rfl ⟨hm968, _, _, _, _, _, he971, rfl, gr_cast 2 rfl⟩ (gB_inr (by omega) (by omega)) (fun F973 e974 n975 => ?_)
  obtain ⟨f976, hf976⟩ : ∃ z, z = va_up (fun _ => none) p938.toNatClampNeg (some q937) := ⟨_, rfl⟩
  rw [← hf976] at e974
  have he977 : F973 q937 = .inr (17, [.ref qo941, .ref qo942, .int p943, .int p944]) := (n975 q937 (fun h => hq969 (h ▸ hmq937))).trans he971
  have he978 : F973 q936 = .inr (4, [.int p939, .ref q956, .int p940]) := (n975 q936 (fun h => hq969 (h ▸ hmq936))).trans he963
  have he979 : F973 q956 = .inl (I (.object "java/lang/Object"), n957, .inr (.inr (.inr (.inr f976)))) := e974
  have hfr980 : rFr [q936] P934 F935 F973 := rFr_newp hq969 hfr972 n975
  refine G_aload_n 1 dr_cJx4a65c_add_72be8_15 rfl ?_
  refine G_iload_n 3 dr_cJx4a65c_add_72be8_16 rfl ?_
  refine G_iconst 1 dr_cJx4a65c_add_72be8_17 (by decide +kernel) ?_
  refine G_iadd dr_cJx4a65c_add_72be8_18 (G_nam fun z981 hz981 => ?_)
  have ez981 : z981.toInt = p938.toInt + 1 := by rw [gI_add hz981 bp938' (gBl (show Int32.toInt 1 = 1 by decide)) (by decide) (by decide), show Int32.toInt 1 = 1 from by decide]
  have bz981 : gB z981 1 1 := gB_add (gI_add hz981 bp938' (gBl (show Int32.toInt 1 = 1 by decide)) (by decide) (by decide)) bp938' (gBl (show Int32.toInt 1 = 1 by decide)) (by decide) (by decide)
  refine Gp_put 2 hm967 he978 dr_cJx4a65c_add_72be8_19 (gk_Jx4a65c D I) (Nat.le_of_ble_eq_true rfl) wr_7_18 rfl rfl rfl (Nat.le_of_ble_eq_true rfl) (fun F982 e983 n984 => ?_)
  have he985 : F982 q937 = .inr (17, [.ref qo941, .ref qo942, .int p943, .int p944]) := (n984 q937 (rn_oo he977 he978 (by decide))).trans he977
  have he986 : F982 q956 = .inl (I (.object "java/lang/Object"), n957, .inr (.inr (.inr (.inr f976)))) := (n984 q956 (fun h => hq969 (h ▸ hmq936))).trans he979
  have he987 : F982 q936 = .inr (4, [.int p939, .ref q956, .int z981]) := e983
  have hfr988 : rFr [q936] P934 F935 F982 := rFr_put' List.mem_cons_self hfr980 n984
  exact G_vretA dr_cJx4a65c_add_72be8_22 rfl (Nat.le_of_ble_eq_true rfl) (Nat.le_of_ble_eq_true rfl) ⟨P959, F982, z981, q956, n957, f976, rfl, rfl, hsb970, hfr988, he985, he987, he986, hm965, hq969, (Nat.le_of_ble_eq_true rfl), (Nat.le_of_ble_eq_true rfl), bz981, (by omega), (rI_add (f := fun _ => none) (m := 0) (fun _ _ => rfl) hf976 (by omega) (by omega)).2, (rX_none (rSrcX_up hf976 rSrc_none)), (by omega)⟩
abbrev ky_926_ArrayList_add : gKey := (cJx4a65c_add_9ea2d, 2, "java/util/ArrayList", (some FieldType.boolean), [], "add", fun _ _ => True)
def pp_926_ArrayList_add (D : va_G) (I : FieldType → ClassId) (P915 : List Nat) (F916 : Nat → va_E) (q917 : Nat) (q918 : Nat) (p919 : Int32) (p920 : Int32) (qo921 : Nat) (qo922 : Nat) (p923 : Int32) (p924 : Int32) : Option Value → va_W → Nat → Nat → Prop := fun r w dc ds => ∃ (P1027 : List Nat) (F1028 : Nat → va_E) (o1022 : Int32) (o1023 : Int32) (q1024 : Nat) (n1025 : Nat) (f1026 : Nat → Option Nat), r = some (.int 1) ∧ w = va_pl P1027 F1028 ∧ rSub P915 P1027 ∧ rFr [q917] P915 F916 F1028 ∧ F1028 q918 = .inr (17, [.ref qo921, .ref qo922, .int p923, .int p924]) ∧ F1028 q917 = .inr (4, [.int o1022, .ref q1024, .int o1023]) ∧ F1028 q1024 = .inl (I (.object "java/lang/Object"), n1025, .inr (.inr (.inr (.inr f1026)))) ∧ q1024 ∈ P1027 ∧ q1024 ∉ P915 ∧ dc ≤ 1 ∧ ds ≤ 10 ∧ gB o1023 1 1 ∧ o1023.toInt = p920.toInt + 1 ∧ f1026 p920.toInt.toNat = some q918 ∧ (∀ j w, f1026 j = some w → w = q918) ∧ (n1025 : Int) = 10
set_option maxRecDepth 100000 in
set_option maxHeartbeats 4000000 in
theorem cp_926_ArrayList_add (l : Launch) (hl0 : l.stackTraces = false) (D : va_G) (I : FieldType → ClassId) (P915 : List Nat) (F916 : Nat → va_E) (q917 : Nat) (q918 : Nat) (p919 : Int32) (p920 : Int32) (qo921 : Nat) (qo922 : Nat) (p923 : Int32) (p924 : Int32) (hmq917 : q917 ∈ P915) (hmq918 : q918 ∈ P915) (heq917 : F916 q917 = .inr (4, [.int p919, .ref (D.2 1002 1), .int p920])) (heq918 : F916 q918 = .inr (17, [.ref qo921, .ref qo922, .int p923, .int p924])) (bp920 : gB p920 0 16777216) (bp923 : gB p923 0 39) (bp924 : gB p924 0 39) (x925 : p920.toInt = 0) : CtA (gV D I) l yJx4a65c_add_9ea2d cJx4a65c_add_9ea2d 2 (some FieldType.boolean) 4 80 1 10 [.ref q917, .ref q918] (va_pl P915 F916) (pp_926_ArrayList_add D I P915 F916 q917 q918 p919 p920 qo921 qo922 p923 p924) gNA := by
  refine CtA_ofF hl0 (by decide +kernel) (Nat.le_of_ble_eq_true rfl) ?_
  have bp919 := gB_any p919
  refine G_aload_n 0 dr_cJx4a65c_add_9ea2d_0 rfl ?_
  refine G_dup dr_cJx4a65c_add_9ea2d_1 rfl ?_
  refine Gp_getS 0 hmq917 heq917 dr_cJx4a65c_add_9ea2d_2 (gk_Jx4a65c D I) (Nat.le_of_ble_eq_true rfl) wr_7_20 wr_7_21 rfl ?_
  refine G_iconst 1 dr_cJx4a65c_add_9ea2d_5 (by decide +kernel) ?_
  refine G_iadd dr_cJx4a65c_add_9ea2d_6 (G_nam fun z927 hz927 => ?_)
  have bz927 : gB z927 (-2147483648) 2147483647 := gB_any z927
  refine Gp_putS 0 hmq917 heq917 dr_cJx4a65c_add_9ea2d_7 (gk_Jx4a65c D I) (Nat.le_of_ble_eq_true rfl) wr_7_20 wr_7_21 rfl rfl rfl (Nat.le_of_ble_eq_true rfl) (fun F928 e929 n930 => ?_)
  have he931 : F928 q918 = .inr (17, [.ref qo921, .ref qo922, .int p923, .int p924]) := (n930 q918 (rn_oo heq918 heq917 (by decide))).trans heq918
  have he932 : F928 q917 = .inr (4, [.int z927, .ref (D.2 1002 1), .int p920]) := e929
  have hfr933 : rFr [q917] P915 F916 F928 := rFr_put (rFr_rf (W := []) (P := P915) (F := F916)) n930
  refine G_aload_n 0 dr_cJx4a65c_add_9ea2d_10 rfl ?_
  refine G_aload_n 1 dr_cJx4a65c_add_9ea2d_11 rfl ?_
  refine G_aload_n 0 dr_cJx4a65c_add_9ea2d_12 rfl ?_
  refine Gp_get 1 hmq917 he932 dr_cJx4a65c_add_9ea2d_13 (gk_Jx4a65c D I) (Nat.le_of_ble_eq_true rfl) wr_7_17 rfl ?_
  refine G_aload_n 0 dr_cJx4a65c_add_9ea2d_16 rfl ?_
  refine Gp_get 2 hmq917 he932 dr_cJx4a65c_add_9ea2d_17 (gk_Jx4a65c D I) (Nat.le_of_ble_eq_true rfl) wr_7_18 rfl ?_
  refine Gw_callV (As := [.ref q918, .ref (D.2 1002 1), .int p920]) (gV_ok D I) (cp_947_ArrayList_add l hl0 D I P915 F928 q917 q918 p920 z927 p920 qo921 qo922 p923 p924 hmq917 hmq918 he932 he931 bp920 bp920 bp923 bp924 (by omega) (by omega)) dr_cJx4a65c_add_9ea2d_20 ⟨wr_10_3, wr_1_18, wr_10_6, by decide, rfl, (Nat.le_of_ble_eq_true rfl), (Nat.le_of_ble_eq_true rfl)⟩ wr_10_5 wr_p_85 hmq917 he932 rfl (show 0 + 1 ≤ 1 by first | omega | decide) (show 0 + 10 ≤ 10 by first | omega | decide) (Nat.le_of_ble_eq_true rfl) (fun r998 w999 dc995 ds996 hp997 => ?_) (fun _ _ _ _ _ z => z.elim)
  obtain ⟨P1008, F1009, o1000, q1001, n1002, f1003, rfl, rfl, hsb1010, hfr1011, he1012, he1013, he1014, hm1015, hq1016, hdc, hds, bo1000, x1004, x1005, x1006, x1007⟩ := hp997
  have hm1017 : q917 ∈ P1008 := hsb1010 q917 hmq917
  have hm1018 : q918 ∈ P1008 := hsb1010 q918 hmq918
  have hq1019 : q1001 ∉ P915 := fun z => hq1016 ((rSub_rf (P := P915)) q1001 z)
  have hsb1020 : rSub P915 P1008 := rSub_tr (rSub_rf (P := P915)) hsb1010
  have hfr1021 : rFr [q917] P915 F916 F1009 := rFr_call (rSub_rf (P := P915)) hfr933 hfr1011 (fun b hb hn => ⟨(nm_c (fun e => hn (e ▸ List.mem_cons_self)) nm_n), (nm_c (fun e => hn (e ▸ List.mem_cons_self)) nm_n)⟩)
  change G _ _ _ _ _ _ _ _ _ _ _
  refine G_widen (cs' := 1) (sl' := 10) (by omega) (by omega) ?_
  refine G_iconst 1 dr_cJx4a65c_add_9ea2d_23 (by decide +kernel) ?_
  exact G_zretA FieldType.boolean dr_cJx4a65c_add_9ea2d_24 rfl rfl (Nat.le_of_ble_eq_true rfl) (Nat.le_of_ble_eq_true rfl) ⟨P1008, F1009, z927, o1000, q1001, n1002, f1003, rfl, rfl, hsb1020, hfr1021, he1012, he1013, he1014, hm1015, hq1019, (Nat.le_of_ble_eq_true rfl), (Nat.le_of_ble_eq_true rfl), bo1000, (by omega), (by assumption), (by assumption), (by omega)⟩
abbrev ky_1062_ArrayList_rangeCheckForAdd : gKey := (cJx4a65c_rangeCheckForAdd_d00df, 2, "java/util/ArrayList", none, [], "rangeCheckForAdd", fun _ _ => True)
def pp_1062_ArrayList_rangeCheckForAdd (D : va_G) (I : FieldType → ClassId) (P1051 : List Nat) (F1052 : Nat → va_E) (q1053 : Nat) (q1054 : Nat) (p1055 : Int32) (p1056 : Int32) (p1057 : Int32) (f1058 : Nat → Option Nat) (n1059 : Nat) : Option Value → va_W → Nat → Nat → Prop := fun r w dc ds => r = none ∧ w = va_pl P1051 F1052 ∧ dc ≤ 0 ∧ ds ≤ 0
set_option maxRecDepth 100000 in
set_option maxHeartbeats 4000000 in
theorem cp_1062_ArrayList_rangeCheckForAdd (l : Launch) (hl0 : l.stackTraces = false) (D : va_G) (I : FieldType → ClassId) (P1051 : List Nat) (F1052 : Nat → va_E) (q1053 : Nat) (q1054 : Nat) (p1055 : Int32) (p1056 : Int32) (p1057 : Int32) (f1058 : Nat → Option Nat) (n1059 : Nat) (hmq1053 : q1053 ∈ P1051) (hmq1054 : q1054 ∈ P1051) (heq1053 : F1052 q1053 = .inr (4, [.int p1056, .ref q1054, .int p1057])) (heq1054 : F1052 q1054 = .inl (I (.object "java/lang/Object"), n1059, .inr (.inr (.inr (.inr f1058))))) (bp1055 : gB p1055 0 16777216) (bp1057 : gB p1057 0 16777216) (x1060 : p1055.toInt ≤ p1057.toInt) (x1061 : ((n1059 : Int) ≤ 16777216)) : CtA (gV D I) l yJx4a65c_rangeCheckForAdd_d00df cJx4a65c_rangeCheckForAdd_d00df 2 none 0 0 0 0 [.ref q1053, .int p1055] (va_pl P1051 F1052) (pp_1062_ArrayList_rangeCheckForAdd D I P1051 F1052 q1053 q1054 p1055 p1056 p1057 f1058 n1059) gNA := by
  refine CtA_ofF hl0 (by decide +kernel) (Nat.le_of_ble_eq_true rfl) ?_
  have bp1056 := gB_any p1056
  refine G_iload_n 1 dr_cJx4a65c_rangeCheckForAdd_d00df_0 rfl ?_
  refine G_aload_n 0 dr_cJx4a65c_rangeCheckForAdd_d00df_1 rfl ?_
  refine Gp_get 2 hmq1053 heq1053 dr_cJx4a65c_rangeCheckForAdd_d00df_2 (gk_Jx4a65c D I) (Nat.le_of_ble_eq_true rfl) wr_7_18 rfl ?_
  refine G_icmp_gt 12 dr_cJx4a65c_rangeCheckForAdd_d00df_5 (by decide +kernel) (fun hc => absurd (show False by have := gC_lt hc; omega) not_false) (fun hc1063 => ?_)
  have r1065 : p1055.toInt ≤ p1057.toInt := gC_nlt hc1063
  refine G_iload_n 1 dr_cJx4a65c_rangeCheckForAdd_d00df_8 rfl ?_
  refine G_if_ge 25 dr_cJx4a65c_rangeCheckForAdd_d00df_9 (by decide +kernel) (fun _ => ?_) (fun hc => absurd (show False by have := gj_nleL hc (show Int32.toInt 0 = 0 by decide); omega) not_false)
  exact G_vretA dr_cJx4a65c_rangeCheckForAdd_d00df_25 rfl (Nat.le_of_ble_eq_true rfl) (Nat.le_of_ble_eq_true rfl) ⟨rfl, rfl, (Nat.le_of_ble_eq_true rfl), (Nat.le_of_ble_eq_true rfl)⟩
abbrev ky_1050_ArrayList_add : gKey := (cJx4a65c_add_7a177, 5, "java/util/ArrayList", none, [], "add", fun _ _ => True)
def pp_1050_ArrayList_add (D : va_G) (I : FieldType → ClassId) (P1029 : List Nat) (F1030 : Nat → va_E) (q1031 : Nat) (q1032 : Nat) (q1033 : Nat) (p1034 : Int32) (p1035 : Int32) (p1036 : Int32) (p1037 : Int32) (p1038 : Int32) (p1039 : Int32) (p1040 : Int32) (p1041 : Int32) (p1042 : Int32) (p1043 : Int32) (f1044 : Nat → Option Nat) (n1045 : Nat) : Option Value → va_W → Nat → Nat → Prop := fun r w dc ds => ∃ (F1113 : Nat → va_E) (o1109 : Int32) (o1110 : Int32) (f1111 : Nat → Option Nat), r = none ∧ w = va_pl P1029 F1113 ∧ rFr [q1033, q1031] P1029 F1030 F1113 ∧ F1113 q1031 = .inr (4, [.int o1109, .ref q1033, .int o1110]) ∧ F1113 q1032 = .inr (20, [.int p1037, .int p1038, .int p1039, .int p1040, .int p1041, .int p1042, .int p1043]) ∧ F1113 q1033 = .inl (I (.object "java/lang/Object"), n1045, .inr (.inr (.inr (.inr f1111)))) ∧ dc ≤ 0 ∧ ds ≤ 0 ∧ gB o1110 1 16777217 ∧ o1110.toInt = p1036.toInt + 1 ∧ ((∀ j : Nat, (j : Int) < p1034.toInt → f1111 j = f1044 j) ∧ f1111 p1034.toInt.toNat = some q1032 ∧ ∀ j : Nat, p1034.toInt ≤ (j : Int) → (j : Int) < p1036.toInt → f1111 (j + 1) = f1044 j) ∧ rSrcX f1111 f1044 q1032
set_option maxRecDepth 100000 in
set_option maxHeartbeats 4000000 in
theorem cp_1050_ArrayList_add (l : Launch) (hl0 : l.stackTraces = false) (D : va_G) (I : FieldType → ClassId) (P1029 : List Nat) (F1030 : Nat → va_E) (q1031 : Nat) (q1032 : Nat) (q1033 : Nat) (p1034 : Int32) (p1035 : Int32) (p1036 : Int32) (p1037 : Int32) (p1038 : Int32) (p1039 : Int32) (p1040 : Int32) (p1041 : Int32) (p1042 : Int32) (p1043 : Int32) (f1044 : Nat → Option Nat) (n1045 : Nat) (hmq1031 : q1031 ∈ P1029) (hmq1032 : q1032 ∈ P1029) (hmq1033 : q1033 ∈ P1029) (heq1031 : F1030 q1031 = .inr (4, [.int p1035, .ref q1033, .int p1036])) (heq1032 : F1030 q1032 = .inr (20, [.int p1037, .int p1038, .int p1039, .int p1040, .int p1041, .int p1042, .int p1043])) (heq1033 : F1030 q1033 = .inl (I (.object "java/lang/Object"), n1045, .inr (.inr (.inr (.inr f1044))))) (bp1034 : gB p1034 0 16777216) (bp1036 : gB p1036 0 16777216) (bp1037 : gB p1037 0 32) (bp1038 : gB p1038 0 1999) (bp1041 : gB p1041 0 1999) (bp1042 : gB p1042 0 1) (bp1043 : gB p1043 0 1) (x1046 : p1036.toInt < (n1045 : Int)) (x1047 : p1034.toInt ≤ p1036.toInt) (x1048 : rEl P1029 F1030 f1044) (x1049 : ((n1045 : Int) ≤ 16777216)) : CtA (gV D I) l yJx4a65c_add_7a177 cJx4a65c_add_7a177 5 none 1 21 0 0 [.ref q1031, .int p1034, .ref q1032] (va_pl P1029 F1030) (pp_1050_ArrayList_add D I P1029 F1030 q1031 q1032 q1033 p1034 p1035 p1036 p1037 p1038 p1039 p1040 p1041 p1042 p1043 f1044 n1045) gNA := by
  refine CtA_ofF hl0 (by decide +kernel) (Nat.le_of_ble_eq_true rfl) ?_
  have bp1035 := gB_any p1035
  have bp1039 := gB_any p1039
  have bp1040 := gB_any p1040
  refine G_aload_n 0 dr_cJx4a65c_add_7a177_0 rfl ?_
  refine G_iload_n 1 dr_cJx4a65c_add_7a177_1 rfl ?_
  refine Gw_callV (As := [.int p1034]) (gV_ok D I) (cp_1062_ArrayList_rangeCheckForAdd l hl0 D I P1029 F1030 q1031 q1033 p1034 p1035 p1036 f1044 n1045 hmq1031 hmq1033 heq1031 heq1033 bp1034 bp1036 (by omega) (by omega)) dr_cJx4a65c_add_7a177_2 ⟨wr_10_207, wr_1_18, wr_10_210, by decide, rfl, (Nat.le_of_ble_eq_true rfl), (Nat.le_of_ble_eq_true rfl)⟩ wr_10_209 wr_p_97 hmq1031 heq1031 rfl (show 0 + 0 ≤ 0 by first | omega | decide) (show 0 + 0 ≤ 0 by first | omega | decide) (Nat.le_of_ble_eq_true rfl) (fun r1069 w1070 dc1066 ds1067 hp1068 => ?_) (fun _ _ _ _ _ z => z.elim)
  obtain ⟨rfl, rfl, hdc, hds⟩ := hp1068
  change G _ _ _ _ _ _ _ _ _ _ _
  refine G_widen (cs' := 0) (sl' := 0) (by omega) (by omega) ?_
  refine G_aload_n 0 dr_cJx4a65c_add_7a177_5 rfl ?_
  refine G_dup dr_cJx4a65c_add_7a177_6 rfl ?_
  refine Gp_getS 0 hmq1031 heq1031 dr_cJx4a65c_add_7a177_7 (gk_Jx4a65c D I) (Nat.le_of_ble_eq_true rfl) wr_7_20 wr_7_21 rfl ?_
  refine G_iconst 1 dr_cJx4a65c_add_7a177_10 (by decide +kernel) ?_
  refine G_iadd dr_cJx4a65c_add_7a177_11 (G_nam fun z1071 hz1071 => ?_)
  have bz1071 : gB z1071 (-2147483648) 2147483647 := gB_any z1071
  refine Gp_putS 0 hmq1031 heq1031 dr_cJx4a65c_add_7a177_12 (gk_Jx4a65c D I) (Nat.le_of_ble_eq_true rfl) wr_7_20 wr_7_21 rfl rfl rfl (Nat.le_of_ble_eq_true rfl) (fun F1072 e1073 n1074 => ?_)
  have he1075 : F1072 q1032 = .inr (20, [.int p1037, .int p1038, .int p1039, .int p1040, .int p1041, .int p1042, .int p1043]) := (n1074 q1032 (rn_oo heq1032 heq1031 (by decide))).trans heq1032
  have he1076 : F1072 q1033 = .inl (I (.object "java/lang/Object"), n1045, .inr (.inr (.inr (.inr f1044)))) := (n1074 q1033 (rn_ao heq1033 heq1031)).trans heq1033
  have he1077 : F1072 q1031 = .inr (4, [.int z1071, .ref q1033, .int p1036]) := e1073
  have hfr1078 : rFr [q1031] P1029 F1030 F1072 := rFr_put (rFr_rf (W := []) (P := P1029) (F := F1030)) n1074
  refine G_aload_n 0 dr_cJx4a65c_add_7a177_15 rfl ?_
  refine Gp_get 2 hmq1031 he1077 dr_cJx4a65c_add_7a177_16 (gk_Jx4a65c D I) (Nat.le_of_ble_eq_true rfl) wr_7_18 rfl ?_
  refine G_dup dr_cJx4a65c_add_7a177_19 rfl ?_
  refine G_istore_n (L' := [(3, .int p1036), (0, .ref q1031), (1, .int p1034), (2, .ref q1032)]) dr_cJx4a65c_add_7a177_20 (Nat.le_of_ble_eq_true rfl) rfl ?_
  refine G_aload_n 1 dr_cJx4a65c_add_7a177_21 rfl ?_
  refine Gp_get 1 hmq1031 he1077 dr_cJx4a65c_add_7a177_22 (gk_Jx4a65c D I) (Nat.le_of_ble_eq_true rfl) wr_7_17 rfl ?_
  refine G_dup dr_cJx4a65c_add_7a177_25 rfl ?_
  refine G_astore (L' := [(4, .ref q1033), (3, .int p1036), (0, .ref q1031), (1, .int p1034), (2, .ref q1032)]) dr_cJx4a65c_add_7a177_26 (Nat.le_of_ble_eq_true rfl) rfl ?_
  refine Gp_alen (Int32.ofNat n1045) 4 hmq1033 he1076 dr_cJx4a65c_add_7a177_28 rfl rfl (G_nam fun z1079 hz1079 => ?_)
  have ez1079 : z1079.toInt = (n1045 : Nat) := gI_ofM hz1079 (by omega)
  have bz1079 : gB z1079 0 16777216 := ⟨by omega, by omega⟩
  refine G_icmp_ne 38 dr_cJx4a65c_add_7a177_29 (by decide +kernel) (fun hc1080 => ?_) (fun hc => absurd (show False by have := gC_eq hc; omega) not_false)
  have r1082 : p1036.toInt ≠ z1079.toInt := gC_ne hc1080
  refine G_aload 0 dr_cJx4a65c_add_7a177_38 rfl ?_
  refine G_iload_n 3 dr_cJx4a65c_add_7a177_40 rfl ?_
  refine G_aload 0 dr_cJx4a65c_add_7a177_41 rfl ?_
  refine G_iload_n 3 dr_cJx4a65c_add_7a177_43 rfl ?_
  refine G_iconst 1 dr_cJx4a65c_add_7a177_44 (by decide +kernel) ?_
  refine G_iadd dr_cJx4a65c_add_7a177_45 (G_nam fun z1083 hz1083 => ?_)
  have ez1083 : z1083.toInt = p1034.toInt + 1 := by rw [gI_add hz1083 bp1034 (gBl (show Int32.toInt 1 = 1 by decide)) (by decide) (by decide), show Int32.toInt 1 = 1 from by decide]
  have bz1083 : gB z1083 1 16777217 := gB_add (gI_add hz1083 bp1034 (gBl (show Int32.toInt 1 = 1 by decide)) (by decide) (by decide)) bp1034 (gBl (show Int32.toInt 1 = 1 by decide)) (by decide) (by decide)
  refine G_iload_n 1 dr_cJx4a65c_add_7a177_46 rfl ?_
  refine G_iload_n 3 dr_cJx4a65c_add_7a177_47 rfl ?_
  refine G_isub dr_cJx4a65c_add_7a177_48 (G_nam fun z1084 hz1084 => ?_)
  have ez1084 : z1084.toInt = p1036.toInt - p1034.toInt := by rw [gI_sub hz1084 bp1036 bp1034 (by decide) (by decide)]
  have bz1084 : gB z1084 (-16777216) 16777216 := gB_sub (gI_sub hz1084 bp1036 bp1034 (by decide) (by decide)) bp1036 bp1034 (by decide) (by decide)
  refine Gp_copyq 4 hmq1033 hmq1033 he1076 he1076 dr_cJx4a65c_add_7a177_49 wr_10_224 wr_5_113 wr_5_112 wr_1_34 rfl (by omega) (by omega) (by omega) (by omega) (by omega) (fun j _ w hw => rEl_ob (rEl_frG (rEl_src x1048 rSrc_rf) (rSub_rf (P := P1029)) hfr1078 (rNg_c (rNg_o heq1031 (by decide) (by decide)) rNg_n)) hw) (Nat.le_of_ble_eq_true rfl) (Nat.le_of_ble_eq_true rfl) (fun F1085 e1086 n1087 => ?_)
  obtain ⟨f1088, hf1088⟩ : ∃ z, z = va_cpy f1044 f1044 p1034.toNatClampNeg z1083.toNatClampNeg z1084.toNatClampNeg := ⟨_, rfl⟩
  rw [← hf1088] at e1086
  have he1089 : F1085 q1031 = .inr (4, [.int z1071, .ref q1033, .int p1036]) := (n1087 q1031 (rn_oa he1077 he1076)).trans he1077
  have he1090 : F1085 q1032 = .inr (20, [.int p1037, .int p1038, .int p1039, .int p1040, .int p1041, .int p1042, .int p1043]) := (n1087 q1032 (rn_oa he1075 he1076)).trans he1075
  have he1091 : F1085 q1033 = .inl (I (.object "java/lang/Object"), n1045, .inr (.inr (.inr (.inr f1088)))) := e1086
  have hfr1092 : rFr [q1033, q1031] P1029 F1030 F1085 := rFr_put hfr1078 n1087
  refine G_aload 0 dr_cJx4a65c_add_7a177_52 rfl ?_
  refine G_iload_n 3 dr_cJx4a65c_add_7a177_54 rfl ?_
  refine G_aload_n 4 dr_cJx4a65c_add_7a177_55 rfl ?_
  refine Gp_aast 4 hmq1033 he1091 dr_cJx4a65c_add_7a177_56 rfl ⟨hmq1032, _, _, _, _, _, he1090, rfl, gr_cast 3 rfl⟩ (gB_inr (by omega) (by omega)) (fun F1093 e1094 n1095 => ?_)
  obtain ⟨f1096, hf1096⟩ : ∃ z, z = va_up f1088 p1034.toNatClampNeg (some q1032) := ⟨_, rfl⟩
  rw [← hf1096] at e1094
  have he1097 : F1093 q1031 = .inr (4, [.int z1071, .ref q1033, .int p1036]) := (n1095 q1031 (rn_oa he1089 he1091)).trans he1089
  have he1098 : F1093 q1032 = .inr (20, [.int p1037, .int p1038, .int p1039, .int p1040, .int p1041, .int p1042, .int p1043]) := (n1095 q1032 (rn_oa he1090 he1091)).trans he1090
  have he1099 : F1093 q1033 = .inl (I (.object "java/lang/Object"), n1045, .inr (.inr (.inr (.inr f1096)))) := e1094
  have hfr1100 : rFr [q1033, q1031] P1029 F1030 F1093 := rFr_put' List.mem_cons_self hfr1092 n1095
  refine G_aload_n 2 dr_cJx4a65c_add_7a177_57 rfl ?_
  refine G_iload_n 1 dr_cJx4a65c_add_7a177_58 rfl ?_
  refine G_iconst 1 dr_cJx4a65c_add_7a177_59 (by decide +kernel) ?_
  refine G_iadd dr_cJx4a65c_add_7a177_60 (G_nam fun z1101 hz1101 => ?_)
  have ez1101 : z1101.toInt = p1036.toInt + 1 := by rw [gI_add hz1101 bp1036 (gBl (show Int32.toInt 1 = 1 by decide)) (by decide) (by decide), show Int32.toInt 1 = 1 from by decide]
  have bz1101 : gB z1101 1 16777217 := gB_add (gI_add hz1101 bp1036 (gBl (show Int32.toInt 1 = 1 by decide)) (by decide) (by decide)) bp1036 (gBl (show Int32.toInt 1 = 1 by decide)) (by decide) (by decide)
  refine Gp_put 2 hmq1031 he1097 dr_cJx4a65c_add_7a177_61 (gk_Jx4a65c D I) (Nat.le_of_ble_eq_true rfl) wr_7_18 rfl rfl rfl (Nat.le_of_ble_eq_true rfl) (fun F1102 e1103 n1104 => ?_)
  have he1105 : F1102 q1032 = .inr (20, [.int p1037, .int p1038, .int p1039, .int p1040, .int p1041, .int p1042, .int p1043]) := (n1104 q1032 (rn_oo he1098 he1097 (by decide))).trans he1098
  have he1106 : F1102 q1033 = .inl (I (.object "java/lang/Object"), n1045, .inr (.inr (.inr (.inr f1096)))) := (n1104 q1033 (rn_ao he1099 he1097)).trans he1099
  have he1107 : F1102 q1031 = .inr (4, [.int z1071, .ref q1033, .int z1101]) := e1103
  have hfr1108 : rFr [q1033, q1031] P1029 F1030 F1102 := rFr_put' (List.mem_cons_of_mem _ List.mem_cons_self) hfr1100 n1104
  exact G_vretA dr_cJx4a65c_add_7a177_64 rfl (Nat.le_of_ble_eq_true rfl) (Nat.le_of_ble_eq_true rfl) ⟨F1102, z1071, z1101, f1096, rfl, rfl, hfr1108, he1107, he1105, he1106, (Nat.le_of_ble_eq_true rfl), (Nat.le_of_ble_eq_true rfl), bz1101, (by omega), (rI_ins (m := _) (fun _ _ => rfl) hf1088 hf1096 (by omega) (by omega) (by omega) (by omega)), (rSrcX_up hf1096 (rSrc_cpy hf1088 rSrc_rf rSrc_rf))⟩
