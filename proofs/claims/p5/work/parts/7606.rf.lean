theorem dr_cX13_row_14 : decode cX13_row 14 = .ok (.aload_n 0, 1) := by decide +kernel
theorem dr_cX13_row_15 : decode cX13_row 15 = .ok (.getfield 16, 3) := by decide +kernel
theorem dr_cX13_row_18 : decode cX13_row 18 = .ok (.new 45, 3) := by decide +kernel
theorem wr_9_166 : (Jvm.Cond.instantiable "SpillForgeModel$Row" (7 : Nat)) ∈ gw := gw_9 166 rfl rfl
theorem dr_cX13_row_21 : decode cX13_row 21 = .ok (.dup, 1) := by decide +kernel
theorem dr_cX13_row_22 : decode cX13_row 22 = .ok (.invokespecial 47, 3) := by decide +kernel
theorem wr_9_169 : (Jvm.Cond.code ({ cls := "SpillForgeModel$Row", name := "<init>", desc := "()V" } : Jvm.MethodName) prog_18_method_1_code (1 : Nat) (Option.none : Option Jvm.ClassFile.FieldType)) ∈ gw := gw_9 169 rfl rfl
theorem wr_9_168 : (Jvm.Cond.instanceMethod ({ cls := "SpillForgeModel$Row", name := "<init>", desc := "()V" } : Jvm.MethodName)) ∈ gw := gw_9 168 rfl rfl
theorem dr_cX13_row_25 : decode cX13_row 25 = .ok (.invokevirtual 33, 3) := by decide +kernel
theorem wr_9_239 : (Jvm.Cond.methodLink "SpillForgeModel$Code" (33 : Nat) ({ cls := "java/util/ArrayList", name := "add", desc := "(Ljava/lang/Object;)Z" } : Jvm.MethodName)) ∈ gw := gw_9 239 rfl rfl
theorem wr_10_2 : (Jvm.Cond.code ({ cls := "java/util/ArrayList", name := "add", desc := "(Ljava/lang/Object;)Z" } : Jvm.MethodName) prog_43_method_25_code (2 : Nat) (Option.some Jvm.ClassFile.FieldType.boolean)) ∈ gw := gw_10 2 rfl rfl
theorem wr_10_0 : (Jvm.Cond.instanceMethod ({ cls := "java/util/ArrayList", name := "add", desc := "(Ljava/lang/Object;)Z" } : Jvm.MethodName)) ∈ gw := gw_10 0 rfl rfl
theorem wr_10_1 : (Jvm.Cond.selects "java/util/ArrayList" ({ cls := "java/util/ArrayList", name := "add", desc := "(Ljava/lang/Object;)Z" } : Jvm.MethodName) ({ cls := "java/util/ArrayList", name := "add", desc := "(Ljava/lang/Object;)Z" } : Jvm.MethodName)) ∈ gw := gw_10 1 rfl rfl
theorem dr_cX13_row_28 : decode cX13_row 28 = .ok (.pop, 1) := by decide +kernel
theorem dr_cX13_block_0 : decode cX13_block 0 = .ok (.aload_n 0, 1) := by decide +kernel
theorem dr_cX13_block_1 : decode cX13_block 1 = .ok (.getfield 23, 3) := by decide +kernel
theorem wr_7_33 : (Jvm.Cond.fieldLink "SpillForgeModel$Code" (23 : Nat) "SpillForgeModel$Code" "made" "I") ∈ gw := gw_7 33 rfl rfl
theorem dr_cX13_block_4 : decode cX13_block 4 = .ok (.aload_n 0, 1) := by decide +kernel
theorem dr_cX13_block_5 : decode cX13_block 5 = .ok (.getfield 10, 3) := by decide +kernel
theorem wr_7_30 : (Jvm.Cond.fieldLink "SpillForgeModel$Code" (10 : Nat) "SpillForgeModel$Code" "blocks" "Ljava/util/ArrayList;") ∈ gw := gw_7 30 rfl rfl
theorem dr_cX13_block_8 : decode cX13_block 8 = .ok (.invokevirtual 26, 3) := by decide +kernel
theorem dr_cX13_block_11 : decode cX13_block 11 = .ok (.if_icmp .ne 18, 3) := by decide +kernel
theorem dr_cX13_block_29 : decode cX13_block 29 = .ok (.aload_n 0, 1) := by decide +kernel
theorem dr_cX13_block_30 : decode cX13_block 30 = .ok (.getfield 10, 3) := by decide +kernel
theorem dr_cX13_block_33 : decode cX13_block 33 = .ok (.aload_n 0, 1) := by decide +kernel
theorem dr_cX13_block_34 : decode cX13_block 34 = .ok (.getfield 23, 3) := by decide +kernel
theorem dr_cX13_block_37 : decode cX13_block 37 = .ok (.invokevirtual 37, 3) := by decide +kernel
theorem dr_cX13_block_40 : decode cX13_block 40 = .ok (.checkcast 30, 3) := by decide +kernel
theorem wr_9_157 : (Jvm.Cond.classLink "SpillForgeModel$Code" (30 : Nat) "SpillForgeModel$Block") ∈ gw := gw_9 157 rfl rfl
theorem dr_cX13_block_43 : decode cX13_block 43 = .ok (.astore_n 1, 1) := by decide +kernel
theorem dr_cX13_block_44 : decode cX13_block 44 = .ok (.aload_n 0, 1) := by decide +kernel
theorem dr_cX13_block_45 : decode cX13_block 45 = .ok (.dup, 1) := by decide +kernel
theorem dr_cX13_block_46 : decode cX13_block 46 = .ok (.getfield 23, 3) := by decide +kernel
theorem dr_cX13_block_49 : decode cX13_block 49 = .ok (.iconst 1, 1) := by decide +kernel
theorem dr_cX13_block_50 : decode cX13_block 50 = .ok (.iadd, 1) := by decide +kernel
theorem dr_cX13_block_51 : decode cX13_block 51 = .ok (.putfield 23, 3) := by decide +kernel
theorem dr_cX13_block_54 : decode cX13_block 54 = .ok (.aload_n 1, 1) := by decide +kernel
theorem dr_cX13_block_55 : decode cX13_block 55 = .ok (.getfield 41, 3) := by decide +kernel
theorem wr_9_215 : (Jvm.Cond.fieldLink "SpillForgeModel$Code" (41 : Nat) "SpillForgeModel$Block" "rows" "Ljava/util/ArrayList;") ∈ gw := gw_9 215 rfl rfl
theorem dr_cX13_block_58 : decode cX13_block 58 = .ok (.invokevirtual 42, 3) := by decide +kernel
theorem wr_10_70 : (Jvm.Cond.methodLink "SpillForgeModel$Code" (42 : Nat) ({ cls := "java/util/ArrayList", name := "clear", desc := "()V" } : Jvm.MethodName)) ∈ gw := gw_10 70 rfl rfl
theorem wr_10_73 : (Jvm.Cond.code ({ cls := "java/util/ArrayList", name := "clear", desc := "()V" } : Jvm.MethodName) prog_43_method_40_code (4 : Nat) (Option.none : Option Jvm.ClassFile.FieldType)) ∈ gw := gw_10 73 rfl rfl
theorem wr_10_71 : (Jvm.Cond.instanceMethod ({ cls := "java/util/ArrayList", name := "clear", desc := "()V" } : Jvm.MethodName)) ∈ gw := gw_10 71 rfl rfl
theorem wr_10_72 : (Jvm.Cond.selects "java/util/ArrayList" ({ cls := "java/util/ArrayList", name := "clear", desc := "()V" } : Jvm.MethodName) ({ cls := "java/util/ArrayList", name := "clear", desc := "()V" } : Jvm.MethodName)) ∈ gw := gw_10 72 rfl rfl
theorem dr_cX13_block_61 : decode cX13_block 61 = .ok (.aload_n 1, 1) := by decide +kernel
theorem dr_cX13_block_62 : decode cX13_block 62 = .ok (.areturn, 1) := by decide +kernel
abbrev ky_2371_Code_row : gKey := (cX13_row, 2, "SpillForgeModel$Code", (some (FieldType.object "SpillForgeModel$Row")), [], "row", fun _ _ => True)
def pp_2371_Code_row (D : va_G) (I : FieldType → ClassId) (P2355 : List Nat) (F2356 : Nat → va_E) (q2357 : Nat) (q2358 : Nat) (q2359 : Nat) (qo2360 : Nat) (p2361 : Int32) (p2362 : Int32) (p2363 : Int32) (p2364 : Int32) (f2365 : Nat → Option Nat) (n2366 : Nat) : Option Value → va_W → Nat → Nat → Prop := fun r w dc ds => ∃ (P2501 : List Nat) (F2502 : Nat → va_E) (o2496 : Int32) (q2497 : Nat) (o2498 : Int32) (o2499 : Int32) (f2500 : Nat → Option Nat), r = some (.ref q2497) ∧ w = va_pl P2501 F2502 ∧ rSub P2355 P2501 ∧ rFr [q2357, q2358, q2359] P2355 F2356 F2502 ∧ F2502 q2357 = .inr (18, [.ref qo2360, .ref q2358, .int o2496, .int p2362]) ∧ F2502 q2358 = .inr (4, [.int o2498, .ref q2359, .int o2499]) ∧ F2502 q2497 = .inr (20, [.int 0, .int 0, .int 0, .int 0, .int 0, .int 0, .int 0]) ∧ F2502 q2359 = .inl (I (.object "java/lang/Object"), n2366, .inr (.inr (.inr (.inr f2500)))) ∧ q2497 ∈ P2501 ∧ q2497 ∉ P2355 ∧ dc ≤ 1 ∧ ds ≤ 7 ∧ gB o2496 1 1000001 ∧ gB o2499 1 16777217 ∧ o2496.toInt = p2361.toInt + 1 ∧ o2499.toInt = p2364.toInt + 1 ∧ ((∀ j : Nat, (j : Int) < p2364.toInt → f2500 j = f2365 j) ∧ f2500 p2364.toInt.toNat = some q2497) ∧ rSrcX f2500 f2365 q2497
set_option maxRecDepth 100000 in
set_option maxHeartbeats 4000000 in
theorem cp_2371_Code_row (l : Launch) (hl0 : l.stackTraces = false) (D : va_G) (I : FieldType → ClassId) (P2355 : List Nat) (F2356 : Nat → va_E) (q2357 : Nat) (q2358 : Nat) (q2359 : Nat) (qo2360 : Nat) (p2361 : Int32) (p2362 : Int32) (p2363 : Int32) (p2364 : Int32) (f2365 : Nat → Option Nat) (n2366 : Nat) (hmq2357 : q2357 ∈ P2355) (hmq2358 : q2358 ∈ P2355) (hmq2359 : q2359 ∈ P2355) (heq2357 : F2356 q2357 = .inr (18, [.ref qo2360, .ref q2358, .int p2361, .int p2362])) (heq2358 : F2356 q2358 = .inr (4, [.int p2363, .ref q2359, .int p2364])) (heq2359 : F2356 q2359 = .inl (I (.object "java/lang/Object"), n2366, .inr (.inr (.inr (.inr f2365))))) (bp2361 : gB p2361 0 1000000) (bp2362 : gB p2362 0 1000000) (bp2364 : gB p2364 0 1000000) (x2367 : p2361.toInt = p2364.toInt) (x2368 : p2364.toInt < (n2366 : Int)) (x2369 : rEl P2355 F2356 f2365) (x2370 : ((n2366 : Int) ≤ 16777216)) : CtA (gV D I) l yX13_row cX13_row 2 (some (FieldType.object "SpillForgeModel$Row")) 3 64 1 7 [.ref q2357] (va_pl P2355 F2356) (pp_2371_Code_row D I P2355 F2356 q2357 q2358 q2359 qo2360 p2361 p2362 p2363 p2364 f2365 n2366) gNA := by
  refine CtA_of hl0 (by decide) (Nat.le_of_ble_eq_true rfl) ?_
  have bp2363 := gB_any p2363
  refine G_aload_n 0 dr_cX13_row_0 rfl ?_
  refine Gp_get 2 hmq2357 heq2357 dr_cX13_row_1 (gk_X13 D I) (Nat.le_of_ble_eq_true rfl) wr_7_32 rfl ?_
  refine G_aload_n 0 dr_cX13_row_4 rfl ?_
  refine Gp_get 1 hmq2357 heq2357 dr_cX13_row_5 (gk_X13 D I) (Nat.le_of_ble_eq_true rfl) wr_7_31 rfl ?_
  refine Gw_callV (As := []) (gV_ok D I) (cp_2281_ArrayList_size l hl0 D I P2355 F2356 q2358 q2359 p2363 p2364 f2365 n2366 hmq2358 hmq2359 heq2358 heq2359 (gB_w bp2364 (by decide) (by decide)) (by omega)) dr_cX13_row_8 ⟨wr_9_153, wr_1_18, wr_9_156, by decide, rfl, (Nat.le_of_ble_eq_true rfl), (Nat.le_of_ble_eq_true rfl)⟩ wr_9_154 wr_9_155 hmq2358 heq2358 rfl (show 0 + 0 ≤ 1 by first | omega | decide) (show 0 + 0 ≤ 7 by first | omega | decide) (Nat.le_of_ble_eq_true rfl) (fun r2375 w2376 dc2372 ds2373 hp2374 => ?_) (fun _ _ _ _ _ z => z.elim)
  obtain ⟨rfl, rfl, hdc, hds⟩ := hp2374
  change G _ _ _ _ _ _ _ (.int p2364 :: _) _ _ _
  refine G_widen (cs' := 0) (sl' := 0) (by omega) (by omega) ?_
  refine G_icmp_ne 29 dr_cX13_row_11 (by decide +kernel) (fun hc => absurd (show False by have := gC_ne hc; omega) not_false) (fun hc2377 => ?_)
  have r2379 : p2361.toInt = p2364.toInt := gC_eq hc2377
  refine G_aload_n 0 dr_cX13_row_14 rfl ?_
  refine Gp_get 1 hmq2357 heq2357 dr_cX13_row_15 (gk_X13 D I) (Nat.le_of_ble_eq_true rfl) wr_7_31 rfl ?_
  refine G_new [.int 0, .int 0, .int 0, .int 0, .int 0, .int 0, .int 0] dr_cX13_row_18 (gk_X15 D I) wr_10_79 wr_9_166 wr_1_39 (gfs_X15) (show 0 + 1 ≤ 1 by first | omega | decide) (show 0 + 7 ≤ 7 by first | omega | decide) (fun q2380 => Gp_in (fun P2381 F2382 hq2383 hP2384 e2385 n2386 => ?_))
  refine G_widen (cs' := 1) (sl' := 7) (by omega) (by omega) ?_
  have he2387 : F2382 q2357 = .inr (18, [.ref qo2360, .ref q2358, .int p2361, .int p2362]) := (n2386 q2357 (fun h => hq2383 (h ▸ hmq2357))).trans heq2357
  have he2388 : F2382 q2358 = .inr (4, [.int p2363, .ref q2359, .int p2364]) := (n2386 q2358 (fun h => hq2383 (h ▸ hmq2358))).trans heq2358
  have he2389 : F2382 q2359 = .inl (I (.object "java/lang/Object"), n2366, .inr (.inr (.inr (.inr f2365)))) := (n2386 q2359 (fun h => hq2383 (h ▸ hmq2359))).trans heq2359
  have he2390 : F2382 q2380 = .inr (20, [.int 0, .int 0, .int 0, .int 0, .int 0, .int 0, .int 0]) := e2385
  have hm2391 : q2357 ∈ P2381 := (hP2384 q2357).mpr (Or.inl hmq2357)
  have hm2392 : q2358 ∈ P2381 := (hP2384 q2358).mpr (Or.inl hmq2358)
  have hm2393 : q2359 ∈ P2381 := (hP2384 q2359).mpr (Or.inl hmq2359)
  have hm2394 : q2380 ∈ P2381 := (hP2384 q2380).mpr (Or.inr rfl)
  have hq2395 : q2380 ∉ P2355 := fun z => hq2383 ((rSub_rf (P := P2355)) q2380 z)
  have hfr2396 : rFr [] P2355 F2356 F2382 := rFr_new (rSub_rf (P := P2355)) hq2383 (rFr_rf (W := []) (P := P2355) (F := F2356)) n2386
  have hsb2397 : rSub P2355 P2381 := rSub_new (rSub_rf (P := P2355)) hP2384
  refine G_dup dr_cX13_row_21 rfl ?_
  refine Gw_callIN (As := []) (gV_ok D I) (cp_2408_Row_init l hl0 D I P2381 F2382 q2380 0 0 0 0 0 0 0 hm2394 he2390 (gB_w (gBl (show Int32.toInt 0 = 0 by decide)) (by decide) (by decide)) (gB_w (gBl (show Int32.toInt 0 = 0 by decide)) (by decide) (by decide)) (gB_w (gBl (show Int32.toInt 0 = 0 by decide)) (by decide) (by decide)) (gB_w (gBl (show Int32.toInt 0 = 0 by decide)) (by decide) (by decide)) (gB_w (gBl (show Int32.toInt 0 = 0 by decide)) (by decide) (by decide))) dr_cX13_row_22 ⟨(fun _ _ _ h => gn_w 80 rfl h), wr_1_39, wr_9_169, by decide, rfl, (Nat.le_of_ble_eq_true rfl), (Nat.le_of_ble_eq_true rfl)⟩ wr_9_168 rfl (show 1 + 0 ≤ 1 by first | omega | decide) (show 7 + 0 ≤ 7 by first | omega | decide) (Nat.le_of_ble_eq_true rfl) (fun r2412 w2413 dc2409 ds2410 hp2411 => ?_)
  obtain ⟨rfl, rfl, hdc, hds⟩ := hp2411
  change G _ _ _ _ _ _ _ _ _ _ _
  refine G_widen (cs' := 1) (sl' := 7) (by omega) (by omega) ?_
  refine Gw_callV (As := [.ref q2380]) (gV_ok D I) (cp_86_ArrayList_add l hl0 D I P2381 F2382 q2358 q2380 q2359 p2363 p2364 0 0 0 0 0 0 0 f2365 n2366 hm2392 hm2394 hm2393 he2388 he2390 he2389 (gB_w bp2364 (by decide) (by decide)) (gB_w (gBl (show Int32.toInt 0 = 0 by decide)) (by decide) (by decide)) (gB_w (gBl (show Int32.toInt 0 = 0 by decide)) (by decide) (by decide)) (gB_w (gBl (show Int32.toInt 0 = 0 by decide)) (by decide) (by decide)) (gB_w (gBl (show Int32.toInt 0 = 0 by decide)) (by decide) (by decide)) (gB_w (gBl (show Int32.toInt 0 = 0 by decide)) (by decide) (by decide)) (by have qa0 : Int32.toInt 0 = 0 := (by decide); omega) (rEl_frG (rEl_src x2369 rSrc_rf) hsb2397 hfr2396 rNg_n) (by have qa0 : Int32.toInt 0 = 0 := (by decide); omega)) dr_cX13_row_25 ⟨wr_9_239, wr_1_18, wr_10_2, by decide, rfl, (Nat.le_of_ble_eq_true rfl), (Nat.le_of_ble_eq_true rfl)⟩ wr_10_0 wr_10_1 hm2392 he2388 rfl (show 1 + 0 ≤ 1 by first | omega | decide) (show 7 + 0 ≤ 7 by first | omega | decide) (Nat.le_of_ble_eq_true rfl) (fun r2417 w2418 dc2414 ds2415 hp2416 => ?_) (fun _ _ _ _ _ z => z.elim)
  obtain ⟨F2425, o2419, o2420, f2421, rfl, rfl, hfr2427, he2428, he2429, he2430, hdc, hds, bo2420, x2422, x2423, x2424⟩ := hp2416
  have he2431 : F2425 q2357 = .inr (18, [.ref qo2360, .ref q2358, .int p2361, .int p2362]) := (hfr2427 q2357 hm2391 (nm_c (rn_oo he2387 he2388 (by decide)) (nm_c (rn_oa he2387 he2389) nm_n))).trans he2387
  have hfr2432 : rFr [q2358, q2359] P2355 F2356 F2425 := rFr_call hsb2397 hfr2396 hfr2427 (fun b hb hn => ⟨nm_n, (nm_c (fun e => hn (e ▸ List.mem_cons_self)) (nm_c (fun e => hn (e ▸ (List.mem_cons_of_mem _ List.mem_cons_self))) nm_n))⟩)
  have bo2419 := gB_any o2419
  change G _ _ _ _ _ _ _ (.int 1 :: _) _ _ _
  refine G_widen (cs' := 1) (sl' := 7) (by omega) (by omega) ?_
  have hx2433 : f2421 p2361.toNatClampNeg = some q2380 := by show f2421 p2361.toInt.toNat = _; rw [show p2361.toInt = p2364.toInt by omega]; exact x2423.2
  refine G_pop dr_cX13_row_28 rfl ?_
  refine G_aload_n 0 dr_cX13_row_29 rfl ?_
  refine Gp_get 1 hm2391 he2431 dr_cX13_row_30 (gk_X13 D I) (Nat.le_of_ble_eq_true rfl) wr_7_31 rfl ?_
  refine G_aload_n 0 dr_cX13_row_33 rfl ?_
  refine Gp_get 2 hm2391 he2431 dr_cX13_row_34 (gk_X13 D I) (Nat.le_of_ble_eq_true rfl) wr_7_32 rfl ?_
  refine Gw_callV (As := [.int p2361]) (gV_ok D I) (cp_22_ArrayList_get l hl0 D I P2381 F2425 q2358 q2359 p2361 o2419 o2420 f2421 n2366 q2380 hm2392 hm2393 he2428 he2430 (gB_w bp2361 (by decide) (by decide)) ⟨by omega, by omega⟩ (by have qa0 : Int32.toInt 0 = 0 := (by decide); omega) (by have qa0 : Int32.toInt 0 = 0 := (by decide); omega) (by assumption) (by have qa0 : Int32.toInt 0 = 0 := (by decide); omega)) dr_cX13_row_37 ⟨wr_10_58, wr_1_18, wr_10_61, by decide, rfl, (Nat.le_of_ble_eq_true rfl), (Nat.le_of_ble_eq_true rfl)⟩ wr_10_59 wr_10_60 hm2392 he2428 rfl (show 1 + 0 ≤ 1 by first | omega | decide) (show 7 + 0 ≤ 7 by first | omega | decide) (Nat.le_of_ble_eq_true rfl) (fun r2437 w2438 dc2434 ds2435 hp2436 => ?_) (fun _ _ _ _ _ z => z.elim)
  obtain ⟨rfl, rfl, hdc, hds⟩ := hp2436
  change G _ _ _ _ _ _ _ (.ref q2380 :: _) _ _ _
  refine G_widen (cs' := 1) (sl' := 7) (by omega) (by omega) ?_
  refine Gp_cast hm2394 he2429 rfl dr_cX13_row_40 wr_10_79 (gr_cast 1 rfl) ?_
  refine G_astore_n (L' := [(1, .ref q2380), (0, .ref q2357)]) dr_cX13_row_43 (Nat.le_of_ble_eq_true rfl) rfl ?_
  refine G_aload_n 1 dr_cX13_row_44 rfl ?_
  refine G_dup dr_cX13_row_45 rfl ?_
  refine Gp_get 2 hm2391 he2431 dr_cX13_row_46 (gk_X13 D I) (Nat.le_of_ble_eq_true rfl) wr_7_32 rfl ?_
  refine G_iconst 1 dr_cX13_row_49 (by decide +kernel) ?_
  refine G_iadd dr_cX13_row_50 (G_nam fun z2439 hz2439 => ?_)
  have ez2439 : z2439.toInt = p2361.toInt + 1 := by rw [gI_add hz2439 bp2361 (gBl (show Int32.toInt 1 = 1 by decide)) (by decide) (by decide), show Int32.toInt 1 = 1 from by decide]
  have bz2439 : gB z2439 1 1000001 := gB_add (gI_add hz2439 bp2361 (gBl (show Int32.toInt 1 = 1 by decide)) (by decide) (by decide)) bp2361 (gBl (show Int32.toInt 1 = 1 by decide)) (by decide) (by decide)
  refine Gp_put 2 hm2391 he2431 dr_cX13_row_51 (gk_X13 D I) (Nat.le_of_ble_eq_true rfl) wr_7_32 rfl rfl rfl (Nat.le_of_ble_eq_true rfl) (fun F2440 e2441 n2442 => ?_)
  have he2443 : F2440 q2358 = .inr (4, [.int o2419, .ref q2359, .int o2420]) := (n2442 q2358 (rn_oo he2428 he2431 (by decide))).trans he2428
  have he2444 : F2440 q2380 = .inr (20, [.int 0, .int 0, .int 0, .int 0, .int 0, .int 0, .int 0]) := (n2442 q2380 (fun h => hq2395 (h ▸ hmq2357))).trans he2429
  have he2445 : F2440 q2359 = .inl (I (.object "java/lang/Object"), n2366, .inr (.inr (.inr (.inr f2421)))) := (n2442 q2359 (rn_ao he2430 he2431)).trans he2430
  have he2446 : F2440 q2357 = .inr (18, [.ref qo2360, .ref q2358, .int z2439, .int p2362]) := e2441
  have hfr2447 : rFr [q2357, q2358, q2359] P2355 F2356 F2440 := rFr_put hfr2432 n2442
  refine G_aload_n 0 dr_cX13_row_54 rfl ?_
  refine G_iconst 0 dr_cX13_row_55 (by decide +kernel) ?_
  refine Gp_put 5 hm2394 he2444 dr_cX13_row_56 (gk_X15 D I) (Nat.le_of_ble_eq_true rfl) wr_9_192 rfl rfl rfl (Nat.le_of_ble_eq_true rfl) (fun F2448 e2449 n2450 => ?_)
  have he2451 : F2448 q2357 = .inr (18, [.ref qo2360, .ref q2358, .int z2439, .int p2362]) := (n2450 q2357 (fun h => hq2395 (h ▸ hmq2357))).trans he2446
  have he2452 : F2448 q2358 = .inr (4, [.int o2419, .ref q2359, .int o2420]) := (n2450 q2358 (fun h => hq2395 (h ▸ hmq2358))).trans he2443
  have he2453 : F2448 q2359 = .inl (I (.object "java/lang/Object"), n2366, .inr (.inr (.inr (.inr f2421)))) := (n2450 q2359 (fun h => hq2395 (h ▸ hmq2359))).trans he2445
  have he2454 : F2448 q2380 = .inr (20, [.int 0, .int 0, .int 0, .int 0, .int 0, .int 0, .int 0]) := e2449
  have hfr2455 : rFr [q2357, q2358, q2359] P2355 F2356 F2448 := rFr_newp hq2395 hfr2447 n2450
  refine G_aload_n 0 dr_cX13_row_59 rfl ?_
  refine G_iconst 0 dr_cX13_row_60 (by decide +kernel) ?_
  refine Gp_put 6 hm2394 he2454 dr_cX13_row_61 (gk_X15 D I) (Nat.le_of_ble_eq_true rfl) wr_9_196 rfl rfl rfl (Nat.le_of_ble_eq_true rfl) (fun F2456 e2457 n2458 => ?_)
  have he2459 : F2456 q2357 = .inr (18, [.ref qo2360, .ref q2358, .int z2439, .int p2362]) := (n2458 q2357 (fun h => hq2395 (h ▸ hmq2357))).trans he2451
  have he2460 : F2456 q2358 = .inr (4, [.int o2419, .ref q2359, .int o2420]) := (n2458 q2358 (fun h => hq2395 (h ▸ hmq2358))).trans he2452
  have he2461 : F2456 q2359 = .inl (I (.object "java/lang/Object"), n2366, .inr (.inr (.inr (.inr f2421)))) := (n2458 q2359 (fun h => hq2395 (h ▸ hmq2359))).trans he2453
  have he2462 : F2456 q2380 = .inr (20, [.int 0, .int 0, .int 0, .int 0, .int 0, .int 0, .int 0]) := e2457
  have hfr2463 : rFr [q2357, q2358, q2359] P2355 F2356 F2456 := rFr_newp hq2395 hfr2455 n2458
  refine G_aload_n 0 dr_cX13_row_64 rfl ?_
  refine G_iconst 0 dr_cX13_row_65 (by decide +kernel) ?_
  refine Gp_put 2 hm2394 he2462 dr_cX13_row_66 (gk_X15 D I) (Nat.le_of_ble_eq_true rfl) wr_9_180 rfl rfl rfl (Nat.le_of_ble_eq_true rfl) (fun F2464 e2465 n2466 => ?_)
  have he2467 : F2464 q2357 = .inr (18, [.ref qo2360, .ref q2358, .int z2439, .int p2362]) := (n2466 q2357 (fun h => hq2395 (h ▸ hmq2357))).trans he2459
  have he2468 : F2464 q2358 = .inr (4, [.int o2419, .ref q2359, .int o2420]) := (n2466 q2358 (fun h => hq2395 (h ▸ hmq2358))).trans he2460
  have he2469 : F2464 q2359 = .inl (I (.object "java/lang/Object"), n2366, .inr (.inr (.inr (.inr f2421)))) := (n2466 q2359 (fun h => hq2395 (h ▸ hmq2359))).trans he2461
  have he2470 : F2464 q2380 = .inr (20, [.int 0, .int 0, .int 0, .int 0, .int 0, .int 0, .int 0]) := e2465
  have hfr2471 : rFr [q2357, q2358, q2359] P2355 F2356 F2464 := rFr_newp hq2395 hfr2463 n2466
  refine G_aload_n 0 dr_cX13_row_69 rfl ?_
  refine G_iconst 0 dr_cX13_row_70 (by decide +kernel) ?_
  refine Gp_put 3 hm2394 he2470 dr_cX13_row_71 (gk_X15 D I) (Nat.le_of_ble_eq_true rfl) wr_9_184 rfl rfl rfl (Nat.le_of_ble_eq_true rfl) (fun F2472 e2473 n2474 => ?_)
  have he2475 : F2472 q2357 = .inr (18, [.ref qo2360, .ref q2358, .int z2439, .int p2362]) := (n2474 q2357 (fun h => hq2395 (h ▸ hmq2357))).trans he2467
  have he2476 : F2472 q2358 = .inr (4, [.int o2419, .ref q2359, .int o2420]) := (n2474 q2358 (fun h => hq2395 (h ▸ hmq2358))).trans he2468
  have he2477 : F2472 q2359 = .inl (I (.object "java/lang/Object"), n2366, .inr (.inr (.inr (.inr f2421)))) := (n2474 q2359 (fun h => hq2395 (h ▸ hmq2359))).trans he2469
  have he2478 : F2472 q2380 = .inr (20, [.int 0, .int 0, .int 0, .int 0, .int 0, .int 0, .int 0]) := e2473
  have hfr2479 : rFr [q2357, q2358, q2359] P2355 F2356 F2472 := rFr_newp hq2395 hfr2471 n2474
  refine G_aload_n 0 dr_cX13_row_74 rfl ?_
  refine G_iconst 0 dr_cX13_row_75 (by decide +kernel) ?_
  refine Gp_put 1 hm2394 he2478 dr_cX13_row_76 (gk_X15 D I) (Nat.le_of_ble_eq_true rfl) wr_9_176 rfl rfl rfl (Nat.le_of_ble_eq_true rfl) (fun F2480 e2481 n2482 => ?_)
  have he2483 : F2480 q2357 = .inr (18, [.ref qo2360, .ref q2358, .int z2439, .int p2362]) := (n2482 q2357 (fun h => hq2395 (h ▸ hmq2357))).trans he2475
  have he2484 : F2480 q2358 = .inr (4, [.int o2419, .ref q2359, .int o2420]) := (n2482 q2358 (fun h => hq2395 (h ▸ hmq2358))).trans he2476
  have he2485 : F2480 q2359 = .inl (I (.object "java/lang/Object"), n2366, .inr (.inr (.inr (.inr f2421)))) := (n2482 q2359 (fun h => hq2395 (h ▸ hmq2359))).trans he2477
  have he2486 : F2480 q2380 = .inr (20, [.int 0, .int 0, .int 0, .int 0, .int 0, .int 0, .int 0]) := e2481
  have hfr2487 : rFr [q2357, q2358, q2359] P2355 F2356 F2480 := rFr_newp hq2395 hfr2479 n2482
  refine G_aload_n 0 dr_cX13_row_79 rfl ?_
  refine G_iconst 0 dr_cX13_row_80 (by decide +kernel) ?_
  refine Gp_put 4 hm2394 he2486 dr_cX13_row_81 (gk_X15 D I) (Nat.le_of_ble_eq_true rfl) wr_9_188 rfl rfl rfl (Nat.le_of_ble_eq_true rfl) (fun F2488 e2489 n2490 => ?_)
  have he2491 : F2488 q2357 = .inr (18, [.ref qo2360, .ref q2358, .int z2439, .int p2362]) := (n2490 q2357 (fun h => hq2395 (h ▸ hmq2357))).trans he2483
  have he2492 : F2488 q2358 = .inr (4, [.int o2419, .ref q2359, .int o2420]) := (n2490 q2358 (fun h => hq2395 (h ▸ hmq2358))).trans he2484
  have he2493 : F2488 q2359 = .inl (I (.object "java/lang/Object"), n2366, .inr (.inr (.inr (.inr f2421)))) := (n2490 q2359 (fun h => hq2395 (h ▸ hmq2359))).trans he2485
  have he2494 : F2488 q2380 = .inr (20, [.int 0, .int 0, .int 0, .int 0, .int 0, .int 0, .int 0]) := e2489
  have hfr2495 : rFr [q2357, q2358, q2359] P2355 F2356 F2488 := rFr_newp hq2395 hfr2487 n2490
  refine G_aload_n 0 dr_cX13_row_84 rfl ?_
  exact G_aretA (FieldType.object "SpillForgeModel$Row") dr_cX13_row_85 rfl (by first | exact Or.inl ⟨_, rfl⟩ | exact Or.inr ⟨_, rfl⟩) (Or.inr ⟨_, rfl⟩) (Nat.le_of_ble_eq_true rfl) (Nat.le_of_ble_eq_true rfl) ⟨P2381, F2488, z2439, q2380, o2419, o2420, f2421, rfl, rfl, hsb2397, hfr2495, he2491, he2492, he2494, he2493, hm2394, hq2395, (Nat.le_of_ble_eq_true rfl), (Nat.le_of_ble_eq_true rfl), bz2439, bo2420, (by have qa0 : Int32.toInt 0 = 0 := (by decide); omega), (by have qa0 : Int32.toInt 0 = 0 := (by decide); omega), (by assumption), (by assumption)⟩
abbrev ky_2521_Code_row : gKey := (cX13_row, 2, "SpillForgeModel$Code", (some (FieldType.object "SpillForgeModel$Row")), [], "row", fun _ _ => True)
def pp_2521_Code_row (D : va_G) (I : FieldType → ClassId) (P2503 : List Nat) (F2504 : Nat → va_E) (q2505 : Nat) (q2506 : Nat) (q2507 : Nat) (qo2508 : Nat) (p2509 : Int32) (p2510 : Int32) (p2511 : Int32) (p2512 : Int32) (f2513 : Nat → Option Nat) (n2514 : Nat) : Option Value → va_W → Nat → Nat → Prop := fun r w dc ds => ∃ (P2662 : List Nat) (F2663 : Nat → va_E) (o2655 : Int32) (q2656 : Nat) (o2657 : Int32) (o2658 : Int32) (q2659 : Nat) (n2660 : Nat) (f2661 : Nat → Option Nat), r = some (.ref q2656) ∧ w = va_pl P2662 F2663 ∧ rSub P2503 P2662 ∧ rFr [q2505, q2506] P2503 F2504 F2663 ∧ F2663 q2505 = .inr (18, [.ref qo2508, .ref q2506, .int o2655, .int p2510]) ∧ F2663 q2656 = .inr (20, [.int 0, .int 0, .int 0, .int 0, .int 0, .int 0, .int 0]) ∧ F2663 q2506 = .inr (4, [.int o2657, .ref q2659, .int o2658]) ∧ F2663 q2659 = .inl (I (.object "java/lang/Object"), n2660, .inr (.inr (.inr (.inr f2661)))) ∧ q2656 ∈ P2662 ∧ q2656 ∉ P2503 ∧ q2659 ∈ P2662 ∧ q2659 ∉ P2503 ∧ dc ≤ 2 ∧ ds ≤ n2514 + n2514 / 2 + 1 + 7 ∧ gB o2655 1 1000001 ∧ gB o2658 1 16777217 ∧ o2655.toInt = p2509.toInt + 1 ∧ o2658.toInt = p2512.toInt + 1 ∧ ((∀ j : Nat, (j : Int) < p2512.toInt → f2661 j = f2513 j) ∧ f2661 p2512.toInt.toNat = some q2656) ∧ rSrcX f2661 f2513 q2656 ∧ ((n2660 : Int) ≤ (n2514 : Int) + (n2514 : Int) / 2 + 1 ∧ (n2514 : Int) + 1 ≤ (n2660 : Int) ∧ (n2514 : Int) + (n2514 : Int) / 2 ≤ (n2660 : Int))
set_option maxRecDepth 100000 in
set_option maxHeartbeats 4000000 in
theorem cp_2521_Code_row (l : Launch) (hl0 : l.stackTraces = false) (D : va_G) (I : FieldType → ClassId) (P2503 : List Nat) (F2504 : Nat → va_E) (q2505 : Nat) (q2506 : Nat) (q2507 : Nat) (qo2508 : Nat) (p2509 : Int32) (p2510 : Int32) (p2511 : Int32) (p2512 : Int32) (f2513 : Nat → Option Nat) (n2514 : Nat) (hmq2505 : q2505 ∈ P2503) (hmq2506 : q2506 ∈ P2503) (hmq2507 : q2507 ∈ P2503) (heq2505 : F2504 q2505 = .inr (18, [.ref qo2508, .ref q2506, .int p2509, .int p2510])) (heq2506 : F2504 q2506 = .inr (4, [.int p2511, .ref q2507, .int p2512])) (heq2507 : F2504 q2507 = .inl (I (.object "java/lang/Object"), n2514, .inr (.inr (.inr (.inr f2513))))) (bp2509 : gB p2509 0 1000000) (bp2510 : gB p2510 0 1000000) (bp2512 : gB p2512 0 1000000) (x2515 : p2509.toInt = p2512.toInt) (x2516 : 0 < (n2514 : Int)) (x2517 : (n2514 : Int) ≤ 1000000) (x2518 : p2512.toInt = (n2514 : Int)) (x2519 : rEl P2503 F2504 f2513) (x2520 : ((n2514 : Int) ≤ 16777216)) : CtA (gV D I) l yX13_row cX13_row 2 (some (FieldType.object "SpillForgeModel$Row")) 7 149 2 (n2514 + n2514 / 2 + 1 + 7) [.ref q2505] (va_pl P2503 F2504) (pp_2521_Code_row D I P2503 F2504 q2505 q2506 q2507 qo2508 p2509 p2510 p2511 p2512 f2513 n2514) gNA := by
  refine CtA_of hl0 (by decide) (Nat.le_of_ble_eq_true rfl) ?_
  have bp2511 := gB_any p2511
  refine G_aload_n 0 dr_cX13_row_0 rfl ?_
  refine Gp_get 2 hmq2505 heq2505 dr_cX13_row_1 (gk_X13 D I) (Nat.le_of_ble_eq_true rfl) wr_7_32 rfl ?_
  refine G_aload_n 0 dr_cX13_row_4 rfl ?_
  refine Gp_get 1 hmq2505 heq2505 dr_cX13_row_5 (gk_X13 D I) (Nat.le_of_ble_eq_true rfl) wr_7_31 rfl ?_
  refine Gw_callV (As := []) (gV_ok D I) (cp_2281_ArrayList_size l hl0 D I P2503 F2504 q2506 q2507 p2511 p2512 f2513 n2514 hmq2506 hmq2507 heq2506 heq2507 (gB_w bp2512 (by decide) (by decide)) (by omega)) dr_cX13_row_8 ⟨wr_9_153, wr_1_18, wr_9_156, by decide, rfl, (Nat.le_of_ble_eq_true rfl), (Nat.le_of_ble_eq_true rfl)⟩ wr_9_154 wr_9_155 hmq2506 heq2506 rfl (show 0 + 0 ≤ 2 by first | omega | decide) (show 0 + 0 ≤ (n2514 + n2514 / 2 + 1 + 7) by first | omega | decide) (Nat.le_of_ble_eq_true rfl) (fun r2525 w2526 dc2522 ds2523 hp2524 => ?_) (fun _ _ _ _ _ z => z.elim)
  obtain ⟨rfl, rfl, hdc, hds⟩ := hp2524
  change G _ _ _ _ _ _ _ (.int p2512 :: _) _ _ _
  refine G_widen (cs' := 0) (sl' := 0) (by omega) (by omega) ?_
  refine G_icmp_ne 29 dr_cX13_row_11 (by decide +kernel) (fun hc => absurd (show False by have := gC_ne hc; omega) not_false) (fun hc2527 => ?_)
  have r2529 : p2509.toInt = p2512.toInt := gC_eq hc2527
  refine G_aload_n 0 dr_cX13_row_14 rfl ?_
  refine Gp_get 1 hmq2505 heq2505 dr_cX13_row_15 (gk_X13 D I) (Nat.le_of_ble_eq_true rfl) wr_7_31 rfl ?_
  refine G_new [.int 0, .int 0, .int 0, .int 0, .int 0, .int 0, .int 0] dr_cX13_row_18 (gk_X15 D I) wr_10_79 wr_9_166 wr_1_39 (gfs_X15) (show 0 + 1 ≤ 2 by first | omega | decide) (show 0 + 7 ≤ (n2514 + n2514 / 2 + 1 + 7) by first | omega | decide) (fun q2530 => Gp_in (fun P2531 F2532 hq2533 hP2534 e2535 n2536 => ?_))
  refine G_widen (cs' := 1) (sl' := 7) (by omega) (by omega) ?_
  have he2537 : F2532 q2505 = .inr (18, [.ref qo2508, .ref q2506, .int p2509, .int p2510]) := (n2536 q2505 (fun h => hq2533 (h ▸ hmq2505))).trans heq2505
  have he2538 : F2532 q2506 = .inr (4, [.int p2511, .ref q2507, .int p2512]) := (n2536 q2506 (fun h => hq2533 (h ▸ hmq2506))).trans heq2506
  have he2539 : F2532 q2507 = .inl (I (.object "java/lang/Object"), n2514, .inr (.inr (.inr (.inr f2513)))) := (n2536 q2507 (fun h => hq2533 (h ▸ hmq2507))).trans heq2507
  have he2540 : F2532 q2530 = .inr (20, [.int 0, .int 0, .int 0, .int 0, .int 0, .int 0, .int 0]) := e2535
  have hm2541 : q2505 ∈ P2531 := (hP2534 q2505).mpr (Or.inl hmq2505)
  have hm2542 : q2506 ∈ P2531 := (hP2534 q2506).mpr (Or.inl hmq2506)
  have hm2543 : q2507 ∈ P2531 := (hP2534 q2507).mpr (Or.inl hmq2507)
  have hm2544 : q2530 ∈ P2531 := (hP2534 q2530).mpr (Or.inr rfl)
  have hq2545 : q2530 ∉ P2503 := fun z => hq2533 ((rSub_rf (P := P2503)) q2530 z)
  have hfr2546 : rFr [] P2503 F2504 F2532 := rFr_new (rSub_rf (P := P2503)) hq2533 (rFr_rf (W := []) (P := P2503) (F := F2504)) n2536
  have hsb2547 : rSub P2503 P2531 := rSub_new (rSub_rf (P := P2503)) hP2534
  refine G_dup dr_cX13_row_21 rfl ?_
  refine Gw_callIN (As := []) (gV_ok D I) (cp_2408_Row_init l hl0 D I P2531 F2532 q2530 0 0 0 0 0 0 0 hm2544 he2540 (gB_w (gBl (show Int32.toInt 0 = 0 by decide)) (by decide) (by decide)) (gB_w (gBl (show Int32.toInt 0 = 0 by decide)) (by decide) (by decide)) (gB_w (gBl (show Int32.toInt 0 = 0 by decide)) (by decide) (by decide)) (gB_w (gBl (show Int32.toInt 0 = 0 by decide)) (by decide) (by decide)) (gB_w (gBl (show Int32.toInt 0 = 0 by decide)) (by decide) (by decide))) dr_cX13_row_22 ⟨(fun _ _ _ h => gn_w 80 rfl h), wr_1_39, wr_9_169, by decide, rfl, (Nat.le_of_ble_eq_true rfl), (Nat.le_of_ble_eq_true rfl)⟩ wr_9_168 rfl (show 1 + 0 ≤ 2 by first | omega | decide) (show 7 + 0 ≤ (n2514 + n2514 / 2 + 1 + 7) by first | omega | decide) (Nat.le_of_ble_eq_true rfl) (fun r2551 w2552 dc2548 ds2549 hp2550 => ?_)
  obtain ⟨rfl, rfl, hdc, hds⟩ := hp2550
  change G _ _ _ _ _ _ _ _ _ _ _
  refine G_widen (cs' := 1) (sl' := 7) (by omega) (by omega) ?_
  refine Gw_callV (As := [.ref q2530]) (gV_ok D I) (cp_274_ArrayList_add l hl0 D I P2531 F2532 q2506 q2530 q2507 p2511 p2512 0 0 0 0 0 0 0 f2513 n2514 hm2542 hm2544 hm2543 he2538 he2540 he2539 (gB_w bp2512 (by decide) (by decide)) (gB_w (gBl (show Int32.toInt 0 = 0 by decide)) (by decide) (by decide)) (gB_w (gBl (show Int32.toInt 0 = 0 by decide)) (by decide) (by decide)) (gB_w (gBl (show Int32.toInt 0 = 0 by decide)) (by decide) (by decide)) (gB_w (gBl (show Int32.toInt 0 = 0 by decide)) (by decide) (by decide)) (gB_w (gBl (show Int32.toInt 0 = 0 by decide)) (by decide) (by decide)) (by have qa0 : Int32.toInt 0 = 0 := (by decide); omega) (by have qa0 : Int32.toInt 0 = 0 := (by decide); omega) (by have qa0 : Int32.toInt 0 = 0 := (by decide); omega) (rEl_frG (rEl_src x2519 rSrc_rf) hsb2547 hfr2546 rNg_n) (by have qa0 : Int32.toInt 0 = 0 := (by decide); omega)) dr_cX13_row_25 ⟨wr_9_239, wr_1_18, wr_10_2, by decide, rfl, (Nat.le_of_ble_eq_true rfl), (Nat.le_of_ble_eq_true rfl)⟩ wr_10_0 wr_10_1 hm2542 he2538 rfl (show 1 + 1 ≤ 2 by first | omega | decide) (show 7 + (n2514 + n2514 / 2 + 1) ≤ (n2514 + n2514 / 2 + 1 + 7) by first | omega | decide) (Nat.le_of_ble_eq_true rfl) (fun r2556 w2557 dc2553 ds2554 hp2555 => ?_) (fun _ _ _ _ _ z => z.elim)
  obtain ⟨P2567, F2568, o2558, o2559, q2560, n2561, f2562, rfl, rfl, hsb2569, hfr2570, he2571, he2572, he2573, hm2574, hq2575, hdc, hds, bo2559, x2563, x2564, x2565, x2566⟩ := hp2555
  have hm2576 : q2505 ∈ P2567 := hsb2569 q2505 hm2541
  have hm2577 : q2506 ∈ P2567 := hsb2569 q2506 hm2542
  have hm2578 : q2507 ∈ P2567 := hsb2569 q2507 hm2543
  have hm2579 : q2530 ∈ P2567 := hsb2569 q2530 hm2544
  have hq2580 : q2560 ∉ P2503 := fun z => hq2575 (hsb2547 q2560 z)
  have hsb2581 : rSub P2503 P2567 := rSub_tr hsb2547 hsb2569
  have he2582 : F2568 q2505 = .inr (18, [.ref qo2508, .ref q2506, .int p2509, .int p2510]) := (hfr2570 q2505 hm2541 (nm_c (rn_oo he2537 he2538 (by decide)) nm_n)).trans he2537
  have he2583 : F2568 q2507 = .inl (I (.object "java/lang/Object"), n2514, .inr (.inr (.inr (.inr f2513)))) := (hfr2570 q2507 hm2543 (nm_c (rn_ao he2539 he2538) nm_n)).trans he2539
  have hfr2584 : rFr [q2506] P2503 F2504 F2568 := rFr_call hsb2547 hfr2546 hfr2570 (fun b hb hn => ⟨nm_n, (nm_c (fun e => hn (e ▸ List.mem_cons_self)) nm_n)⟩)
  have bo2558 := gB_any o2558
  change G _ _ _ _ _ _ _ (.int 1 :: _) _ _ _
  refine G_widen (cs' := 2) (sl' := 7 + (n2514 + n2514 / 2 + 1)) (by omega) (by omega) ?_
  have hx2585 : f2562 p2509.toNatClampNeg = some q2530 := by show f2562 p2509.toInt.toNat = _; rw [show p2509.toInt = p2512.toInt by omega]; exact x2564.2
  refine G_pop dr_cX13_row_28 rfl ?_
  refine G_aload_n 0 dr_cX13_row_29 rfl ?_
  refine Gp_get 1 hm2576 he2582 dr_cX13_row_30 (gk_X13 D I) (Nat.le_of_ble_eq_true rfl) wr_7_31 rfl ?_
  refine G_aload_n 0 dr_cX13_row_33 rfl ?_
  refine Gp_get 2 hm2576 he2582 dr_cX13_row_34 (gk_X13 D I) (Nat.le_of_ble_eq_true rfl) wr_7_32 rfl ?_
  refine Gw_callV (As := [.int p2509]) (gV_ok D I) (cp_22_ArrayList_get l hl0 D I P2567 F2568 q2506 q2560 p2509 o2558 o2559 f2562 n2561 q2530 hm2577 hm2574 he2572 he2573 (gB_w bp2509 (by decide) (by decide)) ⟨by omega, by omega⟩ (by have qa0 : Int32.toInt 0 = 0 := (by decide); omega) (by have qa0 : Int32.toInt 0 = 0 := (by decide); omega) (by assumption) (by have qa0 : Int32.toInt 0 = 0 := (by decide); omega)) dr_cX13_row_37 ⟨wr_10_58, wr_1_18, wr_10_61, by decide, rfl, (Nat.le_of_ble_eq_true rfl), (Nat.le_of_ble_eq_true rfl)⟩ wr_10_59 wr_10_60 hm2577 he2572 rfl (show 2 + 0 ≤ 2 by first | omega | decide) (show 7 + (n2514 + n2514 / 2 + 1) + 0 ≤ (n2514 + n2514 / 2 + 1 + 7) by first | omega | decide) (Nat.le_of_ble_eq_true rfl) (fun r2589 w2590 dc2586 ds2587 hp2588 => ?_) (fun _ _ _ _ _ z => z.elim)
  obtain ⟨rfl, rfl, hdc, hds⟩ := hp2588
  change G _ _ _ _ _ _ _ (.ref q2530 :: _) _ _ _
  refine G_widen (cs' := 2) (sl' := 7 + (n2514 + n2514 / 2 + 1) + 0) (by omega) (by omega) ?_
  refine Gp_cast hm2579 he2571 rfl dr_cX13_row_40 wr_10_79 (gr_cast 1 rfl) ?_
  refine G_astore_n (L' := [(1, .ref q2530), (0, .ref q2505)]) dr_cX13_row_43 (Nat.le_of_ble_eq_true rfl) rfl ?_
  refine G_aload_n 1 dr_cX13_row_44 rfl ?_
  refine G_dup dr_cX13_row_45 rfl ?_
  refine Gp_get 2 hm2576 he2582 dr_cX13_row_46 (gk_X13 D I) (Nat.le_of_ble_eq_true rfl) wr_7_32 rfl ?_
  refine G_iconst 1 dr_cX13_row_49 (by decide +kernel) ?_
  refine G_iadd dr_cX13_row_50 (G_nam fun z2591 hz2591 => ?_)
  have ez2591 : z2591.toInt = p2509.toInt + 1 := by rw [gI_add hz2591 bp2509 (gBl (show Int32.toInt 1 = 1 by decide)) (by decide) (by decide), show Int32.toInt 1 = 1 from by decide]
  have bz2591 : gB z2591 1 1000001 := gB_add (gI_add hz2591 bp2509 (gBl (show Int32.toInt 1 = 1 by decide)) (by decide) (by decide)) bp2509 (gBl (show Int32.toInt 1 = 1 by decide)) (by decide) (by decide)
  refine Gp_put 2 hm2576 he2582 dr_cX13_row_51 (gk_X13 D I) (Nat.le_of_ble_eq_true rfl) wr_7_32 rfl rfl rfl (Nat.le_of_ble_eq_true rfl) (fun F2592 e2593 n2594 => ?_)
  have he2595 : F2592 q2507 = .inl (I (.object "java/lang/Object"), n2514, .inr (.inr (.inr (.inr f2513)))) := (n2594 q2507 (rn_ao he2583 he2582)).trans he2583
  have he2596 : F2592 q2530 = .inr (20, [.int 0, .int 0, .int 0, .int 0, .int 0, .int 0, .int 0]) := (n2594 q2530 (fun h => hq2545 (h ▸ hmq2505))).trans he2571
  have he2597 : F2592 q2506 = .inr (4, [.int o2558, .ref q2560, .int o2559]) := (n2594 q2506 (rn_oo he2572 he2582 (by decide))).trans he2572
  have he2598 : F2592 q2560 = .inl (I (.object "java/lang/Object"), n2561, .inr (.inr (.inr (.inr f2562)))) := (n2594 q2560 (fun h => hq2580 (h ▸ hmq2505))).trans he2573
  have he2599 : F2592 q2505 = .inr (18, [.ref qo2508, .ref q2506, .int z2591, .int p2510]) := e2593
  have hfr2600 : rFr [q2505, q2506] P2503 F2504 F2592 := rFr_put hfr2584 n2594
  refine G_aload_n 0 dr_cX13_row_54 rfl ?_
  refine G_iconst 0 dr_cX13_row_55 (by decide +kernel) ?_
  refine Gp_put 5 hm2579 he2596 dr_cX13_row_56 (gk_X15 D I) (Nat.le_of_ble_eq_true rfl) wr_9_192 rfl rfl rfl (Nat.le_of_ble_eq_true rfl) (fun F2601 e2602 n2603 => ?_)
  have he2604 : F2601 q2505 = .inr (18, [.ref qo2508, .ref q2506, .int z2591, .int p2510]) := (n2603 q2505 (fun h => hq2545 (h ▸ hmq2505))).trans he2599
  have he2605 : F2601 q2507 = .inl (I (.object "java/lang/Object"), n2514, .inr (.inr (.inr (.inr f2513)))) := (n2603 q2507 (fun h => hq2545 (h ▸ hmq2507))).trans he2595
  have he2606 : F2601 q2506 = .inr (4, [.int o2558, .ref q2560, .int o2559]) := (n2603 q2506 (fun h => hq2545 (h ▸ hmq2506))).trans he2597
  have he2607 : F2601 q2560 = .inl (I (.object "java/lang/Object"), n2561, .inr (.inr (.inr (.inr f2562)))) := (n2603 q2560 (rn_ao he2598 he2596)).trans he2598
  have he2608 : F2601 q2530 = .inr (20, [.int 0, .int 0, .int 0, .int 0, .int 0, .int 0, .int 0]) := e2602
  have hfr2609 : rFr [q2505, q2506] P2503 F2504 F2601 := rFr_newp hq2545 hfr2600 n2603
  refine G_aload_n 0 dr_cX13_row_59 rfl ?_
  refine G_iconst 0 dr_cX13_row_60 (by decide +kernel) ?_
  refine Gp_put 6 hm2579 he2608 dr_cX13_row_61 (gk_X15 D I) (Nat.le_of_ble_eq_true rfl) wr_9_196 rfl rfl rfl (Nat.le_of_ble_eq_true rfl) (fun F2610 e2611 n2612 => ?_)
  have he2613 : F2610 q2505 = .inr (18, [.ref qo2508, .ref q2506, .int z2591, .int p2510]) := (n2612 q2505 (fun h => hq2545 (h ▸ hmq2505))).trans he2604
  have he2614 : F2610 q2507 = .inl (I (.object "java/lang/Object"), n2514, .inr (.inr (.inr (.inr f2513)))) := (n2612 q2507 (fun h => hq2545 (h ▸ hmq2507))).trans he2605
  have he2615 : F2610 q2506 = .inr (4, [.int o2558, .ref q2560, .int o2559]) := (n2612 q2506 (fun h => hq2545 (h ▸ hmq2506))).trans he2606
  have he2616 : F2610 q2560 = .inl (I (.object "java/lang/Object"), n2561, .inr (.inr (.inr (.inr f2562)))) := (n2612 q2560 (rn_ao he2607 he2608)).trans he2607
  have he2617 : F2610 q2530 = .inr (20, [.int 0, .int 0, .int 0, .int 0, .int 0, .int 0, .int 0]) := e2611
  have hfr2618 : rFr [q2505, q2506] P2503 F2504 F2610 := rFr_newp hq2545 hfr2609 n2612
  refine G_aload_n 0 dr_cX13_row_64 rfl ?_
  refine G_iconst 0 dr_cX13_row_65 (by decide +kernel) ?_
  refine Gp_put 2 hm2579 he2617 dr_cX13_row_66 (gk_X15 D I) (Nat.le_of_ble_eq_true rfl) wr_9_180 rfl rfl rfl (Nat.le_of_ble_eq_true rfl) (fun F2619 e2620 n2621 => ?_)
  have he2622 : F2619 q2505 = .inr (18, [.ref qo2508, .ref q2506, .int z2591, .int p2510]) := (n2621 q2505 (fun h => hq2545 (h ▸ hmq2505))).trans he2613
  have he2623 : F2619 q2507 = .inl (I (.object "java/lang/Object"), n2514, .inr (.inr (.inr (.inr f2513)))) := (n2621 q2507 (fun h => hq2545 (h ▸ hmq2507))).trans he2614
  have he2624 : F2619 q2506 = .inr (4, [.int o2558, .ref q2560, .int o2559]) := (n2621 q2506 (fun h => hq2545 (h ▸ hmq2506))).trans he2615
  have he2625 : F2619 q2560 = .inl (I (.object "java/lang/Object"), n2561, .inr (.inr (.inr (.inr f2562)))) := (n2621 q2560 (rn_ao he2616 he2617)).trans he2616
  have he2626 : F2619 q2530 = .inr (20, [.int 0, .int 0, .int 0, .int 0, .int 0, .int 0, .int 0]) := e2620
  have hfr2627 : rFr [q2505, q2506] P2503 F2504 F2619 := rFr_newp hq2545 hfr2618 n2621
  refine G_aload_n 0 dr_cX13_row_69 rfl ?_
  refine G_iconst 0 dr_cX13_row_70 (by decide +kernel) ?_
  refine Gp_put 3 hm2579 he2626 dr_cX13_row_71 (gk_X15 D I) (Nat.le_of_ble_eq_true rfl) wr_9_184 rfl rfl rfl (Nat.le_of_ble_eq_true rfl) (fun F2628 e2629 n2630 => ?_)
  have he2631 : F2628 q2505 = .inr (18, [.ref qo2508, .ref q2506, .int z2591, .int p2510]) := (n2630 q2505 (fun h => hq2545 (h ▸ hmq2505))).trans he2622
  have he2632 : F2628 q2507 = .inl (I (.object "java/lang/Object"), n2514, .inr (.inr (.inr (.inr f2513)))) := (n2630 q2507 (fun h => hq2545 (h ▸ hmq2507))).trans he2623
  have he2633 : F2628 q2506 = .inr (4, [.int o2558, .ref q2560, .int o2559]) := (n2630 q2506 (fun h => hq2545 (h ▸ hmq2506))).trans he2624
  have he2634 : F2628 q2560 = .inl (I (.object "java/lang/Object"), n2561, .inr (.inr (.inr (.inr f2562)))) := (n2630 q2560 (rn_ao he2625 he2626)).trans he2625
  have he2635 : F2628 q2530 = .inr (20, [.int 0, .int 0, .int 0, .int 0, .int 0, .int 0, .int 0]) := e2629
  have hfr2636 : rFr [q2505, q2506] P2503 F2504 F2628 := rFr_newp hq2545 hfr2627 n2630
  refine G_aload_n 0 dr_cX13_row_74 rfl ?_
  refine G_iconst 0 dr_cX13_row_75 (by decide +kernel) ?_
  refine Gp_put 1 hm2579 he2635 dr_cX13_row_76 (gk_X15 D I) (Nat.le_of_ble_eq_true rfl) wr_9_176 rfl rfl rfl (Nat.le_of_ble_eq_true rfl) (fun F2637 e2638 n2639 => ?_)
  have he2640 : F2637 q2505 = .inr (18, [.ref qo2508, .ref q2506, .int z2591, .int p2510]) := (n2639 q2505 (fun h => hq2545 (h ▸ hmq2505))).trans he2631
  have he2641 : F2637 q2507 = .inl (I (.object "java/lang/Object"), n2514, .inr (.inr (.inr (.inr f2513)))) := (n2639 q2507 (fun h => hq2545 (h ▸ hmq2507))).trans he2632
  have he2642 : F2637 q2506 = .inr (4, [.int o2558, .ref q2560, .int o2559]) := (n2639 q2506 (fun h => hq2545 (h ▸ hmq2506))).trans he2633
  have he2643 : F2637 q2560 = .inl (I (.object "java/lang/Object"), n2561, .inr (.inr (.inr (.inr f2562)))) := (n2639 q2560 (rn_ao he2634 he2635)).trans he2634
  have he2644 : F2637 q2530 = .inr (20, [.int 0, .int 0, .int 0, .int 0, .int 0, .int 0, .int 0]) := e2638
  have hfr2645 : rFr [q2505, q2506] P2503 F2504 F2637 := rFr_newp hq2545 hfr2636 n2639
  refine G_aload_n 0 dr_cX13_row_79 rfl ?_
  refine G_iconst 0 dr_cX13_row_80 (by decide +kernel) ?_
  refine Gp_put 4 hm2579 he2644 dr_cX13_row_81 (gk_X15 D I) (Nat.le_of_ble_eq_true rfl) wr_9_188 rfl rfl rfl (Nat.le_of_ble_eq_true rfl) (fun F2646 e2647 n2648 => ?_)
  have he2649 : F2646 q2505 = .inr (18, [.ref qo2508, .ref q2506, .int z2591, .int p2510]) := (n2648 q2505 (fun h => hq2545 (h ▸ hmq2505))).trans he2640
  have he2650 : F2646 q2507 = .inl (I (.object "java/lang/Object"), n2514, .inr (.inr (.inr (.inr f2513)))) := (n2648 q2507 (fun h => hq2545 (h ▸ hmq2507))).trans he2641
  have he2651 : F2646 q2506 = .inr (4, [.int o2558, .ref q2560, .int o2559]) := (n2648 q2506 (fun h => hq2545 (h ▸ hmq2506))).trans he2642
  have he2652 : F2646 q2560 = .inl (I (.object "java/lang/Object"), n2561, .inr (.inr (.inr (.inr f2562)))) := (n2648 q2560 (rn_ao he2643 he2644)).trans he2643
  have he2653 : F2646 q2530 = .inr (20, [.int 0, .int 0, .int 0, .int 0, .int 0, .int 0, .int 0]) := e2647
  have hfr2654 : rFr [q2505, q2506] P2503 F2504 F2646 := rFr_newp hq2545 hfr2645 n2648
  refine G_aload_n 0 dr_cX13_row_84 rfl ?_
  exact G_aretA (FieldType.object "SpillForgeModel$Row") dr_cX13_row_85 rfl (by first | exact Or.inl ⟨_, rfl⟩ | exact Or.inr ⟨_, rfl⟩) (Or.inr ⟨_, rfl⟩) (Nat.le_of_ble_eq_true rfl) (show 7 + (n2514 + n2514 / 2 + 1) + 0 ≤ (n2514 + n2514 / 2 + 1 + 7) by omega) ⟨P2567, F2646, z2591, q2530, o2558, o2559, q2560, n2561, f2562, rfl, rfl, hsb2581, hfr2654, he2649, he2653, he2651, he2652, hm2579, hq2545, hm2574, hq2580, (Nat.le_of_ble_eq_true rfl), (by omega), bz2591, bo2559, (by have qa0 : Int32.toInt 0 = 0 := (by decide); omega), (by have qa0 : Int32.toInt 0 = 0 := (by decide); omega), (by assumption), (by assumption), (by have qa0 : Int32.toInt 0 = 0 := (by decide); omega)⟩
abbrev ky_2681_ArrayList_size : gKey := (cJx4a65c_size_8abf5, 1, "java/util/ArrayList", (some FieldType.int), [], "size", fun _ _ => True)
def pp_2681_ArrayList_size (D : va_G) (I : FieldType → ClassId) (P2676 : List Nat) (F2677 : Nat → va_E) (q2678 : Nat) (p2679 : Int32) (p2680 : Int32) : Option Value → va_W → Nat → Nat → Prop := fun r w dc ds => r = some (.int p2680) ∧ w = va_pl P2676 F2677 ∧ dc ≤ 0 ∧ ds ≤ 0
set_option maxRecDepth 100000 in
set_option maxHeartbeats 4000000 in
theorem cp_2681_ArrayList_size (l : Launch) (hl0 : l.stackTraces = false) (D : va_G) (I : FieldType → ClassId) (P2676 : List Nat) (F2677 : Nat → va_E) (q2678 : Nat) (p2679 : Int32) (p2680 : Int32) (hmq2678 : q2678 ∈ P2676) (heq2678 : F2677 q2678 = .inr (4, [.int p2679, .ref (D.2 1002 1), .int p2680])) (bp2680 : gB p2680 0 16777216) : CtA (gV D I) l yJx4a65c_size_8abf5 cJx4a65c_size_8abf5 1 (some FieldType.int) 0 0 0 0 [.ref q2678] (va_pl P2676 F2677) (pp_2681_ArrayList_size D I P2676 F2677 q2678 p2679 p2680) gNA := by
  refine CtA_ofF hl0 (by decide +kernel) (Nat.le_of_ble_eq_true rfl) ?_
  have bp2679 := gB_any p2679
  refine G_aload_n 0 dr_cJx4a65c_size_8abf5_0 rfl ?_
  refine Gp_get 2 hmq2678 heq2678 dr_cJx4a65c_size_8abf5_1 (gk_Jx4a65c D I) (Nat.le_of_ble_eq_true rfl) wr_7_18 rfl ?_
  exact G_iretA dr_cJx4a65c_size_8abf5_4 rfl (Nat.le_of_ble_eq_true rfl) (Nat.le_of_ble_eq_true rfl) ⟨rfl, rfl, (Nat.le_of_ble_eq_true rfl), (Nat.le_of_ble_eq_true rfl)⟩
abbrev ky_2675_Code_row : gKey := (cX13_row, 2, "SpillForgeModel$Code", (some (FieldType.object "SpillForgeModel$Row")), [], "row", fun _ _ => True)
def pp_2675_Code_row (D : va_G) (I : FieldType → ClassId) (P2664 : List Nat) (F2665 : Nat → va_E) (q2666 : Nat) (q2667 : Nat) (qo2668 : Nat) (p2669 : Int32) (p2670 : Int32) (p2671 : Int32) (p2672 : Int32) : Option Value → va_W → Nat → Nat → Prop := fun r w dc ds => ∃ (P2811 : List Nat) (F2812 : Nat → va_E) (o2804 : Int32) (q2805 : Nat) (o2806 : Int32) (o2807 : Int32) (q2808 : Nat) (n2809 : Nat) (f2810 : Nat → Option Nat), r = some (.ref q2805) ∧ w = va_pl P2811 F2812 ∧ rSub P2664 P2811 ∧ rFr [q2666, q2667] P2664 F2665 F2812 ∧ F2812 q2666 = .inr (18, [.ref qo2668, .ref q2667, .int o2804, .int p2670]) ∧ F2812 q2805 = .inr (20, [.int 0, .int 0, .int 0, .int 0, .int 0, .int 0, .int 0]) ∧ F2812 q2667 = .inr (4, [.int o2806, .ref q2808, .int o2807]) ∧ F2812 q2808 = .inl (I (.object "java/lang/Object"), n2809, .inr (.inr (.inr (.inr f2810)))) ∧ q2805 ∈ P2811 ∧ q2805 ∉ P2664 ∧ q2808 ∈ P2811 ∧ q2808 ∉ P2664 ∧ dc ≤ 2 ∧ ds ≤ 17 ∧ gB o2804 1 1000001 ∧ gB o2807 1 1 ∧ o2804.toInt = p2669.toInt + 1 ∧ o2807.toInt = p2672.toInt + 1 ∧ f2810 p2672.toInt.toNat = some q2805 ∧ (∀ j w, f2810 j = some w → w = q2805) ∧ (n2809 : Int) = 10
set_option maxRecDepth 100000 in
set_option maxHeartbeats 4000000 in
theorem cp_2675_Code_row (l : Launch) (hl0 : l.stackTraces = false) (D : va_G) (I : FieldType → ClassId) (P2664 : List Nat) (F2665 : Nat → va_E) (q2666 : Nat) (q2667 : Nat) (qo2668 : Nat) (p2669 : Int32) (p2670 : Int32) (p2671 : Int32) (p2672 : Int32) (hmq2666 : q2666 ∈ P2664) (hmq2667 : q2667 ∈ P2664) (heq2666 : F2665 q2666 = .inr (18, [.ref qo2668, .ref q2667, .int p2669, .int p2670])) (heq2667 : F2665 q2667 = .inr (4, [.int p2671, .ref (D.2 1002 1), .int p2672])) (bp2669 : gB p2669 0 1000000) (bp2670 : gB p2670 0 1000000) (bp2672 : gB p2672 0 1000000) (x2673 : p2669.toInt = p2672.toInt) (x2674 : p2672.toInt = 0) : CtA (gV D I) l yX13_row cX13_row 2 (some (FieldType.object "SpillForgeModel$Row")) 5 101 2 17 [.ref q2666] (va_pl P2664 F2665) (pp_2675_Code_row D I P2664 F2665 q2666 q2667 qo2668 p2669 p2670 p2671 p2672) gNA := by
  refine CtA_of hl0 (by decide) (Nat.le_of_ble_eq_true rfl) ?_
  have bp2671 := gB_any p2671
  refine G_aload_n 0 dr_cX13_row_0 rfl ?_
  refine Gp_get 2 hmq2666 heq2666 dr_cX13_row_1 (gk_X13 D I) (Nat.le_of_ble_eq_true rfl) wr_7_32 rfl ?_
  refine G_aload_n 0 dr_cX13_row_4 rfl ?_
  refine Gp_get 1 hmq2666 heq2666 dr_cX13_row_5 (gk_X13 D I) (Nat.le_of_ble_eq_true rfl) wr_7_31 rfl ?_
  refine Gw_callV (As := []) (gV_ok D I) (cp_2681_ArrayList_size l hl0 D I P2664 F2665 q2667 p2671 p2672 hmq2667 heq2667 (gB_w bp2672 (by decide) (by decide))) dr_cX13_row_8 ⟨wr_9_153, wr_1_18, wr_9_156, by decide, rfl, (Nat.le_of_ble_eq_true rfl), (Nat.le_of_ble_eq_true rfl)⟩ wr_9_154 wr_9_155 hmq2667 heq2667 rfl (show 0 + 0 ≤ 2 by first | omega | decide) (show 0 + 0 ≤ 17 by first | omega | decide) (Nat.le_of_ble_eq_true rfl) (fun r2685 w2686 dc2682 ds2683 hp2684 => ?_) (fun _ _ _ _ _ z => z.elim)
  obtain ⟨rfl, rfl, hdc, hds⟩ := hp2684
  change G _ _ _ _ _ _ _ (.int p2672 :: _) _ _ _
  refine G_widen (cs' := 0) (sl' := 0) (by omega) (by omega) ?_
  refine G_icmp_ne 29 dr_cX13_row_11 (by decide +kernel) (fun hc => absurd (show False by have := gC_ne hc; omega) not_false) (fun hc2687 => ?_)
  have r2689 : p2669.toInt = p2672.toInt := gC_eq hc2687
  refine G_aload_n 0 dr_cX13_row_14 rfl ?_
  refine Gp_get 1 hmq2666 heq2666 dr_cX13_row_15 (gk_X13 D I) (Nat.le_of_ble_eq_true rfl) wr_7_31 rfl ?_
  refine G_new [.int 0, .int 0, .int 0, .int 0, .int 0, .int 0, .int 0] dr_cX13_row_18 (gk_X15 D I) wr_10_79 wr_9_166 wr_1_39 (gfs_X15) (show 0 + 1 ≤ 2 by first | omega | decide) (show 0 + 7 ≤ 17 by first | omega | decide) (fun q2690 => Gp_in (fun P2691 F2692 hq2693 hP2694 e2695 n2696 => ?_))
  refine G_widen (cs' := 1) (sl' := 7) (by omega) (by omega) ?_
  have he2697 : F2692 q2666 = .inr (18, [.ref qo2668, .ref q2667, .int p2669, .int p2670]) := (n2696 q2666 (fun h => hq2693 (h ▸ hmq2666))).trans heq2666
  have he2698 : F2692 q2667 = .inr (4, [.int p2671, .ref (D.2 1002 1), .int p2672]) := (n2696 q2667 (fun h => hq2693 (h ▸ hmq2667))).trans heq2667
  have he2699 : F2692 q2690 = .inr (20, [.int 0, .int 0, .int 0, .int 0, .int 0, .int 0, .int 0]) := e2695
  have hm2700 : q2666 ∈ P2691 := (hP2694 q2666).mpr (Or.inl hmq2666)
  have hm2701 : q2667 ∈ P2691 := (hP2694 q2667).mpr (Or.inl hmq2667)
  have hm2702 : q2690 ∈ P2691 := (hP2694 q2690).mpr (Or.inr rfl)
  have hq2703 : q2690 ∉ P2664 := fun z => hq2693 ((rSub_rf (P := P2664)) q2690 z)
  have hfr2704 : rFr [] P2664 F2665 F2692 := rFr_new (rSub_rf (P := P2664)) hq2693 (rFr_rf (W := []) (P := P2664) (F := F2665)) n2696
  have hsb2705 : rSub P2664 P2691 := rSub_new (rSub_rf (P := P2664)) hP2694
  refine G_dup dr_cX13_row_21 rfl ?_
  refine Gw_callIN (As := []) (gV_ok D I) (cp_2408_Row_init l hl0 D I P2691 F2692 q2690 0 0 0 0 0 0 0 hm2702 he2699 (gB_w (gBl (show Int32.toInt 0 = 0 by decide)) (by decide) (by decide)) (gB_w (gBl (show Int32.toInt 0 = 0 by decide)) (by decide) (by decide)) (gB_w (gBl (show Int32.toInt 0 = 0 by decide)) (by decide) (by decide)) (gB_w (gBl (show Int32.toInt 0 = 0 by decide)) (by decide) (by decide)) (gB_w (gBl (show Int32.toInt 0 = 0 by decide)) (by decide) (by decide))) dr_cX13_row_22 ⟨(fun _ _ _ h => gn_w 80 rfl h), wr_1_39, wr_9_169, by decide, rfl, (Nat.le_of_ble_eq_true rfl), (Nat.le_of_ble_eq_true rfl)⟩ wr_9_168 rfl (show 1 + 0 ≤ 2 by first | omega | decide) (show 7 + 0 ≤ 17 by first | omega | decide) (Nat.le_of_ble_eq_true rfl) (fun r2709 w2710 dc2706 ds2707 hp2708 => ?_)
  obtain ⟨rfl, rfl, hdc, hds⟩ := hp2708
  change G _ _ _ _ _ _ _ _ _ _ _
  refine G_widen (cs' := 1) (sl' := 7) (by omega) (by omega) ?_
  refine Gw_callV (As := [.ref q2690]) (gV_ok D I) (cp_741_ArrayList_add l hl0 D I P2691 F2692 q2667 q2690 p2671 p2672 0 0 0 0 0 0 0 hm2701 hm2702 he2698 he2699 (gB_w bp2672 (by decide) (by decide)) (gB_w (gBl (show Int32.toInt 0 = 0 by decide)) (by decide) (by decide)) (gB_w (gBl (show Int32.toInt 0 = 0 by decide)) (by decide) (by decide)) (gB_w (gBl (show Int32.toInt 0 = 0 by decide)) (by decide) (by decide)) (gB_w (gBl (show Int32.toInt 0 = 0 by decide)) (by decide) (by decide)) (gB_w (gBl (show Int32.toInt 0 = 0 by decide)) (by decide) (by decide)) (by have qa0 : Int32.toInt 0 = 0 := (by decide); omega)) dr_cX13_row_25 ⟨wr_9_239, wr_1_18, wr_10_2, by decide, rfl, (Nat.le_of_ble_eq_true rfl), (Nat.le_of_ble_eq_true rfl)⟩ wr_10_0 wr_10_1 hm2701 he2698 rfl (show 1 + 1 ≤ 2 by first | omega | decide) (show 7 + 10 ≤ 17 by first | omega | decide) (Nat.le_of_ble_eq_true rfl) (fun r2714 w2715 dc2711 ds2712 hp2713 => ?_) (fun _ _ _ _ _ z => z.elim)
  obtain ⟨P2725, F2726, o2716, o2717, q2718, n2719, f2720, rfl, rfl, hsb2727, hfr2728, he2729, he2730, he2731, hm2732, hq2733, hdc, hds, bo2717, x2721, x2722, x2723, x2724⟩ := hp2713
  have hm2734 : q2666 ∈ P2725 := hsb2727 q2666 hm2700
  have hm2735 : q2667 ∈ P2725 := hsb2727 q2667 hm2701
  have hm2736 : q2690 ∈ P2725 := hsb2727 q2690 hm2702
  have hq2737 : q2718 ∉ P2664 := fun z => hq2733 (hsb2705 q2718 z)
  have hsb2738 : rSub P2664 P2725 := rSub_tr hsb2705 hsb2727
  have he2739 : F2726 q2666 = .inr (18, [.ref qo2668, .ref q2667, .int p2669, .int p2670]) := (hfr2728 q2666 hm2700 (nm_c (rn_oo he2697 he2698 (by decide)) nm_n)).trans he2697
  have hfr2740 : rFr [q2667] P2664 F2665 F2726 := rFr_call hsb2705 hfr2704 hfr2728 (fun b hb hn => ⟨nm_n, (nm_c (fun e => hn (e ▸ List.mem_cons_self)) nm_n)⟩)
  have bo2716 := gB_any o2716
  change G _ _ _ _ _ _ _ (.int 1 :: _) _ _ _
  refine G_widen (cs' := 2) (sl' := 17) (by omega) (by omega) ?_
  have hx2741 : f2720 p2669.toNatClampNeg = some q2690 := by show f2720 p2669.toInt.toNat = _; rw [show p2669.toInt = p2672.toInt by omega]; exact x2722
  refine G_pop dr_cX13_row_28 rfl ?_
  refine G_aload_n 0 dr_cX13_row_29 rfl ?_
  refine Gp_get 1 hm2734 he2739 dr_cX13_row_30 (gk_X13 D I) (Nat.le_of_ble_eq_true rfl) wr_7_31 rfl ?_
  refine G_aload_n 0 dr_cX13_row_33 rfl ?_
  refine Gp_get 2 hm2734 he2739 dr_cX13_row_34 (gk_X13 D I) (Nat.le_of_ble_eq_true rfl) wr_7_32 rfl ?_
  refine Gw_callV (As := [.int p2669]) (gV_ok D I) (cp_22_ArrayList_get l hl0 D I P2725 F2726 q2667 q2718 p2669 o2716 o2717 f2720 n2719 q2690 hm2735 hm2732 he2730 he2731 (gB_w bp2669 (by decide) (by decide)) (gB_w bo2717 (by decide) (by decide)) (by have qa0 : Int32.toInt 0 = 0 := (by decide); omega) (by have qa0 : Int32.toInt 0 = 0 := (by decide); omega) (by assumption) (by have qa0 : Int32.toInt 0 = 0 := (by decide); omega)) dr_cX13_row_37 ⟨wr_10_58, wr_1_18, wr_10_61, by decide, rfl, (Nat.le_of_ble_eq_true rfl), (Nat.le_of_ble_eq_true rfl)⟩ wr_10_59 wr_10_60 hm2735 he2730 rfl (show 2 + 0 ≤ 2 by first | omega | decide) (show 17 + 0 ≤ 17 by first | omega | decide) (Nat.le_of_ble_eq_true rfl) (fun r2745 w2746 dc2742 ds2743 hp2744 => ?_) (fun _ _ _ _ _ z => z.elim)
  obtain ⟨rfl, rfl, hdc, hds⟩ := hp2744
  change G _ _ _ _ _ _ _ (.ref q2690 :: _) _ _ _
  refine G_widen (cs' := 2) (sl' := 17) (by omega) (by omega) ?_
  refine Gp_cast hm2736 he2729 rfl dr_cX13_row_40 wr_10_79 (gr_cast 1 rfl) ?_
  refine G_astore_n (L' := [(1, .ref q2690), (0, .ref q2666)]) dr_cX13_row_43 (Nat.le_of_ble_eq_true rfl) rfl ?_
  refine G_aload_n 1 dr_cX13_row_44 rfl ?_
  refine G_dup dr_cX13_row_45 rfl ?_
  refine Gp_get 2 hm2734 he2739 dr_cX13_row_46 (gk_X13 D I) (Nat.le_of_ble_eq_true rfl) wr_7_32 rfl ?_
  refine G_iconst 1 dr_cX13_row_49 (by decide +kernel) ?_
  refine G_iadd dr_cX13_row_50 (G_nam fun z2747 hz2747 => ?_)
  have ez2747 : z2747.toInt = p2669.toInt + 1 := by rw [gI_add hz2747 bp2669 (gBl (show Int32.toInt 1 = 1 by decide)) (by decide) (by decide), show Int32.toInt 1 = 1 from by decide]
  have bz2747 : gB z2747 1 1000001 := gB_add (gI_add hz2747 bp2669 (gBl (show Int32.toInt 1 = 1 by decide)) (by decide) (by decide)) bp2669 (gBl (show Int32.toInt 1 = 1 by decide)) (by decide) (by decide)
  refine Gp_put 2 hm2734 he2739 dr_cX13_row_51 (gk_X13 D I) (Nat.le_of_ble_eq_true rfl) wr_7_32 rfl rfl rfl (Nat.le_of_ble_eq_true rfl) (fun F2748 e2749 n2750 => ?_)
  have he2751 : F2748 q2690 = .inr (20, [.int 0, .int 0, .int 0, .int 0, .int 0, .int 0, .int 0]) := (n2750 q2690 (fun h => hq2703 (h ▸ hmq2666))).trans he2729
  have he2752 : F2748 q2667 = .inr (4, [.int o2716, .ref q2718, .int o2717]) := (n2750 q2667 (rn_oo he2730 he2739 (by decide))).trans he2730
  have he2753 : F2748 q2718 = .inl (I (.object "java/lang/Object"), n2719, .inr (.inr (.inr (.inr f2720)))) := (n2750 q2718 (fun h => hq2737 (h ▸ hmq2666))).trans he2731
  have he2754 : F2748 q2666 = .inr (18, [.ref qo2668, .ref q2667, .int z2747, .int p2670]) := e2749
  have hfr2755 : rFr [q2666, q2667] P2664 F2665 F2748 := rFr_put hfr2740 n2750
  refine G_aload_n 0 dr_cX13_row_54 rfl ?_
  refine G_iconst 0 dr_cX13_row_55 (by decide +kernel) ?_
  refine Gp_put 5 hm2736 he2751 dr_cX13_row_56 (gk_X15 D I) (Nat.le_of_ble_eq_true rfl) wr_9_192 rfl rfl rfl (Nat.le_of_ble_eq_true rfl) (fun F2756 e2757 n2758 => ?_)
  have he2759 : F2756 q2666 = .inr (18, [.ref qo2668, .ref q2667, .int z2747, .int p2670]) := (n2758 q2666 (fun h => hq2703 (h ▸ hmq2666))).trans he2754
  have he2760 : F2756 q2667 = .inr (4, [.int o2716, .ref q2718, .int o2717]) := (n2758 q2667 (fun h => hq2703 (h ▸ hmq2667))).trans he2752
  have he2761 : F2756 q2718 = .inl (I (.object "java/lang/Object"), n2719, .inr (.inr (.inr (.inr f2720)))) := (n2758 q2718 (rn_ao he2753 he2751)).trans he2753
  have he2762 : F2756 q2690 = .inr (20, [.int 0, .int 0, .int 0, .int 0, .int 0, .int 0, .int 0]) := e2757
  have hfr2763 : rFr [q2666, q2667] P2664 F2665 F2756 := rFr_newp hq2703 hfr2755 n2758
  refine G_aload_n 0 dr_cX13_row_59 rfl ?_
  refine G_iconst 0 dr_cX13_row_60 (by decide +kernel) ?_
  refine Gp_put 6 hm2736 he2762 dr_cX13_row_61 (gk_X15 D I) (Nat.le_of_ble_eq_true rfl) wr_9_196 rfl rfl rfl (Nat.le_of_ble_eq_true rfl) (fun F2764 e2765 n2766 => ?_)
  have he2767 : F2764 q2666 = .inr (18, [.ref qo2668, .ref q2667, .int z2747, .int p2670]) := (n2766 q2666 (fun h => hq2703 (h ▸ hmq2666))).trans he2759
  have he2768 : F2764 q2667 = .inr (4, [.int o2716, .ref q2718, .int o2717]) := (n2766 q2667 (fun h => hq2703 (h ▸ hmq2667))).trans he2760
  have he2769 : F2764 q2718 = .inl (I (.object "java/lang/Object"), n2719, .inr (.inr (.inr (.inr f2720)))) := (n2766 q2718 (rn_ao he2761 he2762)).trans he2761
  have he2770 : F2764 q2690 = .inr (20, [.int 0, .int 0, .int 0, .int 0, .int 0, .int 0, .int 0]) := e2765
  have hfr2771 : rFr [q2666, q2667] P2664 F2665 F2764 := rFr_newp hq2703 hfr2763 n2766
  refine G_aload_n 0 dr_cX13_row_64 rfl ?_
  refine G_iconst 0 dr_cX13_row_65 (by decide +kernel) ?_
  refine Gp_put 2 hm2736 he2770 dr_cX13_row_66 (gk_X15 D I) (Nat.le_of_ble_eq_true rfl) wr_9_180 rfl rfl rfl (Nat.le_of_ble_eq_true rfl) (fun F2772 e2773 n2774 => ?_)
  have he2775 : F2772 q2666 = .inr (18, [.ref qo2668, .ref q2667, .int z2747, .int p2670]) := (n2774 q2666 (fun h => hq2703 (h ▸ hmq2666))).trans he2767
  have he2776 : F2772 q2667 = .inr (4, [.int o2716, .ref q2718, .int o2717]) := (n2774 q2667 (fun h => hq2703 (h ▸ hmq2667))).trans he2768
  have he2777 : F2772 q2718 = .inl (I (.object "java/lang/Object"), n2719, .inr (.inr (.inr (.inr f2720)))) := (n2774 q2718 (rn_ao he2769 he2770)).trans he2769
  have he2778 : F2772 q2690 = .inr (20, [.int 0, .int 0, .int 0, .int 0, .int 0, .int 0, .int 0]) := e2773
  have hfr2779 : rFr [q2666, q2667] P2664 F2665 F2772 := rFr_newp hq2703 hfr2771 n2774
  refine G_aload_n 0 dr_cX13_row_69 rfl ?_
  refine G_iconst 0 dr_cX13_row_70 (by decide +kernel) ?_
  refine Gp_put 3 hm2736 he2778 dr_cX13_row_71 (gk_X15 D I) (Nat.le_of_ble_eq_true rfl) wr_9_184 rfl rfl rfl (Nat.le_of_ble_eq_true rfl) (fun F2780 e2781 n2782 => ?_)
  have he2783 : F2780 q2666 = .inr (18, [.ref qo2668, .ref q2667, .int z2747, .int p2670]) := (n2782 q2666 (fun h => hq2703 (h ▸ hmq2666))).trans he2775
  have he2784 : F2780 q2667 = .inr (4, [.int o2716, .ref q2718, .int o2717]) := (n2782 q2667 (fun h => hq2703 (h ▸ hmq2667))).trans he2776
  have he2785 : F2780 q2718 = .inl (I (.object "java/lang/Object"), n2719, .inr (.inr (.inr (.inr f2720)))) := (n2782 q2718 (rn_ao he2777 he2778)).trans he2777
  have he2786 : F2780 q2690 = .inr (20, [.int 0, .int 0, .int 0, .int 0, .int 0, .int 0, .int 0]) := e2781
  have hfr2787 : rFr [q2666, q2667] P2664 F2665 F2780 := rFr_newp hq2703 hfr2779 n2782
  refine G_aload_n 0 dr_cX13_row_74 rfl ?_
  refine G_iconst 0 dr_cX13_row_75 (by decide +kernel) ?_
  refine Gp_put 1 hm2736 he2786 dr_cX13_row_76 (gk_X15 D I) (Nat.le_of_ble_eq_true rfl) wr_9_176 rfl rfl rfl (Nat.le_of_ble_eq_true rfl) (fun F2788 e2789 n2790 => ?_)
  have he2791 : F2788 q2666 = .inr (18, [.ref qo2668, .ref q2667, .int z2747, .int p2670]) := (n2790 q2666 (fun h => hq2703 (h ▸ hmq2666))).trans he2783
  have he2792 : F2788 q2667 = .inr (4, [.int o2716, .ref q2718, .int o2717]) := (n2790 q2667 (fun h => hq2703 (h ▸ hmq2667))).trans he2784
  have he2793 : F2788 q2718 = .inl (I (.object "java/lang/Object"), n2719, .inr (.inr (.inr (.inr f2720)))) := (n2790 q2718 (rn_ao he2785 he2786)).trans he2785
  have he2794 : F2788 q2690 = .inr (20, [.int 0, .int 0, .int 0, .int 0, .int 0, .int 0, .int 0]) := e2789
  have hfr2795 : rFr [q2666, q2667] P2664 F2665 F2788 := rFr_newp hq2703 hfr2787 n2790
  refine G_aload_n 0 dr_cX13_row_79 rfl ?_
  refine G_iconst 0 dr_cX13_row_80 (by decide +kernel) ?_
  refine Gp_put 4 hm2736 he2794 dr_cX13_row_81 (gk_X15 D I) (Nat.le_of_ble_eq_true rfl) wr_9_188 rfl rfl rfl (Nat.le_of_ble_eq_true rfl) (fun F2796 e2797 n2798 => ?_)
  have he2799 : F2796 q2666 = .inr (18, [.ref qo2668, .ref q2667, .int z2747, .int p2670]) := (n2798 q2666 (fun h => hq2703 (h ▸ hmq2666))).trans he2791
  have he2800 : F2796 q2667 = .inr (4, [.int o2716, .ref q2718, .int o2717]) := (n2798 q2667 (fun h => hq2703 (h ▸ hmq2667))).trans he2792
  have he2801 : F2796 q2718 = .inl (I (.object "java/lang/Object"), n2719, .inr (.inr (.inr (.inr f2720)))) := (n2798 q2718 (rn_ao he2793 he2794)).trans he2793
  have he2802 : F2796 q2690 = .inr (20, [.int 0, .int 0, .int 0, .int 0, .int 0, .int 0, .int 0]) := e2797
  have hfr2803 : rFr [q2666, q2667] P2664 F2665 F2796 := rFr_newp hq2703 hfr2795 n2798
  refine G_aload_n 0 dr_cX13_row_84 rfl ?_
  exact G_aretA (FieldType.object "SpillForgeModel$Row") dr_cX13_row_85 rfl (by first | exact Or.inl ⟨_, rfl⟩ | exact Or.inr ⟨_, rfl⟩) (Or.inr ⟨_, rfl⟩) (Nat.le_of_ble_eq_true rfl) (Nat.le_of_ble_eq_true rfl) ⟨P2725, F2796, z2747, q2690, o2716, o2717, q2718, n2719, f2720, rfl, rfl, hsb2738, hfr2803, he2799, he2802, he2800, he2801, hm2736, hq2703, hm2732, hq2737, (Nat.le_of_ble_eq_true rfl), (Nat.le_of_ble_eq_true rfl), bz2747, bo2717, (by have qa0 : Int32.toInt 0 = 0 := (by decide); omega), (by have qa0 : Int32.toInt 0 = 0 := (by decide); omega), (by assumption), (by assumption), (by have qa0 : Int32.toInt 0 = 0 := (by decide); omega)⟩
abbrev ky_2842_Code_block : gKey := (cX13_block, 2, "SpillForgeModel$Code", (some (FieldType.object "SpillForgeModel$Block")), [], "block", fun _ _ => True)
def pp_2842_Code_block (D : va_G) (I : FieldType → ClassId) (P2813 : List Nat) (F2814 : Nat → va_E) (q2815 : Nat) (q2816 : Nat) (q2817 : Nat) (qo2818 : Nat) (p2819 : Int32) (p2820 : Int32) (p2821 : Int32) (p2822 : Int32) (f2823 : Nat → Option Nat) (n2824 : Nat) (z2825 : Nat) (y2826 : Nat) (x2827 : Nat) (n2828 : Nat) (f2829 : Nat → Option Nat) (p2830 : Int32) (p2831 : Int32) (qo2832 : Nat) (p2833 : Int32) (p2834 : Int32) : Option Value → va_W → Nat → Nat → Prop := fun r w dc ds => ∃ (F2889 : Nat → va_E) (o2885 : Int32) (o2886 : Int32) (f2887 : Nat → Option Nat), r = some (.ref x2827) ∧ w = va_pl P2813 F2889 ∧ rFr [q2815, y2826, z2825] P2813 F2814 F2889 ∧ F2889 q2815 = .inr (18, [.ref q2816, .ref qo2818, .int p2819, .int o2885]) ∧ F2889 q2816 = .inr (4, [.int p2821, .ref q2817, .int p2822]) ∧ F2889 q2817 = .inl (I (.object "java/lang/Object"), n2824, .inr (.inr (.inr (.inr f2823)))) ∧ F2889 x2827 = .inr (17, [.ref y2826, .ref qo2832, .int p2833, .int p2834]) ∧ F2889 y2826 = .inr (4, [.int o2886, .ref z2825, .int 0]) ∧ F2889 z2825 = .inl (I (.object "java/lang/Object"), n2828, .inr (.inr (.inr (.inr f2887)))) ∧ dc ≤ 0 ∧ ds ≤ 0 ∧ gB o2885 1 1000001 ∧ o2885.toInt = p2820.toInt + 1 ∧ rSrc f2887 f2829
set_option maxRecDepth 100000 in
set_option maxHeartbeats 4000000 in
theorem cp_2842_Code_block (l : Launch) (hl0 : l.stackTraces = false) (D : va_G) (I : FieldType → ClassId) (P2813 : List Nat) (F2814 : Nat → va_E) (q2815 : Nat) (q2816 : Nat) (q2817 : Nat) (qo2818 : Nat) (p2819 : Int32) (p2820 : Int32) (p2821 : Int32) (p2822 : Int32) (f2823 : Nat → Option Nat) (n2824 : Nat) (z2825 : Nat) (y2826 : Nat) (x2827 : Nat) (n2828 : Nat) (f2829 : Nat → Option Nat) (p2830 : Int32) (p2831 : Int32) (qo2832 : Nat) (p2833 : Int32) (p2834 : Int32) (hmq2815 : q2815 ∈ P2813) (hmq2816 : q2816 ∈ P2813) (hmq2817 : q2817 ∈ P2813) (hmz2825 : z2825 ∈ P2813) (hmy2826 : y2826 ∈ P2813) (hmx2827 : x2827 ∈ P2813) (heq2815 : F2814 q2815 = .inr (18, [.ref q2816, .ref qo2818, .int p2819, .int p2820])) (heq2816 : F2814 q2816 = .inr (4, [.int p2821, .ref q2817, .int p2822])) (heq2817 : F2814 q2817 = .inl (I (.object "java/lang/Object"), n2824, .inr (.inr (.inr (.inr f2823))))) (hez2825 : F2814 z2825 = .inl (I (.object "java/lang/Object"), n2828, .inr (.inr (.inr (.inr f2829))))) (hey2826 : F2814 y2826 = .inr (4, [.int p2830, .ref z2825, .int p2831])) (hex2827 : F2814 x2827 = .inr (17, [.ref y2826, .ref qo2832, .int p2833, .int p2834])) (hneq2817z2825 : q2817 ≠ z2825) (hneq2816y2826 : q2816 ≠ y2826) (bp2819 : gB p2819 0 1000000) (bp2820 : gB p2820 0 1000000) (bp2822 : gB p2822 0 1000000) (bp2831 : gB p2831 0 1000000) (bp2833 : gB p2833 0 39) (bp2834 : gB p2834 0 39) (x2835 : p2820.toInt < p2822.toInt) (x2836 : p2822.toInt ≤ (n2824 : Int)) (x2837 : f2823 p2820.toNatClampNeg = some x2827) (x2838 : rEl P2813 F2814 f2829) (x2839 : p2831.toInt ≤ (n2828 : Int)) (x2840 : (n2828 : Int) ≤ 16777216) (x2841 : ((n2824 : Int) ≤ 16777216)) : CtA (gV D I) l yX13_block cX13_block 2 (some (FieldType.object "SpillForgeModel$Block")) 3 64 0 0 [.ref q2815] (va_pl P2813 F2814) (pp_2842_Code_block D I P2813 F2814 q2815 q2816 q2817 qo2818 p2819 p2820 p2821 p2822 f2823 n2824 z2825 y2826 x2827 n2828 f2829 p2830 p2831 qo2832 p2833 p2834) gNA := by
  refine CtA_of hl0 (by decide) (Nat.le_of_ble_eq_true rfl) ?_
  have bp2821 := gB_any p2821
  have bp2830 := gB_any p2830
  refine G_aload_n 0 dr_cX13_block_0 rfl ?_
  refine Gp_get 3 hmq2815 heq2815 dr_cX13_block_1 (gk_X13 D I) (Nat.le_of_ble_eq_true rfl) wr_7_33 rfl ?_
  refine G_aload_n 0 dr_cX13_block_4 rfl ?_
  refine Gp_get 0 hmq2815 heq2815 dr_cX13_block_5 (gk_X13 D I) (Nat.le_of_ble_eq_true rfl) wr_7_30 rfl ?_
  refine Gw_callV (As := []) (gV_ok D I) (cp_2281_ArrayList_size l hl0 D I P2813 F2814 q2816 q2817 p2821 p2822 f2823 n2824 hmq2816 hmq2817 heq2816 heq2817 (gB_w bp2822 (by decide) (by decide)) (by omega)) dr_cX13_block_8 ⟨wr_9_153, wr_1_18, wr_9_156, by decide, rfl, (Nat.le_of_ble_eq_true rfl), (Nat.le_of_ble_eq_true rfl)⟩ wr_9_154 wr_9_155 hmq2816 heq2816 rfl (show 0 + 0 ≤ 0 by first | omega | decide) (show 0 + 0 ≤ 0 by first | omega | decide) (Nat.le_of_ble_eq_true rfl) (fun r2846 w2847 dc2843 ds2844 hp2845 => ?_) (fun _ _ _ _ _ z => z.elim)
  obtain ⟨rfl, rfl, hdc, hds⟩ := hp2845
  change G _ _ _ _ _ _ _ (.int p2822 :: _) _ _ _
  refine G_widen (cs' := 0) (sl' := 0) (by omega) (by omega) ?_
  refine G_icmp_ne 29 dr_cX13_block_11 (by decide +kernel) (fun hc2848 => ?_) (fun hc => absurd (show False by have := gC_eq hc; omega) not_false)
  have r2850 : p2820.toInt ≠ p2822.toInt := gC_ne hc2848
  refine G_aload_n 0 dr_cX13_block_29 rfl ?_
  refine Gp_get 0 hmq2815 heq2815 dr_cX13_block_30 (gk_X13 D I) (Nat.le_of_ble_eq_true rfl) wr_7_30 rfl ?_
  refine G_aload_n 0 dr_cX13_block_33 rfl ?_
  refine Gp_get 3 hmq2815 heq2815 dr_cX13_block_34 (gk_X13 D I) (Nat.le_of_ble_eq_true rfl) wr_7_33 rfl ?_
  refine Gw_callV (As := [.int p2820]) (gV_ok D I) (cp_22_ArrayList_get l hl0 D I P2813 F2814 q2816 q2817 p2820 p2821 p2822 f2823 n2824 x2827 hmq2816 hmq2817 heq2816 heq2817 (gB_w bp2820 (by decide) (by decide)) (gB_w bp2822 (by decide) (by decide)) (by omega) (by omega) (by assumption) (by omega)) dr_cX13_block_37 ⟨wr_10_58, wr_1_18, wr_10_61, by decide, rfl, (Nat.le_of_ble_eq_true rfl), (Nat.le_of_ble_eq_true rfl)⟩ wr_10_59 wr_10_60 hmq2816 heq2816 rfl (show 0 + 0 ≤ 0 by first | omega | decide) (show 0 + 0 ≤ 0 by first | omega | decide) (Nat.le_of_ble_eq_true rfl) (fun r2854 w2855 dc2851 ds2852 hp2853 => ?_) (fun _ _ _ _ _ z => z.elim)
  obtain ⟨rfl, rfl, hdc, hds⟩ := hp2853
  change G _ _ _ _ _ _ _ (.ref x2827 :: _) _ _ _
  refine G_widen (cs' := 0) (sl' := 0) (by omega) (by omega) ?_
  refine Gp_cast hmx2827 hex2827 rfl dr_cX13_block_40 wr_9_157 (gr_cast 0 rfl) ?_
  refine G_astore_n (L' := [(1, .ref x2827), (0, .ref q2815)]) dr_cX13_block_43 (Nat.le_of_ble_eq_true rfl) rfl ?_
  refine G_aload_n 1 dr_cX13_block_44 rfl ?_
  refine G_dup dr_cX13_block_45 rfl ?_
  refine Gp_get 3 hmq2815 heq2815 dr_cX13_block_46 (gk_X13 D I) (Nat.le_of_ble_eq_true rfl) wr_7_33 rfl ?_
  refine G_iconst 1 dr_cX13_block_49 (by decide +kernel) ?_
  refine G_iadd dr_cX13_block_50 (G_nam fun z2856 hz2856 => ?_)
  have ez2856 : z2856.toInt = p2820.toInt + 1 := by rw [gI_add hz2856 bp2820 (gBl (show Int32.toInt 1 = 1 by decide)) (by decide) (by decide), show Int32.toInt 1 = 1 from by decide]
  have bz2856 : gB z2856 1 1000001 := gB_add (gI_add hz2856 bp2820 (gBl (show Int32.toInt 1 = 1 by decide)) (by decide) (by decide)) bp2820 (gBl (show Int32.toInt 1 = 1 by decide)) (by decide) (by decide)
  refine Gp_put 3 hmq2815 heq2815 dr_cX13_block_51 (gk_X13 D I) (Nat.le_of_ble_eq_true rfl) wr_7_33 rfl rfl rfl (Nat.le_of_ble_eq_true rfl) (fun F2857 e2858 n2859 => ?_)
  have he2860 : F2857 q2816 = .inr (4, [.int p2821, .ref q2817, .int p2822]) := (n2859 q2816 (rn_oo heq2816 heq2815 (by decide))).trans heq2816
  have he2861 : F2857 q2817 = .inl (I (.object "java/lang/Object"), n2824, .inr (.inr (.inr (.inr f2823)))) := (n2859 q2817 (rn_ao heq2817 heq2815)).trans heq2817
  have he2862 : F2857 z2825 = .inl (I (.object "java/lang/Object"), n2828, .inr (.inr (.inr (.inr f2829)))) := (n2859 z2825 (rn_ao hez2825 heq2815)).trans hez2825
  have he2863 : F2857 y2826 = .inr (4, [.int p2830, .ref z2825, .int p2831]) := (n2859 y2826 (rn_oo hey2826 heq2815 (by decide))).trans hey2826
  have he2864 : F2857 x2827 = .inr (17, [.ref y2826, .ref qo2832, .int p2833, .int p2834]) := (n2859 x2827 (rn_oo hex2827 heq2815 (by decide))).trans hex2827
  have he2865 : F2857 q2815 = .inr (18, [.ref q2816, .ref qo2818, .int p2819, .int z2856]) := e2858
  have hfr2866 : rFr [q2815] P2813 F2814 F2857 := rFr_put (rFr_rf (W := []) (P := P2813) (F := F2814)) n2859
  refine G_aload_n 0 dr_cX13_block_54 rfl ?_
  refine Gp_get 0 hmx2827 he2864 dr_cX13_block_55 (gk_X12 D I) (Nat.le_of_ble_eq_true rfl) wr_9_215 rfl ?_
  refine Gw_callV (As := []) (gV_ok D I) (cp_1327_ArrayList_clear l hl0 D I P2813 F2857 y2826 z2825 p2830 p2831 f2829 n2828 hmy2826 hmz2825 he2863 he2862 (gB_w bp2831 (by decide) (by decide)) (by omega) (rEl_frG (rEl_src x2838 rSrc_rf) (rSub_rf (P := P2813)) hfr2866 (rNg_c (rNg_o heq2815 (by decide) (by decide)) rNg_n)) (by omega)) dr_cX13_block_58 ⟨wr_10_70, wr_1_18, wr_10_73, by decide, rfl, (Nat.le_of_ble_eq_true rfl), (Nat.le_of_ble_eq_true rfl)⟩ wr_10_71 wr_10_72 hmy2826 he2863 rfl (show 0 + 0 ≤ 0 by first | omega | decide) (show 0 + 0 ≤ 0 by first | omega | decide) (Nat.le_of_ble_eq_true rfl) (fun r2870 w2871 dc2867 ds2868 hp2869 => ?_) (fun _ _ _ _ _ z => z.elim)
  obtain ⟨F2875, o2872, f2873, rfl, rfl, hfr2877, he2878, he2879, hdc, hds, x2874⟩ := hp2869
  have he2880 : F2875 q2815 = .inr (18, [.ref q2816, .ref qo2818, .int p2819, .int z2856]) := (hfr2877 q2815 hmq2815 (nm_c (rn_oo he2865 he2863 (by decide)) (nm_c (rn_oa he2865 he2862) nm_n))).trans he2865
  have he2881 : F2875 q2816 = .inr (4, [.int p2821, .ref q2817, .int p2822]) := (hfr2877 q2816 hmq2816 (nm_c hneq2816y2826 (nm_c (rn_oa he2860 he2862) nm_n))).trans he2860
  have he2882 : F2875 q2817 = .inl (I (.object "java/lang/Object"), n2824, .inr (.inr (.inr (.inr f2823)))) := (hfr2877 q2817 hmq2817 (nm_c (rn_ao he2861 he2863) (nm_c hneq2817z2825 nm_n))).trans he2861
  have he2883 : F2875 x2827 = .inr (17, [.ref y2826, .ref qo2832, .int p2833, .int p2834]) := (hfr2877 x2827 hmx2827 (nm_c (rn_oo he2864 he2863 (by decide)) (nm_c (rn_oa he2864 he2862) nm_n))).trans he2864
  have hfr2884 : rFr [q2815, y2826, z2825] P2813 F2814 F2875 := rFr_call (rSub_rf (P := P2813)) hfr2866 hfr2877 (fun b hb hn => ⟨(nm_c (fun e => hn (e ▸ List.mem_cons_self)) nm_n), (nm_c (fun e => hn (e ▸ (List.mem_cons_of_mem _ List.mem_cons_self))) (nm_c (fun e => hn (e ▸ (List.mem_cons_of_mem _ (List.mem_cons_of_mem _ List.mem_cons_self)))) nm_n))⟩)
  have bo2872 := gB_any o2872
  change G _ _ _ _ _ _ _ _ _ _ _
  refine G_widen (cs' := 0) (sl' := 0) (by omega) (by omega) ?_
  refine G_aload_n 0 dr_cX13_block_61 rfl ?_
  exact G_aretA (FieldType.object "SpillForgeModel$Block") dr_cX13_block_62 rfl (by first | exact Or.inl ⟨_, rfl⟩ | exact Or.inr ⟨_, rfl⟩) (Or.inr ⟨_, rfl⟩) (Nat.le_of_ble_eq_true rfl) (Nat.le_of_ble_eq_true rfl) ⟨F2875, z2856, o2872, f2873, rfl, rfl, hfr2884, he2880, he2881, he2882, he2883, he2878, he2879, (Nat.le_of_ble_eq_true rfl), (Nat.le_of_ble_eq_true rfl), bz2856, (by have qa0 : Int32.toInt 0 = 0 := (by decide); omega), (rSrc_tr x2874 rSrc_rf)⟩
