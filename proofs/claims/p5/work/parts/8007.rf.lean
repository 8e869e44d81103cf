theorem dr_cX17_run__0 : decode cX17_run_ 0 = .ok (.aload_n 0, 1) := by decide +kernel
theorem dr_cX17_run__1 : decode cX17_run_ 1 = .ok (.iconst 0, 1) := by decide +kernel
theorem dr_cX17_run__2 : decode cX17_run_ 2 = .ok (.putfield 380, 3) := by decide +kernel
theorem dr_cX17_run__5 : decode cX17_run_ 5 = .ok (.iload_n 2, 1) := by decide +kernel
theorem dr_cX17_run__6 : decode cX17_run_ 6 = .ok (.iconst 1, 1) := by decide +kernel
theorem dr_cX17_run__7 : decode cX17_run_ 7 = .ok (.if_icmp .lt 10, 3) := by decide +kernel
theorem dr_cX17_run__17 : decode cX17_run_ 17 = .ok (.aload_n 0, 1) := by decide +kernel
theorem dr_cX17_run__18 : decode cX17_run_ 18 = .ok (.iconst 1, 1) := by decide +kernel
theorem dr_cX17_run__19 : decode cX17_run_ 19 = .ok (.invokevirtual 385, 3) := by decide +kernel
theorem dr_cX17_run__22 : decode cX17_run_ 22 = .ok (.ireturn, 1) := by decide +kernel
theorem dr_cX17_run__10 : decode cX17_run_ 10 = .ok (.iload_n 2, 1) := by decide +kernel
theorem dr_cX17_run__11 : decode cX17_run_ 11 = .ok (.ldc_w 434, 3) := by decide +kernel
theorem wr_11_87 : (Jvm.Cond.constant "SpillForgeModel" (434 : Nat) (100000 : Int32)) ∈ gw := gw_11 87 rfl rfl
theorem dr_cX17_run__14 : decode cX17_run_ 14 = .ok (.if_icmp .le 9, 3) := by decide +kernel
theorem dr_cX17_run__23 : decode cX17_run_ 23 = .ok (.iload_n 1, 1) := by decide +kernel
theorem dr_cX17_run__24 : decode cX17_run_ 24 = .ok (.ifCond .eq 13, 3) := by decide +kernel
theorem dr_cX17_run__37 : decode cX17_run_ 37 = .ok (.aload_n 0, 1) := by decide +kernel
theorem dr_cX17_run__38 : decode cX17_run_ 38 = .ok (.getfield 414, 3) := by decide +kernel
theorem wr_7_83 : (Jvm.Cond.fieldLink "SpillForgeModel" (414 : Nat) "SpillForgeModel" "program" "Z") ∈ gw := gw_7 83 rfl rfl
theorem dr_cX17_run__41 : decode cX17_run_ 41 = .ok (.ifCond .ne 9, 3) := by decide +kernel
theorem dr_cX17_run__50 : decode cX17_run_ 50 = .ok (.aload_n 0, 1) := by decide +kernel
theorem dr_cX17_run__51 : decode cX17_run_ 51 = .ok (.aload_n 0, 1) := by decide +kernel
theorem dr_cX17_run__52 : decode cX17_run_ 52 = .ok (.iload_n 1, 1) := by decide +kernel
theorem dr_cX17_run__53 : decode cX17_run_ 53 = .ok (.ifCond .eq 10, 3) := by decide +kernel
theorem dr_cX17_run__63 : decode cX17_run_ 63 = .ok (.aload_n 0, 1) := by decide +kernel
theorem dr_cX17_run__64 : decode cX17_run_ 64 = .ok (.getfield 361, 3) := by decide +kernel
theorem wr_7_80 : (Jvm.Cond.fieldLink "SpillForgeModel" (361 : Nat) "SpillForgeModel" "code" "LSpillForgeModel$Code;") ∈ gw := gw_7 80 rfl rfl
theorem dr_cX17_run__67 : decode cX17_run_ 67 = .ok (.iload_n 2, 1) := by decide +kernel
theorem dr_cX17_run__68 : decode cX17_run_ 68 = .ok (.invokevirtual 435, 3) := by decide +kernel
theorem wr_11_88 : (Jvm.Cond.methodLink "SpillForgeModel" (435 : Nat) ({ cls := "SpillForgeModel", name := "run", desc := "(LSpillForgeModel$Code;I)I" } : Jvm.MethodName)) ∈ gw := gw_11 88 rfl rfl
theorem wr_11_91 : (Jvm.Cond.code ({ cls := "SpillForgeModel", name := "run", desc := "(LSpillForgeModel$Code;I)I" } : Jvm.MethodName) prog_14_method_29_code (7 : Nat) (Option.some Jvm.ClassFile.FieldType.int)) ∈ gw := gw_11 91 rfl rfl
theorem wr_11_90 : (Jvm.Cond.instanceMethod ({ cls := "SpillForgeModel", name := "run", desc := "(LSpillForgeModel$Code;I)I" } : Jvm.MethodName)) ∈ gw := gw_11 90 rfl rfl
theorem wr_p_113 : Cond.selects "SpillForgeModel" ⟨"SpillForgeModel", "run", "(LSpillForgeModel$Code;I)I"⟩ ⟨"SpillForgeModel", "run", "(LSpillForgeModel$Code;I)I"⟩ ∈ gw := gw_p _ 113 rfl rfl rfl
theorem dr_cX17_run__71 : decode cX17_run_ 71 = .ok (.putfield 371, 3) := by decide +kernel
theorem dr_cX17_run__74 : decode cX17_run_ 74 = .ok (.aload_n 0, 1) := by decide +kernel
theorem dr_cX17_run__75 : decode cX17_run_ 75 = .ok (.getfield 371, 3) := by decide +kernel
theorem dr_cX17_run__78 : decode cX17_run_ 78 = .ok (.ireturn, 1) := by decide +kernel
theorem dr_cX17_run__44 : decode cX17_run_ 44 = .ok (.aload_n 0, 1) := by decide +kernel
theorem dr_cX17_run__45 : decode cX17_run_ 45 = .ok (.iconst 2, 1) := by decide +kernel
theorem dr_cX17_run__46 : decode cX17_run_ 46 = .ok (.invokevirtual 385, 3) := by decide +kernel
theorem dr_cX17_run__49 : decode cX17_run_ 49 = .ok (.ireturn, 1) := by decide +kernel
theorem dr_cX17_run__27 : decode cX17_run_ 27 = .ok (.aload_n 0, 1) := by decide +kernel
theorem dr_cX17_run__28 : decode cX17_run_ 28 = .ok (.getfield 416, 3) := by decide +kernel
theorem wr_7_84 : (Jvm.Cond.fieldLink "SpillForgeModel" (416 : Nat) "SpillForgeModel" "isGiven" "Z") ∈ gw := gw_7 84 rfl rfl
theorem dr_cX17_run__31 : decode cX17_run_ 31 = .ok (.ifCond .ne 19, 3) := by decide +kernel
theorem dr_cX17_run__56 : decode cX17_run_ 56 = .ok (.aload_n 0, 1) := by decide +kernel
theorem dr_cX17_run__57 : decode cX17_run_ 57 = .ok (.getfield 365, 3) := by decide +kernel
theorem wr_7_81 : (Jvm.Cond.fieldLink "SpillForgeModel" (365 : Nat) "SpillForgeModel" "given" "LSpillForgeModel$Code;") ∈ gw := gw_7 81 rfl rfl
theorem dr_cX17_run__60 : decode cX17_run_ 60 = .ok (.goto 7, 3) := by decide +kernel
theorem dr_cX17_run__34 : decode cX17_run_ 34 = .ok (.goto 10, 3) := by decide +kernel
abbrev ky_565084_SpillForgeModel_run : gKey := (cX17_run, 7, "SpillForgeModel", (some FieldType.int), [], "run", fun _ _ => True)
def pt_565084_SpillForgeModel_run (D : va_G) (I : FieldType → ClassId) (γ el : Nat → Nat → Nat) (P565078 : List Nat) (F565079 : Nat → va_E) (q565080 : Nat) (q565081 : Nat) (p565082 : Int32) : Option Value → va_W → Nat → Nat → Prop := fun r w dc ds => ∃ (F570262 : Nat → va_E) (o570261 : Int32), r = some (.int o570261) ∧ w = va_pl P565078 F570262 ∧ RS D I P565078 F570262 γ el ∧ rStr γ [] F565079 F570262 ∧ dc ≤ 0 ∧ ds ≤ 0 ∧ gB o570261 0 5 ∧ (fI (F570262 q565080) 9).toInt = (fI (F565079 q565080) 9).toInt ∧ (fI (F570262 q565080) 10).toInt = (fI (F565079 q565080) 10).toInt ∧ (fI (F570262 q565080) 32).toInt = (fI (F565079 q565080) 32).toInt
set_option maxRecDepth 100000 in
set_option maxHeartbeats 4000000 in
theorem ct_565084_SpillForgeModel_run (l : Launch) (hl0 : l.stackTraces = false) (D : va_G) (I : FieldType → ClassId) (γ el : Nat → Nat → Nat) (P565078 : List Nat) (F565079 : Nat → va_E) (q565080 : Nat) (q565081 : Nat) (p565082 : Int32) (hT : RS D I P565078 F565079 γ el) (htq565080 : rKd γ q565080 10) (htq565081 : rKd γ q565081 9) (bp565082 : gB p565082 1 100000) (x565083 : 0 < γ 6 (γ 1 q565081)) : CtA (gV D I) l yX17_run cX17_run 7 (some FieldType.int) 4 85 0 0 [.ref q565080, .ref q565081, .int p565082] (va_pl P565078 F565079) (pt_565084_SpillForgeModel_run D I γ el P565078 F565079 q565080 q565081 p565082) gNA := by
  refine CtA_of hl0 (by decide) (Nat.le_of_ble_eq_true rfl) ?_
  have hm565085 : q565080 ∈ P565078 := RS_m hT htq565080 (by decide)
  refine rk10_e (show rk_10 γ (F565079 q565080) from RS_o hT htq565080) (fun q565087 q565088 p565089 p565090 p565091 p565092 p565093 p565094 p565095 p565096 p565097 p565098 p565099 p565100 p565101 p565102 p565103 he565086 hB565130 ht565104 ht565105 ht565106 ht565107 ht565108 ht565109 ht565110 ht565111 ht565112 ht565113 ht565114 ht565115 ht565116 ht565117 ht565118 ht565119 ht565120 ht565121 ht565122 ht565123 ht565124 ht565125 ht565126 ht565127 hB565131 => ?_)
  have ac565132 : (fI (F565079 q565080) 26).toInt = p565098.toInt := by rw [he565086]; rfl
  have bp565098 : gB p565098 0 100000 := (hB565130.2.2.2.2.2.1)
  have ac565133 : (fI (F565079 q565080) 9).toInt = p565089.toInt := by rw [he565086]; rfl
  have bp565089 : gB p565089 0 1 := (hB565130.1)
  have ac565134 : (fI (F565079 q565080) 10).toInt = p565090.toInt := by rw [he565086]; rfl
  have bp565090 : gB p565090 0 1 := (hB565130.2.1)
  have ac565135 : (fI (F565079 q565080) 32).toInt = p565101.toInt := by rw [he565086]; rfl
  have bp565101 : gB p565101 0 8192 := (hB565130.2.2.2.2.2.2.2.1)
  refine G_iconst 0 dr_cX17_run_0 (by decide +kernel) ?_
  refine G_istore_n (L' := [(3, .int 0), (0, .ref q565080), (1, .ref q565081), (2, .int p565082)]) dr_cX17_run_1 (Nat.le_of_ble_eq_true rfl) rfl ?_
  have hlp2_569388 : ∀ (n2_569388 : Nat) (F569383 : Nat → va_E) (g569382 : Int32), gB g569382 0 2000 → RS D I P565078 F569383 γ el → rStr γ [] F565079 F569383 → (fI (F569383 q565080) 9).toInt = (fI (F565079 q565080) 9).toInt → (fI (F569383 q565080) 10).toInt = (fI (F565079 q565080) 10).toInt → (fI (F569383 q565080) 32).toInt = (fI (F565079 q565080) 32).toInt → ((2001 : Int) - g569382.toInt).toNat < n2_569388 → G (gV D I) l (gRm 4 85 0 0) (gMA (gV D I) (pt_565084_SpillForgeModel_run D I γ el P565078 F565079 q565080 q565081 p565082) gNA 0 0) ky_565084_SpillForgeModel_run 2 [(3, .int g569382), (0, .ref q565080), (1, .ref q565081), (2, .int p565082)] [] (va_pl P565078 F569383) 0 0 := by
    intro n2_569388
    induction n2_569388 with
    | zero => intro F569383 g569382 bg569382 hT569384 hs569385 x569386 x569387 x569388 hm2_569388; exact absurd hm2_569388 (Nat.not_lt_zero _)
    | succ n2_569388 ih2_569388 =>
      intro F569383 g569382 bg569382 hT569384 hs569385 x569386 x569387 x569388 hm2_569388
      have hs569390 : rStr γ [] F565079 F569383 := fun b h0 hb hw => (hs569385 b h0 hb hw).trans ((rStr_rf (γ := γ) (W := []) (F := F565079)) b h0 hb hw).symm
      have hs569391 : rStr γ [] F565079 F569383 := rStr_tr (rStr_rf (γ := γ) (W := []) (F := F565079)) hs569390
      have hm569392 : q565080 ∈ P565078 := RS_m hT569384 htq565080 (by decide)
      refine rk10_e (show rk_10 γ (F569383 q565080) from RS_o hT569384 htq565080) (fun q569394 q569395 p569396 p569397 p569398 p569399 p569400 p569401 p569402 p569403 p569404 p569405 p569406 p569407 p569408 p569409 p569410 he569393 hB569437 ht569411 ht569412 ht569413 ht569414 ht569415 ht569416 ht569417 ht569418 ht569419 ht569420 ht569421 ht569422 ht569423 ht569424 ht569425 ht569426 ht569427 ht569428 ht569429 ht569430 ht569431 ht569432 ht569433 ht569434 hB569438 => ?_)
      have ac569439 : (fI (F569383 q565080) 26).toInt = p569405.toInt := by rw [he569393]; rfl
      have bp569405 : gB p569405 0 100000 := (hB569437.2.2.2.2.2.1)
      have ac569440 : (fI (F569383 q565080) 9).toInt = p569396.toInt := by rw [he569393]; rfl
      have bp569396 : gB p569396 0 1 := (hB569437.1)
      have ac569441 : (fI (F569383 q565080) 10).toInt = p569397.toInt := by rw [he569393]; rfl
      have bp569397 : gB p569397 0 1 := (hB569437.2.1)
      have ac569442 : (fI (F569383 q565080) 32).toInt = p569408.toInt := by rw [he569393]; rfl
      have bp569408 : gB p569408 0 8192 := (hB569437.2.2.2.2.2.2.2.1)
      have ac569443 : (fI (F569383 q565080) 26).toInt = p569405.toInt := by rw [he569393]; rfl
      have ac569444 : (fI (F569383 q565080) 9).toInt = p569396.toInt := by rw [he569393]; rfl
      have ac569445 : (fI (F569383 q565080) 10).toInt = p569397.toInt := by rw [he569393]; rfl
      have ac569446 : (fI (F569383 q565080) 32).toInt = p569408.toInt := by rw [he569393]; rfl
      refine G_iload_n 0 dr_cX17_run_2 rfl ?_
      refine G_sipush 2000 dr_cX17_run_3 (by decide +kernel) ?_
      refine G_icmp_ge 29 dr_cX17_run_6 (by decide +kernel) (fun hc569447 => ?_) (fun hc569447 => ?_)
      · have r569448 : 2000 ≤ g569382.toInt := gj_leL hc569447 (show Int32.toInt 2000 = 2000 by decide)
        have bg569382' : gB g569382 2000 2000 := ⟨by omega, by omega⟩
        refine G_aload_n 1 dr_cX17_run_29 rfl ?_
        refine G_iconst 0 dr_cX17_run_30 (by decide +kernel) ?_
        refine Gp_put 24 hm569392 he569393 dr_cX17_run_31 (gk_X17 D I) (Nat.le_of_ble_eq_true rfl) wr_7_98 rfl rfl rfl (Nat.le_of_ble_eq_true rfl) (fun F569449 e569450 n569451 => ?_)
        have he569452 : F569449 q565080 = .inr (22, [.ref (γ 9 0), .ref (γ 9 1), .ref (γ 9 2), .ref (γ 9 3), .ref (γ 9 4), .ref (γ 9 5), .ref (γ 9 6), .ref (γ 9 7), .ref (γ 9 8), .int p569396, .int p569397, .int p569398, .int p569399, .int p569400, .int p569401, .ref (γ 9 15), .ref (γ 9 16), .ref (γ 9 17), .ref (γ 9 18), .ref (γ 9 19), .ref (γ 9 20), .ref (γ 9 21), .ref (γ 9 22), .int p569402, .int 0, .int p569404, .int p569405, .int p569406, .ref q569394, .ref (γ 9 29), .int p569407, .ref (γ 9 31), .int p569408, .int p569409, .int p569410, .ref q569395]) := e569450
        have hs569453 : rStr γ [] F565079 F569449 := rStr_put hs569385 n569451 htq565080 (by decide)
        refine G_aload_n 1 dr_cX17_run_34 rfl ?_
        refine G_iconst 0 dr_cX17_run_35 (by decide +kernel) ?_
        refine Gp_put 25 hm569392 he569452 dr_cX17_run_36 (gk_X17 D I) (Nat.le_of_ble_eq_true rfl) wr_7_99 rfl rfl rfl (Nat.le_of_ble_eq_true rfl) (fun F569454 e569455 n569456 => ?_)
        have he569457 : F569454 q565080 = .inr (22, [.ref (γ 9 0), .ref (γ 9 1), .ref (γ 9 2), .ref (γ 9 3), .ref (γ 9 4), .ref (γ 9 5), .ref (γ 9 6), .ref (γ 9 7), .ref (γ 9 8), .int p569396, .int p569397, .int p569398, .int p569399, .int p569400, .int p569401, .ref (γ 9 15), .ref (γ 9 16), .ref (γ 9 17), .ref (γ 9 18), .ref (γ 9 19), .ref (γ 9 20), .ref (γ 9 21), .ref (γ 9 22), .int p569402, .int 0, .int 0, .int p569405, .int p569406, .ref q569394, .ref (γ 9 29), .int p569407, .ref (γ 9 31), .int p569408, .int p569409, .int p569410, .ref q569395]) := e569455
        have hs569458 : rStr γ [] F565079 F569454 := rStr_put hs569453 n569456 htq565080 (by decide)
        have n569459 : ∀ b, b ≠ q565080 → F569454 b = F569383 b := fun b hb => (n569456 b hb).trans (n569451 b hb)
        refine G_aload_n 1 dr_cX17_run_39 rfl ?_
        refine G_iconst 0 dr_cX17_run_40 (by decide +kernel) ?_
        refine Gp_put 26 hm569392 he569457 dr_cX17_run_41 (gk_X17 D I) (Nat.le_of_ble_eq_true rfl) wr_7_100 rfl rfl rfl (Nat.le_of_ble_eq_true rfl) (fun F569460 e569461 n569462 => ?_)
        have he569463 : F569460 q565080 = .inr (22, [.ref (γ 9 0), .ref (γ 9 1), .ref (γ 9 2), .ref (γ 9 3), .ref (γ 9 4), .ref (γ 9 5), .ref (γ 9 6), .ref (γ 9 7), .ref (γ 9 8), .int p569396, .int p569397, .int p569398, .int p569399, .int p569400, .int p569401, .ref (γ 9 15), .ref (γ 9 16), .ref (γ 9 17), .ref (γ 9 18), .ref (γ 9 19), .ref (γ 9 20), .ref (γ 9 21), .ref (γ 9 22), .int p569402, .int 0, .int 0, .int 0, .int p569406, .ref q569394, .ref (γ 9 29), .int p569407, .ref (γ 9 31), .int p569408, .int p569409, .int p569410, .ref q569395]) := e569461
        have hs569464 : rStr γ [] F565079 F569460 := rStr_put hs569458 n569462 htq565080 (by decide)
        have n569465 : ∀ b, b ≠ q565080 → F569460 b = F569383 b := fun b hb => (n569462 b hb).trans (n569459 b hb)
        refine G_aload_n 1 dr_cX17_run_44 rfl ?_
        refine G_iconst 0 dr_cX17_run_45 (by decide +kernel) ?_
        refine Gp_put 27 hm569392 he569463 dr_cX17_run_46 (gk_X17 D I) (Nat.le_of_ble_eq_true rfl) wr_7_101 rfl rfl rfl (Nat.le_of_ble_eq_true rfl) (fun F569466 e569467 n569468 => ?_)
        have he569469 : F569466 q565080 = .inr (22, [.ref (γ 9 0), .ref (γ 9 1), .ref (γ 9 2), .ref (γ 9 3), .ref (γ 9 4), .ref (γ 9 5), .ref (γ 9 6), .ref (γ 9 7), .ref (γ 9 8), .int p569396, .int p569397, .int p569398, .int p569399, .int p569400, .int p569401, .ref (γ 9 15), .ref (γ 9 16), .ref (γ 9 17), .ref (γ 9 18), .ref (γ 9 19), .ref (γ 9 20), .ref (γ 9 21), .ref (γ 9 22), .int p569402, .int 0, .int 0, .int 0, .int 0, .ref q569394, .ref (γ 9 29), .int p569407, .ref (γ 9 31), .int p569408, .int p569409, .int p569410, .ref q569395]) := e569467
        have hs569470 : rStr γ [] F565079 F569466 := rStr_put hs569464 n569468 htq565080 (by decide)
        have n569471 : ∀ b, b ≠ q565080 → F569466 b = F569383 b := fun b hb => (n569468 b hb).trans (n569465 b hb)
        refine G_iconst 0 dr_cX17_run_49 (by decide +kernel) ?_
        refine G_istore_n (L' := [(3, .int 0), (0, .ref q565080), (1, .ref q565081), (2, .int p565082)]) dr_cX17_run_50 (Nat.le_of_ble_eq_true rfl) rfl ?_
        refine G_iconst 0 dr_cX17_run_51 (by decide +kernel) ?_
        refine G_istore (L' := [(4, .int 0), (3, .int 0), (0, .ref q565080), (1, .ref q565081), (2, .int p565082)]) dr_cX17_run_52 (Nat.le_of_ble_eq_true rfl) rfl ?_
        have hT569472 : RS D I P565078 F569466 γ el := RS_set hT569384 n569471 htq565080 (by decide) ⟨q569394, q569395, p569396, p569397, p569398, p569399, p569400, p569401, p569402, 0, 0, 0, 0, p569407, p569408, p569409, p569410, he569469, ⟨bp569396, bp569397, (hB569437.2.2.1), (hB569437.2.2.2.1), (gB_w (gBl (show Int32.toInt 0 = 0 by decide)) (by decide) (by decide)), (gB_w (gBl (show Int32.toInt 0 = 0 by decide)) (by decide) (by decide)), (gB_w (gBl (show Int32.toInt 0 = 0 by decide)) (by decide) (by decide)), bp569408, (hB569437.2.2.2.2.2.2.2.2)⟩, ht569411, ht569412, ht569413, ht569414, ht569415, ht569416, ht569417, ht569418, ht569419, ht569420, ht569421, ht569422, ht569423, ht569424, ht569425, ht569426, ht569427, ht569428, ht569429, ht569430, ht569431, ht569432, ht569433, ht569434, hB569438⟩
        have hlp54_569821 : ∀ (n54_569821 : Nat) (F569814 : Nat → va_E) (g569812 : Int32) (g569813 : Int32), gB g569812 0 39 → gB g569813 0 1000000 → RS D I P565078 F569814 γ el → rStr γ [] F565079 F569814 → g569812.toInt < γ 6 (γ 1 q565081) → (fI (F569814 q565080) 26).toInt ≤ p565082.toInt → (fI (F569814 q565080) 9).toInt = (fI (F565079 q565080) 9).toInt → (fI (F569814 q565080) 10).toInt = (fI (F565079 q565080) 10).toInt → (fI (F569814 q565080) 32).toInt = (fI (F565079 q565080) 32).toInt → (p565082.toInt - (fI (F569814 q565080) 26).toInt).toNat < n54_569821 → G (gV D I) l (gRm 4 85 0 0) (gMA (gV D I) (pt_565084_SpillForgeModel_run D I γ el P565078 F565079 q565080 q565081 p565082) gNA 0 0) ky_565084_SpillForgeModel_run 54 [(4, .int g569813), (3, .int g569812), (0, .ref q565080), (1, .ref q565081), (2, .int p565082)] [] (va_pl P565078 F569814) 0 0 := by
          intro n54_569821
          induction n54_569821 with
          | zero => intro F569814 g569812 g569813 bg569812 bg569813 hT569815 hs569816 x569817 x569818 x569819 x569820 x569821 hm54_569821; exact absurd hm54_569821 (Nat.not_lt_zero _)
          | succ n54_569821 ih54_569821 =>
            intro F569814 g569812 g569813 bg569812 bg569813 hT569815 hs569816 x569817 x569818 x569819 x569820 x569821 hm54_569821
            have hs569823 : rStr γ [] F569466 F569814 := fun b h0 hb hw => (hs569816 b h0 hb hw).trans (hs569470 b h0 hb hw).symm
            have hs569824 : rStr γ [] F565079 F569814 := rStr_tr hs569470 hs569823
            have hm569825 : q565080 ∈ P565078 := RS_m hT569815 htq565080 (by decide)
            refine rk10_e (show rk_10 γ (F569814 q565080) from RS_o hT569815 htq565080) (fun q569827 q569828 p569829 p569830 p569831 p569832 p569833 p569834 p569835 p569836 p569837 p569838 p569839 p569840 p569841 p569842 p569843 he569826 hB569870 ht569844 ht569845 ht569846 ht569847 ht569848 ht569849 ht569850 ht569851 ht569852 ht569853 ht569854 ht569855 ht569856 ht569857 ht569858 ht569859 ht569860 ht569861 ht569862 ht569863 ht569864 ht569865 ht569866 ht569867 hB569871 => ?_)
            have ac569872 : (fI (F569814 q565080) 26).toInt = p569838.toInt := by rw [he569826]; rfl
            have bp569838 : gB p569838 0 100000 := (hB569870.2.2.2.2.2.1)
            have ac569873 : (fI (F569814 q565080) 9).toInt = p569829.toInt := by rw [he569826]; rfl
            have bp569829 : gB p569829 0 1 := (hB569870.1)
            have ac569874 : (fI (F569814 q565080) 10).toInt = p569830.toInt := by rw [he569826]; rfl
            have bp569830 : gB p569830 0 1 := (hB569870.2.1)
            have ac569875 : (fI (F569814 q565080) 32).toInt = p569841.toInt := by rw [he569826]; rfl
            have bp569841 : gB p569841 0 8192 := (hB569870.2.2.2.2.2.2.2.1)
            have ac569876 : (fI (F569814 q565080) 26).toInt = p569838.toInt := by rw [he569826]; rfl
            have ac569877 : (fI (F569814 q565080) 9).toInt = p569829.toInt := by rw [he569826]; rfl
            have ac569878 : (fI (F569814 q565080) 10).toInt = p569830.toInt := by rw [he569826]; rfl
            have ac569879 : (fI (F569814 q565080) 32).toInt = p569841.toInt := by rw [he569826]; rfl
            refine G_aload_n 3 dr_cX17_run_54 rfl ?_
            refine G_iload_n 1 dr_cX17_run_55 rfl ?_
            have hm569880 : q565081 ∈ P565078 := RS_m hT569815 htq565081 (by decide)
            obtain ⟨q569882, q569883, p569884, p569885, he569881, ht569901, ht569886, ht569887, ht569888, ht569889, r569890, r569891, r569892, r569893, r569894, r569895, r569896, r569897, r569898, r569899, r569900⟩ := show rk_9 γ el q565081 (F569814 q565081) from RS_o hT569815 htq565081
            have bp569884 : gB p569884 0 1000000 := ⟨by omega, by omega⟩
            have bp569885 : gB p569885 0 1000000 := ⟨by omega, by omega⟩
            have hm569902 : q569882 ∈ P565078 := RS_m hT569815 ht569886 (by decide)
            obtain ⟨⟨p569904, p569905, q569906, he569903, r569907, r569908, r569909, r569911⟩, r569910⟩ := show rk_4 D I γ el F569814 q569882 from RS_o hT569815 ht569886
            have bp569904 := gB_any p569904
            have bp569905 : gB p569905 0 1000000 := ⟨by omega, by omega⟩
            obtain ⟨r569912, r569913, n569920, f569921, r569914, r569915, r569916, r569917, r569918, r569919⟩ := rLC_n r569909 (by omega)
            have hm569922 : q569906 ∈ P565078 := RS_m hT569815 r569912 (by decide)
            obtain ⟨q569923, hx569924⟩ : ∃ x, x = el q569882 g569812.toInt.toNat := ⟨_, rfl⟩
            have hx569925 : f569921 g569812.toNatClampNeg = some q569923 := (r569918 _ (show g569812.toInt.toNat < γ 2 q569882 by omega)).trans (by rw [hx569924])
            have ht569928 : rKd γ q569923 2 := by rw [hx569924]; exact (r569897 _ (by omega)).resolve_right (fun z => absurd z.1 (by omega))
            have ht569929 : rFm γ q569923 q569882 := by rw [hx569924]; exact (r569910 _ (show g569812.toInt.toNat < γ 2 q569882 by omega)).2.1
            have hm569930 : q569923 ∈ P565078 := RS_m hT569815 ht569928 (by decide)
            obtain ⟨q569932, q569933, p569934, p569935, he569931, ht569942, ht569936, ht569937, ht569938, ht569939, ht569940, bp569934, bp569935, r569941, r569943, r569944⟩ := show rk_2 γ q569923 (F569814 q569923) from RS_o hT569815 ht569928
            have fm569945 : γ 6 (γ 1 q569923) = γ 6 (γ 1 q565081) := by rw [show γ 1 q569923 = γ 1 q569882 from ht569929, show γ 1 q569882 = γ 1 q565081 from ht569887]
            refine Gw_callV (As := [.int g569812]) (gV_ok D I) (cp_7737_Code_get l hl0 D I P565078 F569814 q565081 q569882 q569906 g569812 q569883 p569884 p569885 p569904 p569905 f569921 n569920 q569923 q569932 q569933 p569934 p569935 hm569880 hm569902 hm569922 hm569930 he569881 he569903 r569914 he569931 (gB_w bg569812 (by decide) (by decide)) (gB_w bp569905 (by decide) (by decide)) (by omega) (by omega) (by assumption) (by omega)) dr_cX17_run_56 ⟨wr_10_157, wr_1_15, wr_10_137, by decide, rfl, (Nat.le_of_ble_eq_true rfl), (Nat.le_of_ble_eq_true rfl)⟩ wr_10_135 wr_10_136 hm569880 he569881 rfl (show 0 + 0 ≤ 0 by first | omega | decide) (show 0 + 0 ≤ 0 by first | omega | decide) (Nat.le_of_ble_eq_true rfl) (fun r569949 w569950 dc569946 ds569947 hp569948 => ?_) (fun _ _ _ _ _ z => z.elim)
            obtain ⟨rfl, rfl, hdc, hds⟩ := hp569948
            change G _ _ _ _ _ _ _ (.ref q569923 :: _) _ _ _
            refine G_widen (cs' := 0) (sl' := 0) (by omega) (by omega) ?_
            refine G_astore (L' := [(5, .ref q569923), (4, .int g569813), (3, .int g569812), (0, .ref q565080), (1, .ref q565081), (2, .int p565082)]) dr_cX17_run_59 (Nat.le_of_ble_eq_true rfl) rfl ?_
            refine G_aload_n 3 dr_cX17_run_61 rfl ?_
            refine Gp_get 26 hm569825 he569826 dr_cX17_run_62 (gk_X17 D I) (Nat.le_of_ble_eq_true rfl) wr_7_100 rfl ?_
            refine G_iload_n 5 dr_cX17_run_65 rfl ?_
            refine G_icmp_ne 71 dr_cX17_run_66 (by decide +kernel) (fun hc569951 => ?_) (fun hc569951 => ?_)
            · have r569952 : p569838.toInt ≠ p565082.toInt := gC_ne hc569951
              refine G_aload_n 3 dr_cX17_run_71 rfl ?_
              refine G_dup dr_cX17_run_72 rfl ?_
              refine Gp_get 26 hm569825 he569826 dr_cX17_run_73 (gk_X17 D I) (Nat.le_of_ble_eq_true rfl) wr_7_100 rfl ?_
              refine G_iconst 1 dr_cX17_run_76 (by decide +kernel) ?_
              refine G_iadd dr_cX17_run_77 (G_nam fun z569953 hz569953 => ?_)
              have ez569953 : z569953.toInt = p569838.toInt + 1 := by rw [gI_add hz569953 bp569838 (gBl (show Int32.toInt 1 = 1 by decide)) (by decide) (by decide), show Int32.toInt 1 = 1 from by decide]
              have bz569953 : gB z569953 1 100001 := gB_add (gI_add hz569953 bp569838 (gBl (show Int32.toInt 1 = 1 by decide)) (by decide) (by decide)) bp569838 (gBl (show Int32.toInt 1 = 1 by decide)) (by decide) (by decide)
              refine Gp_put 26 hm569825 he569826 dr_cX17_run_78 (gk_X17 D I) (Nat.le_of_ble_eq_true rfl) wr_7_100 rfl rfl rfl (Nat.le_of_ble_eq_true rfl) (fun F569954 e569955 n569956 => ?_)
              have he569957 : F569954 q565081 = .inr (18, [.ref q569882, .ref q569883, .int p569884, .int p569885]) := (n569956 q565081 (rn_oo he569881 he569826 (by decide))).trans he569881
              have he569958 : F569954 q569882 = .inr (4, [.int p569904, .ref q569906, .int p569905]) := (n569956 q569882 (rn_oo he569903 he569826 (by decide))).trans he569903
              have he569959 : F569954 q569906 = .inl (I (.object "java/lang/Object"), n569920, .inr (.inr (.inr (.inr f569921)))) := (n569956 q569906 (rn_ao r569914 he569826)).trans r569914
              have he569960 : F569954 q569923 = .inr (17, [.ref q569932, .ref q569933, .int p569934, .int p569935]) := (n569956 q569923 (rn_oo he569931 he569826 (by decide))).trans he569931
              have he569961 : F569954 q565080 = .inr (22, [.ref (γ 9 0), .ref (γ 9 1), .ref (γ 9 2), .ref (γ 9 3), .ref (γ 9 4), .ref (γ 9 5), .ref (γ 9 6), .ref (γ 9 7), .ref (γ 9 8), .int p569829, .int p569830, .int p569831, .int p569832, .int p569833, .int p569834, .ref (γ 9 15), .ref (γ 9 16), .ref (γ 9 17), .ref (γ 9 18), .ref (γ 9 19), .ref (γ 9 20), .ref (γ 9 21), .ref (γ 9 22), .int p569835, .int p569836, .int p569837, .int z569953, .int p569839, .ref q569827, .ref (γ 9 29), .int p569840, .ref (γ 9 31), .int p569841, .int p569842, .int p569843, .ref q569828]) := e569955
              have hs569962 : rStr γ [] F565079 F569954 := rStr_put hs569816 n569956 htq565080 (by decide)
              refine G_iload 1 dr_cX17_run_81 rfl ?_
              refine G_aload 0 dr_cX17_run_83 rfl ?_
              refine Gp_get 0 hm569930 he569960 dr_cX17_run_85 (gk_X12 D I) (Nat.le_of_ble_eq_true rfl) wr_9_216 rfl ?_
              have hT569963 : RS D I P565078 F569954 γ el := RS_set hT569815 n569956 htq565080 (by decide) ⟨q569827, q569828, p569829, p569830, p569831, p569832, p569833, p569834, p569835, p569836, p569837, z569953, p569839, p569840, p569841, p569842, p569843, he569961, ⟨bp569829, bp569830, (hB569870.2.2.1), (hB569870.2.2.2.1), (hB569870.2.2.2.2.1), ⟨by omega, by omega⟩, (hB569870.2.2.2.2.2.2.1), bp569841, (hB569870.2.2.2.2.2.2.2.2)⟩, ht569844, ht569845, ht569846, ht569847, ht569848, ht569849, ht569850, ht569851, ht569852, ht569853, ht569854, ht569855, ht569856, ht569857, ht569858, ht569859, ht569860, ht569861, ht569862, ht569863, ht569864, ht569865, ht569866, ht569867, hB569871⟩
              have hm569964 : q569932 ∈ P565078 := RS_m hT569963 ht569936 (by decide)
              obtain ⟨⟨p569966, p569967, q569968, he569965, r569969, r569970, r569971, r569973⟩, r569972⟩ := show rk_3 D I γ el F569954 q569932 from RS_o hT569963 ht569936
              have bp569966 := gB_any p569966
              have bp569967 : gB p569967 0 1000000 := ⟨by omega, by omega⟩
              refine Gw_callV (As := []) (gV_ok D I) (cp_7_ArrayList_size l hl0 D I P565078 F569954 q569932 p569966 q569968 p569967 hm569964 he569965 (gB_w bp569967 (by decide) (by decide))) dr_cX17_run_88 ⟨wr_10_196, wr_1_18, wr_9_156, by decide, rfl, (Nat.le_of_ble_eq_true rfl), (Nat.le_of_ble_eq_true rfl)⟩ wr_9_154 wr_9_155 hm569964 he569965 rfl (show 0 + 0 ≤ 0 by first | omega | decide) (show 0 + 0 ≤ 0 by first | omega | decide) (Nat.le_of_ble_eq_true rfl) (fun r569977 w569978 dc569974 ds569975 hp569976 => ?_) (fun _ _ _ _ _ z => z.elim)
              obtain ⟨rfl, rfl, hdc, hds⟩ := hp569976
              change G _ _ _ _ _ _ _ (.int p569967 :: _) _ _ _
              refine G_widen (cs' := 0) (sl' := 0) (by omega) (by omega) ?_
              refine G_icmp_ge 127 dr_cX17_run_91 (by decide +kernel) (fun hc569979 => ?_) (fun hc569979 => ?_)
              · have r569980 : p569967.toInt ≤ g569813.toInt := gC_le hc569979
                refine G_aload 0 dr_cX17_run_127 rfl ?_
                refine Gp_get 1 hm569930 he569960 dr_cX17_run_129 (gk_X12 D I) (Nat.le_of_ble_eq_true rfl) wr_9_219 rfl ?_
                refine G_astore (L' := [(6, .ref q569933), (5, .ref q569923), (4, .int g569813), (3, .int g569812), (0, .ref q565080), (1, .ref q565081), (2, .int p565082)]) dr_cX17_run_132 (Nat.le_of_ble_eq_true rfl) rfl ?_
                refine G_aload 0 dr_cX17_run_134 rfl ?_
                have hm569981 : q569933 ∈ P565078 := RS_m hT569963 ht569938 (by decide)
                obtain ⟨p569983, p569984, p569985, p569986, p569987, p569988, p569989, he569982, bp569983, bp569984, bp569987, bp569988, bp569989, r569990, r569991, r569992, r569993, r569994⟩ := show rk_1 γ q569933 (F569954 q569933) from RS_o hT569963 ht569938
                have bp569985 := gB_any p569985
                have bp569986 := gB_any p569986
                refine Gp_get 0 hm569981 he569982 dr_cX17_run_136 (gk_X15 D I) (Nat.le_of_ble_eq_true rfl) wr_9_173 rfl ?_
                refine G_bipush 32 dr_cX17_run_139 (by decide +kernel) ?_
                refine G_icmp_ne 164 dr_cX17_run_141 (by decide +kernel) (fun hc569995 => ?_) (fun hc569995 => ?_)
                · have r569996 : p569983.toInt ≠ 32 := gj_neq hc569995 (show Int32.toInt 32 = 32 by decide)
                  have bp569983' : gB p569983 0 31 := ⟨by omega, by omega⟩
                  refine G_aload 0 dr_cX17_run_164 rfl ?_
                  refine Gp_get 0 hm569981 he569982 dr_cX17_run_166 (gk_X15 D I) (Nat.le_of_ble_eq_true rfl) wr_9_173 rfl ?_
                  refine G_bipush 30 dr_cX17_run_169 (by decide +kernel) ?_
                  refine G_icmp_eq 191 dr_cX17_run_171 (by decide +kernel) (fun hc569997 => ?_) (fun hc569997 => ?_)
                  · have r569998 : p569983.toInt = 30 := gj_eq hc569997 (show Int32.toInt 30 = 30 by decide)
                    have bp569983'' : gB p569983 30 30 := ⟨by omega, by omega⟩
                    refine G_aload 1 dr_cX17_run_191 rfl ?_
                    refine Gp_get 2 hm569930 he569960 dr_cX17_run_193 (gk_X12 D I) (Nat.le_of_ble_eq_true rfl) wr_9_225 rfl ?_
                    refine G_goto 204 dr_cX17_run_196 (by decide +kernel) ?_
                    refine G_istore_n (L' := [(3, .int p569934), (6, .ref q569933), (5, .ref q569923), (4, .int g569813), (0, .ref q565080), (1, .ref q565081), (2, .int p565082)]) dr_cX17_run_204 (Nat.le_of_ble_eq_true rfl) rfl ?_
                    refine G_iconst 0 dr_cX17_run_205 (by decide +kernel) ?_
                    refine G_istore (L' := [(4, .int 0), (3, .int p569934), (6, .ref q569933), (5, .ref q569923), (0, .ref q565080), (1, .ref q565081), (2, .int p565082)]) dr_cX17_run_206 (Nat.le_of_ble_eq_true rfl) rfl ?_
                    refine G_goto 54 dr_cX17_run_208 (by decide +kernel) ?_
                    refine G_lv (L' := [(4, .int 0), (3, .int p569934), (0, .ref q565080), (1, .ref q565081), (2, .int p565082)]) [0, 1, 4, 5, 6] rfl ?_
                    have ac569999 : (fI (F569954 q565080) 26).toInt = z569953.toInt := by rw [he569961]; rfl
                    have ac570000 : (fI (F569954 q565080) 9).toInt = p569829.toInt := by rw [he569961]; rfl
                    have ac570001 : (fI (F569954 q565080) 10).toInt = p569830.toInt := by rw [he569961]; rfl
                    have ac570002 : (fI (F569954 q565080) 32).toInt = p569841.toInt := by rw [he569961]; rfl
                    exact ih54_569821 F569954 p569934 0 bp569934 (gB_w (gBl (show Int32.toInt 0 = 0 by decide)) (by decide) (by decide)) hT569963 hs569962 (by have qa0 : Int32.toInt 0 = 0 := (by decide); omega) (by omega) (by omega) (by omega) (by omega) (by have qa0 : Int32.toInt 0 = 0 := (by decide); omega)
                  · have r570003 : p569983.toInt ≠ 30 := gj_neq hc569997 (show Int32.toInt 30 = 30 by decide)
                    refine G_aload_n 4 dr_cX17_run_174 rfl ?_
                    refine G_aload 0 dr_cX17_run_175 rfl ?_
                    refine Gp_get 5 hm569981 he569982 dr_cX17_run_177 (gk_X15 D I) (Nat.le_of_ble_eq_true rfl) wr_9_193 rfl ?_
                    refine G_aload 0 dr_cX17_run_180 rfl ?_
                    refine Gp_get 2 hm569981 he569982 dr_cX17_run_182 (gk_X15 D I) (Nat.le_of_ble_eq_true rfl) wr_9_182 rfl ?_
                    refine Gw_callV (As := [.int p569988, .int p569985]) (gV_ok D I) (ct_7383_SpillForgeModel_value l hl0 D I γ el P565078 F569954 q565080 p569988 p569985 hT569963 htq565080 bp569988 (by omega)) dr_cX17_run_185 ⟨wr_11_96, wr_1_14, wr_11_99, by decide, rfl, (Nat.le_of_ble_eq_true rfl), (Nat.le_of_ble_eq_true rfl)⟩ wr_11_98 wr_p_115 hm569825 he569961 rfl (show 0 + 0 ≤ 0 by first | omega | decide) (show 0 + 0 ≤ 0 by first | omega | decide) (Nat.le_of_ble_eq_true rfl) (fun r570007 w570008 dc570004 ds570005 hp570006 => ?_) (fun _ _ _ _ _ z => z.elim)
                    obtain ⟨o570009, rfl, rfl, hdc, hds⟩ := hp570006
                    have bo570009 := gB_any o570009
                    change G _ _ _ _ _ _ _ (.int o570009 :: _) _ _ _
                    refine G_widen (cs' := 0) (sl' := 0) (by omega) (by omega) ?_
                    refine G_if_eq 199 dr_cX17_run_188 (by decide +kernel) (fun hc570010 => ?_) (fun hc570010 => ?_)
                    · have r570011 : o570009.toInt = 0 := gj_eq hc570010 (show Int32.toInt 0 = 0 by decide)
                      have bo570009' : gB o570009 0 0 := ⟨by omega, by omega⟩
                      refine G_aload 1 dr_cX17_run_199 rfl ?_
                      refine Gp_get 3 hm569930 he569960 dr_cX17_run_201 (gk_X12 D I) (Nat.le_of_ble_eq_true rfl) wr_9_229 rfl ?_
                      refine G_istore_n (L' := [(3, .int p569935), (6, .ref q569933), (5, .ref q569923), (4, .int g569813), (0, .ref q565080), (1, .ref q565081), (2, .int p565082)]) dr_cX17_run_204 (Nat.le_of_ble_eq_true rfl) rfl ?_
                      refine G_iconst 0 dr_cX17_run_205 (by decide +kernel) ?_
                      refine G_istore (L' := [(4, .int 0), (3, .int p569935), (6, .ref q569933), (5, .ref q569923), (0, .ref q565080), (1, .ref q565081), (2, .int p565082)]) dr_cX17_run_206 (Nat.le_of_ble_eq_true rfl) rfl ?_
                      refine G_goto 54 dr_cX17_run_208 (by decide +kernel) ?_
                      refine G_lv (L' := [(4, .int 0), (3, .int p569935), (0, .ref q565080), (1, .ref q565081), (2, .int p565082)]) [0, 1, 4, 5, 6] rfl ?_
                      have ac570012 : (fI (F569954 q565080) 26).toInt = z569953.toInt := by rw [he569961]; rfl
                      have ac570013 : (fI (F569954 q565080) 9).toInt = p569829.toInt := by rw [he569961]; rfl
                      have ac570014 : (fI (F569954 q565080) 10).toInt = p569830.toInt := by rw [he569961]; rfl
                      have ac570015 : (fI (F569954 q565080) 32).toInt = p569841.toInt := by rw [he569961]; rfl
                      exact ih54_569821 F569954 p569935 0 bp569935 (gB_w (gBl (show Int32.toInt 0 = 0 by decide)) (by decide) (by decide)) hT569963 hs569962 (by have qa0 : Int32.toInt 0 = 0 := (by decide); omega) (by omega) (by omega) (by omega) (by omega) (by have qa0 : Int32.toInt 0 = 0 := (by decide); omega)
                    · have r570016 : o570009.toInt ≠ 0 := gj_neq hc570010 (show Int32.toInt 0 = 0 by decide)
                      refine G_aload 1 dr_cX17_run_191 rfl ?_
                      refine Gp_get 2 hm569930 he569960 dr_cX17_run_193 (gk_X12 D I) (Nat.le_of_ble_eq_true rfl) wr_9_225 rfl ?_
                      refine G_goto 204 dr_cX17_run_196 (by decide +kernel) ?_
                      refine G_istore_n (L' := [(3, .int p569934), (6, .ref q569933), (5, .ref q569923), (4, .int g569813), (0, .ref q565080), (1, .ref q565081), (2, .int p565082)]) dr_cX17_run_204 (Nat.le_of_ble_eq_true rfl) rfl ?_
                      refine G_iconst 0 dr_cX17_run_205 (by decide +kernel) ?_
                      refine G_istore (L' := [(4, .int 0), (3, .int p569934), (6, .ref q569933), (5, .ref q569923), (0, .ref q565080), (1, .ref q565081), (2, .int p565082)]) dr_cX17_run_206 (Nat.le_of_ble_eq_true rfl) rfl ?_
                      refine G_goto 54 dr_cX17_run_208 (by decide +kernel) ?_
                      refine G_lv (L' := [(4, .int 0), (3, .int p569934), (0, .ref q565080), (1, .ref q565081), (2, .int p565082)]) [0, 1, 4, 5, 6] rfl ?_
                      have ac570017 : (fI (F569954 q565080) 26).toInt = z569953.toInt := by rw [he569961]; rfl
                      have ac570018 : (fI (F569954 q565080) 9).toInt = p569829.toInt := by rw [he569961]; rfl
                      have ac570019 : (fI (F569954 q565080) 10).toInt = p569830.toInt := by rw [he569961]; rfl
                      have ac570020 : (fI (F569954 q565080) 32).toInt = p569841.toInt := by rw [he569961]; rfl
                      exact ih54_569821 F569954 p569934 0 bp569934 (gB_w (gBl (show Int32.toInt 0 = 0 by decide)) (by decide) (by decide)) hT569963 hs569962 (by have qa0 : Int32.toInt 0 = 0 := (by decide); omega) (by omega) (by omega) (by omega) (by omega) (by have qa0 : Int32.toInt 0 = 0 := (by decide); omega)
                · have r570021 : p569983.toInt = 32 := gj_eq hc569995 (show Int32.toInt 32 = 32 by decide)
                  have bp569983' : gB p569983 32 32 := ⟨by omega, by omega⟩
                  refine G_aload_n 4 dr_cX17_run_144 rfl ?_
                  refine G_aload_n 4 dr_cX17_run_145 rfl ?_
                  refine G_aload 0 dr_cX17_run_146 rfl ?_
                  refine Gp_get 5 hm569981 he569982 dr_cX17_run_148 (gk_X15 D I) (Nat.le_of_ble_eq_true rfl) wr_9_193 rfl ?_
                  refine G_aload 0 dr_cX17_run_151 rfl ?_
                  refine Gp_get 2 hm569981 he569982 dr_cX17_run_153 (gk_X15 D I) (Nat.le_of_ble_eq_true rfl) wr_9_182 rfl ?_
                  refine Gw_callV (As := [.int p569988, .int p569985]) (gV_ok D I) (ct_7383_SpillForgeModel_value l hl0 D I γ el P565078 F569954 q565080 p569988 p569985 hT569963 htq565080 bp569988 (by omega)) dr_cX17_run_156 ⟨wr_11_96, wr_1_14, wr_11_99, by decide, rfl, (Nat.le_of_ble_eq_true rfl), (Nat.le_of_ble_eq_true rfl)⟩ wr_11_98 wr_p_115 hm569825 he569961 rfl (show 0 + 0 ≤ 0 by first | omega | decide) (show 0 + 0 ≤ 0 by first | omega | decide) (Nat.le_of_ble_eq_true rfl) (fun r570025 w570026 dc570022 ds570023 hp570024 => ?_) (fun _ _ _ _ _ z => z.elim)
                  obtain ⟨o570027, rfl, rfl, hdc, hds⟩ := hp570024
                  have bo570027 := gB_any o570027
                  change G _ _ _ _ _ _ _ (.int o570027 :: _) _ _ _
                  refine G_widen (cs' := 0) (sl' := 0) (by omega) (by omega) ?_
                  refine Gp_put 24 hm569825 he569961 dr_cX17_run_159 (gk_X17 D I) (Nat.le_of_ble_eq_true rfl) wr_7_98 rfl rfl rfl (Nat.le_of_ble_eq_true rfl) (fun F570028 e570029 n570030 => ?_)
                  have he570031 : F570028 q565081 = .inr (18, [.ref q569882, .ref q569883, .int p569884, .int p569885]) := (n570030 q565081 (rn_oo he569957 he569961 (by decide))).trans he569957
                  have he570032 : F570028 q569882 = .inr (4, [.int p569904, .ref q569906, .int p569905]) := (n570030 q569882 (rn_oo he569958 he569961 (by decide))).trans he569958
                  have he570033 : F570028 q569906 = .inl (I (.object "java/lang/Object"), n569920, .inr (.inr (.inr (.inr f569921)))) := (n570030 q569906 (rn_ao he569959 he569961)).trans he569959
                  have he570034 : F570028 q569923 = .inr (17, [.ref q569932, .ref q569933, .int p569934, .int p569935]) := (n570030 q569923 (rn_oo he569960 he569961 (by decide))).trans he569960
                  have he570035 : F570028 q569932 = .inr (4, [.int p569966, .ref q569968, .int p569967]) := (n570030 q569932 (rn_oo he569965 he569961 (by decide))).trans he569965
                  have he570036 : F570028 q569933 = .inr (20, [.int p569983, .int p569984, .int p569985, .int p569986, .int p569987, .int p569988, .int p569989]) := (n570030 q569933 (rn_oo he569982 he569961 (by decide))).trans he569982
                  have he570037 : F570028 q565080 = .inr (22, [.ref (γ 9 0), .ref (γ 9 1), .ref (γ 9 2), .ref (γ 9 3), .ref (γ 9 4), .ref (γ 9 5), .ref (γ 9 6), .ref (γ 9 7), .ref (γ 9 8), .int p569829, .int p569830, .int p569831, .int p569832, .int p569833, .int p569834, .ref (γ 9 15), .ref (γ 9 16), .ref (γ 9 17), .ref (γ 9 18), .ref (γ 9 19), .ref (γ 9 20), .ref (γ 9 21), .ref (γ 9 22), .int p569835, .int o570027, .int p569837, .int z569953, .int p569839, .ref q569827, .ref (γ 9 29), .int p569840, .ref (γ 9 31), .int p569841, .int p569842, .int p569843, .ref q569828]) := e570029
                  have hs570038 : rStr γ [] F565079 F570028 := rStr_put hs569962 n570030 htq565080 (by decide)
                  refine G_iconst 0 dr_cX17_run_162 (by decide +kernel) ?_
                  have hT570039 : RS D I P565078 F570028 γ el := RS_set hT569963 n570030 htq565080 (by decide) ⟨q569827, q569828, p569829, p569830, p569831, p569832, p569833, p569834, p569835, o570027, p569837, z569953, p569839, p569840, p569841, p569842, p569843, he570037, ⟨bp569829, bp569830, (hB569870.2.2.1), (hB569870.2.2.2.1), (hB569870.2.2.2.2.1), ⟨by omega, by omega⟩, (hB569870.2.2.2.2.2.2.1), bp569841, (hB569870.2.2.2.2.2.2.2.2)⟩, ht569844, ht569845, ht569846, ht569847, ht569848, ht569849, ht569850, ht569851, ht569852, ht569853, ht569854, ht569855, ht569856, ht569857, ht569858, ht569859, ht569860, ht569861, ht569862, ht569863, ht569864, ht569865, ht569866, ht569867, hB569871⟩
                  have ac570040 : (fI (F570028 q565080) 26).toInt = z569953.toInt := by rw [he570037]; rfl
                  have ac570041 : (fI (F570028 q565080) 9).toInt = p569829.toInt := by rw [he570037]; rfl
                  have ac570042 : (fI (F570028 q565080) 10).toInt = p569830.toInt := by rw [he570037]; rfl
                  have ac570043 : (fI (F570028 q565080) 32).toInt = p569841.toInt := by rw [he570037]; rfl
                  exact G_iretA dr_cX17_run_163 rfl (Nat.le_of_ble_eq_true rfl) (Nat.le_of_ble_eq_true rfl) ⟨F570028, 0, rfl, rfl, hT570039, hs570038, (Nat.le_of_ble_eq_true rfl), (Nat.le_of_ble_eq_true rfl), (gB_w (gBl (show Int32.toInt 0 = 0 by decide)) (by decide) (by decide)), (by have qa0 : Int32.toInt 0 = 0 := (by decide); omega), (by have qa0 : Int32.toInt 0 = 0 := (by decide); omega), (by have qa0 : Int32.toInt 0 = 0 := (by decide); omega)⟩
              · have r570044 : g569813.toInt < p569967.toInt := gC_nle hc569979
                have bg569813' : gB g569813 0 999999 := ⟨by omega, by omega⟩
                have bp569967' : gB p569967 1 1000000 := ⟨by omega, by omega⟩
                refine G_aload_n 3 dr_cX17_run_94 rfl ?_
                refine G_aload 0 dr_cX17_run_95 rfl ?_
                refine Gp_get 0 hm569930 he569960 dr_cX17_run_97 (gk_X12 D I) (Nat.le_of_ble_eq_true rfl) wr_9_216 rfl ?_
                refine G_iload 1 dr_cX17_run_100 rfl ?_
                obtain ⟨r570045, r570046, n570053, f570054, r570047, r570048, r570049, r570050, r570051, r570052⟩ := rLC_n r569971 (by omega)
                have hm570055 : q569968 ∈ P565078 := RS_m hT569963 r570045 (by decide)
                obtain ⟨q570056, hx570057⟩ : ∃ x, x = el q569932 g569813.toInt.toNat := ⟨_, rfl⟩
                have hx570058 : f570054 g569813.toNatClampNeg = some q570056 := (r570051 _ (show g569813.toInt.toNat < γ 2 q569932 by omega)).trans (by rw [hx570057])
                have ht570059 : rKd γ q570056 1 := by rw [hx570057]; exact (r569972 _ (show g569813.toInt.toNat < γ 2 q569932 by omega)).1
                have ht570060 : rFm γ q570056 q569932 := by rw [hx570057]; exact (r569972 _ (show g569813.toInt.toNat < γ 2 q569932 by omega)).2.1
                refine Gw_callV (As := [.int g569813]) (gV_ok D I) (cp_22_ArrayList_get l hl0 D I P565078 F569954 q569932 q569968 g569813 p569966 p569967 f570054 n570053 q570056 hm569964 hm570055 he569965 r570047 (gB_w bg569813' (by decide) (by decide)) (gB_w bp569967' (by decide) (by decide)) (by omega) (by omega) (by assumption) (by omega)) dr_cX17_run_102 ⟨wr_10_197, wr_1_18, wr_10_61, by decide, rfl, (Nat.le_of_ble_eq_true rfl), (Nat.le_of_ble_eq_true rfl)⟩ wr_10_59 wr_10_60 hm569964 he569965 rfl (show 0 + 0 ≤ 0 by first | omega | decide) (show 0 + 0 ≤ 0 by first | omega | decide) (Nat.le_of_ble_eq_true rfl) (fun r570064 w570065 dc570061 ds570062 hp570063 => ?_) (fun _ _ _ _ _ z => z.elim)
                obtain ⟨rfl, rfl, hdc, hds⟩ := hp570063
                change G _ _ _ _ _ _ _ (.ref q570056 :: _) _ _ _
                refine G_widen (cs' := 0) (sl' := 0) (by omega) (by omega) ?_
                have hm570066 : q570056 ∈ P565078 := RS_m hT569963 ht570059 (by decide)
                obtain ⟨p570068, p570069, p570070, p570071, p570072, p570073, p570074, he570067, bp570068, bp570069, bp570072, bp570073, bp570074, r570075, r570076, r570077, r570078, r570079⟩ := show rk_1 γ q570056 (F569954 q570056) from RS_o hT569963 ht570059
                have bp570070 := gB_any p570070
                have bp570071 := gB_any p570071
                refine Gp_cast hm570066 he570067 rfl dr_cX17_run_105 wr_10_198 (gr_cast 1 rfl) ?_
                have ac570080 : (fI (F569954 q565080) 26).toInt = z569953.toInt := by rw [he569961]; rfl
                have ac570081 : (fI (F569954 q565080) 9).toInt = p569829.toInt := by rw [he569961]; rfl
                have ac570082 : (fI (F569954 q565080) 10).toInt = p569830.toInt := by rw [he569961]; rfl
                have ac570083 : (fI (F569954 q565080) 32).toInt = p569841.toInt := by rw [he569961]; rfl
                refine Gw_callV (As := [.ref q570056]) (gV_ok D I) (ct_565860_SpillForgeModel_step l hl0 D I γ el P565078 F569954 q565080 q570056 hT569963 htq565080 ht570059) dr_cX17_run_108 ⟨wr_11_92, wr_1_14, wr_11_95, by decide, rfl, (Nat.le_of_ble_eq_true rfl), (Nat.le_of_ble_eq_true rfl)⟩ wr_11_94 wr_p_114 hm569825 he569961 rfl (show 0 + 0 ≤ 0 by first | omega | decide) (show 0 + 0 ≤ 0 by first | omega | decide) (Nat.le_of_ble_eq_true rfl) (fun r570087 w570088 dc570084 ds570085 hp570086 => ?_) (fun _ _ _ _ _ z => z.elim)
                obtain ⟨F570094, o570089, rfl, rfl, hT570095, hs570096, hdc, hds, bo570089, x570090, x570091, x570092, x570093⟩ := hp570086
                have he570097 : F570094 q565081 = .inr (18, [.ref q569882, .ref q569883, .int p569884, .int p569885]) := (hs570096 q565081 (rT0 htq565081 (by decide)) (rT1 htq565081 (by decide)) (rT2 htq565081 (by decide))).trans he569957
                have he570098 : F570094 q569882 = .inr (4, [.int p569904, .ref q569906, .int p569905]) := (hs570096 q569882 (rT0 ht569886 (by decide)) (rT1 ht569886 (by decide)) (rT2 ht569886 (by decide))).trans he569958
                have he570099 : F570094 q569906 = .inl (I (.object "java/lang/Object"), n569920, .inr (.inr (.inr (.inr f569921)))) := (hs570096 q569906 (rT0 r569912 (by decide)) (rT1 r569912 (by decide)) (rT2 r569912 (by decide))).trans he569959
                have he570100 : F570094 q569923 = .inr (17, [.ref q569932, .ref q569933, .int p569934, .int p569935]) := (hs570096 q569923 (rT0 ht569928 (by decide)) (rT1 ht569928 (by decide)) (rT2 ht569928 (by decide))).trans he569960
                have he570101 : F570094 q569932 = .inr (4, [.int p569966, .ref q569968, .int p569967]) := (hs570096 q569932 (rT0 ht569936 (by decide)) (rT1 ht569936 (by decide)) (rT2 ht569936 (by decide))).trans he569965
                have he570102 : F570094 q569968 = .inl (I (.object "java/lang/Object"), n570053, .inr (.inr (.inr (.inr f570054)))) := (hs570096 q569968 (rT0 r570045 (by decide)) (rT1 r570045 (by decide)) (rT2 r570045 (by decide))).trans r570047
                have he570103 : F570094 q570056 = .inr (20, [.int p570068, .int p570069, .int p570070, .int p570071, .int p570072, .int p570073, .int p570074]) := (hs570096 q570056 (rT0 ht570059 (by decide)) (rT1 ht570059 (by decide)) (rT2 ht570059 (by decide))).trans he570067
                have hs570104 : rStr γ [] F565079 F570094 := rStr_tr hs569962 hs570096
                change G _ _ _ _ _ _ _ (.int o570089 :: _) _ _ _
                refine G_widen (cs' := 0) (sl' := 0) (by omega) (by omega) ?_
                refine G_istore (L' := [(6, .int o570089), (5, .ref q569923), (4, .int g569813), (3, .int g569812), (0, .ref q565080), (1, .ref q565081), (2, .int p565082)]) dr_cX17_run_111 (Nat.le_of_ble_eq_true rfl) rfl ?_
                refine G_iload 0 dr_cX17_run_113 rfl ?_
                refine G_if_lt 121 dr_cX17_run_115 (by decide +kernel) (fun hc570105 => ?_) (fun hc570105 => ?_)
                · have r570106 : o570089.toInt < 0 := gj_lt hc570105 (show Int32.toInt 0 = 0 by decide)
                  have bo570089' : gB o570089 (-1) (-1) := ⟨by omega, by omega⟩
                  obtain ⟨z570107, hz570107⟩ : ∃ z : Int32, z = g569813 + Int32.ofInt 1 := ⟨_, rfl⟩
                  have ez570107 : z570107.toInt = g569813.toInt + 1 := gI_inc hz570107 (by decide) bg569813' (by decide) (by decide)
                  have bz570107 : gB z570107 1 1000000 := ⟨by omega, by omega⟩
                  refine G_iinc (L' := [(4, .int z570107), (6, .int o570089), (5, .ref q569923), (3, .int g569812), (0, .ref q565080), (1, .ref q565081), (2, .int p565082)]) z570107 2 dr_cX17_run_121 rfl hz570107.symm (Nat.le_of_ble_eq_true rfl) rfl ?_
                  refine G_goto 54 dr_cX17_run_124 (by decide +kernel) ?_
                  refine G_lv (L' := [(4, .int z570107), (3, .int g569812), (0, .ref q565080), (1, .ref q565081), (2, .int p565082)]) [0, 3, 4, 5, 6] rfl ?_
                  have hm570108 : q565080 ∈ P565078 := RS_m hT570095 htq565080 (by decide)
                  refine rk10_e (show rk_10 γ (F570094 q565080) from RS_o hT570095 htq565080) (fun q570110 q570111 p570112 p570113 p570114 p570115 p570116 p570117 p570118 p570119 p570120 p570121 p570122 p570123 p570124 p570125 p570126 he570109 hB570153 ht570127 ht570128 ht570129 ht570130 ht570131 ht570132 ht570133 ht570134 ht570135 ht570136 ht570137 ht570138 ht570139 ht570140 ht570141 ht570142 ht570143 ht570144 ht570145 ht570146 ht570147 ht570148 ht570149 ht570150 hB570154 => ?_)
                  have ac570155 : (fI (F570094 q565080) 26).toInt = p570121.toInt := by rw [he570109]; rfl
                  have bp570121 : gB p570121 0 100000 := (hB570153.2.2.2.2.2.1)
                  have ac570156 : (fI (F570094 q565080) 9).toInt = p570112.toInt := by rw [he570109]; rfl
                  have bp570112 : gB p570112 0 1 := (hB570153.1)
                  have ac570157 : (fI (F570094 q565080) 10).toInt = p570113.toInt := by rw [he570109]; rfl
                  have bp570113 : gB p570113 0 1 := (hB570153.2.1)
                  have ac570158 : (fI (F570094 q565080) 32).toInt = p570124.toInt := by rw [he570109]; rfl
                  have bp570124 : gB p570124 0 8192 := (hB570153.2.2.2.2.2.2.2.1)
                  have ac570159 : (fI (F570094 q565080) 26).toInt = p570121.toInt := by rw [he570109]; rfl
                  have ac570160 : (fI (F570094 q565080) 9).toInt = p570112.toInt := by rw [he570109]; rfl
                  have ac570161 : (fI (F570094 q565080) 10).toInt = p570113.toInt := by rw [he570109]; rfl
                  have ac570162 : (fI (F570094 q565080) 32).toInt = p570124.toInt := by rw [he570109]; rfl
                  exact ih54_569821 F570094 g569812 z570107 bg569812 (gB_w bz570107 (by decide) (by decide)) hT570095 hs570104 (by omega) (by omega) (by omega) (by omega) (by omega) (by omega)
                · have r570163 : 0 ≤ o570089.toInt := gj_nlt hc570105 (show Int32.toInt 0 = 0 by decide)
                  have bo570089' : gB o570089 0 5 := ⟨by omega, by omega⟩
                  refine G_iload 0 dr_cX17_run_118 rfl ?_
                  have hm570164 : q565080 ∈ P565078 := RS_m hT570095 htq565080 (by decide)
                  refine rk10_e (show rk_10 γ (F570094 q565080) from RS_o hT570095 htq565080) (fun q570166 q570167 p570168 p570169 p570170 p570171 p570172 p570173 p570174 p570175 p570176 p570177 p570178 p570179 p570180 p570181 p570182 he570165 hB570209 ht570183 ht570184 ht570185 ht570186 ht570187 ht570188 ht570189 ht570190 ht570191 ht570192 ht570193 ht570194 ht570195 ht570196 ht570197 ht570198 ht570199 ht570200 ht570201 ht570202 ht570203 ht570204 ht570205 ht570206 hB570210 => ?_)
                  have ac570211 : (fI (F570094 q565080) 26).toInt = p570177.toInt := by rw [he570165]; rfl
                  have bp570177 : gB p570177 0 100000 := (hB570209.2.2.2.2.2.1)
                  have ac570212 : (fI (F570094 q565080) 9).toInt = p570168.toInt := by rw [he570165]; rfl
                  have bp570168 : gB p570168 0 1 := (hB570209.1)
                  have ac570213 : (fI (F570094 q565080) 10).toInt = p570169.toInt := by rw [he570165]; rfl
                  have bp570169 : gB p570169 0 1 := (hB570209.2.1)
                  have ac570214 : (fI (F570094 q565080) 32).toInt = p570180.toInt := by rw [he570165]; rfl
                  have bp570180 : gB p570180 0 8192 := (hB570209.2.2.2.2.2.2.2.1)
                  have ac570215 : (fI (F570094 q565080) 26).toInt = p570177.toInt := by rw [he570165]; rfl
                  have ac570216 : (fI (F570094 q565080) 9).toInt = p570168.toInt := by rw [he570165]; rfl
                  have ac570217 : (fI (F570094 q565080) 10).toInt = p570169.toInt := by rw [he570165]; rfl
                  have ac570218 : (fI (F570094 q565080) 32).toInt = p570180.toInt := by rw [he570165]; rfl
                  exact G_iretA dr_cX17_run_120 rfl (Nat.le_of_ble_eq_true rfl) (Nat.le_of_ble_eq_true rfl) ⟨F570094, o570089, rfl, rfl, hT570095, hs570104, (Nat.le_of_ble_eq_true rfl), (Nat.le_of_ble_eq_true rfl), bo570089', (by omega), (by omega), (by omega)⟩
            · have r570219 : p569838.toInt = p565082.toInt := gC_eq hc569951
              have bp569838' : gB p569838 1 100000 := ⟨by omega, by omega⟩
              refine G_iconst 4 dr_cX17_run_69 (by decide +kernel) ?_
              have ac570220 : (fI (F569814 q565080) 26).toInt = p569838.toInt := by rw [he569826]; rfl
              have ac570221 : (fI (F569814 q565080) 9).toInt = p569829.toInt := by rw [he569826]; rfl
              have ac570222 : (fI (F569814 q565080) 10).toInt = p569830.toInt := by rw [he569826]; rfl
              have ac570223 : (fI (F569814 q565080) 32).toInt = p569841.toInt := by rw [he569826]; rfl
              exact G_iretA dr_cX17_run_70 rfl (Nat.le_of_ble_eq_true rfl) (Nat.le_of_ble_eq_true rfl) ⟨F569814, 4, rfl, rfl, hT569815, hs569816, (Nat.le_of_ble_eq_true rfl), (Nat.le_of_ble_eq_true rfl), (gB_w (gBl (show Int32.toInt 4 = 4 by decide)) (by decide) (by decide)), (by have qa0 : Int32.toInt 4 = 4 := (by decide); omega), (by have qa0 : Int32.toInt 4 = 4 := (by decide); omega), (by have qa0 : Int32.toInt 4 = 4 := (by decide); omega)⟩
        have ac570224 : (fI (F569466 q565080) 26).toInt = 0 := by rw [he569469]; show Int32.toInt 0 = 0; decide
        have ac570225 : (fI (F569466 q565080) 9).toInt = p569396.toInt := by rw [he569469]; rfl
        have ac570226 : (fI (F569466 q565080) 10).toInt = p569397.toInt := by rw [he569469]; rfl
        have ac570227 : (fI (F569466 q565080) 32).toInt = p569408.toInt := by rw [he569469]; rfl
        exact hlp54_569821 ((p565082.toInt - (fI (F569466 q565080) 26).toInt).toNat + 1) F569466 0 0 (gB_w (gBl (show Int32.toInt 0 = 0 by decide)) (by decide) (by decide)) (gB_w (gBl (show Int32.toInt 0 = 0 by decide)) (by decide) (by decide)) hT569472 hs569470 (by have qa0 : Int32.toInt 0 = 0 := (by decide); omega) (by omega) (by omega) (by omega) (by omega) (Nat.lt_succ_self _)
      · have r570228 : g569382.toInt < 2000 := gj_nleL hc569447 (show Int32.toInt 2000 = 2000 by decide)
        have bg569382' : gB g569382 0 1999 := ⟨by omega, by omega⟩
        refine G_aload_n 1 dr_cX17_run_9 rfl ?_
        refine Gp_get 20 hm569392 he569393 dr_cX17_run_10 (gk_X17 D I) (Nat.le_of_ble_eq_true rfl) wr_7_94 rfl ?_
        refine G_iload_n 0 dr_cX17_run_13 rfl ?_
        refine G_iconst 0 dr_cX17_run_14 (by decide +kernel) ?_
        have hm570229 : (γ 9 20) ∈ P565078 := RS_m hT569384 ht569427 (by decide)
        obtain ⟨f570231, he570230⟩ := show rk_22 I (F569383 (γ 9 20)) from RS_o hT569384 ht569427
        refine Gp_iast 0 hm570229 he570230 dr_cX17_run_15 rfl (gB_in bg569382' (by decide) (by decide)) (fun F570232 e570233 n570234 => ?_)
        obtain ⟨f570235, hf570235⟩ : ∃ z, z = upd f570231 g569382.toNatClampNeg 0 := ⟨_, rfl⟩
        rw [← hf570235] at e570233
        have he570236 : F570232 q565080 = .inr (22, [.ref (γ 9 0), .ref (γ 9 1), .ref (γ 9 2), .ref (γ 9 3), .ref (γ 9 4), .ref (γ 9 5), .ref (γ 9 6), .ref (γ 9 7), .ref (γ 9 8), .int p569396, .int p569397, .int p569398, .int p569399, .int p569400, .int p569401, .ref (γ 9 15), .ref (γ 9 16), .ref (γ 9 17), .ref (γ 9 18), .ref (γ 9 19), .ref (γ 9 20), .ref (γ 9 21), .ref (γ 9 22), .int p569402, .int p569403, .int p569404, .int p569405, .int p569406, .ref q569394, .ref (γ 9 29), .int p569407, .ref (γ 9 31), .int p569408, .int p569409, .int p569410, .ref q569395]) := (n570234 q565080 (rn_oa he569393 he570230)).trans he569393
        have he570237 : F570232 (γ 9 20) = .inl (I .int, 2000, .inl f570235) := e570233
        have hs570238 : rStr γ [] F565079 F570232 := rStr_put hs569385 n570234 ht569427 (by decide)
        refine G_aload_n 1 dr_cX17_run_16 rfl ?_
        refine Gp_get 21 hm569392 he570236 dr_cX17_run_17 (gk_X17 D I) (Nat.le_of_ble_eq_true rfl) wr_7_95 rfl ?_
        refine G_iload_n 0 dr_cX17_run_20 rfl ?_
        refine G_iconst 0 dr_cX17_run_21 (by decide +kernel) ?_
        have hT570239 : RS D I P565078 F570232 γ el := RS_set hT569384 n570234 ht569427 (by decide) ⟨f570235, he570237⟩
        have hm570240 : (γ 9 21) ∈ P565078 := RS_m hT570239 ht569428 (by decide)
        obtain ⟨f570242, he570241⟩ := show rk_23 I (F570232 (γ 9 21)) from RS_o hT570239 ht569428
        refine Gp_iast 0 hm570240 he570241 dr_cX17_run_22 rfl (gB_in bg569382' (by decide) (by decide)) (fun F570243 e570244 n570245 => ?_)
        obtain ⟨f570246, hf570246⟩ : ∃ z, z = upd f570242 g569382.toNatClampNeg 0 := ⟨_, rfl⟩
        rw [← hf570246] at e570244
        have he570247 : F570243 q565080 = .inr (22, [.ref (γ 9 0), .ref (γ 9 1), .ref (γ 9 2), .ref (γ 9 3), .ref (γ 9 4), .ref (γ 9 5), .ref (γ 9 6), .ref (γ 9 7), .ref (γ 9 8), .int p569396, .int p569397, .int p569398, .int p569399, .int p569400, .int p569401, .ref (γ 9 15), .ref (γ 9 16), .ref (γ 9 17), .ref (γ 9 18), .ref (γ 9 19), .ref (γ 9 20), .ref (γ 9 21), .ref (γ 9 22), .int p569402, .int p569403, .int p569404, .int p569405, .int p569406, .ref q569394, .ref (γ 9 29), .int p569407, .ref (γ 9 31), .int p569408, .int p569409, .int p569410, .ref q569395]) := (n570245 q565080 (rn_oa he570236 he570241)).trans he570236
        have he570248 : F570243 (γ 9 20) = .inl (I .int, 2000, .inl f570235) := (n570245 (γ 9 20) (rn_ty ht569427 ht569428 (by decide))).trans he570237
        have he570249 : F570243 (γ 9 21) = .inl (I .int, 2000, .inl f570246) := e570244
        have hs570250 : rStr γ [] F565079 F570243 := rStr_put hs570238 n570245 ht569428 (by decide)
        obtain ⟨z570251, hz570251⟩ : ∃ z : Int32, z = g569382 + Int32.ofInt 1 := ⟨_, rfl⟩
        have ez570251 : z570251.toInt = g569382.toInt + 1 := gI_inc hz570251 (by decide) bg569382' (by decide) (by decide)
        have bz570251 : gB z570251 1 2000 := ⟨by omega, by omega⟩
        refine G_iinc (L' := [(3, .int z570251), (0, .ref q565080), (1, .ref q565081), (2, .int p565082)]) z570251 0 dr_cX17_run_23 rfl hz570251.symm (Nat.le_of_ble_eq_true rfl) rfl ?_
        refine G_goto 2 dr_cX17_run_26 (by decide +kernel) ?_
        have hT570252 : RS D I P565078 F570243 γ el := RS_set hT570239 n570245 ht569428 (by decide) ⟨f570246, he570249⟩
        have ac570253 : (fI (F570243 q565080) 26).toInt = p569405.toInt := by rw [he570247]; rfl
        have ac570254 : (fI (F570243 q565080) 9).toInt = p569396.toInt := by rw [he570247]; rfl
        have ac570255 : (fI (F570243 q565080) 10).toInt = p569397.toInt := by rw [he570247]; rfl
        have ac570256 : (fI (F570243 q565080) 32).toInt = p569408.toInt := by rw [he570247]; rfl
        exact ih2_569388 F570243 z570251 (gB_w bz570251 (by decide) (by decide)) hT570252 hs570250 (by omega) (by omega) (by omega) (mz_up ez570251 (Int.le_trans bg569382'.2 (by decide)) hm2_569388)
  have ac570257 : (fI (F565079 q565080) 26).toInt = p565098.toInt := by rw [he565086]; rfl
  have ac570258 : (fI (F565079 q565080) 9).toInt = p565089.toInt := by rw [he565086]; rfl
  have ac570259 : (fI (F565079 q565080) 10).toInt = p565090.toInt := by rw [he565086]; rfl
  have ac570260 : (fI (F565079 q565080) 32).toInt = p565101.toInt := by rw [he565086]; rfl
  exact hlp2_569388 (((2001 : Int) - 0).toNat + 1) F565079 0 (gB_w (gBl (show Int32.toInt 0 = 0 by decide)) (by decide) (by decide)) hT (rStr_rf (γ := γ) (W := []) (F := F565079)) (by omega) (by omega) (by omega) (Nat.lt_succ_self _)
abbrev ky_570270_SpillForgeModel_run : gKey := (cX17_run_, 3, "SpillForgeModel", (some FieldType.int), [], "run", fun _ _ => True)
def pt_570270_SpillForgeModel_run (D : va_G) (I : FieldType → ClassId) (γ el : Nat → Nat → Nat) (P570263 : List Nat) (F570264 : Nat → va_E) (q570265 : Nat) (p570266 : Int32) (p570267 : Int32) : Option Value → va_W → Nat → Nat → Prop := fun r w dc ds => ∃ (F570778 : Nat → va_E) (o570777 : Int32), r = some (.int o570777) ∧ w = va_pl P570263 F570778 ∧ RS D I P570263 F570778 γ el ∧ rStr γ [] F570264 F570778 ∧ dc ≤ 0 ∧ ds ≤ 0 ∧ gB o570777 0 5 ∧ (fI (F570778 q570265) 9).toInt = (fI (F570264 q570265) 9).toInt ∧ (fI (F570778 q570265) 10).toInt = (fI (F570264 q570265) 10).toInt ∧ (fI (F570778 q570265) 32).toInt = (fI (F570264 q570265) 32).toInt
set_option maxRecDepth 100000 in
set_option maxHeartbeats 4000000 in
theorem ct_570270_SpillForgeModel_run (l : Launch) (hl0 : l.stackTraces = false) (D : va_G) (I : FieldType → ClassId) (γ el : Nat → Nat → Nat) (P570263 : List Nat) (F570264 : Nat → va_E) (q570265 : Nat) (p570266 : Int32) (p570267 : Int32) (hT : RS D I P570263 F570264 γ el) (htq570265 : rKd γ q570265 10) (bp570266 : gB p570266 0 1) (x570268 : ((fI (F570264 q570265) 9).toInt = 0 ∨ 0 < γ 6 0)) (x570269 : ((fI (F570264 q570265) 10).toInt = 0 ∨ 0 < γ 6 1)) : CtA (gV D I) l yX17_run_ cX17_run_ 3 (some FieldType.int) 5 111 0 0 [.ref q570265, .int p570266, .int p570267] (va_pl P570263 F570264) (pt_570270_SpillForgeModel_run D I γ el P570263 F570264 q570265 p570266 p570267) gNA := by
  refine CtA_of hl0 (by decide) (Nat.le_of_ble_eq_true rfl) ?_
  have bp570267 := gB_any p570267
  have hm570271 : q570265 ∈ P570263 := RS_m hT htq570265 (by decide)
  refine rk10_e (show rk_10 γ (F570264 q570265) from RS_o hT htq570265) (fun q570273 q570274 p570275 p570276 p570277 p570278 p570279 p570280 p570281 p570282 p570283 p570284 p570285 p570286 p570287 p570288 p570289 he570272 hB570316 ht570290 ht570291 ht570292 ht570293 ht570294 ht570295 ht570296 ht570297 ht570298 ht570299 ht570300 ht570301 ht570302 ht570303 ht570304 ht570305 ht570306 ht570307 ht570308 ht570309 ht570310 ht570311 ht570312 ht570313 hB570317 => ?_)
  have ac570318 : (fI (F570264 q570265) 9).toInt = p570275.toInt := by rw [he570272]; rfl
  have bp570275 : gB p570275 0 1 := (hB570316.1)
  have ac570319 : (fI (F570264 q570265) 10).toInt = p570276.toInt := by rw [he570272]; rfl
  have bp570276 : gB p570276 0 1 := (hB570316.2.1)
  have ac570320 : (fI (F570264 q570265) 32).toInt = p570287.toInt := by rw [he570272]; rfl
  have bp570287 : gB p570287 0 8192 := (hB570316.2.2.2.2.2.2.2.1)
  have fq570321 : γ 6 (γ 1 (γ 9 6)) = γ 6 0 := by rw [show γ 1 (γ 9 6) = 0 from ht570311]
  have fq570322 : γ 6 (γ 1 (γ 9 7)) = γ 6 1 := by rw [show γ 1 (γ 9 7) = 1 from ht570312]
  have fq570323 : γ 6 (γ 1 (γ 9 8)) = γ 6 2 := by rw [show γ 1 (γ 9 8) = 2 from ht570313]
  have r570324 : p570289.toInt ≤ γ 12 q570274 := by have z := hB570317; unfold rM2 at z; exact z.2.2
  refine G_aload_n 0 dr_cX17_run__0 rfl ?_
  refine G_iconst 0 dr_cX17_run__1 (by decide +kernel) ?_
  refine Gp_put 30 hm570271 he570272 dr_cX17_run__2 (gk_X17 D I) (Nat.le_of_ble_eq_true rfl) wr_7_104 rfl rfl rfl (Nat.le_of_ble_eq_true rfl) (fun F570325 e570326 n570327 => ?_)
  have he570328 : F570325 q570265 = .inr (22, [.ref (γ 9 0), .ref (γ 9 1), .ref (γ 9 2), .ref (γ 9 3), .ref (γ 9 4), .ref (γ 9 5), .ref (γ 9 6), .ref (γ 9 7), .ref (γ 9 8), .int p570275, .int p570276, .int p570277, .int p570278, .int p570279, .int p570280, .ref (γ 9 15), .ref (γ 9 16), .ref (γ 9 17), .ref (γ 9 18), .ref (γ 9 19), .ref (γ 9 20), .ref (γ 9 21), .ref (γ 9 22), .int p570281, .int p570282, .int p570283, .int p570284, .int p570285, .ref q570273, .ref (γ 9 29), .int 0, .ref (γ 9 31), .int p570287, .int p570288, .int p570289, .ref q570274]) := e570326
  have hs570329 : rStr γ [] F570264 F570325 := rStr_put (rStr_rf (γ := γ) (W := []) (F := F570264)) n570327 htq570265 (by decide)
  refine G_iload_n 2 dr_cX17_run__5 rfl ?_
  refine G_iconst 1 dr_cX17_run__6 (by decide +kernel) ?_
  refine G_icmp_lt 17 dr_cX17_run__7 (by decide +kernel) (fun hc570330 => ?_) (fun hc570330 => ?_)
  · have r570331 : p570267.toInt < 1 := gj_lt hc570330 (show Int32.toInt 1 = 1 by decide)
    have bp570267' : gB p570267 (-2147483648) 0 := ⟨by omega, by omega⟩
    refine G_aload_n 0 dr_cX17_run__17 rfl ?_
    refine G_iconst 1 dr_cX17_run__18 (by decide +kernel) ?_
    have hT570332 : RS D I P570263 F570325 γ el := RS_set hT n570327 htq570265 (by decide) ⟨q570273, q570274, p570275, p570276, p570277, p570278, p570279, p570280, p570281, p570282, p570283, p570284, p570285, 0, p570287, p570288, p570289, he570328, ⟨bp570275, bp570276, (hB570316.2.2.1), (hB570316.2.2.2.1), (hB570316.2.2.2.2.1), (hB570316.2.2.2.2.2.1), (hB570316.2.2.2.2.2.2.1), bp570287, (hB570316.2.2.2.2.2.2.2.2)⟩, ht570290, ht570291, ht570292, ht570293, ht570294, ht570295, ht570296, ht570297, ht570298, ht570299, ht570300, ht570301, ht570302, ht570303, ht570304, ht570305, ht570306, ht570307, ht570308, ht570309, ht570310, ht570311, ht570312, ht570313, hB570317⟩
    have ac570333 : (fI (F570325 q570265) 9).toInt = p570275.toInt := by rw [he570328]; rfl
    have ac570334 : (fI (F570325 q570265) 10).toInt = p570276.toInt := by rw [he570328]; rfl
    have ac570335 : (fI (F570325 q570265) 32).toInt = p570287.toInt := by rw [he570328]; rfl
    refine Gw_callV (As := [.int 1]) (gV_ok D I) (ct_563506_SpillForgeModel_no l hl0 D I γ el P570263 F570325 q570265 1 hT570332 htq570265) dr_cX17_run__19 ⟨wr_7_187, wr_1_14, wr_7_190, by decide, rfl, (Nat.le_of_ble_eq_true rfl), (Nat.le_of_ble_eq_true rfl)⟩ wr_7_189 wr_p_73 hm570271 he570328 rfl (show 0 + 0 ≤ 0 by first | omega | decide) (show 0 + 0 ≤ 0 by first | omega | decide) (Nat.le_of_ble_eq_true rfl) (fun r570339 w570340 dc570336 ds570337 hp570338 => ?_) (fun _ _ _ _ _ z => z.elim)
    obtain ⟨F570345, rfl, rfl, hT570346, hs570347, hdc, hds, x570341, x570342, x570343, x570344⟩ := hp570338
    have hs570348 : rStr γ [] F570264 F570345 := rStr_tr hs570329 hs570347
    rw [show Int32.toInt 1 = 1 from by decide] at x570344
    change G _ _ _ _ _ _ _ (.int 0 :: _) _ _ _
    refine G_widen (cs' := 0) (sl' := 0) (by omega) (by omega) ?_
    have hm570349 : q570265 ∈ P570263 := RS_m hT570346 htq570265 (by decide)
    refine rk10_e (show rk_10 γ (F570345 q570265) from RS_o hT570346 htq570265) (fun q570351 q570352 p570353 p570354 p570355 p570356 p570357 p570358 p570359 p570360 p570361 p570362 p570363 p570364 p570365 p570366 p570367 he570350 hB570394 ht570368 ht570369 ht570370 ht570371 ht570372 ht570373 ht570374 ht570375 ht570376 ht570377 ht570378 ht570379 ht570380 ht570381 ht570382 ht570383 ht570384 ht570385 ht570386 ht570387 ht570388 ht570389 ht570390 ht570391 hB570395 => ?_)
    have ac570396 : (fI (F570345 q570265) 9).toInt = p570353.toInt := by rw [he570350]; rfl
    have bp570353 : gB p570353 0 1 := (hB570394.1)
    have ac570397 : (fI (F570345 q570265) 10).toInt = p570354.toInt := by rw [he570350]; rfl
    have bp570354 : gB p570354 0 1 := (hB570394.2.1)
    have ac570398 : (fI (F570345 q570265) 32).toInt = p570365.toInt := by rw [he570350]; rfl
    have bp570365 : gB p570365 0 8192 := (hB570394.2.2.2.2.2.2.2.1)
    have ac570399 : (fI (F570345 q570265) 9).toInt = p570353.toInt := by rw [he570350]; rfl
    have ac570400 : (fI (F570345 q570265) 10).toInt = p570354.toInt := by rw [he570350]; rfl
    have ac570401 : (fI (F570345 q570265) 32).toInt = p570365.toInt := by rw [he570350]; rfl
    exact G_iretA dr_cX17_run__22 rfl (Nat.le_of_ble_eq_true rfl) (Nat.le_of_ble_eq_true rfl) ⟨F570345, 0, rfl, rfl, hT570346, hs570348, (Nat.le_of_ble_eq_true rfl), (Nat.le_of_ble_eq_true rfl), (gB_w (gBl (show Int32.toInt 0 = 0 by decide)) (by decide) (by decide)), (by have qa0 : Int32.toInt 0 = 0 := (by decide); omega), (by have qa0 : Int32.toInt 0 = 0 := (by decide); omega), (by have qa0 : Int32.toInt 0 = 0 := (by decide); omega)⟩
  · have r570402 : 1 ≤ p570267.toInt := gj_nlt hc570330 (show Int32.toInt 1 = 1 by decide)
    have bp570267' : gB p570267 1 2147483647 := ⟨by omega, by omega⟩
    refine G_iload_n 2 dr_cX17_run__10 rfl ?_
    refine G_ldcw 100000 dr_cX17_run__11 wr_11_87 ?_
    refine G_icmp_le 23 dr_cX17_run__14 (by decide +kernel) (fun hc570403 => ?_) (fun hc570403 => ?_)
    · have r570404 : p570267.toInt ≤ 100000 := gj_le hc570403 (show Int32.toInt 100000 = 100000 by decide)
      have bp570267'' : gB p570267 1 100000 := ⟨by omega, by omega⟩
      refine G_iload_n 1 dr_cX17_run__23 rfl ?_
      refine G_if_eq 37 dr_cX17_run__24 (by decide +kernel) (fun hc570405 => ?_) (fun hc570405 => ?_)
      · have r570406 : p570266.toInt = 0 := gj_eq hc570405 (show Int32.toInt 0 = 0 by decide)
        have bp570266' : gB p570266 0 0 := gB_t0 r570406
        refine G_aload_n 0 dr_cX17_run__37 rfl ?_
        refine Gp_get 9 hm570271 he570328 dr_cX17_run__38 (gk_X17 D I) (Nat.le_of_ble_eq_true rfl) wr_7_83 rfl ?_
        refine G_if_ne 50 dr_cX17_run__41 (by decide +kernel) (fun hc570407 => ?_) (fun hc570407 => ?_)
        · have r570408 : p570275.toInt ≠ 0 := gj_neq hc570407 (show Int32.toInt 0 = 0 by decide)
          have bp570275' : gB p570275 1 1 := gB_t1 bp570275 r570408
          refine G_aload_n 0 dr_cX17_run__50 rfl ?_
          refine G_aload_n 0 dr_cX17_run__51 rfl ?_
          refine G_iload_n 1 dr_cX17_run__52 rfl ?_
          refine G_if_eq 63 dr_cX17_run__53 (by decide +kernel) (fun _ => ?_) (fun hc => absurd (show False by have := gj_neq hc (show Int32.toInt 0 = 0 by decide); omega) not_false)
          refine G_aload_n 0 dr_cX17_run__63 rfl ?_
          refine Gp_get 6 hm570271 he570328 dr_cX17_run__64 (gk_X17 D I) (Nat.le_of_ble_eq_true rfl) wr_7_80 rfl ?_
          refine G_iload_n 2 dr_cX17_run__67 rfl ?_
          have hT570409 : RS D I P570263 F570325 γ el := RS_set hT n570327 htq570265 (by decide) ⟨q570273, q570274, p570275, p570276, p570277, p570278, p570279, p570280, p570281, p570282, p570283, p570284, p570285, 0, p570287, p570288, p570289, he570328, ⟨(gB_w bp570275' (by decide) (by decide)), bp570276, (hB570316.2.2.1), (hB570316.2.2.2.1), (hB570316.2.2.2.2.1), (hB570316.2.2.2.2.2.1), (hB570316.2.2.2.2.2.2.1), bp570287, (hB570316.2.2.2.2.2.2.2.2)⟩, ht570290, ht570291, ht570292, ht570293, ht570294, ht570295, ht570296, ht570297, ht570298, ht570299, ht570300, ht570301, ht570302, ht570303, ht570304, ht570305, ht570306, ht570307, ht570308, ht570309, ht570310, ht570311, ht570312, ht570313, hB570317⟩
          have ac570410 : (fI (F570325 q570265) 9).toInt = p570275.toInt := by rw [he570328]; rfl
          have ac570411 : (fI (F570325 q570265) 10).toInt = p570276.toInt := by rw [he570328]; rfl
          have ac570412 : (fI (F570325 q570265) 32).toInt = p570287.toInt := by rw [he570328]; rfl
          refine Gw_callV (As := [.ref (γ 9 6), .int p570267]) (gV_ok D I) (ct_565084_SpillForgeModel_run l hl0 D I γ el P570263 F570325 q570265 (γ 9 6) p570267 hT570409 htq570265 ht570298 bp570267'' (by have qa0 : Int32.toInt 0 = 0 := (by decide); omega)) dr_cX17_run__68 ⟨wr_11_88, wr_1_14, wr_11_91, by decide, rfl, (Nat.le_of_ble_eq_true rfl), (Nat.le_of_ble_eq_true rfl)⟩ wr_11_90 wr_p_113 hm570271 he570328 rfl (show 0 + 0 ≤ 0 by first | omega | decide) (show 0 + 0 ≤ 0 by first | omega | decide) (Nat.le_of_ble_eq_true rfl) (fun r570416 w570417 dc570413 ds570414 hp570415 => ?_) (fun _ _ _ _ _ z => z.elim)
          obtain ⟨F570422, o570418, rfl, rfl, hT570423, hs570424, hdc, hds, bo570418, x570419, x570420, x570421⟩ := hp570415
          have hs570425 : rStr γ [] F570264 F570422 := rStr_tr hs570329 hs570424
          change G _ _ _ _ _ _ _ (.int o570418 :: _) _ _ _
          refine G_widen (cs' := 0) (sl' := 0) (by omega) (by omega) ?_
          have hm570426 : q570265 ∈ P570263 := RS_m hT570423 htq570265 (by decide)
          refine rk10_e (show rk_10 γ (F570422 q570265) from RS_o hT570423 htq570265) (fun q570428 q570429 p570430 p570431 p570432 p570433 p570434 p570435 p570436 p570437 p570438 p570439 p570440 p570441 p570442 p570443 p570444 he570427 hB570471 ht570445 ht570446 ht570447 ht570448 ht570449 ht570450 ht570451 ht570452 ht570453 ht570454 ht570455 ht570456 ht570457 ht570458 ht570459 ht570460 ht570461 ht570462 ht570463 ht570464 ht570465 ht570466 ht570467 ht570468 hB570472 => ?_)
          have ac570473 : (fI (F570422 q570265) 9).toInt = p570430.toInt := by rw [he570427]; rfl
          have bp570430 : gB p570430 0 1 := (hB570471.1)
          have ac570474 : (fI (F570422 q570265) 10).toInt = p570431.toInt := by rw [he570427]; rfl
          have bp570431 : gB p570431 0 1 := (hB570471.2.1)
          have ac570475 : (fI (F570422 q570265) 32).toInt = p570442.toInt := by rw [he570427]; rfl
          have bp570442 : gB p570442 0 8192 := (hB570471.2.2.2.2.2.2.2.1)
          refine Gp_put 23 hm570426 he570427 dr_cX17_run__71 (gk_X17 D I) (Nat.le_of_ble_eq_true rfl) wr_7_97 rfl rfl rfl (Nat.le_of_ble_eq_true rfl) (fun F570476 e570477 n570478 => ?_)
          have he570479 : F570476 q570265 = .inr (22, [.ref (γ 9 0), .ref (γ 9 1), .ref (γ 9 2), .ref (γ 9 3), .ref (γ 9 4), .ref (γ 9 5), .ref (γ 9 6), .ref (γ 9 7), .ref (γ 9 8), .int p570430, .int p570431, .int p570432, .int p570433, .int p570434, .int p570435, .ref (γ 9 15), .ref (γ 9 16), .ref (γ 9 17), .ref (γ 9 18), .ref (γ 9 19), .ref (γ 9 20), .ref (γ 9 21), .ref (γ 9 22), .int o570418, .int p570437, .int p570438, .int p570439, .int p570440, .ref q570428, .ref (γ 9 29), .int p570441, .ref (γ 9 31), .int p570442, .int p570443, .int p570444, .ref q570429]) := e570477
          have hs570480 : rStr γ [] F570264 F570476 := rStr_put hs570425 n570478 htq570265 (by decide)
          refine G_aload_n 0 dr_cX17_run__74 rfl ?_
          refine Gp_get 23 hm570426 he570479 dr_cX17_run__75 (gk_X17 D I) (Nat.le_of_ble_eq_true rfl) wr_7_97 rfl ?_
          have hT570481 : RS D I P570263 F570476 γ el := RS_set hT570423 n570478 htq570265 (by decide) ⟨q570428, q570429, p570430, p570431, p570432, p570433, p570434, p570435, o570418, p570437, p570438, p570439, p570440, p570441, p570442, p570443, p570444, he570479, ⟨bp570430, bp570431, (hB570471.2.2.1), (hB570471.2.2.2.1), (hB570471.2.2.2.2.1), (hB570471.2.2.2.2.2.1), (hB570471.2.2.2.2.2.2.1), bp570442, (hB570471.2.2.2.2.2.2.2.2)⟩, ht570445, ht570446, ht570447, ht570448, ht570449, ht570450, ht570451, ht570452, ht570453, ht570454, ht570455, ht570456, ht570457, ht570458, ht570459, ht570460, ht570461, ht570462, ht570463, ht570464, ht570465, ht570466, ht570467, ht570468, hB570472⟩
          have ac570482 : (fI (F570476 q570265) 9).toInt = p570430.toInt := by rw [he570479]; rfl
          have ac570483 : (fI (F570476 q570265) 10).toInt = p570431.toInt := by rw [he570479]; rfl
          have ac570484 : (fI (F570476 q570265) 32).toInt = p570442.toInt := by rw [he570479]; rfl
          exact G_iretA dr_cX17_run__78 rfl (Nat.le_of_ble_eq_true rfl) (Nat.le_of_ble_eq_true rfl) ⟨F570476, o570418, rfl, rfl, hT570481, hs570480, (Nat.le_of_ble_eq_true rfl), (Nat.le_of_ble_eq_true rfl), bo570418, (by omega), (by omega), (by omega)⟩
        · have r570485 : p570275.toInt = 0 := gj_eq hc570407 (show Int32.toInt 0 = 0 by decide)
          have bp570275' : gB p570275 0 0 := gB_t0 r570485
          refine G_aload_n 0 dr_cX17_run__44 rfl ?_
          refine G_iconst 2 dr_cX17_run__45 (by decide +kernel) ?_
          have hT570486 : RS D I P570263 F570325 γ el := RS_set hT n570327 htq570265 (by decide) ⟨q570273, q570274, p570275, p570276, p570277, p570278, p570279, p570280, p570281, p570282, p570283, p570284, p570285, 0, p570287, p570288, p570289, he570328, ⟨(gB_w bp570275' (by decide) (by decide)), bp570276, (hB570316.2.2.1), (hB570316.2.2.2.1), (hB570316.2.2.2.2.1), (hB570316.2.2.2.2.2.1), (hB570316.2.2.2.2.2.2.1), bp570287, (hB570316.2.2.2.2.2.2.2.2)⟩, ht570290, ht570291, ht570292, ht570293, ht570294, ht570295, ht570296, ht570297, ht570298, ht570299, ht570300, ht570301, ht570302, ht570303, ht570304, ht570305, ht570306, ht570307, ht570308, ht570309, ht570310, ht570311, ht570312, ht570313, hB570317⟩
          have ac570487 : (fI (F570325 q570265) 9).toInt = p570275.toInt := by rw [he570328]; rfl
          have ac570488 : (fI (F570325 q570265) 10).toInt = p570276.toInt := by rw [he570328]; rfl
          have ac570489 : (fI (F570325 q570265) 32).toInt = p570287.toInt := by rw [he570328]; rfl
          refine Gw_callV (As := [.int 2]) (gV_ok D I) (ct_563506_SpillForgeModel_no l hl0 D I γ el P570263 F570325 q570265 2 hT570486 htq570265) dr_cX17_run__46 ⟨wr_7_187, wr_1_14, wr_7_190, by decide, rfl, (Nat.le_of_ble_eq_true rfl), (Nat.le_of_ble_eq_true rfl)⟩ wr_7_189 wr_p_73 hm570271 he570328 rfl (show 0 + 0 ≤ 0 by first | omega | decide) (show 0 + 0 ≤ 0 by first | omega | decide) (Nat.le_of_ble_eq_true rfl) (fun r570493 w570494 dc570490 ds570491 hp570492 => ?_) (fun _ _ _ _ _ z => z.elim)
          obtain ⟨F570499, rfl, rfl, hT570500, hs570501, hdc, hds, x570495, x570496, x570497, x570498⟩ := hp570492
          have hs570502 : rStr γ [] F570264 F570499 := rStr_tr hs570329 hs570501
          rw [show Int32.toInt 2 = 2 from by decide] at x570498
          change G _ _ _ _ _ _ _ (.int 0 :: _) _ _ _
          refine G_widen (cs' := 0) (sl' := 0) (by omega) (by omega) ?_
          have hm570503 : q570265 ∈ P570263 := RS_m hT570500 htq570265 (by decide)
          refine rk10_e (show rk_10 γ (F570499 q570265) from RS_o hT570500 htq570265) (fun q570505 q570506 p570507 p570508 p570509 p570510 p570511 p570512 p570513 p570514 p570515 p570516 p570517 p570518 p570519 p570520 p570521 he570504 hB570548 ht570522 ht570523 ht570524 ht570525 ht570526 ht570527 ht570528 ht570529 ht570530 ht570531 ht570532 ht570533 ht570534 ht570535 ht570536 ht570537 ht570538 ht570539 ht570540 ht570541 ht570542 ht570543 ht570544 ht570545 hB570549 => ?_)
          have ac570550 : (fI (F570499 q570265) 9).toInt = p570507.toInt := by rw [he570504]; rfl
          have bp570507 : gB p570507 0 1 := (hB570548.1)
          have ac570551 : (fI (F570499 q570265) 10).toInt = p570508.toInt := by rw [he570504]; rfl
          have bp570508 : gB p570508 0 1 := (hB570548.2.1)
          have ac570552 : (fI (F570499 q570265) 32).toInt = p570519.toInt := by rw [he570504]; rfl
          have bp570519 : gB p570519 0 8192 := (hB570548.2.2.2.2.2.2.2.1)
          have ac570553 : (fI (F570499 q570265) 9).toInt = p570507.toInt := by rw [he570504]; rfl
          have ac570554 : (fI (F570499 q570265) 10).toInt = p570508.toInt := by rw [he570504]; rfl
          have ac570555 : (fI (F570499 q570265) 32).toInt = p570519.toInt := by rw [he570504]; rfl
          exact G_iretA dr_cX17_run__49 rfl (Nat.le_of_ble_eq_true rfl) (Nat.le_of_ble_eq_true rfl) ⟨F570499, 0, rfl, rfl, hT570500, hs570502, (Nat.le_of_ble_eq_true rfl), (Nat.le_of_ble_eq_true rfl), (gB_w (gBl (show Int32.toInt 0 = 0 by decide)) (by decide) (by decide)), (by have qa0 : Int32.toInt 0 = 0 := (by decide); omega), (by have qa0 : Int32.toInt 0 = 0 := (by decide); omega), (by have qa0 : Int32.toInt 0 = 0 := (by decide); omega)⟩
      · have r570556 : p570266.toInt ≠ 0 := gj_neq hc570405 (show Int32.toInt 0 = 0 by decide)
        have bp570266' : gB p570266 1 1 := gB_t1 bp570266 r570556
        refine G_aload_n 0 dr_cX17_run__27 rfl ?_
        refine Gp_get 10 hm570271 he570328 dr_cX17_run__28 (gk_X17 D I) (Nat.le_of_ble_eq_true rfl) wr_7_84 rfl ?_
        refine G_if_ne 50 dr_cX17_run__31 (by decide +kernel) (fun hc570557 => ?_) (fun hc570557 => ?_)
        · have r570558 : p570276.toInt ≠ 0 := gj_neq hc570557 (show Int32.toInt 0 = 0 by decide)
          have bp570276' : gB p570276 1 1 := gB_t1 bp570276 r570558
          refine G_aload_n 0 dr_cX17_run__50 rfl ?_
          refine G_aload_n 0 dr_cX17_run__51 rfl ?_
          refine G_iload_n 1 dr_cX17_run__52 rfl ?_
          refine G_if_eq 63 dr_cX17_run__53 (by decide +kernel) (fun hc => absurd (show False by have := gj_eq hc (show Int32.toInt 0 = 0 by decide); omega) not_false) (fun _ => ?_)
          refine G_aload_n 0 dr_cX17_run__56 rfl ?_
          refine Gp_get 7 hm570271 he570328 dr_cX17_run__57 (gk_X17 D I) (Nat.le_of_ble_eq_true rfl) wr_7_81 rfl ?_
          refine G_goto 67 dr_cX17_run__60 (by decide +kernel) ?_
          refine G_iload_n 2 dr_cX17_run__67 rfl ?_
          have hT570559 : RS D I P570263 F570325 γ el := RS_set hT n570327 htq570265 (by decide) ⟨q570273, q570274, p570275, p570276, p570277, p570278, p570279, p570280, p570281, p570282, p570283, p570284, p570285, 0, p570287, p570288, p570289, he570328, ⟨bp570275, (gB_w bp570276' (by decide) (by decide)), (hB570316.2.2.1), (hB570316.2.2.2.1), (hB570316.2.2.2.2.1), (hB570316.2.2.2.2.2.1), (hB570316.2.2.2.2.2.2.1), bp570287, (hB570316.2.2.2.2.2.2.2.2)⟩, ht570290, ht570291, ht570292, ht570293, ht570294, ht570295, ht570296, ht570297, ht570298, ht570299, ht570300, ht570301, ht570302, ht570303, ht570304, ht570305, ht570306, ht570307, ht570308, ht570309, ht570310, ht570311, ht570312, ht570313, hB570317⟩
          have ac570560 : (fI (F570325 q570265) 9).toInt = p570275.toInt := by rw [he570328]; rfl
          have ac570561 : (fI (F570325 q570265) 10).toInt = p570276.toInt := by rw [he570328]; rfl
          have ac570562 : (fI (F570325 q570265) 32).toInt = p570287.toInt := by rw [he570328]; rfl
          refine Gw_callV (As := [.ref (γ 9 7), .int p570267]) (gV_ok D I) (ct_565084_SpillForgeModel_run l hl0 D I γ el P570263 F570325 q570265 (γ 9 7) p570267 hT570559 htq570265 ht570299 bp570267'' (by have qa0 : Int32.toInt 0 = 0 := (by decide); omega)) dr_cX17_run__68 ⟨wr_11_88, wr_1_14, wr_11_91, by decide, rfl, (Nat.le_of_ble_eq_true rfl), (Nat.le_of_ble_eq_true rfl)⟩ wr_11_90 wr_p_113 hm570271 he570328 rfl (show 0 + 0 ≤ 0 by first | omega | decide) (show 0 + 0 ≤ 0 by first | omega | decide) (Nat.le_of_ble_eq_true rfl) (fun r570566 w570567 dc570563 ds570564 hp570565 => ?_) (fun _ _ _ _ _ z => z.elim)
          obtain ⟨F570572, o570568, rfl, rfl, hT570573, hs570574, hdc, hds, bo570568, x570569, x570570, x570571⟩ := hp570565
          have hs570575 : rStr γ [] F570264 F570572 := rStr_tr hs570329 hs570574
          change G _ _ _ _ _ _ _ (.int o570568 :: _) _ _ _
          refine G_widen (cs' := 0) (sl' := 0) (by omega) (by omega) ?_
          have hm570576 : q570265 ∈ P570263 := RS_m hT570573 htq570265 (by decide)
          refine rk10_e (show rk_10 γ (F570572 q570265) from RS_o hT570573 htq570265) (fun q570578 q570579 p570580 p570581 p570582 p570583 p570584 p570585 p570586 p570587 p570588 p570589 p570590 p570591 p570592 p570593 p570594 he570577 hB570621 ht570595 ht570596 ht570597 ht570598 ht570599 ht570600 ht570601 ht570602 ht570603 ht570604 ht570605 ht570606 ht570607 ht570608 ht570609 ht570610 ht570611 ht570612 ht570613 ht570614 ht570615 ht570616 ht570617 ht570618 hB570622 => ?_)
          have ac570623 : (fI (F570572 q570265) 9).toInt = p570580.toInt := by rw [he570577]; rfl
          have bp570580 : gB p570580 0 1 := (hB570621.1)
          have ac570624 : (fI (F570572 q570265) 10).toInt = p570581.toInt := by rw [he570577]; rfl
          have bp570581 : gB p570581 0 1 := (hB570621.2.1)
          have ac570625 : (fI (F570572 q570265) 32).toInt = p570592.toInt := by rw [he570577]; rfl
          have bp570592 : gB p570592 0 8192 := (hB570621.2.2.2.2.2.2.2.1)
          refine Gp_put 23 hm570576 he570577 dr_cX17_run__71 (gk_X17 D I) (Nat.le_of_ble_eq_true rfl) wr_7_97 rfl rfl rfl (Nat.le_of_ble_eq_true rfl) (fun F570626 e570627 n570628 => ?_)
          have he570629 : F570626 q570265 = .inr (22, [.ref (γ 9 0), .ref (γ 9 1), .ref (γ 9 2), .ref (γ 9 3), .ref (γ 9 4), .ref (γ 9 5), .ref (γ 9 6), .ref (γ 9 7), .ref (γ 9 8), .int p570580, .int p570581, .int p570582, .int p570583, .int p570584, .int p570585, .ref (γ 9 15), .ref (γ 9 16), .ref (γ 9 17), .ref (γ 9 18), .ref (γ 9 19), .ref (γ 9 20), .ref (γ 9 21), .ref (γ 9 22), .int o570568, .int p570587, .int p570588, .int p570589, .int p570590, .ref q570578, .ref (γ 9 29), .int p570591, .ref (γ 9 31), .int p570592, .int p570593, .int p570594, .ref q570579]) := e570627
          have hs570630 : rStr γ [] F570264 F570626 := rStr_put hs570575 n570628 htq570265 (by decide)
          refine G_aload_n 0 dr_cX17_run__74 rfl ?_
          refine Gp_get 23 hm570576 he570629 dr_cX17_run__75 (gk_X17 D I) (Nat.le_of_ble_eq_true rfl) wr_7_97 rfl ?_
          have hT570631 : RS D I P570263 F570626 γ el := RS_set hT570573 n570628 htq570265 (by decide) ⟨q570578, q570579, p570580, p570581, p570582, p570583, p570584, p570585, o570568, p570587, p570588, p570589, p570590, p570591, p570592, p570593, p570594, he570629, ⟨bp570580, bp570581, (hB570621.2.2.1), (hB570621.2.2.2.1), (hB570621.2.2.2.2.1), (hB570621.2.2.2.2.2.1), (hB570621.2.2.2.2.2.2.1), bp570592, (hB570621.2.2.2.2.2.2.2.2)⟩, ht570595, ht570596, ht570597, ht570598, ht570599, ht570600, ht570601, ht570602, ht570603, ht570604, ht570605, ht570606, ht570607, ht570608, ht570609, ht570610, ht570611, ht570612, ht570613, ht570614, ht570615, ht570616, ht570617, ht570618, hB570622⟩
          have ac570632 : (fI (F570626 q570265) 9).toInt = p570580.toInt := by rw [he570629]; rfl
          have ac570633 : (fI (F570626 q570265) 10).toInt = p570581.toInt := by rw [he570629]; rfl
          have ac570634 : (fI (F570626 q570265) 32).toInt = p570592.toInt := by rw [he570629]; rfl
          exact G_iretA dr_cX17_run__78 rfl (Nat.le_of_ble_eq_true rfl) (Nat.le_of_ble_eq_true rfl) ⟨F570626, o570568, rfl, rfl, hT570631, hs570630, (Nat.le_of_ble_eq_true rfl), (Nat.le_of_ble_eq_true rfl), bo570568, (by omega), (by omega), (by omega)⟩
        · have r570635 : p570276.toInt = 0 := gj_eq hc570557 (show Int32.toInt 0 = 0 by decide)
          have bp570276' : gB p570276 0 0 := gB_t0 r570635
          refine G_goto 44 dr_cX17_run__34 (by decide +kernel) ?_
          refine G_aload_n 0 dr_cX17_run__44 rfl ?_
          refine G_iconst 2 dr_cX17_run__45 (by decide +kernel) ?_
          have hT570636 : RS D I P570263 F570325 γ el := RS_set hT n570327 htq570265 (by decide) ⟨q570273, q570274, p570275, p570276, p570277, p570278, p570279, p570280, p570281, p570282, p570283, p570284, p570285, 0, p570287, p570288, p570289, he570328, ⟨bp570275, (gB_w bp570276' (by decide) (by decide)), (hB570316.2.2.1), (hB570316.2.2.2.1), (hB570316.2.2.2.2.1), (hB570316.2.2.2.2.2.1), (hB570316.2.2.2.2.2.2.1), bp570287, (hB570316.2.2.2.2.2.2.2.2)⟩, ht570290, ht570291, ht570292, ht570293, ht570294, ht570295, ht570296, ht570297, ht570298, ht570299, ht570300, ht570301, ht570302, ht570303, ht570304, ht570305, ht570306, ht570307, ht570308, ht570309, ht570310, ht570311, ht570312, ht570313, hB570317⟩
          have ac570637 : (fI (F570325 q570265) 9).toInt = p570275.toInt := by rw [he570328]; rfl
          have ac570638 : (fI (F570325 q570265) 10).toInt = p570276.toInt := by rw [he570328]; rfl
          have ac570639 : (fI (F570325 q570265) 32).toInt = p570287.toInt := by rw [he570328]; rfl
          refine Gw_callV (As := [.int 2]) (gV_ok D I) (ct_563506_SpillForgeModel_no l hl0 D I γ el P570263 F570325 q570265 2 hT570636 htq570265) dr_cX17_run__46 ⟨wr_7_187, wr_1_14, wr_7_190, by decide, rfl, (Nat.le_of_ble_eq_true rfl), (Nat.le_of_ble_eq_true rfl)⟩ wr_7_189 wr_p_73 hm570271 he570328 rfl (show 0 + 0 ≤ 0 by first | omega | decide) (show 0 + 0 ≤ 0 by first | omega | decide) (Nat.le_of_ble_eq_true rfl) (fun r570643 w570644 dc570640 ds570641 hp570642 => ?_) (fun _ _ _ _ _ z => z.elim)
          obtain ⟨F570649, rfl, rfl, hT570650, hs570651, hdc, hds, x570645, x570646, x570647, x570648⟩ := hp570642
          have hs570652 : rStr γ [] F570264 F570649 := rStr_tr hs570329 hs570651
          rw [show Int32.toInt 2 = 2 from by decide] at x570648
          change G _ _ _ _ _ _ _ (.int 0 :: _) _ _ _
          refine G_widen (cs' := 0) (sl' := 0) (by omega) (by omega) ?_
          have hm570653 : q570265 ∈ P570263 := RS_m hT570650 htq570265 (by decide)
          refine rk10_e (show rk_10 γ (F570649 q570265) from RS_o hT570650 htq570265) (fun q570655 q570656 p570657 p570658 p570659 p570660 p570661 p570662 p570663 p570664 p570665 p570666 p570667 p570668 p570669 p570670 p570671 he570654 hB570698 ht570672 ht570673 ht570674 ht570675 ht570676 ht570677 ht570678 ht570679 ht570680 ht570681 ht570682 ht570683 ht570684 ht570685 ht570686 ht570687 ht570688 ht570689 ht570690 ht570691 ht570692 ht570693 ht570694 ht570695 hB570699 => ?_)
          have ac570700 : (fI (F570649 q570265) 9).toInt = p570657.toInt := by rw [he570654]; rfl
          have bp570657 : gB p570657 0 1 := (hB570698.1)
          have ac570701 : (fI (F570649 q570265) 10).toInt = p570658.toInt := by rw [he570654]; rfl
          have bp570658 : gB p570658 0 1 := (hB570698.2.1)
          have ac570702 : (fI (F570649 q570265) 32).toInt = p570669.toInt := by rw [he570654]; rfl
          have bp570669 : gB p570669 0 8192 := (hB570698.2.2.2.2.2.2.2.1)
          have ac570703 : (fI (F570649 q570265) 9).toInt = p570657.toInt := by rw [he570654]; rfl
          have ac570704 : (fI (F570649 q570265) 10).toInt = p570658.toInt := by rw [he570654]; rfl
          have ac570705 : (fI (F570649 q570265) 32).toInt = p570669.toInt := by rw [he570654]; rfl
          exact G_iretA dr_cX17_run__49 rfl (Nat.le_of_ble_eq_true rfl) (Nat.le_of_ble_eq_true rfl) ⟨F570649, 0, rfl, rfl, hT570650, hs570652, (Nat.le_of_ble_eq_true rfl), (Nat.le_of_ble_eq_true rfl), (gB_w (gBl (show Int32.toInt 0 = 0 by decide)) (by decide) (by decide)), (by have qa0 : Int32.toInt 0 = 0 := (by decide); omega), (by have qa0 : Int32.toInt 0 = 0 := (by decide); omega), (by have qa0 : Int32.toInt 0 = 0 := (by decide); omega)⟩
    · have r570706 : 100000 < p570267.toInt := gj_nle hc570403 (show Int32.toInt 100000 = 100000 by decide)
      have bp570267'' : gB p570267 100001 2147483647 := ⟨by omega, by omega⟩
      refine G_aload_n 0 dr_cX17_run__17 rfl ?_
      refine G_iconst 1 dr_cX17_run__18 (by decide +kernel) ?_
      have hT570707 : RS D I P570263 F570325 γ el := RS_set hT n570327 htq570265 (by decide) ⟨q570273, q570274, p570275, p570276, p570277, p570278, p570279, p570280, p570281, p570282, p570283, p570284, p570285, 0, p570287, p570288, p570289, he570328, ⟨bp570275, bp570276, (hB570316.2.2.1), (hB570316.2.2.2.1), (hB570316.2.2.2.2.1), (hB570316.2.2.2.2.2.1), (hB570316.2.2.2.2.2.2.1), bp570287, (hB570316.2.2.2.2.2.2.2.2)⟩, ht570290, ht570291, ht570292, ht570293, ht570294, ht570295, ht570296, ht570297, ht570298, ht570299, ht570300, ht570301, ht570302, ht570303, ht570304, ht570305, ht570306, ht570307, ht570308, ht570309, ht570310, ht570311, ht570312, ht570313, hB570317⟩
      have ac570708 : (fI (F570325 q570265) 9).toInt = p570275.toInt := by rw [he570328]; rfl
      have ac570709 : (fI (F570325 q570265) 10).toInt = p570276.toInt := by rw [he570328]; rfl
      have ac570710 : (fI (F570325 q570265) 32).toInt = p570287.toInt := by rw [he570328]; rfl
      refine Gw_callV (As := [.int 1]) (gV_ok D I) (ct_563506_SpillForgeModel_no l hl0 D I γ el P570263 F570325 q570265 1 hT570707 htq570265) dr_cX17_run__19 ⟨wr_7_187, wr_1_14, wr_7_190, by decide, rfl, (Nat.le_of_ble_eq_true rfl), (Nat.le_of_ble_eq_true rfl)⟩ wr_7_189 wr_p_73 hm570271 he570328 rfl (show 0 + 0 ≤ 0 by first | omega | decide) (show 0 + 0 ≤ 0 by first | omega | decide) (Nat.le_of_ble_eq_true rfl) (fun r570714 w570715 dc570711 ds570712 hp570713 => ?_) (fun _ _ _ _ _ z => z.elim)
      obtain ⟨F570720, rfl, rfl, hT570721, hs570722, hdc, hds, x570716, x570717, x570718, x570719⟩ := hp570713
      have hs570723 : rStr γ [] F570264 F570720 := rStr_tr hs570329 hs570722
      rw [show Int32.toInt 1 = 1 from by decide] at x570719
      change G _ _ _ _ _ _ _ (.int 0 :: _) _ _ _
      refine G_widen (cs' := 0) (sl' := 0) (by omega) (by omega) ?_
      have hm570724 : q570265 ∈ P570263 := RS_m hT570721 htq570265 (by decide)
      refine rk10_e (show rk_10 γ (F570720 q570265) from RS_o hT570721 htq570265) (fun q570726 q570727 p570728 p570729 p570730 p570731 p570732 p570733 p570734 p570735 p570736 p570737 p570738 p570739 p570740 p570741 p570742 he570725 hB570769 ht570743 ht570744 ht570745 ht570746 ht570747 ht570748 ht570749 ht570750 ht570751 ht570752 ht570753 ht570754 ht570755 ht570756 ht570757 ht570758 ht570759 ht570760 ht570761 ht570762 ht570763 ht570764 ht570765 ht570766 hB570770 => ?_)
      have ac570771 : (fI (F570720 q570265) 9).toInt = p570728.toInt := by rw [he570725]; rfl
      have bp570728 : gB p570728 0 1 := (hB570769.1)
      have ac570772 : (fI (F570720 q570265) 10).toInt = p570729.toInt := by rw [he570725]; rfl
      have bp570729 : gB p570729 0 1 := (hB570769.2.1)
      have ac570773 : (fI (F570720 q570265) 32).toInt = p570740.toInt := by rw [he570725]; rfl
      have bp570740 : gB p570740 0 8192 := (hB570769.2.2.2.2.2.2.2.1)
      have ac570774 : (fI (F570720 q570265) 9).toInt = p570728.toInt := by rw [he570725]; rfl
      have ac570775 : (fI (F570720 q570265) 10).toInt = p570729.toInt := by rw [he570725]; rfl
      have ac570776 : (fI (F570720 q570265) 32).toInt = p570740.toInt := by rw [he570725]; rfl
      exact G_iretA dr_cX17_run__22 rfl (Nat.le_of_ble_eq_true rfl) (Nat.le_of_ble_eq_true rfl) ⟨F570720, 0, rfl, rfl, hT570721, hs570723, (Nat.le_of_ble_eq_true rfl), (Nat.le_of_ble_eq_true rfl), (gB_w (gBl (show Int32.toInt 0 = 0 by decide)) (by decide) (by decide)), (by have qa0 : Int32.toInt 0 = 0 := (by decide); omega), (by have qa0 : Int32.toInt 0 = 0 := (by decide); omega), (by have qa0 : Int32.toInt 0 = 0 := (by decide); omega)⟩
