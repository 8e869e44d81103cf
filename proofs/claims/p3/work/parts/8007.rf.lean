theorem dr_cX17_run__0 : decode cX17_run_ 0 = .ok (.aload_n 0, 1) := by decide +kernel
theorem dr_cX17_run__1 : decode cX17_run_ 1 = .ok (.iconst 0, 1) := by decide +kernel
theorem dr_cX17_run__2 : decode cX17_run_ 2 = .ok (.putfield 380, 3) := by decide +kernel
theorem dr_cX17_run__5 : decode cX17_run_ 5 = .ok (.iload_n 2, 1) := by decide +kernel
theorem dr_cX17_run__6 : decode cX17_run_ 6 = .ok (.iconst 1, 1) := by decide +kernel
theorem dr_cX17_run__7 : decode cX17_run_ 7 = .ok (.if_icmp .lt 10, 3) := by decide +kernel
theorem dr_cX17_run__17 : decode cX17_run_ 17 = .ok (.aload_n 0, 1) := by decide +kernel
theorem dr_cX17_run__18 : decode cX17_run_ 18 = .ok (.iconst 1, 1) := by decide +kernel
theorem dr_cX17_run__19 : decode cX17_run_ 19 = .ok (.invokevirtual 385, 3) := by decide +kernel
theorem dr_cX17_run__22 : decode cX17_run_ 22 = .ok (.ireturn, 1) := by decide +kernel
theorem dr_cX17_run__10 : decode cX17_run_ 10 = .ok (.iload_n 2, 1) := by decide +kernel
theorem dr_cX17_run__11 : decode cX17_run_ 11 = .ok (.ldc_w 434, 3) := by decide +kernel
theorem wr_11_91 : (Jvm.Cond.constant "SpillForgeModel" (434 : Nat) (100000 : Int32)) ∈ gw := gw_11 91 rfl rfl
theorem dr_cX17_run__14 : decode cX17_run_ 14 = .ok (.if_icmp .le 9, 3) := by decide +kernel
theorem dr_cX17_run__23 : decode cX17_run_ 23 = .ok (.iload_n 1, 1) := by decide +kernel
theorem dr_cX17_run__24 : decode cX17_run_ 24 = .ok (.ifCond .eq 13, 3) := by decide +kernel
theorem dr_cX17_run__37 : decode cX17_run_ 37 = .ok (.aload_n 0, 1) := by decide +kernel
theorem dr_cX17_run__38 : decode cX17_run_ 38 = .ok (.getfield 414, 3) := by decide +kernel
theorem wr_7_83 : (Jvm.Cond.fieldLink "SpillForgeModel" (414 : Nat) "SpillForgeModel" "program" "Z") ∈ gw := gw_7 83 rfl rfl
theorem dr_cX17_run__41 : decode cX17_run_ 41 = .ok (.ifCond .ne 9, 3) := by decide +kernel
theorem dr_cX17_run__50 : decode cX17_run_ 50 = .ok (.aload_n 0, 1) := by decide +kernel
theorem dr_cX17_run__51 : decode cX17_run_ 51 = .ok (.aload_n 0, 1) := by decide +kernel
theorem dr_cX17_run__52 : decode cX17_run_ 52 = .ok (.iload_n 1, 1) := by decide +kernel
theorem dr_cX17_run__53 : decode cX17_run_ 53 = .ok (.ifCond .eq 10, 3) := by decide +kernel
theorem dr_cX17_run__63 : decode cX17_run_ 63 = .ok (.aload_n 0, 1) := by decide +kernel
theorem dr_cX17_run__64 : decode cX17_run_ 64 = .ok (.getfield 361, 3) := by decide +kernel
theorem wr_7_80 : (Jvm.Cond.fieldLink "SpillForgeModel" (361 : Nat) "SpillForgeModel" "code" "LSpillForgeModel$Code;") ∈ gw := gw_7 80 rfl rfl
theorem dr_cX17_run__67 : decode cX17_run_ 67 = .ok (.iload_n 2, 1) := by decide +kernel
theorem dr_cX17_run__68 : decode cX17_run_ 68 = .ok (.invokevirtual 435, 3) := by decide +kernel
theorem wr_11_92 : (Jvm.Cond.methodLink "SpillForgeModel" (435 : Nat) ({ cls := "SpillForgeModel", name := "run", desc := "(LSpillForgeModel$Code;I)I" } : Jvm.MethodName)) ∈ gw := gw_11 92 rfl rfl
theorem wr_11_95 : (Jvm.Cond.code ({ cls := "SpillForgeModel", name := "run", desc := "(LSpillForgeModel$Code;I)I" } : Jvm.MethodName) prog_14_method_29_code (7 : Nat) (Option.some Jvm.ClassFile.FieldType.int)) ∈ gw := gw_11 95 rfl rfl
theorem wr_11_94 : (Jvm.Cond.instanceMethod ({ cls := "SpillForgeModel", name := "run", desc := "(LSpillForgeModel$Code;I)I" } : Jvm.MethodName)) ∈ gw := gw_11 94 rfl rfl
theorem wr_p_113 : Cond.selects "SpillForgeModel" ⟨"SpillForgeModel", "run", "(LSpillForgeModel$Code;I)I"⟩ ⟨"SpillForgeModel", "run", "(LSpillForgeModel$Code;I)I"⟩ ∈ gw := gw_p _ 113 rfl rfl rfl
theorem dr_cX17_run__71 : decode cX17_run_ 71 = .ok (.putfield 371, 3) := by decide +kernel
theorem dr_cX17_run__74 : decode cX17_run_ 74 = .ok (.aload_n 0, 1) := by decide +kernel
theorem dr_cX17_run__75 : decode cX17_run_ 75 = .ok (.getfield 371, 3) := by decide +kernel
theorem dr_cX17_run__78 : decode cX17_run_ 78 = .ok (.ireturn, 1) := by decide +kernel
theorem dr_cX17_run__44 : decode cX17_run_ 44 = .ok (.aload_n 0, 1) := by decide +kernel
theorem dr_cX17_run__45 : decode cX17_run_ 45 = .ok (.iconst 2, 1) := by decide +kernel
theorem dr_cX17_run__46 : decode cX17_run_ 46 = .ok (.invokevirtual 385, 3) := by decide +kernel
theorem dr_cX17_run__49 : decode cX17_run_ 49 = .ok (.ireturn, 1) := by decide +kernel
theorem dr_cX17_run__27 : decode cX17_run_ 27 = .ok (.aload_n 0, 1) := by decide +kernel
theorem dr_cX17_run__28 : decode cX17_run_ 28 = .ok (.getfield 416, 3) := by decide +kernel
theorem wr_7_84 : (Jvm.Cond.fieldLink "SpillForgeModel" (416 : Nat) "SpillForgeModel" "isGiven" "Z") ∈ gw := gw_7 84 rfl rfl
theorem dr_cX17_run__31 : decode cX17_run_ 31 = .ok (.ifCond .ne 19, 3) := by decide +kernel
theorem dr_cX17_run__56 : decode cX17_run_ 56 = .ok (.aload_n 0, 1) := by decide +kernel
theorem dr_cX17_run__57 : decode cX17_run_ 57 = .ok (.getfield 365, 3) := by decide +kernel
theorem wr_7_81 : (Jvm.Cond.fieldLink "SpillForgeModel" (365 : Nat) "SpillForgeModel" "given" "LSpillForgeModel$Code;") ∈ gw := gw_7 81 rfl rfl
theorem dr_cX17_run__60 : decode cX17_run_ 60 = .ok (.goto 7, 3) := by decide +kernel
theorem dr_cX17_run__34 : decode cX17_run_ 34 = .ok (.goto 10, 3) := by decide +kernel
abbrev ky_565192_SpillForgeModel_run : gKey := (cX17_run, 7, "SpillForgeModel", (some FieldType.int), [], "run", fun _ _ => True)
def pt_565192_SpillForgeModel_run (D : va_G) (I : FieldType → ClassId) (γ el : Nat → Nat → Nat) (P565186 : List Nat) (F565187 : Nat → va_E) (q565188 : Nat) (q565189 : Nat) (p565190 : Int32) : Option Value → va_W → Nat → Nat → Prop := fun r w dc ds => ∃ (F570370 : Nat → va_E) (o570369 : Int32), r = some (.int o570369) ∧ w = va_pl P565186 F570370 ∧ RS D I P565186 F570370 γ el ∧ rStr γ [] F565187 F570370 ∧ dc ≤ 0 ∧ ds ≤ 0 ∧ gB o570369 0 5 ∧ (fI (F570370 q565188) 9).toInt = (fI (F565187 q565188) 9).toInt ∧ (fI (F570370 q565188) 10).toInt = (fI (F565187 q565188) 10).toInt ∧ (fI (F570370 q565188) 32).toInt = (fI (F565187 q565188) 32).toInt
set_option maxRecDepth 100000 in
set_option maxHeartbeats 4000000 in
theorem ct_565192_SpillForgeModel_run (l : Launch) (hl0 : l.stackTraces = false) (D : va_G) (I : FieldType → ClassId) (γ el : Nat → Nat → Nat) (P565186 : List Nat) (F565187 : Nat → va_E) (q565188 : Nat) (q565189 : Nat) (p565190 : Int32) (hT : RS D I P565186 F565187 γ el) (htq565188 : rKd γ q565188 10) (htq565189 : rKd γ q565189 9) (bp565190 : gB p565190 1 100000) (x565191 : 0 < γ 6 (γ 1 q565189)) : CtA (gV D I) l yX17_run cX17_run 7 (some FieldType.int) 4 85 0 0 [.ref q565188, .ref q565189, .int p565190] (va_pl P565186 F565187) (pt_565192_SpillForgeModel_run D I γ el P565186 F565187 q565188 q565189 p565190) gNA := by
  refine CtA_of hl0 (by decide) (Nat.le_of_ble_eq_true rfl) ?_
  have hm565193 : q565188 ∈ P565186 := RS_m hT htq565188 (by decide)
  refine rk10_e (show rk_10 γ (F565187 q565188) from RS_o hT htq565188) (fun q565195 q565196 p565197 p565198 p565199 p565200 p565201 p565202 p565203 p565204 p565205 p565206 p565207 p565208 p565209 p565210 p565211 he565194 hB565238 ht565212 ht565213 ht565214 ht565215 ht565216 ht565217 ht565218 ht565219 ht565220 ht565221 ht565222 ht565223 ht565224 ht565225 ht565226 ht565227 ht565228 ht565229 ht565230 ht565231 ht565232 ht565233 ht565234 ht565235 hB565239 => ?_)
  have ac565240 : (fI (F565187 q565188) 26).toInt = p565206.toInt := by rw [he565194]; rfl
  have bp565206 : gB p565206 0 100000 := (hB565238.2.2.2.2.2.1)
  have ac565241 : (fI (F565187 q565188) 9).toInt = p565197.toInt := by rw [he565194]; rfl
  have bp565197 : gB p565197 0 1 := (hB565238.1)
  have ac565242 : (fI (F565187 q565188) 10).toInt = p565198.toInt := by rw [he565194]; rfl
  have bp565198 : gB p565198 0 1 := (hB565238.2.1)
  have ac565243 : (fI (F565187 q565188) 32).toInt = p565209.toInt := by rw [he565194]; rfl
  have bp565209 : gB p565209 0 8192 := (hB565238.2.2.2.2.2.2.2.1)
  refine G_iconst 0 dr_cX17_run_0 (by decide +kernel) ?_
  refine G_istore_n (L' := [(3, .int 0), (0, .ref q565188), (1, .ref q565189), (2, .int p565190)]) dr_cX17_run_1 (Nat.le_of_ble_eq_true rfl) rfl ?_
  have hlp2_569496 : ∀ (n2_569496 : Nat) (F569491 : Nat → va_E) (g569490 : Int32), gB g569490 0 2000 → RS D I P565186 F569491 γ el → rStr γ [] F565187 F569491 → (fI (F569491 q565188) 9).toInt = (fI (F565187 q565188) 9).toInt → (fI (F569491 q565188) 10).toInt = (fI (F565187 q565188) 10).toInt → (fI (F569491 q565188) 32).toInt = (fI (F565187 q565188) 32).toInt → ((2001 : Int) - g569490.toInt).toNat < n2_569496 → G (gV D I) l (gRm 4 85 0 0) (gMA (gV D I) (pt_565192_SpillForgeModel_run D I γ el P565186 F565187 q565188 q565189 p565190) gNA 0 0) ky_565192_SpillForgeModel_run 2 [(3, .int g569490), (0, .ref q565188), (1, .ref q565189), (2, .int p565190)] [] (va_pl P565186 F569491) 0 0 := by
    intro n2_569496
    induction n2_569496 with
    | zero => intro F569491 g569490 bg569490 hT569492 hs569493 x569494 x569495 x569496 hm2_569496; exact absurd hm2_569496 (Nat.not_lt_zero _)
    | succ n2_569496 ih2_569496 =>
      intro F569491 g569490 bg569490 hT569492 hs569493 x569494 x569495 x569496 hm2_569496
      have hs569498 : rStr γ [] F565187 F569491 := fun b h0 hb hw => (hs569493 b h0 hb hw).trans ((rStr_rf (γ := γ) (W := []) (F := F565187)) b h0 hb hw).symm
      have hs569499 : rStr γ [] F565187 F569491 := rStr_tr (rStr_rf (γ := γ) (W := []) (F := F565187)) hs569498
      have hm569500 : q565188 ∈ P565186 := RS_m hT569492 htq565188 (by decide)
      refine rk10_e (show rk_10 γ (F569491 q565188) from RS_o hT569492 htq565188) (fun q569502 q569503 p569504 p569505 p569506 p569507 p569508 p569509 p569510 p569511 p569512 p569513 p569514 p569515 p569516 p569517 p569518 he569501 hB569545 ht569519 ht569520 ht569521 ht569522 ht569523 ht569524 ht569525 ht569526 ht569527 ht569528 ht569529 ht569530 ht569531 ht569532 ht569533 ht569534 ht569535 ht569536 ht569537 ht569538 ht569539 ht569540 ht569541 ht569542 hB569546 => ?_)
      have ac569547 : (fI (F569491 q565188) 26).toInt = p569513.toInt := by rw [he569501]; rfl
      have bp569513 : gB p569513 0 100000 := (hB569545.2.2.2.2.2.1)
      have ac569548 : (fI (F569491 q565188) 9).toInt = p569504.toInt := by rw [he569501]; rfl
      have bp569504 : gB p569504 0 1 := (hB569545.1)
      have ac569549 : (fI (F569491 q565188) 10).toInt = p569505.toInt := by rw [he569501]; rfl
      have bp569505 : gB p569505 0 1 := (hB569545.2.1)
      have ac569550 : (fI (F569491 q565188) 32).toInt = p569516.toInt := by rw [he569501]; rfl
      have bp569516 : gB p569516 0 8192 := (hB569545.2.2.2.2.2.2.2.1)
      have ac569551 : (fI (F569491 q565188) 26).toInt = p569513.toInt := by rw [he569501]; rfl
      have ac569552 : (fI (F569491 q565188) 9).toInt = p569504.toInt := by rw [he569501]; rfl
      have ac569553 : (fI (F569491 q565188) 10).toInt = p569505.toInt := by rw [he569501]; rfl
      have ac569554 : (fI (F569491 q565188) 32).toInt = p569516.toInt := by rw [he569501]; rfl
      refine G_iload_n 0 dr_cX17_run_2 rfl ?_
      refine G_sipush 2000 dr_cX17_run_3 (by decide +kernel) ?_
      refine G_icmp_ge 29 dr_cX17_run_6 (by decide +kernel) (fun hc569555 => ?_) (fun hc569555 => ?_)
      · have r569556 : 2000 ≤ g569490.toInt := gj_leL hc569555 (show Int32.toInt 2000 = 2000 by decide)
        have bg569490' : gB g569490 2000 2000 := ⟨by omega, by omega⟩
        refine G_aload_n 1 dr_cX17_run_29 rfl ?_
        refine G_iconst 0 dr_cX17_run_30 (by decide +kernel) ?_
        refine Gp_put 24 hm569500 he569501 dr_cX17_run_31 (gk_X17 D I) (Nat.le_of_ble_eq_true rfl) wr_7_98 rfl rfl rfl (Nat.le_of_ble_eq_true rfl) (fun F569557 e569558 n569559 => ?_)
        have he569560 : F569557 q565188 = .inr (22, [.ref (γ 9 0), .ref (γ 9 1), .ref (γ 9 2), .ref (γ 9 3), .ref (γ 9 4), .ref (γ 9 5), .ref (γ 9 6), .ref (γ 9 7), .ref (γ 9 8), .int p569504, .int p569505, .int p569506, .int p569507, .int p569508, .int p569509, .ref (γ 9 15), .ref (γ 9 16), .ref (γ 9 17), .ref (γ 9 18), .ref (γ 9 19), .ref (γ 9 20), .ref (γ 9 21), .ref (γ 9 22), .int p569510, .int 0, .int p569512, .int p569513, .int p569514, .ref q569502, .ref (γ 9 29), .int p569515, .ref (γ 9 31), .int p569516, .int p569517, .int p569518, .ref q569503]) := e569558
        have hs569561 : rStr γ [] F565187 F569557 := rStr_put hs569493 n569559 htq565188 (by decide)
        refine G_aload_n 1 dr_cX17_run_34 rfl ?_
        refine G_iconst 0 dr_cX17_run_35 (by decide +kernel) ?_
        refine Gp_put 25 hm569500 he569560 dr_cX17_run_36 (gk_X17 D I) (Nat.le_of_ble_eq_true rfl) wr_7_99 rfl rfl rfl (Nat.le_of_ble_eq_true rfl) (fun F569562 e569563 n569564 => ?_)
        have he569565 : F569562 q565188 = .inr (22, [.ref (γ 9 0), .ref (γ 9 1), .ref (γ 9 2), .ref (γ 9 3), .ref (γ 9 4), .ref (γ 9 5), .ref (γ 9 6), .ref (γ 9 7), .ref (γ 9 8), .int p569504, .int p569505, .int p569506, .int p569507, .int p569508, .int p569509, .ref (γ 9 15), .ref (γ 9 16), .ref (γ 9 17), .ref (γ 9 18), .ref (γ 9 19), .ref (γ 9 20), .ref (γ 9 21), .ref (γ 9 22), .int p569510, .int 0, .int 0, .int p569513, .int p569514, .ref q569502, .ref (γ 9 29), .int p569515, .ref (γ 9 31), .int p569516, .int p569517, .int p569518, .ref q569503]) := e569563
        have hs569566 : rStr γ [] F565187 F569562 := rStr_put hs569561 n569564 htq565188 (by decide)
        have n569567 : ∀ b, b ≠ q565188 → F569562 b = F569491 b := fun b hb => (n569564 b hb).trans (n569559 b hb)
        refine G_aload_n 1 dr_cX17_run_39 rfl ?_
        refine G_iconst 0 dr_cX17_run_40 (by decide +kernel) ?_
        refine Gp_put 26 hm569500 he569565 dr_cX17_run_41 (gk_X17 D I) (Nat.le_of_ble_eq_true rfl) wr_7_100 rfl rfl rfl (Nat.le_of_ble_eq_true rfl) (fun F569568 e569569 n569570 => ?_)
        have he569571 : F569568 q565188 = .inr (22, [.ref (γ 9 0), .ref (γ 9 1), .ref (γ 9 2), .ref (γ 9 3), .ref (γ 9 4), .ref (γ 9 5), .ref (γ 9 6), .ref (γ 9 7), .ref (γ 9 8), .int p569504, .int p569505, .int p569506, .int p569507, .int p569508, .int p569509, .ref (γ 9 15), .ref (γ 9 16), .ref (γ 9 17), .ref (γ 9 18), .ref (γ 9 19), .ref (γ 9 20), .ref (γ 9 21), .ref (γ 9 22), .int p569510, .int 0, .int 0, .int 0, .int p569514, .ref q569502, .ref (γ 9 29), .int p569515, .ref (γ 9 31), .int p569516, .int p569517, .int p569518, .ref q569503]) := e569569
        have hs569572 : rStr γ [] F565187 F569568 := rStr_put hs569566 n569570 htq565188 (by decide)
        have n569573 : ∀ b, b ≠ q565188 → F569568 b = F569491 b := fun b hb => (n569570 b hb).trans (n569567 b hb)
        refine G_aload_n 1 dr_cX17_run_44 rfl ?_
        refine G_iconst 0 dr_cX17_run_45 (by decide +kernel) ?_
        refine Gp_put 27 hm569500 he569571 dr_cX17_run_46 (gk_X17 D I) (Nat.le_of_ble_eq_true rfl) wr_7_101 rfl rfl rfl (Nat.le_of_ble_eq_true rfl) (fun F569574 e569575 n569576 => ?_)
        have he569577 : F569574 q565188 = .inr (22, [.ref (γ 9 0), .ref (γ 9 1), .ref (γ 9 2), .ref (γ 9 3), .ref (γ 9 4), .ref (γ 9 5), .ref (γ 9 6), .ref (γ 9 7), .ref (γ 9 8), .int p569504, .int p569505, .int p569506, .int p569507, .int p569508, .int p569509, .ref (γ 9 15), .ref (γ 9 16), .ref (γ 9 17), .ref (γ 9 18), .ref (γ 9 19), .ref (γ 9 20), .ref (γ 9 21), .ref (γ 9 22), .int p569510, .int 0, .int 0, .int 0, .int 0, .ref q569502, .ref (γ 9 29), .int p569515, .ref (γ 9 31), .int p569516, .int p569517, .int p569518, .ref q569503]) := e569575
        have hs569578 : rStr γ [] F565187 F569574 := rStr_put hs569572 n569576 htq565188 (by decide)
        have n569579 : ∀ b, b ≠ q565188 → F569574 b = F569491 b := fun b hb => (n569576 b hb).trans (n569573 b hb)
        refine G_iconst 0 dr_cX17_run_49 (by decide +kernel) ?_
        refine G_istore_n (L' := [(3, .int 0), (0, .ref q565188), (1, .ref q565189), (2, .int p565190)]) dr_cX17_run_50 (Nat.le_of_ble_eq_true rfl) rfl ?_
        refine G_iconst 0 dr_cX17_run_51 (by decide +kernel) ?_
        refine G_istore (L' := [(4, .int 0), (3, .int 0), (0, .ref q565188), (1, .ref q565189), (2, .int p565190)]) dr_cX17_run_52 (Nat.le_of_ble_eq_true rfl) rfl ?_
        have hT569580 : RS D I P565186 F569574 γ el := RS_set hT569492 n569579 htq565188 (by decide) ⟨q569502, q569503, p569504, p569505, p569506, p569507, p569508, p569509, p569510, 0, 0, 0, 0, p569515, p569516, p569517, p569518, he569577, ⟨bp569504, bp569505, (hB569545.2.2.1), (hB569545.2.2.2.1), (gB_w (gBl (show Int32.toInt 0 = 0 by decide)) (by decide) (by decide)), (gB_w (gBl (show Int32.toInt 0 = 0 by decide)) (by decide) (by decide)), (gB_w (gBl (show Int32.toInt 0 = 0 by decide)) (by decide) (by decide)), bp569516, (hB569545.2.2.2.2.2.2.2.2)⟩, ht569519, ht569520, ht569521, ht569522, ht569523, ht569524, ht569525, ht569526, ht569527, ht569528, ht569529, ht569530, ht569531, ht569532, ht569533, ht569534, ht569535, ht569536, ht569537, ht569538, ht569539, ht569540, ht569541, ht569542, hB569546⟩
        have hlp54_569929 : ∀ (n54_569929 : Nat) (F569922 : Nat → va_E) (g569920 : Int32) (g569921 : Int32), gB g569920 0 39 → gB g569921 0 1000000 → RS D I P565186 F569922 γ el → rStr γ [] F565187 F569922 → g569920.toInt < γ 6 (γ 1 q565189) → (fI (F569922 q565188) 26).toInt ≤ p565190.toInt → (fI (F569922 q565188) 9).toInt = (fI (F565187 q565188) 9).toInt → (fI (F569922 q565188) 10).toInt = (fI (F565187 q565188) 10).toInt → (fI (F569922 q565188) 32).toInt = (fI (F565187 q565188) 32).toInt → (p565190.toInt - (fI (F569922 q565188) 26).toInt).toNat < n54_569929 → G (gV D I) l (gRm 4 85 0 0) (gMA (gV D I) (pt_565192_SpillForgeModel_run D I γ el P565186 F565187 q565188 q565189 p565190) gNA 0 0) ky_565192_SpillForgeModel_run 54 [(4, .int g569921), (3, .int g569920), (0, .ref q565188), (1, .ref q565189), (2, .int p565190)] [] (va_pl P565186 F569922) 0 0 := by
          intro n54_569929
          induction n54_569929 with
          | zero => intro F569922 g569920 g569921 bg569920 bg569921 hT569923 hs569924 x569925 x569926 x569927 x569928 x569929 hm54_569929; exact absurd hm54_569929 (Nat.not_lt_zero _)
          | succ n54_569929 ih54_569929 =>
            intro F569922 g569920 g569921 bg569920 bg569921 hT569923 hs569924 x569925 x569926 x569927 x569928 x569929 hm54_569929
            have hs569931 : rStr γ [] F569574 F569922 := fun b h0 hb hw => (hs569924 b h0 hb hw).trans (hs569578 b h0 hb hw).symm
            have hs569932 : rStr γ [] F565187 F569922 := rStr_tr hs569578 hs569931
            have hm569933 : q565188 ∈ P565186 := RS_m hT569923 htq565188 (by decide)
            refine rk10_e (show rk_10 γ (F569922 q565188) from RS_o hT569923 htq565188) (fun q569935 q569936 p569937 p569938 p569939 p569940 p569941 p569942 p569943 p569944 p569945 p569946 p569947 p569948 p569949 p569950 p569951 he569934 hB569978 ht569952 ht569953 ht569954 ht569955 ht569956 ht569957 ht569958 ht569959 ht569960 ht569961 ht569962 ht569963 ht569964 ht569965 ht569966 ht569967 ht569968 ht569969 ht569970 ht569971 ht569972 ht569973 ht569974 ht569975 hB569979 => ?_)
            have ac569980 : (fI (F569922 q565188) 26).toInt = p569946.toInt := by rw [he569934]; rfl
            have bp569946 : gB p569946 0 100000 := (hB569978.2.2.2.2.2.1)
            have ac569981 : (fI (F569922 q565188) 9).toInt = p569937.toInt := by rw [he569934]; rfl
            have bp569937 : gB p569937 0 1 := (hB569978.1)
            have ac569982 : (fI (F569922 q565188) 10).toInt = p569938.toInt := by rw [he569934]; rfl
            have bp569938 : gB p569938 0 1 := (hB569978.2.1)
            have ac569983 : (fI (F569922 q565188) 32).toInt = p569949.toInt := by rw [he569934]; rfl
            have bp569949 : gB p569949 0 8192 := (hB569978.2.2.2.2.2.2.2.1)
            have ac569984 : (fI (F569922 q565188) 26).toInt = p569946.toInt := by rw [he569934]; rfl
            have ac569985 : (fI (F569922 q565188) 9).toInt = p569937.toInt := by rw [he569934]; rfl
            have ac569986 : (fI (F569922 q565188) 10).toInt = p569938.toInt := by rw [he569934]; rfl
            have ac569987 : (fI (F569922 q565188) 32).toInt = p569949.toInt := by rw [he569934]; rfl
            refine G_aload_n 3 dr_cX17_run_54 rfl ?_
            refine G_iload_n 1 dr_cX17_run_55 rfl ?_
            have hm569988 : q565189 ∈ P565186 := RS_m hT569923 htq565189 (by decide)
            obtain ⟨q569990, q569991, p569992, p569993, he569989, ht570009, ht569994, ht569995, ht569996, ht569997, r569998, r569999, r570000, r570001, r570002, r570003, r570004, r570005, r570006, r570007, r570008⟩ := show rk_9 γ el q565189 (F569922 q565189) from RS_o hT569923 htq565189
            have bp569992 : gB p569992 0 1000000 := ⟨by omega, by omega⟩
            have bp569993 : gB p569993 0 1000000 := ⟨by omega, by omega⟩
            have hm570010 : q569990 ∈ P565186 := RS_m hT569923 ht569994 (by decide)
            obtain ⟨⟨p570012, p570013, q570014, he570011, r570015, r570016, r570017, r570019⟩, r570018⟩ := show rk_4 D I γ el F569922 q569990 from RS_o hT569923 ht569994
            have bp570012 := gB_any p570012
            have bp570013 : gB p570013 0 1000000 := ⟨by omega, by omega⟩
            obtain ⟨r570020, r570021, n570028, f570029, r570022, r570023, r570024, r570025, r570026, r570027⟩ := rLC_n r570017 (by omega)
            have hm570030 : q570014 ∈ P565186 := RS_m hT569923 r570020 (by decide)
            obtain ⟨q570031, hx570032⟩ : ∃ x, x = el q569990 g569920.toInt.toNat := ⟨_, rfl⟩
            have hx570033 : f570029 g569920.toNatClampNeg = some q570031 := (r570026 _ (show g569920.toInt.toNat < γ 2 q569990 by omega)).trans (by rw [hx570032])
            have ht570036 : rKd γ q570031 2 := by rw [hx570032]; exact (r570005 _ (by omega)).resolve_right (fun z => absurd z.1 (by omega))
            have ht570037 : rFm γ q570031 q569990 := by rw [hx570032]; exact (r570018 _ (show g569920.toInt.toNat < γ 2 q569990 by omega)).2.1
            have hm570038 : q570031 ∈ P565186 := RS_m hT569923 ht570036 (by decide)
            obtain ⟨q570040, q570041, p570042, p570043, he570039, ht570050, ht570044, ht570045, ht570046, ht570047, ht570048, bp570042, bp570043, r570049, r570051, r570052⟩ := show rk_2 γ q570031 (F569922 q570031) from RS_o hT569923 ht570036
            have fm570053 : γ 6 (γ 1 q570031) = γ 6 (γ 1 q565189) := by rw [show γ 1 q570031 = γ 1 q569990 from ht570037, show γ 1 q569990 = γ 1 q565189 from ht569995]
            refine Gw_callV (As := [.int g569920]) (gV_ok D I) (cp_7737_Code_get l hl0 D I P565186 F569922 q565189 q569990 q570014 g569920 q569991 p569992 p569993 p570012 p570013 f570029 n570028 q570031 q570040 q570041 p570042 p570043 hm569988 hm570010 hm570030 hm570038 he569989 he570011 r570022 he570039 (gB_w bg569920 (by decide) (by decide)) (gB_w bp570013 (by decide) (by decide)) (by omega) (by omega) (by assumption) (by omega)) dr_cX17_run_56 ⟨wr_10_161, wr_1_15, wr_10_141, by decide, rfl, (Nat.le_of_ble_eq_true rfl), (Nat.le_of_ble_eq_true rfl)⟩ wr_10_139 wr_10_140 hm569988 he569989 rfl (show 0 + 0 ≤ 0 by first | omega | decide) (show 0 + 0 ≤ 0 by first | omega | decide) (Nat.le_of_ble_eq_true rfl) (fun r570057 w570058 dc570054 ds570055 hp570056 => ?_) (fun _ _ _ _ _ z => z.elim)
            obtain ⟨rfl, rfl, hdc, hds⟩ := hp570056
            change G _ _ _ _ _ _ _ (.ref q570031 :: _) _ _ _
            refine G_widen (cs' := 0) (sl' := 0) (by omega) (by omega) ?_
            refine G_astore (L' := [(5, .ref q570031), (4, .int g569921), (3, .int g569920), (0, .ref q565188), (1, .ref q565189), (2, .int p565190)]) dr_cX17_run_59 (Nat.le_of_ble_eq_true rfl) rfl ?_
            refine G_aload_n 3 dr_cX17_run_61 rfl ?_
            refine Gp_get 26 hm569933 he569934 dr_cX17_run_62 (gk_X17 D I) (Nat.le_of_ble_eq_true rfl) wr_7_100 rfl ?_
            refine G_iload_n 5 dr_cX17_run_65 rfl ?_
            refine G_icmp_ne 71 dr_cX17_run_66 (by decide +kernel) (fun hc570059 => ?_) (fun hc570059 => ?_)
            · have r570060 : p569946.toInt ≠ p565190.toInt := gC_ne hc570059
              refine G_aload_n 3 dr_cX17_run_71 rfl ?_
              refine G_dup dr_cX17_run_72 rfl ?_
              refine Gp_get 26 hm569933 he569934 dr_cX17_run_73 (gk_X17 D I) (Nat.le_of_ble_eq_true rfl) wr_7_100 rfl ?_
              refine G_iconst 1 dr_cX17_run_76 (by decide +kernel) ?_
              refine G_iadd dr_cX17_run_77 (G_nam fun z570061 hz570061 => ?_)
              have ez570061 : z570061.toInt = p569946.toInt + 1 := by rw [gI_add hz570061 bp569946 (gBl (show Int32.toInt 1 = 1 by decide)) (by decide) (by decide), show Int32.toInt 1 = 1 from by decide]
              have bz570061 : gB z570061 1 100001 := gB_add (gI_add hz570061 bp569946 (gBl (show Int32.toInt 1 = 1 by decide)) (by decide) (by decide)) bp569946 (gBl (show Int32.toInt 1 = 1 by decide)) (by decide) (by decide)
              refine Gp_put 26 hm569933 he569934 dr_cX17_run_78 (gk_X17 D I) (Nat.le_of_ble_eq_true rfl) wr_7_100 rfl rfl rfl (Nat.le_of_ble_eq_true rfl) (fun F570062 e570063 n570064 => ?_)
              have he570065 : F570062 q565189 = .inr (18, [.ref q569990, .ref q569991, .int p569992, .int p569993]) := (n570064 q565189 (rn_oo he569989 he569934 (by decide))).trans he569989
              have he570066 : F570062 q569990 = .inr (4, [.int p570012, .ref q570014, .int p570013]) := (n570064 q569990 (rn_oo he570011 he569934 (by decide))).trans he570011
              have he570067 : F570062 q570014 = .inl (I (.object "java/lang/Object"), n570028, .inr (.inr (.inr (.inr f570029)))) := (n570064 q570014 (rn_ao r570022 he569934)).trans r570022
              have he570068 : F570062 q570031 = .inr (17, [.ref q570040, .ref q570041, .int p570042, .int p570043]) := (n570064 q570031 (rn_oo he570039 he569934 (by decide))).trans he570039
              have he570069 : F570062 q565188 = .inr (22, [.ref (γ 9 0), .ref (γ 9 1), .ref (γ 9 2), .ref (γ 9 3), .ref (γ 9 4), .ref (γ 9 5), .ref (γ 9 6), .ref (γ 9 7), .ref (γ 9 8), .int p569937, .int p569938, .int p569939, .int p569940, .int p569941, .int p569942, .ref (γ 9 15), .ref (γ 9 16), .ref (γ 9 17), .ref (γ 9 18), .ref (γ 9 19), .ref (γ 9 20), .ref (γ 9 21), .ref (γ 9 22), .int p569943, .int p569944, .int p569945, .int z570061, .int p569947, .ref q569935, .ref (γ 9 29), .int p569948, .ref (γ 9 31), .int p569949, .int p569950, .int p569951, .ref q569936]) := e570063
              have hs570070 : rStr γ [] F565187 F570062 := rStr_put hs569924 n570064 htq565188 (by decide)
              refine G_iload 1 dr_cX17_run_81 rfl ?_
              refine G_aload 0 dr_cX17_run_83 rfl ?_
              refine Gp_get 0 hm570038 he570068 dr_cX17_run_85 (gk_X12 D I) (Nat.le_of_ble_eq_true rfl) wr_9_220 rfl ?_
              have hT570071 : RS D I P565186 F570062 γ el := RS_set hT569923 n570064 htq565188 (by decide) ⟨q569935, q569936, p569937, p569938, p569939, p569940, p569941, p569942, p569943, p569944, p569945, z570061, p569947, p569948, p569949, p569950, p569951, he570069, ⟨bp569937, bp569938, (hB569978.2.2.1), (hB569978.2.2.2.1), (hB569978.2.2.2.2.1), ⟨by omega, by omega⟩, (hB569978.2.2.2.2.2.2.1), bp569949, (hB569978.2.2.2.2.2.2.2.2)⟩, ht569952, ht569953, ht569954, ht569955, ht569956, ht569957, ht569958, ht569959, ht569960, ht569961, ht569962, ht569963, ht569964, ht569965, ht569966, ht569967, ht569968, ht569969, ht569970, ht569971, ht569972, ht569973, ht569974, ht569975, hB569979⟩
              have hm570072 : q570040 ∈ P565186 := RS_m hT570071 ht570044 (by decide)
              obtain ⟨⟨p570074, p570075, q570076, he570073, r570077, r570078, r570079, r570081⟩, r570080⟩ := show rk_3 D I γ el F570062 q570040 from RS_o hT570071 ht570044
              have bp570074 := gB_any p570074
              have bp570075 : gB p570075 0 1000000 := ⟨by omega, by omega⟩
              refine Gw_callV (As := []) (gV_ok D I) (cp_7_ArrayList_size l hl0 D I P565186 F570062 q570040 p570074 q570076 p570075 hm570072 he570073 (gB_w bp570075 (by decide) (by decide))) dr_cX17_run_88 ⟨wr_10_200, wr_1_18, wr_9_160, by decide, rfl, (Nat.le_of_ble_eq_true rfl), (Nat.le_of_ble_eq_true rfl)⟩ wr_9_158 wr_9_159 hm570072 he570073 rfl (show 0 + 0 ≤ 0 by first | omega | decide) (show 0 + 0 ≤ 0 by first | omega | decide) (Nat.le_of_ble_eq_true rfl) (fun r570085 w570086 dc570082 ds570083 hp570084 => ?_) (fun _ _ _ _ _ z => z.elim)
              obtain ⟨rfl, rfl, hdc, hds⟩ := hp570084
              change G _ _ _ _ _ _ _ (.int p570075 :: _) _ _ _
              refine G_widen (cs' := 0) (sl' := 0) (by omega) (by omega) ?_
              refine G_icmp_ge 127 dr_cX17_run_91 (by decide +kernel) (fun hc570087 => ?_) (fun hc570087 => ?_)
              · have r570088 : p570075.toInt ≤ g569921.toInt := gC_le hc570087
                refine G_aload 0 dr_cX17_run_127 rfl ?_
                refine Gp_get 1 hm570038 he570068 dr_cX17_run_129 (gk_X12 D I) (Nat.le_of_ble_eq_true rfl) wr_9_223 rfl ?_
                refine G_astore (L' := [(6, .ref q570041), (5, .ref q570031), (4, .int g569921), (3, .int g569920), (0, .ref q565188), (1, .ref q565189), (2, .int p565190)]) dr_cX17_run_132 (Nat.le_of_ble_eq_true rfl) rfl ?_
                refine G_aload 0 dr_cX17_run_134 rfl ?_
                have hm570089 : q570041 ∈ P565186 := RS_m hT570071 ht570046 (by decide)
                obtain ⟨p570091, p570092, p570093, p570094, p570095, p570096, p570097, he570090, bp570091, bp570092, bp570095, bp570096, bp570097, r570098, r570099, r570100, r570101, r570102⟩ := show rk_1 γ q570041 (F570062 q570041) from RS_o hT570071 ht570046
                have bp570093 := gB_any p570093
                have bp570094 := gB_any p570094
                refine Gp_get 0 hm570089 he570090 dr_cX17_run_136 (gk_X15 D I) (Nat.le_of_ble_eq_true rfl) wr_9_177 rfl ?_
                refine G_bipush 32 dr_cX17_run_139 (by decide +kernel) ?_
                refine G_icmp_ne 164 dr_cX17_run_141 (by decide +kernel) (fun hc570103 => ?_) (fun hc570103 => ?_)
                · have r570104 : p570091.toInt ≠ 32 := gj_neq hc570103 (show Int32.toInt 32 = 32 by decide)
                  have bp570091' : gB p570091 0 31 := ⟨by omega, by omega⟩
                  refine G_aload 0 dr_cX17_run_164 rfl ?_
                  refine Gp_get 0 hm570089 he570090 dr_cX17_run_166 (gk_X15 D I) (Nat.le_of_ble_eq_true rfl) wr_9_177 rfl ?_
                  refine G_bipush 30 dr_cX17_run_169 (by decide +kernel) ?_
                  refine G_icmp_eq 191 dr_cX17_run_171 (by decide +kernel) (fun hc570105 => ?_) (fun hc570105 => ?_)
                  · have r570106 : p570091.toInt = 30 := gj_eq hc570105 (show Int32.toInt 30 = 30 by decide)
                    have bp570091'' : gB p570091 30 30 := ⟨by omega, by omega⟩
                    refine G_aload 1 dr_cX17_run_191 rfl ?_
                    refine Gp_get 2 hm570038 he570068 dr_cX17_run_193 (gk_X12 D I) (Nat.le_of_ble_eq_true rfl) wr_9_229 rfl ?_
                    refine G_goto 204 dr_cX17_run_196 (by decide +kernel) ?_
                    refine G_istore_n (L' := [(3, .int p570042), (6, .ref q570041), (5, .ref q570031), (4, .int g569921), (0, .ref q565188), (1, .ref q565189), (2, .int p565190)]) dr_cX17_run_204 (Nat.le_of_ble_eq_true rfl) rfl ?_
                    refine G_iconst 0 dr_cX17_run_205 (by decide +kernel) ?_
                    refine G_istore (L' := [(4, .int 0), (3, .int p570042), (6, .ref q570041), (5, .ref q570031), (0, .ref q565188), (1, .ref q565189), (2, .int p565190)]) dr_cX17_run_206 (Nat.le_of_ble_eq_true rfl) rfl ?_
                    refine G_goto 54 dr_cX17_run_208 (by decide +kernel) ?_
                    refine G_lv (L' := [(4, .int 0), (3, .int p570042), (0, .ref q565188), (1, .ref q565189), (2, .int p565190)]) [0, 1, 4, 5, 6] rfl ?_
                    have ac570107 : (fI (F570062 q565188) 26).toInt = z570061.toInt := by rw [he570069]; rfl
                    have ac570108 : (fI (F570062 q565188) 9).toInt = p569937.toInt := by rw [he570069]; rfl
                    have ac570109 : (fI (F570062 q565188) 10).toInt = p569938.toInt := by rw [he570069]; rfl
                    have ac570110 : (fI (F570062 q565188) 32).toInt = p569949.toInt := by rw [he570069]; rfl
                    exact ih54_569929 F570062 p570042 0 bp570042 (gB_w (gBl (show Int32.toInt 0 = 0 by decide)) (by decide) (by decide)) hT570071 hs570070 (by have qa0 : Int32.toInt 0 = 0 := (by decide); omega) (by omega) (by omega) (by omega) (by omega) (by have qa0 : Int32.toInt 0 = 0 := (by decide); omega)
                  · have r570111 : p570091.toInt ≠ 30 := gj_neq hc570105 (show Int32.toInt 30 = 30 by decide)
                    refine G_aload_n 4 dr_cX17_run_174 rfl ?_
                    refine G_aload 0 dr_cX17_run_175 rfl ?_
                    refine Gp_get 5 hm570089 he570090 dr_cX17_run_177 (gk_X15 D I) (Nat.le_of_ble_eq_true rfl) wr_9_197 rfl ?_
                    refine G_aload 0 dr_cX17_run_180 rfl ?_
                    refine Gp_get 2 hm570089 he570090 dr_cX17_run_182 (gk_X15 D I) (Nat.le_of_ble_eq_true rfl) wr_9_186 rfl ?_
                    refine Gw_callV (As := [.int p570096, .int p570093]) (gV_ok D I) (ct_7383_SpillForgeModel_value l hl0 D I γ el P565186 F570062 q565188 p570096 p570093 hT570071 htq565188 bp570096 (by omega)) dr_cX17_run_185 ⟨wr_11_100, wr_1_14, wr_11_103, by decide, rfl, (Nat.le_of_ble_eq_true rfl), (Nat.le_of_ble_eq_true rfl)⟩ wr_11_102 wr_p_115 hm569933 he570069 rfl (show 0 + 0 ≤ 0 by first | omega | decide) (show 0 + 0 ≤ 0 by first | omega | decide) (Nat.le_of_ble_eq_true rfl) (fun r570115 w570116 dc570112 ds570113 hp570114 => ?_) (fun _ _ _ _ _ z => z.elim)
                    obtain ⟨o570117, rfl, rfl, hdc, hds⟩ := hp570114
                    have bo570117 := gB_any o570117
                    change G _ _ _ _ _ _ _ (.int o570117 :: _) _ _ _
                    refine G_widen (cs' := 0) (sl' := 0) (by omega) (by omega) ?_
                    refine G_if_eq 199 dr_cX17_run_188 (by decide +kernel) (fun hc570118 => ?_) (fun hc570118 => ?_)
                    · have r570119 : o570117.toInt = 0 := gj_eq hc570118 (show Int32.toInt 0 = 0 by decide)
                      have bo570117' : gB o570117 0 0 := ⟨by omega, by omega⟩
                      refine G_aload 1 dr_cX17_run_199 rfl ?_
                      refine Gp_get 3 hm570038 he570068 dr_cX17_run_201 (gk_X12 D I) (Nat.le_of_ble_eq_true rfl) wr_9_233 rfl ?_
                      refine G_istore_n (L' := [(3, .int p570043), (6, .ref q570041), (5, .ref q570031), (4, .int g569921), (0, .ref q565188), (1, .ref q565189), (2, .int p565190)]) dr_cX17_run_204 (Nat.le_of_ble_eq_true rfl) rfl ?_
                      refine G_iconst 0 dr_cX17_run_205 (by decide +kernel) ?_
                      refine G_istore (L' := [(4, .int 0), (3, .int p570043), (6, .ref q570041), (5, .ref q570031), (0, .ref q565188), (1, .ref q565189), (2, .int p565190)]) dr_cX17_run_206 (Nat.le_of_ble_eq_true rfl) rfl ?_
                      refine G_goto 54 dr_cX17_run_208 (by decide +kernel) ?_
                      refine G_lv (L' := [(4, .int 0), (3, .int p570043), (0, .ref q565188), (1, .ref q565189), (2, .int p565190)]) [0, 1, 4, 5, 6] rfl ?_
                      have ac570120 : (fI (F570062 q565188) 26).toInt = z570061.toInt := by rw [he570069]; rfl
                      have ac570121 : (fI (F570062 q565188) 9).toInt = p569937.toInt := by rw [he570069]; rfl
                      have ac570122 : (fI (F570062 q565188) 10).toInt = p569938.toInt := by rw [he570069]; rfl
                      have ac570123 : (fI (F570062 q565188) 32).toInt = p569949.toInt := by rw [he570069]; rfl
                      exact ih54_569929 F570062 p570043 0 bp570043 (gB_w (gBl (show Int32.toInt 0 = 0 by decide)) (by decide) (by decide)) hT570071 hs570070 (by have qa0 : Int32.toInt 0 = 0 := (by decide); omega) (by omega) (by omega) (by omega) (by omega) (by have qa0 : Int32.toInt 0 = 0 := (by decide); omega)
                    · have r570124 : o570117.toInt ≠ 0 := gj_neq hc570118 (show Int32.toInt 0 = 0 by decide)
                      refine G_aload 1 dr_cX17_run_191 rfl ?_
                      refine Gp_get 2 hm570038 he570068 dr_cX17_run_193 (gk_X12 D I) (Nat.le_of_ble_eq_true rfl) wr_9_229 rfl ?_
                      refine G_goto 204 dr_cX17_run_196 (by decide +kernel) ?_
                      refine G_istore_n (L' := [(3, .int p570042), (6, .ref q570041), (5, .ref q570031), (4, .int g569921), (0, .ref q565188), (1, .ref q565189), (2, .int p565190)]) dr_cX17_run_204 (Nat.le_of_ble_eq_true rfl) rfl ?_
                      refine G_iconst 0 dr_cX17_run_205 (by decide +kernel) ?_
                      refine G_istore (L' := [(4, .int 0), (3, .int p570042), (6, .ref q570041), (5, .ref q570031), (0, .ref q565188), (1, .ref q565189), (2, .int p565190)]) dr_cX17_run_206 (Nat.le_of_ble_eq_true rfl) rfl ?_
                      refine G_goto 54 dr_cX17_run_208 (by decide +kernel) ?_
                      refine G_lv (L' := [(4, .int 0), (3, .int p570042), (0, .ref q565188), (1, .ref q565189), (2, .int p565190)]) [0, 1, 4, 5, 6] rfl ?_
                      have ac570125 : (fI (F570062 q565188) 26).toInt = z570061.toInt := by rw [he570069]; rfl
                      have ac570126 : (fI (F570062 q565188) 9).toInt = p569937.toInt := by rw [he570069]; rfl
                      have ac570127 : (fI (F570062 q565188) 10).toInt = p569938.toInt := by rw [he570069]; rfl
                      have ac570128 : (fI (F570062 q565188) 32).toInt = p569949.toInt := by rw [he570069]; rfl
                      exact ih54_569929 F570062 p570042 0 bp570042 (gB_w (gBl (show Int32.toInt 0 = 0 by decide)) (by decide) (by decide)) hT570071 hs570070 (by have qa0 : Int32.toInt 0 = 0 := (by decide); omega) (by omega) (by omega) (by omega) (by omega) (by have qa0 : Int32.toInt 0 = 0 := (by decide); omega)
                · have r570129 : p570091.toInt = 32 := gj_eq hc570103 (show Int32.toInt 32 = 32 by decide)
                  have bp570091' : gB p570091 32 32 := ⟨by omega, by omega⟩
                  refine G_aload_n 4 dr_cX17_run_144 rfl ?_
                  refine G_aload_n 4 dr_cX17_run_145 rfl ?_
                  refine G_aload 0 dr_cX17_run_146 rfl ?_
                  refine Gp_get 5 hm570089 he570090 dr_cX17_run_148 (gk_X15 D I) (Nat.le_of_ble_eq_true rfl) wr_9_197 rfl ?_
                  refine G_aload 0 dr_cX17_run_151 rfl ?_
                  refine Gp_get 2 hm570089 he570090 dr_cX17_run_153 (gk_X15 D I) (Nat.le_of_ble_eq_true rfl) wr_9_186 rfl ?_
                  refine Gw_callV (As := [.int p570096, .int p570093]) (gV_ok D I) (ct_7383_SpillForgeModel_value l hl0 D I γ el P565186 F570062 q565188 p570096 p570093 hT570071 htq565188 bp570096 (by omega)) dr_cX17_run_156 ⟨wr_11_100, wr_1_14, wr_11_103, by decide, rfl, (Nat.le_of_ble_eq_true rfl), (Nat.le_of_ble_eq_true rfl)⟩ wr_11_102 wr_p_115 hm569933 he570069 rfl (show 0 + 0 ≤ 0 by first | omega | decide) (show 0 + 0 ≤ 0 by first | omega | decide) (Nat.le_of_ble_eq_true rfl) (fun r570133 w570134 dc570130 ds570131 hp570132 => ?_) (fun _ _ _ _ _ z => z.elim)
                  obtain ⟨o570135, rfl, rfl, hdc, hds⟩ := hp570132
                  have bo570135 := gB_any o570135
                  change G _ _ _ _ _ _ _ (.int o570135 :: _) _ _ _
                  refine G_widen (cs' := 0) (sl' := 0) (by omega) (by omega) ?_
                  refine Gp_put 24 hm569933 he570069 dr_cX17_run_159 (gk_X17 D I) (Nat.le_of_ble_eq_true rfl) wr_7_98 rfl rfl rfl (Nat.le_of_ble_eq_true rfl) (fun F570136 e570137 n570138 => ?_)
                  have he570139 : F570136 q565189 = .inr (18, [.ref q569990, .ref q569991, .int p569992, .int p569993]) := (n570138 q565189 (rn_oo he570065 he570069 (by decide))).trans he570065
                  have he570140 : F570136 q569990 = .inr (4, [.int p570012, .ref q570014, .int p570013]) := (n570138 q569990 (rn_oo he570066 he570069 (by decide))).trans he570066
                  have he570141 : F570136 q570014 = .inl (I (.object "java/lang/Object"), n570028, .inr (.inr (.inr (.inr f570029)))) := (n570138 q570014 (rn_ao he570067 he570069)).trans he570067
                  have he570142 : F570136 q570031 = .inr (17, [.ref q570040, .ref q570041, .int p570042, .int p570043]) := (n570138 q570031 (rn_oo he570068 he570069 (by decide))).trans he570068
                  have he570143 : F570136 q570040 = .inr (4, [.int p570074, .ref q570076, .int p570075]) := (n570138 q570040 (rn_oo he570073 he570069 (by decide))).trans he570073
                  have he570144 : F570136 q570041 = .inr (20, [.int p570091, .int p570092, .int p570093, .int p570094, .int p570095, .int p570096, .int p570097]) := (n570138 q570041 (rn_oo he570090 he570069 (by decide))).trans he570090
                  have he570145 : F570136 q565188 = .inr (22, [.ref (γ 9 0), .ref (γ 9 1), .ref (γ 9 2), .ref (γ 9 3), .ref (γ 9 4), .ref (γ 9 5), .ref (γ 9 6), .ref (γ 9 7), .ref (γ 9 8), .int p569937, .int p569938, .int p569939, .int p569940, .int p569941, .int p569942, .ref (γ 9 15), .ref (γ 9 16), .ref (γ 9 17), .ref (γ 9 18), .ref (γ 9 19), .ref (γ 9 20), .ref (γ 9 21), .ref (γ 9 22), .int p569943, .int o570135, .int p569945, .int z570061, .int p569947, .ref q569935, .ref (γ 9 29), .int p569948, .ref (γ 9 31), .int p569949, .int p569950, .int p569951, .ref q569936]) := e570137
                  have hs570146 : rStr γ [] F565187 F570136 := rStr_put hs570070 n570138 htq565188 (by decide)
                  refine G_iconst 0 dr_cX17_run_162 (by decide +kernel) ?_
                  have hT570147 : RS D I P565186 F570136 γ el := RS_set hT570071 n570138 htq565188 (by decide) ⟨q569935, q569936, p569937, p569938, p569939, p569940, p569941, p569942, p569943, o570135, p569945, z570061, p569947, p569948, p569949, p569950, p569951, he570145, ⟨bp569937, bp569938, (hB569978.2.2.1), (hB569978.2.2.2.1), (hB569978.2.2.2.2.1), ⟨by omega, by omega⟩, (hB569978.2.2.2.2.2.2.1), bp569949, (hB569978.2.2.2.2.2.2.2.2)⟩, ht569952, ht569953, ht569954, ht569955, ht569956, ht569957, ht569958, ht569959, ht569960, ht569961, ht569962, ht569963, ht569964, ht569965, ht569966, ht569967, ht569968, ht569969, ht569970, ht569971, ht569972, ht569973, ht569974, ht569975, hB569979⟩
                  have ac570148 : (fI (F570136 q565188) 26).toInt = z570061.toInt := by rw [he570145]; rfl
                  have ac570149 : (fI (F570136 q565188) 9).toInt = p569937.toInt := by rw [he570145]; rfl
                  have ac570150 : (fI (F570136 q565188) 10).toInt = p569938.toInt := by rw [he570145]; rfl
                  have ac570151 : (fI (F570136 q565188) 32).toInt = p569949.toInt := by rw [he570145]; rfl
                  exact G_iretA dr_cX17_run_163 rfl (Nat.le_of_ble_eq_true rfl) (Nat.le_of_ble_eq_true rfl) ⟨F570136, 0, rfl, rfl, hT570147, hs570146, (Nat.le_of_ble_eq_true rfl), (Nat.le_of_ble_eq_true rfl), (gB_w (gBl (show Int32.toInt 0 = 0 by decide)) (by decide) (by decide)), (by have qa0 : Int32.toInt 0 = 0 := (by decide); omega), (by have qa0 : Int32.toInt 0 = 0 := (by decide); omega), (by have qa0 : Int32.toInt 0 = 0 := (by decide); omega)⟩
              · have r570152 : g569921.toInt < p570075.toInt := gC_nle hc570087
                have bg569921' : gB g569921 0 999999 := ⟨by omega, by omega⟩
                have bp570075' : gB p570075 1 1000000 := ⟨by omega, by omega⟩
                refine G_aload_n 3 dr_cX17_run_94 rfl ?_
                refine G_aload 0 dr_cX17_run_95 rfl ?_
                refine Gp_get 0 hm570038 he570068 dr_cX17_run_97 (gk_X12 D I) (Nat.le_of_ble_eq_true rfl) wr_9_220 rfl ?_
                refine G_iload 1 dr_cX17_run_100 rfl ?_
                obtain ⟨r570153, r570154, n570161, f570162, r570155, r570156, r570157, r570158, r570159, r570160⟩ := rLC_n r570079 (by omega)
                have hm570163 : q570076 ∈ P565186 := RS_m hT570071 r570153 (by decide)
                obtain ⟨q570164, hx570165⟩ : ∃ x, x = el q570040 g569921.toInt.toNat := ⟨_, rfl⟩
                have hx570166 : f570162 g569921.toNatClampNeg = some q570164 := (r570159 _ (show g569921.toInt.toNat < γ 2 q570040 by omega)).trans (by rw [hx570165])
                have ht570167 : rKd γ q570164 1 := by rw [hx570165]; exact (r570080 _ (show g569921.toInt.toNat < γ 2 q570040 by omega)).1
                have ht570168 : rFm γ q570164 q570040 := by rw [hx570165]; exact (r570080 _ (show g569921.toInt.toNat < γ 2 q570040 by omega)).2.1
                refine Gw_callV (As := [.int g569921]) (gV_ok D I) (cp_22_ArrayList_get l hl0 D I P565186 F570062 q570040 q570076 g569921 p570074 p570075 f570162 n570161 q570164 hm570072 hm570163 he570073 r570155 (gB_w bg569921' (by decide) (by decide)) (gB_w bp570075' (by decide) (by decide)) (by omega) (by omega) (by assumption) (by omega)) dr_cX17_run_102 ⟨wr_10_201, wr_1_18, wr_10_65, by decide, rfl, (Nat.le_of_ble_eq_true rfl), (Nat.le_of_ble_eq_true rfl)⟩ wr_10_63 wr_10_64 hm570072 he570073 rfl (show 0 + 0 ≤ 0 by first | omega | decide) (show 0 + 0 ≤ 0 by first | omega | decide) (Nat.le_of_ble_eq_true rfl) (fun r570172 w570173 dc570169 ds570170 hp570171 => ?_) (fun _ _ _ _ _ z => z.elim)
                obtain ⟨rfl, rfl, hdc, hds⟩ := hp570171
                change G _ _ _ _ _ _ _ (.ref q570164 :: _) _ _ _
                refine G_widen (cs' := 0) (sl' := 0) (by omega) (by omega) ?_
                have hm570174 : q570164 ∈ P565186 := RS_m hT570071 ht570167 (by decide)
                obtain ⟨p570176, p570177, p570178, p570179, p570180, p570181, p570182, he570175, bp570176, bp570177, bp570180, bp570181, bp570182, r570183, r570184, r570185, r570186, r570187⟩ := show rk_1 γ q570164 (F570062 q570164) from RS_o hT570071 ht570167
                have bp570178 := gB_any p570178
                have bp570179 := gB_any p570179
                refine Gp_cast hm570174 he570175 rfl dr_cX17_run_105 wr_10_202 (gr_cast 1 rfl) ?_
                have ac570188 : (fI (F570062 q565188) 26).toInt = z570061.toInt := by rw [he570069]; rfl
                have ac570189 : (fI (F570062 q565188) 9).toInt = p569937.toInt := by rw [he570069]; rfl
                have ac570190 : (fI (F570062 q565188) 10).toInt = p569938.toInt := by rw [he570069]; rfl
                have ac570191 : (fI (F570062 q565188) 32).toInt = p569949.toInt := by rw [he570069]; rfl
                refine Gw_callV (As := [.ref q570164]) (gV_ok D I) (ct_565968_SpillForgeModel_step l hl0 D I γ el P565186 F570062 q565188 q570164 hT570071 htq565188 ht570167) dr_cX17_run_108 ⟨wr_11_96, wr_1_14, wr_11_99, by decide, rfl, (Nat.le_of_ble_eq_true rfl), (Nat.le_of_ble_eq_true rfl)⟩ wr_11_98 wr_p_114 hm569933 he570069 rfl (show 0 + 0 ≤ 0 by first | omega | decide) (show 0 + 0 ≤ 0 by first | omega | decide) (Nat.le_of_ble_eq_true rfl) (fun r570195 w570196 dc570192 ds570193 hp570194 => ?_) (fun _ _ _ _ _ z => z.elim)
                obtain ⟨F570202, o570197, rfl, rfl, hT570203, hs570204, hdc, hds, bo570197, x570198, x570199, x570200, x570201⟩ := hp570194
                have he570205 : F570202 q565189 = .inr (18, [.ref q569990, .ref q569991, .int p569992, .int p569993]) := (hs570204 q565189 (rT0 htq565189 (by decide)) (rT1 htq565189 (by decide)) (rT2 htq565189 (by decide))).trans he570065
                have he570206 : F570202 q569990 = .inr (4, [.int p570012, .ref q570014, .int p570013]) := (hs570204 q569990 (rT0 ht569994 (by decide)) (rT1 ht569994 (by decide)) (rT2 ht569994 (by decide))).trans he570066
                have he570207 : F570202 q570014 = .inl (I (.object "java/lang/Object"), n570028, .inr (.inr (.inr (.inr f570029)))) := (hs570204 q570014 (rT0 r570020 (by decide)) (rT1 r570020 (by decide)) (rT2 r570020 (by decide))).trans he570067
                have he570208 : F570202 q570031 = .inr (17, [.ref q570040, .ref q570041, .int p570042, .int p570043]) := (hs570204 q570031 (rT0 ht570036 (by decide)) (rT1 ht570036 (by decide)) (rT2 ht570036 (by decide))).trans he570068
                have he570209 : F570202 q570040 = .inr (4, [.int p570074, .ref q570076, .int p570075]) := (hs570204 q570040 (rT0 ht570044 (by decide)) (rT1 ht570044 (by decide)) (rT2 ht570044 (by decide))).trans he570073
                have he570210 : F570202 q570076 = .inl (I (.object "java/lang/Object"), n570161, .inr (.inr (.inr (.inr f570162)))) := (hs570204 q570076 (rT0 r570153 (by decide)) (rT1 r570153 (by decide)) (rT2 r570153 (by decide))).trans r570155
                have he570211 : F570202 q570164 = .inr (20, [.int p570176, .int p570177, .int p570178, .int p570179, .int p570180, .int p570181, .int p570182]) := (hs570204 q570164 (rT0 ht570167 (by decide)) (rT1 ht570167 (by decide)) (rT2 ht570167 (by decide))).trans he570175
                have hs570212 : rStr γ [] F565187 F570202 := rStr_tr hs570070 hs570204
                change G _ _ _ _ _ _ _ (.int o570197 :: _) _ _ _
                refine G_widen (cs' := 0) (sl' := 0) (by omega) (by omega) ?_
                refine G_istore (L' := [(6, .int o570197), (5, .ref q570031), (4, .int g569921), (3, .int g569920), (0, .ref q565188), (1, .ref q565189), (2, .int p565190)]) dr_cX17_run_111 (Nat.le_of_ble_eq_true rfl) rfl ?_
                refine G_iload 0 dr_cX17_run_113 rfl ?_
                refine G_if_lt 121 dr_cX17_run_115 (by decide +kernel) (fun hc570213 => ?_) (fun hc570213 => ?_)
                · have r570214 : o570197.toInt < 0 := gj_lt hc570213 (show Int32.toInt 0 = 0 by decide)
                  have bo570197' : gB o570197 (-1) (-1) := ⟨by omega, by omega⟩
                  obtain ⟨z570215, hz570215⟩ : ∃ z : Int32, z = g569921 + Int32.ofInt 1 := ⟨_, rfl⟩
                  have ez570215 : z570215.toInt = g569921.toInt + 1 := gI_inc hz570215 (by decide) bg569921' (by decide) (by decide)
                  have bz570215 : gB z570215 1 1000000 := ⟨by omega, by omega⟩
                  refine G_iinc (L' := [(4, .int z570215), (6, .int o570197), (5, .ref q570031), (3, .int g569920), (0, .ref q565188), (1, .ref q565189), (2, .int p565190)]) z570215 2 dr_cX17_run_121 rfl hz570215.symm (Nat.le_of_ble_eq_true rfl) rfl ?_
                  refine G_goto 54 dr_cX17_run_124 (by decide +kernel) ?_
                  refine G_lv (L' := [(4, .int z570215), (3, .int g569920), (0, .ref q565188), (1, .ref q565189), (2, .int p565190)]) [0, 3, 4, 5, 6] rfl ?_
                  have hm570216 : q565188 ∈ P565186 := RS_m hT570203 htq565188 (by decide)
                  refine rk10_e (show rk_10 γ (F570202 q565188) from RS_o hT570203 htq565188) (fun q570218 q570219 p570220 p570221 p570222 p570223 p570224 p570225 p570226 p570227 p570228 p570229 p570230 p570231 p570232 p570233 p570234 he570217 hB570261 ht570235 ht570236 ht570237 ht570238 ht570239 ht570240 ht570241 ht570242 ht570243 ht570244 ht570245 ht570246 ht570247 ht570248 ht570249 ht570250 ht570251 ht570252 ht570253 ht570254 ht570255 ht570256 ht570257 ht570258 hB570262 => ?_)
                  have ac570263 : (fI (F570202 q565188) 26).toInt = p570229.toInt := by rw [he570217]; rfl
                  have bp570229 : gB p570229 0 100000 := (hB570261.2.2.2.2.2.1)
                  have ac570264 : (fI (F570202 q565188) 9).toInt = p570220.toInt := by rw [he570217]; rfl
                  have bp570220 : gB p570220 0 1 := (hB570261.1)
                  have ac570265 : (fI (F570202 q565188) 10).toInt = p570221.toInt := by rw [he570217]; rfl
                  have bp570221 : gB p570221 0 1 := (hB570261.2.1)
                  have ac570266 : (fI (F570202 q565188) 32).toInt = p570232.toInt := by rw [he570217]; rfl
                  have bp570232 : gB p570232 0 8192 := (hB570261.2.2.2.2.2.2.2.1)
                  have ac570267 : (fI (F570202 q565188) 26).toInt = p570229.toInt := by rw [he570217]; rfl
                  have ac570268 : (fI (F570202 q565188) 9).toInt = p570220.toInt := by rw [he570217]; rfl
                  have ac570269 : (fI (F570202 q565188) 10).toInt = p570221.toInt := by rw [he570217]; rfl
                  have ac570270 : (fI (F570202 q565188) 32).toInt = p570232.toInt := by rw [he570217]; rfl
                  exact ih54_569929 F570202 g569920 z570215 bg569920 (gB_w bz570215 (by decide) (by decide)) hT570203 hs570212 (by omega) (by omega) (by omega) (by omega) (by omega) (by omega)
                · have r570271 : 0 ≤ o570197.toInt := gj_nlt hc570213 (show Int32.toInt 0 = 0 by decide)
                  have bo570197' : gB o570197 0 5 := ⟨by omega, by omega⟩
                  refine G_iload 0 dr_cX17_run_118 rfl ?_
                  have hm570272 : q565188 ∈ P565186 := RS_m hT570203 htq565188 (by decide)
                  refine rk10_e (show rk_10 γ (F570202 q565188) from RS_o hT570203 htq565188) (fun q570274 q570275 p570276 p570277 p570278 p570279 p570280 p570281 p570282 p570283 p570284 p570285 p570286 p570287 p570288 p570289 p570290 he570273 hB570317 ht570291 ht570292 ht570293 ht570294 ht570295 ht570296 ht570297 ht570298 ht570299 ht570300 ht570301 ht570302 ht570303 ht570304 ht570305 ht570306 ht570307 ht570308 ht570309 ht570310 ht570311 ht570312 ht570313 ht570314 hB570318 => ?_)
                  have ac570319 : (fI (F570202 q565188) 26).toInt = p570285.toInt := by rw [he570273]; rfl
                  have bp570285 : gB p570285 0 100000 := (hB570317.2.2.2.2.2.1)
                  have ac570320 : (fI (F570202 q565188) 9).toInt = p570276.toInt := by rw [he570273]; rfl
                  have bp570276 : gB p570276 0 1 := (hB570317.1)
                  have ac570321 : (fI (F570202 q565188) 10).toInt = p570277.toInt := by rw [he570273]; rfl
                  have bp570277 : gB p570277 0 1 := (hB570317.2.1)
                  have ac570322 : (fI (F570202 q565188) 32).toInt = p570288.toInt := by rw [he570273]; rfl
                  have bp570288 : gB p570288 0 8192 := (hB570317.2.2.2.2.2.2.2.1)
                  have ac570323 : (fI (F570202 q565188) 26).toInt = p570285.toInt := by rw [he570273]; rfl
                  have ac570324 : (fI (F570202 q565188) 9).toInt = p570276.toInt := by rw [he570273]; rfl
                  have ac570325 : (fI (F570202 q565188) 10).toInt = p570277.toInt := by rw [he570273]; rfl
                  have ac570326 : (fI (F570202 q565188) 32).toInt = p570288.toInt := by rw [he570273]; rfl
                  exact G_iretA dr_cX17_run_120 rfl (Nat.le_of_ble_eq_true rfl) (Nat.le_of_ble_eq_true rfl) ⟨F570202, o570197, rfl, rfl, hT570203, hs570212, (Nat.le_of_ble_eq_true rfl), (Nat.le_of_ble_eq_true rfl), bo570197', (by omega), (by omega), (by omega)⟩
            · have r570327 : p569946.toInt = p565190.toInt := gC_eq hc570059
              have bp569946' : gB p569946 1 100000 := ⟨by omega, by omega⟩
              refine G_iconst 4 dr_cX17_run_69 (by decide +kernel) ?_
              have ac570328 : (fI (F569922 q565188) 26).toInt = p569946.toInt := by rw [he569934]; rfl
              have ac570329 : (fI (F569922 q565188) 9).toInt = p569937.toInt := by rw [he569934]; rfl
              have ac570330 : (fI (F569922 q565188) 10).toInt = p569938.toInt := by rw [he569934]; rfl
              have ac570331 : (fI (F569922 q565188) 32).toInt = p569949.toInt := by rw [he569934]; rfl
              exact G_iretA dr_cX17_run_70 rfl (Nat.le_of_ble_eq_true rfl) (Nat.le_of_ble_eq_true rfl) ⟨F569922, 4, rfl, rfl, hT569923, hs569924, (Nat.le_of_ble_eq_true rfl), (Nat.le_of_ble_eq_true rfl), (gB_w (gBl (show Int32.toInt 4 = 4 by decide)) (by decide) (by decide)), (by have qa0 : Int32.toInt 4 = 4 := (by decide); omega), (by have qa0 : Int32.toInt 4 = 4 := (by decide); omega), (by have qa0 : Int32.toInt 4 = 4 := (by decide); omega)⟩
        have ac570332 : (fI (F569574 q565188) 26).toInt = 0 := by rw [he569577]; show Int32.toInt 0 = 0; decide
        have ac570333 : (fI (F569574 q565188) 9).toInt = p569504.toInt := by rw [he569577]; rfl
        have ac570334 : (fI (F569574 q565188) 10).toInt = p569505.toInt := by rw [he569577]; rfl
        have ac570335 : (fI (F569574 q565188) 32).toInt = p569516.toInt := by rw [he569577]; rfl
        exact hlp54_569929 ((p565190.toInt - (fI (F569574 q565188) 26).toInt).toNat + 1) F569574 0 0 (gB_w (gBl (show Int32.toInt 0 = 0 by decide)) (by decide) (by decide)) (gB_w (gBl (show Int32.toInt 0 = 0 by decide)) (by decide) (by decide)) hT569580 hs569578 (by have qa0 : Int32.toInt 0 = 0 := (by decide); omega) (by omega) (by omega) (by omega) (by omega) (Nat.lt_succ_self _)
      · have r570336 : g569490.toInt < 2000 := gj_nleL hc569555 (show Int32.toInt 2000 = 2000 by decide)
        have bg569490' : gB g569490 0 1999 := ⟨by omega, by omega⟩
        refine G_aload_n 1 dr_cX17_run_9 rfl ?_
        refine Gp_get 20 hm569500 he569501 dr_cX17_run_10 (gk_X17 D I) (Nat.le_of_ble_eq_true rfl) wr_7_94 rfl ?_
        refine G_iload_n 0 dr_cX17_run_13 rfl ?_
        refine G_iconst 0 dr_cX17_run_14 (by decide +kernel) ?_
        have hm570337 : (γ 9 20) ∈ P565186 := RS_m hT569492 ht569535 (by decide)
        obtain ⟨f570339, he570338⟩ := show rk_22 I (F569491 (γ 9 20)) from RS_o hT569492 ht569535
        refine Gp_iast 0 hm570337 he570338 dr_cX17_run_15 rfl (gB_in bg569490' (by decide) (by decide)) (fun F570340 e570341 n570342 => ?_)
        obtain ⟨f570343, hf570343⟩ : ∃ z, z = upd f570339 g569490.toNatClampNeg 0 := ⟨_, rfl⟩
        rw [← hf570343] at e570341
        have he570344 : F570340 q565188 = .inr (22, [.ref (γ 9 0), .ref (γ 9 1), .ref (γ 9 2), .ref (γ 9 3), .ref (γ 9 4), .ref (γ 9 5), .ref (γ 9 6), .ref (γ 9 7), .ref (γ 9 8), .int p569504, .int p569505, .int p569506, .int p569507, .int p569508, .int p569509, .ref (γ 9 15), .ref (γ 9 16), .ref (γ 9 17), .ref (γ 9 18), .ref (γ 9 19), .ref (γ 9 20), .ref (γ 9 21), .ref (γ 9 22), .int p569510, .int p569511, .int p569512, .int p569513, .int p569514, .ref q569502, .ref (γ 9 29), .int p569515, .ref (γ 9 31), .int p569516, .int p569517, .int p569518, .ref q569503]) := (n570342 q565188 (rn_oa he569501 he570338)).trans he569501
        have he570345 : F570340 (γ 9 20) = .inl (I .int, 2000, .inl f570343) := e570341
        have hs570346 : rStr γ [] F565187 F570340 := rStr_put hs569493 n570342 ht569535 (by decide)
        refine G_aload_n 1 dr_cX17_run_16 rfl ?_
        refine Gp_get 21 hm569500 he570344 dr_cX17_run_17 (gk_X17 D I) (Nat.le_of_ble_eq_true rfl) wr_7_95 rfl ?_
        refine G_iload_n 0 dr_cX17_run_20 rfl ?_
        refine G_iconst 0 dr_cX17_run_21 (by decide +kernel) ?_
        have hT570347 : RS D I P565186 F570340 γ el := RS_set hT569492 n570342 ht569535 (by decide) ⟨f570343, he570345⟩
        have hm570348 : (γ 9 21) ∈ P565186 := RS_m hT570347 ht569536 (by decide)
        obtain ⟨f570350, he570349⟩ := show rk_23 I (F570340 (γ 9 21)) from RS_o hT570347 ht569536
        refine Gp_iast 0 hm570348 he570349 dr_cX17_run_22 rfl (gB_in bg569490' (by decide) (by decide)) (fun F570351 e570352 n570353 => ?_)
        obtain ⟨f570354, hf570354⟩ : ∃ z, z = upd f570350 g569490.toNatClampNeg 0 := ⟨_, rfl⟩
        rw [← hf570354] at e570352
        have he570355 : F570351 q565188 = .inr (22, [.ref (γ 9 0), .ref (γ 9 1), .ref (γ 9 2), .ref (γ 9 3), .ref (γ 9 4), .ref (γ 9 5), .ref (γ 9 6), .ref (γ 9 7), .ref (γ 9 8), .int p569504, .int p569505, .int p569506, .int p569507, .int p569508, .int p569509, .ref (γ 9 15), .ref (γ 9 16), .ref (γ 9 17), .ref (γ 9 18), .ref (γ 9 19), .ref (γ 9 20), .ref (γ 9 21), .ref (γ 9 22), .int p569510, .int p569511, .int p569512, .int p569513, .int p569514, .ref q569502, .ref (γ 9 29), .int p569515, .ref (γ 9 31), .int p569516, .int p569517, .int p569518, .ref q569503]) := (n570353 q565188 (rn_oa he570344 he570349)).trans he570344
        have he570356 : F570351 (γ 9 20) = .inl (I .int, 2000, .inl f570343) := (n570353 (γ 9 20) (rn_ty ht569535 ht569536 (by decide))).trans he570345
        have he570357 : F570351 (γ 9 21) = .inl (I .int, 2000, .inl f570354) := e570352
        have hs570358 : rStr γ [] F565187 F570351 := rStr_put hs570346 n570353 ht569536 (by decide)
        obtain ⟨z570359, hz570359⟩ : ∃ z : Int32, z = g569490 + Int32.ofInt 1 := ⟨_, rfl⟩
        have ez570359 : z570359.toInt = g569490.toInt + 1 := gI_inc hz570359 (by decide) bg569490' (by decide) (by decide)
        have bz570359 : gB z570359 1 2000 := ⟨by omega, by omega⟩
        refine G_iinc (L' := [(3, .int z570359), (0, .ref q565188), (1, .ref q565189), (2, .int p565190)]) z570359 0 dr_cX17_run_23 rfl hz570359.symm (Nat.le_of_ble_eq_true rfl) rfl ?_
        refine G_goto 2 dr_cX17_run_26 (by decide +kernel) ?_
        have hT570360 : RS D I P565186 F570351 γ el := RS_set hT570347 n570353 ht569536 (by decide) ⟨f570354, he570357⟩
        have ac570361 : (fI (F570351 q565188) 26).toInt = p569513.toInt := by rw [he570355]; rfl
        have ac570362 : (fI (F570351 q565188) 9).toInt = p569504.toInt := by rw [he570355]; rfl
        have ac570363 : (fI (F570351 q565188) 10).toInt = p569505.toInt := by rw [he570355]; rfl
        have ac570364 : (fI (F570351 q565188) 32).toInt = p569516.toInt := by rw [he570355]; rfl
        exact ih2_569496 F570351 z570359 (gB_w bz570359 (by decide) (by decide)) hT570360 hs570358 (by omega) (by omega) (by omega) (mz_up ez570359 (Int.le_trans bg569490'.2 (by decide)) hm2_569496)
  have ac570365 : (fI (F565187 q565188) 26).toInt = p565206.toInt := by rw [he565194]; rfl
  have ac570366 : (fI (F565187 q565188) 9).toInt = p565197.toInt := by rw [he565194]; rfl
  have ac570367 : (fI (F565187 q565188) 10).toInt = p565198.toInt := by rw [he565194]; rfl
  have ac570368 : (fI (F565187 q565188) 32).toInt = p565209.toInt := by rw [he565194]; rfl
  exact hlp2_569496 (((2001 : Int) - 0).toNat + 1) F565187 0 (gB_w (gBl (show Int32.toInt 0 = 0 by decide)) (by decide) (by decide)) hT (rStr_rf (γ := γ) (W := []) (F := F565187)) (by omega) (by omega) (by omega) (Nat.lt_succ_self _)
abbrev ky_570378_SpillForgeModel_run : gKey := (cX17_run_, 3, "SpillForgeModel", (some FieldType.int), [], "run", fun _ _ => True)
def pt_570378_SpillForgeModel_run (D : va_G) (I : FieldType → ClassId) (γ el : Nat → Nat → Nat) (P570371 : List Nat) (F570372 : Nat → va_E) (q570373 : Nat) (p570374 : Int32) (p570375 : Int32) : Option Value → va_W → Nat → Nat → Prop := fun r w dc ds => ∃ (F570886 : Nat → va_E) (o570885 : Int32), r = some (.int o570885) ∧ w = va_pl P570371 F570886 ∧ RS D I P570371 F570886 γ el ∧ rStr γ [] F570372 F570886 ∧ dc ≤ 0 ∧ ds ≤ 0 ∧ gB o570885 0 5 ∧ (fI (F570886 q570373) 9).toInt = (fI (F570372 q570373) 9).toInt ∧ (fI (F570886 q570373) 10).toInt = (fI (F570372 q570373) 10).toInt ∧ (fI (F570886 q570373) 32).toInt = (fI (F570372 q570373) 32).toInt
set_option maxRecDepth 100000 in
set_option maxHeartbeats 4000000 in
theorem ct_570378_SpillForgeModel_run (l : Launch) (hl0 : l.stackTraces = false) (D : va_G) (I : FieldType → ClassId) (γ el : Nat → Nat → Nat) (P570371 : List Nat) (F570372 : Nat → va_E) (q570373 : Nat) (p570374 : Int32) (p570375 : Int32) (hT : RS D I P570371 F570372 γ el) (htq570373 : rKd γ q570373 10) (bp570374 : gB p570374 0 1) (x570376 : ((fI (F570372 q570373) 9).toInt = 0 ∨ 0 < γ 6 0)) (x570377 : ((fI (F570372 q570373) 10).toInt = 0 ∨ 0 < γ 6 1)) : CtA (gV D I) l yX17_run_ cX17_run_ 3 (some FieldType.int) 5 111 0 0 [.ref q570373, .int p570374, .int p570375] (va_pl P570371 F570372) (pt_570378_SpillForgeModel_run D I γ el P570371 F570372 q570373 p570374 p570375) gNA := by
  refine CtA_of hl0 (by decide) (Nat.le_of_ble_eq_true rfl) ?_
  have bp570375 := gB_any p570375
  have hm570379 : q570373 ∈ P570371 := RS_m hT htq570373 (by decide)
  refine rk10_e (show rk_10 γ (F570372 q570373) from RS_o hT htq570373) (fun q570381 q570382 p570383 p570384 p570385 p570386 p570387 p570388 p570389 p570390 p570391 p570392 p570393 p570394 p570395 p570396 p570397 he570380 hB570424 ht570398 ht570399 ht570400 ht570401 ht570402 ht570403 ht570404 ht570405 ht570406 ht570407 ht570408 ht570409 ht570410 ht570411 ht570412 ht570413 ht570414 ht570415 ht570416 ht570417 ht570418 ht570419 ht570420 ht570421 hB570425 => ?_)
  have ac570426 : (fI (F570372 q570373) 9).toInt = p570383.toInt := by rw [he570380]; rfl
  have bp570383 : gB p570383 0 1 := (hB570424.1)
  have ac570427 : (fI (F570372 q570373) 10).toInt = p570384.toInt := by rw [he570380]; rfl
  have bp570384 : gB p570384 0 1 := (hB570424.2.1)
  have ac570428 : (fI (F570372 q570373) 32).toInt = p570395.toInt := by rw [he570380]; rfl
  have bp570395 : gB p570395 0 8192 := (hB570424.2.2.2.2.2.2.2.1)
  have fq570429 : γ 6 (γ 1 (γ 9 6)) = γ 6 0 := by rw [show γ 1 (γ 9 6) = 0 from ht570419]
  have fq570430 : γ 6 (γ 1 (γ 9 7)) = γ 6 1 := by rw [show γ 1 (γ 9 7) = 1 from ht570420]
  have fq570431 : γ 6 (γ 1 (γ 9 8)) = γ 6 2 := by rw [show γ 1 (γ 9 8) = 2 from ht570421]
  have r570432 : p570397.toInt ≤ γ 12 q570382 := by have z := hB570425; unfold rM2 at z; exact z.2.2
  refine G_aload_n 0 dr_cX17_run__0 rfl ?_
  refine G_iconst 0 dr_cX17_run__1 (by decide +kernel) ?_
  refine Gp_put 30 hm570379 he570380 dr_cX17_run__2 (gk_X17 D I) (Nat.le_of_ble_eq_true rfl) wr_7_104 rfl rfl rfl (Nat.le_of_ble_eq_true rfl) (fun F570433 e570434 n570435 => ?_)
  have he570436 : F570433 q570373 = .inr (22, [.ref (γ 9 0), .ref (γ 9 1), .ref (γ 9 2), .ref (γ 9 3), .ref (γ 9 4), .ref (γ 9 5), .ref (γ 9 6), .ref (γ 9 7), .ref (γ 9 8), .int p570383, .int p570384, .int p570385, .int p570386, .int p570387, .int p570388, .ref (γ 9 15), .ref (γ 9 16), .ref (γ 9 17), .ref (γ 9 18), .ref (γ 9 19), .ref (γ 9 20), .ref (γ 9 21), .ref (γ 9 22), .int p570389, .int p570390, .int p570391, .int p570392, .int p570393, .ref q570381, .ref (γ 9 29), .int 0, .ref (γ 9 31), .int p570395, .int p570396, .int p570397, .ref q570382]) := e570434
  have hs570437 : rStr γ [] F570372 F570433 := rStr_put (rStr_rf (γ := γ) (W := []) (F := F570372)) n570435 htq570373 (by decide)
  refine G_iload_n 2 dr_cX17_run__5 rfl ?_
  refine G_iconst 1 dr_cX17_run__6 (by decide +kernel) ?_
  refine G_icmp_lt 17 dr_cX17_run__7 (by decide +kernel) (fun hc570438 => ?_) (fun hc570438 => ?_)
  · have r570439 : p570375.toInt < 1 := gj_lt hc570438 (show Int32.toInt 1 = 1 by decide)
    have bp570375' : gB p570375 (-2147483648) 0 := ⟨by omega, by omega⟩
    refine G_aload_n 0 dr_cX17_run__17 rfl ?_
    refine G_iconst 1 dr_cX17_run__18 (by decide +kernel) ?_
    have hT570440 : RS D I P570371 F570433 γ el := RS_set hT n570435 htq570373 (by decide) ⟨q570381, q570382, p570383, p570384, p570385, p570386, p570387, p570388, p570389, p570390, p570391, p570392, p570393, 0, p570395, p570396, p570397, he570436, ⟨bp570383, bp570384, (hB570424.2.2.1), (hB570424.2.2.2.1), (hB570424.2.2.2.2.1), (hB570424.2.2.2.2.2.1), (hB570424.2.2.2.2.2.2.1), bp570395, (hB570424.2.2.2.2.2.2.2.2)⟩, ht570398, ht570399, ht570400, ht570401, ht570402, ht570403, ht570404, ht570405, ht570406, ht570407, ht570408, ht570409, ht570410, ht570411, ht570412, ht570413, ht570414, ht570415, ht570416, ht570417, ht570418, ht570419, ht570420, ht570421, hB570425⟩
    have ac570441 : (fI (F570433 q570373) 9).toInt = p570383.toInt := by rw [he570436]; rfl
    have ac570442 : (fI (F570433 q570373) 10).toInt = p570384.toInt := by rw [he570436]; rfl
    have ac570443 : (fI (F570433 q570373) 32).toInt = p570395.toInt := by rw [he570436]; rfl
    refine Gw_callV (As := [.int 1]) (gV_ok D I) (ct_563559_SpillForgeModel_no l hl0 D I γ el P570371 F570433 q570373 1 hT570440 htq570373) dr_cX17_run__19 ⟨wr_7_191, wr_1_14, wr_7_194, by decide, rfl, (Nat.le_of_ble_eq_true rfl), (Nat.le_of_ble_eq_true rfl)⟩ wr_7_193 wr_p_73 hm570379 he570436 rfl (show 0 + 0 ≤ 0 by first | omega | decide) (show 0 + 0 ≤ 0 by first | omega | decide) (Nat.le_of_ble_eq_true rfl) (fun r570447 w570448 dc570444 ds570445 hp570446 => ?_) (fun _ _ _ _ _ z => z.elim)
    obtain ⟨F570453, rfl, rfl, hT570454, hs570455, hdc, hds, x570449, x570450, x570451, x570452⟩ := hp570446
    have hs570456 : rStr γ [] F570372 F570453 := rStr_tr hs570437 hs570455
    rw [show Int32.toInt 1 = 1 from by decide] at x570452
    change G _ _ _ _ _ _ _ (.int 0 :: _) _ _ _
    refine G_widen (cs' := 0) (sl' := 0) (by omega) (by omega) ?_
    have hm570457 : q570373 ∈ P570371 := RS_m hT570454 htq570373 (by decide)
    refine rk10_e (show rk_10 γ (F570453 q570373) from RS_o hT570454 htq570373) (fun q570459 q570460 p570461 p570462 p570463 p570464 p570465 p570466 p570467 p570468 p570469 p570470 p570471 p570472 p570473 p570474 p570475 he570458 hB570502 ht570476 ht570477 ht570478 ht570479 ht570480 ht570481 ht570482 ht570483 ht570484 ht570485 ht570486 ht570487 ht570488 ht570489 ht570490 ht570491 ht570492 ht570493 ht570494 ht570495 ht570496 ht570497 ht570498 ht570499 hB570503 => ?_)
    have ac570504 : (fI (F570453 q570373) 9).toInt = p570461.toInt := by rw [he570458]; rfl
    have bp570461 : gB p570461 0 1 := (hB570502.1)
    have ac570505 : (fI (F570453 q570373) 10).toInt = p570462.toInt := by rw [he570458]; rfl
    have bp570462 : gB p570462 0 1 := (hB570502.2.1)
    have ac570506 : (fI (F570453 q570373) 32).toInt = p570473.toInt := by rw [he570458]; rfl
    have bp570473 : gB p570473 0 8192 := (hB570502.2.2.2.2.2.2.2.1)
    have ac570507 : (fI (F570453 q570373) 9).toInt = p570461.toInt := by rw [he570458]; rfl
    have ac570508 : (fI (F570453 q570373) 10).toInt = p570462.toInt := by rw [he570458]; rfl
    have ac570509 : (fI (F570453 q570373) 32).toInt = p570473.toInt := by rw [he570458]; rfl
    exact G_iretA dr_cX17_run__22 rfl (Nat.le_of_ble_eq_true rfl) (Nat.le_of_ble_eq_true rfl) ⟨F570453, 0, rfl, rfl, hT570454, hs570456, (Nat.le_of_ble_eq_true rfl), (Nat.le_of_ble_eq_true rfl), (gB_w (gBl (show Int32.toInt 0 = 0 by decide)) (by decide) (by decide)), (by have qa0 : Int32.toInt 0 = 0 := (by decide); omega), (by have qa0 : Int32.toInt 0 = 0 := (by decide); omega), (by have qa0 : Int32.toInt 0 = 0 := (by decide); omega)⟩
  · have r570510 : 1 ≤ p570375.toInt := gj_nlt hc570438 (show Int32.toInt 1 = 1 by decide)
    have bp570375' : gB p570375 1 2147483647 := ⟨by omega, by omega⟩
    refine G_iload_n 2 dr_cX17_run__10 rfl ?_
    refine G_ldcw 100000 dr_cX17_run__11 wr_11_91 ?_
    refine G_icmp_le 23 dr_cX17_run__14 (by decide +kernel) (fun hc570511 => ?_) (fun hc570511 => ?_)
    · have r570512 : p570375.toInt ≤ 100000 := gj_le hc570511 (show Int32.toInt 100000 = 100000 by decide)
      have bp570375'' : gB p570375 1 100000 := ⟨by omega, by omega⟩
      refine G_iload_n 1 dr_cX17_run__23 rfl ?_
      refine G_if_eq 37 dr_cX17_run__24 (by decide +kernel) (fun hc570513 => ?_) (fun hc570513 => ?_)
      · have r570514 : p570374.toInt = 0 := gj_eq hc570513 (show Int32.toInt 0 = 0 by decide)
        have bp570374' : gB p570374 0 0 := gB_t0 r570514
        refine G_aload_n 0 dr_cX17_run__37 rfl ?_
        refine Gp_get 9 hm570379 he570436 dr_cX17_run__38 (gk_X17 D I) (Nat.le_of_ble_eq_true rfl) wr_7_83 rfl ?_
        refine G_if_ne 50 dr_cX17_run__41 (by decide +kernel) (fun hc570515 => ?_) (fun hc570515 => ?_)
        · have r570516 : p570383.toInt ≠ 0 := gj_neq hc570515 (show Int32.toInt 0 = 0 by decide)
          have bp570383' : gB p570383 1 1 := gB_t1 bp570383 r570516
          refine G_aload_n 0 dr_cX17_run__50 rfl ?_
          refine G_aload_n 0 dr_cX17_run__51 rfl ?_
          refine G_iload_n 1 dr_cX17_run__52 rfl ?_
          refine G_if_eq 63 dr_cX17_run__53 (by decide +kernel) (fun _ => ?_) (fun hc => absurd (show False by have := gj_neq hc (show Int32.toInt 0 = 0 by decide); omega) not_false)
          refine G_aload_n 0 dr_cX17_run__63 rfl ?_
          refine Gp_get 6 hm570379 he570436 dr_cX17_run__64 (gk_X17 D I) (Nat.le_of_ble_eq_true rfl) wr_7_80 rfl ?_
          refine G_iload_n 2 dr_cX17_run__67 rfl ?_
          have hT570517 : RS D I P570371 F570433 γ el := RS_set hT n570435 htq570373 (by decide) ⟨q570381, q570382, p570383, p570384, p570385, p570386, p570387, p570388, p570389, p570390, p570391, p570392, p570393, 0, p570395, p570396, p570397, he570436, ⟨(gB_w bp570383' (by decide) (by decide)), bp570384, (hB570424.2.2.1), (hB570424.2.2.2.1), (hB570424.2.2.2.2.1), (hB570424.2.2.2.2.2.1), (hB570424.2.2.2.2.2.2.1), bp570395, (hB570424.2.2.2.2.2.2.2.2)⟩, ht570398, ht570399, ht570400, ht570401, ht570402, ht570403, ht570404, ht570405, ht570406, ht570407, ht570408, ht570409, ht570410, ht570411, ht570412, ht570413, ht570414, ht570415, ht570416, ht570417, ht570418, ht570419, ht570420, ht570421, hB570425⟩
          have ac570518 : (fI (F570433 q570373) 9).toInt = p570383.toInt := by rw [he570436]; rfl
          have ac570519 : (fI (F570433 q570373) 10).toInt = p570384.toInt := by rw [he570436]; rfl
          have ac570520 : (fI (F570433 q570373) 32).toInt = p570395.toInt := by rw [he570436]; rfl
          refine Gw_callV (As := [.ref (γ 9 6), .int p570375]) (gV_ok D I) (ct_565192_SpillForgeModel_run l hl0 D I γ el P570371 F570433 q570373 (γ 9 6) p570375 hT570517 htq570373 ht570406 bp570375'' (by have qa0 : Int32.toInt 0 = 0 := (by decide); omega)) dr_cX17_run__68 ⟨wr_11_92, wr_1_14, wr_11_95, by decide, rfl, (Nat.le_of_ble_eq_true rfl), (Nat.le_of_ble_eq_true rfl)⟩ wr_11_94 wr_p_113 hm570379 he570436 rfl (show 0 + 0 ≤ 0 by first | omega | decide) (show 0 + 0 ≤ 0 by first | omega | decide) (Nat.le_of_ble_eq_true rfl) (fun r570524 w570525 dc570521 ds570522 hp570523 => ?_) (fun _ _ _ _ _ z => z.elim)
          obtain ⟨F570530, o570526, rfl, rfl, hT570531, hs570532, hdc, hds, bo570526, x570527, x570528, x570529⟩ := hp570523
          have hs570533 : rStr γ [] F570372 F570530 := rStr_tr hs570437 hs570532
          change G _ _ _ _ _ _ _ (.int o570526 :: _) _ _ _
          refine G_widen (cs' := 0) (sl' := 0) (by omega) (by omega) ?_
          have hm570534 : q570373 ∈ P570371 := RS_m hT570531 htq570373 (by decide)
          refine rk10_e (show rk_10 γ (F570530 q570373) from RS_o hT570531 htq570373) (fun q570536 q570537 p570538 p570539 p570540 p570541 p570542 p570543 p570544 p570545 p570546 p570547 p570548 p570549 p570550 p570551 p570552 he570535 hB570579 ht570553 ht570554 ht570555 ht570556 ht570557 ht570558 ht570559 ht570560 ht570561 ht570562 ht570563 ht570564 ht570565 ht570566 ht570567 ht570568 ht570569 ht570570 ht570571 ht570572 ht570573 ht570574 ht570575 ht570576 hB570580 => ?_)
          have ac570581 : (fI (F570530 q570373) 9).toInt = p570538.toInt := by rw [he570535]; rfl
          have bp570538 : gB p570538 0 1 := (hB570579.1)
          have ac570582 : (fI (F570530 q570373) 10).toInt = p570539.toInt := by rw [he570535]; rfl
          have bp570539 : gB p570539 0 1 := (hB570579.2.1)
          have ac570583 : (fI (F570530 q570373) 32).toInt = p570550.toInt := by rw [he570535]; rfl
          have bp570550 : gB p570550 0 8192 := (hB570579.2.2.2.2.2.2.2.1)
          refine Gp_put 23 hm570534 he570535 dr_cX17_run__71 (gk_X17 D I) (Nat.le_of_ble_eq_true rfl) wr_7_97 rfl rfl rfl (Nat.le_of_ble_eq_true rfl) (fun F570584 e570585 n570586 => ?_)
          have he570587 : F570584 q570373 = .inr (22, [.ref (γ 9 0), .ref (γ 9 1), .ref (γ 9 2), .ref (γ 9 3), .ref (γ 9 4), .ref (γ 9 5), .ref (γ 9 6), .ref (γ 9 7), .ref (γ 9 8), .int p570538, .int p570539, .int p570540, .int p570541, .int p570542, .int p570543, .ref (γ 9 15), .ref (γ 9 16), .ref (γ 9 17), .ref (γ 9 18), .ref (γ 9 19), .ref (γ 9 20), .ref (γ 9 21), .ref (γ 9 22), .int o570526, .int p570545, .int p570546, .int p570547, .int p570548, .ref q570536, .ref (γ 9 29), .int p570549, .ref (γ 9 31), .int p570550, .int p570551, .int p570552, .ref q570537]) := e570585
          have hs570588 : rStr γ [] F570372 F570584 := rStr_put hs570533 n570586 htq570373 (by decide)
          refine G_aload_n 0 dr_cX17_run__74 rfl ?_
          refine Gp_get 23 hm570534 he570587 dr_cX17_run__75 (gk_X17 D I) (Nat.le_of_ble_eq_true rfl) wr_7_97 rfl ?_
          have hT570589 : RS D I P570371 F570584 γ el := RS_set hT570531 n570586 htq570373 (by decide) ⟨q570536, q570537, p570538, p570539, p570540, p570541, p570542, p570543, o570526, p570545, p570546, p570547, p570548, p570549, p570550, p570551, p570552, he570587, ⟨bp570538, bp570539, (hB570579.2.2.1), (hB570579.2.2.2.1), (hB570579.2.2.2.2.1), (hB570579.2.2.2.2.2.1), (hB570579.2.2.2.2.2.2.1), bp570550, (hB570579.2.2.2.2.2.2.2.2)⟩, ht570553, ht570554, ht570555, ht570556, ht570557, ht570558, ht570559, ht570560, ht570561, ht570562, ht570563, ht570564, ht570565, ht570566, ht570567, ht570568, ht570569, ht570570, ht570571, ht570572, ht570573, ht570574, ht570575, ht570576, hB570580⟩
          have ac570590 : (fI (F570584 q570373) 9).toInt = p570538.toInt := by rw [he570587]; rfl
          have ac570591 : (fI (F570584 q570373) 10).toInt = p570539.toInt := by rw [he570587]; rfl
          have ac570592 : (fI (F570584 q570373) 32).toInt = p570550.toInt := by rw [he570587]; rfl
          exact G_iretA dr_cX17_run__78 rfl (Nat.le_of_ble_eq_true rfl) (Nat.le_of_ble_eq_true rfl) ⟨F570584, o570526, rfl, rfl, hT570589, hs570588, (Nat.le_of_ble_eq_true rfl), (Nat.le_of_ble_eq_true rfl), bo570526, (by omega), (by omega), (by omega)⟩
        · have r570593 : p570383.toInt = 0 := gj_eq hc570515 (show Int32.toInt 0 = 0 by decide)
          have bp570383' : gB p570383 0 0 := gB_t0 r570593
          refine G_aload_n 0 dr_cX17_run__44 rfl ?_
          refine G_iconst 2 dr_cX17_run__45 (by decide +kernel) ?_
          have hT570594 : RS D I P570371 F570433 γ el := RS_set hT n570435 htq570373 (by decide) ⟨q570381, q570382, p570383, p570384, p570385, p570386, p570387, p570388, p570389, p570390, p570391, p570392, p570393, 0, p570395, p570396, p570397, he570436, ⟨(gB_w bp570383' (by decide) (by decide)), bp570384, (hB570424.2.2.1), (hB570424.2.2.2.1), (hB570424.2.2.2.2.1), (hB570424.2.2.2.2.2.1), (hB570424.2.2.2.2.2.2.1), bp570395, (hB570424.2.2.2.2.2.2.2.2)⟩, ht570398, ht570399, ht570400, ht570401, ht570402, ht570403, ht570404, ht570405, ht570406, ht570407, ht570408, ht570409, ht570410, ht570411, ht570412, ht570413, ht570414, ht570415, ht570416, ht570417, ht570418, ht570419, ht570420, ht570421, hB570425⟩
          have ac570595 : (fI (F570433 q570373) 9).toInt = p570383.toInt := by rw [he570436]; rfl
          have ac570596 : (fI (F570433 q570373) 10).toInt = p570384.toInt := by rw [he570436]; rfl
          have ac570597 : (fI (F570433 q570373) 32).toInt = p570395.toInt := by rw [he570436]; rfl
          refine Gw_callV (As := [.int 2]) (gV_ok D I) (ct_563559_SpillForgeModel_no l hl0 D I γ el P570371 F570433 q570373 2 hT570594 htq570373) dr_cX17_run__46 ⟨wr_7_191, wr_1_14, wr_7_194, by decide, rfl, (Nat.le_of_ble_eq_true rfl), (Nat.le_of_ble_eq_true rfl)⟩ wr_7_193 wr_p_73 hm570379 he570436 rfl (show 0 + 0 ≤ 0 by first | omega | decide) (show 0 + 0 ≤ 0 by first | omega | decide) (Nat.le_of_ble_eq_true rfl) (fun r570601 w570602 dc570598 ds570599 hp570600 => ?_) (fun _ _ _ _ _ z => z.elim)
          obtain ⟨F570607, rfl, rfl, hT570608, hs570609, hdc, hds, x570603, x570604, x570605, x570606⟩ := hp570600
          have hs570610 : rStr γ [] F570372 F570607 := rStr_tr hs570437 hs570609
          rw [show Int32.toInt 2 = 2 from by decide] at x570606
          change G _ _ _ _ _ _ _ (.int 0 :: _) _ _ _
          refine G_widen (cs' := 0) (sl' := 0) (by omega) (by omega) ?_
          have hm570611 : q570373 ∈ P570371 := RS_m hT570608 htq570373 (by decide)
          refine rk10_e (show rk_10 γ (F570607 q570373) from RS_o hT570608 htq570373) (fun q570613 q570614 p570615 p570616 p570617 p570618 p570619 p570620 p570621 p570622 p570623 p570624 p570625 p570626 p570627 p570628 p570629 he570612 hB570656 ht570630 ht570631 ht570632 ht570633 ht570634 ht570635 ht570636 ht570637 ht570638 ht570639 ht570640 ht570641 ht570642 ht570643 ht570644 ht570645 ht570646 ht570647 ht570648 ht570649 ht570650 ht570651 ht570652 ht570653 hB570657 => ?_)
          have ac570658 : (fI (F570607 q570373) 9).toInt = p570615.toInt := by rw [he570612]; rfl
          have bp570615 : gB p570615 0 1 := (hB570656.1)
          have ac570659 : (fI (F570607 q570373) 10).toInt = p570616.toInt := by rw [he570612]; rfl
          have bp570616 : gB p570616 0 1 := (hB570656.2.1)
          have ac570660 : (fI (F570607 q570373) 32).toInt = p570627.toInt := by rw [he570612]; rfl
          have bp570627 : gB p570627 0 8192 := (hB570656.2.2.2.2.2.2.2.1)
          have ac570661 : (fI (F570607 q570373) 9).toInt = p570615.toInt := by rw [he570612]; rfl
          have ac570662 : (fI (F570607 q570373) 10).toInt = p570616.toInt := by rw [he570612]; rfl
          have ac570663 : (fI (F570607 q570373) 32).toInt = p570627.toInt := by rw [he570612]; rfl
          exact G_iretA dr_cX17_run__49 rfl (Nat.le_of_ble_eq_true rfl) (Nat.le_of_ble_eq_true rfl) ⟨F570607, 0, rfl, rfl, hT570608, hs570610, (Nat.le_of_ble_eq_true rfl), (Nat.le_of_ble_eq_true rfl), (gB_w (gBl (show Int32.toInt 0 = 0 by decide)) (by decide) (by decide)), (by have qa0 : Int32.toInt 0 = 0 := (by decide); omega), (by have qa0 : Int32.toInt 0 = 0 := (by decide); omega), (by have qa0 : Int32.toInt 0 = 0 := (by decide); omega)⟩
      · have r570664 : p570374.toInt ≠ 0 := gj_neq hc570513 (show Int32.toInt 0 = 0 by decide)
        have bp570374' : gB p570374 1 1 := gB_t1 bp570374 r570664
        refine G_aload_n 0 dr_cX17_run__27 rfl ?_
        refine Gp_get 10 hm570379 he570436 dr_cX17_run__28 (gk_X17 D I) (Nat.le_of_ble_eq_true rfl) wr_7_84 rfl ?_
        refine G_if_ne 50 dr_cX17_run__31 (by decide +kernel) (fun hc570665 => ?_) (fun hc570665 => ?_)
        · have r570666 : p570384.toInt ≠ 0 := gj_neq hc570665 (show Int32.toInt 0 = 0 by decide)
          have bp570384' : gB p570384 1 1 := gB_t1 bp570384 r570666
          refine G_aload_n 0 dr_cX17_run__50 rfl ?_
          refine G_aload_n 0 dr_cX17_run__51 rfl ?_
          refine G_iload_n 1 dr_cX17_run__52 rfl ?_
          refine G_if_eq 63 dr_cX17_run__53 (by decide +kernel) (fun hc => absurd (show False by have := gj_eq hc (show Int32.toInt 0 = 0 by decide); omega) not_false) (fun _ => ?_)
          refine G_aload_n 0 dr_cX17_run__56 rfl ?_
          refine Gp_get 7 hm570379 he570436 dr_cX17_run__57 (gk_X17 D I) (Nat.le_of_ble_eq_true rfl) wr_7_81 rfl ?_
          refine G_goto 67 dr_cX17_run__60 (by decide +kernel) ?_
          refine G_iload_n 2 dr_cX17_run__67 rfl ?_
          have hT570667 : RS D I P570371 F570433 γ el := RS_set hT n570435 htq570373 (by decide) ⟨q570381, q570382, p570383, p570384, p570385, p570386, p570387, p570388, p570389, p570390, p570391, p570392, p570393, 0, p570395, p570396, p570397, he570436, ⟨bp570383, (gB_w bp570384' (by decide) (by decide)), (hB570424.2.2.1), (hB570424.2.2.2.1), (hB570424.2.2.2.2.1), (hB570424.2.2.2.2.2.1), (hB570424.2.2.2.2.2.2.1), bp570395, (hB570424.2.2.2.2.2.2.2.2)⟩, ht570398, ht570399, ht570400, ht570401, ht570402, ht570403, ht570404, ht570405, ht570406, ht570407, ht570408, ht570409, ht570410, ht570411, ht570412, ht570413, ht570414, ht570415, ht570416, ht570417, ht570418, ht570419, ht570420, ht570421, hB570425⟩
          have ac570668 : (fI (F570433 q570373) 9).toInt = p570383.toInt := by rw [he570436]; rfl
          have ac570669 : (fI (F570433 q570373) 10).toInt = p570384.toInt := by rw [he570436]; rfl
          have ac570670 : (fI (F570433 q570373) 32).toInt = p570395.toInt := by rw [he570436]; rfl
          refine Gw_callV (As := [.ref (γ 9 7), .int p570375]) (gV_ok D I) (ct_565192_SpillForgeModel_run l hl0 D I γ el P570371 F570433 q570373 (γ 9 7) p570375 hT570667 htq570373 ht570407 bp570375'' (by have qa0 : Int32.toInt 0 = 0 := (by decide); omega)) dr_cX17_run__68 ⟨wr_11_92, wr_1_14, wr_11_95, by decide, rfl, (Nat.le_of_ble_eq_true rfl), (Nat.le_of_ble_eq_true rfl)⟩ wr_11_94 wr_p_113 hm570379 he570436 rfl (show 0 + 0 ≤ 0 by first | omega | decide) (show 0 + 0 ≤ 0 by first | omega | decide) (Nat.le_of_ble_eq_true rfl) (fun r570674 w570675 dc570671 ds570672 hp570673 => ?_) (fun _ _ _ _ _ z => z.elim)
          obtain ⟨F570680, o570676, rfl, rfl, hT570681, hs570682, hdc, hds, bo570676, x570677, x570678, x570679⟩ := hp570673
          have hs570683 : rStr γ [] F570372 F570680 := rStr_tr hs570437 hs570682
          change G _ _ _ _ _ _ _ (.int o570676 :: _) _ _ _
          refine G_widen (cs' := 0) (sl' := 0) (by omega) (by omega) ?_
          have hm570684 : q570373 ∈ P570371 := RS_m hT570681 htq570373 (by decide)
          refine rk10_e (show rk_10 γ (F570680 q570373) from RS_o hT570681 htq570373) (fun q570686 q570687 p570688 p570689 p570690 p570691 p570692 p570693 p570694 p570695 p570696 p570697 p570698 p570699 p570700 p570701 p570702 he570685 hB570729 ht570703 ht570704 ht570705 ht570706 ht570707 ht570708 ht570709 ht570710 ht570711 ht570712 ht570713 ht570714 ht570715 ht570716 ht570717 ht570718 ht570719 ht570720 ht570721 ht570722 ht570723 ht570724 ht570725 ht570726 hB570730 => ?_)
          have ac570731 : (fI (F570680 q570373) 9).toInt = p570688.toInt := by rw [he570685]; rfl
          have bp570688 : gB p570688 0 1 := (hB570729.1)
          have ac570732 : (fI (F570680 q570373) 10).toInt = p570689.toInt := by rw [he570685]; rfl
          have bp570689 : gB p570689 0 1 := (hB570729.2.1)
          have ac570733 : (fI (F570680 q570373) 32).toInt = p570700.toInt := by rw [he570685]; rfl
          have bp570700 : gB p570700 0 8192 := (hB570729.2.2.2.2.2.2.2.1)
          refine Gp_put 23 hm570684 he570685 dr_cX17_run__71 (gk_X17 D I) (Nat.le_of_ble_eq_true rfl) wr_7_97 rfl rfl rfl (Nat.le_of_ble_eq_true rfl) (fun F570734 e570735 n570736 => ?_)
          have he570737 : F570734 q570373 = .inr (22, [.ref (γ 9 0), .ref (γ 9 1), .ref (γ 9 2), .ref (γ 9 3), .ref (γ 9 4), .ref (γ 9 5), .ref (γ 9 6), .ref (γ 9 7), .ref (γ 9 8), .int p570688, .int p570689, .int p570690, .int p570691, .int p570692, .int p570693, .ref (γ 9 15), .ref (γ 9 16), .ref (γ 9 17), .ref (γ 9 18), .ref (γ 9 19), .ref (γ 9 20), .ref (γ 9 21), .ref (γ 9 22), .int o570676, .int p570695, .int p570696, .int p570697, .int p570698, .ref q570686, .ref (γ 9 29), .int p570699, .ref (γ 9 31), .int p570700, .int p570701, .int p570702, .ref q570687]) := e570735
          have hs570738 : rStr γ [] F570372 F570734 := rStr_put hs570683 n570736 htq570373 (by decide)
          refine G_aload_n 0 dr_cX17_run__74 rfl ?_
          refine Gp_get 23 hm570684 he570737 dr_cX17_run__75 (gk_X17 D I) (Nat.le_of_ble_eq_true rfl) wr_7_97 rfl ?_
          have hT570739 : RS D I P570371 F570734 γ el := RS_set hT570681 n570736 htq570373 (by decide) ⟨q570686, q570687, p570688, p570689, p570690, p570691, p570692, p570693, o570676, p570695, p570696, p570697, p570698, p570699, p570700, p570701, p570702, he570737, ⟨bp570688, bp570689, (hB570729.2.2.1), (hB570729.2.2.2.1), (hB570729.2.2.2.2.1), (hB570729.2.2.2.2.2.1), (hB570729.2.2.2.2.2.2.1), bp570700, (hB570729.2.2.2.2.2.2.2.2)⟩, ht570703, ht570704, ht570705, ht570706, ht570707, ht570708, ht570709, ht570710, ht570711, ht570712, ht570713, ht570714, ht570715, ht570716, ht570717, ht570718, ht570719, ht570720, ht570721, ht570722, ht570723, ht570724, ht570725, ht570726, hB570730⟩
          have ac570740 : (fI (F570734 q570373) 9).toInt = p570688.toInt := by rw [he570737]; rfl
          have ac570741 : (fI (F570734 q570373) 10).toInt = p570689.toInt := by rw [he570737]; rfl
          have ac570742 : (fI (F570734 q570373) 32).toInt = p570700.toInt := by rw [he570737]; rfl
          exact G_iretA dr_cX17_run__78 rfl (Nat.le_of_ble_eq_true rfl) (Nat.le_of_ble_eq_true rfl) ⟨F570734, o570676, rfl, rfl, hT570739, hs570738, (Nat.le_of_ble_eq_true rfl), (Nat.le_of_ble_eq_true rfl), bo570676, (by omega), (by omega), (by omega)⟩
        · have r570743 : p570384.toInt = 0 := gj_eq hc570665 (show Int32.toInt 0 = 0 by decide)
          have bp570384' : gB p570384 0 0 := gB_t0 r570743
          refine G_goto 44 dr_cX17_run__34 (by decide +kernel) ?_
          refine G_aload_n 0 dr_cX17_run__44 rfl ?_
          refine G_iconst 2 dr_cX17_run__45 (by decide +kernel) ?_
          have hT570744 : RS D I P570371 F570433 γ el := RS_set hT n570435 htq570373 (by decide) ⟨q570381, q570382, p570383, p570384, p570385, p570386, p570387, p570388, p570389, p570390, p570391, p570392, p570393, 0, p570395, p570396, p570397, he570436, ⟨bp570383, (gB_w bp570384' (by decide) (by decide)), (hB570424.2.2.1), (hB570424.2.2.2.1), (hB570424.2.2.2.2.1), (hB570424.2.2.2.2.2.1), (hB570424.2.2.2.2.2.2.1), bp570395, (hB570424.2.2.2.2.2.2.2.2)⟩, ht570398, ht570399, ht570400, ht570401, ht570402, ht570403, ht570404, ht570405, ht570406, ht570407, ht570408, ht570409, ht570410, ht570411, ht570412, ht570413, ht570414, ht570415, ht570416, ht570417, ht570418, ht570419, ht570420, ht570421, hB570425⟩
          have ac570745 : (fI (F570433 q570373) 9).toInt = p570383.toInt := by rw [he570436]; rfl
          have ac570746 : (fI (F570433 q570373) 10).toInt = p570384.toInt := by rw [he570436]; rfl
          have ac570747 : (fI (F570433 q570373) 32).toInt = p570395.toInt := by rw [he570436]; rfl
          refine Gw_callV (As := [.int 2]) (gV_ok D I) (ct_563559_SpillForgeModel_no l hl0 D I γ el P570371 F570433 q570373 2 hT570744 htq570373) dr_cX17_run__46 ⟨wr_7_191, wr_1_14, wr_7_194, by decide, rfl, (Nat.le_of_ble_eq_true rfl), (Nat.le_of_ble_eq_true rfl)⟩ wr_7_193 wr_p_73 hm570379 he570436 rfl (show 0 + 0 ≤ 0 by first | omega | decide) (show 0 + 0 ≤ 0 by first | omega | decide) (Nat.le_of_ble_eq_true rfl) (fun r570751 w570752 dc570748 ds570749 hp570750 => ?_) (fun _ _ _ _ _ z => z.elim)
          obtain ⟨F570757, rfl, rfl, hT570758, hs570759, hdc, hds, x570753, x570754, x570755, x570756⟩ := hp570750
          have hs570760 : rStr γ [] F570372 F570757 := rStr_tr hs570437 hs570759
          rw [show Int32.toInt 2 = 2 from by decide] at x570756
          change G _ _ _ _ _ _ _ (.int 0 :: _) _ _ _
          refine G_widen (cs' := 0) (sl' := 0) (by omega) (by omega) ?_
          have hm570761 : q570373 ∈ P570371 := RS_m hT570758 htq570373 (by decide)
          refine rk10_e (show rk_10 γ (F570757 q570373) from RS_o hT570758 htq570373) (fun q570763 q570764 p570765 p570766 p570767 p570768 p570769 p570770 p570771 p570772 p570773 p570774 p570775 p570776 p570777 p570778 p570779 he570762 hB570806 ht570780 ht570781 ht570782 ht570783 ht570784 ht570785 ht570786 ht570787 ht570788 ht570789 ht570790 ht570791 ht570792 ht570793 ht570794 ht570795 ht570796 ht570797 ht570798 ht570799 ht570800 ht570801 ht570802 ht570803 hB570807 => ?_)
          have ac570808 : (fI (F570757 q570373) 9).toInt = p570765.toInt := by rw [he570762]; rfl
          have bp570765 : gB p570765 0 1 := (hB570806.1)
          have ac570809 : (fI (F570757 q570373) 10).toInt = p570766.toInt := by rw [he570762]; rfl
          have bp570766 : gB p570766 0 1 := (hB570806.2.1)
          have ac570810 : (fI (F570757 q570373) 32).toInt = p570777.toInt := by rw [he570762]; rfl
          have bp570777 : gB p570777 0 8192 := (hB570806.2.2.2.2.2.2.2.1)
          have ac570811 : (fI (F570757 q570373) 9).toInt = p570765.toInt := by rw [he570762]; rfl
          have ac570812 : (fI (F570757 q570373) 10).toInt = p570766.toInt := by rw [he570762]; rfl
          have ac570813 : (fI (F570757 q570373) 32).toInt = p570777.toInt := by rw [he570762]; rfl
          exact G_iretA dr_cX17_run__49 rfl (Nat.le_of_ble_eq_true rfl) (Nat.le_of_ble_eq_true rfl) ⟨F570757, 0, rfl, rfl, hT570758, hs570760, (Nat.le_of_ble_eq_true rfl), (Nat.le_of_ble_eq_true rfl), (gB_w (gBl (show Int32.toInt 0 = 0 by decide)) (by decide) (by decide)), (by have qa0 : Int32.toInt 0 = 0 := (by decide); omega), (by have qa0 : Int32.toInt 0 = 0 := (by decide); omega), (by have qa0 : Int32.toInt 0 = 0 := (by decide); omega)⟩
    · have r570814 : 100000 < p570375.toInt := gj_nle hc570511 (show Int32.toInt 100000 = 100000 by decide)
      have bp570375'' : gB p570375 100001 2147483647 := ⟨by omega, by omega⟩
      refine G_aload_n 0 dr_cX17_run__17 rfl ?_
      refine G_iconst 1 dr_cX17_run__18 (by decide +kernel) ?_
      have hT570815 : RS D I P570371 F570433 γ el := RS_set hT n570435 htq570373 (by decide) ⟨q570381, q570382, p570383, p570384, p570385, p570386, p570387, p570388, p570389, p570390, p570391, p570392, p570393, 0, p570395, p570396, p570397, he570436, ⟨bp570383, bp570384, (hB570424.2.2.1), (hB570424.2.2.2.1), (hB570424.2.2.2.2.1), (hB570424.2.2.2.2.2.1), (hB570424.2.2.2.2.2.2.1), bp570395, (hB570424.2.2.2.2.2.2.2.2)⟩, ht570398, ht570399, ht570400, ht570401, ht570402, ht570403, ht570404, ht570405, ht570406, ht570407, ht570408, ht570409, ht570410, ht570411, ht570412, ht570413, ht570414, ht570415, ht570416, ht570417, ht570418, ht570419, ht570420, ht570421, hB570425⟩
      have ac570816 : (fI (F570433 q570373) 9).toInt = p570383.toInt := by rw [he570436]; rfl
      have ac570817 : (fI (F570433 q570373) 10).toInt = p570384.toInt := by rw [he570436]; rfl
      have ac570818 : (fI (F570433 q570373) 32).toInt = p570395.toInt := by rw [he570436]; rfl
      refine Gw_callV (As := [.int 1]) (gV_ok D I) (ct_563559_SpillForgeModel_no l hl0 D I γ el P570371 F570433 q570373 1 hT570815 htq570373) dr_cX17_run__19 ⟨wr_7_191, wr_1_14, wr_7_194, by decide, rfl, (Nat.le_of_ble_eq_true rfl), (Nat.le_of_ble_eq_true rfl)⟩ wr_7_193 wr_p_73 hm570379 he570436 rfl (show 0 + 0 ≤ 0 by first | omega | decide) (show 0 + 0 ≤ 0 by first | omega | decide) (Nat.le_of_ble_eq_true rfl) (fun r570822 w570823 dc570819 ds570820 hp570821 => ?_) (fun _ _ _ _ _ z => z.elim)
      obtain ⟨F570828, rfl, rfl, hT570829, hs570830, hdc, hds, x570824, x570825, x570826, x570827⟩ := hp570821
      have hs570831 : rStr γ [] F570372 F570828 := rStr_tr hs570437 hs570830
      rw [show Int32.toInt 1 = 1 from by decide] at x570827
      change G _ _ _ _ _ _ _ (.int 0 :: _) _ _ _
      refine G_widen (cs' := 0) (sl' := 0) (by omega) (by omega) ?_
      have hm570832 : q570373 ∈ P570371 := RS_m hT570829 htq570373 (by decide)
      refine rk10_e (show rk_10 γ (F570828 q570373) from RS_o hT570829 htq570373) (fun q570834 q570835 p570836 p570837 p570838 p570839 p570840 p570841 p570842 p570843 p570844 p570845 p570846 p570847 p570848 p570849 p570850 he570833 hB570877 ht570851 ht570852 ht570853 ht570854 ht570855 ht570856 ht570857 ht570858 ht570859 ht570860 ht570861 ht570862 ht570863 ht570864 ht570865 ht570866 ht570867 ht570868 ht570869 ht570870 ht570871 ht570872 ht570873 ht570874 hB570878 => ?_)
      have ac570879 : (fI (F570828 q570373) 9).toInt = p570836.toInt := by rw [he570833]; rfl
      have bp570836 : gB p570836 0 1 := (hB570877.1)
      have ac570880 : (fI (F570828 q570373) 10).toInt = p570837.toInt := by rw [he570833]; rfl
      have bp570837 : gB p570837 0 1 := (hB570877.2.1)
      have ac570881 : (fI (F570828 q570373) 32).toInt = p570848.toInt := by rw [he570833]; rfl
      have bp570848 : gB p570848 0 8192 := (hB570877.2.2.2.2.2.2.2.1)
      have ac570882 : (fI (F570828 q570373) 9).toInt = p570836.toInt := by rw [he570833]; rfl
      have ac570883 : (fI (F570828 q570373) 10).toInt = p570837.toInt := by rw [he570833]; rfl
      have ac570884 : (fI (F570828 q570373) 32).toInt = p570848.toInt := by rw [he570833]; rfl
      exact G_iretA dr_cX17_run__22 rfl (Nat.le_of_ble_eq_true rfl) (Nat.le_of_ble_eq_true rfl) ⟨F570828, 0, rfl, rfl, hT570829, hs570831, (Nat.le_of_ble_eq_true rfl), (Nat.le_of_ble_eq_true rfl), (gB_w (gBl (show Int32.toInt 0 = 0 by decide)) (by decide) (by decide)), (by have qa0 : Int32.toInt 0 = 0 := (by decide); omega), (by have qa0 : Int32.toInt 0 = 0 := (by decide); omega), (by have qa0 : Int32.toInt 0 = 0 := (by decide); omega)⟩
