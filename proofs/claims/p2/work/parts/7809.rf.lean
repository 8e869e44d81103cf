theorem dr_cX17_merge_0 : decode cX17_merge 0 = .ok (.iconst 0, 1) := by decide +kernel
theorem dr_cX17_merge_1 : decode cX17_merge 1 = .ok (.istore_n 3, 1) := by decide +kernel
theorem dr_cX17_merge_2 : decode cX17_merge 2 = .ok (.iload_n 3, 1) := by decide +kernel
theorem dr_cX17_merge_3 : decode cX17_merge 3 = .ok (.aload_n 1, 1) := by decide +kernel
theorem dr_cX17_merge_4 : decode cX17_merge 4 = .ok (.invokevirtual 96, 3) := by decide +kernel
theorem dr_cX17_merge_7 : decode cX17_merge 7 = .ok (.if_icmp .ge 171, 3) := by decide +kernel
theorem dr_cX17_merge_178 : decode cX17_merge 178 = .ok (.iconst 0, 1) := by decide +kernel
theorem dr_cX17_merge_179 : decode cX17_merge 179 = .ok (.ireturn, 1) := by decide +kernel
theorem dr_cX17_merge_10 : decode cX17_merge 10 = .ok (.aload_n 1, 1) := by decide +kernel
theorem dr_cX17_merge_11 : decode cX17_merge 11 = .ok (.iload_n 3, 1) := by decide +kernel
theorem dr_cX17_merge_12 : decode cX17_merge 12 = .ok (.invokevirtual 101, 3) := by decide +kernel
theorem dr_cX17_merge_15 : decode cX17_merge 15 = .ok (.astore 4, 2) := by decide +kernel
theorem dr_cX17_merge_17 : decode cX17_merge 17 = .ok (.iconst 0, 1) := by decide +kernel
theorem dr_cX17_merge_18 : decode cX17_merge 18 = .ok (.istore 5, 2) := by decide +kernel
theorem dr_cX17_merge_20 : decode cX17_merge 20 = .ok (.iload 5, 2) := by decide +kernel
theorem dr_cX17_merge_22 : decode cX17_merge 22 = .ok (.aload 4, 2) := by decide +kernel
theorem dr_cX17_merge_24 : decode cX17_merge 24 = .ok (.getfield 117, 3) := by decide +kernel
theorem dr_cX17_merge_27 : decode cX17_merge 27 = .ok (.invokevirtual 121, 3) := by decide +kernel
theorem dr_cX17_merge_30 : decode cX17_merge 30 = .ok (.if_icmp .ge 142, 3) := by decide +kernel
theorem dr_cX17_merge_172 : decode cX17_merge 172 = .ok (.iinc 3 1, 3) := by decide +kernel
theorem dr_cX17_merge_175 : decode cX17_merge 175 = .ok (.goto (-173), 3) := by decide +kernel
theorem dr_cX17_merge_33 : decode cX17_merge 33 = .ok (.aload 4, 2) := by decide +kernel
theorem dr_cX17_merge_35 : decode cX17_merge 35 = .ok (.getfield 117, 3) := by decide +kernel
theorem dr_cX17_merge_38 : decode cX17_merge 38 = .ok (.iload 5, 2) := by decide +kernel
theorem dr_cX17_merge_40 : decode cX17_merge 40 = .ok (.invokevirtual 124, 3) := by decide +kernel
theorem dr_cX17_merge_43 : decode cX17_merge 43 = .ok (.checkcast 40, 3) := by decide +kernel
theorem dr_cX17_merge_46 : decode cX17_merge 46 = .ok (.astore 6, 2) := by decide +kernel
theorem dr_cX17_merge_48 : decode cX17_merge 48 = .ok (.aload 6, 2) := by decide +kernel
theorem dr_cX17_merge_50 : decode cX17_merge 50 = .ok (.getfield 39, 3) := by decide +kernel
theorem dr_cX17_merge_53 : decode cX17_merge 53 = .ok (.ifCond .ne 113, 3) := by decide +kernel
theorem dr_cX17_merge_166 : decode cX17_merge 166 = .ok (.iinc 5 1, 3) := by decide +kernel
theorem dr_cX17_merge_169 : decode cX17_merge 169 = .ok (.goto (-149), 3) := by decide +kernel
theorem dr_cX17_merge_56 : decode cX17_merge 56 = .ok (.aload 6, 2) := by decide +kernel
theorem dr_cX17_merge_58 : decode cX17_merge 58 = .ok (.getfield 141, 3) := by decide +kernel
theorem dr_cX17_merge_61 : decode cX17_merge 61 = .ok (.ifCond .eq 105, 3) := by decide +kernel
theorem dr_cX17_merge_64 : decode cX17_merge 64 = .ok (.aload 6, 2) := by decide +kernel
theorem dr_cX17_merge_66 : decode cX17_merge 66 = .ok (.getfield 52, 3) := by decide +kernel
theorem dr_cX17_merge_69 : decode cX17_merge 69 = .ok (.aload 6, 2) := by decide +kernel
theorem dr_cX17_merge_71 : decode cX17_merge 71 = .ok (.getfield 73, 3) := by decide +kernel
theorem dr_cX17_merge_74 : decode cX17_merge 74 = .ok (.if_icmp .eq 24, 3) := by decide +kernel
theorem dr_cX17_merge_98 : decode cX17_merge 98 = .ok (.aload 6, 2) := by decide +kernel
theorem dr_cX17_merge_100 : decode cX17_merge 100 = .ok (.getfield 52, 3) := by decide +kernel
theorem dr_cX17_merge_103 : decode cX17_merge 103 = .ok (.aload 6, 2) := by decide +kernel
theorem dr_cX17_merge_105 : decode cX17_merge 105 = .ok (.getfield 73, 3) := by decide +kernel
theorem dr_cX17_merge_108 : decode cX17_merge 108 = .ok (.invokestatic 164, 3) := by decide +kernel
theorem dr_cX17_merge_111 : decode cX17_merge 111 = .ok (.istore 7, 2) := by decide +kernel
theorem dr_cX17_merge_113 : decode cX17_merge 113 = .ok (.aload 6, 2) := by decide +kernel
theorem dr_cX17_merge_115 : decode cX17_merge 115 = .ok (.getfield 52, 3) := by decide +kernel
theorem dr_cX17_merge_118 : decode cX17_merge 118 = .ok (.aload 6, 2) := by decide +kernel
theorem dr_cX17_merge_120 : decode cX17_merge 120 = .ok (.getfield 73, 3) := by decide +kernel
theorem dr_cX17_merge_123 : decode cX17_merge 123 = .ok (.invokestatic 189, 3) := by decide +kernel
theorem wr_11_21 : (Jvm.Cond.methodLink "SpillForgeModel" (189 : Nat) ({ cls := "java/lang/Math", name := "max", desc := "(II)I" } : Jvm.MethodName)) ∈ gw := gw_11 21 rfl rfl
theorem dr_cX17_merge_126 : decode cX17_merge 126 = .ok (.istore 8, 2) := by decide +kernel
theorem dr_cX17_merge_128 : decode cX17_merge 128 = .ok (.aload 4, 2) := by decide +kernel
theorem dr_cX17_merge_130 : decode cX17_merge 130 = .ok (.getfield 117, 3) := by decide +kernel
theorem dr_cX17_merge_133 : decode cX17_merge 133 = .ok (.iload 5, 2) := by decide +kernel
theorem dr_cX17_merge_135 : decode cX17_merge 135 = .ok (.invokevirtual 192, 3) := by decide +kernel
theorem wr_11_22 : (Jvm.Cond.methodLink "SpillForgeModel" (192 : Nat) ({ cls := "java/util/ArrayList", name := "remove", desc := "(I)Ljava/lang/Object;" } : Jvm.MethodName)) ∈ gw := gw_11 22 rfl rfl
theorem wr_11_25 : (Jvm.Cond.code ({ cls := "java/util/ArrayList", name := "remove", desc := "(I)Ljava/lang/Object;" } : Jvm.MethodName) prog_43_method_29_code (4 : Nat) (Option.some (Jvm.ClassFile.FieldType.object "java/lang/Object"))) ∈ gw := gw_11 25 rfl rfl
theorem wr_11_23 : (Jvm.Cond.instanceMethod ({ cls := "java/util/ArrayList", name := "remove", desc := "(I)Ljava/lang/Object;" } : Jvm.MethodName)) ∈ gw := gw_11 23 rfl rfl
theorem wr_11_24 : (Jvm.Cond.selects "java/util/ArrayList" ({ cls := "java/util/ArrayList", name := "remove", desc := "(I)Ljava/lang/Object;" } : Jvm.MethodName) ({ cls := "java/util/ArrayList", name := "remove", desc := "(I)Ljava/lang/Object;" } : Jvm.MethodName)) ∈ gw := gw_11 24 rfl rfl
theorem dr_cX17_merge_138 : decode cX17_merge 138 = .ok (.pop, 1) := by decide +kernel
theorem dr_cX17_merge_139 : decode cX17_merge 139 = .ok (.aload_n 0, 1) := by decide +kernel
theorem dr_cX17_merge_140 : decode cX17_merge 140 = .ok (.dup, 1) := by decide +kernel
theorem dr_cX17_merge_141 : decode cX17_merge 141 = .ok (.getfield 195, 3) := by decide +kernel
theorem wr_7_87 : (Jvm.Cond.fieldLink "SpillForgeModel" (195 : Nat) "SpillForgeModel" "merged" "I") ∈ gw := gw_7 87 rfl rfl
theorem dr_cX17_merge_144 : decode cX17_merge 144 = .ok (.iconst 1, 1) := by decide +kernel
theorem dr_cX17_merge_145 : decode cX17_merge 145 = .ok (.iadd, 1) := by decide +kernel
theorem dr_cX17_merge_146 : decode cX17_merge 146 = .ok (.putfield 195, 3) := by decide +kernel
theorem dr_cX17_merge_149 : decode cX17_merge 149 = .ok (.iload 7, 2) := by decide +kernel
theorem dr_cX17_merge_151 : decode cX17_merge 151 = .ok (.iload 8, 2) := by decide +kernel
theorem dr_cX17_merge_153 : decode cX17_merge 153 = .ok (.if_icmp .eq 11, 3) := by decide +kernel
theorem dr_cX17_merge_164 : decode cX17_merge 164 = .ok (.iconst 1, 1) := by decide +kernel
theorem dr_cX17_merge_165 : decode cX17_merge 165 = .ok (.ireturn, 1) := by decide +kernel
theorem dr_cX17_merge_156 : decode cX17_merge 156 = .ok (.aload_n 1, 1) := by decide +kernel
theorem dr_cX17_merge_157 : decode cX17_merge 157 = .ok (.iload 8, 2) := by decide +kernel
theorem dr_cX17_merge_159 : decode cX17_merge 159 = .ok (.iload 7, 2) := by decide +kernel
theorem dr_cX17_merge_161 : decode cX17_merge 161 = .ok (.invokestatic 198, 3) := by decide +kernel
theorem wr_11_30 : (Jvm.Cond.methodLink "SpillForgeModel" (198 : Nat) ({ cls := "SpillForgeModel", name := "rename", desc := "(LSpillForgeModel$Code;II)V" } : Jvm.MethodName)) ∈ gw := gw_11 30 rfl rfl
theorem wr_11_32 : (Jvm.Cond.code ({ cls := "SpillForgeModel", name := "rename", desc := "(LSpillForgeModel$Code;II)V" } : Jvm.MethodName) prog_14_method_19_code (7 : Nat) (Option.none : Option Jvm.ClassFile.FieldType)) ∈ gw := gw_11 32 rfl rfl
theorem wr_11_31 : (Jvm.Cond.static ({ cls := "SpillForgeModel", name := "rename", desc := "(LSpillForgeModel$Code;II)V" } : Jvm.MethodName)) ∈ gw := gw_11 31 rfl rfl
theorem dr_cX17_merge_77 : decode cX17_merge 77 = .ok (.aload_n 0, 1) := by decide +kernel
theorem dr_cX17_merge_78 : decode cX17_merge 78 = .ok (.aload 6, 2) := by decide +kernel
theorem dr_cX17_merge_80 : decode cX17_merge 80 = .ok (.getfield 52, 3) := by decide +kernel
theorem dr_cX17_merge_83 : decode cX17_merge 83 = .ok (.aload 6, 2) := by decide +kernel
theorem dr_cX17_merge_85 : decode cX17_merge 85 = .ok (.getfield 73, 3) := by decide +kernel
theorem dr_cX17_merge_88 : decode cX17_merge 88 = .ok (.iload_n 2, 1) := by decide +kernel
theorem dr_cX17_merge_89 : decode cX17_merge 89 = .ok (.invokevirtual 185, 3) := by decide +kernel
theorem wr_11_12 : (Jvm.Cond.methodLink "SpillForgeModel" (185 : Nat) ({ cls := "SpillForgeModel", name := "mayMerge", desc := "(III)Z" } : Jvm.MethodName)) ∈ gw := gw_11 12 rfl rfl
theorem wr_11_15 : (Jvm.Cond.code ({ cls := "SpillForgeModel", name := "mayMerge", desc := "(III)Z" } : Jvm.MethodName) prog_14_method_18_code (8 : Nat) (Option.some Jvm.ClassFile.FieldType.boolean)) ∈ gw := gw_11 15 rfl rfl
theorem wr_11_14 : (Jvm.Cond.instanceMethod ({ cls := "SpillForgeModel", name := "mayMerge", desc := "(III)Z" } : Jvm.MethodName)) ∈ gw := gw_11 14 rfl rfl
theorem wr_p_102 : Cond.selects "SpillForgeModel" ⟨"SpillForgeModel", "mayMerge", "(III)Z"⟩ ⟨"SpillForgeModel", "mayMerge", "(III)Z"⟩ ∈ gw := gw_p _ 102 rfl rfl rfl
theorem dr_cX17_merge_92 : decode cX17_merge 92 = .ok (.ifCond .ne 6, 3) := by decide +kernel
theorem dr_cX17_merge_95 : decode cX17_merge 95 = .ok (.goto 71, 3) := by decide +kernel
abbrev ky_204245_SpillForgeModel_merge : gKey := (cX17_merge, 9, "SpillForgeModel", (some FieldType.boolean), [], "merge", fun _ _ => True)
def pg_204245_SpillForgeModel_merge (D : va_G) (I : FieldType → ClassId) (γ0 el0 : Nat → Nat → Nat) (f : Nat) (B : Nat) (P204239 : List Nat) (F204240 : Nat → va_E) (q204241 : Nat) (q204242 : Nat) (p204243 : Int32) : Option Value → va_W → Nat → Nat → Prop := fun r w dc ds => ∃ (P215439 : List Nat) (F215440 : Nat → va_E) (γ el : Nat → Nat → Nat) (o215438 : Int32), r = some (.int o215438) ∧ w = va_pl P215439 F215440 ∧ rSk f [] ([1, 3, 6] ++ npk) D I P204239 F204240 γ0 el0 P215439 F215440 γ el ∧ (18 * dc + rPh γ0 el0 f ≤ rPh γ el f ∧ ds + rPh γ0 el0 f ≤ rPh γ el f) ∧ rBd γ el f B ∧ gB o215438 0 1 ∧ γ 6 f = γ0 6 f ∧ γ 7 f = γ0 7 f ∧ γ 16 f = γ0 16 f ∧ γ 18 f = γ0 18 f ∧ (o215438.toInt = 0 ∨ rsum (fun i => γ 2 (γ 14 (el (γ 14 q204242) i))) (γ 6 f) + 1 ≤ rsum (fun i => γ0 2 (γ0 14 (el0 (γ0 14 q204242) i))) (γ0 6 f))
set_option maxRecDepth 100000 in
set_option maxHeartbeats 1500000 in
theorem cg_204245_SpillForgeModel_merge (l : Launch) (hl0 : l.stackTraces = false) (D : va_G) (I : FieldType → ClassId) (γ0 el0 : Nat → Nat → Nat) (f : Nat) (B : Nat) (P204239 : List Nat) (F204240 : Nat → va_E) (q204241 : Nat) (q204242 : Nat) (p204243 : Int32) (hT0 : RS D I P204239 F204240 γ0 el0) (hzq204241 : rKd γ0 q204241 10) (hzq204242 : rKd γ0 q204242 9) (hf0 : γ0 1 q204242 = f) (hB0 : rBd γ0 el0 f B) (hBk : B ≤ 100000) (x204244 : 0 < γ0 6 f) : CtA (gV D I) l yX17_merge cX17_merge 9 (some FieldType.boolean) 5 111 (((387 * B + 6000) - rPh γ0 el0 f) / 18) ((387 * B + 6000) - rPh γ0 el0 f) [.ref q204241, .ref q204242, .int p204243] (va_pl P204239 F204240) (pg_204245_SpillForgeModel_merge D I γ0 el0 f B P204239 F204240 q204241 q204242 p204243) gNA := by
  refine CtA_of hl0 (by decide) (Nat.le_of_ble_eq_true rfl) ?_
  have bp204243 := gB_any p204243
  obtain ⟨γ, hγ0⟩ : ∃ z, z = γ0 := ⟨_, rfl⟩
  obtain ⟨el, hel0⟩ : ∃ z, z = el0 := ⟨_, rfl⟩
  have hT : RS D I P204239 F204240 γ el := by rw [hγ0, hel0]; exact hT0
  have hst : rSk f [] ([1, 3, 6] ++ npk) D I P204239 F204240 γ0 el0 P204239 F204240 γ el := by rw [hγ0, hel0]; exact rSk_rf hT0
  have hph : rPh γ0 el0 f ≤ rPh γ el f := by rw [hγ0, hel0]; exact Nat.le_refl _
  have hB : rBd γ el f B := by rw [hγ0, hel0]; exact hB0
  have htq204241 : rKd γ q204241 10 := by rw [hγ0]; exact hzq204241
  have htq204242 : rKd γ q204242 9 := by rw [hγ0]; exact hzq204242
  have hf1 : γ 1 q204242 = f := by rw [hγ0]; exact hf0
  have x204244n : 0 < γ 6 f := by rw [hγ0]; exact x204244
  have pk204246 : rPh γ el f ≤ 387 * B + 6000 := rm_pk (rM_ge hT htq204242 hf1).1 (rM_bd hB)
  refine G_widen (cs' := ((rPh γ el f - rPh γ0 el0 f) / 18)) (sl' := (rPh γ el f - rPh γ0 el0 f)) (Nat.zero_le _) (Nat.zero_le _) ?_
  have e0_204247 : γ 6 f = γ0 6 f := by rw [hγ0]
  have e0_204248 : γ 7 f = γ0 7 f := by rw [hγ0]
  have e0_204249 : γ 16 f = γ0 16 f := by rw [hγ0]
  have e0_204250 : γ 18 f = γ0 18 f := by rw [hγ0]
  have e0_204251 : γ 19 f = γ0 19 f := by rw [hγ0]
  have v0_204252 : 0 < γ 6 (γ 1 q204242) := by rw [hf1, hγ0]; exact x204244
  have s0_204253 : rsum (fun i => γ 2 (γ 14 (el (γ 14 q204242) i))) (γ 6 f) = rsum (fun i => γ0 2 (γ0 14 (el0 (γ0 14 q204242) i))) (γ0 6 f) := by rw [hγ0, hel0]
  refine G_iconst 0 dr_cX17_merge_0 (by decide +kernel) ?_
  refine G_istore_n (L' := [(3, .int 0), (0, .ref q204241), (1, .ref q204242), (2, .int p204243)]) dr_cX17_merge_1 (Nat.le_of_ble_eq_true rfl) rfl ?_
  have hlp2_214610 : ∀ (n2_214610 : Nat) (g214610 : Int32), gB g214610 0 1000000 → ((1000001 : Int) - g214610.toInt).toNat < n2_214610 → G (gV D I) l (gRm 5 111 (((387 * B + 6000) - rPh γ0 el0 f) / 18) ((387 * B + 6000) - rPh γ0 el0 f)) (gMA (gV D I) (pg_204245_SpillForgeModel_merge D I γ0 el0 f B P204239 F204240 q204241 q204242 p204243) gNA (((387 * B + 6000) - rPh γ0 el0 f) / 18) ((387 * B + 6000) - rPh γ0 el0 f)) ky_204245_SpillForgeModel_merge 2 [(3, .int g214610), (0, .ref q204241), (1, .ref q204242), (2, .int p204243)] [] (va_pl P204239 F204240) ((rPh γ el f - rPh γ0 el0 f) / 18) (rPh γ el f - rPh γ0 el0 f) := by
    intro n2_214610
    induction n2_214610 with
    | zero => intro g214610 bg214610 hm2_214610; exact absurd hm2_214610 (Nat.not_lt_zero _)
    | succ n2_214610 ih2_214610 =>
      intro g214610 bg214610 hm2_214610
      refine G_iload_n 0 dr_cX17_merge_2 rfl ?_
      refine G_aload_n 2 dr_cX17_merge_3 rfl ?_
      have hm214612 : q204242 ∈ P204239 := RS_m hT htq204242 (by decide)
      obtain ⟨q214614, q214615, p214616, p214617, he214613, ht214633, ht214618, ht214619, ht214620, ht214621, r214622, r214623, r214624, r214625, r214626, r214627, r214628, r214629, r214630, r214631, r214632⟩ := show rk_9 γ el q204242 (F204240 q204242) from RS_o hT htq204242
      have bp214616 : gB p214616 0 1000000 := ⟨by omega, by omega⟩
      have bp214617 : gB p214617 0 1000000 := ⟨by omega, by omega⟩
      have hf214634 : γ 1 q214614 = f := (show γ 1 q214614 = γ 1 q204242 from ht214619).trans hf1
      have hf214635 : γ 1 q214615 = f := (show γ 1 q214615 = γ 1 q204242 from ht214621).trans hf1
      have r214636 : γ 6 (γ 1 q204242) = γ 6 f := by rw [hf1]
      have r214637 : γ 16 (γ 1 q204242) = γ 16 f := by rw [hf1]
      have r214638 : p214617.toInt = γ 6 f ∧ p214617.toInt ≤ 40 := by omega
      clear r214628
      refine Gw_callV (As := []) (gV_ok D I) (cp_12496_Code_size l hl0 D I P204239 F204240 q204242 q214614 q214615 p214616 p214617 hm214612 he214613) dr_cX17_merge_4 ⟨wr_10_160, wr_1_15, wr_9_131, by decide, rfl, (Nat.le_of_ble_eq_true rfl), (Nat.le_of_ble_eq_true rfl)⟩ wr_9_129 wr_9_130 hm214612 he214613 rfl (rm_zc pk204246) (rm_zs pk204246) (Nat.le_of_ble_eq_true rfl) (fun r214642 w214643 dc214639 ds214640 hp214641 => ?_) (fun _ _ _ _ _ z => z.elim)
      obtain ⟨rfl, rfl, hdc, hds⟩ := hp214641
      change G _ _ _ _ _ _ _ (.int p214617 :: _) _ _ _
      refine G_widen (cs' := ((rPh γ el f - rPh γ0 el0 f) / 18)) (sl' := (rPh γ el f - rPh γ0 el0 f)) (rm_d0 hdc) (rm_d0 hds) ?_
      refine G_icmp_ge 178 dr_cX17_merge_7 (by decide +kernel) (fun hc214644 => ?_) (fun hc214644 => ?_)
      · have r214645 : p214617.toInt ≤ g214610.toInt := gC_le hc214644
        refine G_iconst 0 dr_cX17_merge_178 (by decide +kernel) ?_
        exact G_zretA FieldType.boolean dr_cX17_merge_179 rfl rfl (show ((rPh γ el f - rPh γ0 el0 f) / 18) ≤ (((387 * B + 6000) - rPh γ0 el0 f) / 18) by omega) (show (rPh γ el f - rPh γ0 el0 f) ≤ ((387 * B + 6000) - rPh γ0 el0 f) by omega) ⟨P204239, F204240, γ, el, 0, rfl, rfl, hst, ⟨by omega, by omega⟩, hB, (gB_w (gBl (show Int32.toInt 0 = 0 by decide)) (by decide) (by decide)), (by have qa0 : Int32.toInt 0 = 0 := (by decide); omega), (by have qa0 : Int32.toInt 0 = 0 := (by decide); omega), (by have qa0 : Int32.toInt 0 = 0 := (by decide); omega), (by have qa0 : Int32.toInt 0 = 0 := (by decide); omega), (Or.inl (by decide))⟩
      · have r214646 : g214610.toInt < p214617.toInt := gC_nle hc214644
        have bg214610' : gB g214610 0 999999 := ⟨by omega, by omega⟩
        have bp214617' : gB p214617 1 1000000 := ⟨by omega, by omega⟩
        refine G_aload_n 2 dr_cX17_merge_10 rfl ?_
        refine G_iload_n 0 dr_cX17_merge_11 rfl ?_
        have hm214647 : q214614 ∈ P204239 := RS_m hT ht214618 (by decide)
        obtain ⟨⟨p214649, p214650, q214651, he214648, r214652, r214653, r214654, r214656⟩, r214655⟩ := show rk_4 D I γ el F204240 q214614 from RS_o hT ht214618
        have bp214649 := gB_any p214649
        have bp214650 : gB p214650 0 1000000 := ⟨by omega, by omega⟩
        obtain ⟨r214657, r214658, n214665, f214666, r214659, r214660, r214661, r214662, r214663, r214664⟩ := rLC_n r214654 (by omega)
        have hm214667 : q214651 ∈ P204239 := RS_m hT r214657 (by decide)
        obtain ⟨q214668, hx214669⟩ : ∃ x, x = el q214614 g214610.toInt.toNat := ⟨_, rfl⟩
        have hx214670 : f214666 g214610.toNatClampNeg = some q214668 := (r214663 _ (show g214610.toInt.toNat < γ 2 q214614 by first | assumption | omega)).trans (by rw [hx214669])
        have ht214673 : rKd γ q214668 2 := by rw [hx214669]; exact (r214629 _ (by omega)).resolve_right (fun z => absurd z.1 (by omega))
        have ht214674 : rFm γ q214668 q214614 := by rw [hx214669]; exact (r214655 _ (show g214610.toInt.toNat < γ 2 q214614 by omega)).2.1
        have hm214675 : q214668 ∈ P204239 := RS_m hT ht214673 (by decide)
        obtain ⟨q214677, q214678, p214679, p214680, he214676, ht214687, ht214681, ht214682, ht214683, ht214684, ht214685, bp214679, bp214680, r214686, r214688, r214689⟩ := show rk_2 γ q214668 (F204240 q214668) from RS_o hT ht214673
        refine Gw_callV (As := [.int g214610]) (gV_ok D I) (cp_7737_Code_get l hl0 D I P204239 F204240 q204242 q214614 q214651 g214610 q214615 p214616 p214617 p214649 p214650 f214666 n214665 q214668 q214677 q214678 p214679 p214680 hm214612 hm214647 hm214667 hm214675 he214613 he214648 r214659 he214676 (gB_w bg214610' (by decide) (by decide)) (gB_w bp214650 (by decide) (by decide)) (by omega) (by omega) (by assumption) (by omega)) dr_cX17_merge_12 ⟨wr_10_161, wr_1_15, wr_10_141, by decide, rfl, (Nat.le_of_ble_eq_true rfl), (Nat.le_of_ble_eq_true rfl)⟩ wr_10_139 wr_10_140 hm214612 he214613 rfl (rm_zc pk204246) (rm_zs pk204246) (Nat.le_of_ble_eq_true rfl) (fun r214693 w214694 dc214690 ds214691 hp214692 => ?_) (fun _ _ _ _ _ z => z.elim)
        obtain ⟨rfl, rfl, hdc, hds⟩ := hp214692
        change G _ _ _ _ _ _ _ (.ref q214668 :: _) _ _ _
        refine G_widen (cs' := ((rPh γ el f - rPh γ0 el0 f) / 18)) (sl' := (rPh γ el f - rPh γ0 el0 f)) (rm_d0 hdc) (rm_d0 hds) ?_
        have hf214695 : γ 1 q214668 = f := (show γ 1 q214668 = γ 1 q214614 from ht214674).trans ((show γ 1 q214614 = γ 1 q204242 from ht214619).trans hf1)
        have hf214696 : γ 1 q214677 = f := (show γ 1 q214677 = γ 1 q214668 from ht214682).trans hf214695
        have hf214697 : γ 1 q214678 = f := (show γ 1 q214678 = γ 1 q214668 from ht214684).trans hf214695
        have r214698 : γ 6 (γ 1 q214668) = γ 6 f := by rw [hf214695]
        have r214699 : γ 7 (γ 1 q214668) = γ 7 f := by rw [hf214695]
        have r214700 : γ 19 (γ 1 q214668) = γ 19 f := by rw [hf214695]
        have r214701 := r214686.resolve_left (by omega)
        clear r214686
        have r214702 : γ 2 (γ 14 q214668) = γ 2 q214677 := by rw [ht214687.1]
        have r214703 : g214610.toInt.toNat < γ 2 (γ 14 q204242) := by rw [ht214633.1]; omega
        have r214704 : el (γ 14 q204242) g214610.toInt.toNat = q214668 := by rw [ht214633.1, hx214669]
        refine G_astore (L' := [(4, .ref q214668), (3, .int g214610), (0, .ref q204241), (1, .ref q204242), (2, .int p204243)]) dr_cX17_merge_15 (Nat.le_of_ble_eq_true rfl) rfl ?_
        refine G_iconst 0 dr_cX17_merge_17 (by decide +kernel) ?_
        refine G_istore (L' := [(5, .int 0), (4, .ref q214668), (3, .int g214610), (0, .ref q204241), (1, .ref q204242), (2, .int p204243)]) dr_cX17_merge_18 (Nat.le_of_ble_eq_true rfl) rfl ?_
        have hlp20_215071 : ∀ (n20_215071 : Nat) (g215071 : Int32), gB g215071 0 1000000 → ((1000001 : Int) - g215071.toInt).toNat < n20_215071 → G (gV D I) l (gRm 5 111 (((387 * B + 6000) - rPh γ0 el0 f) / 18) ((387 * B + 6000) - rPh γ0 el0 f)) (gMA (gV D I) (pg_204245_SpillForgeModel_merge D I γ0 el0 f B P204239 F204240 q204241 q204242 p204243) gNA (((387 * B + 6000) - rPh γ0 el0 f) / 18) ((387 * B + 6000) - rPh γ0 el0 f)) ky_204245_SpillForgeModel_merge 20 [(5, .int g215071), (4, .ref q214668), (3, .int g214610), (0, .ref q204241), (1, .ref q204242), (2, .int p204243)] [] (va_pl P204239 F204240) ((rPh γ el f - rPh γ0 el0 f) / 18) (rPh γ el f - rPh γ0 el0 f) := by
          intro n20_215071
          induction n20_215071 with
          | zero => intro g215071 bg215071 hm20_215071; exact absurd hm20_215071 (Nat.not_lt_zero _)
          | succ n20_215071 ih20_215071 =>
            intro g215071 bg215071 hm20_215071
            refine G_iload 0 dr_cX17_merge_20 rfl ?_
            refine G_aload 1 dr_cX17_merge_22 rfl ?_
            refine Gp_get 0 hm214675 he214676 dr_cX17_merge_24 (gk_X12 D I) (Nat.le_of_ble_eq_true rfl) wr_9_220 rfl ?_
            have hm215073 : q214677 ∈ P204239 := RS_m hT ht214681 (by decide)
            obtain ⟨⟨p215075, p215076, q215077, he215074, r215078, r215079, r215080, r215082⟩, r215081⟩ := show rk_3 D I γ el F204240 q214677 from RS_o hT ht214681
            have bp215075 := gB_any p215075
            have bp215076 : gB p215076 0 1000000 := ⟨by omega, by omega⟩
            refine Gw_callV (As := []) (gV_ok D I) (cp_7_ArrayList_size l hl0 D I P204239 F204240 q214677 p215075 q215077 p215076 hm215073 he215074 (gB_w bp215076 (by decide) (by decide))) dr_cX17_merge_27 ⟨wr_10_200, wr_1_18, wr_9_160, by decide, rfl, (Nat.le_of_ble_eq_true rfl), (Nat.le_of_ble_eq_true rfl)⟩ wr_9_158 wr_9_159 hm215073 he215074 rfl (rm_zc pk204246) (rm_zs pk204246) (Nat.le_of_ble_eq_true rfl) (fun r215086 w215087 dc215083 ds215084 hp215085 => ?_) (fun _ _ _ _ _ z => z.elim)
            obtain ⟨rfl, rfl, hdc, hds⟩ := hp215085
            change G _ _ _ _ _ _ _ (.int p215076 :: _) _ _ _
            refine G_widen (cs' := ((rPh γ el f - rPh γ0 el0 f) / 18)) (sl' := (rPh γ el f - rPh γ0 el0 f)) (rm_d0 hdc) (rm_d0 hds) ?_
            refine G_icmp_ge 172 dr_cX17_merge_30 (by decide +kernel) (fun hc215088 => ?_) (fun hc215088 => ?_)
            · have r215089 : p215076.toInt ≤ g215071.toInt := gC_le hc215088
              obtain ⟨z215090, hz215090⟩ : ∃ z : Int32, z = g214610 + Int32.ofInt 1 := ⟨_, rfl⟩
              have ez215090 : z215090.toInt = g214610.toInt + 1 := gI_inc hz215090 (by decide) bg214610' (by decide) (by decide)
              have bz215090 : gB z215090 1 1000000 := ⟨by omega, by omega⟩
              refine G_iinc (L' := [(3, .int z215090), (5, .int g215071), (4, .ref q214668), (0, .ref q204241), (1, .ref q204242), (2, .int p204243)]) z215090 2 dr_cX17_merge_172 rfl hz215090.symm (Nat.le_of_ble_eq_true rfl) rfl ?_
              refine G_goto 2 dr_cX17_merge_175 (by decide +kernel) ?_
              refine G_lv (L' := [(3, .int z215090), (0, .ref q204241), (1, .ref q204242), (2, .int p204243)]) [0, 3, 4, 5] rfl ?_
              exact ih2_214610 z215090 (gB_w bz215090 (by decide) (by decide)) (by omega)
            · have r215091 : g215071.toInt < p215076.toInt := gC_nle hc215088
              have bg215071' : gB g215071 0 999999 := ⟨by omega, by omega⟩
              have bp215076' : gB p215076 1 1000000 := ⟨by omega, by omega⟩
              refine G_aload 1 dr_cX17_merge_33 rfl ?_
              refine Gp_get 0 hm214675 he214676 dr_cX17_merge_35 (gk_X12 D I) (Nat.le_of_ble_eq_true rfl) wr_9_220 rfl ?_
              refine G_iload 0 dr_cX17_merge_38 rfl ?_
              obtain ⟨r215092, r215093, n215100, f215101, r215094, r215095, r215096, r215097, r215098, r215099⟩ := rLC_n r215080 (by omega)
              have hm215102 : q215077 ∈ P204239 := RS_m hT r215092 (by decide)
              obtain ⟨q215103, hx215104⟩ : ∃ x, x = el q214677 g215071.toInt.toNat := ⟨_, rfl⟩
              have hx215105 : f215101 g215071.toNatClampNeg = some q215103 := (r215098 _ (show g215071.toInt.toNat < γ 2 q214677 by first | assumption | omega)).trans (by rw [hx215104])
              have ht215106 : rKd γ q215103 1 := by rw [hx215104]; exact (r215081 _ (show g215071.toInt.toNat < γ 2 q214677 by first | assumption | omega)).1
              have ht215107 : rFm γ q215103 q214677 := by rw [hx215104]; exact (r215081 _ (show g215071.toInt.toNat < γ 2 q214677 by first | assumption | omega)).2.1
              have hf215108 : γ 1 q215103 = f := (show γ 1 q215103 = γ 1 q214677 from ht215107).trans hf214696
              refine Gw_callV (As := [.int g215071]) (gV_ok D I) (cp_22_ArrayList_get l hl0 D I P204239 F204240 q214677 q215077 g215071 p215075 p215076 f215101 n215100 q215103 hm215073 hm215102 he215074 r215094 (gB_w bg215071' (by decide) (by decide)) (gB_w bp215076' (by decide) (by decide)) (by omega) (by omega) (by assumption) (by omega)) dr_cX17_merge_40 ⟨wr_10_201, wr_1_18, wr_10_65, by decide, rfl, (Nat.le_of_ble_eq_true rfl), (Nat.le_of_ble_eq_true rfl)⟩ wr_10_63 wr_10_64 hm215073 he215074 rfl (rm_zc pk204246) (rm_zs pk204246) (Nat.le_of_ble_eq_true rfl) (fun r215112 w215113 dc215109 ds215110 hp215111 => ?_) (fun _ _ _ _ _ z => z.elim)
              obtain ⟨rfl, rfl, hdc, hds⟩ := hp215111
              change G _ _ _ _ _ _ _ (.ref q215103 :: _) _ _ _
              refine G_widen (cs' := ((rPh γ el f - rPh γ0 el0 f) / 18)) (sl' := (rPh γ el f - rPh γ0 el0 f)) (rm_d0 hdc) (rm_d0 hds) ?_
              have hm215114 : q215103 ∈ P204239 := RS_m hT ht215106 (by decide)
              obtain ⟨p215116, p215117, p215118, p215119, p215120, p215121, p215122, he215115, bp215116, bp215117, bp215120, bp215121, bp215122, r215123, r215124, r215125, r215126, r215127⟩ := show rk_1 γ q215103 (F204240 q215103) from RS_o hT ht215106
              have bp215118 := gB_any p215118
              have bp215119 := gB_any p215119
              have r215128 : γ 7 (γ 1 q215103) = γ 7 f := by rw [hf215108]
              refine Gp_cast hm215114 he215115 rfl dr_cX17_merge_43 wr_10_202 (gr_cast 1 rfl) ?_
              refine G_astore (L' := [(6, .ref q215103), (5, .int g215071), (4, .ref q214668), (3, .int g214610), (0, .ref q204241), (1, .ref q204242), (2, .int p204243)]) dr_cX17_merge_46 (Nat.le_of_ble_eq_true rfl) rfl ?_
              refine G_aload 0 dr_cX17_merge_48 rfl ?_
              refine Gp_get 0 hm215114 he215115 dr_cX17_merge_50 (gk_X15 D I) (Nat.le_of_ble_eq_true rfl) wr_9_177 rfl ?_
              refine G_if_ne 166 dr_cX17_merge_53 (by decide +kernel) (fun hc215129 => ?_) (fun hc215129 => ?_)
              · have r215130 : p215116.toInt ≠ 0 := gj_neq hc215129 (show Int32.toInt 0 = 0 by decide)
                have bp215116' : gB p215116 1 32 := ⟨by omega, by omega⟩
                obtain ⟨z215131, hz215131⟩ : ∃ z : Int32, z = g215071 + Int32.ofInt 1 := ⟨_, rfl⟩
                have ez215131 : z215131.toInt = g215071.toInt + 1 := gI_inc hz215131 (by decide) bg215071' (by decide) (by decide)
                have bz215131 : gB z215131 1 1000000 := ⟨by omega, by omega⟩
                refine G_iinc (L' := [(5, .int z215131), (6, .ref q215103), (4, .ref q214668), (3, .int g214610), (0, .ref q204241), (1, .ref q204242), (2, .int p204243)]) z215131 1 dr_cX17_merge_166 rfl hz215131.symm (Nat.le_of_ble_eq_true rfl) rfl ?_
                refine G_goto 20 dr_cX17_merge_169 (by decide +kernel) ?_
                refine G_lv (L' := [(5, .int z215131), (4, .ref q214668), (3, .int g214610), (0, .ref q204241), (1, .ref q204242), (2, .int p204243)]) [0, 2, 3, 4, 5, 6] rfl ?_
                exact ih20_215071 z215131 (gB_w bz215131 (by decide) (by decide)) (by omega)
              · have r215132 : p215116.toInt = 0 := gj_eq hc215129 (show Int32.toInt 0 = 0 by decide)
                have bp215116' : gB p215116 0 0 := ⟨by omega, by omega⟩
                refine G_aload 0 dr_cX17_merge_56 rfl ?_
                refine Gp_get 5 hm215114 he215115 dr_cX17_merge_58 (gk_X15 D I) (Nat.le_of_ble_eq_true rfl) wr_9_197 rfl ?_
                refine G_if_eq 166 dr_cX17_merge_61 (by decide +kernel) (fun hc215133 => ?_) (fun hc215133 => ?_)
                · have r215134 : p215121.toInt = 0 := gj_eq hc215133 (show Int32.toInt 0 = 0 by decide)
                  have bp215121' : gB p215121 0 0 := ⟨by omega, by omega⟩
                  obtain ⟨z215135, hz215135⟩ : ∃ z : Int32, z = g215071 + Int32.ofInt 1 := ⟨_, rfl⟩
                  have ez215135 : z215135.toInt = g215071.toInt + 1 := gI_inc hz215135 (by decide) bg215071' (by decide) (by decide)
                  have bz215135 : gB z215135 1 1000000 := ⟨by omega, by omega⟩
                  refine G_iinc (L' := [(5, .int z215135), (6, .ref q215103), (4, .ref q214668), (3, .int g214610), (0, .ref q204241), (1, .ref q204242), (2, .int p204243)]) z215135 1 dr_cX17_merge_166 rfl hz215135.symm (Nat.le_of_ble_eq_true rfl) rfl ?_
                  refine G_goto 20 dr_cX17_merge_169 (by decide +kernel) ?_
                  refine G_lv (L' := [(5, .int z215135), (4, .ref q214668), (3, .int g214610), (0, .ref q204241), (1, .ref q204242), (2, .int p204243)]) [0, 2, 3, 4, 5, 6] rfl ?_
                  exact ih20_215071 z215135 (gB_w bz215135 (by decide) (by decide)) (by omega)
                · have r215136 : p215121.toInt ≠ 0 := gj_neq hc215133 (show Int32.toInt 0 = 0 by decide)
                  have bp215121' : gB p215121 1 1 := ⟨by omega, by omega⟩
                  refine G_aload 0 dr_cX17_merge_64 rfl ?_
                  refine Gp_get 1 hm215114 he215115 dr_cX17_merge_66 (gk_X15 D I) (Nat.le_of_ble_eq_true rfl) wr_9_182 rfl ?_
                  refine G_aload 0 dr_cX17_merge_69 rfl ?_
                  refine Gp_get 2 hm215114 he215115 dr_cX17_merge_71 (gk_X15 D I) (Nat.le_of_ble_eq_true rfl) wr_9_186 rfl ?_
                  refine G_icmp_eq 98 dr_cX17_merge_74 (by decide +kernel) (fun hc215137 => ?_) (fun hc215137 => ?_)
                  · have r215138 : p215117.toInt = p215118.toInt := gC_eq hc215137
                    have bp215118' : gB p215118 0 1999 := ⟨by omega, by omega⟩
                    refine G_aload 0 dr_cX17_merge_98 rfl ?_
                    refine Gp_get 1 hm215114 he215115 dr_cX17_merge_100 (gk_X15 D I) (Nat.le_of_ble_eq_true rfl) wr_9_182 rfl ?_
                    refine G_aload 0 dr_cX17_merge_103 rfl ?_
                    refine Gp_get 2 hm215114 he215115 dr_cX17_merge_105 (gk_X15 D I) (Nat.le_of_ble_eq_true rfl) wr_9_186 rfl ?_
                    refine G_mmin dr_cX17_merge_108 wr_11_20 wr_3_227 wr_1_6 wr_3_228 (Nat.le_of_ble_eq_true rfl) (Nat.le_of_ble_eq_true rfl) (show ((rPh γ el f - rPh γ0 el0 f) / 18) ≤ (((387 * B + 6000) - rPh γ0 el0 f) / 18) by first | omega | decide) (show (rPh γ el f - rPh γ0 el0 f) ≤ ((387 * B + 6000) - rPh γ0 el0 f) by first | omega | decide) (G_nam fun z215139 hz215139 => ?_)
                    have ez215139 : p215117.toInt ≥ z215139.toInt ∧ p215118.toInt ≥ z215139.toInt ∧ (z215139.toInt = p215117.toInt ∨ z215139.toInt = p215118.toInt) := by have := gI_min hz215139; omega
                    have bz215139 : gB z215139 0 1999 := ⟨by omega, by omega⟩
                    refine G_istore (L' := [(7, .int z215139), (6, .ref q215103), (5, .int g215071), (4, .ref q214668), (3, .int g214610), (0, .ref q204241), (1, .ref q204242), (2, .int p204243)]) dr_cX17_merge_111 (Nat.le_of_ble_eq_true rfl) rfl ?_
                    refine G_aload 1 dr_cX17_merge_113 rfl ?_
                    refine Gp_get 1 hm215114 he215115 dr_cX17_merge_115 (gk_X15 D I) (Nat.le_of_ble_eq_true rfl) wr_9_182 rfl ?_
                    refine G_aload 1 dr_cX17_merge_118 rfl ?_
                    refine Gp_get 2 hm215114 he215115 dr_cX17_merge_120 (gk_X15 D I) (Nat.le_of_ble_eq_true rfl) wr_9_186 rfl ?_
                    refine G_mmax dr_cX17_merge_123 wr_11_21 wr_1_140 wr_1_6 wr_1_141 (Nat.le_of_ble_eq_true rfl) (Nat.le_of_ble_eq_true rfl) (show ((rPh γ el f - rPh γ0 el0 f) / 18) ≤ (((387 * B + 6000) - rPh γ0 el0 f) / 18) by first | omega | decide) (show (rPh γ el f - rPh γ0 el0 f) ≤ ((387 * B + 6000) - rPh γ0 el0 f) by first | omega | decide) (G_nam fun z215140 hz215140 => ?_)
                    have ez215140 : p215117.toInt ≤ z215140.toInt ∧ p215118.toInt ≤ z215140.toInt ∧ (z215140.toInt = p215117.toInt ∨ z215140.toInt = p215118.toInt) := by have := gI_max hz215140; omega
                    have bz215140 : gB z215140 0 1999 := ⟨by omega, by omega⟩
                    refine G_istore (L' := [(8, .int z215140), (7, .int z215139), (6, .ref q215103), (5, .int g215071), (4, .ref q214668), (3, .int g214610), (0, .ref q204241), (1, .ref q204242), (2, .int p204243)]) dr_cX17_merge_126 (Nat.le_of_ble_eq_true rfl) rfl ?_
                    refine G_aload 4 dr_cX17_merge_128 rfl ?_
                    refine Gp_get 0 hm214675 he214676 dr_cX17_merge_130 (gk_X12 D I) (Nat.le_of_ble_eq_true rfl) wr_9_220 rfl ?_
                    refine G_iload 3 dr_cX17_merge_133 rfl ?_
                    have rg215141 := rM_ge hT htq204242 hf1
                    have rm215142 := rM_bd hB
                    have bd215143 := rBd_c hT htq204242 hf1 hB
                    have rc215144 := rc_at hT htq204242 hf1
                    have r215146 : γ 14 (el (γ 14 q204242) g214610.toInt.toNat) = q214677 := by rw [r214704]; exact ht214687.1
                    have r215147 := rg215141.2.2 _ r214703
                    rw [r215146] at r215147
                    have r215148 := bd215143.2.2.2 _ r214703
                    rw [r215146] at r215148
                    obtain ⟨q215150, hq215150⟩ : ∃ x, x = el q214677 g215071.toInt.toNat := ⟨_, rfl⟩
                    refine Gt_rem (c := q204242) (f := f) hl0 dr_cX17_merge_135 ⟨wr_11_22, wr_1_18, wr_11_25, by decide, rfl, (Nat.le_of_ble_eq_true rfl), (Nat.le_of_ble_eq_true rfl)⟩ wr_11_23 wr_11_24 hT ht214681 hf214696 htq204242 hf1 (by omega) (by omega) (rm_zc pk204246) (rm_zs pk204246) (Nat.le_of_ble_eq_true rfl) (fun F215145 γ el hq215149 => ?_)
                    rw [← hq215150]
                    have vv215162 := RS_valid hT0 hzq204242 hf0 x204244
                    rw [← hγ0] at vv215162
                    have sm215161 := rDq_sum (m := γ0 6 f) hT htq204242 hf1 (show g214610.toInt.toNat < γ0 6 f by omega) (by omega) r215146 (show g215071.toInt.toNat < _ by omega) hq215149
                    rw [hγ0, hel0] at sm215161
                    obtain ⟨hk215151, h2215152, hel215153, hot215154, h16215155, h18215156, hnu215157, hr215158, hM215159, hBB215160⟩ := hq215149
                    have hk215163 := rSk_of hk215151
                    have r215164 : (fI (F215145 q204242) 3).toInt = (fI (F204240 q204242) 3).toInt := by rw [rSk_F hk215163 htq204242 (by decide) (by decide)]
                    have hT215165 := hk215163.1
                    have hs215166 := rSk_tr hst hk215163 (by decide) (by decide) (by decide)
                    have ht215167 : rKd γ q204241 10 := rSk_k hk215163 htq204241 (by decide) (by decide)
                    have ht215168 : rKd γ q204242 9 := rSk_k hk215163 htq204242 (by decide) (by decide)
                    have hf215169 : γ 1 q204242 = f := rSk_1 hk215163 htq204242 (by decide) hf1
                    have ht215170 : rKd γ q214668 2 := rSk_k hk215163 ht214673 (by decide) (by decide)
                    have hf215171 : γ 1 q214668 = f := rSk_1 hk215163 ht214673 (by decide) hf214695
                    have ht215172 : rKd γ q214677 3 := rSk_k hk215163 ht214681 (by decide) (by decide)
                    have hf215173 : γ 1 q214677 = f := rSk_1 hk215163 ht214681 (by decide) hf214696
                    have ht215174 : rKd γ q215103 1 := rSk_k hk215163 ht215106 (by decide) (by decide)
                    have hf215175 : γ 1 q215103 = f := rSk_1 hk215163 ht215106 (by decide) hf215108
                    have r215176 := (rSk_s hk215163 htq204242 (by decide)).2.1
                    have r215177 := hot215154 _ (by rw [rc215144.2.1]; decide) (fun q => by rw [q, show _ = 3 from ht214681] at rc215144; exact absurd rc215144.2.1 (by decide))
                    have r215178 : g214610.toInt.toNat < γ 2 (γ 14 q204242) := by rw [r215176, r215177.1]; exact r214703
                    have r215179 : el (γ 14 q204242) g214610.toInt.toNat = q214668 := by rw [r215176, r215177.2]; exact r214704
                    have he215180 : F215145 q215103 = .inr (20, [.int p215116, .int p215117, .int p215118, .int p215119, .int p215120, .int p215121, .int p215122]) := (rSk_F hk215163 ht215106 (by decide) (by decide)).trans he215115
                    have hm215181 : q215103 ∈ P204239 := RS_m hT215165 ht215174 (by decide)
                    clear r214622 r214623 r214624 r214625 r214626 r214627 r214629 r214630 r214631 r214632 bp214616 bp214617 bp214679 bp214680 r214688 r214689 rg215141 rm215142 bd215143 rc215144 r215147 r215148
                    obtain ⟨nu215182, nu215183, nu215184, nu215185⟩ := hnu215157
                    have hB215186 : rBd γ el f B := hBB215160 B hB
                    have hph215187 : rPh γ0 el0 f ≤ rPh γ el f := by rw [hr215158]; exact hph
                    have pk215188 : rPh γ el f ≤ 387 * B + 6000 := rm_pk (rM_ge hT215165 ht215168 hf215169).1 (rM_bd hB215186)
                    refine G_widen (cs' := ((rPh γ el f - rPh γ0 el0 f) / 18)) (sl' := (rPh γ el f - rPh γ0 el0 f)) (rm_ec hr215158) (rm_es hr215158) ?_
                    refine G_pop dr_cX17_merge_138 rfl ?_
                    refine G_aload_n 6 dr_cX17_merge_139 rfl ?_
                    refine G_dup dr_cX17_merge_140 rfl ?_
                    have hm215189 : q204241 ∈ P204239 := RS_m hT215165 ht215167 (by decide)
                    obtain ⟨q215191, q215192, p215193, p215194, p215195, p215196, p215197, p215198, p215199, p215200, p215201, p215202, p215203, p215204, p215205, p215206, p215207, he215190, hB215234, ht215208, ht215209, ht215210, ht215211, ht215212, ht215213, ht215214, ht215215, ht215216, ht215217, ht215218, ht215219, ht215220, ht215221, ht215222, ht215223, ht215224, ht215225, ht215226, ht215227, ht215228, ht215229, ht215230, ht215231, hB215235⟩ := show rk_10 γ (F215145 q204241) from RS_o hT215165 ht215167
                    refine Gp_get 13 hm215189 he215190 dr_cX17_merge_141 (gk_X17 D I) (Nat.le_of_ble_eq_true rfl) wr_7_87 rfl ?_
                    have bp215197 : gB p215197 (-2147483648) 2147483647 := (gB_any p215197)
                    refine G_iconst 1 dr_cX17_merge_144 (by decide +kernel) ?_
                    refine G_iadd dr_cX17_merge_145 (G_nam fun z215236 hz215236 => ?_)
                    have bz215236 : gB z215236 (-2147483648) 2147483647 := gB_any z215236
                    refine Gp_put 13 hm215189 he215190 dr_cX17_merge_146 (gk_X17 D I) (Nat.le_of_ble_eq_true rfl) wr_7_87 rfl rfl rfl (Nat.le_of_ble_eq_true rfl) (fun F215237 e215238 n215239 => ?_)
                    have he215240 : F215237 q215103 = .inr (20, [.int p215116, .int p215117, .int p215118, .int p215119, .int p215120, .int p215121, .int p215122]) := (n215239 q215103 (rn_oo he215180 he215190 (by decide))).trans he215180
                    have he215241 : F215237 q204241 = .inr (22, [.ref (γ 9 0), .ref (γ 9 1), .ref (γ 9 2), .ref (γ 9 3), .ref (γ 9 4), .ref (γ 9 5), .ref (γ 9 6), .ref (γ 9 7), .ref (γ 9 8), .int p215193, .int p215194, .int p215195, .int p215196, .int z215236, .int p215198, .ref (γ 9 15), .ref (γ 9 16), .ref (γ 9 17), .ref (γ 9 18), .ref (γ 9 19), .ref (γ 9 20), .ref (γ 9 21), .ref (γ 9 22), .int p215199, .int p215200, .int p215201, .int p215202, .int p215203, .ref q215191, .ref (γ 9 29), .int p215204, .ref (γ 9 31), .int p215205, .int p215206, .int p215207, .ref q215192]) := e215238
                    refine G_iload 1 dr_cX17_merge_149 rfl ?_
                    refine G_iload 0 dr_cX17_merge_151 rfl ?_
                    refine G_icmp_eq 164 dr_cX17_merge_153 (by decide +kernel) (fun hc215242 => ?_) (fun hc215242 => ?_)
                    · have r215243 : z215139.toInt = z215140.toInt := gC_eq hc215242
                      refine G_iconst 1 dr_cX17_merge_164 (by decide +kernel) ?_
                      have hT215244 : RS D I P204239 F215237 γ el := RS_set hT215165 n215239 ht215167 (by decide) ⟨q215191, q215192, p215193, p215194, p215195, p215196, z215236, p215198, p215199, p215200, p215201, p215202, p215203, p215204, p215205, p215206, p215207, he215241, ⟨(hB215234.1), (hB215234.2.1), (hB215234.2.2.1), (hB215234.2.2.2.1), (hB215234.2.2.2.2.1), (hB215234.2.2.2.2.2.1), (hB215234.2.2.2.2.2.2.1), (hB215234.2.2.2.2.2.2.2.1), (hB215234.2.2.2.2.2.2.2.2)⟩, ht215208, ht215209, ht215210, ht215211, ht215212, ht215213, ht215214, ht215215, ht215216, ht215217, ht215218, ht215219, ht215220, ht215221, ht215222, ht215223, ht215224, ht215225, ht215226, ht215227, ht215228, ht215229, ht215230, ht215231, hB215235⟩
                      have hs215245 := rSk_put hs215166 hT215244 n215239 ht215167 (by decide) (by decide)
                      exact G_zretA FieldType.boolean dr_cX17_merge_165 rfl rfl (show ((rPh γ el f - rPh γ0 el0 f) / 18) ≤ (((387 * B + 6000) - rPh γ0 el0 f) / 18) by omega) (show (rPh γ el f - rPh γ0 el0 f) ≤ ((387 * B + 6000) - rPh γ0 el0 f) by omega) ⟨P204239, F215237, γ, el, 1, rfl, rfl, hs215245, ⟨by omega, by omega⟩, hB215186, (gB_w (gBl (show Int32.toInt 1 = 1 by decide)) (by decide) (by decide)), (by have qa0 : Int32.toInt 1 = 1 := (by decide); omega), (by have qa0 : Int32.toInt 1 = 1 := (by decide); omega), (by have qa0 : Int32.toInt 1 = 1 := (by decide); omega), (by have qa0 : Int32.toInt 1 = 1 := (by decide); omega), (Or.inr (by rw [show γ 6 f = γ0 6 f by omega]; exact Nat.le_of_eq sm215161))⟩
                    · have r215246 : z215139.toInt ≠ z215140.toInt := gC_ne hc215242
                      refine G_aload_n 7 dr_cX17_merge_156 rfl ?_
                      refine G_iload 0 dr_cX17_merge_157 rfl ?_
                      refine G_iload 1 dr_cX17_merge_159 rfl ?_
                      have v0_215247 : 0 < γ 6 (γ 1 q204242) := by rw [hf215169]; omega
                      have hT215248 : RS D I P204239 F215237 γ el := RS_set hT215165 n215239 ht215167 (by decide) ⟨q215191, q215192, p215193, p215194, p215195, p215196, z215236, p215198, p215199, p215200, p215201, p215202, p215203, p215204, p215205, p215206, p215207, he215241, ⟨(hB215234.1), (hB215234.2.1), (hB215234.2.2.1), (hB215234.2.2.2.1), (hB215234.2.2.2.2.1), (hB215234.2.2.2.2.2.1), (hB215234.2.2.2.2.2.2.1), (hB215234.2.2.2.2.2.2.2.1), (hB215234.2.2.2.2.2.2.2.2)⟩, ht215208, ht215209, ht215210, ht215211, ht215212, ht215213, ht215214, ht215215, ht215216, ht215217, ht215218, ht215219, ht215220, ht215221, ht215222, ht215223, ht215224, ht215225, ht215226, ht215227, ht215228, ht215229, ht215230, ht215231, hB215235⟩
                      have hs215249 := rSk_put hs215166 hT215248 n215239 ht215167 (by decide) (by decide)
                      refine Gw_callS (As := [.ref q204242, .int z215140, .int z215139]) (gV_ok D I) (ct_165998_SpillForgeModel_rename l hl0 D I γ el P204239 F215237 q204242 z215140 z215139 hT215248 ht215168 bz215140 bz215139 (by omega)) dr_cX17_merge_161 ⟨wr_11_30, wr_1_14, wr_11_32, by decide, rfl, (Nat.le_of_ble_eq_true rfl), (Nat.le_of_ble_eq_true rfl)⟩ wr_11_31 (rm_zc pk215188) (rm_zs pk215188) (Nat.le_of_ble_eq_true rfl) (fun r215253 w215254 dc215250 ds215251 hp215252 => ?_) (fun _ _ _ _ _ z => z.elim)
                      obtain ⟨F215255, rfl, rfl, hT215256, hs215257, hdc, hds⟩ := hp215252
                      have hs215258 := rSk_str hs215249 hT215256 hs215257 (by decide) (by decide) (by decide)
                      change G _ _ _ _ _ _ _ _ _ _ _
                      refine G_widen (cs' := ((rPh γ el f - rPh γ0 el0 f) / 18)) (sl' := (rPh γ el f - rPh γ0 el0 f)) (rm_d0 hdc) (rm_d0 hds) ?_
                      refine G_iconst 1 dr_cX17_merge_164 (by decide +kernel) ?_
                      exact G_zretA FieldType.boolean dr_cX17_merge_165 rfl rfl (show ((rPh γ el f - rPh γ0 el0 f) / 18) ≤ (((387 * B + 6000) - rPh γ0 el0 f) / 18) by omega) (show (rPh γ el f - rPh γ0 el0 f) ≤ ((387 * B + 6000) - rPh γ0 el0 f) by omega) ⟨P204239, F215255, γ, el, 1, rfl, rfl, hs215258, ⟨by omega, by omega⟩, hB215186, (gB_w (gBl (show Int32.toInt 1 = 1 by decide)) (by decide) (by decide)), (by have qa0 : Int32.toInt 1 = 1 := (by decide); omega), (by have qa0 : Int32.toInt 1 = 1 := (by decide); omega), (by have qa0 : Int32.toInt 1 = 1 := (by decide); omega), (by have qa0 : Int32.toInt 1 = 1 := (by decide); omega), (Or.inr (by rw [show γ 6 f = γ0 6 f by omega]; exact Nat.le_of_eq sm215161))⟩
                  · have r215259 : p215117.toInt ≠ p215118.toInt := gC_ne hc215137
                    refine G_aload_n 4 dr_cX17_merge_77 rfl ?_
                    refine G_aload 0 dr_cX17_merge_78 rfl ?_
                    refine Gp_get 1 hm215114 he215115 dr_cX17_merge_80 (gk_X15 D I) (Nat.le_of_ble_eq_true rfl) wr_9_182 rfl ?_
                    refine G_aload 0 dr_cX17_merge_83 rfl ?_
                    refine Gp_get 2 hm215114 he215115 dr_cX17_merge_85 (gk_X15 D I) (Nat.le_of_ble_eq_true rfl) wr_9_186 rfl ?_
                    refine G_iload_n 6 dr_cX17_merge_88 rfl ?_
                    have hm215265 : q204241 ∈ P204239 := RS_m hT htq204241 (by decide)
                    obtain ⟨q215267, q215268, p215269, p215270, p215271, p215272, p215273, p215274, p215275, p215276, p215277, p215278, p215279, p215280, p215281, p215282, p215283, he215266, hB215310, ht215284, ht215285, ht215286, ht215287, ht215288, ht215289, ht215290, ht215291, ht215292, ht215293, ht215294, ht215295, ht215296, ht215297, ht215298, ht215299, ht215300, ht215301, ht215302, ht215303, ht215304, ht215305, ht215306, ht215307, hB215311⟩ := show rk_10 γ (F204240 q204241) from RS_o hT htq204241
                    refine Gw_callV (As := [.int p215117, .int p215118, .int p204243]) (gV_ok D I) (ct_16093_SpillForgeModel_mayMerge l hl0 D I γ el P204239 F204240 q204241 p215117 p215118 p204243 hT htq204241 bp215117 ⟨by omega, by omega⟩) dr_cX17_merge_89 ⟨wr_11_12, wr_1_14, wr_11_15, by decide, rfl, (Nat.le_of_ble_eq_true rfl), (Nat.le_of_ble_eq_true rfl)⟩ wr_11_14 wr_p_102 hm215265 he215266 rfl (rm_zc pk204246) (rm_zs pk204246) (Nat.le_of_ble_eq_true rfl) (fun r215263 w215264 dc215260 ds215261 hp215262 => ?_) (fun _ _ _ _ _ z => z.elim)
                    obtain ⟨o215312, rfl, rfl, hdc, hds, bo215312⟩ := hp215262
                    change G _ _ _ _ _ _ _ (.int o215312 :: _) _ _ _
                    refine G_widen (cs' := ((rPh γ el f - rPh γ0 el0 f) / 18)) (sl' := (rPh γ el f - rPh γ0 el0 f)) (rm_d0 hdc) (rm_d0 hds) ?_
                    refine G_if_ne 98 dr_cX17_merge_92 (by decide +kernel) (fun hc215313 => ?_) (fun hc215313 => ?_)
                    · have r215314 : o215312.toInt ≠ 0 := gj_neq hc215313 (show Int32.toInt 0 = 0 by decide)
                      have bo215312' : gB o215312 1 1 := ⟨by omega, by omega⟩
                      have bp215118' : gB p215118 0 1999 := ⟨by omega, by omega⟩
                      refine G_aload 0 dr_cX17_merge_98 rfl ?_
                      refine Gp_get 1 hm215114 he215115 dr_cX17_merge_100 (gk_X15 D I) (Nat.le_of_ble_eq_true rfl) wr_9_182 rfl ?_
                      refine G_aload 0 dr_cX17_merge_103 rfl ?_
                      refine Gp_get 2 hm215114 he215115 dr_cX17_merge_105 (gk_X15 D I) (Nat.le_of_ble_eq_true rfl) wr_9_186 rfl ?_
                      refine G_mmin dr_cX17_merge_108 wr_11_20 wr_3_227 wr_1_6 wr_3_228 (Nat.le_of_ble_eq_true rfl) (Nat.le_of_ble_eq_true rfl) (show ((rPh γ el f - rPh γ0 el0 f) / 18) ≤ (((387 * B + 6000) - rPh γ0 el0 f) / 18) by first | omega | decide) (show (rPh γ el f - rPh γ0 el0 f) ≤ ((387 * B + 6000) - rPh γ0 el0 f) by first | omega | decide) (G_nam fun z215315 hz215315 => ?_)
                      have ez215315 : p215117.toInt ≥ z215315.toInt ∧ p215118.toInt ≥ z215315.toInt ∧ (z215315.toInt = p215117.toInt ∨ z215315.toInt = p215118.toInt) := by have := gI_min hz215315; omega
                      have bz215315 : gB z215315 0 1999 := ⟨by omega, by omega⟩
                      refine G_istore (L' := [(7, .int z215315), (6, .ref q215103), (5, .int g215071), (4, .ref q214668), (3, .int g214610), (0, .ref q204241), (1, .ref q204242), (2, .int p204243)]) dr_cX17_merge_111 (Nat.le_of_ble_eq_true rfl) rfl ?_
                      refine G_aload 1 dr_cX17_merge_113 rfl ?_
                      refine Gp_get 1 hm215114 he215115 dr_cX17_merge_115 (gk_X15 D I) (Nat.le_of_ble_eq_true rfl) wr_9_182 rfl ?_
                      refine G_aload 1 dr_cX17_merge_118 rfl ?_
                      refine Gp_get 2 hm215114 he215115 dr_cX17_merge_120 (gk_X15 D I) (Nat.le_of_ble_eq_true rfl) wr_9_186 rfl ?_
                      refine G_mmax dr_cX17_merge_123 wr_11_21 wr_1_140 wr_1_6 wr_1_141 (Nat.le_of_ble_eq_true rfl) (Nat.le_of_ble_eq_true rfl) (show ((rPh γ el f - rPh γ0 el0 f) / 18) ≤ (((387 * B + 6000) - rPh γ0 el0 f) / 18) by first | omega | decide) (show (rPh γ el f - rPh γ0 el0 f) ≤ ((387 * B + 6000) - rPh γ0 el0 f) by first | omega | decide) (G_nam fun z215316 hz215316 => ?_)
                      have ez215316 : p215117.toInt ≤ z215316.toInt ∧ p215118.toInt ≤ z215316.toInt ∧ (z215316.toInt = p215117.toInt ∨ z215316.toInt = p215118.toInt) := by have := gI_max hz215316; omega
                      have bz215316 : gB z215316 0 1999 := ⟨by omega, by omega⟩
                      refine G_istore (L' := [(8, .int z215316), (7, .int z215315), (6, .ref q215103), (5, .int g215071), (4, .ref q214668), (3, .int g214610), (0, .ref q204241), (1, .ref q204242), (2, .int p204243)]) dr_cX17_merge_126 (Nat.le_of_ble_eq_true rfl) rfl ?_
                      refine G_aload 4 dr_cX17_merge_128 rfl ?_
                      refine Gp_get 0 hm214675 he214676 dr_cX17_merge_130 (gk_X12 D I) (Nat.le_of_ble_eq_true rfl) wr_9_220 rfl ?_
                      refine G_iload 3 dr_cX17_merge_133 rfl ?_
                      have rg215317 := rM_ge hT htq204242 hf1
                      have rm215318 := rM_bd hB
                      have bd215319 := rBd_c hT htq204242 hf1 hB
                      have rc215320 := rc_at hT htq204242 hf1
                      have r215322 : γ 14 (el (γ 14 q204242) g214610.toInt.toNat) = q214677 := by rw [r214704]; exact ht214687.1
                      have r215323 := rg215317.2.2 _ r214703
                      rw [r215322] at r215323
                      have r215324 := bd215319.2.2.2 _ r214703
                      rw [r215322] at r215324
                      obtain ⟨q215326, hq215326⟩ : ∃ x, x = el q214677 g215071.toInt.toNat := ⟨_, rfl⟩
                      refine Gt_rem (c := q204242) (f := f) hl0 dr_cX17_merge_135 ⟨wr_11_22, wr_1_18, wr_11_25, by decide, rfl, (Nat.le_of_ble_eq_true rfl), (Nat.le_of_ble_eq_true rfl)⟩ wr_11_23 wr_11_24 hT ht214681 hf214696 htq204242 hf1 (by omega) (by omega) (rm_zc pk204246) (rm_zs pk204246) (Nat.le_of_ble_eq_true rfl) (fun F215321 γ el hq215325 => ?_)
                      rw [← hq215326]
                      have vv215338 := RS_valid hT0 hzq204242 hf0 x204244
                      rw [← hγ0] at vv215338
                      have sm215337 := rDq_sum (m := γ0 6 f) hT htq204242 hf1 (show g214610.toInt.toNat < γ0 6 f by omega) (by omega) r215322 (show g215071.toInt.toNat < _ by omega) hq215325
                      rw [hγ0, hel0] at sm215337
                      obtain ⟨hk215327, h2215328, hel215329, hot215330, h16215331, h18215332, hnu215333, hr215334, hM215335, hBB215336⟩ := hq215325
                      have hk215339 := rSk_of hk215327
                      have r215340 : (fI (F215321 q204242) 3).toInt = (fI (F204240 q204242) 3).toInt := by rw [rSk_F hk215339 htq204242 (by decide) (by decide)]
                      have hT215341 := hk215339.1
                      have hs215342 := rSk_tr hst hk215339 (by decide) (by decide) (by decide)
                      have r215343 := rSk_F hk215339 htq204241 (by decide) (by decide)
                      have ht215344 : rKd γ q204241 10 := rSk_k hk215339 htq204241 (by decide) (by decide)
                      have ht215345 : rKd γ q204242 9 := rSk_k hk215339 htq204242 (by decide) (by decide)
                      have hf215346 : γ 1 q204242 = f := rSk_1 hk215339 htq204242 (by decide) hf1
                      have ht215347 : rKd γ q214668 2 := rSk_k hk215339 ht214673 (by decide) (by decide)
                      have hf215348 : γ 1 q214668 = f := rSk_1 hk215339 ht214673 (by decide) hf214695
                      have ht215349 : rKd γ q214677 3 := rSk_k hk215339 ht214681 (by decide) (by decide)
                      have hf215350 : γ 1 q214677 = f := rSk_1 hk215339 ht214681 (by decide) hf214696
                      have ht215351 : rKd γ q215103 1 := rSk_k hk215339 ht215106 (by decide) (by decide)
                      have hf215352 : γ 1 q215103 = f := rSk_1 hk215339 ht215106 (by decide) hf215108
                      have r215353 := (rSk_s hk215339 htq204242 (by decide)).2.1
                      have r215354 := hot215330 _ (by rw [rc215320.2.1]; decide) (fun q => by rw [q, show _ = 3 from ht214681] at rc215320; exact absurd rc215320.2.1 (by decide))
                      have r215355 : g214610.toInt.toNat < γ 2 (γ 14 q204242) := by rw [r215353, r215354.1]; exact r214703
                      have r215356 : el (γ 14 q204242) g214610.toInt.toNat = q214668 := by rw [r215353, r215354.2]; exact r214704
                      have he215357 : F215321 q215103 = .inr (20, [.int p215116, .int p215117, .int p215118, .int p215119, .int p215120, .int p215121, .int p215122]) := (rSk_F hk215339 ht215106 (by decide) (by decide)).trans he215115
                      have hm215358 : q215103 ∈ P204239 := RS_m hT215341 ht215351 (by decide)
                      clear r214622 r214623 r214624 r214625 r214626 r214627 r214629 r214630 r214631 r214632 bp214616 bp214617 bp214679 bp214680 r214688 r214689 rg215317 rm215318 bd215319 rc215320 r215323 r215324
                      obtain ⟨nu215359, nu215360, nu215361, nu215362⟩ := hnu215333
                      have hB215363 : rBd γ el f B := hBB215336 B hB
                      have hph215364 : rPh γ0 el0 f ≤ rPh γ el f := by rw [hr215334]; exact hph
                      have pk215365 : rPh γ el f ≤ 387 * B + 6000 := rm_pk (rM_ge hT215341 ht215345 hf215346).1 (rM_bd hB215363)
                      refine G_widen (cs' := ((rPh γ el f - rPh γ0 el0 f) / 18)) (sl' := (rPh γ el f - rPh γ0 el0 f)) (rm_ec hr215334) (rm_es hr215334) ?_
                      refine G_pop dr_cX17_merge_138 rfl ?_
                      refine G_aload_n 6 dr_cX17_merge_139 rfl ?_
                      refine G_dup dr_cX17_merge_140 rfl ?_
                      have hm215366 : q204241 ∈ P204239 := RS_m hT215341 ht215344 (by decide)
                      obtain ⟨q215368, q215369, p215370, p215371, p215372, p215373, p215374, p215375, p215376, p215377, p215378, p215379, p215380, p215381, p215382, p215383, p215384, he215367, hB215411, ht215385, ht215386, ht215387, ht215388, ht215389, ht215390, ht215391, ht215392, ht215393, ht215394, ht215395, ht215396, ht215397, ht215398, ht215399, ht215400, ht215401, ht215402, ht215403, ht215404, ht215405, ht215406, ht215407, ht215408, hB215412⟩ := show rk_10 γ (F215321 q204241) from RS_o hT215341 ht215344
                      refine Gp_get 13 hm215366 he215367 dr_cX17_merge_141 (gk_X17 D I) (Nat.le_of_ble_eq_true rfl) wr_7_87 rfl ?_
                      have bp215374 : gB p215374 (-2147483648) 2147483647 := (gB_any p215374)
                      refine G_iconst 1 dr_cX17_merge_144 (by decide +kernel) ?_
                      refine G_iadd dr_cX17_merge_145 (G_nam fun z215413 hz215413 => ?_)
                      have bz215413 : gB z215413 (-2147483648) 2147483647 := gB_any z215413
                      refine Gp_put 13 hm215366 he215367 dr_cX17_merge_146 (gk_X17 D I) (Nat.le_of_ble_eq_true rfl) wr_7_87 rfl rfl rfl (Nat.le_of_ble_eq_true rfl) (fun F215414 e215415 n215416 => ?_)
                      have he215417 : F215414 q215103 = .inr (20, [.int p215116, .int p215117, .int p215118, .int p215119, .int p215120, .int p215121, .int p215122]) := (n215416 q215103 (rn_oo he215357 he215367 (by decide))).trans he215357
                      have he215418 : F215414 q204241 = .inr (22, [.ref (γ 9 0), .ref (γ 9 1), .ref (γ 9 2), .ref (γ 9 3), .ref (γ 9 4), .ref (γ 9 5), .ref (γ 9 6), .ref (γ 9 7), .ref (γ 9 8), .int p215370, .int p215371, .int p215372, .int p215373, .int z215413, .int p215375, .ref (γ 9 15), .ref (γ 9 16), .ref (γ 9 17), .ref (γ 9 18), .ref (γ 9 19), .ref (γ 9 20), .ref (γ 9 21), .ref (γ 9 22), .int p215376, .int p215377, .int p215378, .int p215379, .int p215380, .ref q215368, .ref (γ 9 29), .int p215381, .ref (γ 9 31), .int p215382, .int p215383, .int p215384, .ref q215369]) := e215415
                      refine G_iload 1 dr_cX17_merge_149 rfl ?_
                      refine G_iload 0 dr_cX17_merge_151 rfl ?_
                      refine G_icmp_eq 164 dr_cX17_merge_153 (by decide +kernel) (fun hc215419 => ?_) (fun hc215419 => ?_)
                      · have r215420 : z215315.toInt = z215316.toInt := gC_eq hc215419
                        refine G_iconst 1 dr_cX17_merge_164 (by decide +kernel) ?_
                        have hT215421 : RS D I P204239 F215414 γ el := RS_set hT215341 n215416 ht215344 (by decide) ⟨q215368, q215369, p215370, p215371, p215372, p215373, z215413, p215375, p215376, p215377, p215378, p215379, p215380, p215381, p215382, p215383, p215384, he215418, ⟨(hB215411.1), (hB215411.2.1), (hB215411.2.2.1), (hB215411.2.2.2.1), (hB215411.2.2.2.2.1), (hB215411.2.2.2.2.2.1), (hB215411.2.2.2.2.2.2.1), (hB215411.2.2.2.2.2.2.2.1), (hB215411.2.2.2.2.2.2.2.2)⟩, ht215385, ht215386, ht215387, ht215388, ht215389, ht215390, ht215391, ht215392, ht215393, ht215394, ht215395, ht215396, ht215397, ht215398, ht215399, ht215400, ht215401, ht215402, ht215403, ht215404, ht215405, ht215406, ht215407, ht215408, hB215412⟩
                        have hs215422 := rSk_put hs215342 hT215421 n215416 ht215344 (by decide) (by decide)
                        exact G_zretA FieldType.boolean dr_cX17_merge_165 rfl rfl (show ((rPh γ el f - rPh γ0 el0 f) / 18) ≤ (((387 * B + 6000) - rPh γ0 el0 f) / 18) by omega) (show (rPh γ el f - rPh γ0 el0 f) ≤ ((387 * B + 6000) - rPh γ0 el0 f) by omega) ⟨P204239, F215414, γ, el, 1, rfl, rfl, hs215422, ⟨by omega, by omega⟩, hB215363, (gB_w (gBl (show Int32.toInt 1 = 1 by decide)) (by decide) (by decide)), (by have qa0 : Int32.toInt 1 = 1 := (by decide); omega), (by have qa0 : Int32.toInt 1 = 1 := (by decide); omega), (by have qa0 : Int32.toInt 1 = 1 := (by decide); omega), (by have qa0 : Int32.toInt 1 = 1 := (by decide); omega), (Or.inr (by rw [show γ 6 f = γ0 6 f by omega]; exact Nat.le_of_eq sm215337))⟩
                      · have r215423 : z215315.toInt ≠ z215316.toInt := gC_ne hc215419
                        refine G_aload_n 7 dr_cX17_merge_156 rfl ?_
                        refine G_iload 0 dr_cX17_merge_157 rfl ?_
                        refine G_iload 1 dr_cX17_merge_159 rfl ?_
                        have v0_215424 : 0 < γ 6 (γ 1 q204242) := by rw [hf215346]; omega
                        have hT215425 : RS D I P204239 F215414 γ el := RS_set hT215341 n215416 ht215344 (by decide) ⟨q215368, q215369, p215370, p215371, p215372, p215373, z215413, p215375, p215376, p215377, p215378, p215379, p215380, p215381, p215382, p215383, p215384, he215418, ⟨(hB215411.1), (hB215411.2.1), (hB215411.2.2.1), (hB215411.2.2.2.1), (hB215411.2.2.2.2.1), (hB215411.2.2.2.2.2.1), (hB215411.2.2.2.2.2.2.1), (hB215411.2.2.2.2.2.2.2.1), (hB215411.2.2.2.2.2.2.2.2)⟩, ht215385, ht215386, ht215387, ht215388, ht215389, ht215390, ht215391, ht215392, ht215393, ht215394, ht215395, ht215396, ht215397, ht215398, ht215399, ht215400, ht215401, ht215402, ht215403, ht215404, ht215405, ht215406, ht215407, ht215408, hB215412⟩
                        have hs215426 := rSk_put hs215342 hT215425 n215416 ht215344 (by decide) (by decide)
                        refine Gw_callS (As := [.ref q204242, .int z215316, .int z215315]) (gV_ok D I) (ct_165998_SpillForgeModel_rename l hl0 D I γ el P204239 F215414 q204242 z215316 z215315 hT215425 ht215345 bz215316 bz215315 (by omega)) dr_cX17_merge_161 ⟨wr_11_30, wr_1_14, wr_11_32, by decide, rfl, (Nat.le_of_ble_eq_true rfl), (Nat.le_of_ble_eq_true rfl)⟩ wr_11_31 (rm_zc pk215365) (rm_zs pk215365) (Nat.le_of_ble_eq_true rfl) (fun r215430 w215431 dc215427 ds215428 hp215429 => ?_) (fun _ _ _ _ _ z => z.elim)
                        obtain ⟨F215432, rfl, rfl, hT215433, hs215434, hdc, hds⟩ := hp215429
                        have hs215435 := rSk_str hs215426 hT215433 hs215434 (by decide) (by decide) (by decide)
                        change G _ _ _ _ _ _ _ _ _ _ _
                        refine G_widen (cs' := ((rPh γ el f - rPh γ0 el0 f) / 18)) (sl' := (rPh γ el f - rPh γ0 el0 f)) (rm_d0 hdc) (rm_d0 hds) ?_
                        refine G_iconst 1 dr_cX17_merge_164 (by decide +kernel) ?_
                        exact G_zretA FieldType.boolean dr_cX17_merge_165 rfl rfl (show ((rPh γ el f - rPh γ0 el0 f) / 18) ≤ (((387 * B + 6000) - rPh γ0 el0 f) / 18) by omega) (show (rPh γ el f - rPh γ0 el0 f) ≤ ((387 * B + 6000) - rPh γ0 el0 f) by omega) ⟨P204239, F215432, γ, el, 1, rfl, rfl, hs215435, ⟨by omega, by omega⟩, hB215363, (gB_w (gBl (show Int32.toInt 1 = 1 by decide)) (by decide) (by decide)), (by have qa0 : Int32.toInt 1 = 1 := (by decide); omega), (by have qa0 : Int32.toInt 1 = 1 := (by decide); omega), (by have qa0 : Int32.toInt 1 = 1 := (by decide); omega), (by have qa0 : Int32.toInt 1 = 1 := (by decide); omega), (Or.inr (by rw [show γ 6 f = γ0 6 f by omega]; exact Nat.le_of_eq sm215337))⟩
                    · have r215436 : o215312.toInt = 0 := gj_eq hc215313 (show Int32.toInt 0 = 0 by decide)
                      have bo215312' : gB o215312 0 0 := ⟨by omega, by omega⟩
                      refine G_goto 166 dr_cX17_merge_95 (by decide +kernel) ?_
                      obtain ⟨z215437, hz215437⟩ : ∃ z : Int32, z = g215071 + Int32.ofInt 1 := ⟨_, rfl⟩
                      have ez215437 : z215437.toInt = g215071.toInt + 1 := gI_inc hz215437 (by decide) bg215071' (by decide) (by decide)
                      have bz215437 : gB z215437 1 1000000 := ⟨by omega, by omega⟩
                      refine G_iinc (L' := [(5, .int z215437), (6, .ref q215103), (4, .ref q214668), (3, .int g214610), (0, .ref q204241), (1, .ref q204242), (2, .int p204243)]) z215437 1 dr_cX17_merge_166 rfl hz215437.symm (Nat.le_of_ble_eq_true rfl) rfl ?_
                      refine G_goto 20 dr_cX17_merge_169 (by decide +kernel) ?_
                      refine G_lv (L' := [(5, .int z215437), (4, .ref q214668), (3, .int g214610), (0, .ref q204241), (1, .ref q204242), (2, .int p204243)]) [0, 2, 3, 4, 5, 6] rfl ?_
                      exact ih20_215071 z215437 (gB_w bz215437 (by decide) (by decide)) (by omega)
        exact hlp20_215071 (((1000001 : Int) - 0).toNat + 1) 0 (gB_w (gBl (show Int32.toInt 0 = 0 by decide)) (by decide) (by decide)) (Nat.lt_succ_self _)
  exact hlp2_214610 (((1000001 : Int) - 0).toNat + 1) 0 (gB_w (gBl (show Int32.toInt 0 = 0 by decide)) (by decide) (by decide)) (Nat.lt_succ_self _)
