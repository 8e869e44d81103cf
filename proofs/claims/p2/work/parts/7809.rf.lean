theorem dr_cX17_merge_0 : decode cX17_merge 0 = .ok (.iconst 0, 1) := by decide +kernel
theorem dr_cX17_merge_1 : decode cX17_merge 1 = .ok (.istore_n 3, 1) := by decide +kernel
theorem dr_cX17_merge_2 : decode cX17_merge 2 = .ok (.iload_n 3, 1) := by decide +kernel
theorem dr_cX17_merge_3 : decode cX17_merge 3 = .ok (.aload_n 1, 1) := by decide +kernel
theorem dr_cX17_merge_4 : decode cX17_merge 4 = .ok (.invokevirtual 96, 3) := by decide +kernel
theorem dr_cX17_merge_7 : decode cX17_merge 7 = .ok (.if_icmp .ge 171, 3) := by decide +kernel
theorem dr_cX17_merge_178 : decode cX17_merge 178 = .ok (.iconst 0, 1) := by decide +kernel
theorem dr_cX17_merge_179 : decode cX17_merge 179 = .ok (.ireturn, 1) := by decide +kernel
theorem dr_cX17_merge_10 : decode cX17_merge 10 = .ok (.aload_n 1, 1) := by decide +kernel
theorem dr_cX17_merge_11 : decode cX17_merge 11 = .ok (.iload_n 3, 1) := by decide +kernel
theorem dr_cX17_merge_12 : decode cX17_merge 12 = .ok (.invokevirtual 101, 3) := by decide +kernel
theorem dr_cX17_merge_15 : decode cX17_merge 15 = .ok (.astore 4, 2) := by decide +kernel
theorem dr_cX17_merge_17 : decode cX17_merge 17 = .ok (.iconst 0, 1) := by decide +kernel
theorem dr_cX17_merge_18 : decode cX17_merge 18 = .ok (.istore 5, 2) := by decide +kernel
theorem dr_cX17_merge_20 : decode cX17_merge 20 = .ok (.iload 5, 2) := by decide +kernel
theorem dr_cX17_merge_22 : decode cX17_merge 22 = .ok (.aload 4, 2) := by decide +kernel
theorem dr_cX17_merge_24 : decode cX17_merge 24 = .ok (.getfield 117, 3) := by decide +kernel
theorem dr_cX17_merge_27 : decode cX17_merge 27 = .ok (.invokevirtual 121, 3) := by decide +kernel
theorem dr_cX17_merge_30 : decode cX17_merge 30 = .ok (.if_icmp .ge 142, 3) := by decide +kernel
theorem dr_cX17_merge_172 : decode cX17_merge 172 = .ok (.iinc 3 1, 3) := by decide +kernel
theorem dr_cX17_merge_175 : decode cX17_merge 175 = .ok (.goto (-173), 3) := by decide +kernel
theorem dr_cX17_merge_33 : decode cX17_merge 33 = .ok (.aload 4, 2) := by decide +kernel
theorem dr_cX17_merge_35 : decode cX17_merge 35 = .ok (.getfield 117, 3) := by decide +kernel
theorem dr_cX17_merge_38 : decode cX17_merge 38 = .ok (.iload 5, 2) := by decide +kernel
theorem dr_cX17_merge_40 : decode cX17_merge 40 = .ok (.invokevirtual 124, 3) := by decide +kernel
theorem dr_cX17_merge_43 : decode cX17_merge 43 = .ok (.checkcast 40, 3) := by decide +kernel
theorem dr_cX17_merge_46 : decode cX17_merge 46 = .ok (.astore 6, 2) := by decide +kernel
theorem dr_cX17_merge_48 : decode cX17_merge 48 = .ok (.aload 6, 2) := by decide +kernel
theorem dr_cX17_merge_50 : decode cX17_merge 50 = .ok (.getfield 39, 3) := by decide +kernel
theorem dr_cX17_merge_53 : decode cX17_merge 53 = .ok (.ifCond .ne 113, 3) := by decide +kernel
theorem dr_cX17_merge_166 : decode cX17_merge 166 = .ok (.iinc 5 1, 3) := by decide +kernel
theorem dr_cX17_merge_169 : decode cX17_merge 169 = .ok (.goto (-149), 3) := by decide +kernel
theorem dr_cX17_merge_56 : decode cX17_merge 56 = .ok (.aload 6, 2) := by decide +kernel
theorem dr_cX17_merge_58 : decode cX17_merge 58 = .ok (.getfield 141, 3) := by decide +kernel
theorem dr_cX17_merge_61 : decode cX17_merge 61 = .ok (.ifCond .eq 105, 3) := by decide +kernel
theorem dr_cX17_merge_64 : decode cX17_merge 64 = .ok (.aload 6, 2) := by decide +kernel
theorem dr_cX17_merge_66 : decode cX17_merge 66 = .ok (.getfield 52, 3) := by decide +kernel
theorem dr_cX17_merge_69 : decode cX17_merge 69 = .ok (.aload 6, 2) := by decide +kernel
theorem dr_cX17_merge_71 : decode cX17_merge 71 = .ok (.getfield 73, 3) := by decide +kernel
theorem dr_cX17_merge_74 : decode cX17_merge 74 = .ok (.if_icmp .eq 24, 3) := by decide +kernel
theorem dr_cX17_merge_98 : decode cX17_merge 98 = .ok (.aload 6, 2) := by decide +kernel
theorem dr_cX17_merge_100 : decode cX17_merge 100 = .ok (.getfield 52, 3) := by decide +kernel
theorem dr_cX17_merge_103 : decode cX17_merge 103 = .ok (.aload 6, 2) := by decide +kernel
theorem dr_cX17_merge_105 : decode cX17_merge 105 = .ok (.getfield 73, 3) := by decide +kernel
theorem dr_cX17_merge_108 : decode cX17_merge 108 = .ok (.invokestatic 164, 3) := by decide +kernel
theorem dr_cX17_merge_111 : decode cX17_merge 111 = .ok (.istore 7, 2) := by decide +kernel
theorem dr_cX17_merge_113 : decode cX17_merge 113 = .ok (.aload 6, 2) := by decide +kernel
theorem dr_cX17_merge_115 : decode cX17_merge 115 = .ok (.getfield 52, 3) := by decide +kernel
theorem dr_cX17_merge_118 : decode cX17_merge 118 = .ok (.aload 6, 2) := by decide +kernel
theorem dr_cX17_merge_120 : decode cX17_merge 120 = .ok (.getfield 73, 3) := by decide +kernel
theorem dr_cX17_merge_123 : decode cX17_merge 123 = .ok (.invokestatic 189, 3) := by decide +kernel
theorem wr_11_21 : (Jvm.Cond.methodLink "SpillForgeModel" (189 : Nat) ({ cls := "java/lang/Math", name := "max", desc := "(II)I" } : Jvm.MethodName)) ∈ gw := gw_11 21 rfl rfl
theorem dr_cX17_merge_126 : decode cX17_merge 126 = .ok (.istore 8, 2) := by decide +kernel
theorem dr_cX17_merge_128 : decode cX17_merge 128 = .ok (.aload 4, 2) := by decide +kernel
theorem dr_cX17_merge_130 : decode cX17_merge 130 = .ok (.getfield 117, 3) := by decide +kernel
theorem dr_cX17_merge_133 : decode cX17_merge 133 = .ok (.iload 5, 2) := by decide +kernel
theorem dr_cX17_merge_135 : decode cX17_merge 135 = .ok (.invokevirtual 192, 3) := by decide +kernel
theorem wr_11_22 : (Jvm.Cond.methodLink "SpillForgeModel" (192 : Nat) ({ cls := "java/util/ArrayList", name := "remove", desc := "(I)Ljava/lang/Object;" } : Jvm.MethodName)) ∈ gw := gw_11 22 rfl rfl
theorem wr_11_25 : (Jvm.Cond.code ({ cls := "java/util/ArrayList", name := "remove", desc := "(I)Ljava/lang/Object;" } : Jvm.MethodName) prog_43_method_29_code (4 : Nat) (Option.some (Jvm.ClassFile.FieldType.object "java/lang/Object"))) ∈ gw := gw_11 25 rfl rfl
theorem wr_11_23 : (Jvm.Cond.instanceMethod ({ cls := "java/util/ArrayList", name := "remove", desc := "(I)Ljava/lang/Object;" } : Jvm.MethodName)) ∈ gw := gw_11 23 rfl rfl
theorem wr_11_24 : (Jvm.Cond.selects "java/util/ArrayList" ({ cls := "java/util/ArrayList", name := "remove", desc := "(I)Ljava/lang/Object;" } : Jvm.MethodName) ({ cls := "java/util/ArrayList", name := "remove", desc := "(I)Ljava/lang/Object;" } : Jvm.MethodName)) ∈ gw := gw_11 24 rfl rfl
theorem dr_cX17_merge_138 : decode cX17_merge 138 = .ok (.pop, 1) := by decide +kernel
theorem dr_cX17_merge_139 : decode cX17_merge 139 = .ok (.aload_n 0, 1) := by decide +kernel
theorem dr_cX17_merge_140 : decode cX17_merge 140 = .ok (.dup, 1) := by decide +kernel
theorem dr_cX17_merge_141 : decode cX17_merge 141 = .ok (.getfield 195, 3) := by decide +kernel
theorem wr_7_87 : (Jvm.Cond.fieldLink "SpillForgeModel" (195 : Nat) "SpillForgeModel" "merged" "I") ∈ gw := gw_7 87 rfl rfl
theorem dr_cX17_merge_144 : decode cX17_merge 144 = .ok (.iconst 1, 1) := by decide +kernel
theorem dr_cX17_merge_145 : decode cX17_merge 145 = .ok (.iadd, 1) := by decide +kernel
theorem dr_cX17_merge_146 : decode cX17_merge 146 = .ok (.putfield 195, 3) := by decide +kernel
theorem dr_cX17_merge_149 : decode cX17_merge 149 = .ok (.iload 7, 2) := by decide +kernel
theorem dr_cX17_merge_151 : decode cX17_merge 151 = .ok (.iload 8, 2) := by decide +kernel
theorem dr_cX17_merge_153 : decode cX17_merge 153 = .ok (.if_icmp .eq 11, 3) := by decide +kernel
theorem dr_cX17_merge_164 : decode cX17_merge 164 = .ok (.iconst 1, 1) := by decide +kernel
theorem dr_cX17_merge_165 : decode cX17_merge 165 = .ok (.ireturn, 1) := by decide +kernel
theorem dr_cX17_merge_156 : decode cX17_merge 156 = .ok (.aload_n 1, 1) := by decide +kernel
theorem dr_cX17_merge_157 : decode cX17_merge 157 = .ok (.iload 8, 2) := by decide +kernel
theorem dr_cX17_merge_159 : decode cX17_merge 159 = .ok (.iload 7, 2) := by decide +kernel
theorem dr_cX17_merge_161 : decode cX17_merge 161 = .ok (.invokestatic 198, 3) := by decide +kernel
theorem wr_11_30 : (Jvm.Cond.methodLink "SpillForgeModel" (198 : Nat) ({ cls := "SpillForgeModel", name := "rename", desc := "(LSpillForgeModel$Code;II)V" } : Jvm.MethodName)) ∈ gw := gw_11 30 rfl rfl
theorem wr_11_32 : (Jvm.Cond.code ({ cls := "SpillForgeModel", name := "rename", desc := "(LSpillForgeModel$Code;II)V" } : Jvm.MethodName) prog_14_method_19_code (7 : Nat) (Option.none : Option Jvm.ClassFile.FieldType)) ∈ gw := gw_11 32 rfl rfl
theorem wr_11_31 : (Jvm.Cond.static ({ cls := "SpillForgeModel", name := "rename", desc := "(LSpillForgeModel$Code;II)V" } : Jvm.MethodName)) ∈ gw := gw_11 31 rfl rfl
theorem dr_cX17_merge_77 : decode cX17_merge 77 = .ok (.aload_n 0, 1) := by decide +kernel
theorem dr_cX17_merge_78 : decode cX17_merge 78 = .ok (.aload 6, 2) := by decide +kernel
theorem dr_cX17_merge_80 : decode cX17_merge 80 = .ok (.getfield 52, 3) := by decide +kernel
theorem dr_cX17_merge_83 : decode cX17_merge 83 = .ok (.aload 6, 2) := by decide +kernel
theorem dr_cX17_merge_85 : decode cX17_merge 85 = .ok (.getfield 73, 3) := by decide +kernel
theorem dr_cX17_merge_88 : decode cX17_merge 88 = .ok (.iload_n 2, 1) := by decide +kernel
theorem dr_cX17_merge_89 : decode cX17_merge 89 = .ok (.invokevirtual 185, 3) := by decide +kernel
theorem wr_11_12 : (Jvm.Cond.methodLink "SpillForgeModel" (185 : Nat) ({ cls := "SpillForgeModel", name := "mayMerge", desc := "(III)Z" } : Jvm.MethodName)) ∈ gw := gw_11 12 rfl rfl
theorem wr_11_15 : (Jvm.Cond.code ({ cls := "SpillForgeModel", name := "mayMerge", desc := "(III)Z" } : Jvm.MethodName) prog_14_method_18_code (8 : Nat) (Option.some Jvm.ClassFile.FieldType.boolean)) ∈ gw := gw_11 15 rfl rfl
theorem wr_11_14 : (Jvm.Cond.instanceMethod ({ cls := "SpillForgeModel", name := "mayMerge", desc := "(III)Z" } : Jvm.MethodName)) ∈ gw := gw_11 14 rfl rfl
theorem wr_p_102 : Cond.selects "SpillForgeModel" ⟨"SpillForgeModel", "mayMerge", "(III)Z"⟩ ⟨"SpillForgeModel", "mayMerge", "(III)Z"⟩ ∈ gw := gw_p _ 102 rfl rfl rfl
theorem dr_cX17_merge_92 : decode cX17_merge 92 = .ok (.ifCond .ne 6, 3) := by decide +kernel
theorem dr_cX17_merge_95 : decode cX17_merge 95 = .ok (.goto 71, 3) := by decide +kernel
abbrev ky_203310_SpillForgeModel_merge : gKey := (cX17_merge, 9, "SpillForgeModel", (some FieldType.boolean), [], "merge", fun _ _ => True)
def pg_203310_SpillForgeModel_merge (D : va_G) (I : FieldType → ClassId) (γ0 el0 : Nat → Nat → Nat) (f : Nat) (B : Nat) (P203304 : List Nat) (F203305 : Nat → va_E) (q203306 : Nat) (q203307 : Nat) (p203308 : Int32) : Option Value → va_W → Nat → Nat → Prop := fun r w dc ds => ∃ (P214476 : List Nat) (F214477 : Nat → va_E) (γ el : Nat → Nat → Nat) (o214475 : Int32), r = some (.int o214475) ∧ w = va_pl P214476 F214477 ∧ rSk f [] ([1, 3, 6] ++ npk) D I P203304 F203305 γ0 el0 P214476 F214477 γ el ∧ (18 * dc + rPh γ0 el0 f ≤ rPh γ el f ∧ ds + rPh γ0 el0 f ≤ rPh γ el f) ∧ rBd γ el f B ∧ gB o214475 0 1 ∧ γ 6 f = γ0 6 f ∧ γ 7 f = γ0 7 f ∧ γ 16 f = γ0 16 f ∧ γ 18 f = γ0 18 f ∧ (o214475.toInt = 0 ∨ rsum (fun i => γ 2 (γ 14 (el (γ 14 q203307) i))) (γ 6 f) + 1 ≤ rsum (fun i => γ0 2 (γ0 14 (el0 (γ0 14 q203307) i))) (γ0 6 f))
set_option maxRecDepth 100000 in
set_option maxHeartbeats 1500000 in
theorem cg_203310_SpillForgeModel_merge (l : Launch) (hl0 : l.stackTraces = false) (D : va_G) (I : FieldType → ClassId) (γ0 el0 : Nat → Nat → Nat) (f : Nat) (B : Nat) (P203304 : List Nat) (F203305 : Nat → va_E) (q203306 : Nat) (q203307 : Nat) (p203308 : Int32) (hT0 : RS D I P203304 F203305 γ0 el0) (hzq203306 : rKd γ0 q203306 10) (hzq203307 : rKd γ0 q203307 9) (hf0 : γ0 1 q203307 = f) (hB0 : rBd γ0 el0 f B) (hBk : B ≤ 100000) (x203309 : 0 < γ0 6 f) : CtA (gV D I) l yX17_merge cX17_merge 9 (some FieldType.boolean) 5 111 (((387 * B + 6000) - rPh γ0 el0 f) / 18) ((387 * B + 6000) - rPh γ0 el0 f) [.ref q203306, .ref q203307, .int p203308] (va_pl P203304 F203305) (pg_203310_SpillForgeModel_merge D I γ0 el0 f B P203304 F203305 q203306 q203307 p203308) gNA := by
  refine CtA_of hl0 (by decide) (Nat.le_of_ble_eq_true rfl) ?_
  have bp203308 := gB_any p203308
  obtain ⟨γ, hγ0⟩ : ∃ z, z = γ0 := ⟨_, rfl⟩
  obtain ⟨el, hel0⟩ : ∃ z, z = el0 := ⟨_, rfl⟩
  have hT : RS D I P203304 F203305 γ el := by rw [hγ0, hel0]; exact hT0
  have hst : rSk f [] ([1, 3, 6] ++ npk) D I P203304 F203305 γ0 el0 P203304 F203305 γ el := by rw [hγ0, hel0]; exact rSk_rf hT0
  have hph : rPh γ0 el0 f ≤ rPh γ el f := by rw [hγ0, hel0]; exact Nat.le_refl _
  have hB : rBd γ el f B := by rw [hγ0, hel0]; exact hB0
  have htq203306 : rKd γ q203306 10 := by rw [hγ0]; exact hzq203306
  have htq203307 : rKd γ q203307 9 := by rw [hγ0]; exact hzq203307
  have hf1 : γ 1 q203307 = f := by rw [hγ0]; exact hf0
  have x203309n : 0 < γ 6 f := by rw [hγ0]; exact x203309
  have pk203311 : rPh γ el f ≤ 387 * B + 6000 := rm_pk (rM_ge hT htq203307 hf1).1 (rM_bd hB)
  refine G_widen (cs' := ((rPh γ el f - rPh γ0 el0 f) / 18)) (sl' := (rPh γ el f - rPh γ0 el0 f)) (Nat.zero_le _) (Nat.zero_le _) ?_
  have e0_203312 : γ 6 f = γ0 6 f := by rw [hγ0]
  have e0_203313 : γ 7 f = γ0 7 f := by rw [hγ0]
  have e0_203314 : γ 16 f = γ0 16 f := by rw [hγ0]
  have e0_203315 : γ 18 f = γ0 18 f := by rw [hγ0]
  have e0_203316 : γ 19 f = γ0 19 f := by rw [hγ0]
  have v0_203317 : 0 < γ 6 (γ 1 q203307) := by rw [hf1, hγ0]; exact x203309
  have s0_203318 : rsum (fun i => γ 2 (γ 14 (el (γ 14 q203307) i))) (γ 6 f) = rsum (fun i => γ0 2 (γ0 14 (el0 (γ0 14 q203307) i))) (γ0 6 f) := by rw [hγ0, hel0]
  refine G_iconst 0 dr_cX17_merge_0 (by decide +kernel) ?_
  refine G_istore_n (L' := [(3, .int 0), (0, .ref q203306), (1, .ref q203307), (2, .int p203308)]) dr_cX17_merge_1 (Nat.le_of_ble_eq_true rfl) rfl ?_
  have hlp2_213649 : ∀ (n2_213649 : Nat) (g213649 : Int32), gB g213649 0 1000000 → ((1000001 : Int) - g213649.toInt).toNat < n2_213649 → G (gV D I) l (gRm 5 111 (((387 * B + 6000) - rPh γ0 el0 f) / 18) ((387 * B + 6000) - rPh γ0 el0 f)) (gMA (gV D I) (pg_203310_SpillForgeModel_merge D I γ0 el0 f B P203304 F203305 q203306 q203307 p203308) gNA (((387 * B + 6000) - rPh γ0 el0 f) / 18) ((387 * B + 6000) - rPh γ0 el0 f)) ky_203310_SpillForgeModel_merge 2 [(3, .int g213649), (0, .ref q203306), (1, .ref q203307), (2, .int p203308)] [] (va_pl P203304 F203305) ((rPh γ el f - rPh γ0 el0 f) / 18) (rPh γ el f - rPh γ0 el0 f) := by
    intro n2_213649
    induction n2_213649 with
    | zero => intro g213649 bg213649 hm2_213649; exact absurd hm2_213649 (Nat.not_lt_zero _)
    | succ n2_213649 ih2_213649 =>
      intro g213649 bg213649 hm2_213649
      refine G_iload_n 0 dr_cX17_merge_2 rfl ?_
      refine G_aload_n 2 dr_cX17_merge_3 rfl ?_
      have hm213651 : q203307 ∈ P203304 := RS_m hT htq203307 (by decide)
      obtain ⟨q213653, q213654, p213655, p213656, he213652, ht213672, ht213657, ht213658, ht213659, ht213660, r213661, r213662, r213663, r213664, r213665, r213666, r213667, r213668, r213669, r213670, r213671⟩ := show rk_9 γ el q203307 (F203305 q203307) from RS_o hT htq203307
      have bp213655 : gB p213655 0 1000000 := ⟨by omega, by omega⟩
      have bp213656 : gB p213656 0 1000000 := ⟨by omega, by omega⟩
      have hf213673 : γ 1 q213653 = f := (show γ 1 q213653 = γ 1 q203307 from ht213658).trans hf1
      have hf213674 : γ 1 q213654 = f := (show γ 1 q213654 = γ 1 q203307 from ht213660).trans hf1
      have r213675 : γ 6 (γ 1 q203307) = γ 6 f := by rw [hf1]
      have r213676 : γ 16 (γ 1 q203307) = γ 16 f := by rw [hf1]
      have r213677 : p213656.toInt = γ 6 f ∧ p213656.toInt ≤ 40 := by omega
      clear r213667
      refine Gw_callV (As := []) (gV_ok D I) (cp_12451_Code_size l hl0 D I P203304 F203305 q203307 q213653 q213654 p213655 p213656 hm213651 he213652) dr_cX17_merge_4 ⟨wr_10_160, wr_1_15, wr_9_131, by decide, rfl, (Nat.le_of_ble_eq_true rfl), (Nat.le_of_ble_eq_true rfl)⟩ wr_9_129 wr_9_130 hm213651 he213652 rfl (rm_zc pk203311) (rm_zs pk203311) (Nat.le_of_ble_eq_true rfl) (fun r213681 w213682 dc213678 ds213679 hp213680 => ?_) (fun _ _ _ _ _ z => z.elim)
      obtain ⟨rfl, rfl, hdc, hds⟩ := hp213680
      change G _ _ _ _ _ _ _ (.int p213656 :: _) _ _ _
      refine G_widen (cs' := ((rPh γ el f - rPh γ0 el0 f) / 18)) (sl' := (rPh γ el f - rPh γ0 el0 f)) (rm_d0 hdc) (rm_d0 hds) ?_
      refine G_icmp_ge 178 dr_cX17_merge_7 (by decide +kernel) (fun hc213683 => ?_) (fun hc213683 => ?_)
      · have r213684 : p213656.toInt ≤ g213649.toInt := gC_le hc213683
        refine G_iconst 0 dr_cX17_merge_178 (by decide +kernel) ?_
        exact G_zretA FieldType.boolean dr_cX17_merge_179 rfl rfl (show ((rPh γ el f - rPh γ0 el0 f) / 18) ≤ (((387 * B + 6000) - rPh γ0 el0 f) / 18) by omega) (show (rPh γ el f - rPh γ0 el0 f) ≤ ((387 * B + 6000) - rPh γ0 el0 f) by omega) ⟨P203304, F203305, γ, el, 0, rfl, rfl, hst, ⟨by omega, by omega⟩, hB, (gB_w (gBl (show Int32.toInt 0 = 0 by decide)) (by decide) (by decide)), (by have qa0 : Int32.toInt 0 = 0 := (by decide); omega), (by have qa0 : Int32.toInt 0 = 0 := (by decide); omega), (by have qa0 : Int32.toInt 0 = 0 := (by decide); omega), (by have qa0 : Int32.toInt 0 = 0 := (by decide); omega), (Or.inl (by decide))⟩
      · have r213685 : g213649.toInt < p213656.toInt := gC_nle hc213683
        have bg213649' : gB g213649 0 999999 := ⟨by omega, by omega⟩
        have bp213656' : gB p213656 1 1000000 := ⟨by omega, by omega⟩
        refine G_aload_n 2 dr_cX17_merge_10 rfl ?_
        refine G_iload_n 0 dr_cX17_merge_11 rfl ?_
        have hm213686 : q213653 ∈ P203304 := RS_m hT ht213657 (by decide)
        obtain ⟨⟨p213688, p213689, q213690, he213687, r213691, r213692, r213693, r213695⟩, r213694⟩ := show rk_4 D I γ el F203305 q213653 from RS_o hT ht213657
        have bp213688 := gB_any p213688
        have bp213689 : gB p213689 0 1000000 := ⟨by omega, by omega⟩
        obtain ⟨r213696, r213697, n213704, f213705, r213698, r213699, r213700, r213701, r213702, r213703⟩ := rLC_n r213693 (by omega)
        have hm213706 : q213690 ∈ P203304 := RS_m hT r213696 (by decide)
        obtain ⟨q213707, hx213708⟩ : ∃ x, x = el q213653 g213649.toInt.toNat := ⟨_, rfl⟩
        have hx213709 : f213705 g213649.toNatClampNeg = some q213707 := (r213702 _ (show g213649.toInt.toNat < γ 2 q213653 by first | assumption | omega)).trans (by rw [hx213708])
        have ht213712 : rKd γ q213707 2 := by rw [hx213708]; exact (r213668 _ (by omega)).resolve_right (fun z => absurd z.1 (by omega))
        have ht213713 : rFm γ q213707 q213653 := by rw [hx213708]; exact (r213694 _ (show g213649.toInt.toNat < γ 2 q213653 by omega)).2.1
        have hm213714 : q213707 ∈ P203304 := RS_m hT ht213712 (by decide)
        obtain ⟨q213716, q213717, p213718, p213719, he213715, ht213726, ht213720, ht213721, ht213722, ht213723, ht213724, bp213718, bp213719, r213725, r213727, r213728⟩ := show rk_2 γ q213707 (F203305 q213707) from RS_o hT ht213712
        refine Gw_callV (As := [.int g213649]) (gV_ok D I) (cp_7723_Code_get l hl0 D I P203304 F203305 q203307 q213653 q213690 g213649 q213654 p213655 p213656 p213688 p213689 f213705 n213704 q213707 q213716 q213717 p213718 p213719 hm213651 hm213686 hm213706 hm213714 he213652 he213687 r213698 he213715 (gB_w bg213649' (by decide) (by decide)) (gB_w bp213689 (by decide) (by decide)) (by omega) (by omega) (by assumption) (by omega)) dr_cX17_merge_12 ⟨wr_10_161, wr_1_15, wr_10_141, by decide, rfl, (Nat.le_of_ble_eq_true rfl), (Nat.le_of_ble_eq_true rfl)⟩ wr_10_139 wr_10_140 hm213651 he213652 rfl (rm_zc pk203311) (rm_zs pk203311) (Nat.le_of_ble_eq_true rfl) (fun r213732 w213733 dc213729 ds213730 hp213731 => ?_) (fun _ _ _ _ _ z => z.elim)
        obtain ⟨rfl, rfl, hdc, hds⟩ := hp213731
        change G _ _ _ _ _ _ _ (.ref q213707 :: _) _ _ _
        refine G_widen (cs' := ((rPh γ el f - rPh γ0 el0 f) / 18)) (sl' := (rPh γ el f - rPh γ0 el0 f)) (rm_d0 hdc) (rm_d0 hds) ?_
        have hf213734 : γ 1 q213707 = f := (show γ 1 q213707 = γ 1 q213653 from ht213713).trans ((show γ 1 q213653 = γ 1 q203307 from ht213658).trans hf1)
        have hf213735 : γ 1 q213716 = f := (show γ 1 q213716 = γ 1 q213707 from ht213721).trans hf213734
        have hf213736 : γ 1 q213717 = f := (show γ 1 q213717 = γ 1 q213707 from ht213723).trans hf213734
        have r213737 : γ 6 (γ 1 q213707) = γ 6 f := by rw [hf213734]
        have r213738 : γ 7 (γ 1 q213707) = γ 7 f := by rw [hf213734]
        have r213739 : γ 19 (γ 1 q213707) = γ 19 f := by rw [hf213734]
        have r213740 := r213725.resolve_left (by omega)
        clear r213725
        have r213741 : γ 2 (γ 14 q213707) = γ 2 q213716 := by rw [ht213726.1]
        have r213742 : g213649.toInt.toNat < γ 2 (γ 14 q203307) := by rw [ht213672.1]; omega
        have r213743 : el (γ 14 q203307) g213649.toInt.toNat = q213707 := by rw [ht213672.1, hx213708]
        refine G_astore (L' := [(4, .ref q213707), (3, .int g213649), (0, .ref q203306), (1, .ref q203307), (2, .int p203308)]) dr_cX17_merge_15 (Nat.le_of_ble_eq_true rfl) rfl ?_
        refine G_iconst 0 dr_cX17_merge_17 (by decide +kernel) ?_
        refine G_istore (L' := [(5, .int 0), (4, .ref q213707), (3, .int g213649), (0, .ref q203306), (1, .ref q203307), (2, .int p203308)]) dr_cX17_merge_18 (Nat.le_of_ble_eq_true rfl) rfl ?_
        have hlp20_214109 : ∀ (n20_214109 : Nat) (g214109 : Int32), gB g214109 0 1000000 → ((1000001 : Int) - g214109.toInt).toNat < n20_214109 → G (gV D I) l (gRm 5 111 (((387 * B + 6000) - rPh γ0 el0 f) / 18) ((387 * B + 6000) - rPh γ0 el0 f)) (gMA (gV D I) (pg_203310_SpillForgeModel_merge D I γ0 el0 f B P203304 F203305 q203306 q203307 p203308) gNA (((387 * B + 6000) - rPh γ0 el0 f) / 18) ((387 * B + 6000) - rPh γ0 el0 f)) ky_203310_SpillForgeModel_merge 20 [(5, .int g214109), (4, .ref q213707), (3, .int g213649), (0, .ref q203306), (1, .ref q203307), (2, .int p203308)] [] (va_pl P203304 F203305) ((rPh γ el f - rPh γ0 el0 f) / 18) (rPh γ el f - rPh γ0 el0 f) := by
          intro n20_214109
          induction n20_214109 with
          | zero => intro g214109 bg214109 hm20_214109; exact absurd hm20_214109 (Nat.not_lt_zero _)
          | succ n20_214109 ih20_214109 =>
            intro g214109 bg214109 hm20_214109
            refine G_iload 0 dr_cX17_merge_20 rfl ?_
            refine G_aload 1 dr_cX17_merge_22 rfl ?_
            refine Gp_get 0 hm213714 he213715 dr_cX17_merge_24 (gk_X12 D I) (Nat.le_of_ble_eq_true rfl) wr_9_220 rfl ?_
            have hm214111 : q213716 ∈ P203304 := RS_m hT ht213720 (by decide)
            obtain ⟨⟨p214113, p214114, q214115, he214112, r214116, r214117, r214118, r214120⟩, r214119⟩ := show rk_3 D I γ el F203305 q213716 from RS_o hT ht213720
            have bp214113 := gB_any p214113
            have bp214114 : gB p214114 0 1000000 := ⟨by omega, by omega⟩
            refine Gw_callV (As := []) (gV_ok D I) (cp_7_ArrayList_size l hl0 D I P203304 F203305 q213716 p214113 q214115 p214114 hm214111 he214112 (gB_w bp214114 (by decide) (by decide))) dr_cX17_merge_27 ⟨wr_10_200, wr_1_18, wr_9_160, by decide, rfl, (Nat.le_of_ble_eq_true rfl), (Nat.le_of_ble_eq_true rfl)⟩ wr_9_158 wr_9_159 hm214111 he214112 rfl (rm_zc pk203311) (rm_zs pk203311) (Nat.le_of_ble_eq_true rfl) (fun r214124 w214125 dc214121 ds214122 hp214123 => ?_) (fun _ _ _ _ _ z => z.elim)
            obtain ⟨rfl, rfl, hdc, hds⟩ := hp214123
            change G _ _ _ _ _ _ _ (.int p214114 :: _) _ _ _
            refine G_widen (cs' := ((rPh γ el f - rPh γ0 el0 f) / 18)) (sl' := (rPh γ el f - rPh γ0 el0 f)) (rm_d0 hdc) (rm_d0 hds) ?_
            refine G_icmp_ge 172 dr_cX17_merge_30 (by decide +kernel) (fun hc214126 => ?_) (fun hc214126 => ?_)
            · have r214127 : p214114.toInt ≤ g214109.toInt := gC_le hc214126
              obtain ⟨z214128, hz214128⟩ : ∃ z : Int32, z = g213649 + Int32.ofInt 1 := ⟨_, rfl⟩
              have ez214128 : z214128.toInt = g213649.toInt + 1 := gI_inc hz214128 (by decide) bg213649' (by decide) (by decide)
              have bz214128 : gB z214128 1 1000000 := ⟨by omega, by omega⟩
              refine G_iinc (L' := [(3, .int z214128), (5, .int g214109), (4, .ref q213707), (0, .ref q203306), (1, .ref q203307), (2, .int p203308)]) z214128 2 dr_cX17_merge_172 rfl hz214128.symm (Nat.le_of_ble_eq_true rfl) rfl ?_
              refine G_goto 2 dr_cX17_merge_175 (by decide +kernel) ?_
              refine G_lv (L' := [(3, .int z214128), (0, .ref q203306), (1, .ref q203307), (2, .int p203308)]) [0, 3, 4, 5] rfl ?_
              exact ih2_213649 z214128 (gB_w bz214128 (by decide) (by decide)) (by omega)
            · have r214129 : g214109.toInt < p214114.toInt := gC_nle hc214126
              have bg214109' : gB g214109 0 999999 := ⟨by omega, by omega⟩
              have bp214114' : gB p214114 1 1000000 := ⟨by omega, by omega⟩
              refine G_aload 1 dr_cX17_merge_33 rfl ?_
              refine Gp_get 0 hm213714 he213715 dr_cX17_merge_35 (gk_X12 D I) (Nat.le_of_ble_eq_true rfl) wr_9_220 rfl ?_
              refine G_iload 0 dr_cX17_merge_38 rfl ?_
              obtain ⟨r214130, r214131, n214138, f214139, r214132, r214133, r214134, r214135, r214136, r214137⟩ := rLC_n r214118 (by omega)
              have hm214140 : q214115 ∈ P203304 := RS_m hT r214130 (by decide)
              obtain ⟨q214141, hx214142⟩ : ∃ x, x = el q213716 g214109.toInt.toNat := ⟨_, rfl⟩
              have hx214143 : f214139 g214109.toNatClampNeg = some q214141 := (r214136 _ (show g214109.toInt.toNat < γ 2 q213716 by first | assumption | omega)).trans (by rw [hx214142])
              have ht214144 : rKd γ q214141 1 := by rw [hx214142]; exact (r214119 _ (show g214109.toInt.toNat < γ 2 q213716 by first | assumption | omega)).1
              have ht214145 : rFm γ q214141 q213716 := by rw [hx214142]; exact (r214119 _ (show g214109.toInt.toNat < γ 2 q213716 by first | assumption | omega)).2.1
              have hf214146 : γ 1 q214141 = f := (show γ 1 q214141 = γ 1 q213716 from ht214145).trans hf213735
              refine Gw_callV (As := [.int g214109]) (gV_ok D I) (cp_22_ArrayList_get l hl0 D I P203304 F203305 q213716 q214115 g214109 p214113 p214114 f214139 n214138 q214141 hm214111 hm214140 he214112 r214132 (gB_w bg214109' (by decide) (by decide)) (gB_w bp214114' (by decide) (by decide)) (by omega) (by omega) (by assumption) (by omega)) dr_cX17_merge_40 ⟨wr_10_201, wr_1_18, wr_10_65, by decide, rfl, (Nat.le_of_ble_eq_true rfl), (Nat.le_of_ble_eq_true rfl)⟩ wr_10_63 wr_10_64 hm214111 he214112 rfl (rm_zc pk203311) (rm_zs pk203311) (Nat.le_of_ble_eq_true rfl) (fun r214150 w214151 dc214147 ds214148 hp214149 => ?_) (fun _ _ _ _ _ z => z.elim)
              obtain ⟨rfl, rfl, hdc, hds⟩ := hp214149
              change G _ _ _ _ _ _ _ (.ref q214141 :: _) _ _ _
              refine G_widen (cs' := ((rPh γ el f - rPh γ0 el0 f) / 18)) (sl' := (rPh γ el f - rPh γ0 el0 f)) (rm_d0 hdc) (rm_d0 hds) ?_
              have hm214152 : q214141 ∈ P203304 := RS_m hT ht214144 (by decide)
              obtain ⟨p214154, p214155, p214156, p214157, p214158, p214159, p214160, he214153, bp214154, bp214155, bp214158, bp214159, bp214160, r214161, r214162, r214163, r214164⟩ := show rk_1 γ q214141 (F203305 q214141) from RS_o hT ht214144
              have bp214156 := gB_any p214156
              have bp214157 := gB_any p214157
              have r214165 : γ 7 (γ 1 q214141) = γ 7 f := by rw [hf214146]
              refine Gp_cast hm214152 he214153 rfl dr_cX17_merge_43 wr_10_202 (gr_cast 1 rfl) ?_
              refine G_astore (L' := [(6, .ref q214141), (5, .int g214109), (4, .ref q213707), (3, .int g213649), (0, .ref q203306), (1, .ref q203307), (2, .int p203308)]) dr_cX17_merge_46 (Nat.le_of_ble_eq_true rfl) rfl ?_
              refine G_aload 0 dr_cX17_merge_48 rfl ?_
              refine Gp_get 0 hm214152 he214153 dr_cX17_merge_50 (gk_X15 D I) (Nat.le_of_ble_eq_true rfl) wr_9_177 rfl ?_
              refine G_if_ne 166 dr_cX17_merge_53 (by decide +kernel) (fun hc214166 => ?_) (fun hc214166 => ?_)
              · have r214167 : p214154.toInt ≠ 0 := gj_neq hc214166 (show Int32.toInt 0 = 0 by decide)
                have bp214154' : gB p214154 1 32 := ⟨by omega, by omega⟩
                obtain ⟨z214168, hz214168⟩ : ∃ z : Int32, z = g214109 + Int32.ofInt 1 := ⟨_, rfl⟩
                have ez214168 : z214168.toInt = g214109.toInt + 1 := gI_inc hz214168 (by decide) bg214109' (by decide) (by decide)
                have bz214168 : gB z214168 1 1000000 := ⟨by omega, by omega⟩
                refine G_iinc (L' := [(5, .int z214168), (6, .ref q214141), (4, .ref q213707), (3, .int g213649), (0, .ref q203306), (1, .ref q203307), (2, .int p203308)]) z214168 1 dr_cX17_merge_166 rfl hz214168.symm (Nat.le_of_ble_eq_true rfl) rfl ?_
                refine G_goto 20 dr_cX17_merge_169 (by decide +kernel) ?_
                refine G_lv (L' := [(5, .int z214168), (4, .ref q213707), (3, .int g213649), (0, .ref q203306), (1, .ref q203307), (2, .int p203308)]) [0, 2, 3, 4, 5, 6] rfl ?_
                exact ih20_214109 z214168 (gB_w bz214168 (by decide) (by decide)) (by omega)
              · have r214169 : p214154.toInt = 0 := gj_eq hc214166 (show Int32.toInt 0 = 0 by decide)
                have bp214154' : gB p214154 0 0 := ⟨by omega, by omega⟩
                refine G_aload 0 dr_cX17_merge_56 rfl ?_
                refine Gp_get 5 hm214152 he214153 dr_cX17_merge_58 (gk_X15 D I) (Nat.le_of_ble_eq_true rfl) wr_9_197 rfl ?_
                refine G_if_eq 166 dr_cX17_merge_61 (by decide +kernel) (fun hc214170 => ?_) (fun hc214170 => ?_)
                · have r214171 : p214159.toInt = 0 := gj_eq hc214170 (show Int32.toInt 0 = 0 by decide)
                  have bp214159' : gB p214159 0 0 := ⟨by omega, by omega⟩
                  obtain ⟨z214172, hz214172⟩ : ∃ z : Int32, z = g214109 + Int32.ofInt 1 := ⟨_, rfl⟩
                  have ez214172 : z214172.toInt = g214109.toInt + 1 := gI_inc hz214172 (by decide) bg214109' (by decide) (by decide)
                  have bz214172 : gB z214172 1 1000000 := ⟨by omega, by omega⟩
                  refine G_iinc (L' := [(5, .int z214172), (6, .ref q214141), (4, .ref q213707), (3, .int g213649), (0, .ref q203306), (1, .ref q203307), (2, .int p203308)]) z214172 1 dr_cX17_merge_166 rfl hz214172.symm (Nat.le_of_ble_eq_true rfl) rfl ?_
                  refine G_goto 20 dr_cX17_merge_169 (by decide +kernel) ?_
                  refine G_lv (L' := [(5, .int z214172), (4, .ref q213707), (3, .int g213649), (0, .ref q203306), (1, .ref q203307), (2, .int p203308)]) [0, 2, 3, 4, 5, 6] rfl ?_
                  exact ih20_214109 z214172 (gB_w bz214172 (by decide) (by decide)) (by omega)
                · have r214173 : p214159.toInt ≠ 0 := gj_neq hc214170 (show Int32.toInt 0 = 0 by decide)
                  have bp214159' : gB p214159 1 1 := ⟨by omega, by omega⟩
                  refine G_aload 0 dr_cX17_merge_64 rfl ?_
                  refine Gp_get 1 hm214152 he214153 dr_cX17_merge_66 (gk_X15 D I) (Nat.le_of_ble_eq_true rfl) wr_9_182 rfl ?_
                  refine G_aload 0 dr_cX17_merge_69 rfl ?_
                  refine Gp_get 2 hm214152 he214153 dr_cX17_merge_71 (gk_X15 D I) (Nat.le_of_ble_eq_true rfl) wr_9_186 rfl ?_
                  refine G_icmp_eq 98 dr_cX17_merge_74 (by decide +kernel) (fun hc214174 => ?_) (fun hc214174 => ?_)
                  · have r214175 : p214155.toInt = p214156.toInt := gC_eq hc214174
                    have bp214156' : gB p214156 0 1999 := ⟨by omega, by omega⟩
                    refine G_aload 0 dr_cX17_merge_98 rfl ?_
                    refine Gp_get 1 hm214152 he214153 dr_cX17_merge_100 (gk_X15 D I) (Nat.le_of_ble_eq_true rfl) wr_9_182 rfl ?_
                    refine G_aload 0 dr_cX17_merge_103 rfl ?_
                    refine Gp_get 2 hm214152 he214153 dr_cX17_merge_105 (gk_X15 D I) (Nat.le_of_ble_eq_true rfl) wr_9_186 rfl ?_
                    refine G_mmin dr_cX17_merge_108 wr_11_20 wr_3_227 wr_1_6 wr_3_228 (Nat.le_of_ble_eq_true rfl) (Nat.le_of_ble_eq_true rfl) (show ((rPh γ el f - rPh γ0 el0 f) / 18) ≤ (((387 * B + 6000) - rPh γ0 el0 f) / 18) by first | omega | decide) (show (rPh γ el f - rPh γ0 el0 f) ≤ ((387 * B + 6000) - rPh γ0 el0 f) by first | omega | decide) (G_nam fun z214176 hz214176 => ?_)
                    have ez214176 : p214155.toInt ≥ z214176.toInt ∧ p214156.toInt ≥ z214176.toInt ∧ (z214176.toInt = p214155.toInt ∨ z214176.toInt = p214156.toInt) := by have := gI_min hz214176; omega
                    have bz214176 : gB z214176 0 1999 := ⟨by omega, by omega⟩
                    refine G_istore (L' := [(7, .int z214176), (6, .ref q214141), (5, .int g214109), (4, .ref q213707), (3, .int g213649), (0, .ref q203306), (1, .ref q203307), (2, .int p203308)]) dr_cX17_merge_111 (Nat.le_of_ble_eq_true rfl) rfl ?_
                    refine G_aload 1 dr_cX17_merge_113 rfl ?_
                    refine Gp_get 1 hm214152 he214153 dr_cX17_merge_115 (gk_X15 D I) (Nat.le_of_ble_eq_true rfl) wr_9_182 rfl ?_
                    refine G_aload 1 dr_cX17_merge_118 rfl ?_
                    refine Gp_get 2 hm214152 he214153 dr_cX17_merge_120 (gk_X15 D I) (Nat.le_of_ble_eq_true rfl) wr_9_186 rfl ?_
                    refine G_mmax dr_cX17_merge_123 wr_11_21 wr_1_140 wr_1_6 wr_1_141 (Nat.le_of_ble_eq_true rfl) (Nat.le_of_ble_eq_true rfl) (show ((rPh γ el f - rPh γ0 el0 f) / 18) ≤ (((387 * B + 6000) - rPh γ0 el0 f) / 18) by first | omega | decide) (show (rPh γ el f - rPh γ0 el0 f) ≤ ((387 * B + 6000) - rPh γ0 el0 f) by first | omega | decide) (G_nam fun z214177 hz214177 => ?_)
                    have ez214177 : p214155.toInt ≤ z214177.toInt ∧ p214156.toInt ≤ z214177.toInt ∧ (z214177.toInt = p214155.toInt ∨ z214177.toInt = p214156.toInt) := by have := gI_max hz214177; omega
                    have bz214177 : gB z214177 0 1999 := ⟨by omega, by omega⟩
                    refine G_istore (L' := [(8, .int z214177), (7, .int z214176), (6, .ref q214141), (5, .int g214109), (4, .ref q213707), (3, .int g213649), (0, .ref q203306), (1, .ref q203307), (2, .int p203308)]) dr_cX17_merge_126 (Nat.le_of_ble_eq_true rfl) rfl ?_
                    refine G_aload 4 dr_cX17_merge_128 rfl ?_
                    refine Gp_get 0 hm213714 he213715 dr_cX17_merge_130 (gk_X12 D I) (Nat.le_of_ble_eq_true rfl) wr_9_220 rfl ?_
                    refine G_iload 3 dr_cX17_merge_133 rfl ?_
                    have rg214178 := rM_ge hT htq203307 hf1
                    have rm214179 := rM_bd hB
                    have bd214180 := rBd_c hT htq203307 hf1 hB
                    have rc214181 := rc_at hT htq203307 hf1
                    have r214183 : γ 14 (el (γ 14 q203307) g213649.toInt.toNat) = q213716 := by rw [r213743]; exact ht213726.1
                    have r214184 := rg214178.2.2 _ r213742
                    rw [r214183] at r214184
                    have r214185 := bd214180.2.2.2 _ r213742
                    rw [r214183] at r214185
                    obtain ⟨q214187, hq214187⟩ : ∃ x, x = el q213716 g214109.toInt.toNat := ⟨_, rfl⟩
                    refine Gt_rem (c := q203307) (f := f) hl0 dr_cX17_merge_135 ⟨wr_11_22, wr_1_18, wr_11_25, by decide, rfl, (Nat.le_of_ble_eq_true rfl), (Nat.le_of_ble_eq_true rfl)⟩ wr_11_23 wr_11_24 hT ht213720 hf213735 htq203307 hf1 (by omega) (by omega) (rm_zc pk203311) (rm_zs pk203311) (Nat.le_of_ble_eq_true rfl) (fun F214182 γ el hq214186 => ?_)
                    rw [← hq214187]
                    have vv214199 := RS_valid hT0 hzq203307 hf0 x203309
                    rw [← hγ0] at vv214199
                    have sm214198 := rDq_sum (m := γ0 6 f) hT htq203307 hf1 (show g213649.toInt.toNat < γ0 6 f by omega) (by omega) r214183 (show g214109.toInt.toNat < _ by omega) hq214186
                    rw [hγ0, hel0] at sm214198
                    obtain ⟨hk214188, h2214189, hel214190, hot214191, h16214192, h18214193, hnu214194, hr214195, hM214196, hBB214197⟩ := hq214186
                    have hk214200 := rSk_of hk214188
                    have r214201 : (fI (F214182 q203307) 3).toInt = (fI (F203305 q203307) 3).toInt := by rw [rSk_F hk214200 htq203307 (by decide) (by decide)]
                    have hT214202 := hk214200.1
                    have hs214203 := rSk_tr hst hk214200 (by decide) (by decide) (by decide)
                    have ht214204 : rKd γ q203306 10 := rSk_k hk214200 htq203306 (by decide) (by decide)
                    have ht214205 : rKd γ q203307 9 := rSk_k hk214200 htq203307 (by decide) (by decide)
                    have hf214206 : γ 1 q203307 = f := rSk_1 hk214200 htq203307 (by decide) hf1
                    have ht214207 : rKd γ q213707 2 := rSk_k hk214200 ht213712 (by decide) (by decide)
                    have hf214208 : γ 1 q213707 = f := rSk_1 hk214200 ht213712 (by decide) hf213734
                    have ht214209 : rKd γ q213716 3 := rSk_k hk214200 ht213720 (by decide) (by decide)
                    have hf214210 : γ 1 q213716 = f := rSk_1 hk214200 ht213720 (by decide) hf213735
                    have ht214211 : rKd γ q214141 1 := rSk_k hk214200 ht214144 (by decide) (by decide)
                    have hf214212 : γ 1 q214141 = f := rSk_1 hk214200 ht214144 (by decide) hf214146
                    have r214213 := (rSk_s hk214200 htq203307 (by decide)).2.1
                    have r214214 := hot214191 _ (by rw [rc214181.2.1]; decide) (fun q => by rw [q, show _ = 3 from ht213720] at rc214181; exact absurd rc214181.2.1 (by decide))
                    have r214215 : g213649.toInt.toNat < γ 2 (γ 14 q203307) := by rw [r214213, r214214.1]; exact r213742
                    have r214216 : el (γ 14 q203307) g213649.toInt.toNat = q213707 := by rw [r214213, r214214.2]; exact r213743
                    have he214217 : F214182 q214141 = .inr (20, [.int p214154, .int p214155, .int p214156, .int p214157, .int p214158, .int p214159, .int p214160]) := (rSk_F hk214200 ht214144 (by decide) (by decide)).trans he214153
                    have hm214218 : q214141 ∈ P203304 := RS_m hT214202 ht214211 (by decide)
                    clear r213661 r213662 r213663 r213664 r213665 r213666 r213668 r213669 r213670 r213671 bp213655 bp213656 bp213718 bp213719 r213727 r213728 rg214178 rm214179 bd214180 rc214181 r214184 r214185
                    obtain ⟨nu214219, nu214220, nu214221, nu214222⟩ := hnu214194
                    have hB214223 : rBd γ el f B := hBB214197 B hB
                    have hph214224 : rPh γ0 el0 f ≤ rPh γ el f := by rw [hr214195]; exact hph
                    have pk214225 : rPh γ el f ≤ 387 * B + 6000 := rm_pk (rM_ge hT214202 ht214205 hf214206).1 (rM_bd hB214223)
                    refine G_widen (cs' := ((rPh γ el f - rPh γ0 el0 f) / 18)) (sl' := (rPh γ el f - rPh γ0 el0 f)) (rm_ec hr214195) (rm_es hr214195) ?_
                    refine G_pop dr_cX17_merge_138 rfl ?_
                    refine G_aload_n 6 dr_cX17_merge_139 rfl ?_
                    refine G_dup dr_cX17_merge_140 rfl ?_
                    have hm214226 : q203306 ∈ P203304 := RS_m hT214202 ht214204 (by decide)
                    obtain ⟨q214228, q214229, p214230, p214231, p214232, p214233, p214234, p214235, p214236, p214237, p214238, p214239, p214240, p214241, p214242, p214243, p214244, he214227, hB214271, ht214245, ht214246, ht214247, ht214248, ht214249, ht214250, ht214251, ht214252, ht214253, ht214254, ht214255, ht214256, ht214257, ht214258, ht214259, ht214260, ht214261, ht214262, ht214263, ht214264, ht214265, ht214266, ht214267, ht214268, hB214272⟩ := show rk_10 γ (F214182 q203306) from RS_o hT214202 ht214204
                    refine Gp_get 13 hm214226 he214227 dr_cX17_merge_141 (gk_X17 D I) (Nat.le_of_ble_eq_true rfl) wr_7_87 rfl ?_
                    have bp214234 : gB p214234 (-2147483648) 2147483647 := (gB_any p214234)
                    refine G_iconst 1 dr_cX17_merge_144 (by decide +kernel) ?_
                    refine G_iadd dr_cX17_merge_145 (G_nam fun z214273 hz214273 => ?_)
                    have bz214273 : gB z214273 (-2147483648) 2147483647 := gB_any z214273
                    refine Gp_put 13 hm214226 he214227 dr_cX17_merge_146 (gk_X17 D I) (Nat.le_of_ble_eq_true rfl) wr_7_87 rfl rfl rfl (Nat.le_of_ble_eq_true rfl) (fun F214274 e214275 n214276 => ?_)
                    have he214277 : F214274 q214141 = .inr (20, [.int p214154, .int p214155, .int p214156, .int p214157, .int p214158, .int p214159, .int p214160]) := (n214276 q214141 (rn_oo he214217 he214227 (by decide))).trans he214217
                    have he214278 : F214274 q203306 = .inr (22, [.ref (γ 9 0), .ref (γ 9 1), .ref (γ 9 2), .ref (γ 9 3), .ref (γ 9 4), .ref (γ 9 5), .ref (γ 9 6), .ref (γ 9 7), .ref (γ 9 8), .int p214230, .int p214231, .int p214232, .int p214233, .int z214273, .int p214235, .ref (γ 9 15), .ref (γ 9 16), .ref (γ 9 17), .ref (γ 9 18), .ref (γ 9 19), .ref (γ 9 20), .ref (γ 9 21), .ref (γ 9 22), .int p214236, .int p214237, .int p214238, .int p214239, .int p214240, .ref q214228, .ref (γ 9 29), .int p214241, .ref (γ 9 31), .int p214242, .int p214243, .int p214244, .ref q214229]) := e214275
                    refine G_iload 1 dr_cX17_merge_149 rfl ?_
                    refine G_iload 0 dr_cX17_merge_151 rfl ?_
                    refine G_icmp_eq 164 dr_cX17_merge_153 (by decide +kernel) (fun hc214279 => ?_) (fun hc214279 => ?_)
                    · have r214280 : z214176.toInt = z214177.toInt := gC_eq hc214279
                      refine G_iconst 1 dr_cX17_merge_164 (by decide +kernel) ?_
                      have hT214281 : RS D I P203304 F214274 γ el := RS_set hT214202 n214276 ht214204 (by decide) ⟨q214228, q214229, p214230, p214231, p214232, p214233, z214273, p214235, p214236, p214237, p214238, p214239, p214240, p214241, p214242, p214243, p214244, he214278, ⟨(hB214271.1), (hB214271.2.1), (hB214271.2.2.1), (hB214271.2.2.2.1), (hB214271.2.2.2.2.1), (hB214271.2.2.2.2.2.1), (hB214271.2.2.2.2.2.2.1), (hB214271.2.2.2.2.2.2.2.1), (hB214271.2.2.2.2.2.2.2.2)⟩, ht214245, ht214246, ht214247, ht214248, ht214249, ht214250, ht214251, ht214252, ht214253, ht214254, ht214255, ht214256, ht214257, ht214258, ht214259, ht214260, ht214261, ht214262, ht214263, ht214264, ht214265, ht214266, ht214267, ht214268, hB214272⟩
                      have hs214282 := rSk_put hs214203 hT214281 n214276 ht214204 (by decide) (by decide)
                      exact G_zretA FieldType.boolean dr_cX17_merge_165 rfl rfl (show ((rPh γ el f - rPh γ0 el0 f) / 18) ≤ (((387 * B + 6000) - rPh γ0 el0 f) / 18) by omega) (show (rPh γ el f - rPh γ0 el0 f) ≤ ((387 * B + 6000) - rPh γ0 el0 f) by omega) ⟨P203304, F214274, γ, el, 1, rfl, rfl, hs214282, ⟨by omega, by omega⟩, hB214223, (gB_w (gBl (show Int32.toInt 1 = 1 by decide)) (by decide) (by decide)), (by have qa0 : Int32.toInt 1 = 1 := (by decide); omega), (by have qa0 : Int32.toInt 1 = 1 := (by decide); omega), (by have qa0 : Int32.toInt 1 = 1 := (by decide); omega), (by have qa0 : Int32.toInt 1 = 1 := (by decide); omega), (Or.inr (by rw [show γ 6 f = γ0 6 f by omega]; exact Nat.le_of_eq sm214198))⟩
                    · have r214283 : z214176.toInt ≠ z214177.toInt := gC_ne hc214279
                      refine G_aload_n 7 dr_cX17_merge_156 rfl ?_
                      refine G_iload 0 dr_cX17_merge_157 rfl ?_
                      refine G_iload 1 dr_cX17_merge_159 rfl ?_
                      have v0_214284 : 0 < γ 6 (γ 1 q203307) := by rw [hf214206]; omega
                      have hT214285 : RS D I P203304 F214274 γ el := RS_set hT214202 n214276 ht214204 (by decide) ⟨q214228, q214229, p214230, p214231, p214232, p214233, z214273, p214235, p214236, p214237, p214238, p214239, p214240, p214241, p214242, p214243, p214244, he214278, ⟨(hB214271.1), (hB214271.2.1), (hB214271.2.2.1), (hB214271.2.2.2.1), (hB214271.2.2.2.2.1), (hB214271.2.2.2.2.2.1), (hB214271.2.2.2.2.2.2.1), (hB214271.2.2.2.2.2.2.2.1), (hB214271.2.2.2.2.2.2.2.2)⟩, ht214245, ht214246, ht214247, ht214248, ht214249, ht214250, ht214251, ht214252, ht214253, ht214254, ht214255, ht214256, ht214257, ht214258, ht214259, ht214260, ht214261, ht214262, ht214263, ht214264, ht214265, ht214266, ht214267, ht214268, hB214272⟩
                      have hs214286 := rSk_put hs214203 hT214285 n214276 ht214204 (by decide) (by decide)
                      refine Gw_callS (As := [.ref q203307, .int z214177, .int z214176]) (gV_ok D I) (ct_165180_SpillForgeModel_rename l hl0 D I γ el P203304 F214274 q203307 z214177 z214176 hT214285 ht214205 bz214177 bz214176 (by omega)) dr_cX17_merge_161 ⟨wr_11_30, wr_1_14, wr_11_32, by decide, rfl, (Nat.le_of_ble_eq_true rfl), (Nat.le_of_ble_eq_true rfl)⟩ wr_11_31 (rm_zc pk214225) (rm_zs pk214225) (Nat.le_of_ble_eq_true rfl) (fun r214290 w214291 dc214287 ds214288 hp214289 => ?_) (fun _ _ _ _ _ z => z.elim)
                      obtain ⟨F214292, rfl, rfl, hT214293, hs214294, hdc, hds⟩ := hp214289
                      have hs214295 := rSk_str hs214286 hT214293 hs214294 (by decide) (by decide) (by decide)
                      change G _ _ _ _ _ _ _ _ _ _ _
                      refine G_widen (cs' := ((rPh γ el f - rPh γ0 el0 f) / 18)) (sl' := (rPh γ el f - rPh γ0 el0 f)) (rm_d0 hdc) (rm_d0 hds) ?_
                      refine G_iconst 1 dr_cX17_merge_164 (by decide +kernel) ?_
                      exact G_zretA FieldType.boolean dr_cX17_merge_165 rfl rfl (show ((rPh γ el f - rPh γ0 el0 f) / 18) ≤ (((387 * B + 6000) - rPh γ0 el0 f) / 18) by omega) (show (rPh γ el f - rPh γ0 el0 f) ≤ ((387 * B + 6000) - rPh γ0 el0 f) by omega) ⟨P203304, F214292, γ, el, 1, rfl, rfl, hs214295, ⟨by omega, by omega⟩, hB214223, (gB_w (gBl (show Int32.toInt 1 = 1 by decide)) (by decide) (by decide)), (by have qa0 : Int32.toInt 1 = 1 := (by decide); omega), (by have qa0 : Int32.toInt 1 = 1 := (by decide); omega), (by have qa0 : Int32.toInt 1 = 1 := (by decide); omega), (by have qa0 : Int32.toInt 1 = 1 := (by decide); omega), (Or.inr (by rw [show γ 6 f = γ0 6 f by omega]; exact Nat.le_of_eq sm214198))⟩
                  · have r214296 : p214155.toInt ≠ p214156.toInt := gC_ne hc214174
                    refine G_aload_n 4 dr_cX17_merge_77 rfl ?_
                    refine G_aload 0 dr_cX17_merge_78 rfl ?_
                    refine Gp_get 1 hm214152 he214153 dr_cX17_merge_80 (gk_X15 D I) (Nat.le_of_ble_eq_true rfl) wr_9_182 rfl ?_
                    refine G_aload 0 dr_cX17_merge_83 rfl ?_
                    refine Gp_get 2 hm214152 he214153 dr_cX17_merge_85 (gk_X15 D I) (Nat.le_of_ble_eq_true rfl) wr_9_186 rfl ?_
                    refine G_iload_n 6 dr_cX17_merge_88 rfl ?_
                    have hm214302 : q203306 ∈ P203304 := RS_m hT htq203306 (by decide)
                    obtain ⟨q214304, q214305, p214306, p214307, p214308, p214309, p214310, p214311, p214312, p214313, p214314, p214315, p214316, p214317, p214318, p214319, p214320, he214303, hB214347, ht214321, ht214322, ht214323, ht214324, ht214325, ht214326, ht214327, ht214328, ht214329, ht214330, ht214331, ht214332, ht214333, ht214334, ht214335, ht214336, ht214337, ht214338, ht214339, ht214340, ht214341, ht214342, ht214343, ht214344, hB214348⟩ := show rk_10 γ (F203305 q203306) from RS_o hT htq203306
                    refine Gw_callV (As := [.int p214155, .int p214156, .int p203308]) (gV_ok D I) (ct_16018_SpillForgeModel_mayMerge l hl0 D I γ el P203304 F203305 q203306 p214155 p214156 p203308 hT htq203306 bp214155 ⟨by omega, by omega⟩) dr_cX17_merge_89 ⟨wr_11_12, wr_1_14, wr_11_15, by decide, rfl, (Nat.le_of_ble_eq_true rfl), (Nat.le_of_ble_eq_true rfl)⟩ wr_11_14 wr_p_102 hm214302 he214303 rfl (rm_zc pk203311) (rm_zs pk203311) (Nat.le_of_ble_eq_true rfl) (fun r214300 w214301 dc214297 ds214298 hp214299 => ?_) (fun _ _ _ _ _ z => z.elim)
                    obtain ⟨o214349, rfl, rfl, hdc, hds, bo214349⟩ := hp214299
                    change G _ _ _ _ _ _ _ (.int o214349 :: _) _ _ _
                    refine G_widen (cs' := ((rPh γ el f - rPh γ0 el0 f) / 18)) (sl' := (rPh γ el f - rPh γ0 el0 f)) (rm_d0 hdc) (rm_d0 hds) ?_
                    refine G_if_ne 98 dr_cX17_merge_92 (by decide +kernel) (fun hc214350 => ?_) (fun hc214350 => ?_)
                    · have r214351 : o214349.toInt ≠ 0 := gj_neq hc214350 (show Int32.toInt 0 = 0 by decide)
                      have bo214349' : gB o214349 1 1 := ⟨by omega, by omega⟩
                      have bp214156' : gB p214156 0 1999 := ⟨by omega, by omega⟩
                      refine G_aload 0 dr_cX17_merge_98 rfl ?_
                      refine Gp_get 1 hm214152 he214153 dr_cX17_merge_100 (gk_X15 D I) (Nat.le_of_ble_eq_true rfl) wr_9_182 rfl ?_
                      refine G_aload 0 dr_cX17_merge_103 rfl ?_
                      refine Gp_get 2 hm214152 he214153 dr_cX17_merge_105 (gk_X15 D I) (Nat.le_of_ble_eq_true rfl) wr_9_186 rfl ?_
                      refine G_mmin dr_cX17_merge_108 wr_11_20 wr_3_227 wr_1_6 wr_3_228 (Nat.le_of_ble_eq_true rfl) (Nat.le_of_ble_eq_true rfl) (show ((rPh γ el f - rPh γ0 el0 f) / 18) ≤ (((387 * B + 6000) - rPh γ0 el0 f) / 18) by first | omega | decide) (show (rPh γ el f - rPh γ0 el0 f) ≤ ((387 * B + 6000) - rPh γ0 el0 f) by first | omega | decide) (G_nam fun z214352 hz214352 => ?_)
                      have ez214352 : p214155.toInt ≥ z214352.toInt ∧ p214156.toInt ≥ z214352.toInt ∧ (z214352.toInt = p214155.toInt ∨ z214352.toInt = p214156.toInt) := by have := gI_min hz214352; omega
                      have bz214352 : gB z214352 0 1999 := ⟨by omega, by omega⟩
                      refine G_istore (L' := [(7, .int z214352), (6, .ref q214141), (5, .int g214109), (4, .ref q213707), (3, .int g213649), (0, .ref q203306), (1, .ref q203307), (2, .int p203308)]) dr_cX17_merge_111 (Nat.le_of_ble_eq_true rfl) rfl ?_
                      refine G_aload 1 dr_cX17_merge_113 rfl ?_
                      refine Gp_get 1 hm214152 he214153 dr_cX17_merge_115 (gk_X15 D I) (Nat.le_of_ble_eq_true rfl) wr_9_182 rfl ?_
                      refine G_aload 1 dr_cX17_merge_118 rfl ?_
                      refine Gp_get 2 hm214152 he214153 dr_cX17_merge_120 (gk_X15 D I) (Nat.le_of_ble_eq_true rfl) wr_9_186 rfl ?_
                      refine G_mmax dr_cX17_merge_123 wr_11_21 wr_1_140 wr_1_6 wr_1_141 (Nat.le_of_ble_eq_true rfl) (Nat.le_of_ble_eq_true rfl) (show ((rPh γ el f - rPh γ0 el0 f) / 18) ≤ (((387 * B + 6000) - rPh γ0 el0 f) / 18) by first | omega | decide) (show (rPh γ el f - rPh γ0 el0 f) ≤ ((387 * B + 6000) - rPh γ0 el0 f) by first | omega | decide) (G_nam fun z214353 hz214353 => ?_)
                      have ez214353 : p214155.toInt ≤ z214353.toInt ∧ p214156.toInt ≤ z214353.toInt ∧ (z214353.toInt = p214155.toInt ∨ z214353.toInt = p214156.toInt) := by have := gI_max hz214353; omega
                      have bz214353 : gB z214353 0 1999 := ⟨by omega, by omega⟩
                      refine G_istore (L' := [(8, .int z214353), (7, .int z214352), (6, .ref q214141), (5, .int g214109), (4, .ref q213707), (3, .int g213649), (0, .ref q203306), (1, .ref q203307), (2, .int p203308)]) dr_cX17_merge_126 (Nat.le_of_ble_eq_true rfl) rfl ?_
                      refine G_aload 4 dr_cX17_merge_128 rfl ?_
                      refine Gp_get 0 hm213714 he213715 dr_cX17_merge_130 (gk_X12 D I) (Nat.le_of_ble_eq_true rfl) wr_9_220 rfl ?_
                      refine G_iload 3 dr_cX17_merge_133 rfl ?_
                      have rg214354 := rM_ge hT htq203307 hf1
                      have rm214355 := rM_bd hB
                      have bd214356 := rBd_c hT htq203307 hf1 hB
                      have rc214357 := rc_at hT htq203307 hf1
                      have r214359 : γ 14 (el (γ 14 q203307) g213649.toInt.toNat) = q213716 := by rw [r213743]; exact ht213726.1
                      have r214360 := rg214354.2.2 _ r213742
                      rw [r214359] at r214360
                      have r214361 := bd214356.2.2.2 _ r213742
                      rw [r214359] at r214361
                      obtain ⟨q214363, hq214363⟩ : ∃ x, x = el q213716 g214109.toInt.toNat := ⟨_, rfl⟩
                      refine Gt_rem (c := q203307) (f := f) hl0 dr_cX17_merge_135 ⟨wr_11_22, wr_1_18, wr_11_25, by decide, rfl, (Nat.le_of_ble_eq_true rfl), (Nat.le_of_ble_eq_true rfl)⟩ wr_11_23 wr_11_24 hT ht213720 hf213735 htq203307 hf1 (by omega) (by omega) (rm_zc pk203311) (rm_zs pk203311) (Nat.le_of_ble_eq_true rfl) (fun F214358 γ el hq214362 => ?_)
                      rw [← hq214363]
                      have vv214375 := RS_valid hT0 hzq203307 hf0 x203309
                      rw [← hγ0] at vv214375
                      have sm214374 := rDq_sum (m := γ0 6 f) hT htq203307 hf1 (show g213649.toInt.toNat < γ0 6 f by omega) (by omega) r214359 (show g214109.toInt.toNat < _ by omega) hq214362
                      rw [hγ0, hel0] at sm214374
                      obtain ⟨hk214364, h2214365, hel214366, hot214367, h16214368, h18214369, hnu214370, hr214371, hM214372, hBB214373⟩ := hq214362
                      have hk214376 := rSk_of hk214364
                      have r214377 : (fI (F214358 q203307) 3).toInt = (fI (F203305 q203307) 3).toInt := by rw [rSk_F hk214376 htq203307 (by decide) (by decide)]
                      have hT214378 := hk214376.1
                      have hs214379 := rSk_tr hst hk214376 (by decide) (by decide) (by decide)
                      have r214380 := rSk_F hk214376 htq203306 (by decide) (by decide)
                      have ht214381 : rKd γ q203306 10 := rSk_k hk214376 htq203306 (by decide) (by decide)
                      have ht214382 : rKd γ q203307 9 := rSk_k hk214376 htq203307 (by decide) (by decide)
                      have hf214383 : γ 1 q203307 = f := rSk_1 hk214376 htq203307 (by decide) hf1
                      have ht214384 : rKd γ q213707 2 := rSk_k hk214376 ht213712 (by decide) (by decide)
                      have hf214385 : γ 1 q213707 = f := rSk_1 hk214376 ht213712 (by decide) hf213734
                      have ht214386 : rKd γ q213716 3 := rSk_k hk214376 ht213720 (by decide) (by decide)
                      have hf214387 : γ 1 q213716 = f := rSk_1 hk214376 ht213720 (by decide) hf213735
                      have ht214388 : rKd γ q214141 1 := rSk_k hk214376 ht214144 (by decide) (by decide)
                      have hf214389 : γ 1 q214141 = f := rSk_1 hk214376 ht214144 (by decide) hf214146
                      have r214390 := (rSk_s hk214376 htq203307 (by decide)).2.1
                      have r214391 := hot214367 _ (by rw [rc214357.2.1]; decide) (fun q => by rw [q, show _ = 3 from ht213720] at rc214357; exact absurd rc214357.2.1 (by decide))
                      have r214392 : g213649.toInt.toNat < γ 2 (γ 14 q203307) := by rw [r214390, r214391.1]; exact r213742
                      have r214393 : el (γ 14 q203307) g213649.toInt.toNat = q213707 := by rw [r214390, r214391.2]; exact r213743
                      have he214394 : F214358 q214141 = .inr (20, [.int p214154, .int p214155, .int p214156, .int p214157, .int p214158, .int p214159, .int p214160]) := (rSk_F hk214376 ht214144 (by decide) (by decide)).trans he214153
                      have hm214395 : q214141 ∈ P203304 := RS_m hT214378 ht214388 (by decide)
                      clear r213661 r213662 r213663 r213664 r213665 r213666 r213668 r213669 r213670 r213671 bp213655 bp213656 bp213718 bp213719 r213727 r213728 rg214354 rm214355 bd214356 rc214357 r214360 r214361
                      obtain ⟨nu214396, nu214397, nu214398, nu214399⟩ := hnu214370
                      have hB214400 : rBd γ el f B := hBB214373 B hB
                      have hph214401 : rPh γ0 el0 f ≤ rPh γ el f := by rw [hr214371]; exact hph
                      have pk214402 : rPh γ el f ≤ 387 * B + 6000 := rm_pk (rM_ge hT214378 ht214382 hf214383).1 (rM_bd hB214400)
                      refine G_widen (cs' := ((rPh γ el f - rPh γ0 el0 f) / 18)) (sl' := (rPh γ el f - rPh γ0 el0 f)) (rm_ec hr214371) (rm_es hr214371) ?_
                      refine G_pop dr_cX17_merge_138 rfl ?_
                      refine G_aload_n 6 dr_cX17_merge_139 rfl ?_
                      refine G_dup dr_cX17_merge_140 rfl ?_
                      have hm214403 : q203306 ∈ P203304 := RS_m hT214378 ht214381 (by decide)
                      obtain ⟨q214405, q214406, p214407, p214408, p214409, p214410, p214411, p214412, p214413, p214414, p214415, p214416, p214417, p214418, p214419, p214420, p214421, he214404, hB214448, ht214422, ht214423, ht214424, ht214425, ht214426, ht214427, ht214428, ht214429, ht214430, ht214431, ht214432, ht214433, ht214434, ht214435, ht214436, ht214437, ht214438, ht214439, ht214440, ht214441, ht214442, ht214443, ht214444, ht214445, hB214449⟩ := show rk_10 γ (F214358 q203306) from RS_o hT214378 ht214381
                      refine Gp_get 13 hm214403 he214404 dr_cX17_merge_141 (gk_X17 D I) (Nat.le_of_ble_eq_true rfl) wr_7_87 rfl ?_
                      have bp214411 : gB p214411 (-2147483648) 2147483647 := (gB_any p214411)
                      refine G_iconst 1 dr_cX17_merge_144 (by decide +kernel) ?_
                      refine G_iadd dr_cX17_merge_145 (G_nam fun z214450 hz214450 => ?_)
                      have bz214450 : gB z214450 (-2147483648) 2147483647 := gB_any z214450
                      refine Gp_put 13 hm214403 he214404 dr_cX17_merge_146 (gk_X17 D I) (Nat.le_of_ble_eq_true rfl) wr_7_87 rfl rfl rfl (Nat.le_of_ble_eq_true rfl) (fun F214451 e214452 n214453 => ?_)
                      have he214454 : F214451 q214141 = .inr (20, [.int p214154, .int p214155, .int p214156, .int p214157, .int p214158, .int p214159, .int p214160]) := (n214453 q214141 (rn_oo he214394 he214404 (by decide))).trans he214394
                      have he214455 : F214451 q203306 = .inr (22, [.ref (γ 9 0), .ref (γ 9 1), .ref (γ 9 2), .ref (γ 9 3), .ref (γ 9 4), .ref (γ 9 5), .ref (γ 9 6), .ref (γ 9 7), .ref (γ 9 8), .int p214407, .int p214408, .int p214409, .int p214410, .int z214450, .int p214412, .ref (γ 9 15), .ref (γ 9 16), .ref (γ 9 17), .ref (γ 9 18), .ref (γ 9 19), .ref (γ 9 20), .ref (γ 9 21), .ref (γ 9 22), .int p214413, .int p214414, .int p214415, .int p214416, .int p214417, .ref q214405, .ref (γ 9 29), .int p214418, .ref (γ 9 31), .int p214419, .int p214420, .int p214421, .ref q214406]) := e214452
                      refine G_iload 1 dr_cX17_merge_149 rfl ?_
                      refine G_iload 0 dr_cX17_merge_151 rfl ?_
                      refine G_icmp_eq 164 dr_cX17_merge_153 (by decide +kernel) (fun hc214456 => ?_) (fun hc214456 => ?_)
                      · have r214457 : z214352.toInt = z214353.toInt := gC_eq hc214456
                        refine G_iconst 1 dr_cX17_merge_164 (by decide +kernel) ?_
                        have hT214458 : RS D I P203304 F214451 γ el := RS_set hT214378 n214453 ht214381 (by decide) ⟨q214405, q214406, p214407, p214408, p214409, p214410, z214450, p214412, p214413, p214414, p214415, p214416, p214417, p214418, p214419, p214420, p214421, he214455, ⟨(hB214448.1), (hB214448.2.1), (hB214448.2.2.1), (hB214448.2.2.2.1), (hB214448.2.2.2.2.1), (hB214448.2.2.2.2.2.1), (hB214448.2.2.2.2.2.2.1), (hB214448.2.2.2.2.2.2.2.1), (hB214448.2.2.2.2.2.2.2.2)⟩, ht214422, ht214423, ht214424, ht214425, ht214426, ht214427, ht214428, ht214429, ht214430, ht214431, ht214432, ht214433, ht214434, ht214435, ht214436, ht214437, ht214438, ht214439, ht214440, ht214441, ht214442, ht214443, ht214444, ht214445, hB214449⟩
                        have hs214459 := rSk_put hs214379 hT214458 n214453 ht214381 (by decide) (by decide)
                        exact G_zretA FieldType.boolean dr_cX17_merge_165 rfl rfl (show ((rPh γ el f - rPh γ0 el0 f) / 18) ≤ (((387 * B + 6000) - rPh γ0 el0 f) / 18) by omega) (show (rPh γ el f - rPh γ0 el0 f) ≤ ((387 * B + 6000) - rPh γ0 el0 f) by omega) ⟨P203304, F214451, γ, el, 1, rfl, rfl, hs214459, ⟨by omega, by omega⟩, hB214400, (gB_w (gBl (show Int32.toInt 1 = 1 by decide)) (by decide) (by decide)), (by have qa0 : Int32.toInt 1 = 1 := (by decide); omega), (by have qa0 : Int32.toInt 1 = 1 := (by decide); omega), (by have qa0 : Int32.toInt 1 = 1 := (by decide); omega), (by have qa0 : Int32.toInt 1 = 1 := (by decide); omega), (Or.inr (by rw [show γ 6 f = γ0 6 f by omega]; exact Nat.le_of_eq sm214374))⟩
                      · have r214460 : z214352.toInt ≠ z214353.toInt := gC_ne hc214456
                        refine G_aload_n 7 dr_cX17_merge_156 rfl ?_
                        refine G_iload 0 dr_cX17_merge_157 rfl ?_
                        refine G_iload 1 dr_cX17_merge_159 rfl ?_
                        have v0_214461 : 0 < γ 6 (γ 1 q203307) := by rw [hf214383]; omega
                        have hT214462 : RS D I P203304 F214451 γ el := RS_set hT214378 n214453 ht214381 (by decide) ⟨q214405, q214406, p214407, p214408, p214409, p214410, z214450, p214412, p214413, p214414, p214415, p214416, p214417, p214418, p214419, p214420, p214421, he214455, ⟨(hB214448.1), (hB214448.2.1), (hB214448.2.2.1), (hB214448.2.2.2.1), (hB214448.2.2.2.2.1), (hB214448.2.2.2.2.2.1), (hB214448.2.2.2.2.2.2.1), (hB214448.2.2.2.2.2.2.2.1), (hB214448.2.2.2.2.2.2.2.2)⟩, ht214422, ht214423, ht214424, ht214425, ht214426, ht214427, ht214428, ht214429, ht214430, ht214431, ht214432, ht214433, ht214434, ht214435, ht214436, ht214437, ht214438, ht214439, ht214440, ht214441, ht214442, ht214443, ht214444, ht214445, hB214449⟩
                        have hs214463 := rSk_put hs214379 hT214462 n214453 ht214381 (by decide) (by decide)
                        refine Gw_callS (As := [.ref q203307, .int z214353, .int z214352]) (gV_ok D I) (ct_165180_SpillForgeModel_rename l hl0 D I γ el P203304 F214451 q203307 z214353 z214352 hT214462 ht214382 bz214353 bz214352 (by omega)) dr_cX17_merge_161 ⟨wr_11_30, wr_1_14, wr_11_32, by decide, rfl, (Nat.le_of_ble_eq_true rfl), (Nat.le_of_ble_eq_true rfl)⟩ wr_11_31 (rm_zc pk214402) (rm_zs pk214402) (Nat.le_of_ble_eq_true rfl) (fun r214467 w214468 dc214464 ds214465 hp214466 => ?_) (fun _ _ _ _ _ z => z.elim)
                        obtain ⟨F214469, rfl, rfl, hT214470, hs214471, hdc, hds⟩ := hp214466
                        have hs214472 := rSk_str hs214463 hT214470 hs214471 (by decide) (by decide) (by decide)
                        change G _ _ _ _ _ _ _ _ _ _ _
                        refine G_widen (cs' := ((rPh γ el f - rPh γ0 el0 f) / 18)) (sl' := (rPh γ el f - rPh γ0 el0 f)) (rm_d0 hdc) (rm_d0 hds) ?_
                        refine G_iconst 1 dr_cX17_merge_164 (by decide +kernel) ?_
                        exact G_zretA FieldType.boolean dr_cX17_merge_165 rfl rfl (show ((rPh γ el f - rPh γ0 el0 f) / 18) ≤ (((387 * B + 6000) - rPh γ0 el0 f) / 18) by omega) (show (rPh γ el f - rPh γ0 el0 f) ≤ ((387 * B + 6000) - rPh γ0 el0 f) by omega) ⟨P203304, F214469, γ, el, 1, rfl, rfl, hs214472, ⟨by omega, by omega⟩, hB214400, (gB_w (gBl (show Int32.toInt 1 = 1 by decide)) (by decide) (by decide)), (by have qa0 : Int32.toInt 1 = 1 := (by decide); omega), (by have qa0 : Int32.toInt 1 = 1 := (by decide); omega), (by have qa0 : Int32.toInt 1 = 1 := (by decide); omega), (by have qa0 : Int32.toInt 1 = 1 := (by decide); omega), (Or.inr (by rw [show γ 6 f = γ0 6 f by omega]; exact Nat.le_of_eq sm214374))⟩
                    · have r214473 : o214349.toInt = 0 := gj_eq hc214350 (show Int32.toInt 0 = 0 by decide)
                      have bo214349' : gB o214349 0 0 := ⟨by omega, by omega⟩
                      refine G_goto 166 dr_cX17_merge_95 (by decide +kernel) ?_
                      obtain ⟨z214474, hz214474⟩ : ∃ z : Int32, z = g214109 + Int32.ofInt 1 := ⟨_, rfl⟩
                      have ez214474 : z214474.toInt = g214109.toInt + 1 := gI_inc hz214474 (by decide) bg214109' (by decide) (by decide)
                      have bz214474 : gB z214474 1 1000000 := ⟨by omega, by omega⟩
                      refine G_iinc (L' := [(5, .int z214474), (6, .ref q214141), (4, .ref q213707), (3, .int g213649), (0, .ref q203306), (1, .ref q203307), (2, .int p203308)]) z214474 1 dr_cX17_merge_166 rfl hz214474.symm (Nat.le_of_ble_eq_true rfl) rfl ?_
                      refine G_goto 20 dr_cX17_merge_169 (by decide +kernel) ?_
                      refine G_lv (L' := [(5, .int z214474), (4, .ref q213707), (3, .int g213649), (0, .ref q203306), (1, .ref q203307), (2, .int p203308)]) [0, 2, 3, 4, 5, 6] rfl ?_
                      exact ih20_214109 z214474 (gB_w bz214474 (by decide) (by decide)) (by omega)
        exact hlp20_214109 (((1000001 : Int) - 0).toNat + 1) 0 (gB_w (gBl (show Int32.toInt 0 = 0 by decide)) (by decide) (by decide)) (Nat.lt_succ_self _)
  exact hlp2_213649 (((1000001 : Int) - 0).toNat + 1) 0 (gB_w (gBl (show Int32.toInt 0 = 0 by decide)) (by decide) (by decide)) (Nat.lt_succ_self _)
