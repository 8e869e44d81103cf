theorem dr_cX17_merge_0 : decode cX17_merge 0 = .ok (.iconst 0, 1) := by decide +kernel
theorem dr_cX17_merge_1 : decode cX17_merge 1 = .ok (.istore_n 3, 1) := by decide +kernel
theorem dr_cX17_merge_2 : decode cX17_merge 2 = .ok (.iload_n 3, 1) := by decide +kernel
theorem dr_cX17_merge_3 : decode cX17_merge 3 = .ok (.aload_n 1, 1) := by decide +kernel
theorem dr_cX17_merge_4 : decode cX17_merge 4 = .ok (.invokevirtual 96, 3) := by decide +kernel
theorem dr_cX17_merge_7 : decode cX17_merge 7 = .ok (.if_icmp .ge 171, 3) := by decide +kernel
theorem dr_cX17_merge_178 : decode cX17_merge 178 = .ok (.iconst 0, 1) := by decide +kernel
theorem dr_cX17_merge_179 : decode cX17_merge 179 = .ok (.ireturn, 1) := by decide +kernel
theorem dr_cX17_merge_10 : decode cX17_merge 10 = .ok (.aload_n 1, 1) := by decide +kernel
theorem dr_cX17_merge_11 : decode cX17_merge 11 = .ok (.iload_n 3, 1) := by decide +kernel
theorem dr_cX17_merge_12 : decode cX17_merge 12 = .ok (.invokevirtual 101, 3) := by decide +kernel
theorem dr_cX17_merge_15 : decode cX17_merge 15 = .ok (.astore 4, 2) := by decide +kernel
theorem dr_cX17_merge_17 : decode cX17_merge 17 = .ok (.iconst 0, 1) := by decide +kernel
theorem dr_cX17_merge_18 : decode cX17_merge 18 = .ok (.istore 5, 2) := by decide +kernel
theorem dr_cX17_merge_20 : decode cX17_merge 20 = .ok (.iload 5, 2) := by decide +kernel
theorem dr_cX17_merge_22 : decode cX17_merge 22 = .ok (.aload 4, 2) := by decide +kernel
theorem dr_cX17_merge_24 : decode cX17_merge 24 = .ok (.getfield 117, 3) := by decide +kernel
theorem dr_cX17_merge_27 : decode cX17_merge 27 = .ok (.invokevirtual 121, 3) := by decide +kernel
theorem dr_cX17_merge_30 : decode cX17_merge 30 = .ok (.if_icmp .ge 142, 3) := by decide +kernel
theorem dr_cX17_merge_172 : decode cX17_merge 172 = .ok (.iinc 3 1, 3) := by decide +kernel
theorem dr_cX17_merge_175 : decode cX17_merge 175 = .ok (.goto (-173), 3) := by decide +kernel
theorem dr_cX17_merge_33 : decode cX17_merge 33 = .ok (.aload 4, 2) := by decide +kernel
theorem dr_cX17_merge_35 : decode cX17_merge 35 = .ok (.getfield 117, 3) := by decide +kernel
theorem dr_cX17_merge_38 : decode cX17_merge 38 = .ok (.iload 5, 2) := by decide +kernel
theorem dr_cX17_merge_40 : decode cX17_merge 40 = .ok (.invokevirtual 124, 3) := by decide +kernel
theorem dr_cX17_merge_43 : decode cX17_merge 43 = .ok (.checkcast 40, 3) := by decide +kernel
theorem dr_cX17_merge_46 : decode cX17_merge 46 = .ok (.astore 6, 2) := by decide +kernel
theorem dr_cX17_merge_48 : decode cX17_merge 48 = .ok (.aload 6, 2) := by decide +kernel
theorem dr_cX17_merge_50 : decode cX17_merge 50 = .ok (.getfield 39, 3) := by decide +kernel
theorem dr_cX17_merge_53 : decode cX17_merge 53 = .ok (.ifCond .ne 113, 3) := by decide +kernel
theorem dr_cX17_merge_166 : decode cX17_merge 166 = .ok (.iinc 5 1, 3) := by decide +kernel
theorem dr_cX17_merge_169 : decode cX17_merge 169 = .ok (.goto (-149), 3) := by decide +kernel
theorem dr_cX17_merge_56 : decode cX17_merge 56 = .ok (.aload 6, 2) := by decide +kernel
theorem dr_cX17_merge_58 : decode cX17_merge 58 = .ok (.getfield 141, 3) := by decide +kernel
theorem dr_cX17_merge_61 : decode cX17_merge 61 = .ok (.ifCond .eq 105, 3) := by decide +kernel
theorem dr_cX17_merge_64 : decode cX17_merge 64 = .ok (.aload 6, 2) := by decide +kernel
theorem dr_cX17_merge_66 : decode cX17_merge 66 = .ok (.getfield 52, 3) := by decide +kernel
theorem dr_cX17_merge_69 : decode cX17_merge 69 = .ok (.aload 6, 2) := by decide +kernel
theorem dr_cX17_merge_71 : decode cX17_merge 71 = .ok (.getfield 73, 3) := by decide +kernel
theorem dr_cX17_merge_74 : decode cX17_merge 74 = .ok (.if_icmp .eq 24, 3) := by decide +kernel
theorem dr_cX17_merge_98 : decode cX17_merge 98 = .ok (.aload 6, 2) := by decide +kernel
theorem dr_cX17_merge_100 : decode cX17_merge 100 = .ok (.getfield 52, 3) := by decide +kernel
theorem dr_cX17_merge_103 : decode cX17_merge 103 = .ok (.aload 6, 2) := by decide +kernel
theorem dr_cX17_merge_105 : decode cX17_merge 105 = .ok (.getfield 73, 3) := by decide +kernel
theorem dr_cX17_merge_108 : decode cX17_merge 108 = .ok (.invokestatic 164, 3) := by decide +kernel
theorem dr_cX17_merge_111 : decode cX17_merge 111 = .ok (.istore 7, 2) := by decide +kernel
theorem dr_cX17_merge_113 : decode cX17_merge 113 = .ok (.aload 6, 2) := by decide +kernel
theorem dr_cX17_merge_115 : decode cX17_merge 115 = .ok (.getfield 52, 3) := by decide +kernel
theorem dr_cX17_merge_118 : decode cX17_merge 118 = .ok (.aload 6, 2) := by decide +kernel
theorem dr_cX17_merge_120 : decode cX17_merge 120 = .ok (.getfield 73, 3) := by decide +kernel
theorem dr_cX17_merge_123 : decode cX17_merge 123 = .ok (.invokestatic 189, 3) := by decide +kernel
theorem wr_11_21 : (Jvm.Cond.methodLink "SpillForgeModel" (189 : Nat) ({ cls := "java/lang/Math", name := "max", desc := "(II)I" } : Jvm.MethodName)) ∈ gw := gw_11 21 rfl rfl
theorem dr_cX17_merge_126 : decode cX17_merge 126 = .ok (.istore 8, 2) := by decide +kernel
theorem dr_cX17_merge_128 : decode cX17_merge 128 = .ok (.aload 4, 2) := by decide +kernel
theorem dr_cX17_merge_130 : decode cX17_merge 130 = .ok (.getfield 117, 3) := by decide +kernel
theorem dr_cX17_merge_133 : decode cX17_merge 133 = .ok (.iload 5, 2) := by decide +kernel
theorem dr_cX17_merge_135 : decode cX17_merge 135 = .ok (.invokevirtual 192, 3) := by decide +kernel
theorem wr_11_22 : (Jvm.Cond.methodLink "SpillForgeModel" (192 : Nat) ({ cls := "java/util/ArrayList", name := "remove", desc := "(I)Ljava/lang/Object;" } : Jvm.MethodName)) ∈ gw := gw_11 22 rfl rfl
theorem wr_11_25 : (Jvm.Cond.code ({ cls := "java/util/ArrayList", name := "remove", desc := "(I)Ljava/lang/Object;" } : Jvm.MethodName) prog_43_method_29_code (4 : Nat) (Option.some (Jvm.ClassFile.FieldType.object "java/lang/Object"))) ∈ gw := gw_11 25 rfl rfl
theorem wr_11_23 : (Jvm.Cond.instanceMethod ({ cls := "java/util/ArrayList", name := "remove", desc := "(I)Ljava/lang/Object;" } : Jvm.MethodName)) ∈ gw := gw_11 23 rfl rfl
theorem wr_11_24 : (Jvm.Cond.selects "java/util/ArrayList" ({ cls := "java/util/ArrayList", name := "remove", desc := "(I)Ljava/lang/Object;" } : Jvm.MethodName) ({ cls := "java/util/ArrayList", name := "remove", desc := "(I)Ljava/lang/Object;" } : Jvm.MethodName)) ∈ gw := gw_11 24 rfl rfl
theorem dr_cX17_merge_138 : decode cX17_merge 138 = .ok (.pop, 1) := by decide +kernel
theorem dr_cX17_merge_139 : decode cX17_merge 139 = .ok (.aload_n 0, 1) := by decide +kernel
theorem dr_cX17_merge_140 : decode cX17_merge 140 = .ok (.dup, 1) := by decide +kernel
theorem dr_cX17_merge_141 : decode cX17_merge 141 = .ok (.getfield 195, 3) := by decide +kernel
theorem wr_7_87 : (Jvm.Cond.fieldLink "SpillForgeModel" (195 : Nat) "SpillForgeModel" "merged" "I") ∈ gw := gw_7 87 rfl rfl
theorem dr_cX17_merge_144 : decode cX17_merge 144 = .ok (.iconst 1, 1) := by decide +kernel
theorem dr_cX17_merge_145 : decode cX17_merge 145 = .ok (.iadd, 1) := by decide +kernel
theorem dr_cX17_merge_146 : decode cX17_merge 146 = .ok (.putfield 195, 3) := by decide +kernel
theorem dr_cX17_merge_149 : decode cX17_merge 149 = .ok (.iload 7, 2) := by decide +kernel
theorem dr_cX17_merge_151 : decode cX17_merge 151 = .ok (.iload 8, 2) := by decide +kernel
theorem dr_cX17_merge_153 : decode cX17_merge 153 = .ok (.if_icmp .eq 11, 3) := by decide +kernel
theorem dr_cX17_merge_164 : decode cX17_merge 164 = .ok (.iconst 1, 1) := by decide +kernel
theorem dr_cX17_merge_165 : decode cX17_merge 165 = .ok (.ireturn, 1) := by decide +kernel
theorem dr_cX17_merge_156 : decode cX17_merge 156 = .ok (.aload_n 1, 1) := by decide +kernel
theorem dr_cX17_merge_157 : decode cX17_merge 157 = .ok (.iload 8, 2) := by decide +kernel
theorem dr_cX17_merge_159 : decode cX17_merge 159 = .ok (.iload 7, 2) := by decide +kernel
theorem dr_cX17_merge_161 : decode cX17_merge 161 = .ok (.invokestatic 198, 3) := by decide +kernel
theorem wr_11_30 : (Jvm.Cond.methodLink "SpillForgeModel" (198 : Nat) ({ cls := "SpillForgeModel", name := "rename", desc := "(LSpillForgeModel$Code;II)V" } : Jvm.MethodName)) ∈ gw := gw_11 30 rfl rfl
theorem wr_11_32 : (Jvm.Cond.code ({ cls := "SpillForgeModel", name := "rename", desc := "(LSpillForgeModel$Code;II)V" } : Jvm.MethodName) prog_14_method_19_code (7 : Nat) (Option.none : Option Jvm.ClassFile.FieldType)) ∈ gw := gw_11 32 rfl rfl
theorem wr_11_31 : (Jvm.Cond.static ({ cls := "SpillForgeModel", name := "rename", desc := "(LSpillForgeModel$Code;II)V" } : Jvm.MethodName)) ∈ gw := gw_11 31 rfl rfl
theorem dr_cX17_merge_77 : decode cX17_merge 77 = .ok (.aload_n 0, 1) := by decide +kernel
theorem dr_cX17_merge_78 : decode cX17_merge 78 = .ok (.aload 6, 2) := by decide +kernel
theorem dr_cX17_merge_80 : decode cX17_merge 80 = .ok (.getfield 52, 3) := by decide +kernel
theorem dr_cX17_merge_83 : decode cX17_merge 83 = .ok (.aload 6, 2) := by decide +kernel
theorem dr_cX17_merge_85 : decode cX17_merge 85 = .ok (.getfield 73, 3) := by decide +kernel
theorem dr_cX17_merge_88 : decode cX17_merge 88 = .ok (.iload_n 2, 1) := by decide +kernel
theorem dr_cX17_merge_89 : decode cX17_merge 89 = .ok (.invokevirtual 185, 3) := by decide +kernel
theorem wr_11_12 : (Jvm.Cond.methodLink "SpillForgeModel" (185 : Nat) ({ cls := "SpillForgeModel", name := "mayMerge", desc := "(III)Z" } : Jvm.MethodName)) ∈ gw := gw_11 12 rfl rfl
theorem wr_11_15 : (Jvm.Cond.code ({ cls := "SpillForgeModel", name := "mayMerge", desc := "(III)Z" } : Jvm.MethodName) prog_14_method_18_code (8 : Nat) (Option.some Jvm.ClassFile.FieldType.boolean)) ∈ gw := gw_11 15 rfl rfl
theorem wr_11_14 : (Jvm.Cond.instanceMethod ({ cls := "SpillForgeModel", name := "mayMerge", desc := "(III)Z" } : Jvm.MethodName)) ∈ gw := gw_11 14 rfl rfl
theorem wr_p_102 : Cond.selects "SpillForgeModel" ⟨"SpillForgeModel", "mayMerge", "(III)Z"⟩ ⟨"SpillForgeModel", "mayMerge", "(III)Z"⟩ ∈ gw := gw_p _ 102 rfl rfl rfl
theorem dr_cX17_merge_92 : decode cX17_merge 92 = .ok (.ifCond .ne 6, 3) := by decide +kernel
theorem dr_cX17_merge_95 : decode cX17_merge 95 = .ok (.goto 71, 3) := by decide +kernel
abbrev ky_210488_SpillForgeModel_merge : gKey := (cX17_merge, 9, "SpillForgeModel", (some FieldType.boolean), [], "merge", fun _ _ => True)
def pg_210488_SpillForgeModel_merge (D : va_G) (I : FieldType → ClassId) (γ0 el0 : Nat → Nat → Nat) (f : Nat) (B : Nat) (P210482 : List Nat) (F210483 : Nat → va_E) (q210484 : Nat) (q210485 : Nat) (p210486 : Int32) : Option Value → va_W → Nat → Nat → Prop := fun r w dc ds => ∃ (P221832 : List Nat) (F221833 : Nat → va_E) (γ el : Nat → Nat → Nat) (o221831 : Int32), r = some (.int o221831) ∧ w = va_pl P221832 F221833 ∧ rSk f [] ([1, 3, 6] ++ npk) D I P210482 F210483 γ0 el0 P221832 F221833 γ el ∧ (18 * dc + rPh γ0 el0 f ≤ rPh γ el f ∧ ds + rPh γ0 el0 f ≤ rPh γ el f) ∧ rBd γ el f B ∧ gB o221831 0 1 ∧ γ 6 f = γ0 6 f ∧ γ 7 f = γ0 7 f ∧ γ 16 f = γ0 16 f ∧ γ 18 f = γ0 18 f ∧ (o221831.toInt = 0 ∨ rsum (fun i => γ 2 (γ 14 (el (γ 14 q210485) i))) (γ 6 f) + 1 ≤ rsum (fun i => γ0 2 (γ0 14 (el0 (γ0 14 q210485) i))) (γ0 6 f)) ∧ tr_RModel_merge D I γ0 el0 f P210482 F210483 q210484 q210485 p210486 o221831 P221832 F221833 γ el
set_option maxRecDepth 100000 in
set_option maxHeartbeats 1500000 in
theorem cg_210488_SpillForgeModel_merge (l : Launch) (hl0 : l.stackTraces = false) (D : va_G) (I : FieldType → ClassId) (γ0 el0 : Nat → Nat → Nat) (f : Nat) (B : Nat) (P210482 : List Nat) (F210483 : Nat → va_E) (q210484 : Nat) (q210485 : Nat) (p210486 : Int32) (hT0 : RS D I P210482 F210483 γ0 el0) (hzq210484 : rKd γ0 q210484 10) (hzq210485 : rKd γ0 q210485 9) (hf0 : γ0 1 q210485 = f) (hB0 : rBd γ0 el0 f B) (hBk : B ≤ 100000) (x210487 : 0 < γ0 6 f) : CtA (gV D I) l yX17_merge cX17_merge 9 (some FieldType.boolean) 5 111 (((387 * B + 6000) - rPh γ0 el0 f) / 18) ((387 * B + 6000) - rPh γ0 el0 f) [.ref q210484, .ref q210485, .int p210486] (va_pl P210482 F210483) (pg_210488_SpillForgeModel_merge D I γ0 el0 f B P210482 F210483 q210484 q210485 p210486) gNA := by
  refine CtA_of hl0 (by decide) (Nat.le_of_ble_eq_true rfl) ?_
  have bp210486 := gB_any p210486
  obtain ⟨gm_0, hγ0⟩ : ∃ z, z = γ0 := ⟨_, rfl⟩
  obtain ⟨el_0, hel0⟩ : ∃ z, z = el0 := ⟨_, rfl⟩
  have hT : RS D I P210482 F210483 gm_0 el := by rw [hγ0, hel0]; exact hT0
  have hst : rSk f [] ([1, 3, 6] ++ npk) D I P210482 F210483 γ0 el0 P210482 F210483 gm_0 el := by rw [hγ0, hel0]; exact rSk_rf hT0
  have hph : rPh γ0 el0 f ≤ rPh gm_0 el_0 f := by rw [hγ0, hel0]; exact Nat.le_refl _
  have hB : rBd gm_0 el_0 f B := by rw [hγ0, hel0]; exact hB0
  have htq210484 : rKd gm_0 q210484 10 := by rw [hγ0]; exact hzq210484
  have htq210485 : rKd gm_0 q210485 9 := by rw [hγ0]; exact hzq210485
  have hf1 : gm_0 1 q210485 = f := by rw [hγ0]; exact hf0
  have x210487n : 0 < gm_0 6 f := by rw [hγ0]; exact x210487
  have pk210489 : rPh gm_0 el_0 f ≤ 387 * B + 6000 := rm_pk (rM_ge hT htq210485 hf1).1 (rM_bd hB)
  refine G_widen (cs' := ((rPh gm_0 el_0 f - rPh γ0 el0 f) / 18)) (sl' := (rPh gm_0 el_0 f - rPh γ0 el0 f)) (Nat.zero_le _) (Nat.zero_le _) ?_
  have e0_210490 : gm_0 6 f = γ0 6 f := by rw [hγ0]
  have e0_210491 : gm_0 7 f = γ0 7 f := by rw [hγ0]
  have e0_210492 : gm_0 16 f = γ0 16 f := by rw [hγ0]
  have e0_210493 : gm_0 18 f = γ0 18 f := by rw [hγ0]
  have e0_210494 : gm_0 19 f = γ0 19 f := by rw [hγ0]
  have v0_210495 : 0 < gm_0 6 (gm_0 1 q210485) := by rw [hf1, hγ0]; exact x210487
  have s0_210496 : rsum (fun i => gm_0 2 (gm_0 14 (el_0 (gm_0 14 q210485) i))) (gm_0 6 f) = rsum (fun i => γ0 2 (γ0 14 (el0 (γ0 14 q210485) i))) (γ0 6 f) := by rw [hγ0, hel0]
  refine G_iconst 0 dr_cX17_merge_0 (by decide +kernel) ?_
  refine G_istore_n (L' := [(3, .int 0), (0, .ref q210484), (1, .ref q210485), (2, .int p210486)]) dr_cX17_merge_1 (Nat.le_of_ble_eq_true rfl) rfl ?_
  have hlp2_220966 : ∀ (n2_220966 : Nat) (g220966 : Int32), gB g220966 0 1000000 → (∀ (k : Nat) (e1 : Nat) (e2 : Int32) (e3 : Nat), tl_RModel_merge_2 D I γ0 el0 f F210483 q210485 el_0 gm_0 q210484 p210486 g220966 k e1 e2 e3 → tl_RModel_merge_2 D I γ0 el0 f F210483 q210485 el_0 gm_0 q210484 p210486 (0 : Int32) k e1 e2 e3) → ((1000001 : Int) - g220966.toInt).toNat < n2_220966 → G (gV D I) l (gRm 5 111 (((387 * B + 6000) - rPh γ0 el0 f) / 18) ((387 * B + 6000) - rPh γ0 el0 f)) (gMA (gV D I) (pg_210488_SpillForgeModel_merge D I γ0 el0 f B P210482 F210483 q210484 q210485 p210486) gNA (((387 * B + 6000) - rPh γ0 el0 f) / 18) ((387 * B + 6000) - rPh γ0 el0 f)) ky_210488_SpillForgeModel_merge 2 [(3, .int g220966), (0, .ref q210484), (1, .ref q210485), (2, .int p210486)] [] (va_pl P210482 F210483) ((rPh gm_0 el_0 f - rPh γ0 el0 f) / 18) (rPh gm_0 el_0 f - rPh γ0 el0 f) := by
    intro n2_220966
    induction n2_220966 with
    | zero => intro g220966 bg220966 kt2_220967 hm2_220966; exact absurd hm2_220966 (Nat.not_lt_zero _)
    | succ n2_220966 ih2_220966 =>
      intro g220966 bg220966 kt2_220967 hm2_220966
      refine G_iload_n 0 dr_cX17_merge_2 rfl ?_
      refine G_aload_n 2 dr_cX17_merge_3 rfl ?_
      have hm220968 : q210485 ∈ P210482 := RS_m hT htq210485 (by decide)
      obtain ⟨q220970, q220971, p220972, p220973, he220969, ht220989, ht220974, ht220975, ht220976, ht220977, r220978, r220979, r220980, r220981, r220982, r220983, r220984, r220985, r220986, r220987, r220988⟩ := show rk_9 gm_0 el_0 q210485 (F210483 q210485) from RS_o hT htq210485
      have bp220972 : gB p220972 0 1000000 := ⟨by omega, by omega⟩
      have bp220973 : gB p220973 0 1000000 := ⟨by omega, by omega⟩
      have hf220990 : gm_0 1 q220970 = f := (show gm_0 1 q220970 = gm_0 1 q210485 from ht220975).trans hf1
      have hf220991 : gm_0 1 q220971 = f := (show gm_0 1 q220971 = gm_0 1 q210485 from ht220977).trans hf1
      have r220992 : gm_0 6 (gm_0 1 q210485) = gm_0 6 f := by rw [hf1]
      have r220993 : gm_0 16 (gm_0 1 q210485) = gm_0 16 f := by rw [hf1]
      have r220994 : p220973.toInt = gm_0 6 f ∧ p220973.toInt ≤ 40 := by omega
      clear r220984
      have fq220995 : fI (F210483 q210485) 3 = p220973 := by rw [he220969]; rfl
      refine Gw_callV (As := []) (gV_ok D I) (cp_12780_Code_size l hl0 D I P210482 F210483 q210485 q220970 q220971 p220972 p220973 hm220968 he220969) dr_cX17_merge_4 ⟨wr_10_160, wr_1_15, wr_9_131, by decide, rfl, (Nat.le_of_ble_eq_true rfl), (Nat.le_of_ble_eq_true rfl)⟩ wr_9_129 wr_9_130 hm220968 he220969 rfl (rm_zc pk210489) (rm_zs pk210489) (Nat.le_of_ble_eq_true rfl) (fun r220999 w221000 dc220996 ds220997 hp220998 => ?_) (fun _ _ _ _ _ z => z.elim)
      obtain ⟨rfl, rfl, hdc, hds⟩ := hp220998
      change G _ _ _ _ _ _ _ (.int p220973 :: _) _ _ _
      refine G_widen (cs' := ((rPh gm_0 el_0 f - rPh γ0 el0 f) / 18)) (sl' := (rPh gm_0 el_0 f - rPh γ0 el0 f)) (rm_d0 hdc) (rm_d0 hds) ?_
      refine G_icmp_ge 178 dr_cX17_merge_7 (by decide +kernel) (fun hc221001 => ?_) (fun hc221001 => ?_)
      · have r221002 : p220973.toInt ≤ g220966.toInt := gC_le hc221001
        have hx221003 : tl_RModel_merge_2 D I γ0 el0 f F210483 q210485 el_0 gm_0 q210484 p210486 (0 : Int32) 178 (fun _ => 0 : Nat) (0 : Int32) (fun _ => 0 : Nat) := kt2_220967 178 (fun _ => 0 : Nat) (0 : Int32) (fun _ => 0 : Nat) (fun R c1 c2 c3 => c1 g220966 p220973 bg220966 fq220995 r221002)
        refine G_iconst 0 dr_cX17_merge_178 (by decide +kernel) ?_
        exact G_zretA FieldType.boolean dr_cX17_merge_179 rfl rfl (show ((rPh gm_0 el_0 f - rPh γ0 el0 f) / 18) ≤ (((387 * B + 6000) - rPh γ0 el0 f) / 18) by omega) (show (rPh gm_0 el_0 f - rPh γ0 el0 f) ≤ ((387 * B + 6000) - rPh γ0 el0 f) by omega) ⟨P210482, F210483, gm_0, el_0, 0, rfl, rfl, hst, ⟨by omega, by omega⟩, hB, (gB_w (gBl (show Int32.toInt 0 = 0 by decide)) (by decide) (by decide)), (by have qa0 : Int32.toInt 0 = 0 := (by decide); omega), (by have qa0 : Int32.toInt 0 = 0 := (by decide); omega), (by have qa0 : Int32.toInt 0 = 0 := (by decide); omega), (by have qa0 : Int32.toInt 0 = 0 := (by decide); omega), (Or.inl (by decide)), (fun R c1 c2 c3 => c1 gm_0 el_0 hγ0 hel0 hx221003)⟩
      · have r221004 : g220966.toInt < p220973.toInt := gC_nle hc221001
        have bg220966' : gB g220966 0 999999 := ⟨by omega, by omega⟩
        have bp220973' : gB p220973 1 1000000 := ⟨by omega, by omega⟩
        refine G_aload_n 2 dr_cX17_merge_10 rfl ?_
        refine G_iload_n 0 dr_cX17_merge_11 rfl ?_
        have hm221005 : q220970 ∈ P210482 := RS_m hT ht220974 (by decide)
        obtain ⟨⟨p221007, p221008, q221009, he221006, r221010, r221011, r221012, r221014⟩, r221013⟩ := show rk_4 D I gm_0 el_0 F210483 q220970 from RS_o hT ht220974
        have bp221007 := gB_any p221007
        have bp221008 : gB p221008 0 1000000 := ⟨by omega, by omega⟩
        obtain ⟨r221015, r221016, n221023, f221024, r221017, r221018, r221019, r221020, r221021, r221022⟩ := rLC_n r221012 (by omega)
        have hm221025 : q221009 ∈ P210482 := RS_m hT r221015 (by decide)
        obtain ⟨q221026, hx221027⟩ : ∃ x, x = el_0 q220970 g220966.toInt.toNat := ⟨_, rfl⟩
        have fq221031 : fR (F210483 q210485) 0 = q220970 := by rw [he220969]; rfl
        have hx221028 : f221024 g220966.toNatClampNeg = some q221026 := (r221021 _ (show g220966.toInt.toNat < gm_0 2 q220970 by first | assumption | omega)).trans (by rw [hx221027])
        have ht221032 : rKd gm_0 q221026 2 := by rw [hx221027]; exact (r220985 _ (by omega)).resolve_right (fun z => absurd z.1 (by omega))
        have ht221033 : rFm gm_0 q221026 q220970 := by rw [hx221027]; exact (r221013 _ (show g220966.toInt.toNat < gm_0 2 q220970 by omega)).2.1
        have hm221034 : q221026 ∈ P210482 := RS_m hT ht221032 (by decide)
        obtain ⟨q221036, q221037, p221038, p221039, he221035, ht221046, ht221040, ht221041, ht221042, ht221043, ht221044, bp221038, bp221039, r221045, r221047, r221048⟩ := show rk_2 gm_0 q221026 (F210483 q221026) from RS_o hT ht221032
        have fq221049 : fI (F210483 q220970) 2 = p221008 := by rw [he221006]; rfl
        refine Gw_callV (As := [.int g220966]) (gV_ok D I) (cp_7901_Code_get l hl0 D I P210482 F210483 q210485 q220970 q221009 g220966 q220971 p220972 p220973 p221007 p221008 f221024 n221023 q221026 q221036 q221037 p221038 p221039 hm220968 hm221005 hm221025 hm221034 he220969 he221006 r221017 he221035 (gB_w bg220966' (by decide) (by decide)) (gB_w bp221008 (by decide) (by decide)) (by omega) (by omega) (by assumption) (by omega)) dr_cX17_merge_12 ⟨wr_10_161, wr_1_15, wr_10_141, by decide, rfl, (Nat.le_of_ble_eq_true rfl), (Nat.le_of_ble_eq_true rfl)⟩ wr_10_139 wr_10_140 hm220968 he220969 rfl (rm_zc pk210489) (rm_zs pk210489) (Nat.le_of_ble_eq_true rfl) (fun r221053 w221054 dc221050 ds221051 hp221052 => ?_) (fun _ _ _ _ _ z => z.elim)
        obtain ⟨rfl, rfl, hdc, hds, ht221055⟩ := hp221052
        change G _ _ _ _ _ _ _ (.ref q221026 :: _) _ _ _
        refine G_widen (cs' := ((rPh gm_0 el_0 f - rPh γ0 el0 f) / 18)) (sl' := (rPh gm_0 el_0 f - rPh γ0 el0 f)) (rm_d0 hdc) (rm_d0 hds) ?_
        have hf221056 : gm_0 1 q221026 = f := (show gm_0 1 q221026 = gm_0 1 q220970 from ht221033).trans ((show gm_0 1 q220970 = gm_0 1 q210485 from ht220975).trans hf1)
        have hf221057 : gm_0 1 q221036 = f := (show gm_0 1 q221036 = gm_0 1 q221026 from ht221041).trans hf221056
        have hf221058 : gm_0 1 q221037 = f := (show gm_0 1 q221037 = gm_0 1 q221026 from ht221043).trans hf221056
        have r221059 : gm_0 6 (gm_0 1 q221026) = gm_0 6 f := by rw [hf221056]
        have r221060 : gm_0 7 (gm_0 1 q221026) = gm_0 7 f := by rw [hf221056]
        have r221061 : gm_0 19 (gm_0 1 q221026) = gm_0 19 f := by rw [hf221056]
        have r221062 := r221045.resolve_left (by omega)
        clear r221045
        have r221063 : gm_0 2 (gm_0 14 q221026) = gm_0 2 q221036 := by rw [ht221046.1]
        have r221064 : g220966.toInt.toNat < gm_0 2 (gm_0 14 q210485) := by rw [ht220989.1]; omega
        have r221065 : el_0 (gm_0 14 q210485) g220966.toInt.toNat = q221026 := by rw [ht220989.1, hx221027]
        refine G_astore (L' := [(4, .ref q221026), (3, .int g220966), (0, .ref q210484), (1, .ref q210485), (2, .int p210486)]) dr_cX17_merge_15 (Nat.le_of_ble_eq_true rfl) rfl ?_
        refine G_iconst 0 dr_cX17_merge_17 (by decide +kernel) ?_
        refine G_istore (L' := [(5, .int 0), (4, .ref q221026), (3, .int g220966), (0, .ref q210484), (1, .ref q210485), (2, .int p210486)]) dr_cX17_merge_18 (Nat.le_of_ble_eq_true rfl) rfl ?_
        have hlp20_221436 : ∀ (n20_221436 : Nat) (g221436 : Int32), gB g221436 0 1000000 → (∀ (k : Nat) (e1 : Nat) (e2 : Int32), tl_RModel_merge_20 D I γ0 el0 f F210483 q221026 gm_0 el_0 q210484 p210486 g221436 k e1 e2 → tl_RModel_merge_20 D I γ0 el0 f F210483 q221026 gm_0 el_0 q210484 p210486 (0 : Int32) k e1 e2) → ((1000001 : Int) - g221436.toInt).toNat < n20_221436 → G (gV D I) l (gRm 5 111 (((387 * B + 6000) - rPh γ0 el0 f) / 18) ((387 * B + 6000) - rPh γ0 el0 f)) (gMA (gV D I) (pg_210488_SpillForgeModel_merge D I γ0 el0 f B P210482 F210483 q210484 q210485 p210486) gNA (((387 * B + 6000) - rPh γ0 el0 f) / 18) ((387 * B + 6000) - rPh γ0 el0 f)) ky_210488_SpillForgeModel_merge 20 [(5, .int g221436), (4, .ref q221026), (3, .int g220966), (0, .ref q210484), (1, .ref q210485), (2, .int p210486)] [] (va_pl P210482 F210483) ((rPh gm_0 el_0 f - rPh γ0 el0 f) / 18) (rPh gm_0 el_0 f - rPh γ0 el0 f) := by
          intro n20_221436
          induction n20_221436 with
          | zero => intro g221436 bg221436 kt20_221437 hm20_221436; exact absurd hm20_221436 (Nat.not_lt_zero _)
          | succ n20_221436 ih20_221436 =>
            intro g221436 bg221436 kt20_221437 hm20_221436
            refine G_iload 0 dr_cX17_merge_20 rfl ?_
            refine G_aload 1 dr_cX17_merge_22 rfl ?_
            have fq221438 : fR (F210483 q221026) 0 = q221036 := by rw [he221035]; rfl
            refine Gp_get 0 hm221034 he221035 dr_cX17_merge_24 (gk_X12 D I) (Nat.le_of_ble_eq_true rfl) wr_9_220 rfl ?_
            have hm221439 : q221036 ∈ P210482 := RS_m hT ht221040 (by decide)
            obtain ⟨⟨p221441, p221442, q221443, he221440, r221444, r221445, r221446, r221448⟩, r221447⟩ := show rk_3 D I gm_0 el_0 F210483 q221036 from RS_o hT ht221040
            have bp221441 := gB_any p221441
            have bp221442 : gB p221442 0 1000000 := ⟨by omega, by omega⟩
            have fq221449 : p221442.toInt = (gm_0 2 q221036 : Int) := by omega
            have fq221450 : fI (F210483 q221036) 2 = p221442 := by rw [he221440]; rfl
            refine Gw_callV (As := []) (gV_ok D I) (cp_7_ArrayList_size l hl0 D I P210482 F210483 q221036 p221441 q221443 p221442 hm221439 he221440 (gB_w bp221442 (by decide) (by decide))) dr_cX17_merge_27 ⟨wr_10_200, wr_1_18, wr_9_160, by decide, rfl, (Nat.le_of_ble_eq_true rfl), (Nat.le_of_ble_eq_true rfl)⟩ wr_9_158 wr_9_159 hm221439 he221440 rfl (rm_zc pk210489) (rm_zs pk210489) (Nat.le_of_ble_eq_true rfl) (fun r221454 w221455 dc221451 ds221452 hp221453 => ?_) (fun _ _ _ _ _ z => z.elim)
            obtain ⟨rfl, rfl, hdc, hds⟩ := hp221453
            change G _ _ _ _ _ _ _ (.int p221442 :: _) _ _ _
            refine G_widen (cs' := ((rPh gm_0 el_0 f - rPh γ0 el0 f) / 18)) (sl' := (rPh gm_0 el_0 f - rPh γ0 el0 f)) (rm_d0 hdc) (rm_d0 hds) ?_
            refine G_icmp_ge 172 dr_cX17_merge_30 (by decide +kernel) (fun hc221456 => ?_) (fun hc221456 => ?_)
            · have r221457 : p221442.toInt ≤ g221436.toInt := gC_le hc221456
              have hx221458 : tl_RModel_merge_20 D I γ0 el0 f F210483 q221026 gm_0 el_0 q210484 p210486 (0 : Int32) 172 (fun _ => 0 : Nat) (0 : Int32) := kt20_221437 172 (fun _ => 0 : Nat) (0 : Int32) (fun R c1 c2 c3 c4 c5 c6 => c1 g221436 q221036 p221442 bg221436 fq221438 fq221449 fq221450 r221457)
              obtain ⟨z221459, hz221459⟩ : ∃ z : Int32, z = g220966 + Int32.ofInt 1 := ⟨_, rfl⟩
              have ez221459 : z221459.toInt = g220966.toInt + 1 := gI_inc hz221459 (by decide) bg220966' (by decide) (by decide)
              have bz221459 : gB z221459 1 1000000 := ⟨by omega, by omega⟩
              refine G_iinc (L' := [(3, .int z221459), (5, .int g221436), (4, .ref q221026), (0, .ref q210484), (1, .ref q210485), (2, .int p210486)]) z221459 2 dr_cX17_merge_172 rfl hz221459.symm (Nat.le_of_ble_eq_true rfl) rfl ?_
              refine G_goto 2 dr_cX17_merge_175 (by decide +kernel) ?_
              refine G_lv (L' := [(3, .int z221459), (0, .ref q210484), (1, .ref q210485), (2, .int p210486)]) [0, 3, 4, 5] rfl ?_
              exact ih2_220966 z221459 (gB_w bz221459 (by decide) (by decide)) (fun k e1 e2 e3 ht => kt2_220967 k e1 e2 e3 (fun R c1 c2 c3 => c2 g220966 p220973 q220970 q221026 p221008 z221459 k e1 e2 e3 bg220966 fq220995 r221004 fq221031 hx221027 fq221049 ht221055 hx221458 ez221459 (ht R c1 c2 c3))) (by omega)
            · have r221460 : g221436.toInt < p221442.toInt := gC_nle hc221456
              have bg221436' : gB g221436 0 999999 := ⟨by omega, by omega⟩
              have bp221442' : gB p221442 1 1000000 := ⟨by omega, by omega⟩
              refine G_aload 1 dr_cX17_merge_33 rfl ?_
              refine Gp_get 0 hm221034 he221035 dr_cX17_merge_35 (gk_X12 D I) (Nat.le_of_ble_eq_true rfl) wr_9_220 rfl ?_
              refine G_iload 0 dr_cX17_merge_38 rfl ?_
              obtain ⟨r221461, r221462, n221469, f221470, r221463, r221464, r221465, r221466, r221467, r221468⟩ := rLC_n r221446 (by omega)
              have hm221471 : q221443 ∈ P210482 := RS_m hT r221461 (by decide)
              obtain ⟨q221472, hx221473⟩ : ∃ x, x = el_0 q221036 g221436.toInt.toNat := ⟨_, rfl⟩
              have hx221474 : f221470 g221436.toNatClampNeg = some q221472 := (r221467 _ (show g221436.toInt.toNat < gm_0 2 q221036 by first | assumption | omega)).trans (by rw [hx221473])
              have ht221475 : rKd gm_0 q221472 1 := by rw [hx221473]; exact (r221447 _ (show g221436.toInt.toNat < gm_0 2 q221036 by first | assumption | omega)).1
              have ht221476 : rFm gm_0 q221472 q221036 := by rw [hx221473]; exact (r221447 _ (show g221436.toInt.toNat < gm_0 2 q221036 by first | assumption | omega)).2.1
              have hf221477 : gm_0 1 q221472 = f := (show gm_0 1 q221472 = gm_0 1 q221036 from ht221476).trans hf221057
              refine Gw_callV (As := [.int g221436]) (gV_ok D I) (cp_22_ArrayList_get l hl0 D I P210482 F210483 q221036 q221443 g221436 p221441 p221442 f221470 n221469 q221472 hm221439 hm221471 he221440 r221463 (gB_w bg221436' (by decide) (by decide)) (gB_w bp221442' (by decide) (by decide)) (by omega) (by omega) (by assumption) (by omega)) dr_cX17_merge_40 ⟨wr_10_201, wr_1_18, wr_10_65, by decide, rfl, (Nat.le_of_ble_eq_true rfl), (Nat.le_of_ble_eq_true rfl)⟩ wr_10_63 wr_10_64 hm221439 he221440 rfl (rm_zc pk210489) (rm_zs pk210489) (Nat.le_of_ble_eq_true rfl) (fun r221481 w221482 dc221478 ds221479 hp221480 => ?_) (fun _ _ _ _ _ z => z.elim)
              obtain ⟨rfl, rfl, hdc, hds, ht221483⟩ := hp221480
              change G _ _ _ _ _ _ _ (.ref q221472 :: _) _ _ _
              refine G_widen (cs' := ((rPh gm_0 el_0 f - rPh γ0 el0 f) / 18)) (sl' := (rPh gm_0 el_0 f - rPh γ0 el0 f)) (rm_d0 hdc) (rm_d0 hds) ?_
              have hm221484 : q221472 ∈ P210482 := RS_m hT ht221475 (by decide)
              obtain ⟨p221486, p221487, p221488, p221489, p221490, p221491, p221492, he221485, bp221486, bp221487, bp221490, bp221491, bp221492, r221493, r221494, r221495, r221496, r221497⟩ := show rk_1 gm_0 q221472 (F210483 q221472) from RS_o hT ht221475
              have bp221488 := gB_any p221488
              have bp221489 := gB_any p221489
              have r221498 : gm_0 7 (gm_0 1 q221472) = gm_0 7 f := by rw [hf221477]
              refine Gp_cast hm221484 he221485 rfl dr_cX17_merge_43 wr_10_202 (gr_cast 1 rfl) ?_
              refine G_astore (L' := [(6, .ref q221472), (5, .int g221436), (4, .ref q221026), (3, .int g220966), (0, .ref q210484), (1, .ref q210485), (2, .int p210486)]) dr_cX17_merge_46 (Nat.le_of_ble_eq_true rfl) rfl ?_
              refine G_aload 0 dr_cX17_merge_48 rfl ?_
              have fq221499 : fI (F210483 q221472) 0 = p221486 := by rw [he221485]; rfl
              refine Gp_get 0 hm221484 he221485 dr_cX17_merge_50 (gk_X15 D I) (Nat.le_of_ble_eq_true rfl) wr_9_177 rfl ?_
              refine G_if_ne 166 dr_cX17_merge_53 (by decide +kernel) (fun hc221500 => ?_) (fun hc221500 => ?_)
              · have r221501 : p221486.toInt ≠ 0 := gj_neq hc221500 (show Int32.toInt 0 = 0 by decide)
                have bp221486' : gB p221486 1 32 := ⟨by omega, by omega⟩
                obtain ⟨z221502, hz221502⟩ : ∃ z : Int32, z = g221436 + Int32.ofInt 1 := ⟨_, rfl⟩
                have ez221502 : z221502.toInt = g221436.toInt + 1 := gI_inc hz221502 (by decide) bg221436' (by decide) (by decide)
                have bz221502 : gB z221502 1 1000000 := ⟨by omega, by omega⟩
                refine G_iinc (L' := [(5, .int z221502), (6, .ref q221472), (4, .ref q221026), (3, .int g220966), (0, .ref q210484), (1, .ref q210485), (2, .int p210486)]) z221502 1 dr_cX17_merge_166 rfl hz221502.symm (Nat.le_of_ble_eq_true rfl) rfl ?_
                refine G_goto 20 dr_cX17_merge_169 (by decide +kernel) ?_
                refine G_lv (L' := [(5, .int z221502), (4, .ref q221026), (3, .int g220966), (0, .ref q210484), (1, .ref q210485), (2, .int p210486)]) [0, 2, 3, 4, 5, 6] rfl ?_
                exact ih20_221436 z221502 (gB_w bz221502 (by decide) (by decide)) (fun k e1 e2 ht => kt20_221437 k e1 e2 (fun R c1 c2 c3 c4 c5 c6 => c2 g221436 q221036 p221442 q221472 p221486 z221502 k e1 e2 bg221436 fq221438 fq221449 fq221450 r221460 hx221473 ht221483 fq221499 r221501 ez221502 (ht R c1 c2 c3 c4 c5 c6))) (by omega)
              · have r221503 : p221486.toInt = 0 := gj_eq hc221500 (show Int32.toInt 0 = 0 by decide)
                have bp221486' : gB p221486 0 0 := ⟨by omega, by omega⟩
                refine G_aload 0 dr_cX17_merge_56 rfl ?_
                have fq221504 : fI (F210483 q221472) 5 = p221491 := by rw [he221485]; rfl
                refine Gp_get 5 hm221484 he221485 dr_cX17_merge_58 (gk_X15 D I) (Nat.le_of_ble_eq_true rfl) wr_9_197 rfl ?_
                refine G_if_eq 166 dr_cX17_merge_61 (by decide +kernel) (fun hc221505 => ?_) (fun hc221505 => ?_)
                · have r221506 : p221491.toInt = 0 := gj_eq hc221505 (show Int32.toInt 0 = 0 by decide)
                  have bp221491' : gB p221491 0 0 := ⟨by omega, by omega⟩
                  obtain ⟨z221507, hz221507⟩ : ∃ z : Int32, z = g221436 + Int32.ofInt 1 := ⟨_, rfl⟩
                  have ez221507 : z221507.toInt = g221436.toInt + 1 := gI_inc hz221507 (by decide) bg221436' (by decide) (by decide)
                  have bz221507 : gB z221507 1 1000000 := ⟨by omega, by omega⟩
                  refine G_iinc (L' := [(5, .int z221507), (6, .ref q221472), (4, .ref q221026), (3, .int g220966), (0, .ref q210484), (1, .ref q210485), (2, .int p210486)]) z221507 1 dr_cX17_merge_166 rfl hz221507.symm (Nat.le_of_ble_eq_true rfl) rfl ?_
                  refine G_goto 20 dr_cX17_merge_169 (by decide +kernel) ?_
                  refine G_lv (L' := [(5, .int z221507), (4, .ref q221026), (3, .int g220966), (0, .ref q210484), (1, .ref q210485), (2, .int p210486)]) [0, 2, 3, 4, 5, 6] rfl ?_
                  exact ih20_221436 z221507 (gB_w bz221507 (by decide) (by decide)) (fun k e1 e2 ht => kt20_221437 k e1 e2 (fun R c1 c2 c3 c4 c5 c6 => c3 g221436 q221036 p221442 q221472 p221486 p221491 z221507 k e1 e2 bg221436 fq221438 fq221449 fq221450 r221460 hx221473 ht221483 fq221499 r221503 fq221504 r221506 ez221507 (ht R c1 c2 c3 c4 c5 c6))) (by omega)
                · have r221508 : p221491.toInt ≠ 0 := gj_neq hc221505 (show Int32.toInt 0 = 0 by decide)
                  have bp221491' : gB p221491 1 1 := ⟨by omega, by omega⟩
                  refine G_aload 0 dr_cX17_merge_64 rfl ?_
                  have fq221509 : fI (F210483 q221472) 1 = p221487 := by rw [he221485]; rfl
                  refine Gp_get 1 hm221484 he221485 dr_cX17_merge_66 (gk_X15 D I) (Nat.le_of_ble_eq_true rfl) wr_9_182 rfl ?_
                  refine G_aload 0 dr_cX17_merge_69 rfl ?_
                  have fq221510 : fI (F210483 q221472) 2 = p221488 := by rw [he221485]; rfl
                  refine Gp_get 2 hm221484 he221485 dr_cX17_merge_71 (gk_X15 D I) (Nat.le_of_ble_eq_true rfl) wr_9_186 rfl ?_
                  refine G_icmp_eq 98 dr_cX17_merge_74 (by decide +kernel) (fun hc221511 => ?_) (fun hc221511 => ?_)
                  · have r221512 : p221487.toInt = p221488.toInt := gC_eq hc221511
                    have bp221488' : gB p221488 0 1999 := ⟨by omega, by omega⟩
                    have hx221513 : tl_RModel_merge_20 D I γ0 el0 f F210483 q221026 gm_0 el_0 q210484 p210486 (0 : Int32) 98 q221472 g221436 := kt20_221437 98 q221472 g221436 (fun R c1 c2 c3 c4 c5 c6 => c4 g221436 q221036 p221442 q221472 p221486 p221491 p221487 p221488 bg221436 fq221438 fq221449 fq221450 r221460 hx221473 ht221483 fq221499 r221503 fq221504 r221508 fq221509 fq221510 r221512)
                    have hx221514 : tl_RModel_merge_2 D I γ0 el0 f F210483 q210485 el_0 gm_0 q210484 p210486 (0 : Int32) 98 q221472 g221436 q221026 := kt2_220967 98 q221472 g221436 q221026 (fun R c1 c2 c3 => c3 g220966 p220973 q220970 q221026 p221008 q221472 g221436 bg220966 fq220995 r221004 fq221031 hx221027 fq221049 ht221055 hx221513)
                    refine G_aload 0 dr_cX17_merge_98 rfl ?_
                    have fq221515 : fI (F210483 q221472) 1 = p221487 := by rw [he221485]; rfl
                    refine Gp_get 1 hm221484 he221485 dr_cX17_merge_100 (gk_X15 D I) (Nat.le_of_ble_eq_true rfl) wr_9_182 rfl ?_
                    refine G_aload 0 dr_cX17_merge_103 rfl ?_
                    have fq221516 : fI (F210483 q221472) 2 = p221488 := by rw [he221485]; rfl
                    refine Gp_get 2 hm221484 he221485 dr_cX17_merge_105 (gk_X15 D I) (Nat.le_of_ble_eq_true rfl) wr_9_186 rfl ?_
                    refine G_mmin dr_cX17_merge_108 wr_11_20 wr_3_227 wr_1_6 wr_3_228 (Nat.le_of_ble_eq_true rfl) (Nat.le_of_ble_eq_true rfl) (show ((rPh gm_0 el_0 f - rPh γ0 el0 f) / 18) ≤ (((387 * B + 6000) - rPh γ0 el0 f) / 18) by first | omega | decide) (show (rPh gm_0 el_0 f - rPh γ0 el0 f) ≤ ((387 * B + 6000) - rPh γ0 el0 f) by first | omega | decide) (G_nam fun z221517 hz221517 => ?_)
                    have ez221517 : p221487.toInt ≥ z221517.toInt ∧ p221488.toInt ≥ z221517.toInt ∧ (z221517.toInt = p221487.toInt ∨ z221517.toInt = p221488.toInt) := by have := gI_min hz221517; omega
                    have bz221517 : gB z221517 0 1999 := ⟨by omega, by omega⟩
                    refine G_istore (L' := [(7, .int z221517), (6, .ref q221472), (5, .int g221436), (4, .ref q221026), (3, .int g220966), (0, .ref q210484), (1, .ref q210485), (2, .int p210486)]) dr_cX17_merge_111 (Nat.le_of_ble_eq_true rfl) rfl ?_
                    refine G_aload 1 dr_cX17_merge_113 rfl ?_
                    refine Gp_get 1 hm221484 he221485 dr_cX17_merge_115 (gk_X15 D I) (Nat.le_of_ble_eq_true rfl) wr_9_182 rfl ?_
                    refine G_aload 1 dr_cX17_merge_118 rfl ?_
                    refine Gp_get 2 hm221484 he221485 dr_cX17_merge_120 (gk_X15 D I) (Nat.le_of_ble_eq_true rfl) wr_9_186 rfl ?_
                    refine G_mmax dr_cX17_merge_123 wr_11_21 wr_1_140 wr_1_6 wr_1_141 (Nat.le_of_ble_eq_true rfl) (Nat.le_of_ble_eq_true rfl) (show ((rPh gm_0 el_0 f - rPh γ0 el0 f) / 18) ≤ (((387 * B + 6000) - rPh γ0 el0 f) / 18) by first | omega | decide) (show (rPh gm_0 el_0 f - rPh γ0 el0 f) ≤ ((387 * B + 6000) - rPh γ0 el0 f) by first | omega | decide) (G_nam fun z221518 hz221518 => ?_)
                    have ez221518 : p221487.toInt ≤ z221518.toInt ∧ p221488.toInt ≤ z221518.toInt ∧ (z221518.toInt = p221487.toInt ∨ z221518.toInt = p221488.toInt) := by have := gI_max hz221518; omega
                    have bz221518 : gB z221518 0 1999 := ⟨by omega, by omega⟩
                    refine G_istore (L' := [(8, .int z221518), (7, .int z221517), (6, .ref q221472), (5, .int g221436), (4, .ref q221026), (3, .int g220966), (0, .ref q210484), (1, .ref q210485), (2, .int p210486)]) dr_cX17_merge_126 (Nat.le_of_ble_eq_true rfl) rfl ?_
                    refine G_aload 4 dr_cX17_merge_128 rfl ?_
                    have fq221519 : fR (F210483 q221026) 0 = q221036 := by rw [he221035]; rfl
                    refine Gp_get 0 hm221034 he221035 dr_cX17_merge_130 (gk_X12 D I) (Nat.le_of_ble_eq_true rfl) wr_9_220 rfl ?_
                    refine G_iload 3 dr_cX17_merge_133 rfl ?_
                    have rg221520 := rM_ge hT htq210485 hf1
                    have rm221521 := rM_bd hB
                    have bd221522 := rBd_c hT htq210485 hf1 hB
                    have rc221523 := rc_at hT htq210485 hf1
                    have r221525 : gm_0 14 (el_0 (gm_0 14 q210485) g220966.toInt.toNat) = q221036 := by rw [r221065]; exact ht221046.1
                    have r221526 := rg221520.2.2 _ r221064
                    rw [r221525] at r221526
                    have r221527 := bd221522.2.2.2 _ r221064
                    rw [r221525] at r221527
                    obtain ⟨q221529, hq221529⟩ : ∃ x, x = el_0 q221036 g221436.toInt.toNat := ⟨_, rfl⟩
                    refine Gt_rem (c := q210485) (f := f) hl0 dr_cX17_merge_135 ⟨wr_11_22, wr_1_18, wr_11_25, by decide, rfl, (Nat.le_of_ble_eq_true rfl), (Nat.le_of_ble_eq_true rfl)⟩ wr_11_23 wr_11_24 hT ht221040 hf221057 htq210485 hf1 (by omega) (by omega) (rm_zc pk210489) (rm_zs pk210489) (Nat.le_of_ble_eq_true rfl) (fun F221524 gm_F221524 el_F221524 hq221528 => ?_)
                    rw [← hq221529]
                    have hq221530 := hq221528
                    have vv221542 := RS_valid hT0 hzq210485 hf0 x210487
                    rw [← hγ0] at vv221542
                    have sm221541 := rDq_sum (m := γ0 6 f) hT htq210485 hf1 (show g220966.toInt.toNat < γ0 6 f by omega) (by omega) r221525 (show g221436.toInt.toNat < _ by omega) hq221528
                    rw [hγ0, hel0] at sm221541
                    obtain ⟨hk221531, h2221532, hel221533, hot221534, h16221535, h18221536, hnu221537, hr221538, hM221539, hBB221540⟩ := hq221528
                    have hk221543 := rSk_of hk221531
                    have r221544 : (fI (F221524 q210485) 3).toInt = (fI (F210483 q210485) 3).toInt := by rw [rSk_F hk221543 htq210485 (by decide) (by decide)]
                    have hT221545 := hk221543.1
                    have hs221546 := rSk_tr hst hk221543 (by decide) (by decide) (by decide)
                    have ht221547 : rKd gm_F221524 q210484 10 := rSk_k hk221543 htq210484 (by decide) (by decide)
                    have ht221548 : rKd gm_F221524 q210485 9 := rSk_k hk221543 htq210485 (by decide) (by decide)
                    have hf221549 : gm_F221524 1 q210485 = f := rSk_1 hk221543 htq210485 (by decide) hf1
                    have ht221550 : rKd gm_F221524 q221026 2 := rSk_k hk221543 ht221032 (by decide) (by decide)
                    have hf221551 : gm_F221524 1 q221026 = f := rSk_1 hk221543 ht221032 (by decide) hf221056
                    have ht221552 : rKd gm_F221524 q221036 3 := rSk_k hk221543 ht221040 (by decide) (by decide)
                    have hf221553 : gm_F221524 1 q221036 = f := rSk_1 hk221543 ht221040 (by decide) hf221057
                    have ht221554 : rKd gm_F221524 q221472 1 := rSk_k hk221543 ht221475 (by decide) (by decide)
                    have hf221555 : gm_F221524 1 q221472 = f := rSk_1 hk221543 ht221475 (by decide) hf221477
                    have r221556 := (rSk_s hk221543 htq210485 (by decide)).2.1
                    have r221557 := hot221534 _ (by rw [rc221523.2.1]; decide) (fun q => by rw [q, show _ = 3 from ht221040] at rc221523; exact absurd rc221523.2.1 (by decide))
                    have r221558 : g220966.toInt.toNat < gm_F221524 2 (gm_F221524 14 q210485) := by rw [r221556, r221557.1]; exact r221064
                    have r221559 : el_F221524 (gm_F221524 14 q210485) g220966.toInt.toNat = q221026 := by rw [r221556, r221557.2]; exact r221065
                    have he221560 : F221524 q221472 = .inr (20, [.int p221486, .int p221487, .int p221488, .int p221489, .int p221490, .int p221491, .int p221492]) := (rSk_F hk221543 ht221475 (by decide) (by decide)).trans he221485
                    have hm221561 : q221472 ∈ P210482 := RS_m hT221545 ht221554 (by decide)
                    clear r220978 r220979 r220980 r220981 r220982 r220983 r220985 r220986 r220987 r220988 bp220972 bp220973 bp221038 bp221039 r221047 r221048 rg221520 rm221521 bd221522 rc221523 r221526 r221527
                    obtain ⟨nu221562, nu221563, nu221564, nu221565⟩ := hnu221537
                    have hB221566 : rBd gm_F221524 el_F221524 f B := hBB221540 B hB
                    have hph221567 : rPh γ0 el0 f ≤ rPh gm_F221524 el_F221524 f := by rw [hr221538]; exact hph
                    have pk221568 : rPh gm_F221524 el_F221524 f ≤ 387 * B + 6000 := rm_pk (rM_ge hT221545 ht221548 hf221549).1 (rM_bd hB221566)
                    refine G_widen (cs' := ((rPh gm_F221524 el_F221524 f - rPh γ0 el0 f) / 18)) (sl' := (rPh gm_F221524 el_F221524 f - rPh γ0 el0 f)) (rm_ec hr221538) (rm_es hr221538) ?_
                    refine G_pop dr_cX17_merge_138 rfl ?_
                    refine G_aload_n 6 dr_cX17_merge_139 rfl ?_
                    refine G_dup dr_cX17_merge_140 rfl ?_
                    have hm221569 : q210484 ∈ P210482 := RS_m hT221545 ht221547 (by decide)
                    obtain ⟨q221571, q221572, p221573, p221574, p221575, p221576, p221577, p221578, p221579, p221580, p221581, p221582, p221583, p221584, p221585, p221586, p221587, he221570, hB221614, ht221588, ht221589, ht221590, ht221591, ht221592, ht221593, ht221594, ht221595, ht221596, ht221597, ht221598, ht221599, ht221600, ht221601, ht221602, ht221603, ht221604, ht221605, ht221606, ht221607, ht221608, ht221609, ht221610, ht221611, hB221615⟩ := show rk_10 gm_F221524 (F221524 q210484) from RS_o hT221545 ht221547
                    have fq221616 : fI (F221524 q210484) 13 = p221577 := by rw [he221570]; rfl
                    refine Gp_get 13 hm221569 he221570 dr_cX17_merge_141 (gk_X17 D I) (Nat.le_of_ble_eq_true rfl) wr_7_87 rfl ?_
                    have bp221577 : gB p221577 (-2147483648) 2147483647 := (gB_any p221577)
                    refine G_iconst 1 dr_cX17_merge_144 (by decide +kernel) ?_
                    refine G_iadd dr_cX17_merge_145 (G_nam fun z221617 hz221617 => ?_)
                    have bz221617 : gB z221617 (-2147483648) 2147483647 := gB_any z221617
                    refine Gp_put 13 hm221569 he221570 dr_cX17_merge_146 (gk_X17 D I) (Nat.le_of_ble_eq_true rfl) wr_7_87 rfl rfl rfl (Nat.le_of_ble_eq_true rfl) (fun F221618 e221619 n221620 => ?_)
                    have he221621 : F221618 q221472 = .inr (20, [.int p221486, .int p221487, .int p221488, .int p221489, .int p221490, .int p221491, .int p221492]) := (n221620 q221472 (rn_oo he221560 he221570 (by decide))).trans he221560
                    have he221622 : F221618 q210484 = .inr (22, [.ref (gm_F221524 9 0), .ref (gm_F221524 9 1), .ref (gm_F221524 9 2), .ref (gm_F221524 9 3), .ref (gm_F221524 9 4), .ref (gm_F221524 9 5), .ref (gm_F221524 9 6), .ref (gm_F221524 9 7), .ref (gm_F221524 9 8), .int p221573, .int p221574, .int p221575, .int p221576, .int z221617, .int p221578, .ref (gm_F221524 9 15), .ref (gm_F221524 9 16), .ref (gm_F221524 9 17), .ref (gm_F221524 9 18), .ref (gm_F221524 9 19), .ref (gm_F221524 9 20), .ref (gm_F221524 9 21), .ref (gm_F221524 9 22), .int p221579, .int p221580, .int p221581, .int p221582, .int p221583, .ref q221571, .ref (gm_F221524 9 29), .int p221584, .ref (gm_F221524 9 31), .int p221585, .int p221586, .int p221587, .ref q221572]) := e221619
                    have fq221623 : F221618 q210484 = cF (F221524 q210484) 13 (.int z221617) := by rw [he221622, he221570]; rfl
                    refine G_iload 1 dr_cX17_merge_149 rfl ?_
                    refine G_iload 0 dr_cX17_merge_151 rfl ?_
                    refine G_icmp_eq 164 dr_cX17_merge_153 (by decide +kernel) (fun hc221624 => ?_) (fun hc221624 => ?_)
                    · have r221625 : z221517.toInt = z221518.toInt := gC_eq hc221624
                      refine G_iconst 1 dr_cX17_merge_164 (by decide +kernel) ?_
                      have hT221626 : RS D I P210482 F221618 gm_F221524 el := RS_set hT221545 n221620 ht221547 (by decide) ⟨q221571, q221572, p221573, p221574, p221575, p221576, z221617, p221578, p221579, p221580, p221581, p221582, p221583, p221584, p221585, p221586, p221587, he221622, ⟨(hB221614.1), (hB221614.2.1), (hB221614.2.2.1), (hB221614.2.2.2.1), (hB221614.2.2.2.2.1), (hB221614.2.2.2.2.2.1), (hB221614.2.2.2.2.2.2.1), (hB221614.2.2.2.2.2.2.2.1), (hB221614.2.2.2.2.2.2.2.2)⟩, ht221588, ht221589, ht221590, ht221591, ht221592, ht221593, ht221594, ht221595, ht221596, ht221597, ht221598, ht221599, ht221600, ht221601, ht221602, ht221603, ht221604, ht221605, ht221606, ht221607, ht221608, ht221609, ht221610, ht221611, hB221615⟩
                      have hs221627 := rSk_put hs221546 hT221626 n221620 ht221547 (by decide) (by decide)
                      exact G_zretA FieldType.boolean dr_cX17_merge_165 rfl rfl (show ((rPh gm_F221524 el_F221524 f - rPh γ0 el0 f) / 18) ≤ (((387 * B + 6000) - rPh γ0 el0 f) / 18) by omega) (show (rPh gm_F221524 el_F221524 f - rPh γ0 el0 f) ≤ ((387 * B + 6000) - rPh γ0 el0 f) by omega) ⟨P210482, F221618, gm_F221524, el_F221524, 1, rfl, rfl, hs221627, ⟨by omega, by omega⟩, hB221566, (gB_w (gBl (show Int32.toInt 1 = 1 by decide)) (by decide) (by decide)), (by have qa0 : Int32.toInt 1 = 1 := (by decide); omega), (by have qa0 : Int32.toInt 1 = 1 := (by decide); omega), (by have qa0 : Int32.toInt 1 = 1 := (by decide); omega), (by have qa0 : Int32.toInt 1 = 1 := (by decide); omega), (Or.inr (by rw [show gm_F221524 6 f = γ0 6 f by omega]; exact Nat.le_of_eq sm221541)), (fun R c1 c2 c3 => c2 gm_0 el_0 q221472 g221436 q221026 p221487 p221488 z221517 z221518 q221036 F221524 gm_F221524 el_F221524 p221577 z221617 F221618 hγ0 hel0 hx221514 fq221515 fq221516 ez221517 ez221518 fq221519 hq221530 fq221616 hz221617 n221620 fq221623 r221625)⟩
                    · have r221628 : z221517.toInt ≠ z221518.toInt := gC_ne hc221624
                      refine G_aload_n 7 dr_cX17_merge_156 rfl ?_
                      refine G_iload 0 dr_cX17_merge_157 rfl ?_
                      refine G_iload 1 dr_cX17_merge_159 rfl ?_
                      have v0_221629 : 0 < gm_F221524 6 (gm_F221524 1 q210485) := by rw [hf221549]; omega
                      have hT221630 : RS D I P210482 F221618 gm_F221524 el := RS_set hT221545 n221620 ht221547 (by decide) ⟨q221571, q221572, p221573, p221574, p221575, p221576, z221617, p221578, p221579, p221580, p221581, p221582, p221583, p221584, p221585, p221586, p221587, he221622, ⟨(hB221614.1), (hB221614.2.1), (hB221614.2.2.1), (hB221614.2.2.2.1), (hB221614.2.2.2.2.1), (hB221614.2.2.2.2.2.1), (hB221614.2.2.2.2.2.2.1), (hB221614.2.2.2.2.2.2.2.1), (hB221614.2.2.2.2.2.2.2.2)⟩, ht221588, ht221589, ht221590, ht221591, ht221592, ht221593, ht221594, ht221595, ht221596, ht221597, ht221598, ht221599, ht221600, ht221601, ht221602, ht221603, ht221604, ht221605, ht221606, ht221607, ht221608, ht221609, ht221610, ht221611, hB221615⟩
                      have hs221631 := rSk_put hs221546 hT221630 n221620 ht221547 (by decide) (by decide)
                      refine Gw_callS (As := [.ref q210485, .int z221518, .int z221517]) (gV_ok D I) (ct_171256_SpillForgeModel_rename l hl0 D I gm_F221524 el_F221524 P210482 F221618 q210485 z221518 z221517 hT221630 ht221548 bz221518 bz221517 (by omega)) dr_cX17_merge_161 ⟨wr_11_30, wr_1_14, wr_11_32, by decide, rfl, (Nat.le_of_ble_eq_true rfl), (Nat.le_of_ble_eq_true rfl)⟩ wr_11_31 (rm_zc pk221568) (rm_zs pk221568) (Nat.le_of_ble_eq_true rfl) (fun r221635 w221636 dc221632 ds221633 hp221634 => ?_) (fun _ _ _ _ _ z => z.elim)
                      obtain ⟨F221638, rfl, rfl, hT221639, hs221640, hdc, hds, ht221637⟩ := hp221634
                      have hs221641 := rSk_str hs221631 hT221639 hs221640 (by decide) (by decide) (by decide)
                      change G _ _ _ _ _ _ _ _ _ _ _
                      refine G_widen (cs' := ((rPh gm_F221524 el_F221524 f - rPh γ0 el0 f) / 18)) (sl' := (rPh gm_F221524 el_F221524 f - rPh γ0 el0 f)) (rm_d0 hdc) (rm_d0 hds) ?_
                      refine G_iconst 1 dr_cX17_merge_164 (by decide +kernel) ?_
                      exact G_zretA FieldType.boolean dr_cX17_merge_165 rfl rfl (show ((rPh gm_F221524 el_F221524 f - rPh γ0 el0 f) / 18) ≤ (((387 * B + 6000) - rPh γ0 el0 f) / 18) by omega) (show (rPh gm_F221524 el_F221524 f - rPh γ0 el0 f) ≤ ((387 * B + 6000) - rPh γ0 el0 f) by omega) ⟨P210482, F221638, gm_F221524, el_F221524, 1, rfl, rfl, hs221641, ⟨by omega, by omega⟩, hB221566, (gB_w (gBl (show Int32.toInt 1 = 1 by decide)) (by decide) (by decide)), (by have qa0 : Int32.toInt 1 = 1 := (by decide); omega), (by have qa0 : Int32.toInt 1 = 1 := (by decide); omega), (by have qa0 : Int32.toInt 1 = 1 := (by decide); omega), (by have qa0 : Int32.toInt 1 = 1 := (by decide); omega), (Or.inr (by rw [show gm_F221524 6 f = γ0 6 f by omega]; exact Nat.le_of_eq sm221541)), (fun R c1 c2 c3 => c3 gm_0 el_0 q221472 g221436 q221026 p221487 p221488 z221517 z221518 q221036 F221524 gm_F221524 el_F221524 p221577 z221617 F221618 F221638 hγ0 hel0 hx221514 fq221515 fq221516 ez221517 ez221518 fq221519 hq221530 fq221616 hz221617 n221620 fq221623 r221628 hT221639 hs221640 ht221637)⟩
                  · have r221642 : p221487.toInt ≠ p221488.toInt := gC_ne hc221511
                    refine G_aload_n 4 dr_cX17_merge_77 rfl ?_
                    refine G_aload 0 dr_cX17_merge_78 rfl ?_
                    refine Gp_get 1 hm221484 he221485 dr_cX17_merge_80 (gk_X15 D I) (Nat.le_of_ble_eq_true rfl) wr_9_182 rfl ?_
                    refine G_aload 0 dr_cX17_merge_83 rfl ?_
                    refine Gp_get 2 hm221484 he221485 dr_cX17_merge_85 (gk_X15 D I) (Nat.le_of_ble_eq_true rfl) wr_9_186 rfl ?_
                    refine G_iload_n 6 dr_cX17_merge_88 rfl ?_
                    have hm221648 : q210484 ∈ P210482 := RS_m hT htq210484 (by decide)
                    obtain ⟨q221650, q221651, p221652, p221653, p221654, p221655, p221656, p221657, p221658, p221659, p221660, p221661, p221662, p221663, p221664, p221665, p221666, he221649, hB221693, ht221667, ht221668, ht221669, ht221670, ht221671, ht221672, ht221673, ht221674, ht221675, ht221676, ht221677, ht221678, ht221679, ht221680, ht221681, ht221682, ht221683, ht221684, ht221685, ht221686, ht221687, ht221688, ht221689, ht221690, hB221694⟩ := show rk_10 gm_F221524 (F210483 q210484) from RS_o hT htq210484
                    refine Gw_callV (As := [.int p221487, .int p221488, .int p210486]) (gV_ok D I) (ct_16507_SpillForgeModel_mayMerge l hl0 D I gm_F221524 el_F221524 P210482 F210483 q210484 p221487 p221488 p210486 hT htq210484 bp221487 ⟨by omega, by omega⟩) dr_cX17_merge_89 ⟨wr_11_12, wr_1_14, wr_11_15, by decide, rfl, (Nat.le_of_ble_eq_true rfl), (Nat.le_of_ble_eq_true rfl)⟩ wr_11_14 wr_p_102 hm221648 he221649 rfl (rm_zc pk210489) (rm_zs pk210489) (Nat.le_of_ble_eq_true rfl) (fun r221646 w221647 dc221643 ds221644 hp221645 => ?_) (fun _ _ _ _ _ z => z.elim)
                    obtain ⟨o221695, rfl, rfl, hdc, hds, bo221695, ht221696⟩ := hp221645
                    change G _ _ _ _ _ _ _ (.int o221695 :: _) _ _ _
                    refine G_widen (cs' := ((rPh gm_F221524 el_F221524 f - rPh γ0 el0 f) / 18)) (sl' := (rPh gm_F221524 el_F221524 f - rPh γ0 el0 f)) (rm_d0 hdc) (rm_d0 hds) ?_
                    refine G_if_ne 98 dr_cX17_merge_92 (by decide +kernel) (fun hc221697 => ?_) (fun hc221697 => ?_)
                    · have r221698 : o221695.toInt ≠ 0 := gj_neq hc221697 (show Int32.toInt 0 = 0 by decide)
                      have bo221695' : gB o221695 1 1 := ⟨by omega, by omega⟩
                      have hx221699 : tl_RModel_merge_20 D I γ0 el0 f F210483 q221026 gm_0 el_0 q210484 p210486 (0 : Int32) 98 q221472 g221436 := kt20_221437 98 q221472 g221436 (fun R c1 c2 c3 c4 c5 c6 => c5 g221436 q221036 p221442 q221472 p221486 p221491 p221487 p221488 o221695 bg221436 fq221438 fq221449 fq221450 r221460 hx221473 ht221483 fq221499 r221503 fq221504 r221508 fq221509 fq221510 r221642 bo221695 ht221696 r221698)
                      have hx221700 : tl_RModel_merge_2 D I γ0 el0 f F210483 q210485 el_0 gm_0 q210484 p210486 (0 : Int32) 98 q221472 g221436 q221026 := kt2_220967 98 q221472 g221436 q221026 (fun R c1 c2 c3 => c3 g220966 p220973 q220970 q221026 p221008 q221472 g221436 bg220966 fq220995 r221004 fq221031 hx221027 fq221049 ht221055 hx221699)
                      have bp221488' : gB p221488 0 1999 := ⟨by omega, by omega⟩
                      refine G_aload 0 dr_cX17_merge_98 rfl ?_
                      have fq221701 : fI (F210483 q221472) 1 = p221487 := by rw [he221485]; rfl
                      refine Gp_get 1 hm221484 he221485 dr_cX17_merge_100 (gk_X15 D I) (Nat.le_of_ble_eq_true rfl) wr_9_182 rfl ?_
                      refine G_aload 0 dr_cX17_merge_103 rfl ?_
                      have fq221702 : fI (F210483 q221472) 2 = p221488 := by rw [he221485]; rfl
                      refine Gp_get 2 hm221484 he221485 dr_cX17_merge_105 (gk_X15 D I) (Nat.le_of_ble_eq_true rfl) wr_9_186 rfl ?_
                      refine G_mmin dr_cX17_merge_108 wr_11_20 wr_3_227 wr_1_6 wr_3_228 (Nat.le_of_ble_eq_true rfl) (Nat.le_of_ble_eq_true rfl) (show ((rPh gm_F221524 el_F221524 f - rPh γ0 el0 f) / 18) ≤ (((387 * B + 6000) - rPh γ0 el0 f) / 18) by first | omega | decide) (show (rPh gm_F221524 el_F221524 f - rPh γ0 el0 f) ≤ ((387 * B + 6000) - rPh γ0 el0 f) by first | omega | decide) (G_nam fun z221703 hz221703 => ?_)
                      have ez221703 : p221487.toInt ≥ z221703.toInt ∧ p221488.toInt ≥ z221703.toInt ∧ (z221703.toInt = p221487.toInt ∨ z221703.toInt = p221488.toInt) := by have := gI_min hz221703; omega
                      have bz221703 : gB z221703 0 1999 := ⟨by omega, by omega⟩
                      refine G_istore (L' := [(7, .int z221703), (6, .ref q221472), (5, .int g221436), (4, .ref q221026), (3, .int g220966), (0, .ref q210484), (1, .ref q210485), (2, .int p210486)]) dr_cX17_merge_111 (Nat.le_of_ble_eq_true rfl) rfl ?_
                      refine G_aload 1 dr_cX17_merge_113 rfl ?_
                      refine Gp_get 1 hm221484 he221485 dr_cX17_merge_115 (gk_X15 D I) (Nat.le_of_ble_eq_true rfl) wr_9_182 rfl ?_
                      refine G_aload 1 dr_cX17_merge_118 rfl ?_
                      refine Gp_get 2 hm221484 he221485 dr_cX17_merge_120 (gk_X15 D I) (Nat.le_of_ble_eq_true rfl) wr_9_186 rfl ?_
                      refine G_mmax dr_cX17_merge_123 wr_11_21 wr_1_140 wr_1_6 wr_1_141 (Nat.le_of_ble_eq_true rfl) (Nat.le_of_ble_eq_true rfl) (show ((rPh gm_F221524 el_F221524 f - rPh γ0 el0 f) / 18) ≤ (((387 * B + 6000) - rPh γ0 el0 f) / 18) by first | omega | decide) (show (rPh gm_F221524 el_F221524 f - rPh γ0 el0 f) ≤ ((387 * B + 6000) - rPh γ0 el0 f) by first | omega | decide) (G_nam fun z221704 hz221704 => ?_)
                      have ez221704 : p221487.toInt ≤ z221704.toInt ∧ p221488.toInt ≤ z221704.toInt ∧ (z221704.toInt = p221487.toInt ∨ z221704.toInt = p221488.toInt) := by have := gI_max hz221704; omega
                      have bz221704 : gB z221704 0 1999 := ⟨by omega, by omega⟩
                      refine G_istore (L' := [(8, .int z221704), (7, .int z221703), (6, .ref q221472), (5, .int g221436), (4, .ref q221026), (3, .int g220966), (0, .ref q210484), (1, .ref q210485), (2, .int p210486)]) dr_cX17_merge_126 (Nat.le_of_ble_eq_true rfl) rfl ?_
                      refine G_aload 4 dr_cX17_merge_128 rfl ?_
                      have fq221705 : fR (F210483 q221026) 0 = q221036 := by rw [he221035]; rfl
                      refine Gp_get 0 hm221034 he221035 dr_cX17_merge_130 (gk_X12 D I) (Nat.le_of_ble_eq_true rfl) wr_9_220 rfl ?_
                      refine G_iload 3 dr_cX17_merge_133 rfl ?_
                      have rg221706 := rM_ge hT htq210485 hf1
                      have rm221707 := rM_bd hB
                      have bd221708 := rBd_c hT htq210485 hf1 hB
                      have rc221709 := rc_at hT htq210485 hf1
                      have r221711 : gm_F221524 14 (el_F221524 (gm_F221524 14 q210485) g220966.toInt.toNat) = q221036 := by rw [r221065]; exact ht221046.1
                      have r221712 := rg221706.2.2 _ r221064
                      rw [r221711] at r221712
                      have r221713 := bd221708.2.2.2 _ r221064
                      rw [r221711] at r221713
                      obtain ⟨q221715, hq221715⟩ : ∃ x, x = el_F221524 q221036 g221436.toInt.toNat := ⟨_, rfl⟩
                      refine Gt_rem (c := q210485) (f := f) hl0 dr_cX17_merge_135 ⟨wr_11_22, wr_1_18, wr_11_25, by decide, rfl, (Nat.le_of_ble_eq_true rfl), (Nat.le_of_ble_eq_true rfl)⟩ wr_11_23 wr_11_24 hT ht221040 hf221057 htq210485 hf1 (by omega) (by omega) (rm_zc pk210489) (rm_zs pk210489) (Nat.le_of_ble_eq_true rfl) (fun F221710 gm_F221710 el_F221710 hq221714 => ?_)
                      rw [← hq221715]
                      have hq221716 := hq221714
                      have vv221728 := RS_valid hT0 hzq210485 hf0 x210487
                      rw [← hγ0] at vv221728
                      have sm221727 := rDq_sum (m := γ0 6 f) hT htq210485 hf1 (show g220966.toInt.toNat < γ0 6 f by omega) (by omega) r221711 (show g221436.toInt.toNat < _ by omega) hq221714
                      rw [hγ0, hel0] at sm221727
                      obtain ⟨hk221717, h2221718, hel221719, hot221720, h16221721, h18221722, hnu221723, hr221724, hM221725, hBB221726⟩ := hq221714
                      have hk221729 := rSk_of hk221717
                      have r221730 : (fI (F221710 q210485) 3).toInt = (fI (F210483 q210485) 3).toInt := by rw [rSk_F hk221729 htq210485 (by decide) (by decide)]
                      have hT221731 := hk221729.1
                      have hs221732 := rSk_tr hst hk221729 (by decide) (by decide) (by decide)
                      have r221733 := rSk_F hk221729 htq210484 (by decide) (by decide)
                      have ht221734 : rKd gm_F221710 q210484 10 := rSk_k hk221729 htq210484 (by decide) (by decide)
                      have ht221735 : rKd gm_F221710 q210485 9 := rSk_k hk221729 htq210485 (by decide) (by decide)
                      have hf221736 : gm_F221710 1 q210485 = f := rSk_1 hk221729 htq210485 (by decide) hf1
                      have ht221737 : rKd gm_F221710 q221026 2 := rSk_k hk221729 ht221032 (by decide) (by decide)
                      have hf221738 : gm_F221710 1 q221026 = f := rSk_1 hk221729 ht221032 (by decide) hf221056
                      have ht221739 : rKd gm_F221710 q221036 3 := rSk_k hk221729 ht221040 (by decide) (by decide)
                      have hf221740 : gm_F221710 1 q221036 = f := rSk_1 hk221729 ht221040 (by decide) hf221057
                      have ht221741 : rKd gm_F221710 q221472 1 := rSk_k hk221729 ht221475 (by decide) (by decide)
                      have hf221742 : gm_F221710 1 q221472 = f := rSk_1 hk221729 ht221475 (by decide) hf221477
                      have r221743 := (rSk_s hk221729 htq210485 (by decide)).2.1
                      have r221744 := hot221720 _ (by rw [rc221709.2.1]; decide) (fun q => by rw [q, show _ = 3 from ht221040] at rc221709; exact absurd rc221709.2.1 (by decide))
                      have r221745 : g220966.toInt.toNat < gm_F221710 2 (gm_F221710 14 q210485) := by rw [r221743, r221744.1]; exact r221064
                      have r221746 : el_F221710 (gm_F221710 14 q210485) g220966.toInt.toNat = q221026 := by rw [r221743, r221744.2]; exact r221065
                      have he221747 : F221710 q221472 = .inr (20, [.int p221486, .int p221487, .int p221488, .int p221489, .int p221490, .int p221491, .int p221492]) := (rSk_F hk221729 ht221475 (by decide) (by decide)).trans he221485
                      have hm221748 : q221472 ∈ P210482 := RS_m hT221731 ht221741 (by decide)
                      clear r220978 r220979 r220980 r220981 r220982 r220983 r220985 r220986 r220987 r220988 bp220972 bp220973 bp221038 bp221039 r221047 r221048 rg221706 rm221707 bd221708 rc221709 r221712 r221713
                      obtain ⟨nu221749, nu221750, nu221751, nu221752⟩ := hnu221723
                      have hB221753 : rBd gm_F221710 el_F221710 f B := hBB221726 B hB
                      have hph221754 : rPh γ0 el0 f ≤ rPh gm_F221710 el_F221710 f := by rw [hr221724]; exact hph
                      have pk221755 : rPh gm_F221710 el_F221710 f ≤ 387 * B + 6000 := rm_pk (rM_ge hT221731 ht221735 hf221736).1 (rM_bd hB221753)
                      refine G_widen (cs' := ((rPh gm_F221710 el_F221710 f - rPh γ0 el0 f) / 18)) (sl' := (rPh gm_F221710 el_F221710 f - rPh γ0 el0 f)) (rm_ec hr221724) (rm_es hr221724) ?_
                      refine G_pop dr_cX17_merge_138 rfl ?_
                      refine G_aload_n 6 dr_cX17_merge_139 rfl ?_
                      refine G_dup dr_cX17_merge_140 rfl ?_
                      have hm221756 : q210484 ∈ P210482 := RS_m hT221731 ht221734 (by decide)
                      obtain ⟨q221758, q221759, p221760, p221761, p221762, p221763, p221764, p221765, p221766, p221767, p221768, p221769, p221770, p221771, p221772, p221773, p221774, he221757, hB221801, ht221775, ht221776, ht221777, ht221778, ht221779, ht221780, ht221781, ht221782, ht221783, ht221784, ht221785, ht221786, ht221787, ht221788, ht221789, ht221790, ht221791, ht221792, ht221793, ht221794, ht221795, ht221796, ht221797, ht221798, hB221802⟩ := show rk_10 gm_F221710 (F221710 q210484) from RS_o hT221731 ht221734
                      have fq221803 : fI (F221710 q210484) 13 = p221764 := by rw [he221757]; rfl
                      refine Gp_get 13 hm221756 he221757 dr_cX17_merge_141 (gk_X17 D I) (Nat.le_of_ble_eq_true rfl) wr_7_87 rfl ?_
                      have bp221764 : gB p221764 (-2147483648) 2147483647 := (gB_any p221764)
                      refine G_iconst 1 dr_cX17_merge_144 (by decide +kernel) ?_
                      refine G_iadd dr_cX17_merge_145 (G_nam fun z221804 hz221804 => ?_)
                      have bz221804 : gB z221804 (-2147483648) 2147483647 := gB_any z221804
                      refine Gp_put 13 hm221756 he221757 dr_cX17_merge_146 (gk_X17 D I) (Nat.le_of_ble_eq_true rfl) wr_7_87 rfl rfl rfl (Nat.le_of_ble_eq_true rfl) (fun F221805 e221806 n221807 => ?_)
                      have he221808 : F221805 q221472 = .inr (20, [.int p221486, .int p221487, .int p221488, .int p221489, .int p221490, .int p221491, .int p221492]) := (n221807 q221472 (rn_oo he221747 he221757 (by decide))).trans he221747
                      have he221809 : F221805 q210484 = .inr (22, [.ref (gm_F221710 9 0), .ref (gm_F221710 9 1), .ref (gm_F221710 9 2), .ref (gm_F221710 9 3), .ref (gm_F221710 9 4), .ref (gm_F221710 9 5), .ref (gm_F221710 9 6), .ref (gm_F221710 9 7), .ref (gm_F221710 9 8), .int p221760, .int p221761, .int p221762, .int p221763, .int z221804, .int p221765, .ref (gm_F221710 9 15), .ref (gm_F221710 9 16), .ref (gm_F221710 9 17), .ref (gm_F221710 9 18), .ref (gm_F221710 9 19), .ref (gm_F221710 9 20), .ref (gm_F221710 9 21), .ref (gm_F221710 9 22), .int p221766, .int p221767, .int p221768, .int p221769, .int p221770, .ref q221758, .ref (gm_F221710 9 29), .int p221771, .ref (gm_F221710 9 31), .int p221772, .int p221773, .int p221774, .ref q221759]) := e221806
                      have fq221810 : F221805 q210484 = cF (F221710 q210484) 13 (.int z221804) := by rw [he221809, he221757]; rfl
                      refine G_iload 1 dr_cX17_merge_149 rfl ?_
                      refine G_iload 0 dr_cX17_merge_151 rfl ?_
                      refine G_icmp_eq 164 dr_cX17_merge_153 (by decide +kernel) (fun hc221811 => ?_) (fun hc221811 => ?_)
                      · have r221812 : z221703.toInt = z221704.toInt := gC_eq hc221811
                        refine G_iconst 1 dr_cX17_merge_164 (by decide +kernel) ?_
                        have hT221813 : RS D I P210482 F221805 gm_F221710 el := RS_set hT221731 n221807 ht221734 (by decide) ⟨q221758, q221759, p221760, p221761, p221762, p221763, z221804, p221765, p221766, p221767, p221768, p221769, p221770, p221771, p221772, p221773, p221774, he221809, ⟨(hB221801.1), (hB221801.2.1), (hB221801.2.2.1), (hB221801.2.2.2.1), (hB221801.2.2.2.2.1), (hB221801.2.2.2.2.2.1), (hB221801.2.2.2.2.2.2.1), (hB221801.2.2.2.2.2.2.2.1), (hB221801.2.2.2.2.2.2.2.2)⟩, ht221775, ht221776, ht221777, ht221778, ht221779, ht221780, ht221781, ht221782, ht221783, ht221784, ht221785, ht221786, ht221787, ht221788, ht221789, ht221790, ht221791, ht221792, ht221793, ht221794, ht221795, ht221796, ht221797, ht221798, hB221802⟩
                        have hs221814 := rSk_put hs221732 hT221813 n221807 ht221734 (by decide) (by decide)
                        exact G_zretA FieldType.boolean dr_cX17_merge_165 rfl rfl (show ((rPh gm_F221710 el_F221710 f - rPh γ0 el0 f) / 18) ≤ (((387 * B + 6000) - rPh γ0 el0 f) / 18) by omega) (show (rPh gm_F221710 el_F221710 f - rPh γ0 el0 f) ≤ ((387 * B + 6000) - rPh γ0 el0 f) by omega) ⟨P210482, F221805, gm_F221710, el_F221710, 1, rfl, rfl, hs221814, ⟨by omega, by omega⟩, hB221753, (gB_w (gBl (show Int32.toInt 1 = 1 by decide)) (by decide) (by decide)), (by have qa0 : Int32.toInt 1 = 1 := (by decide); omega), (by have qa0 : Int32.toInt 1 = 1 := (by decide); omega), (by have qa0 : Int32.toInt 1 = 1 := (by decide); omega), (by have qa0 : Int32.toInt 1 = 1 := (by decide); omega), (Or.inr (by rw [show gm_F221710 6 f = γ0 6 f by omega]; exact Nat.le_of_eq sm221727)), (fun R c1 c2 c3 => c2 gm_0 el_0 q221472 g221436 q221026 p221487 p221488 z221703 z221704 q221036 F221710 gm_F221710 el_F221710 p221764 z221804 F221805 hγ0 hel0 hx221700 fq221701 fq221702 ez221703 ez221704 fq221705 hq221716 fq221803 hz221804 n221807 fq221810 r221812)⟩
                      · have r221815 : z221703.toInt ≠ z221704.toInt := gC_ne hc221811
                        refine G_aload_n 7 dr_cX17_merge_156 rfl ?_
                        refine G_iload 0 dr_cX17_merge_157 rfl ?_
                        refine G_iload 1 dr_cX17_merge_159 rfl ?_
                        have v0_221816 : 0 < gm_F221710 6 (gm_F221710 1 q210485) := by rw [hf221736]; omega
                        have hT221817 : RS D I P210482 F221805 gm_F221710 el := RS_set hT221731 n221807 ht221734 (by decide) ⟨q221758, q221759, p221760, p221761, p221762, p221763, z221804, p221765, p221766, p221767, p221768, p221769, p221770, p221771, p221772, p221773, p221774, he221809, ⟨(hB221801.1), (hB221801.2.1), (hB221801.2.2.1), (hB221801.2.2.2.1), (hB221801.2.2.2.2.1), (hB221801.2.2.2.2.2.1), (hB221801.2.2.2.2.2.2.1), (hB221801.2.2.2.2.2.2.2.1), (hB221801.2.2.2.2.2.2.2.2)⟩, ht221775, ht221776, ht221777, ht221778, ht221779, ht221780, ht221781, ht221782, ht221783, ht221784, ht221785, ht221786, ht221787, ht221788, ht221789, ht221790, ht221791, ht221792, ht221793, ht221794, ht221795, ht221796, ht221797, ht221798, hB221802⟩
                        have hs221818 := rSk_put hs221732 hT221817 n221807 ht221734 (by decide) (by decide)
                        refine Gw_callS (As := [.ref q210485, .int z221704, .int z221703]) (gV_ok D I) (ct_171256_SpillForgeModel_rename l hl0 D I gm_F221710 el_F221710 P210482 F221805 q210485 z221704 z221703 hT221817 ht221735 bz221704 bz221703 (by omega)) dr_cX17_merge_161 ⟨wr_11_30, wr_1_14, wr_11_32, by decide, rfl, (Nat.le_of_ble_eq_true rfl), (Nat.le_of_ble_eq_true rfl)⟩ wr_11_31 (rm_zc pk221755) (rm_zs pk221755) (Nat.le_of_ble_eq_true rfl) (fun r221822 w221823 dc221819 ds221820 hp221821 => ?_) (fun _ _ _ _ _ z => z.elim)
                        obtain ⟨F221825, rfl, rfl, hT221826, hs221827, hdc, hds, ht221824⟩ := hp221821
                        have hs221828 := rSk_str hs221818 hT221826 hs221827 (by decide) (by decide) (by decide)
                        change G _ _ _ _ _ _ _ _ _ _ _
                        refine G_widen (cs' := ((rPh gm_F221710 el_F221710 f - rPh γ0 el0 f) / 18)) (sl' := (rPh gm_F221710 el_F221710 f - rPh γ0 el0 f)) (rm_d0 hdc) (rm_d0 hds) ?_
                        refine G_iconst 1 dr_cX17_merge_164 (by decide +kernel) ?_
                        exact G_zretA FieldType.boolean dr_cX17_merge_165 rfl rfl (show ((rPh gm_F221710 el_F221710 f - rPh γ0 el0 f) / 18) ≤ (((387 * B + 6000) - rPh γ0 el0 f) / 18) by omega) (show (rPh gm_F221710 el_F221710 f - rPh γ0 el0 f) ≤ ((387 * B + 6000) - rPh γ0 el0 f) by omega) ⟨P210482, F221825, gm_F221710, el_F221710, 1, rfl, rfl, hs221828, ⟨by omega, by omega⟩, hB221753, (gB_w (gBl (show Int32.toInt 1 = 1 by decide)) (by decide) (by decide)), (by have qa0 : Int32.toInt 1 = 1 := (by decide); omega), (by have qa0 : Int32.toInt 1 = 1 := (by decide); omega), (by have qa0 : Int32.toInt 1 = 1 := (by decide); omega), (by have qa0 : Int32.toInt 1 = 1 := (by decide); omega), (Or.inr (by rw [show gm_F221710 6 f = γ0 6 f by omega]; exact Nat.le_of_eq sm221727)), (fun R c1 c2 c3 => c3 gm_0 el_0 q221472 g221436 q221026 p221487 p221488 z221703 z221704 q221036 F221710 gm_F221710 el_F221710 p221764 z221804 F221805 F221825 hγ0 hel0 hx221700 fq221701 fq221702 ez221703 ez221704 fq221705 hq221716 fq221803 hz221804 n221807 fq221810 r221815 hT221826 hs221827 ht221824)⟩
                    · have r221829 : o221695.toInt = 0 := gj_eq hc221697 (show Int32.toInt 0 = 0 by decide)
                      have bo221695' : gB o221695 0 0 := ⟨by omega, by omega⟩
                      refine G_goto 166 dr_cX17_merge_95 (by decide +kernel) ?_
                      obtain ⟨z221830, hz221830⟩ : ∃ z : Int32, z = g221436 + Int32.ofInt 1 := ⟨_, rfl⟩
                      have ez221830 : z221830.toInt = g221436.toInt + 1 := gI_inc hz221830 (by decide) bg221436' (by decide) (by decide)
                      have bz221830 : gB z221830 1 1000000 := ⟨by omega, by omega⟩
                      refine G_iinc (L' := [(5, .int z221830), (6, .ref q221472), (4, .ref q221026), (3, .int g220966), (0, .ref q210484), (1, .ref q210485), (2, .int p210486)]) z221830 1 dr_cX17_merge_166 rfl hz221830.symm (Nat.le_of_ble_eq_true rfl) rfl ?_
                      refine G_goto 20 dr_cX17_merge_169 (by decide +kernel) ?_
                      refine G_lv (L' := [(5, .int z221830), (4, .ref q221026), (3, .int g220966), (0, .ref q210484), (1, .ref q210485), (2, .int p210486)]) [0, 2, 3, 4, 5, 6] rfl ?_
                      exact ih20_221436 z221830 (gB_w bz221830 (by decide) (by decide)) (fun k e1 e2 ht => kt20_221437 k e1 e2 (fun R c1 c2 c3 c4 c5 c6 => c6 g221436 q221036 p221442 q221472 p221486 p221491 p221487 p221488 o221695 z221830 k e1 e2 bg221436 fq221438 fq221449 fq221450 r221460 hx221473 ht221483 fq221499 r221503 fq221504 r221508 fq221509 fq221510 r221642 bo221695 ht221696 r221829 ez221830 (ht R c1 c2 c3 c4 c5 c6))) (by omega)
        exact hlp20_221436 (((1000001 : Int) - 0).toNat + 1) 0 (gB_w (gBl (show Int32.toInt 0 = 0 by decide)) (by decide) (by decide)) (fun k e1 e2 ht => ht) (Nat.lt_succ_self _)
  exact hlp2_220966 (((1000001 : Int) - 0).toNat + 1) 0 (gB_w (gBl (show Int32.toInt 0 = 0 by decide)) (by decide) (by decide)) (fun k e1 e2 e3 ht => ht) (Nat.lt_succ_self _)
