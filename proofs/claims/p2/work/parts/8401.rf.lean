theorem dr_cX17_operand_14 : decode cX17_operand 14 = .ok (.aload_n 0, 1) := by decide +kernel
theorem dr_cX17_operand_15 : decode cX17_operand 15 = .ok (.getfield 316, 3) := by decide +kernel
theorem wr_7_103 : (Jvm.Cond.fieldLink "SpillForgeModel" (316 : Nat) "SpillForgeModel" "words" "Ljava/lang/StringBuilder;") ∈ gw := gw_7 103 rfl rfl
theorem dr_cX17_operand_18 : decode cX17_operand 18 = .ok (.iload_n 2, 1) := by decide +kernel
theorem dr_cX17_operand_19 : decode cX17_operand 19 = .ok (.invokevirtual 323, 3) := by decide +kernel
theorem wr_11_187 : (Jvm.Cond.methodLink "SpillForgeModel" (323 : Nat) ({ cls := "java/lang/StringBuilder", name := "append", desc := "(I)Ljava/lang/StringBuilder;" } : Jvm.MethodName)) ∈ gw := gw_11 187 rfl rfl
theorem wr_8_108 : (Jvm.Cond.code ({ cls := "java/lang/StringBuilder", name := "append", desc := "(I)Ljava/lang/StringBuilder;" } : Jvm.MethodName) prog_35_method_15_code (2 : Nat) (Option.some (Jvm.ClassFile.FieldType.object "java/lang/StringBuilder"))) ∈ gw := gw_8 108 rfl rfl
theorem wr_8_106 : (Jvm.Cond.instanceMethod ({ cls := "java/lang/StringBuilder", name := "append", desc := "(I)Ljava/lang/StringBuilder;" } : Jvm.MethodName)) ∈ gw := gw_8 106 rfl rfl
theorem wr_8_107 : (Jvm.Cond.selects "java/lang/StringBuilder" ({ cls := "java/lang/StringBuilder", name := "append", desc := "(I)Ljava/lang/StringBuilder;" } : Jvm.MethodName) ({ cls := "java/lang/StringBuilder", name := "append", desc := "(I)Ljava/lang/StringBuilder;" } : Jvm.MethodName)) ∈ gw := gw_8 107 rfl rfl
theorem dr_cX17_operand_22 : decode cX17_operand 22 = .ok (.pop, 1) := by decide +kernel
theorem dr_cX17_operand_23 : decode cX17_operand 23 = .ok (.return_, 1) := by decide +kernel
theorem dr_cX17_operand_0 : decode cX17_operand 0 = .ok (.iload_n 1, 1) := by decide +kernel
theorem dr_cX17_operand_1 : decode cX17_operand 1 = .ok (.ifCond .eq 13, 3) := by decide +kernel
theorem dr_cX17_operand_4 : decode cX17_operand 4 = .ok (.aload_n 0, 1) := by decide +kernel
theorem dr_cX17_operand_5 : decode cX17_operand 5 = .ok (.getfield 316, 3) := by decide +kernel
theorem dr_cX17_operand_8 : decode cX17_operand 8 = .ok (.bipush 118, 2) := by decide +kernel
theorem dr_cX17_operand_10 : decode cX17_operand 10 = .ok (.invokevirtual 320, 3) := by decide +kernel
theorem wr_11_186 : (Jvm.Cond.methodLink "SpillForgeModel" (320 : Nat) ({ cls := "java/lang/StringBuilder", name := "append", desc := "(C)Ljava/lang/StringBuilder;" } : Jvm.MethodName)) ∈ gw := gw_11 186 rfl rfl
theorem dr_cX17_operand_13 : decode cX17_operand 13 = .ok (.pop, 1) := by decide +kernel
theorem dr_cX17_sign_60 : decode cX17_sign 60 = .ok (.return_, 1) := by decide +kernel
theorem dr_cX17_sign_29 : decode cX17_sign 29 = .ok (.ldc 3, 2) := by decide +kernel
theorem dr_cX17_sign_31 : decode cX17_sign 31 = .ok (.iload_n 2, 1) := by decide +kernel
theorem dr_cX17_sign_32 : decode cX17_sign 32 = .ok (.invokevirtual 27, 3) := by decide +kernel
theorem dr_cX17_sign_35 : decode cX17_sign 35 = .ok (.bipush 32, 2) := by decide +kernel
theorem dr_cX17_sign_37 : decode cX17_sign 37 = .ok (.if_icmp .eq 23, 3) := by decide +kernel
theorem dr_cX17_sign_40 : decode cX17_sign 40 = .ok (.aload_n 0, 1) := by decide +kernel
theorem dr_cX17_sign_41 : decode cX17_sign 41 = .ok (.getfield 316, 3) := by decide +kernel
theorem dr_cX17_sign_44 : decode cX17_sign 44 = .ok (.ldc 3, 2) := by decide +kernel
theorem dr_cX17_sign_46 : decode cX17_sign 46 = .ok (.iload_n 2, 1) := by decide +kernel
theorem dr_cX17_sign_47 : decode cX17_sign 47 = .ok (.invokevirtual 27, 3) := by decide +kernel
theorem dr_cX17_sign_50 : decode cX17_sign 50 = .ok (.invokevirtual 320, 3) := by decide +kernel
theorem dr_cX17_sign_53 : decode cX17_sign 53 = .ok (.pop, 1) := by decide +kernel
theorem dr_cX17_sign_54 : decode cX17_sign 54 = .ok (.iinc 2 1, 3) := by decide +kernel
theorem dr_cX17_sign_57 : decode cX17_sign 57 = .ok (.goto (-28), 3) := by decide +kernel
theorem dr_cX17_sign_4 : decode cX17_sign 4 = .ok (.iload_n 3, 1) := by decide +kernel
theorem dr_cX17_sign_5 : decode cX17_sign 5 = .ok (.iload_n 1, 1) := by decide +kernel
theorem dr_cX17_sign_6 : decode cX17_sign 6 = .ok (.if_icmp .gt 23, 3) := by decide +kernel
theorem dr_cX17_sign_9 : decode cX17_sign 9 = .ok (.ldc 3, 2) := by decide +kernel
theorem dr_cX17_sign_11 : decode cX17_sign 11 = .ok (.iload_n 2, 1) := by decide +kernel
theorem dr_cX17_sign_12 : decode cX17_sign 12 = .ok (.invokevirtual 27, 3) := by decide +kernel
theorem dr_cX17_sign_15 : decode cX17_sign 15 = .ok (.bipush 32, 2) := by decide +kernel
theorem dr_cX17_sign_23 : decode cX17_sign 23 = .ok (.iinc 2 1, 3) := by decide +kernel
theorem dr_cX17_sign_26 : decode cX17_sign 26 = .ok (.goto (-22), 3) := by decide +kernel
theorem dr_cX17_sign_17 : decode cX17_sign 17 = .ok (.if_icmp .ne 6, 3) := by decide +kernel
theorem dr_cX17_sign_20 : decode cX17_sign 20 = .ok (.iinc 3 1, 3) := by decide +kernel
theorem dr_cX17_sign_0 : decode cX17_sign 0 = .ok (.iconst 0, 1) := by decide +kernel
theorem dr_cX17_sign_1 : decode cX17_sign 1 = .ok (.istore_n 2, 1) := by decide +kernel
theorem dr_cX17_sign_2 : decode cX17_sign 2 = .ok (.iconst 1, 1) := by decide +kernel
theorem dr_cX17_sign_3 : decode cX17_sign 3 = .ok (.istore_n 3, 1) := by decide +kernel
theorem dr_cX17_list__203 : decode cX17_list_ 203 = .ok (.aload_n 0, 1) := by decide +kernel
theorem dr_cX17_list__204 : decode cX17_list_ 204 = .ok (.getfield 316, 3) := by decide +kernel
theorem dr_cX17_list__207 : decode cX17_list_ 207 = .ok (.bipush 10, 2) := by decide +kernel
theorem dr_cX17_list__209 : decode cX17_list_ 209 = .ok (.invokevirtual 320, 3) := by decide +kernel
theorem dr_cX17_list__212 : decode cX17_list_ 212 = .ok (.pop, 1) := by decide +kernel
theorem dr_cX17_list__213 : decode cX17_list_ 213 = .ok (.return_, 1) := by decide +kernel
theorem dr_cX17_list__147 : decode cX17_list_ 147 = .ok (.aload_n 1, 1) := by decide +kernel
theorem dr_cX17_list__148 : decode cX17_list_ 148 = .ok (.getfield 39, 3) := by decide +kernel
theorem dr_cX17_list__151 : decode cX17_list_ 151 = .ok (.ifCond .le 52, 3) := by decide +kernel
theorem dr_cX17_list__154 : decode cX17_list_ 154 = .ok (.aload_n 1, 1) := by decide +kernel
theorem dr_cX17_list__155 : decode cX17_list_ 155 = .ok (.getfield 39, 3) := by decide +kernel
theorem dr_cX17_list__158 : decode cX17_list_ 158 = .ok (.bipush 20, 2) := by decide +kernel
theorem dr_cX17_list__160 : decode cX17_list_ 160 = .ok (.if_icmp .ge 43, 3) := by decide +kernel
theorem dr_cX17_list__163 : decode cX17_list_ 163 = .ok (.aload_n 0, 1) := by decide +kernel
theorem dr_cX17_list__164 : decode cX17_list_ 164 = .ok (.getfield 316, 3) := by decide +kernel
theorem dr_cX17_list__167 : decode cX17_list_ 167 = .ok (.bipush 32, 2) := by decide +kernel
theorem dr_cX17_list__169 : decode cX17_list_ 169 = .ok (.invokevirtual 320, 3) := by decide +kernel
theorem dr_cX17_list__172 : decode cX17_list_ 172 = .ok (.pop, 1) := by decide +kernel
theorem dr_cX17_list__173 : decode cX17_list_ 173 = .ok (.aload_n 0, 1) := by decide +kernel
theorem dr_cX17_list__174 : decode cX17_list_ 174 = .ok (.aload_n 1, 1) := by decide +kernel
theorem dr_cX17_list__175 : decode cX17_list_ 175 = .ok (.getfield 39, 3) := by decide +kernel
theorem dr_cX17_list__178 : decode cX17_list_ 178 = .ok (.invokevirtual 353, 3) := by decide +kernel
theorem wr_11_200 : (Jvm.Cond.methodLink "SpillForgeModel" (353 : Nat) ({ cls := "SpillForgeModel", name := "sign", desc := "(I)V" } : Jvm.MethodName)) ∈ gw := gw_11 200 rfl rfl
theorem wr_11_203 : (Jvm.Cond.code ({ cls := "SpillForgeModel", name := "sign", desc := "(I)V" } : Jvm.MethodName) prog_14_method_34_code (4 : Nat) (Option.none : Option Jvm.ClassFile.FieldType)) ∈ gw := gw_11 203 rfl rfl
theorem wr_11_202 : (Jvm.Cond.instanceMethod ({ cls := "SpillForgeModel", name := "sign", desc := "(I)V" } : Jvm.MethodName)) ∈ gw := gw_11 202 rfl rfl
theorem wr_p_119 : Cond.selects "SpillForgeModel" ⟨"SpillForgeModel", "sign", "(I)V"⟩ ⟨"SpillForgeModel", "sign", "(I)V"⟩ ∈ gw := gw_p _ 119 rfl rfl rfl
theorem dr_cX17_list__181 : decode cX17_list_ 181 = .ok (.aload_n 0, 1) := by decide +kernel
theorem dr_cX17_list__182 : decode cX17_list_ 182 = .ok (.getfield 316, 3) := by decide +kernel
theorem dr_cX17_list__185 : decode cX17_list_ 185 = .ok (.bipush 32, 2) := by decide +kernel
theorem dr_cX17_list__187 : decode cX17_list_ 187 = .ok (.invokevirtual 320, 3) := by decide +kernel
theorem dr_cX17_list__190 : decode cX17_list_ 190 = .ok (.pop, 1) := by decide +kernel
theorem dr_cX17_list__191 : decode cX17_list_ 191 = .ok (.aload_n 0, 1) := by decide +kernel
theorem dr_cX17_list__192 : decode cX17_list_ 192 = .ok (.aload_n 1, 1) := by decide +kernel
theorem dr_cX17_list__193 : decode cX17_list_ 193 = .ok (.getfield 309, 3) := by decide +kernel
theorem dr_cX17_list__196 : decode cX17_list_ 196 = .ok (.aload_n 1, 1) := by decide +kernel
theorem dr_cX17_list__197 : decode cX17_list_ 197 = .ok (.getfield 79, 3) := by decide +kernel
theorem dr_cX17_list__200 : decode cX17_list_ 200 = .ok (.invokevirtual 339, 3) := by decide +kernel
theorem wr_11_196 : (Jvm.Cond.methodLink "SpillForgeModel" (339 : Nat) ({ cls := "SpillForgeModel", name := "operand", desc := "(ZI)V" } : Jvm.MethodName)) ∈ gw := gw_11 196 rfl rfl
theorem wr_11_199 : (Jvm.Cond.code ({ cls := "SpillForgeModel", name := "operand", desc := "(ZI)V" } : Jvm.MethodName) prog_14_method_31_code (3 : Nat) (Option.none : Option Jvm.ClassFile.FieldType)) ∈ gw := gw_11 199 rfl rfl
theorem wr_11_198 : (Jvm.Cond.instanceMethod ({ cls := "SpillForgeModel", name := "operand", desc := "(ZI)V" } : Jvm.MethodName)) ∈ gw := gw_11 198 rfl rfl
theorem wr_p_118 : Cond.selects "SpillForgeModel" ⟨"SpillForgeModel", "operand", "(ZI)V"⟩ ⟨"SpillForgeModel", "operand", "(ZI)V"⟩ ∈ gw := gw_p _ 118 rfl rfl rfl
theorem dr_cX17_list__82 : decode cX17_list_ 82 = .ok (.aload_n 1, 1) := by decide +kernel
theorem dr_cX17_list__83 : decode cX17_list_ 83 = .ok (.getfield 39, 3) := by decide +kernel
theorem dr_cX17_list__86 : decode cX17_list_ 86 = .ok (.bipush 20, 2) := by decide +kernel
theorem dr_cX17_list__88 : decode cX17_list_ 88 = .ok (.if_icmp .ne 17, 3) := by decide +kernel
theorem dr_cX17_list__105 : decode cX17_list_ 105 = .ok (.aload_n 1, 1) := by decide +kernel
theorem dr_cX17_list__106 : decode cX17_list_ 106 = .ok (.getfield 39, 3) := by decide +kernel
theorem dr_cX17_list__109 : decode cX17_list_ 109 = .ok (.bipush 21, 2) := by decide +kernel
theorem dr_cX17_list__111 : decode cX17_list_ 111 = .ok (.if_icmp .ne 24, 3) := by decide +kernel
theorem dr_cX17_list__135 : decode cX17_list_ 135 = .ok (.aload_n 0, 1) := by decide +kernel
theorem dr_cX17_list__136 : decode cX17_list_ 136 = .ok (.aload_n 1, 1) := by decide +kernel
theorem dr_cX17_list__137 : decode cX17_list_ 137 = .ok (.getfield 141, 3) := by decide +kernel
theorem dr_cX17_list__140 : decode cX17_list_ 140 = .ok (.aload_n 1, 1) := by decide +kernel
theorem dr_cX17_list__141 : decode cX17_list_ 141 = .ok (.getfield 73, 3) := by decide +kernel
theorem dr_cX17_list__144 : decode cX17_list_ 144 = .ok (.invokevirtual 339, 3) := by decide +kernel
theorem dr_cX17_list__114 : decode cX17_list_ 114 = .ok (.aload_n 0, 1) := by decide +kernel
theorem dr_cX17_list__115 : decode cX17_list_ 115 = .ok (.getfield 316, 3) := by decide +kernel
theorem dr_cX17_list__118 : decode cX17_list_ 118 = .ok (.ldc_w 347, 3) := by decide +kernel
theorem dr_cX17_list__121 : decode cX17_list_ 121 = .ok (.invokevirtual 13, 3) := by decide +kernel
theorem dr_cX17_list__124 : decode cX17_list_ 124 = .ok (.aload_n 1, 1) := by decide +kernel
theorem dr_cX17_list__125 : decode cX17_list_ 125 = .ok (.getfield 45, 3) := by decide +kernel
theorem dr_cX17_list__128 : decode cX17_list_ 128 = .ok (.invokevirtual 323, 3) := by decide +kernel
theorem dr_cX17_list__131 : decode cX17_list_ 131 = .ok (.pop, 1) := by decide +kernel
theorem dr_cX17_list__132 : decode cX17_list_ 132 = .ok (.goto 15, 3) := by decide +kernel
theorem dr_cX17_list__91 : decode cX17_list_ 91 = .ok (.aload_n 0, 1) := by decide +kernel
theorem dr_cX17_list__92 : decode cX17_list_ 92 = .ok (.getfield 316, 3) := by decide +kernel
theorem dr_cX17_list__95 : decode cX17_list_ 95 = .ok (.ldc_w 351, 3) := by decide +kernel
theorem dr_cX17_list__98 : decode cX17_list_ 98 = .ok (.invokevirtual 13, 3) := by decide +kernel
theorem dr_cX17_list__101 : decode cX17_list_ 101 = .ok (.pop, 1) := by decide +kernel
theorem dr_cX17_list__102 : decode cX17_list_ 102 = .ok (.goto 45, 3) := by decide +kernel
theorem dr_cX17_list__0 : decode cX17_list_ 0 = .ok (.aload_n 1, 1) := by decide +kernel
theorem dr_cX17_list__1 : decode cX17_list_ 1 = .ok (.getfield 39, 3) := by decide +kernel
theorem dr_cX17_list__4 : decode cX17_list_ 4 = .ok (.bipush 22, 2) := by decide +kernel
theorem dr_cX17_list__6 : decode cX17_list_ 6 = .ok (.if_icmp .ne 17, 3) := by decide +kernel
theorem dr_cX17_list__23 : decode cX17_list_ 23 = .ok (.aload_n 1, 1) := by decide +kernel
theorem dr_cX17_list__24 : decode cX17_list_ 24 = .ok (.getfield 39, 3) := by decide +kernel
theorem dr_cX17_list__27 : decode cX17_list_ 27 = .ok (.bipush 23, 2) := by decide +kernel
theorem dr_cX17_list__29 : decode cX17_list_ 29 = .ok (.if_icmp .ne 30, 3) := by decide +kernel
theorem dr_cX17_list__59 : decode cX17_list_ 59 = .ok (.aload_n 0, 1) := by decide +kernel
theorem dr_cX17_list__60 : decode cX17_list_ 60 = .ok (.getfield 316, 3) := by decide +kernel
theorem dr_cX17_list__63 : decode cX17_list_ 63 = .ok (.bipush 118, 2) := by decide +kernel
theorem dr_cX17_list__65 : decode cX17_list_ 65 = .ok (.invokevirtual 320, 3) := by decide +kernel
theorem dr_cX17_list__68 : decode cX17_list_ 68 = .ok (.aload_n 1, 1) := by decide +kernel
theorem dr_cX17_list__69 : decode cX17_list_ 69 = .ok (.getfield 52, 3) := by decide +kernel
theorem dr_cX17_list__72 : decode cX17_list_ 72 = .ok (.invokevirtual 323, 3) := by decide +kernel
theorem dr_cX17_list__75 : decode cX17_list_ 75 = .ok (.ldc_w 349, 3) := by decide +kernel
theorem dr_cX17_list__78 : decode cX17_list_ 78 = .ok (.invokevirtual 13, 3) := by decide +kernel
theorem dr_cX17_list__81 : decode cX17_list_ 81 = .ok (.pop, 1) := by decide +kernel
theorem dr_cX17_list__32 : decode cX17_list_ 32 = .ok (.aload_n 0, 1) := by decide +kernel
theorem dr_cX17_list__33 : decode cX17_list_ 33 = .ok (.getfield 316, 3) := by decide +kernel
theorem dr_cX17_list__36 : decode cX17_list_ 36 = .ok (.ldc_w 347, 3) := by decide +kernel
theorem dr_cX17_list__39 : decode cX17_list_ 39 = .ok (.invokevirtual 13, 3) := by decide +kernel
theorem dr_cX17_list__42 : decode cX17_list_ 42 = .ok (.aload_n 1, 1) := by decide +kernel
theorem dr_cX17_list__43 : decode cX17_list_ 43 = .ok (.getfield 45, 3) := by decide +kernel
theorem dr_cX17_list__46 : decode cX17_list_ 46 = .ok (.invokevirtual 323, 3) := by decide +kernel
theorem dr_cX17_list__49 : decode cX17_list_ 49 = .ok (.ldc_w 349, 3) := by decide +kernel
theorem dr_cX17_list__52 : decode cX17_list_ 52 = .ok (.invokevirtual 13, 3) := by decide +kernel
theorem dr_cX17_list__55 : decode cX17_list_ 55 = .ok (.pop, 1) := by decide +kernel
theorem dr_cX17_list__56 : decode cX17_list_ 56 = .ok (.goto 26, 3) := by decide +kernel
theorem dr_cX17_list__9 : decode cX17_list_ 9 = .ok (.aload_n 0, 1) := by decide +kernel
theorem dr_cX17_list__10 : decode cX17_list_ 10 = .ok (.getfield 316, 3) := by decide +kernel
theorem dr_cX17_list__13 : decode cX17_list_ 13 = .ok (.ldc_w 345, 3) := by decide +kernel
theorem dr_cX17_list__16 : decode cX17_list_ 16 = .ok (.invokevirtual 13, 3) := by decide +kernel
theorem dr_cX17_list__19 : decode cX17_list_ 19 = .ok (.pop, 1) := by decide +kernel
theorem dr_cX17_list__20 : decode cX17_list_ 20 = .ok (.goto 62, 3) := by decide +kernel
abbrev ky_opd : gKey := (cX17_operand, 3, "SpillForgeModel", none, [], "operand", fun _ _ => True)
set_option maxRecDepth 100000 in
set_option maxHeartbeats 4000000 in
theorem cp_opd (l : Launch) (hl0 : l.stackTraces = false) (D : va_G) (I : FieldType → ClassId) {P0 P : List Nat} {F0 F : Nat → va_E} {γ el : Nat → Nat → Nat} {W a n m C mc ms r28 r35 : Nat} {c rg x v9 v10 v11 v12 v13 v14 v23 v24 v25 v26 v27 v30 v32 v33 v34 : Int32} (hm : γ 0 m = 10) (hW : γ 9 29 = W) (he : F0 m = mdE γ r28 r35 v9 v10 v11 v12 v13 v14 v23 v24 v25 v26 v27 v30 v32 v33 v34) (h : wdS D I P0 F0 γ el W P F a n c) (hC : c.toInt + 12 ≤ (C : Int)) (hr : rmW mc ms n C) :
    CtA (gV D I) l yX17_operand cX17_operand 3 none 6 140 mc ms [.ref m, .int rg, .int x] (va_pl P F) (wdP D I P0 F0 γ el W n c 12) gNA := by
  subst hW
  refine CtA_of hl0 (by decide) (Nat.le_of_ble_eq_true rfl) ?_
  have Mm : ∀ {P : List Nat} {F : Nat → va_E} {a n : Nat} {c : Int32}, wdS D I P0 F0 γ el (γ 9 29) P F a n c → m ∈ P ∧ F m = mdE γ r28 r35 v9 v10 v11 v12 v13 v14 v23 v24 v25 v26 v27 v30 v32 v33 v34 := fun h => ⟨(wdS_F h hm (by decide) (by decide) (by decide)).1, (wdS_F h hm (by decide) (by decide) (by decide)).2.trans he⟩
  have hCk : ∀ j : Int, j ≤ 12 → c.toInt + j ≤ (C : Int) := fun j hj => by omega
  have k14 : ∀ (P : List Nat) (F : Nat → va_E) (a1 n1 : Nat) (c1 : Int32) (cs sl : Nat), wdS D I P0 F0 γ el (γ 9 29) P F a1 n1 c1 → wdQ n c n1 c1 1 cs sl → G (gV D I) l (gRm 6 140 mc ms) (gMA (gV D I) (wdP D I P0 F0 γ el (γ 9 29) n c 12) gNA mc ms) ky_opd 14 [(0, .ref m), (1, .int rg), (2, .int x)] [] (va_pl P F) cs sl := fun P F a1 n1 c1 cs sl h q => by
    refine G_aload_n 0 dr_cX17_operand_14 rfl ?_
    refine Gp_get 29 (Mm h).1 (Mm h).2 dr_cX17_operand_15 (gk_X17 D I) (Nat.le_of_ble_eq_true rfl) wr_7_103 rfl ?_
    refine G_iload_n 2 dr_cX17_operand_18 rfl ?_
    refine Gw_appI hl0 dr_cX17_operand_19 ⟨wr_11_187, wr_1_20, wr_8_108, by decide, rfl, (Nat.le_of_ble_eq_true rfl), (Nat.le_of_ble_eq_true rfl)⟩ wr_8_106 wr_8_107 h (rmW_n (k := 11) hr q (hCk _ (by decide)) (by decide)) (rmW_1 (k := 11) hr q (hCk _ (by decide)) (by decide)) (rmW_2 (k := 11) hr q (hCk _ (by decide)) (by decide)) (rmW_3 (k := 11) hr q (hCk _ (by decide))) (Nat.le_of_ble_eq_true rfl) (fun P2 F2 a2 n2 c2 dc ds h2 q2 => ?_)
    have q' := wdQ_t q q2
    refine G_pop dr_cX17_operand_22 rfl ?_
    exact G_vretA dr_cX17_operand_23 rfl (Nat.le_of_succ_le (rmW_1 (k := 0) hr q' (hCk _ (by decide)) (by decide))) (rmW_2 (k := 0) hr q' (hCk _ (by decide)) (by decide)) ⟨P2, F2, a2, n2, c2, rfl, rfl, h2, q'⟩
  have q0 : wdQ n c n c 0 0 0 := wdQ_r (by decide)
  refine G_iload_n 1 dr_cX17_operand_0 rfl ?_
  refine G_if_eq 14 dr_cX17_operand_1 (by decide +kernel) (fun _ => k14 P F a n c 0 0 h (wdQ_w q0 (by decide))) (fun _ => ?_)
  refine G_aload_n 0 dr_cX17_operand_4 rfl ?_
  refine Gp_get 29 (Mm h).1 (Mm h).2 dr_cX17_operand_5 (gk_X17 D I) (Nat.le_of_ble_eq_true rfl) wr_7_103 rfl ?_
  refine G_bipush 118 dr_cX17_operand_8 (by decide +kernel) ?_
  refine Gw_appC hl0 dr_cX17_operand_10 ⟨wr_11_186, wr_1_20, wr_8_0, by decide, rfl, (Nat.le_of_ble_eq_true rfl), (Nat.le_of_ble_eq_true rfl)⟩ wr_7_238 wr_7_239 h ⟨by decide, by decide⟩ (rmW_n (k := 1) hr q0 (hCk _ (by decide)) (by decide)) (rmW_1 (k := 1) hr q0 (hCk _ (by decide)) (by decide)) (rmW_2 (k := 1) hr q0 (hCk _ (by decide)) (by decide)) (rmW_3 (k := 1) hr q0 (hCk _ (by decide))) (Nat.le_of_ble_eq_true rfl) (fun P2 F2 a2 n2 c2 dc ds h2 q2 => ?_)
  refine G_pop dr_cX17_operand_13 rfl ?_
  exact k14 P2 F2 a2 n2 c2 _ _ h2 (wdQ_t q0 q2)
abbrev ky_sgn : gKey := (cX17_sign, 4, "SpillForgeModel", none, [], "sign", fun _ _ => True)
theorem sg_a : ∀ p : Nat, p < 35 → opsN p ≤ 13 → p < 34 := by decide +kernel
theorem sg_b : ∀ p : Nat, p < 35 → opsN p ≤ 14 → p < 34 := by decide +kernel
theorem sg_c : ∀ p : Nat, p < 34 → (sb_42.getD p 0).toInt = 32 ∨ (p + 1 < 34 ∧ (sb_42.getD (p + 1) 0).toInt = 32) ∨ (p + 2 < 34 ∧ (sb_42.getD (p + 2) 0).toInt = 32) := by decide +kernel
theorem sg_d : ∀ p : Nat, p < 34 → 0 ≤ (sb_42.getD p 0).toInt := by decide +kernel
section SGN
variable {l : Launch} {D : va_G} {I : FieldType → ClassId} {P0 : List Nat} {F0 : Nat → va_E} {γ el : Nat → Nat → Nat} {n0 m C mc ms r28 r35 : Nat} {c0 op v9 v10 v11 v12 v13 v14 v23 v24 v25 v26 v27 v30 v32 v33 v34 : Int32}
set_option maxRecDepth 100000 in
set_option maxHeartbeats 4000000 in
theorem sg_l2 (hl0 : l.stackTraces = false) (hm : γ 0 m = 10) (he : F0 m = mdE γ r28 r35 v9 v10 v11 v12 v13 v14 v23 v24 v25 v26 v27 v30 v32 v33 v34) (hCk : ∀ j : Int, j ≤ 2 → c0.toInt + j ≤ (C : Int)) (hr : rmW mc ms n0 C) :
    ∀ (e : Nat) (P : List Nat) (F : Nat → va_E) (a n : Nat) (c k at' : Int32) (cs sl : Nat), 0 ≤ at'.toInt → at'.toInt + (e : Int) < 34 → e ≤ 2 → (sb_42.getD (at'.toInt.toNat + e) 0).toInt = 32 → wdS D I P0 F0 γ el (γ 9 29) P F a n c → wdQ n0 c0 n c (2 - (e : Int)) cs sl →
    G (gV D I) l (gRm 6 140 mc ms) (gMA (gV D I) (wdP D I P0 F0 γ el (γ 9 29) n0 c0 2) gNA mc ms) ky_sgn 29 [(3, .int k), (2, .int at'), (0, .ref m), (1, .int op)] [] (va_pl P F) cs sl := by
  have Mm : ∀ {P : List Nat} {F : Nat → va_E} {a n : Nat} {c : Int32}, wdS D I P0 F0 γ el (γ 9 29) P F a n c → m ∈ P ∧ F m = mdE γ r28 r35 v9 v10 v11 v12 v13 v14 v23 v24 v25 v26 v27 v30 v32 v33 v34 := fun h => ⟨(wdS_F h hm (by decide) (by decide) (by decide)).1, (wdS_F h hm (by decide) (by decide) (by decide)).2.trans he⟩
  have hlen : (sb_42.length : Int) = 34 := rfl
  have ext : ∀ (P : List Nat) (F : Nat → va_E) (a n : Nat) (c k at' : Int32) (cs sl : Nat) (K : Int), K ≤ 2 → wdS D I P0 F0 γ el (γ 9 29) P F a n c → wdQ n0 c0 n c K cs sl → G (gV D I) l (gRm 6 140 mc ms) (gMA (gV D I) (wdP D I P0 F0 γ el (γ 9 29) n0 c0 2) gNA mc ms) ky_sgn 60 [(3, .int k), (2, .int at'), (0, .ref m), (1, .int op)] [] (va_pl P F) cs sl := fun P F a n c k at' cs sl K hK h q => by
    have hz : c0.toInt + (K + 0) ≤ (C : Int) := hCk _ (by omega)
    exact G_vretA dr_cX17_sign_60 rfl (Nat.le_of_succ_le (rmW_1 (k := 0) hr q hz (by decide))) (rmW_2 (k := 0) hr q hz (by decide)) ⟨P, F, a, n, c, rfl, rfl, h, wdQ_w q hK⟩
  intro e
  induction e with
  | zero =>
    intro P F a n c k at' cs sl h0 h1 h2 h3 h q
    have hz : c0.toInt + (2 - ((0 : Nat) : Int) + 0) ≤ (C : Int) := hCk _ (by decide)
    have r1 := rmW_1 (k := 0) hr q hz (by decide)
    have r2 := rmW_2 (k := 0) hr q hz (by decide)
    refine G_ldcK (a := D.2 1000 42) dr_cX17_sign_29 (fun _ _ _ h => gx_vk 42 rfl rfl h) ?_
    refine G_iload_n 1 dr_cX17_sign_31 rfl ?_
    refine Gw_callVk (As := [.int at']) (gV_ok D I) (cp_656348_String_charAt l hl0 D I P F (D.2 1000 42) (D.2 1001 42) sb_42 at' (gx_sc 42 rfl rfl) (by omega) (by decide +kernel) ⟨h0, by omega⟩ (by omega)) dr_cX17_sign_32 ⟨wr_10_103, wr_1_21, wr_3_70, by decide, rfl, (Nat.le_of_ble_eq_true rfl), (Nat.le_of_ble_eq_true rfl)⟩ wr_3_68 wr_3_69 (fun _ _ _ h => (gx_sc 42 rfl rfl _ _ _ h).1) (show _ ≤ mc by omega) (show _ ≤ ms by omega) (Nat.le_of_ble_eq_true rfl) (fun r w dc ds hp => ?_) (fun _ _ _ _ _ z => z.elim)
    obtain ⟨o, rfl, rfl, hdc, hds, bo, hch⟩ := hp
    change G _ _ _ _ _ _ _ (.int o :: []) _ _ _
    refine G_widen (cs' := cs) (sl' := sl) (by omega) (by omega) ?_
    refine G_bipush 32 dr_cX17_sign_35 (by decide +kernel) ?_
    refine G_icmp_eq 60 dr_cX17_sign_37 (by decide +kernel) (fun _ => ext P F a n c k at' cs sl _ (by decide) h q) (fun hc => absurd ?_ hc)
    have e1 : (sb_42.getD at'.toNatClampNeg 0).toInt = 32 := h3
    have e2 : o.toInt = 32 := (hch (by show 0 ≤ (sb_42.getD at'.toNatClampNeg 0).toInt; omega)).trans e1
    exact Int32.toInt_inj.mp (e2.trans (show (32 : Int) = Int32.toInt 32 by decide))
  | succ e ih =>
    intro P F a n c k at' cs sl h0 h1 h2 h3 h q
    have hz : c0.toInt + (2 - ((e + 1 : Nat) : Int) + 1) ≤ (C : Int) := hCk _ (by omega)
    have r1 := rmW_1 (k := 1) hr q hz (by decide)
    have r2 := rmW_2 (k := 1) hr q hz (by decide)
    refine G_ldcK (a := D.2 1000 42) dr_cX17_sign_29 (fun _ _ _ h => gx_vk 42 rfl rfl h) ?_
    refine G_iload_n 1 dr_cX17_sign_31 rfl ?_
    refine Gw_callVk (As := [.int at']) (gV_ok D I) (cp_656348_String_charAt l hl0 D I P F (D.2 1000 42) (D.2 1001 42) sb_42 at' (gx_sc 42 rfl rfl) (by omega) (by decide +kernel) ⟨h0, by omega⟩ (by omega)) dr_cX17_sign_32 ⟨wr_10_103, wr_1_21, wr_3_70, by decide, rfl, (Nat.le_of_ble_eq_true rfl), (Nat.le_of_ble_eq_true rfl)⟩ wr_3_68 wr_3_69 (fun _ _ _ h => (gx_sc 42 rfl rfl _ _ _ h).1) (show _ ≤ mc by omega) (show _ ≤ ms by omega) (Nat.le_of_ble_eq_true rfl) (fun r w dc ds hp => ?_) (fun _ _ _ _ _ z => z.elim)
    obtain ⟨o, rfl, rfl, hdc, hds, bo, hch⟩ := hp
    change G _ _ _ _ _ _ _ (.int o :: []) _ _ _
    refine G_widen (cs' := cs) (sl' := sl) (by omega) (by omega) ?_
    refine G_bipush 32 dr_cX17_sign_35 (by decide +kernel) ?_
    refine G_icmp_eq 60 dr_cX17_sign_37 (by decide +kernel) (fun _ => ext P F a n c k at' cs sl _ (by omega) h q) (fun hc => ?_)
    refine G_aload_n 2 dr_cX17_sign_40 rfl ?_
    refine Gp_get 29 (Mm h).1 (Mm h).2 dr_cX17_sign_41 (gk_X17 D I) (Nat.le_of_ble_eq_true rfl) wr_7_103 rfl ?_
    refine G_ldcK (a := D.2 1000 42) dr_cX17_sign_44 (fun _ _ _ h => gx_vk 42 rfl rfl h) ?_
    refine G_iload_n 1 dr_cX17_sign_46 rfl ?_
    refine Gw_callVk (As := [.int at']) (gV_ok D I) (cp_656348_String_charAt l hl0 D I P F (D.2 1000 42) (D.2 1001 42) sb_42 at' (gx_sc 42 rfl rfl) (by omega) (by decide +kernel) ⟨h0, by omega⟩ (by omega)) dr_cX17_sign_47 ⟨wr_10_103, wr_1_21, wr_3_70, by decide, rfl, (Nat.le_of_ble_eq_true rfl), (Nat.le_of_ble_eq_true rfl)⟩ wr_3_68 wr_3_69 (fun _ _ _ h => (gx_sc 42 rfl rfl _ _ _ h).1) (show _ ≤ mc by omega) (show _ ≤ ms by omega) (Nat.le_of_ble_eq_true rfl) (fun r w dc ds hp => ?_) (fun _ _ _ _ _ z => z.elim)
    obtain ⟨o2, rfl, rfl, hdc2, hds2, bo2, -⟩ := hp
    change G _ _ _ _ _ _ _ (.int o2 :: .ref (γ 9 29) :: []) _ _ _
    refine G_widen (cs' := cs) (sl' := sl) (by omega) (by omega) ?_
    refine Gw_appC hl0 dr_cX17_sign_50 ⟨wr_11_186, wr_1_20, wr_8_0, by decide, rfl, (Nat.le_of_ble_eq_true rfl), (Nat.le_of_ble_eq_true rfl)⟩ wr_7_238 wr_7_239 h bo2 (rmW_n (k := 1) hr q hz (by decide)) r1 r2 (rmW_3 (k := 1) hr q hz) (Nat.le_of_ble_eq_true rfl) (fun P2 F2 a2 n2 c2 dc ds h2' q2 => ?_)
    refine G_pop dr_cX17_sign_53 rfl ?_
    obtain ⟨t1, ht1⟩ : ∃ z, z = at' + 1 := ⟨_, rfl⟩
    have et : t1.toInt = at'.toInt + 1 := by rw [gI_add ht1 (⟨h0, by omega⟩ : gB at' 0 34) (gBl (show Int32.toInt 1 = 1 by decide)) (by decide) (by decide), show Int32.toInt 1 = 1 from by decide]
    refine G_iinc (L' := [(2, .int t1), (3, .int k), (0, .ref m), (1, .int op)]) t1 1 dr_cX17_sign_54 rfl (by rw [ht1]; rfl) (Nat.le_of_ble_eq_true rfl) rfl ?_
    refine G_goto 29 dr_cX17_sign_57 (by decide +kernel) ?_
    refine G_lv [1, 0, 2, 3] rfl ?_
    refine ih P2 F2 a2 n2 c2 k t1 _ _ (by omega) (by omega) (by omega) ?_ h2' (wdQ_w (wdQ_t q q2) (by omega))
    rw [show t1.toInt.toNat + e = at'.toInt.toNat + (e + 1) by omega]
    exact h3
set_option maxRecDepth 100000 in
set_option maxHeartbeats 4000000 in
theorem sg_l1 (hl0 : l.stackTraces = false) {Qf : gFin} {P : List Nat} {F : Nat → va_E} (hop : op.toInt ≤ 14) (hmc : 0 ≤ mc) (kk : ∀ (k at' : Int32), 0 ≤ at'.toInt → at'.toInt < 34 → G (gV D I) l (gRm 6 140 mc ms) Qf ky_sgn 29 [(3, .int k), (2, .int at'), (0, .ref m), (1, .int op)] [] (va_pl P F) 0 0) :
    ∀ (μ : Nat) (k at' : Int32), 34 - at'.toInt < (μ : Int) → at'.toInt ≤ 34 → opI at' k → k.toInt ≤ op.toInt + 1 →
    G (gV D I) l (gRm 6 140 mc ms) Qf ky_sgn 4 [(3, .int k), (2, .int at'), (0, .ref m), (1, .int op)] [] (va_pl P F) 0 0 := by
  have hlen : (sb_42.length : Int) = 34 := rfl
  intro μ
  induction μ with
  | zero => intro k at' h h0 _ _; exact absurd h (by omega)
  | succ μ ih =>
  intro k at' hμ h0 hI hk
  obtain ⟨i0, i1⟩ := id hI
  refine G_iload_n 0 dr_cX17_sign_4 rfl ?_
  refine G_iload_n 3 dr_cX17_sign_5 rfl ?_
  refine G_icmp_gt 29 dr_cX17_sign_6 (by decide +kernel) (fun hc => ?_) (fun hc => ?_)
  · have hlt : op.toInt < k.toInt := gj_lt hc rfl
    exact kk k at' i0 (by have := sg_b at'.toInt.toNat (by omega) (by omega); omega)
  · have hle : k.toInt ≤ op.toInt := gj_nlt hc rfl
    have hat : at'.toInt < 34 := by have := sg_a at'.toInt.toNat (by omega) (by omega); omega
    refine G_ldcK (a := D.2 1000 42) dr_cX17_sign_9 (fun _ _ _ h => gx_vk 42 rfl rfl h) ?_
    refine G_iload_n 1 dr_cX17_sign_11 rfl ?_
    refine Gw_callVk (As := [.int at']) (gV_ok D I) (cp_656348_String_charAt l hl0 D I P F (D.2 1000 42) (D.2 1001 42) sb_42 at' (gx_sc 42 rfl rfl) (by omega) (by decide +kernel) ⟨i0, by omega⟩ (by omega)) dr_cX17_sign_12 ⟨wr_10_103, wr_1_21, wr_3_70, by decide, rfl, (Nat.le_of_ble_eq_true rfl), (Nat.le_of_ble_eq_true rfl)⟩ wr_3_68 wr_3_69 (fun _ _ _ h => (gx_sc 42 rfl rfl _ _ _ h).1) (show _ ≤ mc by omega) (show _ ≤ ms by omega) (Nat.le_of_ble_eq_true rfl) (fun r w dc ds hp => ?_) (fun _ _ _ _ _ z => z.elim)
    obtain ⟨o, rfl, rfl, hdc, hds, bo, hch⟩ := hp
    change G _ _ _ _ _ _ _ (.int o :: []) _ _ _
    refine G_widen (cs' := 0) (sl' := 0) (by omega) (by omega) ?_
    refine G_bipush 32 dr_cX17_sign_15 (by decide +kernel) ?_
    have z32 : Int32.toInt 32 = 32 := by decide
    have k23 : ∀ k1 : Int32, (k1.toInt = k.toInt + 1 ∧ o.toInt = 32) ∨ (k1.toInt = k.toInt + 0 ∧ o.toInt ≠ 32) → G (gV D I) l (gRm 6 140 mc ms) Qf ky_sgn 23 [(3, .int k1), (2, .int at'), (0, .ref m), (1, .int op)] [] (va_pl P F) 0 0 := fun k1 hk1 => by
      obtain ⟨t1, ht1⟩ : ∃ z, z = at' + 1 := ⟨_, rfl⟩
      have et : t1.toInt = at'.toInt + 1 := by rw [gI_add ht1 (⟨i0, by omega⟩ : gB at' 0 34) (gBl (show Int32.toInt 1 = 1 by decide)) (by decide) (by decide), show Int32.toInt 1 = 1 from by decide]
      refine G_iinc (L' := [(2, .int t1), (3, .int k1), (0, .ref m), (1, .int op)]) t1 1 dr_cX17_sign_23 rfl (by rw [ht1]; rfl) (Nat.le_of_ble_eq_true rfl) rfl ?_
      refine G_goto 4 dr_cX17_sign_26 (by decide +kernel) ?_
      refine G_lv [1, 0, 2, 3] rfl ?_
      rcases hk1 with ⟨q1, q2⟩ | ⟨q1, q2⟩
      · exact ih k1 t1 (by omega) (by omega) (opI_st hI hat et q1 hch (Or.inl ⟨q2, rfl⟩)) (by omega)
      · exact ih k1 t1 (by omega) (by omega) (opI_st hI hat et q1 hch (Or.inr ⟨q2, rfl⟩)) (by omega)
    refine G_icmp_ne 23 dr_cX17_sign_17 (by decide +kernel) (fun hc1 => k23 k (Or.inr ⟨by omega, fun e => hc1 (Int32.toInt_inj.mp (e.trans z32.symm))⟩)) (fun hc1 => ?_)
    obtain ⟨k1, hk1⟩ : ∃ z, z = k + 1 := ⟨_, rfl⟩
    have ek : k1.toInt = k.toInt + 1 := by rw [gI_add hk1 (⟨by omega, by omega⟩ : gB k 0 20) (gBl (show Int32.toInt 1 = 1 by decide)) (by decide) (by decide), show Int32.toInt 1 = 1 from by decide]
    refine G_iinc (L' := [(3, .int k1), (2, .int at'), (0, .ref m), (1, .int op)]) k1 0 dr_cX17_sign_20 rfl (by rw [hk1]; rfl) (Nat.le_of_ble_eq_true rfl) rfl ?_
    exact k23 k1 (Or.inl ⟨ek, by rw [hc1]; exact z32⟩)
end SGN
set_option maxRecDepth 100000 in
set_option maxHeartbeats 4000000 in
theorem cp_sgn (l : Launch) (hl0 : l.stackTraces = false) (D : va_G) (I : FieldType → ClassId) {P0 P : List Nat} {F0 F : Nat → va_E} {γ el : Nat → Nat → Nat} {W a n m C mc ms r28 r35 : Nat} {c op v9 v10 v11 v12 v13 v14 v23 v24 v25 v26 v27 v30 v32 v33 v34 : Int32} (hm : γ 0 m = 10) (hW : γ 9 29 = W) (he : F0 m = mdE γ r28 r35 v9 v10 v11 v12 v13 v14 v23 v24 v25 v26 v27 v30 v32 v33 v34) (h : wdS D I P0 F0 γ el W P F a n c) (h1 : 0 ≤ op.toInt) (h14 : op.toInt ≤ 14) (hC : c.toInt + 2 ≤ (C : Int)) (hr : rmW mc ms n C) :
    CtA (gV D I) l yX17_sign cX17_sign 4 none 6 140 mc ms [.ref m, .int op] (va_pl P F) (wdP D I P0 F0 γ el W n c 2) gNA := by
  subst hW
  refine CtA_of hl0 (by decide) (Nat.le_of_ble_eq_true rfl) ?_
  have hCk : ∀ j : Int, j ≤ 2 → c.toInt + j ≤ (C : Int) := fun j hj => by omega
  have q0 : wdQ n c n c 0 0 0 := wdQ_r (by decide)
  refine G_iconst 0 dr_cX17_sign_0 (by decide +kernel) ?_
  refine G_istore_n (L' := [(2, .int 0), (0, .ref m), (1, .int op)]) dr_cX17_sign_1 (Nat.le_of_ble_eq_true rfl) rfl ?_
  refine G_iconst 1 dr_cX17_sign_2 (by decide +kernel) ?_
  refine G_istore_n (L' := [(3, .int 1), (2, .int 0), (0, .ref m), (1, .int op)]) dr_cX17_sign_3 (Nat.le_of_ble_eq_true rfl) rfl ?_
  refine sg_l1 hl0 h14 (Nat.zero_le _) (fun k at' ha hb => ?_) 40 1 0 (by decide) (by decide) opI_0 (by have z1 : Int32.toInt 1 = 1 := (by decide); omega)
  rcases sg_c at'.toInt.toNat (by omega) with z | ⟨z1, z⟩ | ⟨z1, z⟩
  · exact sg_l2 hl0 hm he hCk hr 0 P F a n c k at' 0 0 ha (by omega) (by decide) z h (wdQ_w q0 (by decide))
  · exact sg_l2 hl0 hm he hCk hr 1 P F a n c k at' 0 0 ha (by omega) (by decide) z h (wdQ_w q0 (by decide))
  · exact sg_l2 hl0 hm he hCk hr 2 P F a n c k at' 0 0 ha (by omega) (by decide) z h (wdQ_w q0 (by decide))
abbrev ky_lrw : gKey := (cX17_list_, 2, "SpillForgeModel", none, [], "list", fun _ _ => True)
set_option maxRecDepth 100000 in
set_option maxHeartbeats 4000000 in
theorem cp_lrw (l : Launch) (hl0 : l.stackTraces = false) (D : va_G) (I : FieldType → ClassId) {P0 P : List Nat} {F0 F : Nat → va_E} {γ el : Nat → Nat → Nat} {W a n0 m x C mc ms r28 r35 : Nat} {c0 v9 v10 v11 v12 v13 v14 v23 v24 v25 v26 v27 v30 v32 v33 v34 : Int32} (hT0 : RS D I P0 F0 γ el) (hx : γ 0 x = 1) (hm : γ 0 m = 10) (hW : γ 9 29 = W) (he : F0 m = mdE γ r28 r35 v9 v10 v11 v12 v13 v14 v23 v24 v25 v26 v27 v30 v32 v33 v34) (h : wdS D I P0 F0 γ el W P F a n0 c0) (hC : c0.toInt + 52 ≤ (C : Int)) (hr : rmW mc ms n0 C) :
    CtA (gV D I) l yX17_list_ cX17_list_ 2 none 7 170 mc ms [.ref m, .ref x] (va_pl P F) (wdP D I P0 F0 γ el W n0 c0 52) gNA := by
  subst hW
  refine CtA_of hl0 (by decide) (Nat.le_of_ble_eq_true rfl) ?_
  obtain ⟨op, t, xa, xb, s, ra, rb, x1, x2, x3, x4, x5, x6, x7, -⟩ := show rk_1 γ x (F0 x) from RS_o hT0 hx
  have Mm : ∀ {P : List Nat} {F : Nat → va_E} {a n : Nat} {c : Int32}, wdS D I P0 F0 γ el (γ 9 29) P F a n c → m ∈ P ∧ F m = mdE γ r28 r35 v9 v10 v11 v12 v13 v14 v23 v24 v25 v26 v27 v30 v32 v33 v34 := fun h => ⟨(wdS_F h hm (by decide) (by decide) (by decide)).1, (wdS_F h hm (by decide) (by decide) (by decide)).2.trans he⟩
  have Xx : ∀ {P : List Nat} {F : Nat → va_E} {a n : Nat} {c : Int32}, wdS D I P0 F0 γ el (γ 9 29) P F a n c → x ∈ P ∧ F x = .inr (20, [.int op, .int t, .int xa, .int xb, .int s, .int ra, .int rb]) := fun h => ⟨(wdS_F h hx (by decide) (by decide) (by decide)).1, (wdS_F h hx (by decide) (by decide) (by decide)).2.trans x1⟩
  have hCk : ∀ j : Int, j ≤ 52 → c0.toInt + j ≤ (C : Int) := fun j hj => by omega
  have q : wdQ n0 c0 n0 c0 0 0 0 := wdQ_r (by decide)
  have k203 : ∀ (P : List Nat) (F : Nat → va_E) (a n : Nat) (c : Int32) (cs sl : Nat), wdS D I P0 F0 γ el (γ 9 29) P F a n c → wdQ n0 c0 n c 51 cs sl → G (gV D I) l (gRm 7 170 mc ms) (gMA (gV D I) (wdP D I P0 F0 γ el (γ 9 29) n0 c0 52) gNA mc ms) ky_lrw 203 [(0, .ref m), (1, .ref x)] [] (va_pl P F) cs sl := fun P F a n c cs sl h q => by
    refine G_aload_n 0 dr_cX17_list__203 rfl ?_
    refine Gp_get 29 (Mm h).1 (Mm h).2 dr_cX17_list__204 (gk_X17 D I) (Nat.le_of_ble_eq_true rfl) wr_7_103 rfl ?_
    refine G_bipush 10 dr_cX17_list__207 (by decide +kernel) ?_
    refine Gw_appC hl0 dr_cX17_list__209 ⟨wr_11_186, wr_1_20, wr_8_0, by decide, rfl, (Nat.le_of_ble_eq_true rfl), (Nat.le_of_ble_eq_true rfl)⟩ wr_7_238 wr_7_239 h ⟨by decide, by decide⟩ (rmW_n (k := 1) hr q (hCk _ (by decide +kernel)) (by decide +kernel)) (rmW_1 (k := 1) hr q (hCk _ (by decide +kernel)) (by decide +kernel)) (rmW_2 (k := 1) hr q (hCk _ (by decide +kernel)) (by decide +kernel)) (rmW_3 (k := 1) hr q (hCk _ (by decide +kernel))) (Nat.le_of_ble_eq_true rfl) (fun P F a n c dc ds h q2 => ?_)
    have q := wdQ_t q q2
    refine G_pop dr_cX17_list__212 rfl ?_
    exact G_vretA dr_cX17_list__213 rfl (Nat.le_of_succ_le (rmW_1 (k := 0) hr q (hCk _ (by decide +kernel)) (by decide))) (rmW_2 (k := 0) hr q (hCk _ (by decide +kernel)) (by decide)) ⟨_, _, _, _, _, rfl, rfl, h, q⟩
  have k147 : ∀ (P : List Nat) (F : Nat → va_E) (a n : Nat) (c : Int32) (cs sl : Nat), wdS D I P0 F0 γ el (γ 9 29) P F a n c → wdQ n0 c0 n c 35 cs sl → G (gV D I) l (gRm 7 170 mc ms) (gMA (gV D I) (wdP D I P0 F0 γ el (γ 9 29) n0 c0 52) gNA mc ms) ky_lrw 147 [(0, .ref m), (1, .ref x)] [] (va_pl P F) cs sl := fun P F a n c cs sl h q => by
    refine G_aload_n 1 dr_cX17_list__147 rfl ?_
    refine Gp_get 0 (Xx h).1 (Xx h).2 dr_cX17_list__148 (gk_X15 D I) (Nat.le_of_ble_eq_true rfl) wr_9_177 rfl ?_
    refine G_if_le 203 dr_cX17_list__151 (by decide +kernel) (fun _ => ?_) (fun hc1 => ?_)
    · exact k203 _ _ _ _ _ _ _ h (wdQ_w q (by decide +kernel))
    · have p1 : 0 < op.toInt := gj_nle hc1 (show Int32.toInt 0 = 0 by decide)
      refine G_aload_n 1 dr_cX17_list__154 rfl ?_
      refine Gp_get 0 (Xx h).1 (Xx h).2 dr_cX17_list__155 (gk_X15 D I) (Nat.le_of_ble_eq_true rfl) wr_9_177 rfl ?_
      refine G_bipush 20 dr_cX17_list__158 (by decide +kernel) ?_
      refine G_icmp_ge 203 dr_cX17_list__160 (by decide +kernel) (fun _ => k203 _ _ _ _ _ _ _ h (wdQ_w q (by decide +kernel))) (fun hc2 => ?_)
      have p2 : op.toInt < 20 := gj_nle hc2 rfl
      have p3 : op.toInt ≤ 14 := by omega
      refine G_aload_n 0 dr_cX17_list__163 rfl ?_
      refine Gp_get 29 (Mm h).1 (Mm h).2 dr_cX17_list__164 (gk_X17 D I) (Nat.le_of_ble_eq_true rfl) wr_7_103 rfl ?_
      refine G_bipush 32 dr_cX17_list__167 (by decide +kernel) ?_
      refine Gw_appC hl0 dr_cX17_list__169 ⟨wr_11_186, wr_1_20, wr_8_0, by decide, rfl, (Nat.le_of_ble_eq_true rfl), (Nat.le_of_ble_eq_true rfl)⟩ wr_7_238 wr_7_239 h ⟨by decide, by decide⟩ (rmW_n (k := 1) hr q (hCk _ (by decide +kernel)) (by decide +kernel)) (rmW_1 (k := 1) hr q (hCk _ (by decide +kernel)) (by decide +kernel)) (rmW_2 (k := 1) hr q (hCk _ (by decide +kernel)) (by decide +kernel)) (rmW_3 (k := 1) hr q (hCk _ (by decide +kernel))) (Nat.le_of_ble_eq_true rfl) (fun P F a n c dc ds h q2 => ?_)
      have q := wdQ_t q q2
      refine G_pop dr_cX17_list__172 rfl ?_
      refine G_aload_n 0 dr_cX17_list__173 rfl ?_
      refine G_aload_n 1 dr_cX17_list__174 rfl ?_
      refine Gp_get 0 (Xx h).1 (Xx h).2 dr_cX17_list__175 (gk_X15 D I) (Nat.le_of_ble_eq_true rfl) wr_9_177 rfl ?_
      refine Gw_callV (As := [.int op]) (gV_ok D I) (cp_sgn l hl0 D I (C := C) hm rfl he h (Int.le_of_lt p1) p3 (wdQ_c (k := 2) q (hCk _ (by decide +kernel))) (rmW_s (k := 2) hr q (hCk _ (by decide +kernel)) (by decide)).1) dr_cX17_list__178 ⟨wr_11_200, wr_1_14, wr_11_203, by decide, rfl, (Nat.le_of_ble_eq_true rfl), (Nat.le_of_ble_eq_true rfl)⟩ wr_11_202 wr_p_119 (Mm h).1 (Mm h).2 rfl (rmW_s (k := 2) hr q (hCk _ (by decide +kernel)) (by decide)).2.1 (rmW_s (k := 2) hr q (hCk _ (by decide +kernel)) (by decide)).2.2 (Nat.le_of_ble_eq_true rfl) (fun r w dc ds hp => ?_) (fun _ _ _ _ _ z => z.elim)
      obtain ⟨P, F, a, n, c, rfl, rfl, h, q2⟩ := hp
      have q := wdQ_t q q2
      change G _ _ _ _ _ _ _ [] _ _ _
      refine G_aload_n 0 dr_cX17_list__181 rfl ?_
      refine Gp_get 29 (Mm h).1 (Mm h).2 dr_cX17_list__182 (gk_X17 D I) (Nat.le_of_ble_eq_true rfl) wr_7_103 rfl ?_
      refine G_bipush 32 dr_cX17_list__185 (by decide +kernel) ?_
      refine Gw_appC hl0 dr_cX17_list__187 ⟨wr_11_186, wr_1_20, wr_8_0, by decide, rfl, (Nat.le_of_ble_eq_true rfl), (Nat.le_of_ble_eq_true rfl)⟩ wr_7_238 wr_7_239 h ⟨by decide, by decide⟩ (rmW_n (k := 1) hr q (hCk _ (by decide +kernel)) (by decide +kernel)) (rmW_1 (k := 1) hr q (hCk _ (by decide +kernel)) (by decide +kernel)) (rmW_2 (k := 1) hr q (hCk _ (by decide +kernel)) (by decide +kernel)) (rmW_3 (k := 1) hr q (hCk _ (by decide +kernel))) (Nat.le_of_ble_eq_true rfl) (fun P F a n c dc ds h q2 => ?_)
      have q := wdQ_t q q2
      refine G_pop dr_cX17_list__190 rfl ?_
      refine G_aload_n 0 dr_cX17_list__191 rfl ?_
      refine G_aload_n 1 dr_cX17_list__192 rfl ?_
      refine Gp_get 6 (Xx h).1 (Xx h).2 dr_cX17_list__193 (gk_X15 D I) (Nat.le_of_ble_eq_true rfl) wr_9_202 rfl ?_
      refine G_aload_n 1 dr_cX17_list__196 rfl ?_
      refine Gp_get 3 (Xx h).1 (Xx h).2 dr_cX17_list__197 (gk_X15 D I) (Nat.le_of_ble_eq_true rfl) wr_9_190 rfl ?_
      refine Gw_callV (As := [.int rb, .int xb]) (gV_ok D I) (cp_opd l hl0 D I (C := C) hm rfl he h  (wdQ_c (k := 12) q (hCk _ (by decide +kernel))) (rmW_s (k := 12) hr q (hCk _ (by decide +kernel)) (by decide)).1) dr_cX17_list__200 ⟨wr_11_196, wr_1_14, wr_11_199, by decide, rfl, (Nat.le_of_ble_eq_true rfl), (Nat.le_of_ble_eq_true rfl)⟩ wr_11_198 wr_p_118 (Mm h).1 (Mm h).2 rfl (rmW_s (k := 12) hr q (hCk _ (by decide +kernel)) (by decide)).2.1 (rmW_s (k := 12) hr q (hCk _ (by decide +kernel)) (by decide)).2.2 (Nat.le_of_ble_eq_true rfl) (fun r w dc ds hp => ?_) (fun _ _ _ _ _ z => z.elim)
      obtain ⟨P, F, a, n, c, rfl, rfl, h, q2⟩ := hp
      have q := wdQ_t q q2
      change G _ _ _ _ _ _ _ [] _ _ _
      exact k203 _ _ _ _ _ _ _ h (wdQ_w q (by decide +kernel))
  have k82 : ∀ (P : List Nat) (F : Nat → va_E) (a n : Nat) (c : Int32) (cs sl : Nat), wdS D I P0 F0 γ el (γ 9 29) P F a n c → wdQ n0 c0 n c 19 cs sl → G (gV D I) l (gRm 7 170 mc ms) (gMA (gV D I) (wdP D I P0 F0 γ el (γ 9 29) n0 c0 52) gNA mc ms) ky_lrw 82 [(0, .ref m), (1, .ref x)] [] (va_pl P F) cs sl := fun P F a n c cs sl h q => by
    refine G_aload_n 1 dr_cX17_list__82 rfl ?_
    refine Gp_get 0 (Xx h).1 (Xx h).2 dr_cX17_list__83 (gk_X15 D I) (Nat.le_of_ble_eq_true rfl) wr_9_177 rfl ?_
    refine G_bipush 20 dr_cX17_list__86 (by decide +kernel) ?_
    refine G_icmp_ne 105 dr_cX17_list__88 (by decide +kernel) (fun _ => ?_) (fun _ => ?_)
    · refine G_aload_n 1 dr_cX17_list__105 rfl ?_
      refine Gp_get 0 (Xx h).1 (Xx h).2 dr_cX17_list__106 (gk_X15 D I) (Nat.le_of_ble_eq_true rfl) wr_9_177 rfl ?_
      refine G_bipush 21 dr_cX17_list__109 (by decide +kernel) ?_
      refine G_icmp_ne 135 dr_cX17_list__111 (by decide +kernel) (fun _ => ?_) (fun _ => ?_)
      · refine G_aload_n 0 dr_cX17_list__135 rfl ?_
        refine G_aload_n 1 dr_cX17_list__136 rfl ?_
        refine Gp_get 5 (Xx h).1 (Xx h).2 dr_cX17_list__137 (gk_X15 D I) (Nat.le_of_ble_eq_true rfl) wr_9_197 rfl ?_
        refine G_aload_n 1 dr_cX17_list__140 rfl ?_
        refine Gp_get 2 (Xx h).1 (Xx h).2 dr_cX17_list__141 (gk_X15 D I) (Nat.le_of_ble_eq_true rfl) wr_9_186 rfl ?_
        refine Gw_callV (As := [.int ra, .int xa]) (gV_ok D I) (cp_opd l hl0 D I (C := C) hm rfl he h  (wdQ_c (k := 12) q (hCk _ (by decide +kernel))) (rmW_s (k := 12) hr q (hCk _ (by decide +kernel)) (by decide)).1) dr_cX17_list__144 ⟨wr_11_196, wr_1_14, wr_11_199, by decide, rfl, (Nat.le_of_ble_eq_true rfl), (Nat.le_of_ble_eq_true rfl)⟩ wr_11_198 wr_p_118 (Mm h).1 (Mm h).2 rfl (rmW_s (k := 12) hr q (hCk _ (by decide +kernel)) (by decide)).2.1 (rmW_s (k := 12) hr q (hCk _ (by decide +kernel)) (by decide)).2.2 (Nat.le_of_ble_eq_true rfl) (fun r w dc ds hp => ?_) (fun _ _ _ _ _ z => z.elim)
        obtain ⟨P, F, a, n, c, rfl, rfl, h, q2⟩ := hp
        have q := wdQ_t q q2
        change G _ _ _ _ _ _ _ [] _ _ _
        exact k147 _ _ _ _ _ _ _ h (wdQ_w q (by decide +kernel))
      · refine G_aload_n 0 dr_cX17_list__114 rfl ?_
        refine Gp_get 29 (Mm h).1 (Mm h).2 dr_cX17_list__115 (gk_X17 D I) (Nat.le_of_ble_eq_true rfl) wr_7_103 rfl ?_
        refine G_ldwK (a := D.2 1000 55) dr_cX17_list__118 (fun _ _ _ h => gx_vk 55 rfl rfl h) ?_
        refine Gw_appS (bs := sb_55) (qs := D.2 1000 55) (qb := D.2 1001 55) hl0 dr_cX17_list__121 ⟨wr_10_100, wr_1_20, wr_8_143, by decide, rfl, (Nat.le_of_ble_eq_true rfl), (Nat.le_of_ble_eq_true rfl)⟩ wr_8_141 wr_8_142 h (gx_sc 55 rfl rfl) (by decide +kernel) (by decide +kernel) (rmW_n (k := (sb_55.length : Int)) hr q (hCk _ (by decide +kernel)) (by decide +kernel)) (rmW_1 (k := (sb_55.length : Int)) hr q (hCk _ (by decide +kernel)) (by decide +kernel)) (rmW_2 (k := (sb_55.length : Int)) hr q (hCk _ (by decide +kernel)) (by decide +kernel)) (rmW_3 (k := (sb_55.length : Int)) hr q (hCk _ (by decide +kernel))) (Nat.le_of_ble_eq_true rfl) (fun P F a n c dc ds h q2 => ?_)
        have q := wdQ_t q q2
        refine G_aload_n 1 dr_cX17_list__124 rfl ?_
        refine Gp_get 4 (Xx h).1 (Xx h).2 dr_cX17_list__125 (gk_X15 D I) (Nat.le_of_ble_eq_true rfl) wr_9_193 rfl ?_
        refine Gw_appI hl0 dr_cX17_list__128 ⟨wr_11_187, wr_1_20, wr_8_108, by decide, rfl, (Nat.le_of_ble_eq_true rfl), (Nat.le_of_ble_eq_true rfl)⟩ wr_8_106 wr_8_107 h (rmW_n (k := 11) hr q (hCk _ (by decide +kernel)) (by decide +kernel)) (rmW_1 (k := 11) hr q (hCk _ (by decide +kernel)) (by decide +kernel)) (rmW_2 (k := 11) hr q (hCk _ (by decide +kernel)) (by decide +kernel)) (rmW_3 (k := 11) hr q (hCk _ (by decide +kernel))) (Nat.le_of_ble_eq_true rfl) (fun P F a n c dc ds h q2 => ?_)
        have q := wdQ_t q q2
        refine G_pop dr_cX17_list__131 rfl ?_
        refine G_goto 147 dr_cX17_list__132 (by decide +kernel) ?_
        exact k147 _ _ _ _ _ _ _ h (wdQ_w q (by decide +kernel))
    · refine G_aload_n 0 dr_cX17_list__91 rfl ?_
      refine Gp_get 29 (Mm h).1 (Mm h).2 dr_cX17_list__92 (gk_X17 D I) (Nat.le_of_ble_eq_true rfl) wr_7_103 rfl ?_
      refine G_ldwK (a := D.2 1000 57) dr_cX17_list__95 (fun _ _ _ h => gx_vk 57 rfl rfl h) ?_
      refine Gw_appS (bs := sb_57) (qs := D.2 1000 57) (qb := D.2 1001 57) hl0 dr_cX17_list__98 ⟨wr_10_100, wr_1_20, wr_8_143, by decide, rfl, (Nat.le_of_ble_eq_true rfl), (Nat.le_of_ble_eq_true rfl)⟩ wr_8_141 wr_8_142 h (gx_sc 57 rfl rfl) (by decide +kernel) (by decide +kernel) (rmW_n (k := (sb_57.length : Int)) hr q (hCk _ (by decide +kernel)) (by decide +kernel)) (rmW_1 (k := (sb_57.length : Int)) hr q (hCk _ (by decide +kernel)) (by decide +kernel)) (rmW_2 (k := (sb_57.length : Int)) hr q (hCk _ (by decide +kernel)) (by decide +kernel)) (rmW_3 (k := (sb_57.length : Int)) hr q (hCk _ (by decide +kernel))) (Nat.le_of_ble_eq_true rfl) (fun P F a n c dc ds h q2 => ?_)
      have q := wdQ_t q q2
      refine G_pop dr_cX17_list__101 rfl ?_
      refine G_goto 147 dr_cX17_list__102 (by decide +kernel) ?_
      exact k147 _ _ _ _ _ _ _ h (wdQ_w q (by decide +kernel))
  refine G_aload_n 1 dr_cX17_list__0 rfl ?_
  refine Gp_get 0 (Xx h).1 (Xx h).2 dr_cX17_list__1 (gk_X15 D I) (Nat.le_of_ble_eq_true rfl) wr_9_177 rfl ?_
  refine G_bipush 22 dr_cX17_list__4 (by decide +kernel) ?_
  refine G_icmp_ne 23 dr_cX17_list__6 (by decide +kernel) (fun _ => ?_) (fun _ => ?_)
  · refine G_aload_n 1 dr_cX17_list__23 rfl ?_
    refine Gp_get 0 (Xx h).1 (Xx h).2 dr_cX17_list__24 (gk_X15 D I) (Nat.le_of_ble_eq_true rfl) wr_9_177 rfl ?_
    refine G_bipush 23 dr_cX17_list__27 (by decide +kernel) ?_
    refine G_icmp_ne 59 dr_cX17_list__29 (by decide +kernel) (fun _ => ?_) (fun _ => ?_)
    · refine G_aload_n 0 dr_cX17_list__59 rfl ?_
      refine Gp_get 29 (Mm h).1 (Mm h).2 dr_cX17_list__60 (gk_X17 D I) (Nat.le_of_ble_eq_true rfl) wr_7_103 rfl ?_
      refine G_bipush 118 dr_cX17_list__63 (by decide +kernel) ?_
      refine Gw_appC hl0 dr_cX17_list__65 ⟨wr_11_186, wr_1_20, wr_8_0, by decide, rfl, (Nat.le_of_ble_eq_true rfl), (Nat.le_of_ble_eq_true rfl)⟩ wr_7_238 wr_7_239 h ⟨by decide, by decide⟩ (rmW_n (k := 1) hr q (hCk _ (by decide +kernel)) (by decide +kernel)) (rmW_1 (k := 1) hr q (hCk _ (by decide +kernel)) (by decide +kernel)) (rmW_2 (k := 1) hr q (hCk _ (by decide +kernel)) (by decide +kernel)) (rmW_3 (k := 1) hr q (hCk _ (by decide +kernel))) (Nat.le_of_ble_eq_true rfl) (fun P F a n c dc ds h q2 => ?_)
      have q := wdQ_t q q2
      refine G_aload_n 1 dr_cX17_list__68 rfl ?_
      refine Gp_get 1 (Xx h).1 (Xx h).2 dr_cX17_list__69 (gk_X15 D I) (Nat.le_of_ble_eq_true rfl) wr_9_182 rfl ?_
      refine Gw_appI hl0 dr_cX17_list__72 ⟨wr_11_187, wr_1_20, wr_8_108, by decide, rfl, (Nat.le_of_ble_eq_true rfl), (Nat.le_of_ble_eq_true rfl)⟩ wr_8_106 wr_8_107 h (rmW_n (k := 11) hr q (hCk _ (by decide +kernel)) (by decide +kernel)) (rmW_1 (k := 11) hr q (hCk _ (by decide +kernel)) (by decide +kernel)) (rmW_2 (k := 11) hr q (hCk _ (by decide +kernel)) (by decide +kernel)) (rmW_3 (k := 11) hr q (hCk _ (by decide +kernel))) (Nat.le_of_ble_eq_true rfl) (fun P F a n c dc ds h q2 => ?_)
      have q := wdQ_t q q2
      refine G_ldwK (a := D.2 1000 56) dr_cX17_list__75 (fun _ _ _ h => gx_vk 56 rfl rfl h) ?_
      refine Gw_appS (bs := sb_56) (qs := D.2 1000 56) (qb := D.2 1001 56) hl0 dr_cX17_list__78 ⟨wr_10_100, wr_1_20, wr_8_143, by decide, rfl, (Nat.le_of_ble_eq_true rfl), (Nat.le_of_ble_eq_true rfl)⟩ wr_8_141 wr_8_142 h (gx_sc 56 rfl rfl) (by decide +kernel) (by decide +kernel) (rmW_n (k := (sb_56.length : Int)) hr q (hCk _ (by decide +kernel)) (by decide +kernel)) (rmW_1 (k := (sb_56.length : Int)) hr q (hCk _ (by decide +kernel)) (by decide +kernel)) (rmW_2 (k := (sb_56.length : Int)) hr q (hCk _ (by decide +kernel)) (by decide +kernel)) (rmW_3 (k := (sb_56.length : Int)) hr q (hCk _ (by decide +kernel))) (Nat.le_of_ble_eq_true rfl) (fun P F a n c dc ds h q2 => ?_)
      have q := wdQ_t q q2
      refine G_pop dr_cX17_list__81 rfl ?_
      exact k82 _ _ _ _ _ _ _ h (wdQ_w q (by decide +kernel))
    · refine G_aload_n 0 dr_cX17_list__32 rfl ?_
      refine Gp_get 29 (Mm h).1 (Mm h).2 dr_cX17_list__33 (gk_X17 D I) (Nat.le_of_ble_eq_true rfl) wr_7_103 rfl ?_
      refine G_ldwK (a := D.2 1000 55) dr_cX17_list__36 (fun _ _ _ h => gx_vk 55 rfl rfl h) ?_
      refine Gw_appS (bs := sb_55) (qs := D.2 1000 55) (qb := D.2 1001 55) hl0 dr_cX17_list__39 ⟨wr_10_100, wr_1_20, wr_8_143, by decide, rfl, (Nat.le_of_ble_eq_true rfl), (Nat.le_of_ble_eq_true rfl)⟩ wr_8_141 wr_8_142 h (gx_sc 55 rfl rfl) (by decide +kernel) (by decide +kernel) (rmW_n (k := (sb_55.length : Int)) hr q (hCk _ (by decide +kernel)) (by decide +kernel)) (rmW_1 (k := (sb_55.length : Int)) hr q (hCk _ (by decide +kernel)) (by decide +kernel)) (rmW_2 (k := (sb_55.length : Int)) hr q (hCk _ (by decide +kernel)) (by decide +kernel)) (rmW_3 (k := (sb_55.length : Int)) hr q (hCk _ (by decide +kernel))) (Nat.le_of_ble_eq_true rfl) (fun P F a n c dc ds h q2 => ?_)
      have q := wdQ_t q q2
      refine G_aload_n 1 dr_cX17_list__42 rfl ?_
      refine Gp_get 4 (Xx h).1 (Xx h).2 dr_cX17_list__43 (gk_X15 D I) (Nat.le_of_ble_eq_true rfl) wr_9_193 rfl ?_
      refine Gw_appI hl0 dr_cX17_list__46 ⟨wr_11_187, wr_1_20, wr_8_108, by decide, rfl, (Nat.le_of_ble_eq_true rfl), (Nat.le_of_ble_eq_true rfl)⟩ wr_8_106 wr_8_107 h (rmW_n (k := 11) hr q (hCk _ (by decide +kernel)) (by decide +kernel)) (rmW_1 (k := 11) hr q (hCk _ (by decide +kernel)) (by decide +kernel)) (rmW_2 (k := 11) hr q (hCk _ (by decide +kernel)) (by decide +kernel)) (rmW_3 (k := 11) hr q (hCk _ (by decide +kernel))) (Nat.le_of_ble_eq_true rfl) (fun P F a n c dc ds h q2 => ?_)
      have q := wdQ_t q q2
      refine G_ldwK (a := D.2 1000 56) dr_cX17_list__49 (fun _ _ _ h => gx_vk 56 rfl rfl h) ?_
      refine Gw_appS (bs := sb_56) (qs := D.2 1000 56) (qb := D.2 1001 56) hl0 dr_cX17_list__52 ⟨wr_10_100, wr_1_20, wr_8_143, by decide, rfl, (Nat.le_of_ble_eq_true rfl), (Nat.le_of_ble_eq_true rfl)⟩ wr_8_141 wr_8_142 h (gx_sc 56 rfl rfl) (by decide +kernel) (by decide +kernel) (rmW_n (k := (sb_56.length : Int)) hr q (hCk _ (by decide +kernel)) (by decide +kernel)) (rmW_1 (k := (sb_56.length : Int)) hr q (hCk _ (by decide +kernel)) (by decide +kernel)) (rmW_2 (k := (sb_56.length : Int)) hr q (hCk _ (by decide +kernel)) (by decide +kernel)) (rmW_3 (k := (sb_56.length : Int)) hr q (hCk _ (by decide +kernel))) (Nat.le_of_ble_eq_true rfl) (fun P F a n c dc ds h q2 => ?_)
      have q := wdQ_t q q2
      refine G_pop dr_cX17_list__55 rfl ?_
      refine G_goto 82 dr_cX17_list__56 (by decide +kernel) ?_
      exact k82 _ _ _ _ _ _ _ h (wdQ_w q (by decide +kernel))
  · refine G_aload_n 0 dr_cX17_list__9 rfl ?_
    refine Gp_get 29 (Mm h).1 (Mm h).2 dr_cX17_list__10 (gk_X17 D I) (Nat.le_of_ble_eq_true rfl) wr_7_103 rfl ?_
    refine G_ldwK (a := D.2 1000 54) dr_cX17_list__13 (fun _ _ _ h => gx_vk 54 rfl rfl h) ?_
    refine Gw_appS (bs := sb_54) (qs := D.2 1000 54) (qb := D.2 1001 54) hl0 dr_cX17_list__16 ⟨wr_10_100, wr_1_20, wr_8_143, by decide, rfl, (Nat.le_of_ble_eq_true rfl), (Nat.le_of_ble_eq_true rfl)⟩ wr_8_141 wr_8_142 h (gx_sc 54 rfl rfl) (by decide +kernel) (by decide +kernel) (rmW_n (k := (sb_54.length : Int)) hr q (hCk _ (by decide +kernel)) (by decide +kernel)) (rmW_1 (k := (sb_54.length : Int)) hr q (hCk _ (by decide +kernel)) (by decide +kernel)) (rmW_2 (k := (sb_54.length : Int)) hr q (hCk _ (by decide +kernel)) (by decide +kernel)) (rmW_3 (k := (sb_54.length : Int)) hr q (hCk _ (by decide +kernel))) (Nat.le_of_ble_eq_true rfl) (fun P F a n c dc ds h q2 => ?_)
    have q := wdQ_t q q2
    refine G_pop dr_cX17_list__19 rfl ?_
    refine G_goto 82 dr_cX17_list__20 (by decide +kernel) ?_
    exact k82 _ _ _ _ _ _ _ h (wdQ_w q (by decide +kernel))
