theorem dr_cX17_input_30 : decode cX17_input 30 = .ok (.iload_n 2, 1) := by decide +kernel
theorem dr_cX17_input_31 : decode cX17_input 31 = .ok (.iconst 4, 1) := by decide +kernel
theorem dr_cX17_input_32 : decode cX17_input 32 = .ok (.if_icmp .ge 39, 3) := by decide +kernel
theorem dr_cX17_input_35 : decode cX17_input 35 = .ok (.aload_n 0, 1) := by decide +kernel
theorem dr_cX17_input_36 : decode cX17_input 36 = .ok (.getfield 303, 3) := by decide +kernel
theorem dr_cX17_input_39 : decode cX17_input 39 = .ok (.iload_n 1, 1) := by decide +kernel
theorem dr_cX17_input_40 : decode cX17_input 40 = .ok (.aload_n 0, 1) := by decide +kernel
theorem dr_cX17_input_41 : decode cX17_input 41 = .ok (.getfield 303, 3) := by decide +kernel
theorem dr_cX17_input_44 : decode cX17_input 44 = .ok (.iload_n 1, 1) := by decide +kernel
theorem dr_cX17_input_45 : decode cX17_input 45 = .ok (.iaload, 1) := by decide +kernel
theorem dr_cX17_input_46 : decode cX17_input 46 = .ok (.bipush 8, 2) := by decide +kernel
theorem dr_cX17_input_48 : decode cX17_input 48 = .ok (.ishl, 1) := by decide +kernel
theorem dr_cX17_input_49 : decode cX17_input 49 = .ok (.aload_n 0, 1) := by decide +kernel
theorem dr_cX17_input_50 : decode cX17_input 50 = .ok (.getfield 374, 3) := by decide +kernel
theorem dr_cX17_input_53 : decode cX17_input 53 = .ok (.iconst 4, 1) := by decide +kernel
theorem dr_cX17_input_54 : decode cX17_input 54 = .ok (.iload_n 1, 1) := by decide +kernel
theorem dr_cX17_input_55 : decode cX17_input 55 = .ok (.imul, 1) := by decide +kernel
theorem dr_cX17_input_56 : decode cX17_input 56 = .ok (.iload_n 2, 1) := by decide +kernel
theorem dr_cX17_input_57 : decode cX17_input 57 = .ok (.iadd, 1) := by decide +kernel
theorem dr_cX17_input_58 : decode cX17_input 58 = .ok (.baload, 1) := by decide +kernel
theorem dr_cX17_input_59 : decode cX17_input 59 = .ok (.sipush 255, 3) := by decide +kernel
theorem dr_cX17_input_62 : decode cX17_input 62 = .ok (.iand, 1) := by decide +kernel
theorem dr_cX17_input_63 : decode cX17_input 63 = .ok (.ior, 1) := by decide +kernel
theorem dr_cX17_input_64 : decode cX17_input 64 = .ok (.iastore, 1) := by decide +kernel
theorem dr_cX17_input_65 : decode cX17_input 65 = .ok (.iinc 2 1, 3) := by decide +kernel
theorem dr_cX17_input_68 : decode cX17_input 68 = .ok (.goto (-38), 3) := by decide +kernel
theorem dr_cX17_input_19 : decode cX17_input 19 = .ok (.iload_n 1, 1) := by decide +kernel
theorem dr_cX17_input_20 : decode cX17_input 20 = .ok (.aload_n 0, 1) := by decide +kernel
theorem dr_cX17_input_21 : decode cX17_input 21 = .ok (.getfield 303, 3) := by decide +kernel
theorem dr_cX17_input_24 : decode cX17_input 24 = .ok (.arraylength, 1) := by decide +kernel
theorem dr_cX17_input_25 : decode cX17_input 25 = .ok (.if_icmp .ge 52, 3) := by decide +kernel
theorem dr_cX17_input_28 : decode cX17_input 28 = .ok (.iconst 0, 1) := by decide +kernel
theorem dr_cX17_input_29 : decode cX17_input 29 = .ok (.istore_n 2, 1) := by decide +kernel
theorem dr_cX17_input_71 : decode cX17_input 71 = .ok (.iinc 1 1, 3) := by decide +kernel
theorem dr_cX17_input_74 : decode cX17_input 74 = .ok (.goto (-55), 3) := by decide +kernel
theorem dr_cX17_input_0 : decode cX17_input 0 = .ok (.aload_n 0, 1) := by decide +kernel
theorem dr_cX17_input_1 : decode cX17_input 1 = .ok (.iconst 0, 1) := by decide +kernel
theorem dr_cX17_input_2 : decode cX17_input 2 = .ok (.putfield 380, 3) := by decide +kernel
theorem dr_cX17_input_5 : decode cX17_input 5 = .ok (.aload_n 0, 1) := by decide +kernel
theorem dr_cX17_input_6 : decode cX17_input 6 = .ok (.aload_n 0, 1) := by decide +kernel
theorem dr_cX17_input_7 : decode cX17_input 7 = .ok (.getfield 383, 3) := by decide +kernel
theorem dr_cX17_input_10 : decode cX17_input 10 = .ok (.iconst 4, 1) := by decide +kernel
theorem dr_cX17_input_11 : decode cX17_input 11 = .ok (.idiv, 1) := by decide +kernel
theorem dr_cX17_input_12 : decode cX17_input 12 = .ok (.newarray .int, 2) := by decide +kernel
theorem dr_cX17_input_14 : decode cX17_input 14 = .ok (.putfield 303, 3) := by decide +kernel
theorem dr_cX17_input_17 : decode cX17_input 17 = .ok (.iconst 0, 1) := by decide +kernel
theorem dr_cX17_input_18 : decode cX17_input 18 = .ok (.istore_n 1, 1) := by decide +kernel
theorem dr_cX17_input_77 : decode cX17_input 77 = .ok (.aload_n 0, 1) := by decide +kernel
theorem dr_cX17_input_78 : decode cX17_input 78 = .ok (.iconst 0, 1) := by decide +kernel
theorem dr_cX17_input_79 : decode cX17_input 79 = .ok (.putfield 383, 3) := by decide +kernel
theorem dr_cX17_input_82 : decode cX17_input 82 = .ok (.aload_n 0, 1) := by decide +kernel
theorem dr_cX17_input_83 : decode cX17_input 83 = .ok (.getfield 303, 3) := by decide +kernel
theorem dr_cX17_input_86 : decode cX17_input 86 = .ok (.arraylength, 1) := by decide +kernel
theorem dr_cX17_input_87 : decode cX17_input 87 = .ok (.ireturn, 1) := by decide +kernel
abbrev ky_inp : gKey := (cX17_input, 3, "SpillForgeModel", (some FieldType.int), [], "input", fun _ _ => True)
def inS (D : va_G) (I : FieldType → ClassId) (P0 : List Nat) (F0 : Nat → va_E) (γ0 el : Nat → Nat → Nat) (P : List Nat) (γ : Nat → Nat → Nat) (m A N : Nat) (e : va_E) (F : Nat → va_E) : Prop := rSk 0 [] [10, 26] D I P0 F0 γ0 el P F γ el ∧ F m = e ∧ A ∈ P ∧ γ 0 A = 26 ∧ ∃ f : Nat → Int32, F A = .inl (I .int, N, .inl f)
theorem inS_a {D : va_G} {I : FieldType → ClassId} {P0 P : List Nat} {F0 F F1 : Nat → va_E} {γ0 γ el : Nat → Nat → Nat} {m A N : Nat} {e : va_E} {f1 : Nat → Int32} (h : inS D I P0 F0 γ0 el P γ m A N e F) (hm : γ 0 m = 10) (hN : N ≤ 2048) (e1 : F1 A = .inl (I .int, N, .inl f1)) (n : ∀ b, b ≠ A → F1 b = F b) : inS D I P0 F0 γ0 el P γ m A N e F1 := by
  obtain ⟨h1, h2, h3, h4, -⟩ := h
  have hmA : m ≠ A := fun q => by rw [q, h4] at hm; cases hm
  exact ⟨rSk_put h1 (RS_set h1.1 n (show rKd γ A 26 from h4) (by decide) ⟨N, f1, e1, by omega⟩) n (show rKd γ A 26 from h4) (by decide) (fun _ z => nomatch z), (n m hmA).trans h2, h3, h4, f1, e1⟩
set_option maxRecDepth 100000 in
set_option maxHeartbeats 4000000 in
theorem in_l2 {l : Launch} {D : va_G} {I : FieldType → ClassId} {P0 P : List Nat} {F0 : Nat → va_E} {γ0 γ el : Nat → Nat → Nat} {m A N cs sl mc ms : Nat} {Qf : gFin} {r35 : Nat} {v9 v10 v11 v12 v13 v14 v23 v24 v25 v26 v27 v30 v32 v33 v34 i : Int32} (hm : γ 0 m = 10) (t25 : γ 0 (γ 9 31) = 25) (hN : N ≤ 2048) (hi0 : 0 ≤ i.toInt) (hiN : i.toInt < (N : Int))
    (kk : ∀ (F : Nat → va_E) (jj : Int32), inS D I P0 F0 γ0 el P γ m A N (mdE γ A r35 v9 v10 v11 v12 v13 v14 v23 v24 v25 v26 v27 v30 v32 v33 v34) F → G (gV D I) l (gRm 1 20 mc ms) Qf ky_inp 71 [(2, .int jj), (1, .int i), (0, .ref m)] [] (va_pl P F) cs sl) :
    ∀ (μ : Nat) (F : Nat → va_E) (jj : Int32), 4 - jj.toInt < (μ : Int) → 0 ≤ jj.toInt → jj.toInt ≤ 4 → inS D I P0 F0 γ0 el P γ m A N (mdE γ A r35 v9 v10 v11 v12 v13 v14 v23 v24 v25 v26 v27 v30 v32 v33 v34) F →
    G (gV D I) l (gRm 1 20 mc ms) Qf ky_inp 30 [(2, .int jj), (1, .int i), (0, .ref m)] [] (va_pl P F) cs sl := by
  intro μ
  induction μ with
  | zero => intro F jj h h0 h4 _; exact absurd h (by omega)
  | succ μ ih =>
  intro F jj hμ h0 h4 hS
  obtain ⟨hk, he, mA, kA, fA, eA⟩ := id hS
  have mm : m ∈ P := hk.1.1 m (by omega)
  obtain ⟨ft, f1, f2⟩ := show rk_25 I (F (γ 9 31)) from RS_o hk.1 t25
  have mt : γ 9 31 ∈ P := hk.1.1 _ (by omega)
  refine G_iload_n 0 dr_cX17_input_30 rfl ?_
  refine G_iconst 4 dr_cX17_input_31 (by decide +kernel) ?_
  have z4 : Int32.toInt 4 = 4 := by decide
  refine G_icmp_ge 71 dr_cX17_input_32 (by decide +kernel) (fun _ => kk F jj hS) (fun hc => ?_)
  have hlt : jj.toInt < 4 := gj_nle hc rfl
  refine G_aload_n 2 dr_cX17_input_35 rfl ?_
  refine Gp_get 28 mm he dr_cX17_input_36 (gk_X17 D I) (Nat.le_of_ble_eq_true rfl) wr_7_102 rfl ?_
  refine G_iload_n 1 dr_cX17_input_39 rfl ?_
  refine G_aload_n 2 dr_cX17_input_40 rfl ?_
  refine Gp_get 28 mm he dr_cX17_input_41 (gk_X17 D I) (Nat.le_of_ble_eq_true rfl) wr_7_102 rfl ?_
  refine G_iload_n 1 dr_cX17_input_44 rfl ?_
  refine Gp_iald 0 mA eA dr_cX17_input_45 rfl (gB_inr hi0 hiN) (G_nam fun z1 _ => ?_)
  refine G_bipush 8 dr_cX17_input_46 (by decide +kernel) ?_
  refine G_ishl dr_cX17_input_48 (G_nam fun z2 _ => ?_)
  refine G_aload_n 2 dr_cX17_input_49 rfl ?_
  refine Gp_get 31 mm he dr_cX17_input_50 (gk_X17 D I) (Nat.le_of_ble_eq_true rfl) wr_7_105 rfl ?_
  refine G_iconst 4 dr_cX17_input_53 (by decide +kernel) ?_
  refine G_iload_n 1 dr_cX17_input_54 rfl ?_
  refine G_imul dr_cX17_input_55 (G_nam fun z3 hz3 => ?_)
  have bi : gB i 0 2048 := ⟨hi0, by omega⟩
  have e3 : z3.toInt = 4 * i.toInt := by rw [gI_mul hz3 (gBl z4) bi (by decide) (by decide) (by decide), z4]
  refine G_iload_n 0 dr_cX17_input_56 rfl ?_
  refine G_iadd dr_cX17_input_57 (G_nam fun z5 hz5 => ?_)
  have e5 : z5.toInt = z3.toInt + jj.toInt := gI_add hz5 (⟨by omega, by omega⟩ : gB z3 0 8192) (⟨h0, h4⟩ : gB jj 0 4) (by decide) (by decide)
  refine Gp_bald 1 mt f1 dr_cX17_input_58 rfl (gB_inr (by omega) (by omega)) (G_nam fun z6 _ => ?_)
  refine G_sipush 255 dr_cX17_input_59 (by decide +kernel) ?_
  refine G_iand dr_cX17_input_62 (G_nam fun z7 _ => ?_)
  refine G_ior dr_cX17_input_63 (G_nam fun z8 _ => ?_)
  refine Gp_iast 0 mA eA dr_cX17_input_64 rfl (gB_inr hi0 hiN) (fun F1 e1 n1 => ?_)
  have hS1 := inS_a hS hm hN e1 n1
  obtain ⟨j1, hj1⟩ : ∃ z, z = jj + 1 := ⟨_, rfl⟩
  have ej : j1.toInt = jj.toInt + 1 := by rw [gI_add hj1 (⟨h0, h4⟩ : gB jj 0 4) (gBl (show Int32.toInt 1 = 1 by decide)) (by decide) (by decide), show Int32.toInt 1 = 1 from by decide]
  refine G_iinc (L' := [(2, .int j1), (1, .int i), (0, .ref m)]) j1 0 dr_cX17_input_65 rfl (by rw [hj1]; rfl) (Nat.le_of_ble_eq_true rfl) rfl ?_
  refine G_goto 30 dr_cX17_input_68 (by decide +kernel) ?_
  exact ih F1 j1 (by omega) (by omega) (by omega) hS1
set_option maxRecDepth 100000 in
set_option maxHeartbeats 4000000 in
theorem in_l1 {l : Launch} {D : va_G} {I : FieldType → ClassId} {P0 P : List Nat} {F0 : Nat → va_E} {γ0 γ el : Nat → Nat → Nat} {m A N cs sl mc ms : Nat} {Qf : gFin} {r35 : Nat} {v9 v10 v11 v12 v13 v14 v23 v24 v25 v26 v27 v30 v32 v33 v34 : Int32} (hm : γ 0 m = 10) (t25 : γ 0 (γ 9 31) = 25) (hN : N ≤ 2048)
    (kk : ∀ (F : Nat → va_E) (i : Int32), inS D I P0 F0 γ0 el P γ m A N (mdE γ A r35 v9 v10 v11 v12 v13 v14 v23 v24 v25 v26 v27 v30 v32 v33 v34) F → G (gV D I) l (gRm 1 20 mc ms) Qf ky_inp 77 [(1, .int i), (0, .ref m)] [] (va_pl P F) cs sl) :
    ∀ (μ : Nat) (F : Nat → va_E) (i : Int32), (N : Int) - i.toInt < (μ : Int) → 0 ≤ i.toInt → i.toInt ≤ (N : Int) → inS D I P0 F0 γ0 el P γ m A N (mdE γ A r35 v9 v10 v11 v12 v13 v14 v23 v24 v25 v26 v27 v30 v32 v33 v34) F →
    G (gV D I) l (gRm 1 20 mc ms) Qf ky_inp 19 [(1, .int i), (0, .ref m)] [] (va_pl P F) cs sl := by
  intro μ
  induction μ with
  | zero => intro F i h h0 h4 _; exact absurd h (by omega)
  | succ μ ih =>
  intro F i hμ h0 h4 hS
  obtain ⟨hk, he, mA, kA, fA, eA⟩ := id hS
  have mm : m ∈ P := hk.1.1 m (by omega)
  refine G_iload_n 0 dr_cX17_input_19 rfl ?_
  refine G_aload_n 1 dr_cX17_input_20 rfl ?_
  refine Gp_get 28 mm he dr_cX17_input_21 (gk_X17 D I) (Nat.le_of_ble_eq_true rfl) wr_7_102 rfl ?_
  refine Gp_alen (Int32.ofNat N) 0 mA eA dr_cX17_input_24 rfl rfl (G_nam fun z hz => ?_)
  have ez : z.toInt = (N : Nat) := gI_ofM hz (by omega)
  refine G_icmp_ge 77 dr_cX17_input_25 (by decide +kernel) (fun _ => kk F i hS) (fun hc => ?_)
  have hlt : i.toInt < z.toInt := gj_nle hc rfl
  refine G_iconst 0 dr_cX17_input_28 (by decide +kernel) ?_
  refine G_istore_n (L' := [(2, .int 0), (1, .int i), (0, .ref m)]) dr_cX17_input_29 (Nat.le_of_ble_eq_true rfl) rfl ?_
  have z0 : Int32.toInt 0 = 0 := by decide
  refine in_l2 hm t25 hN h0 (by omega) (fun F1 jj hS1 => ?_) 5 F 0 (by rw [z0]; decide) (by rw [z0]; decide) (by rw [z0]; decide) hS
  obtain ⟨i1, hi1⟩ : ∃ z, z = i + 1 := ⟨_, rfl⟩
  have ei : i1.toInt = i.toInt + 1 := by rw [gI_add hi1 (⟨h0, by omega⟩ : gB i 0 2048) (gBl (show Int32.toInt 1 = 1 by decide)) (by decide) (by decide), show Int32.toInt 1 = 1 from by decide]
  refine G_iinc (L' := [(1, .int i1), (2, .int jj), (0, .ref m)]) i1 1 dr_cX17_input_71 rfl (by rw [hi1]; rfl) (Nat.le_of_ble_eq_true rfl) rfl ?_
  refine G_goto 19 dr_cX17_input_74 (by decide +kernel) ?_
  refine G_lv [0, 2] rfl ?_
  exact ih F1 i1 (by omega) (by omega) (by omega) hS1
set_option maxRecDepth 100000 in
set_option maxHeartbeats 4000000 in
theorem cp_input (l : Launch) (hl0 : l.stackTraces = false) (D : va_G) (I : FieldType → ClassId) {P : List Nat} {F : Nat → va_E} {γ el : Nat → Nat → Nat} {m : Nat} (hT : RS D I P F γ el) (hm : γ 0 m = 10) :
    CtA (gV D I) l yX17_input cX17_input 3 (some FieldType.int) 1 20 1 2048 [.ref m] (va_pl P F) (inP D I P F γ el m) gNA := by
  refine CtA_of hl0 (by decide) (Nat.le_of_ble_eq_true rfl) ?_
  obtain ⟨r28, r35, v9, v10, v11, v12, v13, v14, v23, v24, v25, v26, v27, v30, v32, v33, v34, he, hM1, hK, hM2⟩ := rk10_m (show rk_10 γ (F m) from RS_o hT hm)
  have hM1' := hM1
  obtain ⟨q9, q10, q11, q14, q25, q26, q27, q32, q34⟩ := hM1
  have mm : m ∈ P := hT.1 m (by omega)
  have e32 : fI (F m) 32 = v32 := by rw [he]; rfl
  have e10 : fI (F m) 10 = v10 := by rw [he]; rfl
  have e9 : fI (F m) 9 = v9 := by rw [he]; rfl
  have t25 : γ 0 (γ 9 31) = 25 := hK.2.2.2.2.2.2.2.2.2.2.2.2.2.2.2.2.2.2.2.2.1
  refine G_aload_n 0 dr_cX17_input_0 rfl ?_
  refine G_iconst 0 dr_cX17_input_1 (by decide +kernel) ?_
  refine Gp_put 30 mm he dr_cX17_input_2 (gk_X17 D I) (Nat.le_of_ble_eq_true rfl) wr_7_104 rfl rfl rfl (Nat.le_of_ble_eq_true rfl) (fun F1 e1 n1 => ?_)
  have e1' : F1 m = mdE γ r28 r35 v9 v10 v11 v12 v13 v14 v23 v24 v25 v26 v27 0 v32 v33 v34 := e1
  have hT1 := RS_md hT hm n1 e1' hM1' hK hM2
  have hk1 := rSk_put (rSk_rf (f := 0) (K := []) (KF := [10, 26]) hT) hT1 n1 (show rKd γ m 10 from hm) (by decide) (fun _ z => nomatch z)
  refine G_aload_n 0 dr_cX17_input_5 rfl ?_
  refine G_aload_n 0 dr_cX17_input_6 rfl ?_
  refine Gp_get 32 mm e1' dr_cX17_input_7 (gk_X17 D I) (Nat.le_of_ble_eq_true rfl) wr_7_106 rfl ?_
  refine G_iconst 4 dr_cX17_input_10 (by decide +kernel) ?_
  refine G_idiv dr_cX17_input_11 (by decide) (G_nam fun z hz => ?_)
  have ez : z.toInt = v32.toInt / 4 := gI_div hz q32 (by decide) (by decide) (by decide)
  have q32a := q32.1
  have q32b := q32.2
  have hz0 : 0 ≤ z.toInt := by omega
  have hz1 : z.toInt ≤ 2048 := by omega
  refine G_newa 0 (z.toInt.toNat, .inl (fun _ => 0)) dr_cX17_input_12 rfl rfl (by intro C h; cases h) wr_1_95 (fun _ => ga_int _ _) (g_n0 (by omega)) rfl (show z.toInt.toNat * 4 ≤ 536870912 by omega) (show 0 + 1 ≤ 1 by decide) (show 0 + z.toInt.toNat ≤ 2048 by omega) (fun A => Gp_in (fun P2 F2 hq hP e2 n2 => ?_))
  have hs2 : rSub P P2 := rSub_new (rSub_rf (P := P)) hP
  have A0 : γ 0 A = 0 := RS_new hT hq
  have mA2 : A ∈ P2 := (hP A).mpr (Or.inr rfl)
  have hN : z.toInt.toNat ≤ 2048 := by omega
  have sk2 : rSk 0 [] [10, 26] D I P F1 γ el P2 F2 (gNw γ A 26) el := rSk_nw hT1 hq hs2 mA2 n2 ⟨z.toInt.toNat, fun _ => 0, e2, by omega⟩
  have hk2 := rSk_tr hk1 sk2 (fun _ z => nomatch z) (fun _ z => z) (fun _ z => nomatch z)
  have hmA : m ≠ A := fun e => by rw [e, A0] at hm; cases hm
  have hm2 : gNw γ A 26 0 m = 10 := (gNw_ne hmA).trans hm
  have g9 : gNw γ A 26 9 = γ 9 := gNw_j (by decide)
  have e2m : F2 m = mdE (gNw γ A 26) r28 r35 v9 v10 v11 v12 v13 v14 v23 v24 v25 v26 v27 0 v32 v33 v34 := (n2 m hmA).trans e1'
  have mm2 := hs2 m mm
  have kA : gNw γ A 26 0 A = 26 := if_pos ⟨rfl, rfl⟩
  have hM2' : rM2 (gNw γ A 26) v9 v10 v34 r35 := by
    unfold rM2
    rw [gNw_j (j := 6) (by decide), gNw_j (j := 23) (by decide), gNw_j (j := 12) (by decide)]
    exact hM2
  refine Gp_put 28 mm2 e2m dr_cX17_input_14 (gk_X17 D I) (Nat.le_of_ble_eq_true rfl) wr_7_102 rfl rfl rfl (Nat.le_of_ble_eq_true rfl) (fun F3 e3 n3 => ?_)
  have e3' : F3 m = mdE (gNw γ A 26) A r35 v9 v10 v11 v12 v13 v14 v23 v24 v25 v26 v27 0 v32 v33 v34 := e3
  have hK3 := mdK_nw A0 hK
  have hT3 := RS_md hk2.1 hm2 n3 e3' hM1' hK3 hM2'
  have hk3 := rSk_put hk2 hT3 n3 (show rKd (gNw γ A 26) m 10 from hm2) (by decide) (fun _ z => nomatch z)
  have t25' : gNw γ A 26 0 (gNw γ A 26 9 31) = 25 := hK3.2.2.2.2.2.2.2.2.2.2.2.2.2.2.2.2.2.2.2.2.1
  have hS3 : inS D I P F γ el P2 (gNw γ A 26) m A z.toInt.toNat (mdE (gNw γ A 26) A r35 v9 v10 v11 v12 v13 v14 v23 v24 v25 v26 v27 0 v32 v33 v34) F3 := ⟨hk3, e3', mA2, kA, fun _ => 0, (n3 A (Ne.symm hmA)).trans e2⟩
  refine G_iconst 0 dr_cX17_input_17 (by decide +kernel) ?_
  refine G_istore_n (L' := [(1, .int 0), (0, .ref m)]) dr_cX17_input_18 (Nat.le_of_ble_eq_true rfl) rfl ?_
  have z0 : Int32.toInt 0 = 0 := by decide
  refine in_l1 hm2 t25' hN (fun F4 i hS4 => ?_) (z.toInt.toNat + 1) F3 0 (by rw [z0]; omega) (by rw [z0]; decide) (by rw [z0]; omega) hS3
  obtain ⟨hk4, he4, -, -, fA, eA4⟩ := id hS4
  refine G_aload_n 1 dr_cX17_input_77 rfl ?_
  refine G_iconst 0 dr_cX17_input_78 (by decide +kernel) ?_
  refine Gp_put 32 mm2 he4 dr_cX17_input_79 (gk_X17 D I) (Nat.le_of_ble_eq_true rfl) wr_7_106 rfl rfl rfl (Nat.le_of_ble_eq_true rfl) (fun F5 e5 n5 => ?_)
  have e5' : F5 m = mdE (gNw γ A 26) A r35 v9 v10 v11 v12 v13 v14 v23 v24 v25 v26 v27 0 0 v33 v34 := e5
  have hT5 := RS_md hk4.1 hm2 n5 e5' ⟨q9, q10, q11, q14, q25, q26, q27, ⟨by decide, by decide⟩, q34⟩ hK3 hM2'
  have hk5 := rSk_put hk4 hT5 n5 (show rKd (gNw γ A 26) m 10 from hm2) (by decide) (fun _ z => nomatch z)
  refine G_aload_n 1 dr_cX17_input_82 rfl ?_
  refine Gp_get 28 mm2 e5' dr_cX17_input_83 (gk_X17 D I) (Nat.le_of_ble_eq_true rfl) wr_7_102 rfl ?_
  refine Gp_alen (Int32.ofNat z.toInt.toNat) 0 mA2 ((n5 A (Ne.symm hmA)).trans eA4) dr_cX17_input_86 rfl rfl (G_nam fun x hx => ?_)
  exact G_iretA dr_cX17_input_87 rfl (show 0 + 1 ≤ 1 by decide) (show 0 + z.toInt.toNat ≤ 2048 by omega) ⟨P2, F5, gNw γ A 26, x, rfl, rfl, hk5, fun j hj => gNw_j hj, by rw [e5', e9]; rfl, by rw [e5', e10]; rfl, by rw [e5']; rfl, by omega, by rw [e32]; omega, by rw [e5', he]; rfl⟩
abbrev ky_658267_AbstractStringBuilder_ensureCapacityInternal : gKey := (cJ5_ensureCapacityInternal_d00df, 3, "java/lang/AbstractStringBuilder", none, [], "ensureCapacityInternal", fun _ _ => True)
def pp_658267_AbstractStringBuilder_ensureCapacityInternal (D : va_G) (I : FieldType → ClassId) (P658256 : List Nat) (F658257 : Nat → va_E) (q658258 : Nat) (q658259 : Nat) (p658260 : Int32) (p658261 : Int32) (p658262 : Int32) (f658263 : Nat → Int32) (n658264 : Nat) : Option Value → va_W → Nat → Nat → Prop := fun r w dc ds => (r = none ∧ w = va_pl P658256 F658257 ∧ dc ≤ 0 ∧ ds ≤ 0 ∧ p658260.toInt ≤ (n658264 : Int) ∧ (n658264 : Int) ≤ (n658264 : Int) ∧ ((n658264 : Int) = (n658264 : Int) ∨ (n658264 : Int) < p658260.toInt) ∧ ((n658264 : Int) ≤ 2 * (n658264 : Int) + 2 ∨ (n658264 : Int) ≤ p658260.toInt) ∧ ((n658264 : Int) = (n658264 : Int) ∨ (n658264 : Int) < p658260.toInt)) ∨ (∃ (P658315 : List Nat) (F658316 : Nat → va_E) (q658312 : Nat) (n658313 : Nat) (f658314 : Nat → Int32), r = none ∧ w = va_pl P658315 F658316 ∧ rSub P658256 P658315 ∧ rFr [q658258] P658256 F658257 F658316 ∧ F658316 q658258 = .inr (1, [.ref q658312, .int 0, .int p658261, .int p658262]) ∧ F658316 q658312 = .inl (I .byte, n658313, .inl f658314) ∧ q658312 ∈ P658315 ∧ q658312 ∉ P658256 ∧ dc ≤ (min 1 (n658313 - n658264)) ∧ ds ≤ 2 * (n658313 - n658264) ∧ gF f658314 (-128) 127 ∧ p658260.toInt ≤ (n658313 : Int) ∧ (n658264 : Int) ≤ (n658313 : Int) ∧ ((n658313 : Int) = (n658264 : Int) ∨ (n658264 : Int) < p658260.toInt) ∧ ((n658313 : Int) ≤ 2 * (n658264 : Int) + 2 ∨ (n658313 : Int) ≤ p658260.toInt) ∧ ((n658313 : Int) = (n658264 : Int) ∨ (n658264 : Int) < p658260.toInt))
set_option maxRecDepth 100000 in
set_option maxHeartbeats 4000000 in
theorem cp_658267_AbstractStringBuilder_ensureCapacityInternal (l : Launch) (hl0 : l.stackTraces = false) (D : va_G) (I : FieldType → ClassId) (P658256 : List Nat) (F658257 : Nat → va_E) (q658258 : Nat) (q658259 : Nat) (p658260 : Int32) (p658261 : Int32) (p658262 : Int32) (f658263 : Nat → Int32) (n658264 : Nat) (hmq658258 : q658258 ∈ P658256) (hmq658259 : q658259 ∈ P658256) (heq658258 : F658257 q658258 = .inr (1, [.ref q658259, .int 0, .int p658261, .int p658262])) (heq658259 : F658257 q658259 = .inl (I .byte, n658264, .inl f658263)) (bp658260 : gB p658260 0 8388608) (bp658261 : gB p658261 0 1) (bp658262 : gB p658262 0 16777216) (bf658263 : gF f658263 (-128) 127) (x658265 : (n658264 : Int) ≤ 8388608) (x658266 : ((n658264 : Int) ≤ 16777216)) : CtA (gV D I) l yJ5_ensureCapacityInternal_d00df cJ5_ensureCapacityInternal_d00df 3 none 3 62 1 (2 * n658264 + 2 + p658260.toInt.toNat) [.ref q658258, .int p658260] (va_pl P658256 F658257) (pp_658267_AbstractStringBuilder_ensureCapacityInternal D I P658256 F658257 q658258 q658259 p658260 p658261 p658262 f658263 n658264) gNA := by
  refine CtA_ofF hl0 (by decide +kernel) (Nat.le_of_ble_eq_true rfl) ?_
  refine G_aload_n 0 dr_cJ5_ensureCapacityInternal_d00df_0 rfl ?_
  refine Gp_get 0 hmq658258 heq658258 dr_cJ5_ensureCapacityInternal_d00df_1 (gk_J4 D I) (Nat.le_of_ble_eq_true rfl) wr_7_60 rfl ?_
  refine Gp_alen (Int32.ofNat n658264) 1 hmq658259 heq658259 dr_cJ5_ensureCapacityInternal_d00df_4 rfl rfl (G_nam fun z658268 hz658268 => ?_)
  have ez658268 : z658268.toInt = (n658264 : Nat) := gI_ofM hz658268 (by omega)
  have bz658268 : gB z658268 0 16777216 := ⟨by omega, by omega⟩
  refine G_aload_n 0 dr_cJ5_ensureCapacityInternal_d00df_5 rfl ?_
  refine Gp_get 1 hmq658258 heq658258 dr_cJ5_ensureCapacityInternal_d00df_6 (gk_J4 D I) (Nat.le_of_ble_eq_true rfl) wr_7_61 rfl ?_
  refine G_ishr dr_cJ5_ensureCapacityInternal_d00df_9 (G_nam fun z658269 hz658269 => ?_)
  have ez658269 : z658269.toInt = z658268.toInt / 1 := gI_shr (k := 0) hz658269 (by decide)
  have bz658269 : gB z658269 0 16777216 := ⟨by omega, by omega⟩
  refine G_istore_n (L' := [(2, .int z658269), (0, .ref q658258), (1, .int p658260)]) dr_cJ5_ensureCapacityInternal_d00df_10 (Nat.le_of_ble_eq_true rfl) rfl ?_
  refine G_iload_n 2 dr_cJ5_ensureCapacityInternal_d00df_11 rfl ?_
  refine G_iload_n 0 dr_cJ5_ensureCapacityInternal_d00df_12 rfl ?_
  refine G_isub dr_cJ5_ensureCapacityInternal_d00df_13 (G_nam fun z658270 hz658270 => ?_)
  have ez658270 : z658270.toInt = p658260.toInt - z658269.toInt := by rw [gI_sub hz658270 bp658260 bz658269 (by decide) (by decide)]
  have bz658270 : gB z658270 (-16777216) 8388608 := gB_sub (gI_sub hz658270 bp658260 bz658269 (by decide) (by decide)) bp658260 bz658269 (by decide) (by decide)
  refine G_if_le 38 dr_cJ5_ensureCapacityInternal_d00df_14 (by decide +kernel) (fun hc658271 => ?_) (fun hc658271 => ?_)
  · have r658272 : z658270.toInt ≤ 0 := gj_le hc658271 (show Int32.toInt 0 = 0 by decide)
    have bz658270' : gB z658270 (-16777216) 0 := ⟨by omega, by omega⟩
    exact G_vretA dr_cJ5_ensureCapacityInternal_d00df_38 rfl (Nat.le_of_ble_eq_true rfl) (Nat.le_of_ble_eq_true rfl) (Or.inl ⟨rfl, rfl, (Nat.le_of_ble_eq_true rfl), (Nat.le_of_ble_eq_true rfl), (by have qa0 : Int32.toInt 0 = 0 := (by decide); omega), (by have qa0 : Int32.toInt 0 = 0 := (by decide); omega), (by have qa0 : Int32.toInt 0 = 0 := (by decide); omega), (by have qa0 : Int32.toInt 0 = 0 := (by decide); omega), (by have qa0 : Int32.toInt 0 = 0 := (by decide); omega)⟩)
  · have r658273 : 0 < z658270.toInt := gj_nle hc658271 (show Int32.toInt 0 = 0 by decide)
    have bz658270' : gB z658270 1 8388608 := ⟨by omega, by omega⟩
    refine G_aload_n 1 dr_cJ5_ensureCapacityInternal_d00df_17 rfl ?_
    refine G_aload_n 1 dr_cJ5_ensureCapacityInternal_d00df_18 rfl ?_
    refine Gp_get 0 hmq658258 heq658258 dr_cJ5_ensureCapacityInternal_d00df_19 (gk_J4 D I) (Nat.le_of_ble_eq_true rfl) wr_7_60 rfl ?_
    refine G_aload_n 1 dr_cJ5_ensureCapacityInternal_d00df_22 rfl ?_
    refine G_iload_n 2 dr_cJ5_ensureCapacityInternal_d00df_23 rfl ?_
    refine Gw_callVB (As := [.int p658260]) (gV_ok D I) (cp_640260_AbstractStringBuilder_newCapacity l hl0 D I P658256 F658257 q658258 q658259 p658260 p658261 p658262 f658263 n658264 hmq658258 hmq658259 heq658258 heq658259 bp658260 bp658261 bp658262 bf658263 (by have qa0 : Int32.toInt 0 = 0 := (by decide); omega) (by have qa0 : Int32.toInt 0 = 0 := (by decide); omega) (by have qa0 : Int32.toInt 0 = 0 := (by decide); omega)) dr_cJ5_ensureCapacityInternal_d00df_24 ⟨wr_8_8, wr_1_19, wr_8_11, by decide, rfl, (Nat.le_of_ble_eq_true rfl), (Nat.le_of_ble_eq_true rfl)⟩ wr_8_10 wr_s_1 hmq658258 heq658258 rfl (show 0 + 0 ≤ 1 by first | omega | decide) (show 0 + 0 ≤ (2 * n658264 + 2 + p658260.toInt.toNat) by first | omega | decide) (Nat.le_of_ble_eq_true rfl) (fun r658277 w658278 dc658274 ds658275 hp658276 => ?_) (fun _ _ _ _ _ z => z.elim)
    obtain ⟨o658279, rfl, rfl, hdc, hds, bo658279, x658280, x658281, x658282⟩ := hp658276
    change G _ _ _ _ _ _ _ (.int o658279 :: _) _ _ _
    refine G_widen (cs' := 0) (sl' := 0) (by omega) (by omega) ?_
    refine G_aload_n 1 dr_cJ5_ensureCapacityInternal_d00df_27 rfl ?_
    refine Gp_get 1 hmq658258 heq658258 dr_cJ5_ensureCapacityInternal_d00df_28 (gk_J4 D I) (Nat.le_of_ble_eq_true rfl) wr_7_61 rfl ?_
    refine G_ishl dr_cJ5_ensureCapacityInternal_d00df_31 (G_nam fun z658283 hz658283 => ?_)
    have ez658283 : z658283.toInt = o658279.toInt * 1 := gI_shl (k := 0) hz658283 (by decide) bo658279 (by decide) (by decide)
    have bz658283 : gB z658283 1 33554432 := ⟨by omega, by omega⟩
    refine Gw_callS (As := [.ref q658259, .int z658283]) (gV_ok D I) (cp_640293_Arrays_copyOf l hl0 D I P658256 F658257 q658259 z658283 f658263 n658264 hmq658259 heq658259 (gB_w bz658283 (by decide) (by decide)) bf658263 (by have qa0 : Int32.toInt 0 = 0 := (by decide); omega) (by have qa0 : Int32.toInt 0 = 0 := (by decide); omega)) dr_cJ5_ensureCapacityInternal_d00df_32 ⟨wr_8_21, wr_1_30, wr_8_23, by decide, rfl, (Nat.le_of_ble_eq_true rfl), (Nat.le_of_ble_eq_true rfl)⟩ wr_8_22 (show 0 + 1 ≤ 1 by first | omega | decide) (show 0 + z658283.toInt.toNat ≤ (2 * n658264 + 2 + p658260.toInt.toNat) by first | omega | decide) (Nat.le_of_ble_eq_true rfl) (fun r658287 w658288 dc658284 ds658285 hp658286 => ?_) (fun _ _ _ _ _ z => z.elim)
    obtain ⟨P658291, F658292, q658289, f658290, rfl, rfl, hsb658293, hfr658294, he658295, he658296, hm658297, hq658298, hdc, hds, bf658290⟩ := hp658286
    have hm658299 : q658258 ∈ P658291 := hsb658293 q658258 hmq658258
    have hm658300 : q658259 ∈ P658291 := hsb658293 q658259 hmq658259
    have hq658301 : q658289 ∉ P658256 := fun z => hq658298 ((rSub_rf (P := P658256)) q658289 z)
    have hsb658302 : rSub P658256 P658291 := rSub_tr (rSub_rf (P := P658256)) hsb658293
    have he658303 : F658292 q658258 = .inr (1, [.ref q658259, .int 0, .int p658261, .int p658262]) := (hfr658294 q658258 hmq658258 nm_n).trans heq658258
    have hfr658304 : rFr [] P658256 F658257 F658292 := rFr_call (rSub_rf (P := P658256)) (rFr_rf (W := []) (P := P658256) (F := F658257)) hfr658294 (fun b hb hn => ⟨nm_n, nm_n⟩)
    change G _ _ _ _ _ _ _ (.ref q658289 :: _) _ _ _
    refine G_widen (cs' := 1) (sl' := z658283.toInt.toNat) (by omega) (by omega) ?_
    refine Gp_put 0 hm658299 he658303 dr_cJ5_ensureCapacityInternal_d00df_35 (gk_J4 D I) (Nat.le_of_ble_eq_true rfl) wr_7_60 rfl rfl rfl (Nat.le_of_ble_eq_true rfl) (fun F658305 e658306 n658307 => ?_)
    have he658308 : F658305 q658259 = .inl (I .byte, n658264, .inl f658263) := (n658307 q658259 (rn_ao he658295 he658303)).trans he658295
    have he658309 : F658305 q658289 = .inl (I .byte, z658283.toInt.toNat, .inl f658290) := (n658307 q658289 (fun h => hq658301 (h ▸ hmq658258))).trans he658296
    have he658310 : F658305 q658258 = .inr (1, [.ref q658289, .int 0, .int p658261, .int p658262]) := e658306
    have hfr658311 : rFr [q658258] P658256 F658257 F658305 := rFr_put hfr658304 n658307
    exact G_vretA dr_cJ5_ensureCapacityInternal_d00df_38 rfl (Nat.le_of_ble_eq_true rfl) (show z658283.toInt.toNat ≤ (2 * n658264 + 2 + p658260.toInt.toNat) by omega) (Or.inr (⟨P658291, F658305, q658289, z658283.toInt.toNat, f658290, rfl, rfl, hsb658302, hfr658311, he658310, he658309, hm658297, hq658301, (by omega), (by omega), bf658290, (by have qa0 : Int32.toInt 0 = 0 := (by decide); omega), (by have qa0 : Int32.toInt 0 = 0 := (by decide); omega), (by have qa0 : Int32.toInt 0 = 0 := (by decide); omega), (by have qa0 : Int32.toInt 0 = 0 := (by decide); omega), (by have qa0 : Int32.toInt 0 = 0 := (by decide); omega)⟩))
abbrev ky_658254_AbstractStringBuilder_append : gKey := (cJ5_append_3fe6f, 2, "java/lang/AbstractStringBuilder", (some (FieldType.object "java/lang/AbstractStringBuilder")), [], "append", fun _ _ => True)
def pp_658254_AbstractStringBuilder_append (D : va_G) (I : FieldType → ClassId) (P658242 : List Nat) (F658243 : Nat → va_E) (q658244 : Nat) (q658245 : Nat) (p658246 : Int32) (p658247 : Int32) (p658248 : Int32) (f658249 : Nat → Int32) (n658250 : Nat) : Option Value → va_W → Nat → Nat → Prop := fun r w dc ds => (∃ (F658412 : Nat → va_E) (o658409 : Int32) (f658410 : Nat → Int32), r = some (.ref q658244) ∧ w = va_pl P658242 F658412 ∧ rFr [q658245, q658244] P658242 F658243 F658412 ∧ F658412 q658244 = .inr (1, [.ref q658245, .int 0, .int p658247, .int o658409]) ∧ F658412 q658245 = .inl (I .byte, n658250, .inl f658410) ∧ dc ≤ 0 ∧ ds ≤ 0 ∧ gB o658409 1 16777216 ∧ gF f658410 (-128) 127 ∧ o658409.toInt = p658248.toInt + 1 ∧ o658409.toInt ≤ (n658250 : Int) ∧ (n658250 : Int) ≤ (n658250 : Int) ∧ (n658250 : Int) ≤ 2 * (n658250 : Int) + 2 ∧ ((n658250 : Int) = (n658250 : Int) ∨ (n658250 : Int) < o658409.toInt)) ∨ (∃ (P658417 : List Nat) (F658418 : Nat → va_E) (o658413 : Int32) (q658414 : Nat) (n658415 : Nat) (f658416 : Nat → Int32), r = some (.ref q658244) ∧ w = va_pl P658417 F658418 ∧ rSub P658242 P658417 ∧ rFr [q658244] P658242 F658243 F658418 ∧ F658418 q658244 = .inr (1, [.ref q658414, .int 0, .int p658247, .int o658413]) ∧ F658418 q658414 = .inl (I .byte, n658415, .inl f658416) ∧ q658414 ∈ P658417 ∧ q658414 ∉ P658242 ∧ dc ≤ (min 1 (n658415 - n658250)) ∧ ds ≤ 2 * (n658415 - n658250) ∧ gB o658413 1 16777216 ∧ gF f658416 (-128) 127 ∧ o658413.toInt = p658248.toInt + 1 ∧ o658413.toInt ≤ (n658415 : Int) ∧ (n658250 : Int) ≤ (n658415 : Int) ∧ (n658415 : Int) ≤ 2 * (n658250 : Int) + 2 ∧ ((n658415 : Int) = (n658250 : Int) ∨ (n658250 : Int) < o658413.toInt))
set_option maxRecDepth 100000 in
set_option maxHeartbeats 4000000 in
theorem cp_658254_AbstractStringBuilder_append (l : Launch) (hl0 : l.stackTraces = false) (D : va_G) (I : FieldType → ClassId) (P658242 : List Nat) (F658243 : Nat → va_E) (q658244 : Nat) (q658245 : Nat) (p658246 : Int32) (p658247 : Int32) (p658248 : Int32) (f658249 : Nat → Int32) (n658250 : Nat) (hmq658244 : q658244 ∈ P658242) (hmq658245 : q658245 ∈ P658242) (heq658244 : F658243 q658244 = .inr (1, [.ref q658245, .int 0, .int p658247, .int p658248])) (heq658245 : F658243 q658245 = .inl (I .byte, n658250, .inl f658249)) (bp658246 : gB p658246 0 255) (bp658247 : gB p658247 0 1) (bp658248 : gB p658248 0 16777216) (bf658249 : gF f658249 (-128) 127) (x658251 : (n658250 : Int) ≤ 8388608 - 100000) (x658252 : p658248.toInt ≤ (n658250 : Int)) (x658253 : ((n658250 : Int) ≤ 16777216)) : CtA (gV D I) l yJ5_append_3fe6f cJ5_append_3fe6f 2 (some (FieldType.object "java/lang/AbstractStringBuilder")) 4 84 1 (4 * n658250 + 8) [.ref q658244, .int p658246] (va_pl P658242 F658243) (pp_658254_AbstractStringBuilder_append D I P658242 F658243 q658244 q658245 p658246 p658247 p658248 f658249 n658250) gNA := by
  refine CtA_ofF hl0 (by decide +kernel) (Nat.le_of_ble_eq_true rfl) ?_
  refine G_aload_n 0 dr_cJ5_append_3fe6f_0 rfl ?_
  refine G_aload_n 0 dr_cJ5_append_3fe6f_1 rfl ?_
  refine Gp_get 3 hmq658244 heq658244 dr_cJ5_append_3fe6f_2 (gk_J4 D I) (Nat.le_of_ble_eq_true rfl) wr_7_64 rfl ?_
  refine G_iconst 1 dr_cJ5_append_3fe6f_5 (by decide +kernel) ?_
  refine G_iadd dr_cJ5_append_3fe6f_6 (G_nam fun z658255 hz658255 => ?_)
  have ez658255 : z658255.toInt = p658248.toInt + 1 := by rw [gI_add hz658255 bp658248 (gBl (show Int32.toInt 1 = 1 by decide)) (by decide) (by decide), show Int32.toInt 1 = 1 from by decide]
  have bz658255 : gB z658255 1 16777217 := gB_add (gI_add hz658255 bp658248 (gBl (show Int32.toInt 1 = 1 by decide)) (by decide) (by decide)) bp658248 (gBl (show Int32.toInt 1 = 1 by decide)) (by decide) (by decide)
  refine Gw_callVB (As := [.int z658255]) (gV_ok D I) (cp_658267_AbstractStringBuilder_ensureCapacityInternal l hl0 D I P658242 F658243 q658244 q658245 z658255 p658247 p658248 f658249 n658250 hmq658244 hmq658245 heq658244 heq658245 ⟨by omega, by omega⟩ bp658247 bp658248 bf658249 (by have qa0 : Int32.toInt 0 = 0 := (by decide); omega) (by have qa0 : Int32.toInt 0 = 0 := (by decide); omega)) dr_cJ5_append_3fe6f_7 ⟨wr_8_4, wr_1_19, wr_8_7, by decide, rfl, (Nat.le_of_ble_eq_true rfl), (Nat.le_of_ble_eq_true rfl)⟩ wr_8_6 wr_s_0 hmq658244 heq658244 rfl (show 0 + 1 ≤ 1 by first | omega | decide) (show 0 + (2 * n658250 + 2 + z658255.toInt.toNat) ≤ (4 * n658250 + 8) by first | omega | decide) (Nat.le_of_ble_eq_true rfl) (fun r658320 w658321 dc658317 ds658318 hp658319 => ?_) (fun _ _ _ _ _ z => z.elim)
  rcases hp658319 with hp658322 | hp658323
  · obtain ⟨rfl, rfl, hdc, hds, x658324, x658325, x658326, x658327, x658328⟩ := hp658322
    change G _ _ _ _ _ _ _ _ _ _ _
    refine G_widen (cs' := 0) (sl' := 0) (by omega) (by omega) ?_
    refine G_aload_n 0 dr_cJ5_append_3fe6f_10 rfl ?_
    refine Gw_callVB (As := []) (gV_ok D I) (cp_640145_AbstractStringBuilder_isLatin1 l hl0 D I P658242 F658243 q658244 q658245 p658247 p658248 f658249 n658250 hmq658244 hmq658245 heq658244 heq658245 bp658247 bp658248 bf658249 (by have qa0 : Int32.toInt 0 = 0 := (by decide); omega)) dr_cJ5_append_3fe6f_11 ⟨wr_8_33, wr_1_19, wr_8_37, by decide, rfl, (Nat.le_of_ble_eq_true rfl), (Nat.le_of_ble_eq_true rfl)⟩ wr_8_34 wr_8_36 hmq658244 heq658244 rfl (show 0 + 0 ≤ 1 by first | omega | decide) (show 0 + 0 ≤ (4 * n658250 + 8) by first | omega | decide) (Nat.le_of_ble_eq_true rfl) (fun r658332 w658333 dc658329 ds658330 hp658331 => ?_) (fun _ _ _ _ _ z => z.elim)
    obtain ⟨rfl, rfl, hdc, hds⟩ := hp658331
    change G _ _ _ _ _ _ _ (.int 1 :: _) _ _ _
    refine G_widen (cs' := 0) (sl' := 0) (by omega) (by omega) ?_
    refine G_if_eq 45 dr_cJ5_append_3fe6f_14 (by decide +kernel) (fun hc => absurd hc (by decide)) (fun _ => ?_)
    refine G_iload_n 1 dr_cJ5_append_3fe6f_17 rfl ?_
    refine Gw_callS (As := [.int p658246]) (gV_ok D I) (cp_640154_StringLatin1_canEncode l hl0 D I P658242 F658243 p658246 (gB_w bp658246 (by decide) (by decide))) dr_cJ5_append_3fe6f_18 ⟨wr_8_38, wr_1_28, wr_8_40, by decide, rfl, (Nat.le_of_ble_eq_true rfl), (Nat.le_of_ble_eq_true rfl)⟩ wr_8_39 (show 0 + 0 ≤ 1 by first | omega | decide) (show 0 + 0 ≤ (4 * n658250 + 8) by first | omega | decide) (Nat.le_of_ble_eq_true rfl) (fun r658337 w658338 dc658334 ds658335 hp658336 => ?_) (fun _ _ _ _ _ z => z.elim)
    rcases hp658336 with ⟨rfl, rfl, hdc, hds, r658339⟩ | ⟨rfl, rfl, hdc, hds, r658340⟩
    · exact absurd (show False by omega) not_false
    · change G _ _ _ _ _ _ _ (.int 1 :: _) _ _ _
      refine G_widen (cs' := 0) (sl' := 0) (by omega) (by omega) ?_
      refine G_if_eq 45 dr_cJ5_append_3fe6f_21 (by decide +kernel) (fun hc => absurd hc (by decide)) (fun _ => ?_)
      refine G_aload_n 0 dr_cJ5_append_3fe6f_24 rfl ?_
      refine Gp_get 0 hmq658244 heq658244 dr_cJ5_append_3fe6f_25 (gk_J4 D I) (Nat.le_of_ble_eq_true rfl) wr_7_60 rfl ?_
      refine G_aload_n 0 dr_cJ5_append_3fe6f_28 rfl ?_
      refine G_dup dr_cJ5_append_3fe6f_29 rfl ?_
      refine Gp_get 3 hmq658244 heq658244 dr_cJ5_append_3fe6f_30 (gk_J4 D I) (Nat.le_of_ble_eq_true rfl) wr_7_64 rfl ?_
      refine G_dup_x1 dr_cJ5_append_3fe6f_33 rfl rfl ?_
      refine G_iconst 1 dr_cJ5_append_3fe6f_34 (by decide +kernel) ?_
      refine G_iadd dr_cJ5_append_3fe6f_35 (G_nam fun z658342 hz658342 => ?_)
      have ez658342 : z658342.toInt = p658248.toInt + 1 := by rw [gI_add hz658342 bp658248 (gBl (show Int32.toInt 1 = 1 by decide)) (by decide) (by decide), show Int32.toInt 1 = 1 from by decide]
      have bz658342 : gB z658342 1 16777217 := gB_add (gI_add hz658342 bp658248 (gBl (show Int32.toInt 1 = 1 by decide)) (by decide) (by decide)) bp658248 (gBl (show Int32.toInt 1 = 1 by decide)) (by decide) (by decide)
      refine Gp_put 3 hmq658244 heq658244 dr_cJ5_append_3fe6f_36 (gk_J4 D I) (Nat.le_of_ble_eq_true rfl) wr_7_64 rfl rfl rfl (Nat.le_of_ble_eq_true rfl) (fun F658343 e658344 n658345 => ?_)
      have he658346 : F658343 q658245 = .inl (I .byte, n658250, .inl f658249) := (n658345 q658245 (rn_ao heq658245 heq658244)).trans heq658245
      have he658347 : F658343 q658244 = .inr (1, [.ref q658245, .int 0, .int p658247, .int z658342]) := e658344
      have hfr658348 : rFr [q658244] P658242 F658243 F658343 := rFr_put (rFr_rf (W := []) (P := P658242) (F := F658243)) n658345
      refine G_iload_n 1 dr_cJ5_append_3fe6f_39 rfl ?_
      refine G_i2b dr_cJ5_append_3fe6f_40 (G_nam fun z658349 hz658349 => ?_)
      have bz658349 : gB z658349 (-128) 127 := gB_i2b hz658349
      refine Gp_bast 1 hmq658245 he658346 dr_cJ5_append_3fe6f_41 rfl (gB_inr (by omega) (by omega)) (fun F658350 e658351 n658352 => ?_)
      obtain ⟨f658353, hf658353⟩ : ∃ z, z = upd f658249 p658248.toNatClampNeg (vp_nar .byte z658349) := ⟨_, rfl⟩
      rw [← hf658353] at e658351
      have he658354 : F658350 q658244 = .inr (1, [.ref q658245, .int 0, .int p658247, .int z658342]) := (n658352 q658244 (rn_oa he658347 he658346)).trans he658347
      have he658355 : F658350 q658245 = .inl (I .byte, n658250, .inl f658353) := e658351
      have hfr658356 : rFr [q658245, q658244] P658242 F658243 F658350 := rFr_put hfr658348 n658352
      have bf658353 : gF f658353 (-128) 127 := gF_upd hf658353 bf658249 gB_byte
      refine G_goto 75 dr_cJ5_append_3fe6f_42 (by decide +kernel) ?_
      refine G_aload_n 0 dr_cJ5_append_3fe6f_75 rfl ?_
      exact G_aretA (FieldType.object "java/lang/AbstractStringBuilder") dr_cJ5_append_3fe6f_76 rfl (by first | exact Or.inl ⟨_, rfl⟩ | exact Or.inr ⟨_, rfl⟩) (Or.inr ⟨_, rfl⟩) (Nat.le_of_ble_eq_true rfl) (Nat.le_of_ble_eq_true rfl) (Or.inl ⟨F658350, z658342, f658353, rfl, rfl, hfr658356, he658354, he658355, (Nat.le_of_ble_eq_true rfl), (Nat.le_of_ble_eq_true rfl), ⟨by omega, by omega⟩, bf658353, (by have qa0 : Int32.toInt 0 = 0 := (by decide); omega), (by have qa0 : Int32.toInt 0 = 0 := (by decide); omega), (by have qa0 : Int32.toInt 0 = 0 := (by decide); omega), (by have qa0 : Int32.toInt 0 = 0 := (by decide); omega), (by have qa0 : Int32.toInt 0 = 0 := (by decide); omega)⟩)
  · obtain ⟨P658365, F658366, q658357, n658358, f658359, rfl, rfl, hsb658367, hfr658368, he658369, he658370, hm658371, hq658372, hdc, hds, bf658359, x658360, x658361, x658362, x658363, x658364⟩ := hp658323
    have hm658373 : q658244 ∈ P658365 := hsb658367 q658244 hmq658244
    have hm658374 : q658245 ∈ P658365 := hsb658367 q658245 hmq658245
    have hq658375 : q658357 ∉ P658242 := fun z => hq658372 ((rSub_rf (P := P658242)) q658357 z)
    have hsb658376 : rSub P658242 P658365 := rSub_tr (rSub_rf (P := P658242)) hsb658367
    have he658377 : F658366 q658245 = .inl (I .byte, n658250, .inl f658249) := (hfr658368 q658245 hmq658245 (nm_c (rn_ao heq658245 heq658244) nm_n)).trans heq658245
    have hfr658378 : rFr [q658244] P658242 F658243 F658366 := rFr_call (rSub_rf (P := P658242)) (rFr_rf (W := []) (P := P658242) (F := F658243)) hfr658368 (fun b hb hn => ⟨nm_n, (nm_c (fun e => hn (e ▸ List.mem_cons_self)) nm_n)⟩)
    change G _ _ _ _ _ _ _ _ _ _ _
    refine G_widen (cs' := (min 1 (n658358 - n658250))) (sl' := 2 * (n658358 - n658250)) (by omega) (by omega) ?_
    refine G_aload_n 0 dr_cJ5_append_3fe6f_10 rfl ?_
    refine Gw_callVB (As := []) (gV_ok D I) (cp_640145_AbstractStringBuilder_isLatin1 l hl0 D I P658365 F658366 q658244 q658357 p658247 p658248 f658359 n658358 hm658373 hm658371 he658369 he658370 bp658247 bp658248 bf658359 (by have qa0 : Int32.toInt 0 = 0 := (by decide); omega)) dr_cJ5_append_3fe6f_11 ⟨wr_8_33, wr_1_19, wr_8_37, by decide, rfl, (Nat.le_of_ble_eq_true rfl), (Nat.le_of_ble_eq_true rfl)⟩ wr_8_34 wr_8_36 hm658373 he658369 rfl (show (min 1 (n658358 - n658250)) + 0 ≤ 1 by first | omega | decide) (show 2 * (n658358 - n658250) + 0 ≤ (4 * n658250 + 8) by first | omega | decide) (Nat.le_of_ble_eq_true rfl) (fun r658382 w658383 dc658379 ds658380 hp658381 => ?_) (fun _ _ _ _ _ z => z.elim)
    obtain ⟨rfl, rfl, hdc, hds⟩ := hp658381
    change G _ _ _ _ _ _ _ (.int 1 :: _) _ _ _
    refine G_widen (cs' := (min 1 (n658358 - n658250)) + 0) (sl' := 2 * (n658358 - n658250) + 0) (by omega) (by omega) ?_
    refine G_if_eq 45 dr_cJ5_append_3fe6f_14 (by decide +kernel) (fun hc => absurd hc (by decide)) (fun _ => ?_)
    refine G_iload_n 1 dr_cJ5_append_3fe6f_17 rfl ?_
    refine Gw_callS (As := [.int p658246]) (gV_ok D I) (cp_640154_StringLatin1_canEncode l hl0 D I P658365 F658366 p658246 (gB_w bp658246 (by decide) (by decide))) dr_cJ5_append_3fe6f_18 ⟨wr_8_38, wr_1_28, wr_8_40, by decide, rfl, (Nat.le_of_ble_eq_true rfl), (Nat.le_of_ble_eq_true rfl)⟩ wr_8_39 (show (min 1 (n658358 - n658250)) + 0 + 0 ≤ 1 by first | omega | decide) (show 2 * (n658358 - n658250) + 0 + 0 ≤ (4 * n658250 + 8) by first | omega | decide) (Nat.le_of_ble_eq_true rfl) (fun r658387 w658388 dc658384 ds658385 hp658386 => ?_) (fun _ _ _ _ _ z => z.elim)
    rcases hp658386 with ⟨rfl, rfl, hdc, hds, r658389⟩ | ⟨rfl, rfl, hdc, hds, r658390⟩
    · exact absurd (show False by omega) not_false
    · change G _ _ _ _ _ _ _ (.int 1 :: _) _ _ _
      refine G_widen (cs' := (min 1 (n658358 - n658250)) + 0 + 0) (sl' := 2 * (n658358 - n658250) + 0 + 0) (by omega) (by omega) ?_
      refine G_if_eq 45 dr_cJ5_append_3fe6f_21 (by decide +kernel) (fun hc => absurd hc (by decide)) (fun _ => ?_)
      refine G_aload_n 0 dr_cJ5_append_3fe6f_24 rfl ?_
      refine Gp_get 0 hm658373 he658369 dr_cJ5_append_3fe6f_25 (gk_J4 D I) (Nat.le_of_ble_eq_true rfl) wr_7_60 rfl ?_
      refine G_aload_n 0 dr_cJ5_append_3fe6f_28 rfl ?_
      refine G_dup dr_cJ5_append_3fe6f_29 rfl ?_
      refine Gp_get 3 hm658373 he658369 dr_cJ5_append_3fe6f_30 (gk_J4 D I) (Nat.le_of_ble_eq_true rfl) wr_7_64 rfl ?_
      refine G_dup_x1 dr_cJ5_append_3fe6f_33 rfl rfl ?_
      refine G_iconst 1 dr_cJ5_append_3fe6f_34 (by decide +kernel) ?_
      refine G_iadd dr_cJ5_append_3fe6f_35 (G_nam fun z658392 hz658392 => ?_)
      have ez658392 : z658392.toInt = p658248.toInt + 1 := by rw [gI_add hz658392 bp658248 (gBl (show Int32.toInt 1 = 1 by decide)) (by decide) (by decide), show Int32.toInt 1 = 1 from by decide]
      have bz658392 : gB z658392 1 16777217 := gB_add (gI_add hz658392 bp658248 (gBl (show Int32.toInt 1 = 1 by decide)) (by decide) (by decide)) bp658248 (gBl (show Int32.toInt 1 = 1 by decide)) (by decide) (by decide)
      refine Gp_put 3 hm658373 he658369 dr_cJ5_append_3fe6f_36 (gk_J4 D I) (Nat.le_of_ble_eq_true rfl) wr_7_64 rfl rfl rfl (Nat.le_of_ble_eq_true rfl) (fun F658393 e658394 n658395 => ?_)
      have he658396 : F658393 q658245 = .inl (I .byte, n658250, .inl f658249) := (n658395 q658245 (rn_ao he658377 he658369)).trans he658377
      have he658397 : F658393 q658357 = .inl (I .byte, n658358, .inl f658359) := (n658395 q658357 (fun h => hq658375 (h ▸ hmq658244))).trans he658370
      have he658398 : F658393 q658244 = .inr (1, [.ref q658357, .int 0, .int p658247, .int z658392]) := e658394
      have hfr658399 : rFr [q658244] P658242 F658243 F658393 := rFr_put' List.mem_cons_self hfr658378 n658395
      refine G_iload_n 1 dr_cJ5_append_3fe6f_39 rfl ?_
      refine G_i2b dr_cJ5_append_3fe6f_40 (G_nam fun z658400 hz658400 => ?_)
      have bz658400 : gB z658400 (-128) 127 := gB_i2b hz658400
      refine Gp_bast 1 hm658371 he658397 dr_cJ5_append_3fe6f_41 rfl (gB_inr (by omega) (by omega)) (fun F658401 e658402 n658403 => ?_)
      obtain ⟨f658404, hf658404⟩ : ∃ z, z = upd f658359 p658248.toNatClampNeg (vp_nar .byte z658400) := ⟨_, rfl⟩
      rw [← hf658404] at e658402
      have he658405 : F658401 q658245 = .inl (I .byte, n658250, .inl f658249) := (n658403 q658245 (fun h => hq658375 (h ▸ hmq658245))).trans he658396
      have he658406 : F658401 q658244 = .inr (1, [.ref q658357, .int 0, .int p658247, .int z658392]) := (n658403 q658244 (fun h => hq658375 (h ▸ hmq658244))).trans he658398
      have he658407 : F658401 q658357 = .inl (I .byte, n658358, .inl f658404) := e658402
      have hfr658408 : rFr [q658244] P658242 F658243 F658401 := rFr_newp hq658375 hfr658399 n658403
      have bf658404 : gF f658404 (-128) 127 := gF_upd hf658404 bf658359 gB_byte
      refine G_goto 75 dr_cJ5_append_3fe6f_42 (by decide +kernel) ?_
      refine G_aload_n 0 dr_cJ5_append_3fe6f_75 rfl ?_
      exact G_aretA (FieldType.object "java/lang/AbstractStringBuilder") dr_cJ5_append_3fe6f_76 rfl (by first | exact Or.inl ⟨_, rfl⟩ | exact Or.inr ⟨_, rfl⟩) (Or.inr ⟨_, rfl⟩) (show (min 1 (n658358 - n658250)) + 0 + 0 ≤ 1 by omega) (show 2 * (n658358 - n658250) + 0 + 0 ≤ (4 * n658250 + 8) by omega) (Or.inr (⟨P658365, F658401, z658392, q658357, n658358, f658404, rfl, rfl, hsb658376, hfr658408, he658406, he658407, hm658371, hq658375, (by omega), (by omega), ⟨by omega, by omega⟩, bf658404, (by have qa0 : Int32.toInt 0 = 0 := (by decide); omega), (by have qa0 : Int32.toInt 0 = 0 := (by decide); omega), (by have qa0 : Int32.toInt 0 = 0 := (by decide); omega), (by have qa0 : Int32.toInt 0 = 0 := (by decide); omega), (by have qa0 : Int32.toInt 0 = 0 := (by decide); omega)⟩))
abbrev ky_658241_StringBuilder_append : gKey := (cJ4_append_cf468, 2, "java/lang/StringBuilder", (some (FieldType.object "java/lang/StringBuilder")), [], "append", fun _ _ => True)
def pp_658241_StringBuilder_append (D : va_G) (I : FieldType → ClassId) (P658229 : List Nat) (F658230 : Nat → va_E) (q658231 : Nat) (q658232 : Nat) (p658233 : Int32) (p658234 : Int32) (p658235 : Int32) (f658236 : Nat → Int32) (n658237 : Nat) : Option Value → va_W → Nat → Nat → Prop := fun r w dc ds => (∃ (F658465 : Nat → va_E) (o658462 : Int32) (f658463 : Nat → Int32), r = some (.ref q658231) ∧ w = va_pl P658229 F658465 ∧ rFr [q658232, q658231] P658229 F658230 F658465 ∧ F658465 q658231 = .inr (1, [.ref q658232, .int 0, .int p658234, .int o658462]) ∧ F658465 q658232 = .inl (I .byte, n658237, .inl f658463) ∧ dc ≤ 0 ∧ ds ≤ 0 ∧ gB o658462 1 16777216 ∧ gF f658463 (-128) 127 ∧ o658462.toInt = p658235.toInt + 1 ∧ o658462.toInt ≤ (n658237 : Int) ∧ (n658237 : Int) ≤ (n658237 : Int) ∧ (n658237 : Int) ≤ 2 * (n658237 : Int) + 2 ∧ ((n658237 : Int) = (n658237 : Int) ∨ (n658237 : Int) < o658462.toInt)) ∨ (∃ (P658470 : List Nat) (F658471 : Nat → va_E) (o658466 : Int32) (q658467 : Nat) (n658468 : Nat) (f658469 : Nat → Int32), r = some (.ref q658231) ∧ w = va_pl P658470 F658471 ∧ rSub P658229 P658470 ∧ rFr [q658231] P658229 F658230 F658471 ∧ F658471 q658231 = .inr (1, [.ref q658467, .int 0, .int p658234, .int o658466]) ∧ F658471 q658467 = .inl (I .byte, n658468, .inl f658469) ∧ q658467 ∈ P658470 ∧ q658467 ∉ P658229 ∧ dc ≤ (min 1 (n658468 - n658237)) ∧ ds ≤ 2 * (n658468 - n658237) ∧ gB o658466 1 16777216 ∧ gF f658469 (-128) 127 ∧ o658466.toInt = p658235.toInt + 1 ∧ o658466.toInt ≤ (n658468 : Int) ∧ (n658237 : Int) ≤ (n658468 : Int) ∧ (n658468 : Int) ≤ 2 * (n658237 : Int) + 2 ∧ ((n658468 : Int) = (n658237 : Int) ∨ (n658237 : Int) < o658466.toInt))
set_option maxRecDepth 100000 in
set_option maxHeartbeats 4000000 in
theorem cp_658241_StringBuilder_append (l : Launch) (hl0 : l.stackTraces = false) (D : va_G) (I : FieldType → ClassId) (P658229 : List Nat) (F658230 : Nat → va_E) (q658231 : Nat) (q658232 : Nat) (p658233 : Int32) (p658234 : Int32) (p658235 : Int32) (f658236 : Nat → Int32) (n658237 : Nat) (hmq658231 : q658231 ∈ P658229) (hmq658232 : q658232 ∈ P658229) (heq658231 : F658230 q658231 = .inr (1, [.ref q658232, .int 0, .int p658234, .int p658235])) (heq658232 : F658230 q658232 = .inl (I .byte, n658237, .inl f658236)) (bp658233 : gB p658233 0 255) (bp658234 : gB p658234 0 1) (bp658235 : gB p658235 0 16777216) (bf658236 : gF f658236 (-128) 127) (x658238 : (n658237 : Int) ≤ 8388608 - 100000) (x658239 : p658235.toInt ≤ (n658237 : Int)) (x658240 : ((n658237 : Int) ≤ 16777216)) : CtA (gV D I) l yJ4_append_cf468 cJ4_append_cf468 2 (some (FieldType.object "java/lang/StringBuilder")) 5 105 1 (4 * n658237 + 8) [.ref q658231, .int p658233] (va_pl P658229 F658230) (pp_658241_StringBuilder_append D I P658229 F658230 q658231 q658232 p658233 p658234 p658235 f658236 n658237) gNA := by
  refine CtA_ofF hl0 (by decide +kernel) (Nat.le_of_ble_eq_true rfl) ?_
  refine G_aload_n 0 dr_cJ4_append_cf468_0 rfl ?_
  refine G_iload_n 1 dr_cJ4_append_cf468_1 rfl ?_
  refine Gw_callSU (As := [.int p658233]) (gV_ok D I) (cp_658254_AbstractStringBuilder_append l hl0 D I P658229 F658230 q658231 q658232 p658233 p658234 p658235 f658236 n658237 hmq658231 hmq658232 heq658231 heq658232 bp658233 bp658234 bp658235 bf658236 (by have qa0 : Int32.toInt 0 = 0 := (by decide); omega) (by have qa0 : Int32.toInt 0 = 0 := (by decide); omega) (by have qa0 : Int32.toInt 0 = 0 := (by decide); omega)) dr_cJ4_append_cf468_2 ⟨wr_8_1, wr_1_19, wr_8_3, by decide, rfl, (Nat.le_of_ble_eq_true rfl), (Nat.le_of_ble_eq_true rfl)⟩ wr_8_2 wr_11_224 wr_7_73 wr_7_44 (by decide) hmq658231 heq658231 rfl (show 0 + 1 ≤ 1 by first | omega | decide) (show 0 + (4 * n658237 + 8) ≤ (4 * n658237 + 8) by first | omega | decide) (Nat.le_of_ble_eq_true rfl) (fun r658422 w658423 dc658419 ds658420 hp658421 => ?_)
  rcases hp658421 with hp658424 | hp658425
  · obtain ⟨F658433, o658426, f658427, rfl, rfl, hfr658435, he658436, he658437, hdc, hds, bo658426, bf658427, x658428, x658429, x658430, x658431, x658432⟩ := hp658424
    have hfr658438 : rFr [q658232, q658231] P658229 F658230 F658433 := rFr_call (rSub_rf (P := P658229)) (rFr_rf (W := []) (P := P658229) (F := F658230)) hfr658435 (fun b hb hn => ⟨nm_n, (nm_c (fun e => hn (e ▸ List.mem_cons_self)) (nm_c (fun e => hn (e ▸ (List.mem_cons_of_mem _ List.mem_cons_self))) nm_n))⟩)
    change G _ _ _ _ _ _ _ (.ref q658231 :: _) _ _ _
    refine G_widen (cs' := 0) (sl' := 0) (by omega) (by omega) ?_
    refine G_pop dr_cJ4_append_cf468_5 rfl ?_
    refine G_aload_n 0 dr_cJ4_append_cf468_6 rfl ?_
    exact G_aretA (FieldType.object "java/lang/StringBuilder") dr_cJ4_append_cf468_7 rfl (by first | exact Or.inl ⟨_, rfl⟩ | exact Or.inr ⟨_, rfl⟩) (Or.inr ⟨_, rfl⟩) (Nat.le_of_ble_eq_true rfl) (Nat.le_of_ble_eq_true rfl) (Or.inl ⟨F658433, o658426, f658427, rfl, rfl, hfr658438, he658436, he658437, (Nat.le_of_ble_eq_true rfl), (Nat.le_of_ble_eq_true rfl), bo658426, bf658427, (by have qa0 : Int32.toInt 0 = 0 := (by decide); omega), (by have qa0 : Int32.toInt 0 = 0 := (by decide); omega), (by have qa0 : Int32.toInt 0 = 0 := (by decide); omega), (by have qa0 : Int32.toInt 0 = 0 := (by decide); omega), (by have qa0 : Int32.toInt 0 = 0 := (by decide); omega)⟩)
  · obtain ⟨P658448, F658449, o658439, q658440, n658441, f658442, rfl, rfl, hsb658450, hfr658451, he658452, he658453, hm658454, hq658455, hdc, hds, bo658439, bf658442, x658443, x658444, x658445, x658446, x658447⟩ := hp658425
    have hm658456 : q658231 ∈ P658448 := hsb658450 q658231 hmq658231
    have hm658457 : q658232 ∈ P658448 := hsb658450 q658232 hmq658232
    have hq658458 : q658440 ∉ P658229 := fun z => hq658455 ((rSub_rf (P := P658229)) q658440 z)
    have hsb658459 : rSub P658229 P658448 := rSub_tr (rSub_rf (P := P658229)) hsb658450
    have he658460 : F658449 q658232 = .inl (I .byte, n658237, .inl f658236) := (hfr658451 q658232 hmq658232 (nm_c (rn_ao heq658232 heq658231) nm_n)).trans heq658232
    have hfr658461 : rFr [q658231] P658229 F658230 F658449 := rFr_call (rSub_rf (P := P658229)) (rFr_rf (W := []) (P := P658229) (F := F658230)) hfr658451 (fun b hb hn => ⟨nm_n, (nm_c (fun e => hn (e ▸ List.mem_cons_self)) nm_n)⟩)
    change G _ _ _ _ _ _ _ (.ref q658231 :: _) _ _ _
    refine G_widen (cs' := (min 1 (n658441 - n658237))) (sl' := 2 * (n658441 - n658237)) (by omega) (by omega) ?_
    refine G_pop dr_cJ4_append_cf468_5 rfl ?_
    refine G_aload_n 0 dr_cJ4_append_cf468_6 rfl ?_
    exact G_aretA (FieldType.object "java/lang/StringBuilder") dr_cJ4_append_cf468_7 rfl (by first | exact Or.inl ⟨_, rfl⟩ | exact Or.inr ⟨_, rfl⟩) (Or.inr ⟨_, rfl⟩) (show (min 1 (n658441 - n658237)) ≤ 1 by omega) (show 2 * (n658441 - n658237) ≤ (4 * n658237 + 8) by omega) (Or.inr (⟨P658448, F658449, o658439, q658440, n658441, f658442, rfl, rfl, hsb658459, hfr658461, he658452, he658453, hm658454, hq658458, (by omega), (by omega), bo658439, bf658442, (by have qa0 : Int32.toInt 0 = 0 := (by decide); omega), (by have qa0 : Int32.toInt 0 = 0 := (by decide); omega), (by have qa0 : Int32.toInt 0 = 0 := (by decide); omega), (by have qa0 : Int32.toInt 0 = 0 := (by decide); omega), (by have qa0 : Int32.toInt 0 = 0 := (by decide); omega)⟩))
abbrev ky_658497_AbstractStringBuilder_append : gKey := (cJ5_append_c97b9, 4, "java/lang/AbstractStringBuilder", (some (FieldType.object "java/lang/AbstractStringBuilder")), [], "append", fun _ _ => True)
def pp_658497_AbstractStringBuilder_append (D : va_G) (I : FieldType → ClassId) (P658485 : List Nat) (F658486 : Nat → va_E) (q658487 : Nat) (q658488 : Nat) (p658489 : Int32) (p658490 : Int32) (p658491 : Int32) (f658492 : Nat → Int32) (n658493 : Nat) : Option Value → va_W → Nat → Nat → Prop := fun r w dc ds => (∃ (F658593 : Nat → va_E) (o658590 : Int32) (f658591 : Nat → Int32), r = some (.ref q658487) ∧ w = va_pl P658485 F658593 ∧ rFr [q658487, q658488] P658485 F658486 F658593 ∧ F658593 q658487 = .inr (1, [.ref q658488, .int 0, .int p658490, .int o658590]) ∧ F658593 q658488 = .inl (I .byte, n658493, .inl f658591) ∧ dc ≤ 0 ∧ ds ≤ 0 ∧ gB o658590 1 16777216 ∧ gF f658591 (-128) 127 ∧ p658491.toInt ≤ o658590.toInt ∧ o658590.toInt ≤ p658491.toInt + 11 ∧ o658590.toInt ≤ (n658493 : Int) ∧ (n658493 : Int) ≤ (n658493 : Int) ∧ ((n658493 : Int) ≤ 2 * (n658493 : Int) + 2 ∨ (n658493 : Int) ≤ p658491.toInt + 11) ∧ ((n658493 : Int) = (n658493 : Int) ∨ (n658493 : Int) < o658590.toInt)) ∨ (∃ (P658598 : List Nat) (F658599 : Nat → va_E) (o658594 : Int32) (q658595 : Nat) (n658596 : Nat) (f658597 : Nat → Int32), r = some (.ref q658487) ∧ w = va_pl P658598 F658599 ∧ rSub P658485 P658598 ∧ rFr [q658487] P658485 F658486 F658599 ∧ F658599 q658487 = .inr (1, [.ref q658595, .int 0, .int p658490, .int o658594]) ∧ F658599 q658595 = .inl (I .byte, n658596, .inl f658597) ∧ q658595 ∈ P658598 ∧ q658595 ∉ P658485 ∧ dc ≤ (min 1 (n658596 - n658493)) ∧ ds ≤ 2 * (n658596 - n658493) ∧ gB o658594 1 16777216 ∧ gF f658597 (-128) 127 ∧ p658491.toInt ≤ o658594.toInt ∧ o658594.toInt ≤ p658491.toInt + 11 ∧ o658594.toInt ≤ (n658596 : Int) ∧ (n658493 : Int) ≤ (n658596 : Int) ∧ ((n658596 : Int) ≤ 2 * (n658493 : Int) + 2 ∨ (n658596 : Int) ≤ p658491.toInt + 11) ∧ ((n658596 : Int) = (n658493 : Int) ∨ (n658493 : Int) < o658594.toInt))
set_option maxRecDepth 100000 in
set_option maxHeartbeats 4000000 in
theorem cp_658497_AbstractStringBuilder_append (l : Launch) (hl0 : l.stackTraces = false) (D : va_G) (I : FieldType → ClassId) (P658485 : List Nat) (F658486 : Nat → va_E) (q658487 : Nat) (q658488 : Nat) (p658489 : Int32) (p658490 : Int32) (p658491 : Int32) (f658492 : Nat → Int32) (n658493 : Nat) (hmq658487 : q658487 ∈ P658485) (hmq658488 : q658488 ∈ P658485) (heq658487 : F658486 q658487 = .inr (1, [.ref q658488, .int 0, .int p658490, .int p658491])) (heq658488 : F658486 q658488 = .inl (I .byte, n658493, .inl f658492)) (bp658490 : gB p658490 0 1) (bp658491 : gB p658491 0 16777216) (bf658492 : gF f658492 (-128) 127) (x658494 : (n658493 : Int) ≤ 8388608 - 100000) (x658495 : p658491.toInt ≤ (n658493 : Int)) (x658496 : ((n658493 : Int) ≤ 16777216)) : CtA (gV D I) l yJ5_append_c97b9 cJ5_append_c97b9 4 (some (FieldType.object "java/lang/AbstractStringBuilder")) 4 84 1 (4 * n658493 + 64) [.ref q658487, .int p658489] (va_pl P658485 F658486) (pp_658497_AbstractStringBuilder_append D I P658485 F658486 q658487 q658488 p658489 p658490 p658491 f658492 n658493) gNA := by
  refine CtA_ofF hl0 (by decide +kernel) (Nat.le_of_ble_eq_true rfl) ?_
  have bp658489 := gB_any p658489
  refine G_aload_n 0 dr_cJ5_append_c97b9_0 rfl ?_
  refine Gp_get 3 hmq658487 heq658487 dr_cJ5_append_c97b9_1 (gk_J4 D I) (Nat.le_of_ble_eq_true rfl) wr_7_64 rfl ?_
  refine G_istore_n (L' := [(2, .int p658491), (0, .ref q658487), (1, .int p658489)]) dr_cJ5_append_c97b9_4 (Nat.le_of_ble_eq_true rfl) rfl ?_
  refine G_iload_n 0 dr_cJ5_append_c97b9_5 rfl ?_
  refine G_iload_n 2 dr_cJ5_append_c97b9_6 rfl ?_
  refine Gw_callS (As := [.int p658489]) (gV_ok D I) (cp_648933_Integer_stringSize l hl0 D I P658485 F658486 p658489 ) dr_cJ5_append_c97b9_7 ⟨wr_8_112, wr_1_35, wr_8_114, by decide, rfl, (Nat.le_of_ble_eq_true rfl), (Nat.le_of_ble_eq_true rfl)⟩ wr_8_113 (show 0 + 0 ≤ 1 by first | omega | decide) (show 0 + 0 ≤ (4 * n658493 + 64) by first | omega | decide) (Nat.le_of_ble_eq_true rfl) (fun r658501 w658502 dc658498 ds658499 hp658500 => ?_) (fun _ _ _ _ _ z => z.elim)
  obtain ⟨o658503, rfl, rfl, hdc, hds, bo658503, x658504⟩ := hp658500
  change G _ _ _ _ _ _ _ (.int o658503 :: _) _ _ _
  refine G_widen (cs' := 0) (sl' := 0) (by omega) (by omega) ?_
  refine G_iadd dr_cJ5_append_c97b9_10 (G_nam fun z658505 hz658505 => ?_)
  have ez658505 : z658505.toInt = p658491.toInt + o658503.toInt := by rw [gI_add hz658505 bp658491 bo658503 (by decide) (by decide)]
  have bz658505 : gB z658505 1 16777227 := gB_add (gI_add hz658505 bp658491 bo658503 (by decide) (by decide)) bp658491 bo658503 (by decide) (by decide)
  refine G_istore_n (L' := [(3, .int z658505), (2, .int p658491), (0, .ref q658487), (1, .int p658489)]) dr_cJ5_append_c97b9_11 (Nat.le_of_ble_eq_true rfl) rfl ?_
  refine G_aload_n 2 dr_cJ5_append_c97b9_12 rfl ?_
  refine G_iload_n 0 dr_cJ5_append_c97b9_13 rfl ?_
  refine Gw_callVB (As := [.int z658505]) (gV_ok D I) (cp_658267_AbstractStringBuilder_ensureCapacityInternal l hl0 D I P658485 F658486 q658487 q658488 z658505 p658490 p658491 f658492 n658493 hmq658487 hmq658488 heq658487 heq658488 ⟨by omega, by omega⟩ bp658490 bp658491 bf658492 (by have qa0 : Int32.toInt 0 = 0 := (by decide); omega) (by have qa0 : Int32.toInt 0 = 0 := (by decide); omega)) dr_cJ5_append_c97b9_14 ⟨wr_8_4, wr_1_19, wr_8_7, by decide, rfl, (Nat.le_of_ble_eq_true rfl), (Nat.le_of_ble_eq_true rfl)⟩ wr_8_6 wr_s_0 hmq658487 heq658487 rfl (show 0 + 1 ≤ 1 by first | omega | decide) (show 0 + (2 * n658493 + 2 + z658505.toInt.toNat) ≤ (4 * n658493 + 64) by first | omega | decide) (Nat.le_of_ble_eq_true rfl) (fun r658509 w658510 dc658506 ds658507 hp658508 => ?_) (fun _ _ _ _ _ z => z.elim)
  rcases hp658508 with hp658511 | hp658512
  · obtain ⟨rfl, rfl, hdc, hds, x658513, x658514, x658515, x658516, x658517⟩ := hp658511
    change G _ _ _ _ _ _ _ _ _ _ _
    refine G_widen (cs' := 0) (sl' := 0) (by omega) (by omega) ?_
    refine G_aload_n 2 dr_cJ5_append_c97b9_17 rfl ?_
    refine Gw_callVB (As := []) (gV_ok D I) (cp_640145_AbstractStringBuilder_isLatin1 l hl0 D I P658485 F658486 q658487 q658488 p658490 p658491 f658492 n658493 hmq658487 hmq658488 heq658487 heq658488 bp658490 bp658491 bf658492 (by have qa0 : Int32.toInt 0 = 0 := (by decide); omega)) dr_cJ5_append_c97b9_18 ⟨wr_8_33, wr_1_19, wr_8_37, by decide, rfl, (Nat.le_of_ble_eq_true rfl), (Nat.le_of_ble_eq_true rfl)⟩ wr_8_34 wr_8_36 hmq658487 heq658487 rfl (show 0 + 0 ≤ 1 by first | omega | decide) (show 0 + 0 ≤ (4 * n658493 + 64) by first | omega | decide) (Nat.le_of_ble_eq_true rfl) (fun r658521 w658522 dc658518 ds658519 hp658520 => ?_) (fun _ _ _ _ _ z => z.elim)
    obtain ⟨rfl, rfl, hdc, hds⟩ := hp658520
    change G _ _ _ _ _ _ _ (.int 1 :: _) _ _ _
    refine G_widen (cs' := 0) (sl' := 0) (by omega) (by omega) ?_
    refine G_if_eq 37 dr_cJ5_append_c97b9_21 (by decide +kernel) (fun hc => absurd hc (by decide)) (fun _ => ?_)
    refine G_iload_n 3 dr_cJ5_append_c97b9_24 rfl ?_
    refine G_iload_n 0 dr_cJ5_append_c97b9_25 rfl ?_
    refine G_aload_n 2 dr_cJ5_append_c97b9_26 rfl ?_
    refine Gp_get 0 hmq658487 heq658487 dr_cJ5_append_c97b9_27 (gk_J4 D I) (Nat.le_of_ble_eq_true rfl) wr_7_60 rfl ?_
    refine Gw_callS (As := [.int p658489, .int z658505, .ref q658488]) (gV_ok D I) (cp_649110_Integer_getChars l hl0 D I P658485 F658486 q658488 p658489 z658505 f658492 n658493 hmq658488 heq658488 ⟨by omega, by omega⟩ bf658492 (by have qa0 : Int32.toInt 0 = 0 := (by decide); omega) (by have q10 : Int32.toInt 10 = 10 := (by decide); have q11 : Int32.toInt 11 = 11 := (by decide); first | exact dgS_up (by omega) (by omega) x658504 (by omega)) (by have qa0 : Int32.toInt 0 = 0 := (by decide); omega)) dr_cJ5_append_c97b9_30 ⟨wr_8_115, wr_1_35, wr_8_117, by decide, rfl, (Nat.le_of_ble_eq_true rfl), (Nat.le_of_ble_eq_true rfl)⟩ wr_8_116 (show 0 + 0 ≤ 1 by first | omega | decide) (show 0 + 0 ≤ (4 * n658493 + 64) by first | omega | decide) (Nat.le_of_ble_eq_true rfl) (fun r658526 w658527 dc658523 ds658524 hp658525 => ?_) (fun _ _ _ _ _ z => z.elim)
    obtain ⟨F658530, o658528, f658529, rfl, rfl, hfr658532, he658533, hdc, hds, bo658528, bf658529⟩ := hp658525
    have he658534 : F658530 q658487 = .inr (1, [.ref q658488, .int 0, .int p658490, .int p658491]) := (hfr658532 q658487 hmq658487 (nm_c (rn_oa heq658487 heq658488) nm_n)).trans heq658487
    have hfr658535 : rFr [q658488] P658485 F658486 F658530 := rFr_call (rSub_rf (P := P658485)) (rFr_rf (W := []) (P := P658485) (F := F658486)) hfr658532 (fun b hb hn => ⟨nm_n, (nm_c (fun e => hn (e ▸ List.mem_cons_self)) nm_n)⟩)
    change G _ _ _ _ _ _ _ (.int o658528 :: _) _ _ _
    refine G_widen (cs' := 0) (sl' := 0) (by omega) (by omega) ?_
    refine G_pop dr_cJ5_append_c97b9_33 rfl ?_
    refine G_goto 48 dr_cJ5_append_c97b9_34 (by decide +kernel) ?_
    refine G_aload_n 2 dr_cJ5_append_c97b9_48 rfl ?_
    refine G_iload_n 0 dr_cJ5_append_c97b9_49 rfl ?_
    refine Gp_put 3 hmq658487 he658534 dr_cJ5_append_c97b9_50 (gk_J4 D I) (Nat.le_of_ble_eq_true rfl) wr_7_64 rfl rfl rfl (Nat.le_of_ble_eq_true rfl) (fun F658536 e658537 n658538 => ?_)
    have he658539 : F658536 q658488 = .inl (I .byte, n658493, .inl f658529) := (n658538 q658488 (rn_ao he658533 he658534)).trans he658533
    have he658540 : F658536 q658487 = .inr (1, [.ref q658488, .int 0, .int p658490, .int z658505]) := e658537
    have hfr658541 : rFr [q658487, q658488] P658485 F658486 F658536 := rFr_put hfr658535 n658538
    refine G_aload_n 2 dr_cJ5_append_c97b9_53 rfl ?_
    exact G_aretA (FieldType.object "java/lang/AbstractStringBuilder") dr_cJ5_append_c97b9_54 rfl (by first | exact Or.inl ⟨_, rfl⟩ | exact Or.inr ⟨_, rfl⟩) (Or.inr ⟨_, rfl⟩) (Nat.le_of_ble_eq_true rfl) (Nat.le_of_ble_eq_true rfl) (Or.inl ⟨F658536, z658505, f658529, rfl, rfl, hfr658541, he658540, he658539, (Nat.le_of_ble_eq_true rfl), (Nat.le_of_ble_eq_true rfl), ⟨by omega, by omega⟩, bf658529, (by have qa0 : Int32.toInt 0 = 0 := (by decide); omega), (by have qa0 : Int32.toInt 0 = 0 := (by decide); omega), (by have qa0 : Int32.toInt 0 = 0 := (by decide); omega), (by have qa0 : Int32.toInt 0 = 0 := (by decide); omega), (by have qa0 : Int32.toInt 0 = 0 := (by decide); omega), (by have qa0 : Int32.toInt 0 = 0 := (by decide); omega)⟩)
  · obtain ⟨P658550, F658551, q658542, n658543, f658544, rfl, rfl, hsb658552, hfr658553, he658554, he658555, hm658556, hq658557, hdc, hds, bf658544, x658545, x658546, x658547, x658548, x658549⟩ := hp658512
    have hm658558 : q658487 ∈ P658550 := hsb658552 q658487 hmq658487
    have hm658559 : q658488 ∈ P658550 := hsb658552 q658488 hmq658488
    have hq658560 : q658542 ∉ P658485 := fun z => hq658557 ((rSub_rf (P := P658485)) q658542 z)
    have hsb658561 : rSub P658485 P658550 := rSub_tr (rSub_rf (P := P658485)) hsb658552
    have he658562 : F658551 q658488 = .inl (I .byte, n658493, .inl f658492) := (hfr658553 q658488 hmq658488 (nm_c (rn_ao heq658488 heq658487) nm_n)).trans heq658488
    have hfr658563 : rFr [q658487] P658485 F658486 F658551 := rFr_call (rSub_rf (P := P658485)) (rFr_rf (W := []) (P := P658485) (F := F658486)) hfr658553 (fun b hb hn => ⟨nm_n, (nm_c (fun e => hn (e ▸ List.mem_cons_self)) nm_n)⟩)
    change G _ _ _ _ _ _ _ _ _ _ _
    refine G_widen (cs' := (min 1 (n658543 - n658493))) (sl' := 2 * (n658543 - n658493)) (by omega) (by omega) ?_
    refine G_aload_n 2 dr_cJ5_append_c97b9_17 rfl ?_
    refine Gw_callVB (As := []) (gV_ok D I) (cp_640145_AbstractStringBuilder_isLatin1 l hl0 D I P658550 F658551 q658487 q658542 p658490 p658491 f658544 n658543 hm658558 hm658556 he658554 he658555 bp658490 bp658491 bf658544 (by have qa0 : Int32.toInt 0 = 0 := (by decide); omega)) dr_cJ5_append_c97b9_18 ⟨wr_8_33, wr_1_19, wr_8_37, by decide, rfl, (Nat.le_of_ble_eq_true rfl), (Nat.le_of_ble_eq_true rfl)⟩ wr_8_34 wr_8_36 hm658558 he658554 rfl (show (min 1 (n658543 - n658493)) + 0 ≤ 1 by first | omega | decide) (show 2 * (n658543 - n658493) + 0 ≤ (4 * n658493 + 64) by first | omega | decide) (Nat.le_of_ble_eq_true rfl) (fun r658567 w658568 dc658564 ds658565 hp658566 => ?_) (fun _ _ _ _ _ z => z.elim)
    obtain ⟨rfl, rfl, hdc, hds⟩ := hp658566
    change G _ _ _ _ _ _ _ (.int 1 :: _) _ _ _
    refine G_widen (cs' := (min 1 (n658543 - n658493)) + 0) (sl' := 2 * (n658543 - n658493) + 0) (by omega) (by omega) ?_
    refine G_if_eq 37 dr_cJ5_append_c97b9_21 (by decide +kernel) (fun hc => absurd hc (by decide)) (fun _ => ?_)
    refine G_iload_n 3 dr_cJ5_append_c97b9_24 rfl ?_
    refine G_iload_n 0 dr_cJ5_append_c97b9_25 rfl ?_
    refine G_aload_n 2 dr_cJ5_append_c97b9_26 rfl ?_
    refine Gp_get 0 hm658558 he658554 dr_cJ5_append_c97b9_27 (gk_J4 D I) (Nat.le_of_ble_eq_true rfl) wr_7_60 rfl ?_
    refine Gw_callS (As := [.int p658489, .int z658505, .ref q658542]) (gV_ok D I) (cp_649110_Integer_getChars l hl0 D I P658550 F658551 q658542 p658489 z658505 f658544 n658543 hm658556 he658555 ⟨by omega, by omega⟩ bf658544 (by have qa0 : Int32.toInt 0 = 0 := (by decide); omega) (by have q10 : Int32.toInt 10 = 10 := (by decide); have q11 : Int32.toInt 11 = 11 := (by decide); first | exact dgS_up (by omega) (by omega) x658504 (by omega)) (by have qa0 : Int32.toInt 0 = 0 := (by decide); omega)) dr_cJ5_append_c97b9_30 ⟨wr_8_115, wr_1_35, wr_8_117, by decide, rfl, (Nat.le_of_ble_eq_true rfl), (Nat.le_of_ble_eq_true rfl)⟩ wr_8_116 (show (min 1 (n658543 - n658493)) + 0 + 0 ≤ 1 by first | omega | decide) (show 2 * (n658543 - n658493) + 0 + 0 ≤ (4 * n658493 + 64) by first | omega | decide) (Nat.le_of_ble_eq_true rfl) (fun r658572 w658573 dc658569 ds658570 hp658571 => ?_) (fun _ _ _ _ _ z => z.elim)
    obtain ⟨F658576, o658574, f658575, rfl, rfl, hfr658578, he658579, hdc, hds, bo658574, bf658575⟩ := hp658571
    have he658580 : F658576 q658488 = .inl (I .byte, n658493, .inl f658492) := (hfr658578 q658488 hm658559 (nm_c (fun h => hq658560 (h ▸ hmq658488)) nm_n)).trans he658562
    have he658581 : F658576 q658487 = .inr (1, [.ref q658542, .int 0, .int p658490, .int p658491]) := (hfr658578 q658487 hm658558 (nm_c (fun h => hq658560 (h ▸ hmq658487)) nm_n)).trans he658554
    have hfr658582 : rFr [q658487] P658485 F658486 F658576 := rFr_call hsb658561 hfr658563 hfr658578 (fun b hb hn => ⟨(nm_c (fun e => hn (e ▸ List.mem_cons_self)) nm_n), (nm_c (fun e => hq658560 (e ▸ hb)) nm_n)⟩)
    change G _ _ _ _ _ _ _ (.int o658574 :: _) _ _ _
    refine G_widen (cs' := (min 1 (n658543 - n658493)) + 0 + 0) (sl' := 2 * (n658543 - n658493) + 0 + 0) (by omega) (by omega) ?_
    refine G_pop dr_cJ5_append_c97b9_33 rfl ?_
    refine G_goto 48 dr_cJ5_append_c97b9_34 (by decide +kernel) ?_
    refine G_aload_n 2 dr_cJ5_append_c97b9_48 rfl ?_
    refine G_iload_n 0 dr_cJ5_append_c97b9_49 rfl ?_
    refine Gp_put 3 hm658558 he658581 dr_cJ5_append_c97b9_50 (gk_J4 D I) (Nat.le_of_ble_eq_true rfl) wr_7_64 rfl rfl rfl (Nat.le_of_ble_eq_true rfl) (fun F658583 e658584 n658585 => ?_)
    have he658586 : F658583 q658488 = .inl (I .byte, n658493, .inl f658492) := (n658585 q658488 (rn_ao he658580 he658581)).trans he658580
    have he658587 : F658583 q658542 = .inl (I .byte, n658543, .inl f658575) := (n658585 q658542 (fun h => hq658560 (h ▸ hmq658487))).trans he658579
    have he658588 : F658583 q658487 = .inr (1, [.ref q658542, .int 0, .int p658490, .int z658505]) := e658584
    have hfr658589 : rFr [q658487] P658485 F658486 F658583 := rFr_put' List.mem_cons_self hfr658582 n658585
    refine G_aload_n 2 dr_cJ5_append_c97b9_53 rfl ?_
    exact G_aretA (FieldType.object "java/lang/AbstractStringBuilder") dr_cJ5_append_c97b9_54 rfl (by first | exact Or.inl ⟨_, rfl⟩ | exact Or.inr ⟨_, rfl⟩) (Or.inr ⟨_, rfl⟩) (show (min 1 (n658543 - n658493)) + 0 + 0 ≤ 1 by omega) (show 2 * (n658543 - n658493) + 0 + 0 ≤ (4 * n658493 + 64) by omega) (Or.inr (⟨P658550, F658583, z658505, q658542, n658543, f658575, rfl, rfl, hsb658561, hfr658589, he658588, he658587, hm658556, hq658560, (by omega), (by omega), ⟨by omega, by omega⟩, bf658575, (by have qa0 : Int32.toInt 0 = 0 := (by decide); omega), (by have qa0 : Int32.toInt 0 = 0 := (by decide); omega), (by have qa0 : Int32.toInt 0 = 0 := (by decide); omega), (by have qa0 : Int32.toInt 0 = 0 := (by decide); omega), (by have qa0 : Int32.toInt 0 = 0 := (by decide); omega), (by have qa0 : Int32.toInt 0 = 0 := (by decide); omega)⟩))
