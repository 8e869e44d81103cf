theorem dr_cX17_input_30 : decode cX17_input 30 = .ok (.iload_n 2, 1) := by decide +kernel
theorem dr_cX17_input_31 : decode cX17_input 31 = .ok (.iconst 4, 1) := by decide +kernel
theorem dr_cX17_input_32 : decode cX17_input 32 = .ok (.if_icmp .ge 39, 3) := by decide +kernel
theorem dr_cX17_input_35 : decode cX17_input 35 = .ok (.aload_n 0, 1) := by decide +kernel
theorem dr_cX17_input_36 : decode cX17_input 36 = .ok (.getfield 303, 3) := by decide +kernel
theorem dr_cX17_input_39 : decode cX17_input 39 = .ok (.iload_n 1, 1) := by decide +kernel
theorem dr_cX17_input_40 : decode cX17_input 40 = .ok (.aload_n 0, 1) := by decide +kernel
theorem dr_cX17_input_41 : decode cX17_input 41 = .ok (.getfield 303, 3) := by decide +kernel
theorem dr_cX17_input_44 : decode cX17_input 44 = .ok (.iload_n 1, 1) := by decide +kernel
theorem dr_cX17_input_45 : decode cX17_input 45 = .ok (.iaload, 1) := by decide +kernel
theorem dr_cX17_input_46 : decode cX17_input 46 = .ok (.bipush 8, 2) := by decide +kernel
theorem dr_cX17_input_48 : decode cX17_input 48 = .ok (.ishl, 1) := by decide +kernel
theorem dr_cX17_input_49 : decode cX17_input 49 = .ok (.aload_n 0, 1) := by decide +kernel
theorem dr_cX17_input_50 : decode cX17_input 50 = .ok (.getfield 374, 3) := by decide +kernel
theorem dr_cX17_input_53 : decode cX17_input 53 = .ok (.iconst 4, 1) := by decide +kernel
theorem dr_cX17_input_54 : decode cX17_input 54 = .ok (.iload_n 1, 1) := by decide +kernel
theorem dr_cX17_input_55 : decode cX17_input 55 = .ok (.imul, 1) := by decide +kernel
theorem dr_cX17_input_56 : decode cX17_input 56 = .ok (.iload_n 2, 1) := by decide +kernel
theorem dr_cX17_input_57 : decode cX17_input 57 = .ok (.iadd, 1) := by decide +kernel
theorem dr_cX17_input_58 : decode cX17_input 58 = .ok (.baload, 1) := by decide +kernel
theorem dr_cX17_input_59 : decode cX17_input 59 = .ok (.sipush 255, 3) := by decide +kernel
theorem dr_cX17_input_62 : decode cX17_input 62 = .ok (.iand, 1) := by decide +kernel
theorem dr_cX17_input_63 : decode cX17_input 63 = .ok (.ior, 1) := by decide +kernel
theorem dr_cX17_input_64 : decode cX17_input 64 = .ok (.iastore, 1) := by decide +kernel
theorem dr_cX17_input_65 : decode cX17_input 65 = .ok (.iinc 2 1, 3) := by decide +kernel
theorem dr_cX17_input_68 : decode cX17_input 68 = .ok (.goto (-38), 3) := by decide +kernel
theorem dr_cX17_input_19 : decode cX17_input 19 = .ok (.iload_n 1, 1) := by decide +kernel
theorem dr_cX17_input_20 : decode cX17_input 20 = .ok (.aload_n 0, 1) := by decide +kernel
theorem dr_cX17_input_21 : decode cX17_input 21 = .ok (.getfield 303, 3) := by decide +kernel
theorem dr_cX17_input_24 : decode cX17_input 24 = .ok (.arraylength, 1) := by decide +kernel
theorem dr_cX17_input_25 : decode cX17_input 25 = .ok (.if_icmp .ge 52, 3) := by decide +kernel
theorem dr_cX17_input_28 : decode cX17_input 28 = .ok (.iconst 0, 1) := by decide +kernel
theorem dr_cX17_input_29 : decode cX17_input 29 = .ok (.istore_n 2, 1) := by decide +kernel
theorem dr_cX17_input_71 : decode cX17_input 71 = .ok (.iinc 1 1, 3) := by decide +kernel
theorem dr_cX17_input_74 : decode cX17_input 74 = .ok (.goto (-55), 3) := by decide +kernel
theorem dr_cX17_input_0 : decode cX17_input 0 = .ok (.aload_n 0, 1) := by decide +kernel
theorem dr_cX17_input_1 : decode cX17_input 1 = .ok (.iconst 0, 1) := by decide +kernel
theorem dr_cX17_input_2 : decode cX17_input 2 = .ok (.putfield 380, 3) := by decide +kernel
theorem dr_cX17_input_5 : decode cX17_input 5 = .ok (.aload_n 0, 1) := by decide +kernel
theorem dr_cX17_input_6 : decode cX17_input 6 = .ok (.aload_n 0, 1) := by decide +kernel
theorem dr_cX17_input_7 : decode cX17_input 7 = .ok (.getfield 383, 3) := by decide +kernel
theorem dr_cX17_input_10 : decode cX17_input 10 = .ok (.iconst 4, 1) := by decide +kernel
theorem dr_cX17_input_11 : decode cX17_input 11 = .ok (.idiv, 1) := by decide +kernel
theorem dr_cX17_input_12 : decode cX17_input 12 = .ok (.newarray .int, 2) := by decide +kernel
theorem dr_cX17_input_14 : decode cX17_input 14 = .ok (.putfield 303, 3) := by decide +kernel
theorem dr_cX17_input_17 : decode cX17_input 17 = .ok (.iconst 0, 1) := by decide +kernel
theorem dr_cX17_input_18 : decode cX17_input 18 = .ok (.istore_n 1, 1) := by decide +kernel
theorem dr_cX17_input_77 : decode cX17_input 77 = .ok (.aload_n 0, 1) := by decide +kernel
theorem dr_cX17_input_78 : decode cX17_input 78 = .ok (.iconst 0, 1) := by decide +kernel
theorem dr_cX17_input_79 : decode cX17_input 79 = .ok (.putfield 383, 3) := by decide +kernel
theorem dr_cX17_input_82 : decode cX17_input 82 = .ok (.aload_n 0, 1) := by decide +kernel
theorem dr_cX17_input_83 : decode cX17_input 83 = .ok (.getfield 303, 3) := by decide +kernel
theorem dr_cX17_input_86 : decode cX17_input 86 = .ok (.arraylength, 1) := by decide +kernel
theorem dr_cX17_input_87 : decode cX17_input 87 = .ok (.ireturn, 1) := by decide +kernel
abbrev ky_inp : gKey := (cX17_input, 3, "SpillForgeModel", (some FieldType.int), [], "input", fun _ _ => True)
def inS (D : va_G) (I : FieldType → ClassId) (P0 : List Nat) (F0 : Nat → va_E) (γ0 el : Nat → Nat → Nat) (P : List Nat) (γ : Nat → Nat → Nat) (m A N : Nat) (e : va_E) (F : Nat → va_E) : Prop := rSk 0 [] [10, 26] D I P0 F0 γ0 el P F γ el ∧ F m = e ∧ A ∈ P ∧ γ 0 A = 26 ∧ ∃ f : Nat → Int32, F A = .inl (I .int, N, .inl f)
theorem inS_a {D : va_G} {I : FieldType → ClassId} {P0 P : List Nat} {F0 F F1 : Nat → va_E} {γ0 γ el : Nat → Nat → Nat} {m A N : Nat} {e : va_E} {f1 : Nat → Int32} (h : inS D I P0 F0 γ0 el P γ m A N e F) (hm : γ 0 m = 10) (hN : N ≤ 2048) (e1 : F1 A = .inl (I .int, N, .inl f1)) (n : ∀ b, b ≠ A → F1 b = F b) : inS D I P0 F0 γ0 el P γ m A N e F1 := by
  obtain ⟨h1, h2, h3, h4, -⟩ := h
  have hmA : m ≠ A := fun q => by rw [q, h4] at hm; cases hm
  exact ⟨rSk_put h1 (RS_set h1.1 n (show rKd γ A 26 from h4) (by decide) ⟨N, f1, e1, by omega⟩) n (show rKd γ A 26 from h4) (by decide) (fun _ z => nomatch z), (n m hmA).trans h2, h3, h4, f1, e1⟩
set_option maxRecDepth 100000 in
set_option maxHeartbeats 4000000 in
theorem in_l2 {l : Launch} {D : va_G} {I : FieldType → ClassId} {P0 P : List Nat} {F0 : Nat → va_E} {γ0 γ el : Nat → Nat → Nat} {m A N cs sl mc ms : Nat} {Qf : gFin} {r35 : Nat} {v9 v10 v11 v12 v13 v14 v23 v24 v25 v26 v27 v30 v32 v33 v34 i : Int32} (hm : γ 0 m = 10) (t25 : γ 0 (γ 9 31) = 25) (hN : N ≤ 2048) (hi0 : 0 ≤ i.toInt) (hiN : i.toInt < (N : Int))
    (kk : ∀ (F : Nat → va_E) (jj : Int32), inS D I P0 F0 γ0 el P γ m A N (mdE γ A r35 v9 v10 v11 v12 v13 v14 v23 v24 v25 v26 v27 v30 v32 v33 v34) F → G (gV D I) l (gRm 1 20 mc ms) Qf ky_inp 71 [(2, .int jj), (1, .int i), (0, .ref m)] [] (va_pl P F) cs sl) :
    ∀ (μ : Nat) (F : Nat → va_E) (jj : Int32), 4 - jj.toInt < (μ : Int) → 0 ≤ jj.toInt → jj.toInt ≤ 4 → inS D I P0 F0 γ0 el P γ m A N (mdE γ A r35 v9 v10 v11 v12 v13 v14 v23 v24 v25 v26 v27 v30 v32 v33 v34) F →
    G (gV D I) l (gRm 1 20 mc ms) Qf ky_inp 30 [(2, .int jj), (1, .int i), (0, .ref m)] [] (va_pl P F) cs sl := by
  intro μ
  induction μ with
  | zero => intro F jj h h0 h4 _; exact absurd h (by omega)
  | succ μ ih =>
  intro F jj hμ h0 h4 hS
  obtain ⟨hk, he, mA, kA, fA, eA⟩ := id hS
  have mm : m ∈ P := hk.1.1 m (by omega)
  obtain ⟨ft, f1, f2⟩ := show rk_25 I (F (γ 9 31)) from RS_o hk.1 t25
  have mt : γ 9 31 ∈ P := hk.1.1 _ (by omega)
  refine G_iload_n 0 dr_cX17_input_30 rfl ?_
  refine G_iconst 4 dr_cX17_input_31 (by decide +kernel) ?_
  have z4 : Int32.toInt 4 = 4 := by decide
  refine G_icmp_ge 71 dr_cX17_input_32 (by decide +kernel) (fun _ => kk F jj hS) (fun hc => ?_)
  have hlt : jj.toInt < 4 := gj_nle hc rfl
  refine G_aload_n 2 dr_cX17_input_35 rfl ?_
  refine Gp_get 28 mm he dr_cX17_input_36 (gk_X17 D I) (Nat.le_of_ble_eq_true rfl) wr_7_102 rfl ?_
  refine G_iload_n 1 dr_cX17_input_39 rfl ?_
  refine G_aload_n 2 dr_cX17_input_40 rfl ?_
  refine Gp_get 28 mm he dr_cX17_input_41 (gk_X17 D I) (Nat.le_of_ble_eq_true rfl) wr_7_102 rfl ?_
  refine G_iload_n 1 dr_cX17_input_44 rfl ?_
  refine Gp_iald 0 mA eA dr_cX17_input_45 rfl (gB_inr hi0 hiN) (G_nam fun z1 _ => ?_)
  refine G_bipush 8 dr_cX17_input_46 (by decide +kernel) ?_
  refine G_ishl dr_cX17_input_48 (G_nam fun z2 _ => ?_)
  refine G_aload_n 2 dr_cX17_input_49 rfl ?_
  refine Gp_get 31 mm he dr_cX17_input_50 (gk_X17 D I) (Nat.le_of_ble_eq_true rfl) wr_7_105 rfl ?_
  refine G_iconst 4 dr_cX17_input_53 (by decide +kernel) ?_
  refine G_iload_n 1 dr_cX17_input_54 rfl ?_
  refine G_imul dr_cX17_input_55 (G_nam fun z3 hz3 => ?_)
  have bi : gB i 0 2048 := ⟨hi0, by omega⟩
  have e3 : z3.toInt = 4 * i.toInt := by rw [gI_mul hz3 (gBl z4) bi (by decide) (by decide) (by decide), z4]
  refine G_iload_n 0 dr_cX17_input_56 rfl ?_
  refine G_iadd dr_cX17_input_57 (G_nam fun z5 hz5 => ?_)
  have e5 : z5.toInt = z3.toInt + jj.toInt := gI_add hz5 (⟨by omega, by omega⟩ : gB z3 0 8192) (⟨h0, h4⟩ : gB jj 0 4) (by decide) (by decide)
  refine Gp_bald 1 mt f1 dr_cX17_input_58 rfl (gB_inr (by omega) (by omega)) (G_nam fun z6 _ => ?_)
  refine G_sipush 255 dr_cX17_input_59 (by decide +kernel) ?_
  refine G_iand dr_cX17_input_62 (G_nam fun z7 _ => ?_)
  refine G_ior dr_cX17_input_63 (G_nam fun z8 _ => ?_)
  refine Gp_iast 0 mA eA dr_cX17_input_64 rfl (gB_inr hi0 hiN) (fun F1 e1 n1 => ?_)
  have hS1 := inS_a hS hm hN e1 n1
  obtain ⟨j1, hj1⟩ : ∃ z, z = jj + 1 := ⟨_, rfl⟩
  have ej : j1.toInt = jj.toInt + 1 := by rw [gI_add hj1 (⟨h0, h4⟩ : gB jj 0 4) (gBl (show Int32.toInt 1 = 1 by decide)) (by decide) (by decide), show Int32.toInt 1 = 1 from by decide]
  refine G_iinc (L' := [(2, .int j1), (1, .int i), (0, .ref m)]) j1 0 dr_cX17_input_65 rfl (by rw [hj1]; rfl) (Nat.le_of_ble_eq_true rfl) rfl ?_
  refine G_goto 30 dr_cX17_input_68 (by decide +kernel) ?_
  exact ih F1 j1 (by omega) (by omega) (by omega) hS1
set_option maxRecDepth 100000 in
set_option maxHeartbeats 4000000 in
theorem in_l1 {l : Launch} {D : va_G} {I : FieldType → ClassId} {P0 P : List Nat} {F0 : Nat → va_E} {γ0 γ el : Nat → Nat → Nat} {m A N cs sl mc ms : Nat} {Qf : gFin} {r35 : Nat} {v9 v10 v11 v12 v13 v14 v23 v24 v25 v26 v27 v30 v32 v33 v34 : Int32} (hm : γ 0 m = 10) (t25 : γ 0 (γ 9 31) = 25) (hN : N ≤ 2048)
    (kk : ∀ (F : Nat → va_E) (i : Int32), inS D I P0 F0 γ0 el P γ m A N (mdE γ A r35 v9 v10 v11 v12 v13 v14 v23 v24 v25 v26 v27 v30 v32 v33 v34) F → G (gV D I) l (gRm 1 20 mc ms) Qf ky_inp 77 [(1, .int i), (0, .ref m)] [] (va_pl P F) cs sl) :
    ∀ (μ : Nat) (F : Nat → va_E) (i : Int32), (N : Int) - i.toInt < (μ : Int) → 0 ≤ i.toInt → i.toInt ≤ (N : Int) → inS D I P0 F0 γ0 el P γ m A N (mdE γ A r35 v9 v10 v11 v12 v13 v14 v23 v24 v25 v26 v27 v30 v32 v33 v34) F →
    G (gV D I) l (gRm 1 20 mc ms) Qf ky_inp 19 [(1, .int i), (0, .ref m)] [] (va_pl P F) cs sl := by
  intro μ
  induction μ with
  | zero => intro F i h h0 h4 _; exact absurd h (by omega)
  | succ μ ih =>
  intro F i hμ h0 h4 hS
  obtain ⟨hk, he, mA, kA, fA, eA⟩ := id hS
  have mm : m ∈ P := hk.1.1 m (by omega)
  refine G_iload_n 0 dr_cX17_input_19 rfl ?_
  refine G_aload_n 1 dr_cX17_input_20 rfl ?_
  refine Gp_get 28 mm he dr_cX17_input_21 (gk_X17 D I) (Nat.le_of_ble_eq_true rfl) wr_7_102 rfl ?_
  refine Gp_alen (Int32.ofNat N) 0 mA eA dr_cX17_input_24 rfl rfl (G_nam fun z hz => ?_)
  have ez : z.toInt = (N : Nat) := gI_ofM hz (by omega)
  refine G_icmp_ge 77 dr_cX17_input_25 (by decide +kernel) (fun _ => kk F i hS) (fun hc => ?_)
  have hlt : i.toInt < z.toInt := gj_nle hc rfl
  refine G_iconst 0 dr_cX17_input_28 (by decide +kernel) ?_
  refine G_istore_n (L' := [(2, .int 0), (1, .int i), (0, .ref m)]) dr_cX17_input_29 (Nat.le_of_ble_eq_true rfl) rfl ?_
  have z0 : Int32.toInt 0 = 0 := by decide
  refine in_l2 hm t25 hN h0 (by omega) (fun F1 jj hS1 => ?_) 5 F 0 (by rw [z0]; decide) (by rw [z0]; decide) (by rw [z0]; decide) hS
  obtain ⟨i1, hi1⟩ : ∃ z, z = i + 1 := ⟨_, rfl⟩
  have ei : i1.toInt = i.toInt + 1 := by rw [gI_add hi1 (⟨h0, by omega⟩ : gB i 0 2048) (gBl (show Int32.toInt 1 = 1 by decide)) (by decide) (by decide), show Int32.toInt 1 = 1 from by decide]
  refine G_iinc (L' := [(1, .int i1), (2, .int jj), (0, .ref m)]) i1 1 dr_cX17_input_71 rfl (by rw [hi1]; rfl) (Nat.le_of_ble_eq_true rfl) rfl ?_
  refine G_goto 19 dr_cX17_input_74 (by decide +kernel) ?_
  refine G_lv [0, 2] rfl ?_
  exact ih F1 i1 (by omega) (by omega) (by omega) hS1
set_option maxRecDepth 100000 in
set_option maxHeartbeats 4000000 in
theorem cp_input (l : Launch) (hl0 : l.stackTraces = false) (D : va_G) (I : FieldType → ClassId) {P : List Nat} {F : Nat → va_E} {γ el : Nat → Nat → Nat} {m : Nat} (hT : RS D I P F γ el) (hm : γ 0 m = 10) :
    CtA (gV D I) l yX17_input cX17_input 3 (some FieldType.int) 1 20 1 2048 [.ref m] (va_pl P F) (inP D I P F γ el m) gNA := by
  refine CtA_of hl0 (by decide) (Nat.le_of_ble_eq_true rfl) ?_
  obtain ⟨r28, r35, v9, v10, v11, v12, v13, v14, v23, v24, v25, v26, v27, v30, v32, v33, v34, he, hM1, hK, hM2⟩ := rk10_m (show rk_10 γ (F m) from RS_o hT hm)
  have hM1' := hM1
  obtain ⟨q9, q10, q11, q14, q25, q26, q27, q32, q34⟩ := hM1
  have mm : m ∈ P := hT.1 m (by omega)
  have e32 : fI (F m) 32 = v32 := by rw [he]; rfl
  have e10 : fI (F m) 10 = v10 := by rw [he]; rfl
  have e9 : fI (F m) 9 = v9 := by rw [he]; rfl
  have t25 : γ 0 (γ 9 31) = 25 := hK.2.2.2.2.2.2.2.2.2.2.2.2.2.2.2.2.2.2.2.2.1
  refine G_aload_n 0 dr_cX17_input_0 rfl ?_
  refine G_iconst 0 dr_cX17_input_1 (by decide +kernel) ?_
  refine Gp_put 30 mm he dr_cX17_input_2 (gk_X17 D I) (Nat.le_of_ble_eq_true rfl) wr_7_104 rfl rfl rfl (Nat.le_of_ble_eq_true rfl) (fun F1 e1 n1 => ?_)
  have e1' : F1 m = mdE γ r28 r35 v9 v10 v11 v12 v13 v14 v23 v24 v25 v26 v27 0 v32 v33 v34 := e1
  have hT1 := RS_md hT hm n1 e1' hM1' hK hM2
  have hk1 := rSk_put (rSk_rf (f := 0) (K := []) (KF := [10, 26]) hT) hT1 n1 (show rKd γ m 10 from hm) (by decide) (fun _ z => nomatch z)
  refine G_aload_n 0 dr_cX17_input_5 rfl ?_
  refine G_aload_n 0 dr_cX17_input_6 rfl ?_
  refine Gp_get 32 mm e1' dr_cX17_input_7 (gk_X17 D I) (Nat.le_of_ble_eq_true rfl) wr_7_106 rfl ?_
  refine G_iconst 4 dr_cX17_input_10 (by decide +kernel) ?_
  refine G_idiv dr_cX17_input_11 (by decide) (G_nam fun z hz => ?_)
  have ez : z.toInt = v32.toInt / 4 := gI_div hz q32 (by decide) (by decide) (by decide)
  have q32a := q32.1
  have q32b := q32.2
  have hz0 : 0 ≤ z.toInt := by omega
  have hz1 : z.toInt ≤ 2048 := by omega
  refine G_newa 0 (z.toInt.toNat, .inl (fun _ => 0)) dr_cX17_input_12 rfl rfl (by intro C h; cases h) wr_1_95 (fun _ => ga_int _ _) (g_n0 (by omega)) rfl (show z.toInt.toNat * 4 ≤ 536870912 by omega) (show 0 + 1 ≤ 1 by decide) (show 0 + z.toInt.toNat ≤ 2048 by omega) (fun A => Gp_in (fun P2 F2 hq hP e2 n2 => ?_))
  have hs2 : rSub P P2 := rSub_new (rSub_rf (P := P)) hP
  have A0 : γ 0 A = 0 := RS_new hT hq
  have mA2 : A ∈ P2 := (hP A).mpr (Or.inr rfl)
  have hN : z.toInt.toNat ≤ 2048 := by omega
  have sk2 : rSk 0 [] [10, 26] D I P F1 γ el P2 F2 (gNw γ A 26) el := rSk_nw hT1 hq hs2 mA2 n2 ⟨z.toInt.toNat, fun _ => 0, e2, by omega⟩
  have hk2 := rSk_tr hk1 sk2 (fun _ z => nomatch z) (fun _ z => z) (fun _ z => nomatch z)
  have hmA : m ≠ A := fun e => by rw [e, A0] at hm; cases hm
  have hm2 : gNw γ A 26 0 m = 10 := (gNw_ne hmA).trans hm
  have g9 : gNw γ A 26 9 = γ 9 := gNw_j (by decide)
  have e2m : F2 m = mdE (gNw γ A 26) r28 r35 v9 v10 v11 v12 v13 v14 v23 v24 v25 v26 v27 0 v32 v33 v34 := (n2 m hmA).trans e1'
  have mm2 := hs2 m mm
  have kA : gNw γ A 26 0 A = 26 := if_pos ⟨rfl, rfl⟩
  have hM2' : rM2 (gNw γ A 26) v9 v10 v34 r35 := by
    unfold rM2
    rw [gNw_j (j := 6) (by decide), gNw_j (j := 23) (by decide), gNw_j (j := 12) (by decide)]
    exact hM2
  refine Gp_put 28 mm2 e2m dr_cX17_input_14 (gk_X17 D I) (Nat.le_of_ble_eq_true rfl) wr_7_102 rfl rfl rfl (Nat.le_of_ble_eq_true rfl) (fun F3 e3 n3 => ?_)
  have e3' : F3 m = mdE (gNw γ A 26) A r35 v9 v10 v11 v12 v13 v14 v23 v24 v25 v26 v27 0 v32 v33 v34 := e3
  have hK3 := mdK_nw A0 hK
  have hT3 := RS_md hk2.1 hm2 n3 e3' hM1' hK3 hM2'
  have hk3 := rSk_put hk2 hT3 n3 (show rKd (gNw γ A 26) m 10 from hm2) (by decide) (fun _ z => nomatch z)
  have t25' : gNw γ A 26 0 (gNw γ A 26 9 31) = 25 := hK3.2.2.2.2.2.2.2.2.2.2.2.2.2.2.2.2.2.2.2.2.1
  have hS3 : inS D I P F γ el P2 (gNw γ A 26) m A z.toInt.toNat (mdE (gNw γ A 26) A r35 v9 v10 v11 v12 v13 v14 v23 v24 v25 v26 v27 0 v32 v33 v34) F3 := ⟨hk3, e3', mA2, kA, fun _ => 0, (n3 A (Ne.symm hmA)).trans e2⟩
  refine G_iconst 0 dr_cX17_input_17 (by decide +kernel) ?_
  refine G_istore_n (L' := [(1, .int 0), (0, .ref m)]) dr_cX17_input_18 (Nat.le_of_ble_eq_true rfl) rfl ?_
  have z0 : Int32.toInt 0 = 0 := by decide
  refine in_l1 hm2 t25' hN (fun F4 i hS4 => ?_) (z.toInt.toNat + 1) F3 0 (by rw [z0]; omega) (by rw [z0]; decide) (by rw [z0]; omega) hS3
  obtain ⟨hk4, he4, -, -, fA, eA4⟩ := id hS4
  refine G_aload_n 1 dr_cX17_input_77 rfl ?_
  refine G_iconst 0 dr_cX17_input_78 (by decide +kernel) ?_
  refine Gp_put 32 mm2 he4 dr_cX17_input_79 (gk_X17 D I) (Nat.le_of_ble_eq_true rfl) wr_7_106 rfl rfl rfl (Nat.le_of_ble_eq_true rfl) (fun F5 e5 n5 => ?_)
  have e5' : F5 m = mdE (gNw γ A 26) A r35 v9 v10 v11 v12 v13 v14 v23 v24 v25 v26 v27 0 0 v33 v34 := e5
  have hT5 := RS_md hk4.1 hm2 n5 e5' ⟨q9, q10, q11, q14, q25, q26, q27, ⟨by decide, by decide⟩, q34⟩ hK3 hM2'
  have hk5 := rSk_put hk4 hT5 n5 (show rKd (gNw γ A 26) m 10 from hm2) (by decide) (fun _ z => nomatch z)
  refine G_aload_n 1 dr_cX17_input_82 rfl ?_
  refine Gp_get 28 mm2 e5' dr_cX17_input_83 (gk_X17 D I) (Nat.le_of_ble_eq_true rfl) wr_7_102 rfl ?_
  refine Gp_alen (Int32.ofNat z.toInt.toNat) 0 mA2 ((n5 A (Ne.symm hmA)).trans eA4) dr_cX17_input_86 rfl rfl (G_nam fun x hx => ?_)
  exact G_iretA dr_cX17_input_87 rfl (show 0 + 1 ≤ 1 by decide) (show 0 + z.toInt.toNat ≤ 2048 by omega) ⟨P2, F5, gNw γ A 26, x, rfl, rfl, hk5, fun j hj => gNw_j hj, by rw [e5', e9]; rfl, by rw [e5', e10]; rfl, by rw [e5']; rfl, by omega, by rw [e32]; omega⟩
abbrev ky_658253_AbstractStringBuilder_ensureCapacityInternal : gKey := (cJ5_ensureCapacityInternal_d00df, 3, "java/lang/AbstractStringBuilder", none, [], "ensureCapacityInternal", fun _ _ => True)
def pp_658253_AbstractStringBuilder_ensureCapacityInternal (D : va_G) (I : FieldType → ClassId) (P658242 : List Nat) (F658243 : Nat → va_E) (q658244 : Nat) (q658245 : Nat) (p658246 : Int32) (p658247 : Int32) (p658248 : Int32) (f658249 : Nat → Int32) (n658250 : Nat) : Option Value → va_W → Nat → Nat → Prop := fun r w dc ds => (r = none ∧ w = va_pl P658242 F658243 ∧ dc ≤ 0 ∧ ds ≤ 0 ∧ p658246.toInt ≤ (n658250 : Int) ∧ (n658250 : Int) ≤ (n658250 : Int) ∧ ((n658250 : Int) = (n658250 : Int) ∨ (n658250 : Int) < p658246.toInt) ∧ ((n658250 : Int) ≤ 2 * (n658250 : Int) + 2 ∨ (n658250 : Int) ≤ p658246.toInt) ∧ ((n658250 : Int) = (n658250 : Int) ∨ (n658250 : Int) < p658246.toInt)) ∨ (∃ (P658301 : List Nat) (F658302 : Nat → va_E) (q658298 : Nat) (n658299 : Nat) (f658300 : Nat → Int32), r = none ∧ w = va_pl P658301 F658302 ∧ rSub P658242 P658301 ∧ rFr [q658244] P658242 F658243 F658302 ∧ F658302 q658244 = .inr (1, [.ref q658298, .int 0, .int p658247, .int p658248]) ∧ F658302 q658298 = .inl (I .byte, n658299, .inl f658300) ∧ q658298 ∈ P658301 ∧ q658298 ∉ P658242 ∧ dc ≤ (min 1 (n658299 - n658250)) ∧ ds ≤ 2 * (n658299 - n658250) ∧ gF f658300 (-128) 127 ∧ p658246.toInt ≤ (n658299 : Int) ∧ (n658250 : Int) ≤ (n658299 : Int) ∧ ((n658299 : Int) = (n658250 : Int) ∨ (n658250 : Int) < p658246.toInt) ∧ ((n658299 : Int) ≤ 2 * (n658250 : Int) + 2 ∨ (n658299 : Int) ≤ p658246.toInt) ∧ ((n658299 : Int) = (n658250 : Int) ∨ (n658250 : Int) < p658246.toInt))
set_option maxRecDepth 100000 in
set_option maxHeartbeats 4000000 in
theorem cp_658253_AbstractStringBuilder_ensureCapacityInternal (l : Launch) (hl0 : l.stackTraces = false) (D : va_G) (I : FieldType → ClassId) (P658242 : List Nat) (F658243 : Nat → va_E) (q658244 : Nat) (q658245 : Nat) (p658246 : Int32) (p658247 : Int32) (p658248 : Int32) (f658249 : Nat → Int32) (n658250 : Nat) (hmq658244 : q658244 ∈ P658242) (hmq658245 : q658245 ∈ P658242) (heq658244 : F658243 q658244 = .inr (1, [.ref q658245, .int 0, .int p658247, .int p658248])) (heq658245 : F658243 q658245 = .inl (I .byte, n658250, .inl f658249)) (bp658246 : gB p658246 0 8388608) (bp658247 : gB p658247 0 1) (bp658248 : gB p658248 0 16777216) (bf658249 : gF f658249 (-128) 127) (x658251 : (n658250 : Int) ≤ 8388608) (x658252 : ((n658250 : Int) ≤ 16777216)) : CtA (gV D I) l yJ5_ensureCapacityInternal_d00df cJ5_ensureCapacityInternal_d00df 3 none 3 62 1 (2 * n658250 + 2 + p658246.toInt.toNat) [.ref q658244, .int p658246] (va_pl P658242 F658243) (pp_658253_AbstractStringBuilder_ensureCapacityInternal D I P658242 F658243 q658244 q658245 p658246 p658247 p658248 f658249 n658250) gNA := by
  refine CtA_ofF hl0 (by decide +kernel) (Nat.le_of_ble_eq_true rfl) ?_
  refine G_aload_n 0 dr_cJ5_ensureCapacityInternal_d00df_0 rfl ?_
  refine Gp_get 0 hmq658244 heq658244 dr_cJ5_ensureCapacityInternal_d00df_1 (gk_J4 D I) (Nat.le_of_ble_eq_true rfl) wr_7_60 rfl ?_
  refine Gp_alen (Int32.ofNat n658250) 1 hmq658245 heq658245 dr_cJ5_ensureCapacityInternal_d00df_4 rfl rfl (G_nam fun z658254 hz658254 => ?_)
  have ez658254 : z658254.toInt = (n658250 : Nat) := gI_ofM hz658254 (by omega)
  have bz658254 : gB z658254 0 16777216 := ⟨by omega, by omega⟩
  refine G_aload_n 0 dr_cJ5_ensureCapacityInternal_d00df_5 rfl ?_
  refine Gp_get 1 hmq658244 heq658244 dr_cJ5_ensureCapacityInternal_d00df_6 (gk_J4 D I) (Nat.le_of_ble_eq_true rfl) wr_7_61 rfl ?_
  refine G_ishr dr_cJ5_ensureCapacityInternal_d00df_9 (G_nam fun z658255 hz658255 => ?_)
  have ez658255 : z658255.toInt = z658254.toInt / 1 := gI_shr (k := 0) hz658255 (by decide)
  have bz658255 : gB z658255 0 16777216 := ⟨by omega, by omega⟩
  refine G_istore_n (L' := [(2, .int z658255), (0, .ref q658244), (1, .int p658246)]) dr_cJ5_ensureCapacityInternal_d00df_10 (Nat.le_of_ble_eq_true rfl) rfl ?_
  refine G_iload_n 2 dr_cJ5_ensureCapacityInternal_d00df_11 rfl ?_
  refine G_iload_n 0 dr_cJ5_ensureCapacityInternal_d00df_12 rfl ?_
  refine G_isub dr_cJ5_ensureCapacityInternal_d00df_13 (G_nam fun z658256 hz658256 => ?_)
  have ez658256 : z658256.toInt = p658246.toInt - z658255.toInt := by rw [gI_sub hz658256 bp658246 bz658255 (by decide) (by decide)]
  have bz658256 : gB z658256 (-16777216) 8388608 := gB_sub (gI_sub hz658256 bp658246 bz658255 (by decide) (by decide)) bp658246 bz658255 (by decide) (by decide)
  refine G_if_le 38 dr_cJ5_ensureCapacityInternal_d00df_14 (by decide +kernel) (fun hc658257 => ?_) (fun hc658257 => ?_)
  · have r658258 : z658256.toInt ≤ 0 := gj_le hc658257 (show Int32.toInt 0 = 0 by decide)
    have bz658256' : gB z658256 (-16777216) 0 := ⟨by omega, by omega⟩
    exact G_vretA dr_cJ5_ensureCapacityInternal_d00df_38 rfl (Nat.le_of_ble_eq_true rfl) (Nat.le_of_ble_eq_true rfl) (Or.inl ⟨rfl, rfl, (Nat.le_of_ble_eq_true rfl), (Nat.le_of_ble_eq_true rfl), (by have qa0 : Int32.toInt 0 = 0 := (by decide); omega), (by have qa0 : Int32.toInt 0 = 0 := (by decide); omega), (by have qa0 : Int32.toInt 0 = 0 := (by decide); omega), (by have qa0 : Int32.toInt 0 = 0 := (by decide); omega), (by have qa0 : Int32.toInt 0 = 0 := (by decide); omega)⟩)
  · have r658259 : 0 < z658256.toInt := gj_nle hc658257 (show Int32.toInt 0 = 0 by decide)
    have bz658256' : gB z658256 1 8388608 := ⟨by omega, by omega⟩
    refine G_aload_n 1 dr_cJ5_ensureCapacityInternal_d00df_17 rfl ?_
    refine G_aload_n 1 dr_cJ5_ensureCapacityInternal_d00df_18 rfl ?_
    refine Gp_get 0 hmq658244 heq658244 dr_cJ5_ensureCapacityInternal_d00df_19 (gk_J4 D I) (Nat.le_of_ble_eq_true rfl) wr_7_60 rfl ?_
    refine G_aload_n 1 dr_cJ5_ensureCapacityInternal_d00df_22 rfl ?_
    refine G_iload_n 2 dr_cJ5_ensureCapacityInternal_d00df_23 rfl ?_
    refine Gw_callVB (As := [.int p658246]) (gV_ok D I) (cp_640260_AbstractStringBuilder_newCapacity l hl0 D I P658242 F658243 q658244 q658245 p658246 p658247 p658248 f658249 n658250 hmq658244 hmq658245 heq658244 heq658245 bp658246 bp658247 bp658248 bf658249 (by have qa0 : Int32.toInt 0 = 0 := (by decide); omega) (by have qa0 : Int32.toInt 0 = 0 := (by decide); omega) (by have qa0 : Int32.toInt 0 = 0 := (by decide); omega)) dr_cJ5_ensureCapacityInternal_d00df_24 ⟨wr_8_8, wr_1_19, wr_8_11, by decide, rfl, (Nat.le_of_ble_eq_true rfl), (Nat.le_of_ble_eq_true rfl)⟩ wr_8_10 wr_s_1 hmq658244 heq658244 rfl (show 0 + 0 ≤ 1 by first | omega | decide) (show 0 + 0 ≤ (2 * n658250 + 2 + p658246.toInt.toNat) by first | omega | decide) (Nat.le_of_ble_eq_true rfl) (fun r658263 w658264 dc658260 ds658261 hp658262 => ?_) (fun _ _ _ _ _ z => z.elim)
    obtain ⟨o658265, rfl, rfl, hdc, hds, bo658265, x658266, x658267, x658268⟩ := hp658262
    change G _ _ _ _ _ _ _ (.int o658265 :: _) _ _ _
    refine G_widen (cs' := 0) (sl' := 0) (by omega) (by omega) ?_
    refine G_aload_n 1 dr_cJ5_ensureCapacityInternal_d00df_27 rfl ?_
    refine Gp_get 1 hmq658244 heq658244 dr_cJ5_ensureCapacityInternal_d00df_28 (gk_J4 D I) (Nat.le_of_ble_eq_true rfl) wr_7_61 rfl ?_
    refine G_ishl dr_cJ5_ensureCapacityInternal_d00df_31 (G_nam fun z658269 hz658269 => ?_)
    have ez658269 : z658269.toInt = o658265.toInt * 1 := gI_shl (k := 0) hz658269 (by decide) bo658265 (by decide) (by decide)
    have bz658269 : gB z658269 1 33554432 := ⟨by omega, by omega⟩
    refine Gw_callS (As := [.ref q658245, .int z658269]) (gV_ok D I) (cp_640293_Arrays_copyOf l hl0 D I P658242 F658243 q658245 z658269 f658249 n658250 hmq658245 heq658245 (gB_w bz658269 (by decide) (by decide)) bf658249 (by have qa0 : Int32.toInt 0 = 0 := (by decide); omega) (by have qa0 : Int32.toInt 0 = 0 := (by decide); omega)) dr_cJ5_ensureCapacityInternal_d00df_32 ⟨wr_8_21, wr_1_30, wr_8_23, by decide, rfl, (Nat.le_of_ble_eq_true rfl), (Nat.le_of_ble_eq_true rfl)⟩ wr_8_22 (show 0 + 1 ≤ 1 by first | omega | decide) (show 0 + z658269.toInt.toNat ≤ (2 * n658250 + 2 + p658246.toInt.toNat) by first | omega | decide) (Nat.le_of_ble_eq_true rfl) (fun r658273 w658274 dc658270 ds658271 hp658272 => ?_) (fun _ _ _ _ _ z => z.elim)
    obtain ⟨P658277, F658278, q658275, f658276, rfl, rfl, hsb658279, hfr658280, he658281, he658282, hm658283, hq658284, hdc, hds, bf658276⟩ := hp658272
    have hm658285 : q658244 ∈ P658277 := hsb658279 q658244 hmq658244
    have hm658286 : q658245 ∈ P658277 := hsb658279 q658245 hmq658245
    have hq658287 : q658275 ∉ P658242 := fun z => hq658284 ((rSub_rf (P := P658242)) q658275 z)
    have hsb658288 : rSub P658242 P658277 := rSub_tr (rSub_rf (P := P658242)) hsb658279
    have he658289 : F658278 q658244 = .inr (1, [.ref q658245, .int 0, .int p658247, .int p658248]) := (hfr658280 q658244 hmq658244 nm_n).trans heq658244
    have hfr658290 : rFr [] P658242 F658243 F658278 := rFr_call (rSub_rf (P := P658242)) (rFr_rf (W := []) (P := P658242) (F := F658243)) hfr658280 (fun b hb hn => ⟨nm_n, nm_n⟩)
    change G _ _ _ _ _ _ _ (.ref q658275 :: _) _ _ _
    refine G_widen (cs' := 1) (sl' := z658269.toInt.toNat) (by omega) (by omega) ?_
    refine Gp_put 0 hm658285 he658289 dr_cJ5_ensureCapacityInternal_d00df_35 (gk_J4 D I) (Nat.le_of_ble_eq_true rfl) wr_7_60 rfl rfl rfl (Nat.le_of_ble_eq_true rfl) (fun F658291 e658292 n658293 => ?_)
    have he658294 : F658291 q658245 = .inl (I .byte, n658250, .inl f658249) := (n658293 q658245 (rn_ao he658281 he658289)).trans he658281
    have he658295 : F658291 q658275 = .inl (I .byte, z658269.toInt.toNat, .inl f658276) := (n658293 q658275 (fun h => hq658287 (h ▸ hmq658244))).trans he658282
    have he658296 : F658291 q658244 = .inr (1, [.ref q658275, .int 0, .int p658247, .int p658248]) := e658292
    have hfr658297 : rFr [q658244] P658242 F658243 F658291 := rFr_put hfr658290 n658293
    exact G_vretA dr_cJ5_ensureCapacityInternal_d00df_38 rfl (Nat.le_of_ble_eq_true rfl) (show z658269.toInt.toNat ≤ (2 * n658250 + 2 + p658246.toInt.toNat) by omega) (Or.inr (⟨P658277, F658291, q658275, z658269.toInt.toNat, f658276, rfl, rfl, hsb658288, hfr658297, he658296, he658295, hm658283, hq658287, (by omega), (by omega), bf658276, (by have qa0 : Int32.toInt 0 = 0 := (by decide); omega), (by have qa0 : Int32.toInt 0 = 0 := (by decide); omega), (by have qa0 : Int32.toInt 0 = 0 := (by decide); omega), (by have qa0 : Int32.toInt 0 = 0 := (by decide); omega), (by have qa0 : Int32.toInt 0 = 0 := (by decide); omega)⟩))
abbrev ky_658240_AbstractStringBuilder_append : gKey := (cJ5_append_3fe6f, 2, "java/lang/AbstractStringBuilder", (some (FieldType.object "java/lang/AbstractStringBuilder")), [], "append", fun _ _ => True)
def pp_658240_AbstractStringBuilder_append (D : va_G) (I : FieldType → ClassId) (P658228 : List Nat) (F658229 : Nat → va_E) (q658230 : Nat) (q658231 : Nat) (p658232 : Int32) (p658233 : Int32) (p658234 : Int32) (f658235 : Nat → Int32) (n658236 : Nat) : Option Value → va_W → Nat → Nat → Prop := fun r w dc ds => (∃ (F658398 : Nat → va_E) (o658395 : Int32) (f658396 : Nat → Int32), r = some (.ref q658230) ∧ w = va_pl P658228 F658398 ∧ rFr [q658231, q658230] P658228 F658229 F658398 ∧ F658398 q658230 = .inr (1, [.ref q658231, .int 0, .int p658233, .int o658395]) ∧ F658398 q658231 = .inl (I .byte, n658236, .inl f658396) ∧ dc ≤ 0 ∧ ds ≤ 0 ∧ gB o658395 1 16777216 ∧ gF f658396 (-128) 127 ∧ o658395.toInt = p658234.toInt + 1 ∧ o658395.toInt ≤ (n658236 : Int) ∧ (n658236 : Int) ≤ (n658236 : Int) ∧ (n658236 : Int) ≤ 2 * (n658236 : Int) + 2 ∧ ((n658236 : Int) = (n658236 : Int) ∨ (n658236 : Int) < o658395.toInt)) ∨ (∃ (P658403 : List Nat) (F658404 : Nat → va_E) (o658399 : Int32) (q658400 : Nat) (n658401 : Nat) (f658402 : Nat → Int32), r = some (.ref q658230) ∧ w = va_pl P658403 F658404 ∧ rSub P658228 P658403 ∧ rFr [q658230] P658228 F658229 F658404 ∧ F658404 q658230 = .inr (1, [.ref q658400, .int 0, .int p658233, .int o658399]) ∧ F658404 q658400 = .inl (I .byte, n658401, .inl f658402) ∧ q658400 ∈ P658403 ∧ q658400 ∉ P658228 ∧ dc ≤ (min 1 (n658401 - n658236)) ∧ ds ≤ 2 * (n658401 - n658236) ∧ gB o658399 1 16777216 ∧ gF f658402 (-128) 127 ∧ o658399.toInt = p658234.toInt + 1 ∧ o658399.toInt ≤ (n658401 : Int) ∧ (n658236 : Int) ≤ (n658401 : Int) ∧ (n658401 : Int) ≤ 2 * (n658236 : Int) + 2 ∧ ((n658401 : Int) = (n658236 : Int) ∨ (n658236 : Int) < o658399.toInt))
set_option maxRecDepth 100000 in
set_option maxHeartbeats 4000000 in
theorem cp_658240_AbstractStringBuilder_append (l : Launch) (hl0 : l.stackTraces = false) (D : va_G) (I : FieldType → ClassId) (P658228 : List Nat) (F658229 : Nat → va_E) (q658230 : Nat) (q658231 : Nat) (p658232 : Int32) (p658233 : Int32) (p658234 : Int32) (f658235 : Nat → Int32) (n658236 : Nat) (hmq658230 : q658230 ∈ P658228) (hmq658231 : q658231 ∈ P658228) (heq658230 : F658229 q658230 = .inr (1, [.ref q658231, .int 0, .int p658233, .int p658234])) (heq658231 : F658229 q658231 = .inl (I .byte, n658236, .inl f658235)) (bp658232 : gB p658232 0 255) (bp658233 : gB p658233 0 1) (bp658234 : gB p658234 0 16777216) (bf658235 : gF f658235 (-128) 127) (x658237 : (n658236 : Int) ≤ 8388608 - 100000) (x658238 : p658234.toInt ≤ (n658236 : Int)) (x658239 : ((n658236 : Int) ≤ 16777216)) : CtA (gV D I) l yJ5_append_3fe6f cJ5_append_3fe6f 2 (some (FieldType.object "java/lang/AbstractStringBuilder")) 4 84 1 (4 * n658236 + 8) [.ref q658230, .int p658232] (va_pl P658228 F658229) (pp_658240_AbstractStringBuilder_append D I P658228 F658229 q658230 q658231 p658232 p658233 p658234 f658235 n658236) gNA := by
  refine CtA_ofF hl0 (by decide +kernel) (Nat.le_of_ble_eq_true rfl) ?_
  refine G_aload_n 0 dr_cJ5_append_3fe6f_0 rfl ?_
  refine G_aload_n 0 dr_cJ5_append_3fe6f_1 rfl ?_
  refine Gp_get 3 hmq658230 heq658230 dr_cJ5_append_3fe6f_2 (gk_J4 D I) (Nat.le_of_ble_eq_true rfl) wr_7_64 rfl ?_
  refine G_iconst 1 dr_cJ5_append_3fe6f_5 (by decide +kernel) ?_
  refine G_iadd dr_cJ5_append_3fe6f_6 (G_nam fun z658241 hz658241 => ?_)
  have ez658241 : z658241.toInt = p658234.toInt + 1 := by rw [gI_add hz658241 bp658234 (gBl (show Int32.toInt 1 = 1 by decide)) (by decide) (by decide), show Int32.toInt 1 = 1 from by decide]
  have bz658241 : gB z658241 1 16777217 := gB_add (gI_add hz658241 bp658234 (gBl (show Int32.toInt 1 = 1 by decide)) (by decide) (by decide)) bp658234 (gBl (show Int32.toInt 1 = 1 by decide)) (by decide) (by decide)
  refine Gw_callVB (As := [.int z658241]) (gV_ok D I) (cp_658253_AbstractStringBuilder_ensureCapacityInternal l hl0 D I P658228 F658229 q658230 q658231 z658241 p658233 p658234 f658235 n658236 hmq658230 hmq658231 heq658230 heq658231 ⟨by omega, by omega⟩ bp658233 bp658234 bf658235 (by have qa0 : Int32.toInt 0 = 0 := (by decide); omega) (by have qa0 : Int32.toInt 0 = 0 := (by decide); omega)) dr_cJ5_append_3fe6f_7 ⟨wr_8_4, wr_1_19, wr_8_7, by decide, rfl, (Nat.le_of_ble_eq_true rfl), (Nat.le_of_ble_eq_true rfl)⟩ wr_8_6 wr_s_0 hmq658230 heq658230 rfl (show 0 + 1 ≤ 1 by first | omega | decide) (show 0 + (2 * n658236 + 2 + z658241.toInt.toNat) ≤ (4 * n658236 + 8) by first | omega | decide) (Nat.le_of_ble_eq_true rfl) (fun r658306 w658307 dc658303 ds658304 hp658305 => ?_) (fun _ _ _ _ _ z => z.elim)
  rcases hp658305 with hp658308 | hp658309
  · obtain ⟨rfl, rfl, hdc, hds, x658310, x658311, x658312, x658313, x658314⟩ := hp658308
    change G _ _ _ _ _ _ _ _ _ _ _
    refine G_widen (cs' := 0) (sl' := 0) (by omega) (by omega) ?_
    refine G_aload_n 0 dr_cJ5_append_3fe6f_10 rfl ?_
    refine Gw_callVB (As := []) (gV_ok D I) (cp_640145_AbstractStringBuilder_isLatin1 l hl0 D I P658228 F658229 q658230 q658231 p658233 p658234 f658235 n658236 hmq658230 hmq658231 heq658230 heq658231 bp658233 bp658234 bf658235 (by have qa0 : Int32.toInt 0 = 0 := (by decide); omega)) dr_cJ5_append_3fe6f_11 ⟨wr_8_33, wr_1_19, wr_8_37, by decide, rfl, (Nat.le_of_ble_eq_true rfl), (Nat.le_of_ble_eq_true rfl)⟩ wr_8_34 wr_8_36 hmq658230 heq658230 rfl (show 0 + 0 ≤ 1 by first | omega | decide) (show 0 + 0 ≤ (4 * n658236 + 8) by first | omega | decide) (Nat.le_of_ble_eq_true rfl) (fun r658318 w658319 dc658315 ds658316 hp658317 => ?_) (fun _ _ _ _ _ z => z.elim)
    obtain ⟨rfl, rfl, hdc, hds⟩ := hp658317
    change G _ _ _ _ _ _ _ (.int 1 :: _) _ _ _
    refine G_widen (cs' := 0) (sl' := 0) (by omega) (by omega) ?_
    refine G_if_eq 45 dr_cJ5_append_3fe6f_14 (by decide +kernel) (fun hc => absurd hc (by decide)) (fun _ => ?_)
    refine G_iload_n 1 dr_cJ5_append_3fe6f_17 rfl ?_
    refine Gw_callS (As := [.int p658232]) (gV_ok D I) (cp_640154_StringLatin1_canEncode l hl0 D I P658228 F658229 p658232 (gB_w bp658232 (by decide) (by decide))) dr_cJ5_append_3fe6f_18 ⟨wr_8_38, wr_1_28, wr_8_40, by decide, rfl, (Nat.le_of_ble_eq_true rfl), (Nat.le_of_ble_eq_true rfl)⟩ wr_8_39 (show 0 + 0 ≤ 1 by first | omega | decide) (show 0 + 0 ≤ (4 * n658236 + 8) by first | omega | decide) (Nat.le_of_ble_eq_true rfl) (fun r658323 w658324 dc658320 ds658321 hp658322 => ?_) (fun _ _ _ _ _ z => z.elim)
    rcases hp658322 with ⟨rfl, rfl, hdc, hds, r658325⟩ | ⟨rfl, rfl, hdc, hds, r658326⟩
    · exact absurd (show False by omega) not_false
    · change G _ _ _ _ _ _ _ (.int 1 :: _) _ _ _
      refine G_widen (cs' := 0) (sl' := 0) (by omega) (by omega) ?_
      refine G_if_eq 45 dr_cJ5_append_3fe6f_21 (by decide +kernel) (fun hc => absurd hc (by decide)) (fun _ => ?_)
      refine G_aload_n 0 dr_cJ5_append_3fe6f_24 rfl ?_
      refine Gp_get 0 hmq658230 heq658230 dr_cJ5_append_3fe6f_25 (gk_J4 D I) (Nat.le_of_ble_eq_true rfl) wr_7_60 rfl ?_
      refine G_aload_n 0 dr_cJ5_append_3fe6f_28 rfl ?_
      refine G_dup dr_cJ5_append_3fe6f_29 rfl ?_
      refine Gp_get 3 hmq658230 heq658230 dr_cJ5_append_3fe6f_30 (gk_J4 D I) (Nat.le_of_ble_eq_true rfl) wr_7_64 rfl ?_
      refine G_dup_x1 dr_cJ5_append_3fe6f_33 rfl rfl ?_
      refine G_iconst 1 dr_cJ5_append_3fe6f_34 (by decide +kernel) ?_
      refine G_iadd dr_cJ5_append_3fe6f_35 (G_nam fun z658328 hz658328 => ?_)
      have ez658328 : z658328.toInt = p658234.toInt + 1 := by rw [gI_add hz658328 bp658234 (gBl (show Int32.toInt 1 = 1 by decide)) (by decide) (by decide), show Int32.toInt 1 = 1 from by decide]
      have bz658328 : gB z658328 1 16777217 := gB_add (gI_add hz658328 bp658234 (gBl (show Int32.toInt 1 = 1 by decide)) (by decide) (by decide)) bp658234 (gBl (show Int32.toInt 1 = 1 by decide)) (by decide) (by decide)
      refine Gp_put 3 hmq658230 heq658230 dr_cJ5_append_3fe6f_36 (gk_J4 D I) (Nat.le_of_ble_eq_true rfl) wr_7_64 rfl rfl rfl (Nat.le_of_ble_eq_true rfl) (fun F658329 e658330 n658331 => ?_)
      have he658332 : F658329 q658231 = .inl (I .byte, n658236, .inl f658235) := (n658331 q658231 (rn_ao heq658231 heq658230)).trans heq658231
      have he658333 : F658329 q658230 = .inr (1, [.ref q658231, .int 0, .int p658233, .int z658328]) := e658330
      have hfr658334 : rFr [q658230] P658228 F658229 F658329 := rFr_put (rFr_rf (W := []) (P := P658228) (F := F658229)) n658331
      refine G_iload_n 1 dr_cJ5_append_3fe6f_39 rfl ?_
      refine G_i2b dr_cJ5_append_3fe6f_40 (G_nam fun z658335 hz658335 => ?_)
      have bz658335 : gB z658335 (-128) 127 := gB_i2b hz658335
      refine Gp_bast 1 hmq658231 he658332 dr_cJ5_append_3fe6f_41 rfl (gB_inr (by omega) (by omega)) (fun F658336 e658337 n658338 => ?_)
      obtain ⟨f658339, hf658339⟩ : ∃ z, z = upd f658235 p658234.toNatClampNeg (vp_nar .byte z658335) := ⟨_, rfl⟩
      rw [← hf658339] at e658337
      have he658340 : F658336 q658230 = .inr (1, [.ref q658231, .int 0, .int p658233, .int z658328]) := (n658338 q658230 (rn_oa he658333 he658332)).trans he658333
      have he658341 : F658336 q658231 = .inl (I .byte, n658236, .inl f658339) := e658337
      have hfr658342 : rFr [q658231, q658230] P658228 F658229 F658336 := rFr_put hfr658334 n658338
      have bf658339 : gF f658339 (-128) 127 := gF_upd hf658339 bf658235 gB_byte
      refine G_goto 75 dr_cJ5_append_3fe6f_42 (by decide +kernel) ?_
      refine G_aload_n 0 dr_cJ5_append_3fe6f_75 rfl ?_
      exact G_aretA (FieldType.object "java/lang/AbstractStringBuilder") dr_cJ5_append_3fe6f_76 rfl (by first | exact Or.inl ⟨_, rfl⟩ | exact Or.inr ⟨_, rfl⟩) (Or.inr ⟨_, rfl⟩) (Nat.le_of_ble_eq_true rfl) (Nat.le_of_ble_eq_true rfl) (Or.inl ⟨F658336, z658328, f658339, rfl, rfl, hfr658342, he658340, he658341, (Nat.le_of_ble_eq_true rfl), (Nat.le_of_ble_eq_true rfl), ⟨by omega, by omega⟩, bf658339, (by have qa0 : Int32.toInt 0 = 0 := (by decide); omega), (by have qa0 : Int32.toInt 0 = 0 := (by decide); omega), (by have qa0 : Int32.toInt 0 = 0 := (by decide); omega), (by have qa0 : Int32.toInt 0 = 0 := (by decide); omega), (by have qa0 : Int32.toInt 0 = 0 := (by decide); omega)⟩)
  · obtain ⟨P658351, F658352, q658343, n658344, f658345, rfl, rfl, hsb658353, hfr658354, he658355, he658356, hm658357, hq658358, hdc, hds, bf658345, x658346, x658347, x658348, x658349, x658350⟩ := hp658309
    have hm658359 : q658230 ∈ P658351 := hsb658353 q658230 hmq658230
    have hm658360 : q658231 ∈ P658351 := hsb658353 q658231 hmq658231
    have hq658361 : q658343 ∉ P658228 := fun z => hq658358 ((rSub_rf (P := P658228)) q658343 z)
    have hsb658362 : rSub P658228 P658351 := rSub_tr (rSub_rf (P := P658228)) hsb658353
    have he658363 : F658352 q658231 = .inl (I .byte, n658236, .inl f658235) := (hfr658354 q658231 hmq658231 (nm_c (rn_ao heq658231 heq658230) nm_n)).trans heq658231
    have hfr658364 : rFr [q658230] P658228 F658229 F658352 := rFr_call (rSub_rf (P := P658228)) (rFr_rf (W := []) (P := P658228) (F := F658229)) hfr658354 (fun b hb hn => ⟨nm_n, (nm_c (fun e => hn (e ▸ List.mem_cons_self)) nm_n)⟩)
    change G _ _ _ _ _ _ _ _ _ _ _
    refine G_widen (cs' := (min 1 (n658344 - n658236))) (sl' := 2 * (n658344 - n658236)) (by omega) (by omega) ?_
    refine G_aload_n 0 dr_cJ5_append_3fe6f_10 rfl ?_
    refine Gw_callVB (As := []) (gV_ok D I) (cp_640145_AbstractStringBuilder_isLatin1 l hl0 D I P658351 F658352 q658230 q658343 p658233 p658234 f658345 n658344 hm658359 hm658357 he658355 he658356 bp658233 bp658234 bf658345 (by have qa0 : Int32.toInt 0 = 0 := (by decide); omega)) dr_cJ5_append_3fe6f_11 ⟨wr_8_33, wr_1_19, wr_8_37, by decide, rfl, (Nat.le_of_ble_eq_true rfl), (Nat.le_of_ble_eq_true rfl)⟩ wr_8_34 wr_8_36 hm658359 he658355 rfl (show (min 1 (n658344 - n658236)) + 0 ≤ 1 by first | omega | decide) (show 2 * (n658344 - n658236) + 0 ≤ (4 * n658236 + 8) by first | omega | decide) (Nat.le_of_ble_eq_true rfl) (fun r658368 w658369 dc658365 ds658366 hp658367 => ?_) (fun _ _ _ _ _ z => z.elim)
    obtain ⟨rfl, rfl, hdc, hds⟩ := hp658367
    change G _ _ _ _ _ _ _ (.int 1 :: _) _ _ _
    refine G_widen (cs' := (min 1 (n658344 - n658236)) + 0) (sl' := 2 * (n658344 - n658236) + 0) (by omega) (by omega) ?_
    refine G_if_eq 45 dr_cJ5_append_3fe6f_14 (by decide +kernel) (fun hc => absurd hc (by decide)) (fun _ => ?_)
    refine G_iload_n 1 dr_cJ5_append_3fe6f_17 rfl ?_
    refine Gw_callS (As := [.int p658232]) (gV_ok D I) (cp_640154_StringLatin1_canEncode l hl0 D I P658351 F658352 p658232 (gB_w bp658232 (by decide) (by decide))) dr_cJ5_append_3fe6f_18 ⟨wr_8_38, wr_1_28, wr_8_40, by decide, rfl, (Nat.le_of_ble_eq_true rfl), (Nat.le_of_ble_eq_true rfl)⟩ wr_8_39 (show (min 1 (n658344 - n658236)) + 0 + 0 ≤ 1 by first | omega | decide) (show 2 * (n658344 - n658236) + 0 + 0 ≤ (4 * n658236 + 8) by first | omega | decide) (Nat.le_of_ble_eq_true rfl) (fun r658373 w658374 dc658370 ds658371 hp658372 => ?_) (fun _ _ _ _ _ z => z.elim)
    rcases hp658372 with ⟨rfl, rfl, hdc, hds, r658375⟩ | ⟨rfl, rfl, hdc, hds, r658376⟩
    · exact absurd (show False by omega) not_false
    · change G _ _ _ _ _ _ _ (.int 1 :: _) _ _ _
      refine G_widen (cs' := (min 1 (n658344 - n658236)) + 0 + 0) (sl' := 2 * (n658344 - n658236) + 0 + 0) (by omega) (by omega) ?_
      refine G_if_eq 45 dr_cJ5_append_3fe6f_21 (by decide +kernel) (fun hc => absurd hc (by decide)) (fun _ => ?_)
      refine G_aload_n 0 dr_cJ5_append_3fe6f_24 rfl ?_
      refine Gp_get 0 hm658359 he658355 dr_cJ5_append_3fe6f_25 (gk_J4 D I) (Nat.le_of_ble_eq_true rfl) wr_7_60 rfl ?_
      refine G_aload_n 0 dr_cJ5_append_3fe6f_28 rfl ?_
      refine G_dup dr_cJ5_append_3fe6f_29 rfl ?_
      refine Gp_get 3 hm658359 he658355 dr_cJ5_append_3fe6f_30 (gk_J4 D I) (Nat.le_of_ble_eq_true rfl) wr_7_64 rfl ?_
      refine G_dup_x1 dr_cJ5_append_3fe6f_33 rfl rfl ?_
      refine G_iconst 1 dr_cJ5_append_3fe6f_34 (by decide +kernel) ?_
      refine G_iadd dr_cJ5_append_3fe6f_35 (G_nam fun z658378 hz658378 => ?_)
      have ez658378 : z658378.toInt = p658234.toInt + 1 := by rw [gI_add hz658378 bp658234 (gBl (show Int32.toInt 1 = 1 by decide)) (by decide) (by decide), show Int32.toInt 1 = 1 from by decide]
      have bz658378 : gB z658378 1 16777217 := gB_add (gI_add hz658378 bp658234 (gBl (show Int32.toInt 1 = 1 by decide)) (by decide) (by decide)) bp658234 (gBl (show Int32.toInt 1 = 1 by decide)) (by decide) (by decide)
      refine Gp_put 3 hm658359 he658355 dr_cJ5_append_3fe6f_36 (gk_J4 D I) (Nat.le_of_ble_eq_true rfl) wr_7_64 rfl rfl rfl (Nat.le_of_ble_eq_true rfl) (fun F658379 e658380 n658381 => ?_)
      have he658382 : F658379 q658231 = .inl (I .byte, n658236, .inl f658235) := (n658381 q658231 (rn_ao he658363 he658355)).trans he658363
      have he658383 : F658379 q658343 = .inl (I .byte, n658344, .inl f658345) := (n658381 q658343 (fun h => hq658361 (h ▸ hmq658230))).trans he658356
      have he658384 : F658379 q658230 = .inr (1, [.ref q658343, .int 0, .int p658233, .int z658378]) := e658380
      have hfr658385 : rFr [q658230] P658228 F658229 F658379 := rFr_put' List.mem_cons_self hfr658364 n658381
      refine G_iload_n 1 dr_cJ5_append_3fe6f_39 rfl ?_
      refine G_i2b dr_cJ5_append_3fe6f_40 (G_nam fun z658386 hz658386 => ?_)
      have bz658386 : gB z658386 (-128) 127 := gB_i2b hz658386
      refine Gp_bast 1 hm658357 he658383 dr_cJ5_append_3fe6f_41 rfl (gB_inr (by omega) (by omega)) (fun F658387 e658388 n658389 => ?_)
      obtain ⟨f658390, hf658390⟩ : ∃ z, z = upd f658345 p658234.toNatClampNeg (vp_nar .byte z658386) := ⟨_, rfl⟩
      rw [← hf658390] at e658388
      have he658391 : F658387 q658231 = .inl (I .byte, n658236, .inl f658235) := (n658389 q658231 (fun h => hq658361 (h ▸ hmq658231))).trans he658382
      have he658392 : F658387 q658230 = .inr (1, [.ref q658343, .int 0, .int p658233, .int z658378]) := (n658389 q658230 (fun h => hq658361 (h ▸ hmq658230))).trans he658384
      have he658393 : F658387 q658343 = .inl (I .byte, n658344, .inl f658390) := e658388
      have hfr658394 : rFr [q658230] P658228 F658229 F658387 := rFr_newp hq658361 hfr658385 n658389
      have bf658390 : gF f658390 (-128) 127 := gF_upd hf658390 bf658345 gB_byte
      refine G_goto 75 dr_cJ5_append_3fe6f_42 (by decide +kernel) ?_
      refine G_aload_n 0 dr_cJ5_append_3fe6f_75 rfl ?_
      exact G_aretA (FieldType.object "java/lang/AbstractStringBuilder") dr_cJ5_append_3fe6f_76 rfl (by first | exact Or.inl ⟨_, rfl⟩ | exact Or.inr ⟨_, rfl⟩) (Or.inr ⟨_, rfl⟩) (show (min 1 (n658344 - n658236)) + 0 + 0 ≤ 1 by omega) (show 2 * (n658344 - n658236) + 0 + 0 ≤ (4 * n658236 + 8) by omega) (Or.inr (⟨P658351, F658387, z658378, q658343, n658344, f658390, rfl, rfl, hsb658362, hfr658394, he658392, he658393, hm658357, hq658361, (by omega), (by omega), ⟨by omega, by omega⟩, bf658390, (by have qa0 : Int32.toInt 0 = 0 := (by decide); omega), (by have qa0 : Int32.toInt 0 = 0 := (by decide); omega), (by have qa0 : Int32.toInt 0 = 0 := (by decide); omega), (by have qa0 : Int32.toInt 0 = 0 := (by decide); omega), (by have qa0 : Int32.toInt 0 = 0 := (by decide); omega)⟩))
abbrev ky_658227_StringBuilder_append : gKey := (cJ4_append_cf468, 2, "java/lang/StringBuilder", (some (FieldType.object "java/lang/StringBuilder")), [], "append", fun _ _ => True)
def pp_658227_StringBuilder_append (D : va_G) (I : FieldType → ClassId) (P658215 : List Nat) (F658216 : Nat → va_E) (q658217 : Nat) (q658218 : Nat) (p658219 : Int32) (p658220 : Int32) (p658221 : Int32) (f658222 : Nat → Int32) (n658223 : Nat) : Option Value → va_W → Nat → Nat → Prop := fun r w dc ds => (∃ (F658451 : Nat → va_E) (o658448 : Int32) (f658449 : Nat → Int32), r = some (.ref q658217) ∧ w = va_pl P658215 F658451 ∧ rFr [q658218, q658217] P658215 F658216 F658451 ∧ F658451 q658217 = .inr (1, [.ref q658218, .int 0, .int p658220, .int o658448]) ∧ F658451 q658218 = .inl (I .byte, n658223, .inl f658449) ∧ dc ≤ 0 ∧ ds ≤ 0 ∧ gB o658448 1 16777216 ∧ gF f658449 (-128) 127 ∧ o658448.toInt = p658221.toInt + 1 ∧ o658448.toInt ≤ (n658223 : Int) ∧ (n658223 : Int) ≤ (n658223 : Int) ∧ (n658223 : Int) ≤ 2 * (n658223 : Int) + 2 ∧ ((n658223 : Int) = (n658223 : Int) ∨ (n658223 : Int) < o658448.toInt)) ∨ (∃ (P658456 : List Nat) (F658457 : Nat → va_E) (o658452 : Int32) (q658453 : Nat) (n658454 : Nat) (f658455 : Nat → Int32), r = some (.ref q658217) ∧ w = va_pl P658456 F658457 ∧ rSub P658215 P658456 ∧ rFr [q658217] P658215 F658216 F658457 ∧ F658457 q658217 = .inr (1, [.ref q658453, .int 0, .int p658220, .int o658452]) ∧ F658457 q658453 = .inl (I .byte, n658454, .inl f658455) ∧ q658453 ∈ P658456 ∧ q658453 ∉ P658215 ∧ dc ≤ (min 1 (n658454 - n658223)) ∧ ds ≤ 2 * (n658454 - n658223) ∧ gB o658452 1 16777216 ∧ gF f658455 (-128) 127 ∧ o658452.toInt = p658221.toInt + 1 ∧ o658452.toInt ≤ (n658454 : Int) ∧ (n658223 : Int) ≤ (n658454 : Int) ∧ (n658454 : Int) ≤ 2 * (n658223 : Int) + 2 ∧ ((n658454 : Int) = (n658223 : Int) ∨ (n658223 : Int) < o658452.toInt))
set_option maxRecDepth 100000 in
set_option maxHeartbeats 4000000 in
theorem cp_658227_StringBuilder_append (l : Launch) (hl0 : l.stackTraces = false) (D : va_G) (I : FieldType → ClassId) (P658215 : List Nat) (F658216 : Nat → va_E) (q658217 : Nat) (q658218 : Nat) (p658219 : Int32) (p658220 : Int32) (p658221 : Int32) (f658222 : Nat → Int32) (n658223 : Nat) (hmq658217 : q658217 ∈ P658215) (hmq658218 : q658218 ∈ P658215) (heq658217 : F658216 q658217 = .inr (1, [.ref q658218, .int 0, .int p658220, .int p658221])) (heq658218 : F658216 q658218 = .inl (I .byte, n658223, .inl f658222)) (bp658219 : gB p658219 0 255) (bp658220 : gB p658220 0 1) (bp658221 : gB p658221 0 16777216) (bf658222 : gF f658222 (-128) 127) (x658224 : (n658223 : Int) ≤ 8388608 - 100000) (x658225 : p658221.toInt ≤ (n658223 : Int)) (x658226 : ((n658223 : Int) ≤ 16777216)) : CtA (gV D I) l yJ4_append_cf468 cJ4_append_cf468 2 (some (FieldType.object "java/lang/StringBuilder")) 5 105 1 (4 * n658223 + 8) [.ref q658217, .int p658219] (va_pl P658215 F658216) (pp_658227_StringBuilder_append D I P658215 F658216 q658217 q658218 p658219 p658220 p658221 f658222 n658223) gNA := by
  refine CtA_ofF hl0 (by decide +kernel) (Nat.le_of_ble_eq_true rfl) ?_
  refine G_aload_n 0 dr_cJ4_append_cf468_0 rfl ?_
  refine G_iload_n 1 dr_cJ4_append_cf468_1 rfl ?_
  refine Gw_callSU (As := [.int p658219]) (gV_ok D I) (cp_658240_AbstractStringBuilder_append l hl0 D I P658215 F658216 q658217 q658218 p658219 p658220 p658221 f658222 n658223 hmq658217 hmq658218 heq658217 heq658218 bp658219 bp658220 bp658221 bf658222 (by have qa0 : Int32.toInt 0 = 0 := (by decide); omega) (by have qa0 : Int32.toInt 0 = 0 := (by decide); omega) (by have qa0 : Int32.toInt 0 = 0 := (by decide); omega)) dr_cJ4_append_cf468_2 ⟨wr_8_1, wr_1_19, wr_8_3, by decide, rfl, (Nat.le_of_ble_eq_true rfl), (Nat.le_of_ble_eq_true rfl)⟩ wr_8_2 wr_11_224 wr_7_73 wr_7_44 (by decide) hmq658217 heq658217 rfl (show 0 + 1 ≤ 1 by first | omega | decide) (show 0 + (4 * n658223 + 8) ≤ (4 * n658223 + 8) by first | omega | decide) (Nat.le_of_ble_eq_true rfl) (fun r658408 w658409 dc658405 ds658406 hp658407 => ?_)
  rcases hp658407 with hp658410 | hp658411
  · obtain ⟨F658419, o658412, f658413, rfl, rfl, hfr658421, he658422, he658423, hdc, hds, bo658412, bf658413, x658414, x658415, x658416, x658417, x658418⟩ := hp658410
    have hfr658424 : rFr [q658218, q658217] P658215 F658216 F658419 := rFr_call (rSub_rf (P := P658215)) (rFr_rf (W := []) (P := P658215) (F := F658216)) hfr658421 (fun b hb hn => ⟨nm_n, (nm_c (fun e => hn (e ▸ List.mem_cons_self)) (nm_c (fun e => hn (e ▸ (List.mem_cons_of_mem _ List.mem_cons_self))) nm_n))⟩)
    change G _ _ _ _ _ _ _ (.ref q658217 :: _) _ _ _
    refine G_widen (cs' := 0) (sl' := 0) (by omega) (by omega) ?_
    refine G_pop dr_cJ4_append_cf468_5 rfl ?_
    refine G_aload_n 0 dr_cJ4_append_cf468_6 rfl ?_
    exact G_aretA (FieldType.object "java/lang/StringBuilder") dr_cJ4_append_cf468_7 rfl (by first | exact Or.inl ⟨_, rfl⟩ | exact Or.inr ⟨_, rfl⟩) (Or.inr ⟨_, rfl⟩) (Nat.le_of_ble_eq_true rfl) (Nat.le_of_ble_eq_true rfl) (Or.inl ⟨F658419, o658412, f658413, rfl, rfl, hfr658424, he658422, he658423, (Nat.le_of_ble_eq_true rfl), (Nat.le_of_ble_eq_true rfl), bo658412, bf658413, (by have qa0 : Int32.toInt 0 = 0 := (by decide); omega), (by have qa0 : Int32.toInt 0 = 0 := (by decide); omega), (by have qa0 : Int32.toInt 0 = 0 := (by decide); omega), (by have qa0 : Int32.toInt 0 = 0 := (by decide); omega), (by have qa0 : Int32.toInt 0 = 0 := (by decide); omega)⟩)
  · obtain ⟨P658434, F658435, o658425, q658426, n658427, f658428, rfl, rfl, hsb658436, hfr658437, he658438, he658439, hm658440, hq658441, hdc, hds, bo658425, bf658428, x658429, x658430, x658431, x658432, x658433⟩ := hp658411
    have hm658442 : q658217 ∈ P658434 := hsb658436 q658217 hmq658217
    have hm658443 : q658218 ∈ P658434 := hsb658436 q658218 hmq658218
    have hq658444 : q658426 ∉ P658215 := fun z => hq658441 ((rSub_rf (P := P658215)) q658426 z)
    have hsb658445 : rSub P658215 P658434 := rSub_tr (rSub_rf (P := P658215)) hsb658436
    have he658446 : F658435 q658218 = .inl (I .byte, n658223, .inl f658222) := (hfr658437 q658218 hmq658218 (nm_c (rn_ao heq658218 heq658217) nm_n)).trans heq658218
    have hfr658447 : rFr [q658217] P658215 F658216 F658435 := rFr_call (rSub_rf (P := P658215)) (rFr_rf (W := []) (P := P658215) (F := F658216)) hfr658437 (fun b hb hn => ⟨nm_n, (nm_c (fun e => hn (e ▸ List.mem_cons_self)) nm_n)⟩)
    change G _ _ _ _ _ _ _ (.ref q658217 :: _) _ _ _
    refine G_widen (cs' := (min 1 (n658427 - n658223))) (sl' := 2 * (n658427 - n658223)) (by omega) (by omega) ?_
    refine G_pop dr_cJ4_append_cf468_5 rfl ?_
    refine G_aload_n 0 dr_cJ4_append_cf468_6 rfl ?_
    exact G_aretA (FieldType.object "java/lang/StringBuilder") dr_cJ4_append_cf468_7 rfl (by first | exact Or.inl ⟨_, rfl⟩ | exact Or.inr ⟨_, rfl⟩) (Or.inr ⟨_, rfl⟩) (show (min 1 (n658427 - n658223)) ≤ 1 by omega) (show 2 * (n658427 - n658223) ≤ (4 * n658223 + 8) by omega) (Or.inr (⟨P658434, F658435, o658425, q658426, n658427, f658428, rfl, rfl, hsb658445, hfr658447, he658438, he658439, hm658440, hq658444, (by omega), (by omega), bo658425, bf658428, (by have qa0 : Int32.toInt 0 = 0 := (by decide); omega), (by have qa0 : Int32.toInt 0 = 0 := (by decide); omega), (by have qa0 : Int32.toInt 0 = 0 := (by decide); omega), (by have qa0 : Int32.toInt 0 = 0 := (by decide); omega), (by have qa0 : Int32.toInt 0 = 0 := (by decide); omega)⟩))
abbrev ky_658483_AbstractStringBuilder_append : gKey := (cJ5_append_c97b9, 4, "java/lang/AbstractStringBuilder", (some (FieldType.object "java/lang/AbstractStringBuilder")), [], "append", fun _ _ => True)
def pp_658483_AbstractStringBuilder_append (D : va_G) (I : FieldType → ClassId) (P658471 : List Nat) (F658472 : Nat → va_E) (q658473 : Nat) (q658474 : Nat) (p658475 : Int32) (p658476 : Int32) (p658477 : Int32) (f658478 : Nat → Int32) (n658479 : Nat) : Option Value → va_W → Nat → Nat → Prop := fun r w dc ds => (∃ (F658579 : Nat → va_E) (o658576 : Int32) (f658577 : Nat → Int32), r = some (.ref q658473) ∧ w = va_pl P658471 F658579 ∧ rFr [q658473, q658474] P658471 F658472 F658579 ∧ F658579 q658473 = .inr (1, [.ref q658474, .int 0, .int p658476, .int o658576]) ∧ F658579 q658474 = .inl (I .byte, n658479, .inl f658577) ∧ dc ≤ 0 ∧ ds ≤ 0 ∧ gB o658576 1 16777216 ∧ gF f658577 (-128) 127 ∧ p658477.toInt ≤ o658576.toInt ∧ o658576.toInt ≤ p658477.toInt + 11 ∧ o658576.toInt ≤ (n658479 : Int) ∧ (n658479 : Int) ≤ (n658479 : Int) ∧ ((n658479 : Int) ≤ 2 * (n658479 : Int) + 2 ∨ (n658479 : Int) ≤ p658477.toInt + 11) ∧ ((n658479 : Int) = (n658479 : Int) ∨ (n658479 : Int) < o658576.toInt)) ∨ (∃ (P658584 : List Nat) (F658585 : Nat → va_E) (o658580 : Int32) (q658581 : Nat) (n658582 : Nat) (f658583 : Nat → Int32), r = some (.ref q658473) ∧ w = va_pl P658584 F658585 ∧ rSub P658471 P658584 ∧ rFr [q658473] P658471 F658472 F658585 ∧ F658585 q658473 = .inr (1, [.ref q658581, .int 0, .int p658476, .int o658580]) ∧ F658585 q658581 = .inl (I .byte, n658582, .inl f658583) ∧ q658581 ∈ P658584 ∧ q658581 ∉ P658471 ∧ dc ≤ (min 1 (n658582 - n658479)) ∧ ds ≤ 2 * (n658582 - n658479) ∧ gB o658580 1 16777216 ∧ gF f658583 (-128) 127 ∧ p658477.toInt ≤ o658580.toInt ∧ o658580.toInt ≤ p658477.toInt + 11 ∧ o658580.toInt ≤ (n658582 : Int) ∧ (n658479 : Int) ≤ (n658582 : Int) ∧ ((n658582 : Int) ≤ 2 * (n658479 : Int) + 2 ∨ (n658582 : Int) ≤ p658477.toInt + 11) ∧ ((n658582 : Int) = (n658479 : Int) ∨ (n658479 : Int) < o658580.toInt))
set_option maxRecDepth 100000 in
set_option maxHeartbeats 4000000 in
theorem cp_658483_AbstractStringBuilder_append (l : Launch) (hl0 : l.stackTraces = false) (D : va_G) (I : FieldType → ClassId) (P658471 : List Nat) (F658472 : Nat → va_E) (q658473 : Nat) (q658474 : Nat) (p658475 : Int32) (p658476 : Int32) (p658477 : Int32) (f658478 : Nat → Int32) (n658479 : Nat) (hmq658473 : q658473 ∈ P658471) (hmq658474 : q658474 ∈ P658471) (heq658473 : F658472 q658473 = .inr (1, [.ref q658474, .int 0, .int p658476, .int p658477])) (heq658474 : F658472 q658474 = .inl (I .byte, n658479, .inl f658478)) (bp658476 : gB p658476 0 1) (bp658477 : gB p658477 0 16777216) (bf658478 : gF f658478 (-128) 127) (x658480 : (n658479 : Int) ≤ 8388608 - 100000) (x658481 : p658477.toInt ≤ (n658479 : Int)) (x658482 : ((n658479 : Int) ≤ 16777216)) : CtA (gV D I) l yJ5_append_c97b9 cJ5_append_c97b9 4 (some (FieldType.object "java/lang/AbstractStringBuilder")) 4 84 1 (4 * n658479 + 64) [.ref q658473, .int p658475] (va_pl P658471 F658472) (pp_658483_AbstractStringBuilder_append D I P658471 F658472 q658473 q658474 p658475 p658476 p658477 f658478 n658479) gNA := by
  refine CtA_ofF hl0 (by decide +kernel) (Nat.le_of_ble_eq_true rfl) ?_
  have bp658475 := gB_any p658475
  refine G_aload_n 0 dr_cJ5_append_c97b9_0 rfl ?_
  refine Gp_get 3 hmq658473 heq658473 dr_cJ5_append_c97b9_1 (gk_J4 D I) (Nat.le_of_ble_eq_true rfl) wr_7_64 rfl ?_
  refine G_istore_n (L' := [(2, .int p658477), (0, .ref q658473), (1, .int p658475)]) dr_cJ5_append_c97b9_4 (Nat.le_of_ble_eq_true rfl) rfl ?_
  refine G_iload_n 0 dr_cJ5_append_c97b9_5 rfl ?_
  refine G_iload_n 2 dr_cJ5_append_c97b9_6 rfl ?_
  refine Gw_callS (As := [.int p658475]) (gV_ok D I) (cp_648931_Integer_stringSize l hl0 D I P658471 F658472 p658475 ) dr_cJ5_append_c97b9_7 ⟨wr_8_112, wr_1_35, wr_8_114, by decide, rfl, (Nat.le_of_ble_eq_true rfl), (Nat.le_of_ble_eq_true rfl)⟩ wr_8_113 (show 0 + 0 ≤ 1 by first | omega | decide) (show 0 + 0 ≤ (4 * n658479 + 64) by first | omega | decide) (Nat.le_of_ble_eq_true rfl) (fun r658487 w658488 dc658484 ds658485 hp658486 => ?_) (fun _ _ _ _ _ z => z.elim)
  obtain ⟨o658489, rfl, rfl, hdc, hds, bo658489, x658490⟩ := hp658486
  change G _ _ _ _ _ _ _ (.int o658489 :: _) _ _ _
  refine G_widen (cs' := 0) (sl' := 0) (by omega) (by omega) ?_
  refine G_iadd dr_cJ5_append_c97b9_10 (G_nam fun z658491 hz658491 => ?_)
  have ez658491 : z658491.toInt = p658477.toInt + o658489.toInt := by rw [gI_add hz658491 bp658477 bo658489 (by decide) (by decide)]
  have bz658491 : gB z658491 1 16777227 := gB_add (gI_add hz658491 bp658477 bo658489 (by decide) (by decide)) bp658477 bo658489 (by decide) (by decide)
  refine G_istore_n (L' := [(3, .int z658491), (2, .int p658477), (0, .ref q658473), (1, .int p658475)]) dr_cJ5_append_c97b9_11 (Nat.le_of_ble_eq_true rfl) rfl ?_
  refine G_aload_n 2 dr_cJ5_append_c97b9_12 rfl ?_
  refine G_iload_n 0 dr_cJ5_append_c97b9_13 rfl ?_
  refine Gw_callVB (As := [.int z658491]) (gV_ok D I) (cp_658253_AbstractStringBuilder_ensureCapacityInternal l hl0 D I P658471 F658472 q658473 q658474 z658491 p658476 p658477 f658478 n658479 hmq658473 hmq658474 heq658473 heq658474 ⟨by omega, by omega⟩ bp658476 bp658477 bf658478 (by have qa0 : Int32.toInt 0 = 0 := (by decide); omega) (by have qa0 : Int32.toInt 0 = 0 := (by decide); omega)) dr_cJ5_append_c97b9_14 ⟨wr_8_4, wr_1_19, wr_8_7, by decide, rfl, (Nat.le_of_ble_eq_true rfl), (Nat.le_of_ble_eq_true rfl)⟩ wr_8_6 wr_s_0 hmq658473 heq658473 rfl (show 0 + 1 ≤ 1 by first | omega | decide) (show 0 + (2 * n658479 + 2 + z658491.toInt.toNat) ≤ (4 * n658479 + 64) by first | omega | decide) (Nat.le_of_ble_eq_true rfl) (fun r658495 w658496 dc658492 ds658493 hp658494 => ?_) (fun _ _ _ _ _ z => z.elim)
  rcases hp658494 with hp658497 | hp658498
  · obtain ⟨rfl, rfl, hdc, hds, x658499, x658500, x658501, x658502, x658503⟩ := hp658497
    change G _ _ _ _ _ _ _ _ _ _ _
    refine G_widen (cs' := 0) (sl' := 0) (by omega) (by omega) ?_
    refine G_aload_n 2 dr_cJ5_append_c97b9_17 rfl ?_
    refine Gw_callVB (As := []) (gV_ok D I) (cp_640145_AbstractStringBuilder_isLatin1 l hl0 D I P658471 F658472 q658473 q658474 p658476 p658477 f658478 n658479 hmq658473 hmq658474 heq658473 heq658474 bp658476 bp658477 bf658478 (by have qa0 : Int32.toInt 0 = 0 := (by decide); omega)) dr_cJ5_append_c97b9_18 ⟨wr_8_33, wr_1_19, wr_8_37, by decide, rfl, (Nat.le_of_ble_eq_true rfl), (Nat.le_of_ble_eq_true rfl)⟩ wr_8_34 wr_8_36 hmq658473 heq658473 rfl (show 0 + 0 ≤ 1 by first | omega | decide) (show 0 + 0 ≤ (4 * n658479 + 64) by first | omega | decide) (Nat.le_of_ble_eq_true rfl) (fun r658507 w658508 dc658504 ds658505 hp658506 => ?_) (fun _ _ _ _ _ z => z.elim)
    obtain ⟨rfl, rfl, hdc, hds⟩ := hp658506
    change G _ _ _ _ _ _ _ (.int 1 :: _) _ _ _
    refine G_widen (cs' := 0) (sl' := 0) (by omega) (by omega) ?_
    refine G_if_eq 37 dr_cJ5_append_c97b9_21 (by decide +kernel) (fun hc => absurd hc (by decide)) (fun _ => ?_)
    refine G_iload_n 3 dr_cJ5_append_c97b9_24 rfl ?_
    refine G_iload_n 0 dr_cJ5_append_c97b9_25 rfl ?_
    refine G_aload_n 2 dr_cJ5_append_c97b9_26 rfl ?_
    refine Gp_get 0 hmq658473 heq658473 dr_cJ5_append_c97b9_27 (gk_J4 D I) (Nat.le_of_ble_eq_true rfl) wr_7_60 rfl ?_
    refine Gw_callS (As := [.int p658475, .int z658491, .ref q658474]) (gV_ok D I) (cp_649108_Integer_getChars l hl0 D I P658471 F658472 q658474 p658475 z658491 f658478 n658479 hmq658474 heq658474 ⟨by omega, by omega⟩ bf658478 (by have qa0 : Int32.toInt 0 = 0 := (by decide); omega) (by have q10 : Int32.toInt 10 = 10 := (by decide); have q11 : Int32.toInt 11 = 11 := (by decide); first | exact dgS_up (by omega) (by omega) x658490 (by omega)) (by have qa0 : Int32.toInt 0 = 0 := (by decide); omega)) dr_cJ5_append_c97b9_30 ⟨wr_8_115, wr_1_35, wr_8_117, by decide, rfl, (Nat.le_of_ble_eq_true rfl), (Nat.le_of_ble_eq_true rfl)⟩ wr_8_116 (show 0 + 0 ≤ 1 by first | omega | decide) (show 0 + 0 ≤ (4 * n658479 + 64) by first | omega | decide) (Nat.le_of_ble_eq_true rfl) (fun r658512 w658513 dc658509 ds658510 hp658511 => ?_) (fun _ _ _ _ _ z => z.elim)
    obtain ⟨F658516, o658514, f658515, rfl, rfl, hfr658518, he658519, hdc, hds, bo658514, bf658515⟩ := hp658511
    have he658520 : F658516 q658473 = .inr (1, [.ref q658474, .int 0, .int p658476, .int p658477]) := (hfr658518 q658473 hmq658473 (nm_c (rn_oa heq658473 heq658474) nm_n)).trans heq658473
    have hfr658521 : rFr [q658474] P658471 F658472 F658516 := rFr_call (rSub_rf (P := P658471)) (rFr_rf (W := []) (P := P658471) (F := F658472)) hfr658518 (fun b hb hn => ⟨nm_n, (nm_c (fun e => hn (e ▸ List.mem_cons_self)) nm_n)⟩)
    change G _ _ _ _ _ _ _ (.int o658514 :: _) _ _ _
    refine G_widen (cs' := 0) (sl' := 0) (by omega) (by omega) ?_
    refine G_pop dr_cJ5_append_c97b9_33 rfl ?_
    refine G_goto 48 dr_cJ5_append_c97b9_34 (by decide +kernel) ?_
    refine G_aload_n 2 dr_cJ5_append_c97b9_48 rfl ?_
    refine G_iload_n 0 dr_cJ5_append_c97b9_49 rfl ?_
    refine Gp_put 3 hmq658473 he658520 dr_cJ5_append_c97b9_50 (gk_J4 D I) (Nat.le_of_ble_eq_true rfl) wr_7_64 rfl rfl rfl (Nat.le_of_ble_eq_true rfl) (fun F658522 e658523 n658524 => ?_)
    have he658525 : F658522 q658474 = .inl (I .byte, n658479, .inl f658515) := (n658524 q658474 (rn_ao he658519 he658520)).trans he658519
    have he658526 : F658522 q658473 = .inr (1, [.ref q658474, .int 0, .int p658476, .int z658491]) := e658523
    have hfr658527 : rFr [q658473, q658474] P658471 F658472 F658522 := rFr_put hfr658521 n658524
    refine G_aload_n 2 dr_cJ5_append_c97b9_53 rfl ?_
    exact G_aretA (FieldType.object "java/lang/AbstractStringBuilder") dr_cJ5_append_c97b9_54 rfl (by first | exact Or.inl ⟨_, rfl⟩ | exact Or.inr ⟨_, rfl⟩) (Or.inr ⟨_, rfl⟩) (Nat.le_of_ble_eq_true rfl) (Nat.le_of_ble_eq_true rfl) (Or.inl ⟨F658522, z658491, f658515, rfl, rfl, hfr658527, he658526, he658525, (Nat.le_of_ble_eq_true rfl), (Nat.le_of_ble_eq_true rfl), ⟨by omega, by omega⟩, bf658515, (by have qa0 : Int32.toInt 0 = 0 := (by decide); omega), (by have qa0 : Int32.toInt 0 = 0 := (by decide); omega), (by have qa0 : Int32.toInt 0 = 0 := (by decide); omega), (by have qa0 : Int32.toInt 0 = 0 := (by decide); omega), (by have qa0 : Int32.toInt 0 = 0 := (by decide); omega), (by have qa0 : Int32.toInt 0 = 0 := (by decide); omega)⟩)
  · obtain ⟨P658536, F658537, q658528, n658529, f658530, rfl, rfl, hsb658538, hfr658539, he658540, he658541, hm658542, hq658543, hdc, hds, bf658530, x658531, x658532, x658533, x658534, x658535⟩ := hp658498
    have hm658544 : q658473 ∈ P658536 := hsb658538 q658473 hmq658473
    have hm658545 : q658474 ∈ P658536 := hsb658538 q658474 hmq658474
    have hq658546 : q658528 ∉ P658471 := fun z => hq658543 ((rSub_rf (P := P658471)) q658528 z)
    have hsb658547 : rSub P658471 P658536 := rSub_tr (rSub_rf (P := P658471)) hsb658538
    have he658548 : F658537 q658474 = .inl (I .byte, n658479, .inl f658478) := (hfr658539 q658474 hmq658474 (nm_c (rn_ao heq658474 heq658473) nm_n)).trans heq658474
    have hfr658549 : rFr [q658473] P658471 F658472 F658537 := rFr_call (rSub_rf (P := P658471)) (rFr_rf (W := []) (P := P658471) (F := F658472)) hfr658539 (fun b hb hn => ⟨nm_n, (nm_c (fun e => hn (e ▸ List.mem_cons_self)) nm_n)⟩)
    change G _ _ _ _ _ _ _ _ _ _ _
    refine G_widen (cs' := (min 1 (n658529 - n658479))) (sl' := 2 * (n658529 - n658479)) (by omega) (by omega) ?_
    refine G_aload_n 2 dr_cJ5_append_c97b9_17 rfl ?_
    refine Gw_callVB (As := []) (gV_ok D I) (cp_640145_AbstractStringBuilder_isLatin1 l hl0 D I P658536 F658537 q658473 q658528 p658476 p658477 f658530 n658529 hm658544 hm658542 he658540 he658541 bp658476 bp658477 bf658530 (by have qa0 : Int32.toInt 0 = 0 := (by decide); omega)) dr_cJ5_append_c97b9_18 ⟨wr_8_33, wr_1_19, wr_8_37, by decide, rfl, (Nat.le_of_ble_eq_true rfl), (Nat.le_of_ble_eq_true rfl)⟩ wr_8_34 wr_8_36 hm658544 he658540 rfl (show (min 1 (n658529 - n658479)) + 0 ≤ 1 by first | omega | decide) (show 2 * (n658529 - n658479) + 0 ≤ (4 * n658479 + 64) by first | omega | decide) (Nat.le_of_ble_eq_true rfl) (fun r658553 w658554 dc658550 ds658551 hp658552 => ?_) (fun _ _ _ _ _ z => z.elim)
    obtain ⟨rfl, rfl, hdc, hds⟩ := hp658552
    change G _ _ _ _ _ _ _ (.int 1 :: _) _ _ _
    refine G_widen (cs' := (min 1 (n658529 - n658479)) + 0) (sl' := 2 * (n658529 - n658479) + 0) (by omega) (by omega) ?_
    refine G_if_eq 37 dr_cJ5_append_c97b9_21 (by decide +kernel) (fun hc => absurd hc (by decide)) (fun _ => ?_)
    refine G_iload_n 3 dr_cJ5_append_c97b9_24 rfl ?_
    refine G_iload_n 0 dr_cJ5_append_c97b9_25 rfl ?_
    refine G_aload_n 2 dr_cJ5_append_c97b9_26 rfl ?_
    refine Gp_get 0 hm658544 he658540 dr_cJ5_append_c97b9_27 (gk_J4 D I) (Nat.le_of_ble_eq_true rfl) wr_7_60 rfl ?_
    refine Gw_callS (As := [.int p658475, .int z658491, .ref q658528]) (gV_ok D I) (cp_649108_Integer_getChars l hl0 D I P658536 F658537 q658528 p658475 z658491 f658530 n658529 hm658542 he658541 ⟨by omega, by omega⟩ bf658530 (by have qa0 : Int32.toInt 0 = 0 := (by decide); omega) (by have q10 : Int32.toInt 10 = 10 := (by decide); have q11 : Int32.toInt 11 = 11 := (by decide); first | exact dgS_up (by omega) (by omega) x658490 (by omega)) (by have qa0 : Int32.toInt 0 = 0 := (by decide); omega)) dr_cJ5_append_c97b9_30 ⟨wr_8_115, wr_1_35, wr_8_117, by decide, rfl, (Nat.le_of_ble_eq_true rfl), (Nat.le_of_ble_eq_true rfl)⟩ wr_8_116 (show (min 1 (n658529 - n658479)) + 0 + 0 ≤ 1 by first | omega | decide) (show 2 * (n658529 - n658479) + 0 + 0 ≤ (4 * n658479 + 64) by first | omega | decide) (Nat.le_of_ble_eq_true rfl) (fun r658558 w658559 dc658555 ds658556 hp658557 => ?_) (fun _ _ _ _ _ z => z.elim)
    obtain ⟨F658562, o658560, f658561, rfl, rfl, hfr658564, he658565, hdc, hds, bo658560, bf658561⟩ := hp658557
    have he658566 : F658562 q658474 = .inl (I .byte, n658479, .inl f658478) := (hfr658564 q658474 hm658545 (nm_c (fun h => hq658546 (h ▸ hmq658474)) nm_n)).trans he658548
    have he658567 : F658562 q658473 = .inr (1, [.ref q658528, .int 0, .int p658476, .int p658477]) := (hfr658564 q658473 hm658544 (nm_c (fun h => hq658546 (h ▸ hmq658473)) nm_n)).trans he658540
    have hfr658568 : rFr [q658473] P658471 F658472 F658562 := rFr_call hsb658547 hfr658549 hfr658564 (fun b hb hn => ⟨(nm_c (fun e => hn (e ▸ List.mem_cons_self)) nm_n), (nm_c (fun e => hq658546 (e ▸ hb)) nm_n)⟩)
    change G _ _ _ _ _ _ _ (.int o658560 :: _) _ _ _
    refine G_widen (cs' := (min 1 (n658529 - n658479)) + 0 + 0) (sl' := 2 * (n658529 - n658479) + 0 + 0) (by omega) (by omega) ?_
    refine G_pop dr_cJ5_append_c97b9_33 rfl ?_
    refine G_goto 48 dr_cJ5_append_c97b9_34 (by decide +kernel) ?_
    refine G_aload_n 2 dr_cJ5_append_c97b9_48 rfl ?_
    refine G_iload_n 0 dr_cJ5_append_c97b9_49 rfl ?_
    refine Gp_put 3 hm658544 he658567 dr_cJ5_append_c97b9_50 (gk_J4 D I) (Nat.le_of_ble_eq_true rfl) wr_7_64 rfl rfl rfl (Nat.le_of_ble_eq_true rfl) (fun F658569 e658570 n658571 => ?_)
    have he658572 : F658569 q658474 = .inl (I .byte, n658479, .inl f658478) := (n658571 q658474 (rn_ao he658566 he658567)).trans he658566
    have he658573 : F658569 q658528 = .inl (I .byte, n658529, .inl f658561) := (n658571 q658528 (fun h => hq658546 (h ▸ hmq658473))).trans he658565
    have he658574 : F658569 q658473 = .inr (1, [.ref q658528, .int 0, .int p658476, .int z658491]) := e658570
    have hfr658575 : rFr [q658473] P658471 F658472 F658569 := rFr_put' List.mem_cons_self hfr658568 n658571
    refine G_aload_n 2 dr_cJ5_append_c97b9_53 rfl ?_
    exact G_aretA (FieldType.object "java/lang/AbstractStringBuilder") dr_cJ5_append_c97b9_54 rfl (by first | exact Or.inl ⟨_, rfl⟩ | exact Or.inr ⟨_, rfl⟩) (Or.inr ⟨_, rfl⟩) (show (min 1 (n658529 - n658479)) + 0 + 0 ≤ 1 by omega) (show 2 * (n658529 - n658479) + 0 + 0 ≤ (4 * n658479 + 64) by omega) (Or.inr (⟨P658536, F658569, z658491, q658528, n658529, f658561, rfl, rfl, hsb658547, hfr658575, he658574, he658573, hm658542, hq658546, (by omega), (by omega), ⟨by omega, by omega⟩, bf658561, (by have qa0 : Int32.toInt 0 = 0 := (by decide); omega), (by have qa0 : Int32.toInt 0 = 0 := (by decide); omega), (by have qa0 : Int32.toInt 0 = 0 := (by decide); omega), (by have qa0 : Int32.toInt 0 = 0 := (by decide); omega), (by have qa0 : Int32.toInt 0 = 0 := (by decide); omega), (by have qa0 : Int32.toInt 0 = 0 := (by decide); omega)⟩))
