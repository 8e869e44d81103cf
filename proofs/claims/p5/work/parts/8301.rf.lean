theorem dr_cX17_input_30 : decode cX17_input 30 = .ok (.iload_n 2, 1) := by decide +kernel
theorem dr_cX17_input_31 : decode cX17_input 31 = .ok (.iconst 4, 1) := by decide +kernel
theorem dr_cX17_input_32 : decode cX17_input 32 = .ok (.if_icmp .ge 39, 3) := by decide +kernel
theorem dr_cX17_input_35 : decode cX17_input 35 = .ok (.aload_n 0, 1) := by decide +kernel
theorem dr_cX17_input_36 : decode cX17_input 36 = .ok (.getfield 303, 3) := by decide +kernel
theorem dr_cX17_input_39 : decode cX17_input 39 = .ok (.iload_n 1, 1) := by decide +kernel
theorem dr_cX17_input_40 : decode cX17_input 40 = .ok (.aload_n 0, 1) := by decide +kernel
theorem dr_cX17_input_41 : decode cX17_input 41 = .ok (.getfield 303, 3) := by decide +kernel
theorem dr_cX17_input_44 : decode cX17_input 44 = .ok (.iload_n 1, 1) := by decide +kernel
theorem dr_cX17_input_45 : decode cX17_input 45 = .ok (.iaload, 1) := by decide +kernel
theorem dr_cX17_input_46 : decode cX17_input 46 = .ok (.bipush 8, 2) := by decide +kernel
theorem dr_cX17_input_48 : decode cX17_input 48 = .ok (.ishl, 1) := by decide +kernel
theorem dr_cX17_input_49 : decode cX17_input 49 = .ok (.aload_n 0, 1) := by decide +kernel
theorem dr_cX17_input_50 : decode cX17_input 50 = .ok (.getfield 374, 3) := by decide +kernel
theorem dr_cX17_input_53 : decode cX17_input 53 = .ok (.iconst 4, 1) := by decide +kernel
theorem dr_cX17_input_54 : decode cX17_input 54 = .ok (.iload_n 1, 1) := by decide +kernel
theorem dr_cX17_input_55 : decode cX17_input 55 = .ok (.imul, 1) := by decide +kernel
theorem dr_cX17_input_56 : decode cX17_input 56 = .ok (.iload_n 2, 1) := by decide +kernel
theorem dr_cX17_input_57 : decode cX17_input 57 = .ok (.iadd, 1) := by decide +kernel
theorem dr_cX17_input_58 : decode cX17_input 58 = .ok (.baload, 1) := by decide +kernel
theorem dr_cX17_input_59 : decode cX17_input 59 = .ok (.sipush 255, 3) := by decide +kernel
theorem dr_cX17_input_62 : decode cX17_input 62 = .ok (.iand, 1) := by decide +kernel
theorem dr_cX17_input_63 : decode cX17_input 63 = .ok (.ior, 1) := by decide +kernel
theorem dr_cX17_input_64 : decode cX17_input 64 = .ok (.iastore, 1) := by decide +kernel
theorem dr_cX17_input_65 : decode cX17_input 65 = .ok (.iinc 2 1, 3) := by decide +kernel
theorem dr_cX17_input_68 : decode cX17_input 68 = .ok (.goto (-38), 3) := by decide +kernel
theorem dr_cX17_input_19 : decode cX17_input 19 = .ok (.iload_n 1, 1) := by decide +kernel
theorem dr_cX17_input_20 : decode cX17_input 20 = .ok (.aload_n 0, 1) := by decide +kernel
theorem dr_cX17_input_21 : decode cX17_input 21 = .ok (.getfield 303, 3) := by decide +kernel
theorem dr_cX17_input_24 : decode cX17_input 24 = .ok (.arraylength, 1) := by decide +kernel
theorem dr_cX17_input_25 : decode cX17_input 25 = .ok (.if_icmp .ge 52, 3) := by decide +kernel
theorem dr_cX17_input_28 : decode cX17_input 28 = .ok (.iconst 0, 1) := by decide +kernel
theorem dr_cX17_input_29 : decode cX17_input 29 = .ok (.istore_n 2, 1) := by decide +kernel
theorem dr_cX17_input_71 : decode cX17_input 71 = .ok (.iinc 1 1, 3) := by decide +kernel
theorem dr_cX17_input_74 : decode cX17_input 74 = .ok (.goto (-55), 3) := by decide +kernel
theorem dr_cX17_input_0 : decode cX17_input 0 = .ok (.aload_n 0, 1) := by decide +kernel
theorem dr_cX17_input_1 : decode cX17_input 1 = .ok (.iconst 0, 1) := by decide +kernel
theorem dr_cX17_input_2 : decode cX17_input 2 = .ok (.putfield 380, 3) := by decide +kernel
theorem dr_cX17_input_5 : decode cX17_input 5 = .ok (.aload_n 0, 1) := by decide +kernel
theorem dr_cX17_input_6 : decode cX17_input 6 = .ok (.aload_n 0, 1) := by decide +kernel
theorem dr_cX17_input_7 : decode cX17_input 7 = .ok (.getfield 383, 3) := by decide +kernel
theorem dr_cX17_input_10 : decode cX17_input 10 = .ok (.iconst 4, 1) := by decide +kernel
theorem dr_cX17_input_11 : decode cX17_input 11 = .ok (.idiv, 1) := by decide +kernel
theorem dr_cX17_input_12 : decode cX17_input 12 = .ok (.newarray .int, 2) := by decide +kernel
theorem dr_cX17_input_14 : decode cX17_input 14 = .ok (.putfield 303, 3) := by decide +kernel
theorem dr_cX17_input_17 : decode cX17_input 17 = .ok (.iconst 0, 1) := by decide +kernel
theorem dr_cX17_input_18 : decode cX17_input 18 = .ok (.istore_n 1, 1) := by decide +kernel
theorem dr_cX17_input_77 : decode cX17_input 77 = .ok (.aload_n 0, 1) := by decide +kernel
theorem dr_cX17_input_78 : decode cX17_input 78 = .ok (.iconst 0, 1) := by decide +kernel
theorem dr_cX17_input_79 : decode cX17_input 79 = .ok (.putfield 383, 3) := by decide +kernel
theorem dr_cX17_input_82 : decode cX17_input 82 = .ok (.aload_n 0, 1) := by decide +kernel
theorem dr_cX17_input_83 : decode cX17_input 83 = .ok (.getfield 303, 3) := by decide +kernel
theorem dr_cX17_input_86 : decode cX17_input 86 = .ok (.arraylength, 1) := by decide +kernel
theorem dr_cX17_input_87 : decode cX17_input 87 = .ok (.ireturn, 1) := by decide +kernel
abbrev ky_inp : gKey := (cX17_input, 3, "SpillForgeModel", (some FieldType.int), [], "input", fun _ _ => True)
def inS (D : va_G) (I : FieldType → ClassId) (P0 : List Nat) (F0 : Nat → va_E) (γ0 el : Nat → Nat → Nat) (P : List Nat) (γ : Nat → Nat → Nat) (m A N : Nat) (e : va_E) (F : Nat → va_E) : Prop := rSk 0 [] [10, 26] D I P0 F0 γ0 el P F γ el ∧ F m = e ∧ A ∈ P ∧ γ 0 A = 26 ∧ ∃ f : Nat → Int32, F A = .inl (I .int, N, .inl f)
theorem inS_a {D : va_G} {I : FieldType → ClassId} {P0 P : List Nat} {F0 F F1 : Nat → va_E} {γ0 γ el : Nat → Nat → Nat} {m A N : Nat} {e : va_E} {f1 : Nat → Int32} (h : inS D I P0 F0 γ0 el P γ m A N e F) (hm : γ 0 m = 10) (hN : N ≤ 2048) (e1 : F1 A = .inl (I .int, N, .inl f1)) (n : ∀ b, b ≠ A → F1 b = F b) : inS D I P0 F0 γ0 el P γ m A N e F1 := by
  obtain ⟨h1, h2, h3, h4, -⟩ := h
  have hmA : m ≠ A := fun q => by rw [q, h4] at hm; cases hm
  exact ⟨rSk_put h1 (RS_set h1.1 n (show rKd γ A 26 from h4) (by decide) ⟨N, f1, e1, by omega⟩) n (show rKd γ A 26 from h4) (by decide) (fun _ z => nomatch z), (n m hmA).trans h2, h3, h4, f1, e1⟩
set_option maxRecDepth 100000 in
set_option maxHeartbeats 4000000 in
theorem in_l2 {l : Launch} {D : va_G} {I : FieldType → ClassId} {P0 P : List Nat} {F0 : Nat → va_E} {γ0 γ el : Nat → Nat → Nat} {m A N cs sl mc ms : Nat} {Qf : gFin} {r35 : Nat} {v9 v10 v11 v12 v13 v14 v23 v24 v25 v26 v27 v30 v32 v33 v34 i : Int32} (hm : γ 0 m = 10) (t25 : γ 0 (γ 9 31) = 25) (hN : N ≤ 2048) (hi0 : 0 ≤ i.toInt) (hiN : i.toInt < (N : Int))
    (kk : ∀ (F : Nat → va_E) (jj : Int32), inS D I P0 F0 γ0 el P γ m A N (mdE γ A r35 v9 v10 v11 v12 v13 v14 v23 v24 v25 v26 v27 v30 v32 v33 v34) F → G (gV D I) l (gRm 1 20 mc ms) Qf ky_inp 71 [(2, .int jj), (1, .int i), (0, .ref m)] [] (va_pl P F) cs sl) :
    ∀ (μ : Nat) (F : Nat → va_E) (jj : Int32), 4 - jj.toInt < (μ : Int) → 0 ≤ jj.toInt → jj.toInt ≤ 4 → inS D I P0 F0 γ0 el P γ m A N (mdE γ A r35 v9 v10 v11 v12 v13 v14 v23 v24 v25 v26 v27 v30 v32 v33 v34) F →
    G (gV D I) l (gRm 1 20 mc ms) Qf ky_inp 30 [(2, .int jj), (1, .int i), (0, .ref m)] [] (va_pl P F) cs sl := by
  intro μ
  induction μ with
  | zero => intro F jj h h0 h4 _; exact absurd h (by omega)
  | succ μ ih =>
  intro F jj hμ h0 h4 hS
  obtain ⟨hk, he, mA, kA, fA, eA⟩ := id hS
  have mm : m ∈ P := hk.1.1 m (by omega)
  obtain ⟨ft, f1, f2⟩ := show rk_25 I (F (γ 9 31)) from RS_o hk.1 t25
  have mt : γ 9 31 ∈ P := hk.1.1 _ (by omega)
  refine G_iload_n 0 dr_cX17_input_30 rfl ?_
  refine G_iconst 4 dr_cX17_input_31 (by decide +kernel) ?_
  have z4 : Int32.toInt 4 = 4 := by decide
  refine G_icmp_ge 71 dr_cX17_input_32 (by decide +kernel) (fun _ => kk F jj hS) (fun hc => ?_)
  have hlt : jj.toInt < 4 := gj_nle hc rfl
  refine G_aload_n 2 dr_cX17_input_35 rfl ?_
  refine Gp_get 28 mm he dr_cX17_input_36 (gk_X17 D I) (Nat.le_of_ble_eq_true rfl) wr_7_102 rfl ?_
  refine G_iload_n 1 dr_cX17_input_39 rfl ?_
  refine G_aload_n 2 dr_cX17_input_40 rfl ?_
  refine Gp_get 28 mm he dr_cX17_input_41 (gk_X17 D I) (Nat.le_of_ble_eq_true rfl) wr_7_102 rfl ?_
  refine G_iload_n 1 dr_cX17_input_44 rfl ?_
  refine Gp_iald 0 mA eA dr_cX17_input_45 rfl (gB_inr hi0 hiN) (G_nam fun z1 _ => ?_)
  refine G_bipush 8 dr_cX17_input_46 (by decide +kernel) ?_
  refine G_ishl dr_cX17_input_48 (G_nam fun z2 _ => ?_)
  refine G_aload_n 2 dr_cX17_input_49 rfl ?_
  refine Gp_get 31 mm he dr_cX17_input_50 (gk_X17 D I) (Nat.le_of_ble_eq_true rfl) wr_7_105 rfl ?_
  refine G_iconst 4 dr_cX17_input_53 (by decide +kernel) ?_
  refine G_iload_n 1 dr_cX17_input_54 rfl ?_
  refine G_imul dr_cX17_input_55 (G_nam fun z3 hz3 => ?_)
  have bi : gB i 0 2048 := ⟨hi0, by omega⟩
  have e3 : z3.toInt = 4 * i.toInt := by rw [gI_mul hz3 (gBl z4) bi (by decide) (by decide) (by decide), z4]
  refine G_iload_n 0 dr_cX17_input_56 rfl ?_
  refine G_iadd dr_cX17_input_57 (G_nam fun z5 hz5 => ?_)
  have e5 : z5.toInt = z3.toInt + jj.toInt := gI_add hz5 (⟨by omega, by omega⟩ : gB z3 0 8192) (⟨h0, h4⟩ : gB jj 0 4) (by decide) (by decide)
  refine Gp_bald 1 mt f1 dr_cX17_input_58 rfl (gB_inr (by omega) (by omega)) (G_nam fun z6 _ => ?_)
  refine G_sipush 255 dr_cX17_input_59 (by decide +kernel) ?_
  refine G_iand dr_cX17_input_62 (G_nam fun z7 _ => ?_)
  refine G_ior dr_cX17_input_63 (G_nam fun z8 _ => ?_)
  refine Gp_iast 0 mA eA dr_cX17_input_64 rfl (gB_inr hi0 hiN) (fun F1 e1 n1 => ?_)
  have hS1 := inS_a hS hm hN e1 n1
  obtain ⟨j1, hj1⟩ : ∃ z, z = jj + 1 := ⟨_, rfl⟩
  have ej : j1.toInt = jj.toInt + 1 := by rw [gI_add hj1 (⟨h0, h4⟩ : gB jj 0 4) (gBl (show Int32.toInt 1 = 1 by decide)) (by decide) (by decide), show Int32.toInt 1 = 1 from by decide]
  refine G_iinc (L' := [(2, .int j1), (1, .int i), (0, .ref m)]) j1 0 dr_cX17_input_65 rfl (by rw [hj1]; rfl) (Nat.le_of_ble_eq_true rfl) rfl ?_
  refine G_goto 30 dr_cX17_input_68 (by decide +kernel) ?_
  exact ih F1 j1 (by omega) (by omega) (by omega) hS1
set_option maxRecDepth 100000 in
set_option maxHeartbeats 4000000 in
theorem in_l1 {l : Launch} {D : va_G} {I : FieldType → ClassId} {P0 P : List Nat} {F0 : Nat → va_E} {γ0 γ el : Nat → Nat → Nat} {m A N cs sl mc ms : Nat} {Qf : gFin} {r35 : Nat} {v9 v10 v11 v12 v13 v14 v23 v24 v25 v26 v27 v30 v32 v33 v34 : Int32} (hm : γ 0 m = 10) (t25 : γ 0 (γ 9 31) = 25) (hN : N ≤ 2048)
    (kk : ∀ (F : Nat → va_E) (i : Int32), inS D I P0 F0 γ0 el P γ m A N (mdE γ A r35 v9 v10 v11 v12 v13 v14 v23 v24 v25 v26 v27 v30 v32 v33 v34) F → G (gV D I) l (gRm 1 20 mc ms) Qf ky_inp 77 [(1, .int i), (0, .ref m)] [] (va_pl P F) cs sl) :
    ∀ (μ : Nat) (F : Nat → va_E) (i : Int32), (N : Int) - i.toInt < (μ : Int) → 0 ≤ i.toInt → i.toInt ≤ (N : Int) → inS D I P0 F0 γ0 el P γ m A N (mdE γ A r35 v9 v10 v11 v12 v13 v14 v23 v24 v25 v26 v27 v30 v32 v33 v34) F →
    G (gV D I) l (gRm 1 20 mc ms) Qf ky_inp 19 [(1, .int i), (0, .ref m)] [] (va_pl P F) cs sl := by
  intro μ
  induction μ with
  | zero => intro F i h h0 h4 _; exact absurd h (by omega)
  | succ μ ih =>
  intro F i hμ h0 h4 hS
  obtain ⟨hk, he, mA, kA, fA, eA⟩ := id hS
  have mm : m ∈ P := hk.1.1 m (by omega)
  refine G_iload_n 0 dr_cX17_input_19 rfl ?_
  refine G_aload_n 1 dr_cX17_input_20 rfl ?_
  refine Gp_get 28 mm he dr_cX17_input_21 (gk_X17 D I) (Nat.le_of_ble_eq_true rfl) wr_7_102 rfl ?_
  refine Gp_alen (Int32.ofNat N) 0 mA eA dr_cX17_input_24 rfl rfl (G_nam fun z hz => ?_)
  have ez : z.toInt = (N : Nat) := gI_ofM hz (by omega)
  refine G_icmp_ge 77 dr_cX17_input_25 (by decide +kernel) (fun _ => kk F i hS) (fun hc => ?_)
  have hlt : i.toInt < z.toInt := gj_nle hc rfl
  refine G_iconst 0 dr_cX17_input_28 (by decide +kernel) ?_
  refine G_istore_n (L' := [(2, .int 0), (1, .int i), (0, .ref m)]) dr_cX17_input_29 (Nat.le_of_ble_eq_true rfl) rfl ?_
  have z0 : Int32.toInt 0 = 0 := by decide
  refine in_l2 hm t25 hN h0 (by omega) (fun F1 jj hS1 => ?_) 5 F 0 (by rw [z0]; decide) (by rw [z0]; decide) (by rw [z0]; decide) hS
  obtain ⟨i1, hi1⟩ : ∃ z, z = i + 1 := ⟨_, rfl⟩
  have ei : i1.toInt = i.toInt + 1 := by rw [gI_add hi1 (⟨h0, by omega⟩ : gB i 0 2048) (gBl (show Int32.toInt 1 = 1 by decide)) (by decide) (by decide), show Int32.toInt 1 = 1 from by decide]
  refine G_iinc (L' := [(1, .int i1), (2, .int jj), (0, .ref m)]) i1 1 dr_cX17_input_71 rfl (by rw [hi1]; rfl) (Nat.le_of_ble_eq_true rfl) rfl ?_
  refine G_goto 19 dr_cX17_input_74 (by decide +kernel) ?_
  refine G_lv [0, 2] rfl ?_
  exact ih F1 i1 (by omega) (by omega) (by omega) hS1
set_option maxRecDepth 100000 in
set_option maxHeartbeats 4000000 in
theorem cp_input (l : Launch) (hl0 : l.stackTraces = false) (D : va_G) (I : FieldType → ClassId) {P : List Nat} {F : Nat → va_E} {γ el : Nat → Nat → Nat} {m : Nat} (hT : RS D I P F γ el) (hm : γ 0 m = 10) :
    CtA (gV D I) l yX17_input cX17_input 3 (some FieldType.int) 1 20 1 2048 [.ref m] (va_pl P F) (inP D I P F γ el m) gNA := by
  refine CtA_of hl0 (by decide) (Nat.le_of_ble_eq_true rfl) ?_
  obtain ⟨r28, r35, v9, v10, v11, v12, v13, v14, v23, v24, v25, v26, v27, v30, v32, v33, v34, he, hM1, hK, hM2⟩ := rk10_m (show rk_10 γ (F m) from RS_o hT hm)
  have hM1' := hM1
  obtain ⟨q9, q10, q11, q14, q25, q26, q27, q32, q34⟩ := hM1
  have mm : m ∈ P := hT.1 m (by omega)
  have e32 : fI (F m) 32 = v32 := by rw [he]; rfl
  have e10 : fI (F m) 10 = v10 := by rw [he]; rfl
  have e9 : fI (F m) 9 = v9 := by rw [he]; rfl
  have t25 : γ 0 (γ 9 31) = 25 := hK.2.2.2.2.2.2.2.2.2.2.2.2.2.2.2.2.2.2.2.2.1
  refine G_aload_n 0 dr_cX17_input_0 rfl ?_
  refine G_iconst 0 dr_cX17_input_1 (by decide +kernel) ?_
  refine Gp_put 30 mm he dr_cX17_input_2 (gk_X17 D I) (Nat.le_of_ble_eq_true rfl) wr_7_104 rfl rfl rfl (Nat.le_of_ble_eq_true rfl) (fun F1 e1 n1 => ?_)
  have e1' : F1 m = mdE γ r28 r35 v9 v10 v11 v12 v13 v14 v23 v24 v25 v26 v27 0 v32 v33 v34 := e1
  have hT1 := RS_md hT hm n1 e1' hM1' hK hM2
  have hk1 := rSk_put (rSk_rf (f := 0) (K := []) (KF := [10, 26]) hT) hT1 n1 (show rKd γ m 10 from hm) (by decide) (fun _ z => nomatch z)
  refine G_aload_n 0 dr_cX17_input_5 rfl ?_
  refine G_aload_n 0 dr_cX17_input_6 rfl ?_
  refine Gp_get 32 mm e1' dr_cX17_input_7 (gk_X17 D I) (Nat.le_of_ble_eq_true rfl) wr_7_106 rfl ?_
  refine G_iconst 4 dr_cX17_input_10 (by decide +kernel) ?_
  refine G_idiv dr_cX17_input_11 (by decide) (G_nam fun z hz => ?_)
  have ez : z.toInt = v32.toInt / 4 := gI_div hz q32 (by decide) (by decide) (by decide)
  have q32a := q32.1
  have q32b := q32.2
  have hz0 : 0 ≤ z.toInt := by omega
  have hz1 : z.toInt ≤ 2048 := by omega
  refine G_newa 0 (z.toInt.toNat, .inl (fun _ => 0)) dr_cX17_input_12 rfl rfl (by intro C h; cases h) wr_1_95 (fun _ => ga_int _ _) (g_n0 (by omega)) rfl (show z.toInt.toNat * 4 ≤ 536870912 by omega) (show 0 + 1 ≤ 1 by decide) (show 0 + z.toInt.toNat ≤ 2048 by omega) (fun A => Gp_in (fun P2 F2 hq hP e2 n2 => ?_))
  have hs2 : rSub P P2 := rSub_new (rSub_rf (P := P)) hP
  have A0 : γ 0 A = 0 := RS_new hT hq
  have mA2 : A ∈ P2 := (hP A).mpr (Or.inr rfl)
  have hN : z.toInt.toNat ≤ 2048 := by omega
  have sk2 : rSk 0 [] [10, 26] D I P F1 γ el P2 F2 (gNw γ A 26) el := rSk_nw hT1 hq hs2 mA2 n2 ⟨z.toInt.toNat, fun _ => 0, e2, by omega⟩
  have hk2 := rSk_tr hk1 sk2 (fun _ z => nomatch z) (fun _ z => z) (fun _ z => nomatch z)
  have hmA : m ≠ A := fun e => by rw [e, A0] at hm; cases hm
  have hm2 : gNw γ A 26 0 m = 10 := (gNw_ne hmA).trans hm
  have g9 : gNw γ A 26 9 = γ 9 := gNw_j (by decide)
  have e2m : F2 m = mdE (gNw γ A 26) r28 r35 v9 v10 v11 v12 v13 v14 v23 v24 v25 v26 v27 0 v32 v33 v34 := (n2 m hmA).trans e1'
  have mm2 := hs2 m mm
  have kA : gNw γ A 26 0 A = 26 := if_pos ⟨rfl, rfl⟩
  have hM2' : rM2 (gNw γ A 26) v9 v10 v34 r35 := by
    unfold rM2
    rw [gNw_j (j := 6) (by decide), gNw_j (j := 23) (by decide), gNw_j (j := 12) (by decide)]
    exact hM2
  refine Gp_put 28 mm2 e2m dr_cX17_input_14 (gk_X17 D I) (Nat.le_of_ble_eq_true rfl) wr_7_102 rfl rfl rfl (Nat.le_of_ble_eq_true rfl) (fun F3 e3 n3 => ?_)
  have e3' : F3 m = mdE (gNw γ A 26) A r35 v9 v10 v11 v12 v13 v14 v23 v24 v25 v26 v27 0 v32 v33 v34 := e3
  have hK3 := mdK_nw A0 hK
  have hT3 := RS_md hk2.1 hm2 n3 e3' hM1' hK3 hM2'
  have hk3 := rSk_put hk2 hT3 n3 (show rKd (gNw γ A 26) m 10 from hm2) (by decide) (fun _ z => nomatch z)
  have t25' : gNw γ A 26 0 (gNw γ A 26 9 31) = 25 := hK3.2.2.2.2.2.2.2.2.2.2.2.2.2.2.2.2.2.2.2.2.1
  have hS3 : inS D I P F γ el P2 (gNw γ A 26) m A z.toInt.toNat (mdE (gNw γ A 26) A r35 v9 v10 v11 v12 v13 v14 v23 v24 v25 v26 v27 0 v32 v33 v34) F3 := ⟨hk3, e3', mA2, kA, fun _ => 0, (n3 A (Ne.symm hmA)).trans e2⟩
  refine G_iconst 0 dr_cX17_input_17 (by decide +kernel) ?_
  refine G_istore_n (L' := [(1, .int 0), (0, .ref m)]) dr_cX17_input_18 (Nat.le_of_ble_eq_true rfl) rfl ?_
  have z0 : Int32.toInt 0 = 0 := by decide
  refine in_l1 hm2 t25' hN (fun F4 i hS4 => ?_) (z.toInt.toNat + 1) F3 0 (by rw [z0]; omega) (by rw [z0]; decide) (by rw [z0]; omega) hS3
  obtain ⟨hk4, he4, -, -, fA, eA4⟩ := id hS4
  refine G_aload_n 1 dr_cX17_input_77 rfl ?_
  refine G_iconst 0 dr_cX17_input_78 (by decide +kernel) ?_
  refine Gp_put 32 mm2 he4 dr_cX17_input_79 (gk_X17 D I) (Nat.le_of_ble_eq_true rfl) wr_7_106 rfl rfl rfl (Nat.le_of_ble_eq_true rfl) (fun F5 e5 n5 => ?_)
  have e5' : F5 m = mdE (gNw γ A 26) A r35 v9 v10 v11 v12 v13 v14 v23 v24 v25 v26 v27 0 0 v33 v34 := e5
  have hT5 := RS_md hk4.1 hm2 n5 e5' ⟨q9, q10, q11, q14, q25, q26, q27, ⟨by decide, by decide⟩, q34⟩ hK3 hM2'
  have hk5 := rSk_put hk4 hT5 n5 (show rKd (gNw γ A 26) m 10 from hm2) (by decide) (fun _ z => nomatch z)
  refine G_aload_n 1 dr_cX17_input_82 rfl ?_
  refine Gp_get 28 mm2 e5' dr_cX17_input_83 (gk_X17 D I) (Nat.le_of_ble_eq_true rfl) wr_7_102 rfl ?_
  refine Gp_alen (Int32.ofNat z.toInt.toNat) 0 mA2 ((n5 A (Ne.symm hmA)).trans eA4) dr_cX17_input_86 rfl rfl (G_nam fun x hx => ?_)
  exact G_iretA dr_cX17_input_87 rfl (show 0 + 1 ≤ 1 by decide) (show 0 + z.toInt.toNat ≤ 2048 by omega) ⟨P2, F5, gNw γ A 26, x, rfl, rfl, hk5, fun j hj => gNw_j hj, by rw [e5', e9]; rfl, by rw [e5', e10]; rfl, by rw [e5']; rfl, by omega, by rw [e32]; omega, by rw [e5', he]; rfl, by have ex := gI_ofM hx (by omega); rw [ex, e32]; omega⟩
abbrev ky_658159_AbstractStringBuilder_ensureCapacityInternal : gKey := (cJ5_ensureCapacityInternal_d00df, 3, "java/lang/AbstractStringBuilder", none, [], "ensureCapacityInternal", fun _ _ => True)
def pp_658159_AbstractStringBuilder_ensureCapacityInternal (D : va_G) (I : FieldType → ClassId) (P658148 : List Nat) (F658149 : Nat → va_E) (q658150 : Nat) (q658151 : Nat) (p658152 : Int32) (p658153 : Int32) (p658154 : Int32) (f658155 : Nat → Int32) (n658156 : Nat) : Option Value → va_W → Nat → Nat → Prop := fun r w dc ds => (r = none ∧ w = va_pl P658148 F658149 ∧ dc ≤ 0 ∧ ds ≤ 0 ∧ p658152.toInt ≤ (n658156 : Int) ∧ (n658156 : Int) ≤ (n658156 : Int) ∧ ((n658156 : Int) = (n658156 : Int) ∨ (n658156 : Int) < p658152.toInt) ∧ ((n658156 : Int) ≤ 2 * (n658156 : Int) + 2 ∨ (n658156 : Int) ≤ p658152.toInt) ∧ ((n658156 : Int) = (n658156 : Int) ∨ (n658156 : Int) < p658152.toInt) ∧ ((n658156 : Int) = (n658156 : Int) ∨ 2 * (n658156 : Int) + 2 ≤ (n658156 : Int))) ∨ (∃ (P658207 : List Nat) (F658208 : Nat → va_E) (q658204 : Nat) (n658205 : Nat) (f658206 : Nat → Int32), r = none ∧ w = va_pl P658207 F658208 ∧ rSub P658148 P658207 ∧ rFr [q658150] P658148 F658149 F658208 ∧ F658208 q658150 = .inr (1, [.ref q658204, .int 0, .int p658153, .int p658154]) ∧ F658208 q658204 = .inl (I .byte, n658205, .inl f658206) ∧ q658204 ∈ P658207 ∧ q658204 ∉ P658148 ∧ dc ≤ (min 1 (n658205 - n658156)) ∧ ds ≤ 2 * (n658205 - n658156) ∧ gF f658206 (-128) 127 ∧ p658152.toInt ≤ (n658205 : Int) ∧ (n658156 : Int) ≤ (n658205 : Int) ∧ ((n658205 : Int) = (n658156 : Int) ∨ (n658156 : Int) < p658152.toInt) ∧ ((n658205 : Int) ≤ 2 * (n658156 : Int) + 2 ∨ (n658205 : Int) ≤ p658152.toInt) ∧ ((n658205 : Int) = (n658156 : Int) ∨ (n658156 : Int) < p658152.toInt) ∧ ((n658205 : Int) = (n658156 : Int) ∨ 2 * (n658156 : Int) + 2 ≤ (n658205 : Int)))
set_option maxRecDepth 100000 in
set_option maxHeartbeats 4000000 in
theorem cp_658159_AbstractStringBuilder_ensureCapacityInternal (l : Launch) (hl0 : l.stackTraces = false) (D : va_G) (I : FieldType → ClassId) (P658148 : List Nat) (F658149 : Nat → va_E) (q658150 : Nat) (q658151 : Nat) (p658152 : Int32) (p658153 : Int32) (p658154 : Int32) (f658155 : Nat → Int32) (n658156 : Nat) (hmq658150 : q658150 ∈ P658148) (hmq658151 : q658151 ∈ P658148) (heq658150 : F658149 q658150 = .inr (1, [.ref q658151, .int 0, .int p658153, .int p658154])) (heq658151 : F658149 q658151 = .inl (I .byte, n658156, .inl f658155)) (bp658152 : gB p658152 0 8388608) (bp658153 : gB p658153 0 1) (bp658154 : gB p658154 0 16777216) (bf658155 : gF f658155 (-128) 127) (x658157 : (n658156 : Int) ≤ 8388608) (x658158 : ((n658156 : Int) ≤ 16777216)) : CtA (gV D I) l yJ5_ensureCapacityInternal_d00df cJ5_ensureCapacityInternal_d00df 3 none 3 62 1 (2 * n658156 + 2 + p658152.toInt.toNat) [.ref q658150, .int p658152] (va_pl P658148 F658149) (pp_658159_AbstractStringBuilder_ensureCapacityInternal D I P658148 F658149 q658150 q658151 p658152 p658153 p658154 f658155 n658156) gNA := by
  refine CtA_ofF hl0 (by decide +kernel) (Nat.le_of_ble_eq_true rfl) ?_
  refine G_aload_n 0 dr_cJ5_ensureCapacityInternal_d00df_0 rfl ?_
  refine Gp_get 0 hmq658150 heq658150 dr_cJ5_ensureCapacityInternal_d00df_1 (gk_J4 D I) (Nat.le_of_ble_eq_true rfl) wr_7_60 rfl ?_
  refine Gp_alen (Int32.ofNat n658156) 1 hmq658151 heq658151 dr_cJ5_ensureCapacityInternal_d00df_4 rfl rfl (G_nam fun z658160 hz658160 => ?_)
  have ez658160 : z658160.toInt = (n658156 : Nat) := gI_ofM hz658160 (by omega)
  have bz658160 : gB z658160 0 16777216 := ⟨by omega, by omega⟩
  refine G_aload_n 0 dr_cJ5_ensureCapacityInternal_d00df_5 rfl ?_
  refine Gp_get 1 hmq658150 heq658150 dr_cJ5_ensureCapacityInternal_d00df_6 (gk_J4 D I) (Nat.le_of_ble_eq_true rfl) wr_7_61 rfl ?_
  refine G_ishr dr_cJ5_ensureCapacityInternal_d00df_9 (G_nam fun z658161 hz658161 => ?_)
  have ez658161 : z658161.toInt = z658160.toInt / 1 := gI_shr (k := 0) hz658161 (by decide)
  have bz658161 : gB z658161 0 16777216 := ⟨by omega, by omega⟩
  refine G_istore_n (L' := [(2, .int z658161), (0, .ref q658150), (1, .int p658152)]) dr_cJ5_ensureCapacityInternal_d00df_10 (Nat.le_of_ble_eq_true rfl) rfl ?_
  refine G_iload_n 2 dr_cJ5_ensureCapacityInternal_d00df_11 rfl ?_
  refine G_iload_n 0 dr_cJ5_ensureCapacityInternal_d00df_12 rfl ?_
  refine G_isub dr_cJ5_ensureCapacityInternal_d00df_13 (G_nam fun z658162 hz658162 => ?_)
  have ez658162 : z658162.toInt = p658152.toInt - z658161.toInt := by rw [gI_sub hz658162 bp658152 bz658161 (by decide) (by decide)]
  have bz658162 : gB z658162 (-16777216) 8388608 := gB_sub (gI_sub hz658162 bp658152 bz658161 (by decide) (by decide)) bp658152 bz658161 (by decide) (by decide)
  refine G_if_le 38 dr_cJ5_ensureCapacityInternal_d00df_14 (by decide +kernel) (fun hc658163 => ?_) (fun hc658163 => ?_)
  · have r658164 : z658162.toInt ≤ 0 := gj_le hc658163 (show Int32.toInt 0 = 0 by decide)
    have bz658162' : gB z658162 (-16777216) 0 := ⟨by omega, by omega⟩
    exact G_vretA dr_cJ5_ensureCapacityInternal_d00df_38 rfl (Nat.le_of_ble_eq_true rfl) (Nat.le_of_ble_eq_true rfl) (Or.inl ⟨rfl, rfl, (Nat.le_of_ble_eq_true rfl), (Nat.le_of_ble_eq_true rfl), (by have qa0 : Int32.toInt 0 = 0 := (by decide); omega), (by have qa0 : Int32.toInt 0 = 0 := (by decide); omega), (by have qa0 : Int32.toInt 0 = 0 := (by decide); omega), (by have qa0 : Int32.toInt 0 = 0 := (by decide); omega), (by have qa0 : Int32.toInt 0 = 0 := (by decide); omega), (by have qa0 : Int32.toInt 0 = 0 := (by decide); omega)⟩)
  · have r658165 : 0 < z658162.toInt := gj_nle hc658163 (show Int32.toInt 0 = 0 by decide)
    have bz658162' : gB z658162 1 8388608 := ⟨by omega, by omega⟩
    refine G_aload_n 1 dr_cJ5_ensureCapacityInternal_d00df_17 rfl ?_
    refine G_aload_n 1 dr_cJ5_ensureCapacityInternal_d00df_18 rfl ?_
    refine Gp_get 0 hmq658150 heq658150 dr_cJ5_ensureCapacityInternal_d00df_19 (gk_J4 D I) (Nat.le_of_ble_eq_true rfl) wr_7_60 rfl ?_
    refine G_aload_n 1 dr_cJ5_ensureCapacityInternal_d00df_22 rfl ?_
    refine G_iload_n 2 dr_cJ5_ensureCapacityInternal_d00df_23 rfl ?_
    refine Gw_callVB (As := [.int p658152]) (gV_ok D I) (cp_640152_AbstractStringBuilder_newCapacity l hl0 D I P658148 F658149 q658150 q658151 p658152 p658153 p658154 f658155 n658156 hmq658150 hmq658151 heq658150 heq658151 bp658152 bp658153 bp658154 bf658155 (by have qa0 : Int32.toInt 0 = 0 := (by decide); omega) (by have qa0 : Int32.toInt 0 = 0 := (by decide); omega) (by have qa0 : Int32.toInt 0 = 0 := (by decide); omega)) dr_cJ5_ensureCapacityInternal_d00df_24 ⟨wr_8_4, wr_1_19, wr_8_7, by decide, rfl, (Nat.le_of_ble_eq_true rfl), (Nat.le_of_ble_eq_true rfl)⟩ wr_8_6 wr_s_1 hmq658150 heq658150 rfl (show 0 + 0 ≤ 1 by first | omega | decide) (show 0 + 0 ≤ (2 * n658156 + 2 + p658152.toInt.toNat) by first | omega | decide) (Nat.le_of_ble_eq_true rfl) (fun r658169 w658170 dc658166 ds658167 hp658168 => ?_) (fun _ _ _ _ _ z => z.elim)
    obtain ⟨o658171, rfl, rfl, hdc, hds, bo658171, x658172, x658173, x658174⟩ := hp658168
    change G _ _ _ _ _ _ _ (.int o658171 :: _) _ _ _
    refine G_widen (cs' := 0) (sl' := 0) (by omega) (by omega) ?_
    refine G_aload_n 1 dr_cJ5_ensureCapacityInternal_d00df_27 rfl ?_
    refine Gp_get 1 hmq658150 heq658150 dr_cJ5_ensureCapacityInternal_d00df_28 (gk_J4 D I) (Nat.le_of_ble_eq_true rfl) wr_7_61 rfl ?_
    refine G_ishl dr_cJ5_ensureCapacityInternal_d00df_31 (G_nam fun z658175 hz658175 => ?_)
    have ez658175 : z658175.toInt = o658171.toInt * 1 := gI_shl (k := 0) hz658175 (by decide) bo658171 (by decide) (by decide)
    have bz658175 : gB z658175 1 33554432 := ⟨by omega, by omega⟩
    refine Gw_callS (As := [.ref q658151, .int z658175]) (gV_ok D I) (cp_640185_Arrays_copyOf l hl0 D I P658148 F658149 q658151 z658175 f658155 n658156 hmq658151 heq658151 (gB_w bz658175 (by decide) (by decide)) bf658155 (by have qa0 : Int32.toInt 0 = 0 := (by decide); omega) (by have qa0 : Int32.toInt 0 = 0 := (by decide); omega)) dr_cJ5_ensureCapacityInternal_d00df_32 ⟨wr_8_17, wr_1_30, wr_8_19, by decide, rfl, (Nat.le_of_ble_eq_true rfl), (Nat.le_of_ble_eq_true rfl)⟩ wr_8_18 (show 0 + 1 ≤ 1 by first | omega | decide) (show 0 + z658175.toInt.toNat ≤ (2 * n658156 + 2 + p658152.toInt.toNat) by first | omega | decide) (Nat.le_of_ble_eq_true rfl) (fun r658179 w658180 dc658176 ds658177 hp658178 => ?_) (fun _ _ _ _ _ z => z.elim)
    obtain ⟨P658183, F658184, q658181, f658182, rfl, rfl, hsb658185, hfr658186, he658187, he658188, hm658189, hq658190, hdc, hds, bf658182⟩ := hp658178
    have hm658191 : q658150 ∈ P658183 := hsb658185 q658150 hmq658150
    have hm658192 : q658151 ∈ P658183 := hsb658185 q658151 hmq658151
    have hq658193 : q658181 ∉ P658148 := fun z => hq658190 ((rSub_rf (P := P658148)) q658181 z)
    have hsb658194 : rSub P658148 P658183 := rSub_tr (rSub_rf (P := P658148)) hsb658185
    have he658195 : F658184 q658150 = .inr (1, [.ref q658151, .int 0, .int p658153, .int p658154]) := (hfr658186 q658150 hmq658150 nm_n).trans heq658150
    have hfr658196 : rFr [] P658148 F658149 F658184 := rFr_call (rSub_rf (P := P658148)) (rFr_rf (W := []) (P := P658148) (F := F658149)) hfr658186 (fun b hb hn => ⟨nm_n, nm_n⟩)
    change G _ _ _ _ _ _ _ (.ref q658181 :: _) _ _ _
    refine G_widen (cs' := 1) (sl' := z658175.toInt.toNat) (by omega) (by omega) ?_
    refine Gp_put 0 hm658191 he658195 dr_cJ5_ensureCapacityInternal_d00df_35 (gk_J4 D I) (Nat.le_of_ble_eq_true rfl) wr_7_60 rfl rfl rfl (Nat.le_of_ble_eq_true rfl) (fun F658197 e658198 n658199 => ?_)
    have he658200 : F658197 q658151 = .inl (I .byte, n658156, .inl f658155) := (n658199 q658151 (rn_ao he658187 he658195)).trans he658187
    have he658201 : F658197 q658181 = .inl (I .byte, z658175.toInt.toNat, .inl f658182) := (n658199 q658181 (fun h => hq658193 (h ▸ hmq658150))).trans he658188
    have he658202 : F658197 q658150 = .inr (1, [.ref q658181, .int 0, .int p658153, .int p658154]) := e658198
    have hfr658203 : rFr [q658150] P658148 F658149 F658197 := rFr_put hfr658196 n658199
    exact G_vretA dr_cJ5_ensureCapacityInternal_d00df_38 rfl (Nat.le_of_ble_eq_true rfl) (show z658175.toInt.toNat ≤ (2 * n658156 + 2 + p658152.toInt.toNat) by omega) (Or.inr (⟨P658183, F658197, q658181, z658175.toInt.toNat, f658182, rfl, rfl, hsb658194, hfr658203, he658202, he658201, hm658189, hq658193, (by omega), (by omega), bf658182, (by have qa0 : Int32.toInt 0 = 0 := (by decide); omega), (by have qa0 : Int32.toInt 0 = 0 := (by decide); omega), (by have qa0 : Int32.toInt 0 = 0 := (by decide); omega), (by have qa0 : Int32.toInt 0 = 0 := (by decide); omega), (by have qa0 : Int32.toInt 0 = 0 := (by decide); omega), (by have qa0 : Int32.toInt 0 = 0 := (by decide); omega)⟩))
abbrev ky_658146_AbstractStringBuilder_append : gKey := (cJ5_append_3fe6f, 2, "java/lang/AbstractStringBuilder", (some (FieldType.object "java/lang/AbstractStringBuilder")), [], "append", fun _ _ => True)
def pp_658146_AbstractStringBuilder_append (D : va_G) (I : FieldType → ClassId) (P658134 : List Nat) (F658135 : Nat → va_E) (q658136 : Nat) (q658137 : Nat) (p658138 : Int32) (p658139 : Int32) (p658140 : Int32) (f658141 : Nat → Int32) (n658142 : Nat) : Option Value → va_W → Nat → Nat → Prop := fun r w dc ds => (∃ (F658306 : Nat → va_E) (o658303 : Int32) (f658304 : Nat → Int32), r = some (.ref q658136) ∧ w = va_pl P658134 F658306 ∧ rFr [q658137, q658136] P658134 F658135 F658306 ∧ F658306 q658136 = .inr (1, [.ref q658137, .int 0, .int p658139, .int o658303]) ∧ F658306 q658137 = .inl (I .byte, n658142, .inl f658304) ∧ dc ≤ 0 ∧ ds ≤ 0 ∧ gB o658303 1 16777216 ∧ gF f658304 (-128) 127 ∧ o658303.toInt = p658140.toInt + 1 ∧ o658303.toInt ≤ (n658142 : Int) ∧ (n658142 : Int) ≤ (n658142 : Int) ∧ (n658142 : Int) ≤ 2 * (n658142 : Int) + 2 ∧ ((n658142 : Int) = (n658142 : Int) ∨ (n658142 : Int) < o658303.toInt) ∧ ((n658142 : Int) = (n658142 : Int) ∨ 2 * (n658142 : Int) + 2 ≤ (n658142 : Int))) ∨ (∃ (P658311 : List Nat) (F658312 : Nat → va_E) (o658307 : Int32) (q658308 : Nat) (n658309 : Nat) (f658310 : Nat → Int32), r = some (.ref q658136) ∧ w = va_pl P658311 F658312 ∧ rSub P658134 P658311 ∧ rFr [q658136] P658134 F658135 F658312 ∧ F658312 q658136 = .inr (1, [.ref q658308, .int 0, .int p658139, .int o658307]) ∧ F658312 q658308 = .inl (I .byte, n658309, .inl f658310) ∧ q658308 ∈ P658311 ∧ q658308 ∉ P658134 ∧ dc ≤ (min 1 (n658309 - n658142)) ∧ ds ≤ 2 * (n658309 - n658142) ∧ gB o658307 1 16777216 ∧ gF f658310 (-128) 127 ∧ o658307.toInt = p658140.toInt + 1 ∧ o658307.toInt ≤ (n658309 : Int) ∧ (n658142 : Int) ≤ (n658309 : Int) ∧ (n658309 : Int) ≤ 2 * (n658142 : Int) + 2 ∧ ((n658309 : Int) = (n658142 : Int) ∨ (n658142 : Int) < o658307.toInt) ∧ ((n658309 : Int) = (n658142 : Int) ∨ 2 * (n658142 : Int) + 2 ≤ (n658309 : Int)))
set_option maxRecDepth 100000 in
set_option maxHeartbeats 4000000 in
theorem cp_658146_AbstractStringBuilder_append (l : Launch) (hl0 : l.stackTraces = false) (D : va_G) (I : FieldType → ClassId) (P658134 : List Nat) (F658135 : Nat → va_E) (q658136 : Nat) (q658137 : Nat) (p658138 : Int32) (p658139 : Int32) (p658140 : Int32) (f658141 : Nat → Int32) (n658142 : Nat) (hmq658136 : q658136 ∈ P658134) (hmq658137 : q658137 ∈ P658134) (heq658136 : F658135 q658136 = .inr (1, [.ref q658137, .int 0, .int p658139, .int p658140])) (heq658137 : F658135 q658137 = .inl (I .byte, n658142, .inl f658141)) (bp658138 : gB p658138 0 255) (bp658139 : gB p658139 0 1) (bp658140 : gB p658140 0 16777216) (bf658141 : gF f658141 (-128) 127) (x658143 : (n658142 : Int) ≤ 8388608 - 100000) (x658144 : p658140.toInt ≤ (n658142 : Int)) (x658145 : ((n658142 : Int) ≤ 16777216)) : CtA (gV D I) l yJ5_append_3fe6f cJ5_append_3fe6f 2 (some (FieldType.object "java/lang/AbstractStringBuilder")) 4 84 1 (4 * n658142 + 8) [.ref q658136, .int p658138] (va_pl P658134 F658135) (pp_658146_AbstractStringBuilder_append D I P658134 F658135 q658136 q658137 p658138 p658139 p658140 f658141 n658142) gNA := by
  refine CtA_ofF hl0 (by decide +kernel) (Nat.le_of_ble_eq_true rfl) ?_
  refine G_aload_n 0 dr_cJ5_append_3fe6f_0 rfl ?_
  refine G_aload_n 0 dr_cJ5_append_3fe6f_1 rfl ?_
  refine Gp_get 3 hmq658136 heq658136 dr_cJ5_append_3fe6f_2 (gk_J4 D I) (Nat.le_of_ble_eq_true rfl) wr_7_64 rfl ?_
  refine G_iconst 1 dr_cJ5_append_3fe6f_5 (by decide +kernel) ?_
  refine G_iadd dr_cJ5_append_3fe6f_6 (G_nam fun z658147 hz658147 => ?_)
  have ez658147 : z658147.toInt = p658140.toInt + 1 := by rw [gI_add hz658147 bp658140 (gBl (show Int32.toInt 1 = 1 by decide)) (by decide) (by decide), show Int32.toInt 1 = 1 from by decide]
  have bz658147 : gB z658147 1 16777217 := gB_add (gI_add hz658147 bp658140 (gBl (show Int32.toInt 1 = 1 by decide)) (by decide) (by decide)) bp658140 (gBl (show Int32.toInt 1 = 1 by decide)) (by decide) (by decide)
  refine Gw_callVB (As := [.int z658147]) (gV_ok D I) (cp_658159_AbstractStringBuilder_ensureCapacityInternal l hl0 D I P658134 F658135 q658136 q658137 z658147 p658139 p658140 f658141 n658142 hmq658136 hmq658137 heq658136 heq658137 ⟨by omega, by omega⟩ bp658139 bp658140 bf658141 (by have qa0 : Int32.toInt 0 = 0 := (by decide); omega) (by have qa0 : Int32.toInt 0 = 0 := (by decide); omega)) dr_cJ5_append_3fe6f_7 ⟨wr_8_0, wr_1_19, wr_8_3, by decide, rfl, (Nat.le_of_ble_eq_true rfl), (Nat.le_of_ble_eq_true rfl)⟩ wr_8_2 wr_s_0 hmq658136 heq658136 rfl (show 0 + 1 ≤ 1 by first | omega | decide) (show 0 + (2 * n658142 + 2 + z658147.toInt.toNat) ≤ (4 * n658142 + 8) by first | omega | decide) (Nat.le_of_ble_eq_true rfl) (fun r658212 w658213 dc658209 ds658210 hp658211 => ?_) (fun _ _ _ _ _ z => z.elim)
  rcases hp658211 with hp658214 | hp658215
  · obtain ⟨rfl, rfl, hdc, hds, x658216, x658217, x658218, x658219, x658220, x658221⟩ := hp658214
    change G _ _ _ _ _ _ _ _ _ _ _
    refine G_widen (cs' := 0) (sl' := 0) (by omega) (by omega) ?_
    refine G_aload_n 0 dr_cJ5_append_3fe6f_10 rfl ?_
    refine Gw_callVB (As := []) (gV_ok D I) (cp_640037_AbstractStringBuilder_isLatin1 l hl0 D I P658134 F658135 q658136 q658137 p658139 p658140 f658141 n658142 hmq658136 hmq658137 heq658136 heq658137 bp658139 bp658140 bf658141 (by have qa0 : Int32.toInt 0 = 0 := (by decide); omega)) dr_cJ5_append_3fe6f_11 ⟨wr_8_29, wr_1_19, wr_8_33, by decide, rfl, (Nat.le_of_ble_eq_true rfl), (Nat.le_of_ble_eq_true rfl)⟩ wr_8_30 wr_8_32 hmq658136 heq658136 rfl (show 0 + 0 ≤ 1 by first | omega | decide) (show 0 + 0 ≤ (4 * n658142 + 8) by first | omega | decide) (Nat.le_of_ble_eq_true rfl) (fun r658225 w658226 dc658222 ds658223 hp658224 => ?_) (fun _ _ _ _ _ z => z.elim)
    obtain ⟨rfl, rfl, hdc, hds⟩ := hp658224
    change G _ _ _ _ _ _ _ (.int 1 :: _) _ _ _
    refine G_widen (cs' := 0) (sl' := 0) (by omega) (by omega) ?_
    refine G_if_eq 45 dr_cJ5_append_3fe6f_14 (by decide +kernel) (fun hc => absurd hc (by decide)) (fun _ => ?_)
    refine G_iload_n 1 dr_cJ5_append_3fe6f_17 rfl ?_
    refine Gw_callS (As := [.int p658138]) (gV_ok D I) (cp_640046_StringLatin1_canEncode l hl0 D I P658134 F658135 p658138 (gB_w bp658138 (by decide) (by decide))) dr_cJ5_append_3fe6f_18 ⟨wr_8_34, wr_1_28, wr_8_36, by decide, rfl, (Nat.le_of_ble_eq_true rfl), (Nat.le_of_ble_eq_true rfl)⟩ wr_8_35 (show 0 + 0 ≤ 1 by first | omega | decide) (show 0 + 0 ≤ (4 * n658142 + 8) by first | omega | decide) (Nat.le_of_ble_eq_true rfl) (fun r658230 w658231 dc658227 ds658228 hp658229 => ?_) (fun _ _ _ _ _ z => z.elim)
    rcases hp658229 with ⟨rfl, rfl, hdc, hds, r658232⟩ | ⟨rfl, rfl, hdc, hds, r658233⟩
    · exact absurd (show False by omega) not_false
    · change G _ _ _ _ _ _ _ (.int 1 :: _) _ _ _
      refine G_widen (cs' := 0) (sl' := 0) (by omega) (by omega) ?_
      refine G_if_eq 45 dr_cJ5_append_3fe6f_21 (by decide +kernel) (fun hc => absurd hc (by decide)) (fun _ => ?_)
      refine G_aload_n 0 dr_cJ5_append_3fe6f_24 rfl ?_
      refine Gp_get 0 hmq658136 heq658136 dr_cJ5_append_3fe6f_25 (gk_J4 D I) (Nat.le_of_ble_eq_true rfl) wr_7_60 rfl ?_
      refine G_aload_n 0 dr_cJ5_append_3fe6f_28 rfl ?_
      refine G_dup dr_cJ5_append_3fe6f_29 rfl ?_
      refine Gp_get 3 hmq658136 heq658136 dr_cJ5_append_3fe6f_30 (gk_J4 D I) (Nat.le_of_ble_eq_true rfl) wr_7_64 rfl ?_
      refine G_dup_x1 dr_cJ5_append_3fe6f_33 rfl rfl ?_
      refine G_iconst 1 dr_cJ5_append_3fe6f_34 (by decide +kernel) ?_
      refine G_iadd dr_cJ5_append_3fe6f_35 (G_nam fun z658235 hz658235 => ?_)
      have ez658235 : z658235.toInt = p658140.toInt + 1 := by rw [gI_add hz658235 bp658140 (gBl (show Int32.toInt 1 = 1 by decide)) (by decide) (by decide), show Int32.toInt 1 = 1 from by decide]
      have bz658235 : gB z658235 1 16777217 := gB_add (gI_add hz658235 bp658140 (gBl (show Int32.toInt 1 = 1 by decide)) (by decide) (by decide)) bp658140 (gBl (show Int32.toInt 1 = 1 by decide)) (by decide) (by decide)
      refine Gp_put 3 hmq658136 heq658136 dr_cJ5_append_3fe6f_36 (gk_J4 D I) (Nat.le_of_ble_eq_true rfl) wr_7_64 rfl rfl rfl (Nat.le_of_ble_eq_true rfl) (fun F658236 e658237 n658238 => ?_)
      have he658239 : F658236 q658137 = .inl (I .byte, n658142, .inl f658141) := (n658238 q658137 (rn_ao heq658137 heq658136)).trans heq658137
      have he658240 : F658236 q658136 = .inr (1, [.ref q658137, .int 0, .int p658139, .int z658235]) := e658237
      have hfr658241 : rFr [q658136] P658134 F658135 F658236 := rFr_put (rFr_rf (W := []) (P := P658134) (F := F658135)) n658238
      refine G_iload_n 1 dr_cJ5_append_3fe6f_39 rfl ?_
      refine G_i2b dr_cJ5_append_3fe6f_40 (G_nam fun z658242 hz658242 => ?_)
      have bz658242 : gB z658242 (-128) 127 := gB_i2b hz658242
      refine Gp_bast 1 hmq658137 he658239 dr_cJ5_append_3fe6f_41 rfl (gB_inr (by omega) (by omega)) (fun F658243 e658244 n658245 => ?_)
      obtain ⟨f658246, hf658246⟩ : ∃ z, z = upd f658141 p658140.toNatClampNeg (vp_nar .byte z658242) := ⟨_, rfl⟩
      rw [← hf658246] at e658244
      have he658247 : F658243 q658136 = .inr (1, [.ref q658137, .int 0, .int p658139, .int z658235]) := (n658245 q658136 (rn_oa he658240 he658239)).trans he658240
      have he658248 : F658243 q658137 = .inl (I .byte, n658142, .inl f658246) := e658244
      have hfr658249 : rFr [q658137, q658136] P658134 F658135 F658243 := rFr_put hfr658241 n658245
      have bf658246 : gF f658246 (-128) 127 := gF_upd hf658246 bf658141 gB_byte
      refine G_goto 75 dr_cJ5_append_3fe6f_42 (by decide +kernel) ?_
      refine G_aload_n 0 dr_cJ5_append_3fe6f_75 rfl ?_
      exact G_aretA (FieldType.object "java/lang/AbstractStringBuilder") dr_cJ5_append_3fe6f_76 rfl (by first | exact Or.inl ⟨_, rfl⟩ | exact Or.inr ⟨_, rfl⟩) (Or.inr ⟨_, rfl⟩) (Nat.le_of_ble_eq_true rfl) (Nat.le_of_ble_eq_true rfl) (Or.inl ⟨F658243, z658235, f658246, rfl, rfl, hfr658249, he658247, he658248, (Nat.le_of_ble_eq_true rfl), (Nat.le_of_ble_eq_true rfl), ⟨by omega, by omega⟩, bf658246, (by have qa0 : Int32.toInt 0 = 0 := (by decide); omega), (by have qa0 : Int32.toInt 0 = 0 := (by decide); omega), (by have qa0 : Int32.toInt 0 = 0 := (by decide); omega), (by have qa0 : Int32.toInt 0 = 0 := (by decide); omega), (by have qa0 : Int32.toInt 0 = 0 := (by decide); omega), (by have qa0 : Int32.toInt 0 = 0 := (by decide); omega)⟩)
  · obtain ⟨P658259, F658260, q658250, n658251, f658252, rfl, rfl, hsb658261, hfr658262, he658263, he658264, hm658265, hq658266, hdc, hds, bf658252, x658253, x658254, x658255, x658256, x658257, x658258⟩ := hp658215
    have hm658267 : q658136 ∈ P658259 := hsb658261 q658136 hmq658136
    have hm658268 : q658137 ∈ P658259 := hsb658261 q658137 hmq658137
    have hq658269 : q658250 ∉ P658134 := fun z => hq658266 ((rSub_rf (P := P658134)) q658250 z)
    have hsb658270 : rSub P658134 P658259 := rSub_tr (rSub_rf (P := P658134)) hsb658261
    have he658271 : F658260 q658137 = .inl (I .byte, n658142, .inl f658141) := (hfr658262 q658137 hmq658137 (nm_c (rn_ao heq658137 heq658136) nm_n)).trans heq658137
    have hfr658272 : rFr [q658136] P658134 F658135 F658260 := rFr_call (rSub_rf (P := P658134)) (rFr_rf (W := []) (P := P658134) (F := F658135)) hfr658262 (fun b hb hn => ⟨nm_n, (nm_c (fun e => hn (e ▸ List.mem_cons_self)) nm_n)⟩)
    change G _ _ _ _ _ _ _ _ _ _ _
    refine G_widen (cs' := (min 1 (n658251 - n658142))) (sl' := 2 * (n658251 - n658142)) (by omega) (by omega) ?_
    refine G_aload_n 0 dr_cJ5_append_3fe6f_10 rfl ?_
    refine Gw_callVB (As := []) (gV_ok D I) (cp_640037_AbstractStringBuilder_isLatin1 l hl0 D I P658259 F658260 q658136 q658250 p658139 p658140 f658252 n658251 hm658267 hm658265 he658263 he658264 bp658139 bp658140 bf658252 (by have qa0 : Int32.toInt 0 = 0 := (by decide); omega)) dr_cJ5_append_3fe6f_11 ⟨wr_8_29, wr_1_19, wr_8_33, by decide, rfl, (Nat.le_of_ble_eq_true rfl), (Nat.le_of_ble_eq_true rfl)⟩ wr_8_30 wr_8_32 hm658267 he658263 rfl (show (min 1 (n658251 - n658142)) + 0 ≤ 1 by first | omega | decide) (show 2 * (n658251 - n658142) + 0 ≤ (4 * n658142 + 8) by first | omega | decide) (Nat.le_of_ble_eq_true rfl) (fun r658276 w658277 dc658273 ds658274 hp658275 => ?_) (fun _ _ _ _ _ z => z.elim)
    obtain ⟨rfl, rfl, hdc, hds⟩ := hp658275
    change G _ _ _ _ _ _ _ (.int 1 :: _) _ _ _
    refine G_widen (cs' := (min 1 (n658251 - n658142)) + 0) (sl' := 2 * (n658251 - n658142) + 0) (by omega) (by omega) ?_
    refine G_if_eq 45 dr_cJ5_append_3fe6f_14 (by decide +kernel) (fun hc => absurd hc (by decide)) (fun _ => ?_)
    refine G_iload_n 1 dr_cJ5_append_3fe6f_17 rfl ?_
    refine Gw_callS (As := [.int p658138]) (gV_ok D I) (cp_640046_StringLatin1_canEncode l hl0 D I P658259 F658260 p658138 (gB_w bp658138 (by decide) (by decide))) dr_cJ5_append_3fe6f_18 ⟨wr_8_34, wr_1_28, wr_8_36, by decide, rfl, (Nat.le_of_ble_eq_true rfl), (Nat.le_of_ble_eq_true rfl)⟩ wr_8_35 (show (min 1 (n658251 - n658142)) + 0 + 0 ≤ 1 by first | omega | decide) (show 2 * (n658251 - n658142) + 0 + 0 ≤ (4 * n658142 + 8) by first | omega | decide) (Nat.le_of_ble_eq_true rfl) (fun r658281 w658282 dc658278 ds658279 hp658280 => ?_) (fun _ _ _ _ _ z => z.elim)
    rcases hp658280 with ⟨rfl, rfl, hdc, hds, r658283⟩ | ⟨rfl, rfl, hdc, hds, r658284⟩
    · exact absurd (show False by omega) not_false
    · change G _ _ _ _ _ _ _ (.int 1 :: _) _ _ _
      refine G_widen (cs' := (min 1 (n658251 - n658142)) + 0 + 0) (sl' := 2 * (n658251 - n658142) + 0 + 0) (by omega) (by omega) ?_
      refine G_if_eq 45 dr_cJ5_append_3fe6f_21 (by decide +kernel) (fun hc => absurd hc (by decide)) (fun _ => ?_)
      refine G_aload_n 0 dr_cJ5_append_3fe6f_24 rfl ?_
      refine Gp_get 0 hm658267 he658263 dr_cJ5_append_3fe6f_25 (gk_J4 D I) (Nat.le_of_ble_eq_true rfl) wr_7_60 rfl ?_
      refine G_aload_n 0 dr_cJ5_append_3fe6f_28 rfl ?_
      refine G_dup dr_cJ5_append_3fe6f_29 rfl ?_
      refine Gp_get 3 hm658267 he658263 dr_cJ5_append_3fe6f_30 (gk_J4 D I) (Nat.le_of_ble_eq_true rfl) wr_7_64 rfl ?_
      refine G_dup_x1 dr_cJ5_append_3fe6f_33 rfl rfl ?_
      refine G_iconst 1 dr_cJ5_append_3fe6f_34 (by decide +kernel) ?_
      refine G_iadd dr_cJ5_append_3fe6f_35 (G_nam fun z658286 hz658286 => ?_)
      have ez658286 : z658286.toInt = p658140.toInt + 1 := by rw [gI_add hz658286 bp658140 (gBl (show Int32.toInt 1 = 1 by decide)) (by decide) (by decide), show Int32.toInt 1 = 1 from by decide]
      have bz658286 : gB z658286 1 16777217 := gB_add (gI_add hz658286 bp658140 (gBl (show Int32.toInt 1 = 1 by decide)) (by decide) (by decide)) bp658140 (gBl (show Int32.toInt 1 = 1 by decide)) (by decide) (by decide)
      refine Gp_put 3 hm658267 he658263 dr_cJ5_append_3fe6f_36 (gk_J4 D I) (Nat.le_of_ble_eq_true rfl) wr_7_64 rfl rfl rfl (Nat.le_of_ble_eq_true rfl) (fun F658287 e658288 n658289 => ?_)
      have he658290 : F658287 q658137 = .inl (I .byte, n658142, .inl f658141) := (n658289 q658137 (rn_ao he658271 he658263)).trans he658271
      have he658291 : F658287 q658250 = .inl (I .byte, n658251, .inl f658252) := (n658289 q658250 (fun h => hq658269 (h ▸ hmq658136))).trans he658264
      have he658292 : F658287 q658136 = .inr (1, [.ref q658250, .int 0, .int p658139, .int z658286]) := e658288
      have hfr658293 : rFr [q658136] P658134 F658135 F658287 := rFr_put' List.mem_cons_self hfr658272 n658289
      refine G_iload_n 1 dr_cJ5_append_3fe6f_39 rfl ?_
      refine G_i2b dr_cJ5_append_3fe6f_40 (G_nam fun z658294 hz658294 => ?_)
      have bz658294 : gB z658294 (-128) 127 := gB_i2b hz658294
      refine Gp_bast 1 hm658265 he658291 dr_cJ5_append_3fe6f_41 rfl (gB_inr (by omega) (by omega)) (fun F658295 e658296 n658297 => ?_)
      obtain ⟨f658298, hf658298⟩ : ∃ z, z = upd f658252 p658140.toNatClampNeg (vp_nar .byte z658294) := ⟨_, rfl⟩
      rw [← hf658298] at e658296
      have he658299 : F658295 q658137 = .inl (I .byte, n658142, .inl f658141) := (n658297 q658137 (fun h => hq658269 (h ▸ hmq658137))).trans he658290
      have he658300 : F658295 q658136 = .inr (1, [.ref q658250, .int 0, .int p658139, .int z658286]) := (n658297 q658136 (fun h => hq658269 (h ▸ hmq658136))).trans he658292
      have he658301 : F658295 q658250 = .inl (I .byte, n658251, .inl f658298) := e658296
      have hfr658302 : rFr [q658136] P658134 F658135 F658295 := rFr_newp hq658269 hfr658293 n658297
      have bf658298 : gF f658298 (-128) 127 := gF_upd hf658298 bf658252 gB_byte
      refine G_goto 75 dr_cJ5_append_3fe6f_42 (by decide +kernel) ?_
      refine G_aload_n 0 dr_cJ5_append_3fe6f_75 rfl ?_
      exact G_aretA (FieldType.object "java/lang/AbstractStringBuilder") dr_cJ5_append_3fe6f_76 rfl (by first | exact Or.inl ⟨_, rfl⟩ | exact Or.inr ⟨_, rfl⟩) (Or.inr ⟨_, rfl⟩) (show (min 1 (n658251 - n658142)) + 0 + 0 ≤ 1 by omega) (show 2 * (n658251 - n658142) + 0 + 0 ≤ (4 * n658142 + 8) by omega) (Or.inr (⟨P658259, F658295, z658286, q658250, n658251, f658298, rfl, rfl, hsb658270, hfr658302, he658300, he658301, hm658265, hq658269, (by omega), (by omega), ⟨by omega, by omega⟩, bf658298, (by have qa0 : Int32.toInt 0 = 0 := (by decide); omega), (by have qa0 : Int32.toInt 0 = 0 := (by decide); omega), (by have qa0 : Int32.toInt 0 = 0 := (by decide); omega), (by have qa0 : Int32.toInt 0 = 0 := (by decide); omega), (by have qa0 : Int32.toInt 0 = 0 := (by decide); omega), (by have qa0 : Int32.toInt 0 = 0 := (by decide); omega)⟩))
abbrev ky_658133_StringBuilder_append : gKey := (cJ4_append_cf468, 2, "java/lang/StringBuilder", (some (FieldType.object "java/lang/StringBuilder")), [], "append", fun _ _ => True)
def pp_658133_StringBuilder_append (D : va_G) (I : FieldType → ClassId) (P658121 : List Nat) (F658122 : Nat → va_E) (q658123 : Nat) (q658124 : Nat) (p658125 : Int32) (p658126 : Int32) (p658127 : Int32) (f658128 : Nat → Int32) (n658129 : Nat) : Option Value → va_W → Nat → Nat → Prop := fun r w dc ds => (∃ (F658361 : Nat → va_E) (o658358 : Int32) (f658359 : Nat → Int32), r = some (.ref q658123) ∧ w = va_pl P658121 F658361 ∧ rFr [q658124, q658123] P658121 F658122 F658361 ∧ F658361 q658123 = .inr (1, [.ref q658124, .int 0, .int p658126, .int o658358]) ∧ F658361 q658124 = .inl (I .byte, n658129, .inl f658359) ∧ dc ≤ 0 ∧ ds ≤ 0 ∧ gB o658358 1 16777216 ∧ gF f658359 (-128) 127 ∧ o658358.toInt = p658127.toInt + 1 ∧ o658358.toInt ≤ (n658129 : Int) ∧ (n658129 : Int) ≤ (n658129 : Int) ∧ (n658129 : Int) ≤ 2 * (n658129 : Int) + 2 ∧ ((n658129 : Int) = (n658129 : Int) ∨ (n658129 : Int) < o658358.toInt) ∧ ((n658129 : Int) = (n658129 : Int) ∨ 2 * (n658129 : Int) + 2 ≤ (n658129 : Int))) ∨ (∃ (P658366 : List Nat) (F658367 : Nat → va_E) (o658362 : Int32) (q658363 : Nat) (n658364 : Nat) (f658365 : Nat → Int32), r = some (.ref q658123) ∧ w = va_pl P658366 F658367 ∧ rSub P658121 P658366 ∧ rFr [q658123] P658121 F658122 F658367 ∧ F658367 q658123 = .inr (1, [.ref q658363, .int 0, .int p658126, .int o658362]) ∧ F658367 q658363 = .inl (I .byte, n658364, .inl f658365) ∧ q658363 ∈ P658366 ∧ q658363 ∉ P658121 ∧ dc ≤ (min 1 (n658364 - n658129)) ∧ ds ≤ 2 * (n658364 - n658129) ∧ gB o658362 1 16777216 ∧ gF f658365 (-128) 127 ∧ o658362.toInt = p658127.toInt + 1 ∧ o658362.toInt ≤ (n658364 : Int) ∧ (n658129 : Int) ≤ (n658364 : Int) ∧ (n658364 : Int) ≤ 2 * (n658129 : Int) + 2 ∧ ((n658364 : Int) = (n658129 : Int) ∨ (n658129 : Int) < o658362.toInt) ∧ ((n658364 : Int) = (n658129 : Int) ∨ 2 * (n658129 : Int) + 2 ≤ (n658364 : Int)))
set_option maxRecDepth 100000 in
set_option maxHeartbeats 4000000 in
theorem cp_658133_StringBuilder_append (l : Launch) (hl0 : l.stackTraces = false) (D : va_G) (I : FieldType → ClassId) (P658121 : List Nat) (F658122 : Nat → va_E) (q658123 : Nat) (q658124 : Nat) (p658125 : Int32) (p658126 : Int32) (p658127 : Int32) (f658128 : Nat → Int32) (n658129 : Nat) (hmq658123 : q658123 ∈ P658121) (hmq658124 : q658124 ∈ P658121) (heq658123 : F658122 q658123 = .inr (1, [.ref q658124, .int 0, .int p658126, .int p658127])) (heq658124 : F658122 q658124 = .inl (I .byte, n658129, .inl f658128)) (bp658125 : gB p658125 0 255) (bp658126 : gB p658126 0 1) (bp658127 : gB p658127 0 16777216) (bf658128 : gF f658128 (-128) 127) (x658130 : (n658129 : Int) ≤ 8388608 - 100000) (x658131 : p658127.toInt ≤ (n658129 : Int)) (x658132 : ((n658129 : Int) ≤ 16777216)) : CtA (gV D I) l yJ4_append_cf468 cJ4_append_cf468 2 (some (FieldType.object "java/lang/StringBuilder")) 5 105 1 (4 * n658129 + 8) [.ref q658123, .int p658125] (va_pl P658121 F658122) (pp_658133_StringBuilder_append D I P658121 F658122 q658123 q658124 p658125 p658126 p658127 f658128 n658129) gNA := by
  refine CtA_ofF hl0 (by decide +kernel) (Nat.le_of_ble_eq_true rfl) ?_
  refine G_aload_n 0 dr_cJ4_append_cf468_0 rfl ?_
  refine G_iload_n 1 dr_cJ4_append_cf468_1 rfl ?_
  refine Gw_callSU (As := [.int p658125]) (gV_ok D I) (cp_658146_AbstractStringBuilder_append l hl0 D I P658121 F658122 q658123 q658124 p658125 p658126 p658127 f658128 n658129 hmq658123 hmq658124 heq658123 heq658124 bp658125 bp658126 bp658127 bf658128 (by have qa0 : Int32.toInt 0 = 0 := (by decide); omega) (by have qa0 : Int32.toInt 0 = 0 := (by decide); omega) (by have qa0 : Int32.toInt 0 = 0 := (by decide); omega)) dr_cJ4_append_cf468_2 ⟨wr_7_237, wr_1_19, wr_7_239, by decide, rfl, (Nat.le_of_ble_eq_true rfl), (Nat.le_of_ble_eq_true rfl)⟩ wr_7_238 wr_11_220 wr_7_73 wr_7_44 (by decide) hmq658123 heq658123 rfl (show 0 + 1 ≤ 1 by first | omega | decide) (show 0 + (4 * n658129 + 8) ≤ (4 * n658129 + 8) by first | omega | decide) (Nat.le_of_ble_eq_true rfl) (fun r658316 w658317 dc658313 ds658314 hp658315 => ?_)
  rcases hp658315 with hp658318 | hp658319
  · obtain ⟨F658328, o658320, f658321, rfl, rfl, hfr658330, he658331, he658332, hdc, hds, bo658320, bf658321, x658322, x658323, x658324, x658325, x658326, x658327⟩ := hp658318
    have hfr658333 : rFr [q658124, q658123] P658121 F658122 F658328 := rFr_call (rSub_rf (P := P658121)) (rFr_rf (W := []) (P := P658121) (F := F658122)) hfr658330 (fun b hb hn => ⟨nm_n, (nm_c (fun e => hn (e ▸ List.mem_cons_self)) (nm_c (fun e => hn (e ▸ (List.mem_cons_of_mem _ List.mem_cons_self))) nm_n))⟩)
    change G _ _ _ _ _ _ _ (.ref q658123 :: _) _ _ _
    refine G_widen (cs' := 0) (sl' := 0) (by omega) (by omega) ?_
    refine G_pop dr_cJ4_append_cf468_5 rfl ?_
    refine G_aload_n 0 dr_cJ4_append_cf468_6 rfl ?_
    exact G_aretA (FieldType.object "java/lang/StringBuilder") dr_cJ4_append_cf468_7 rfl (by first | exact Or.inl ⟨_, rfl⟩ | exact Or.inr ⟨_, rfl⟩) (Or.inr ⟨_, rfl⟩) (Nat.le_of_ble_eq_true rfl) (Nat.le_of_ble_eq_true rfl) (Or.inl ⟨F658328, o658320, f658321, rfl, rfl, hfr658333, he658331, he658332, (Nat.le_of_ble_eq_true rfl), (Nat.le_of_ble_eq_true rfl), bo658320, bf658321, (by have qa0 : Int32.toInt 0 = 0 := (by decide); omega), (by have qa0 : Int32.toInt 0 = 0 := (by decide); omega), (by have qa0 : Int32.toInt 0 = 0 := (by decide); omega), (by have qa0 : Int32.toInt 0 = 0 := (by decide); omega), (by have qa0 : Int32.toInt 0 = 0 := (by decide); omega), (by have qa0 : Int32.toInt 0 = 0 := (by decide); omega)⟩)
  · obtain ⟨P658344, F658345, o658334, q658335, n658336, f658337, rfl, rfl, hsb658346, hfr658347, he658348, he658349, hm658350, hq658351, hdc, hds, bo658334, bf658337, x658338, x658339, x658340, x658341, x658342, x658343⟩ := hp658319
    have hm658352 : q658123 ∈ P658344 := hsb658346 q658123 hmq658123
    have hm658353 : q658124 ∈ P658344 := hsb658346 q658124 hmq658124
    have hq658354 : q658335 ∉ P658121 := fun z => hq658351 ((rSub_rf (P := P658121)) q658335 z)
    have hsb658355 : rSub P658121 P658344 := rSub_tr (rSub_rf (P := P658121)) hsb658346
    have he658356 : F658345 q658124 = .inl (I .byte, n658129, .inl f658128) := (hfr658347 q658124 hmq658124 (nm_c (rn_ao heq658124 heq658123) nm_n)).trans heq658124
    have hfr658357 : rFr [q658123] P658121 F658122 F658345 := rFr_call (rSub_rf (P := P658121)) (rFr_rf (W := []) (P := P658121) (F := F658122)) hfr658347 (fun b hb hn => ⟨nm_n, (nm_c (fun e => hn (e ▸ List.mem_cons_self)) nm_n)⟩)
    change G _ _ _ _ _ _ _ (.ref q658123 :: _) _ _ _
    refine G_widen (cs' := (min 1 (n658336 - n658129))) (sl' := 2 * (n658336 - n658129)) (by omega) (by omega) ?_
    refine G_pop dr_cJ4_append_cf468_5 rfl ?_
    refine G_aload_n 0 dr_cJ4_append_cf468_6 rfl ?_
    exact G_aretA (FieldType.object "java/lang/StringBuilder") dr_cJ4_append_cf468_7 rfl (by first | exact Or.inl ⟨_, rfl⟩ | exact Or.inr ⟨_, rfl⟩) (Or.inr ⟨_, rfl⟩) (show (min 1 (n658336 - n658129)) ≤ 1 by omega) (show 2 * (n658336 - n658129) ≤ (4 * n658129 + 8) by omega) (Or.inr (⟨P658344, F658345, o658334, q658335, n658336, f658337, rfl, rfl, hsb658355, hfr658357, he658348, he658349, hm658350, hq658354, (by omega), (by omega), bo658334, bf658337, (by have qa0 : Int32.toInt 0 = 0 := (by decide); omega), (by have qa0 : Int32.toInt 0 = 0 := (by decide); omega), (by have qa0 : Int32.toInt 0 = 0 := (by decide); omega), (by have qa0 : Int32.toInt 0 = 0 := (by decide); omega), (by have qa0 : Int32.toInt 0 = 0 := (by decide); omega), (by have qa0 : Int32.toInt 0 = 0 := (by decide); omega)⟩))
abbrev ky_658393_AbstractStringBuilder_append : gKey := (cJ5_append_c97b9, 4, "java/lang/AbstractStringBuilder", (some (FieldType.object "java/lang/AbstractStringBuilder")), [], "append", fun _ _ => True)
def pp_658393_AbstractStringBuilder_append (D : va_G) (I : FieldType → ClassId) (P658381 : List Nat) (F658382 : Nat → va_E) (q658383 : Nat) (q658384 : Nat) (p658385 : Int32) (p658386 : Int32) (p658387 : Int32) (f658388 : Nat → Int32) (n658389 : Nat) : Option Value → va_W → Nat → Nat → Prop := fun r w dc ds => (∃ (F658491 : Nat → va_E) (o658488 : Int32) (f658489 : Nat → Int32), r = some (.ref q658383) ∧ w = va_pl P658381 F658491 ∧ rFr [q658383, q658384] P658381 F658382 F658491 ∧ F658491 q658383 = .inr (1, [.ref q658384, .int 0, .int p658386, .int o658488]) ∧ F658491 q658384 = .inl (I .byte, n658389, .inl f658489) ∧ dc ≤ 0 ∧ ds ≤ 0 ∧ gB o658488 1 16777216 ∧ gF f658489 (-128) 127 ∧ p658387.toInt ≤ o658488.toInt ∧ o658488.toInt ≤ p658387.toInt + 11 ∧ o658488.toInt ≤ (n658389 : Int) ∧ (n658389 : Int) ≤ (n658389 : Int) ∧ ((n658389 : Int) ≤ 2 * (n658389 : Int) + 2 ∨ (n658389 : Int) ≤ p658387.toInt + 11) ∧ ((n658389 : Int) = (n658389 : Int) ∨ (n658389 : Int) < o658488.toInt) ∧ ((n658389 : Int) = (n658389 : Int) ∨ 2 * (n658389 : Int) + 2 ≤ (n658389 : Int))) ∨ (∃ (P658496 : List Nat) (F658497 : Nat → va_E) (o658492 : Int32) (q658493 : Nat) (n658494 : Nat) (f658495 : Nat → Int32), r = some (.ref q658383) ∧ w = va_pl P658496 F658497 ∧ rSub P658381 P658496 ∧ rFr [q658383] P658381 F658382 F658497 ∧ F658497 q658383 = .inr (1, [.ref q658493, .int 0, .int p658386, .int o658492]) ∧ F658497 q658493 = .inl (I .byte, n658494, .inl f658495) ∧ q658493 ∈ P658496 ∧ q658493 ∉ P658381 ∧ dc ≤ (min 1 (n658494 - n658389)) ∧ ds ≤ 2 * (n658494 - n658389) ∧ gB o658492 1 16777216 ∧ gF f658495 (-128) 127 ∧ p658387.toInt ≤ o658492.toInt ∧ o658492.toInt ≤ p658387.toInt + 11 ∧ o658492.toInt ≤ (n658494 : Int) ∧ (n658389 : Int) ≤ (n658494 : Int) ∧ ((n658494 : Int) ≤ 2 * (n658389 : Int) + 2 ∨ (n658494 : Int) ≤ p658387.toInt + 11) ∧ ((n658494 : Int) = (n658389 : Int) ∨ (n658389 : Int) < o658492.toInt) ∧ ((n658494 : Int) = (n658389 : Int) ∨ 2 * (n658389 : Int) + 2 ≤ (n658494 : Int)))
set_option maxRecDepth 100000 in
set_option maxHeartbeats 4000000 in
theorem cp_658393_AbstractStringBuilder_append (l : Launch) (hl0 : l.stackTraces = false) (D : va_G) (I : FieldType → ClassId) (P658381 : List Nat) (F658382 : Nat → va_E) (q658383 : Nat) (q658384 : Nat) (p658385 : Int32) (p658386 : Int32) (p658387 : Int32) (f658388 : Nat → Int32) (n658389 : Nat) (hmq658383 : q658383 ∈ P658381) (hmq658384 : q658384 ∈ P658381) (heq658383 : F658382 q658383 = .inr (1, [.ref q658384, .int 0, .int p658386, .int p658387])) (heq658384 : F658382 q658384 = .inl (I .byte, n658389, .inl f658388)) (bp658386 : gB p658386 0 1) (bp658387 : gB p658387 0 16777216) (bf658388 : gF f658388 (-128) 127) (x658390 : (n658389 : Int) ≤ 8388608 - 100000) (x658391 : p658387.toInt ≤ (n658389 : Int)) (x658392 : ((n658389 : Int) ≤ 16777216)) : CtA (gV D I) l yJ5_append_c97b9 cJ5_append_c97b9 4 (some (FieldType.object "java/lang/AbstractStringBuilder")) 4 84 1 (4 * n658389 + 64) [.ref q658383, .int p658385] (va_pl P658381 F658382) (pp_658393_AbstractStringBuilder_append D I P658381 F658382 q658383 q658384 p658385 p658386 p658387 f658388 n658389) gNA := by
  refine CtA_ofF hl0 (by decide +kernel) (Nat.le_of_ble_eq_true rfl) ?_
  have bp658385 := gB_any p658385
  refine G_aload_n 0 dr_cJ5_append_c97b9_0 rfl ?_
  refine Gp_get 3 hmq658383 heq658383 dr_cJ5_append_c97b9_1 (gk_J4 D I) (Nat.le_of_ble_eq_true rfl) wr_7_64 rfl ?_
  refine G_istore_n (L' := [(2, .int p658387), (0, .ref q658383), (1, .int p658385)]) dr_cJ5_append_c97b9_4 (Nat.le_of_ble_eq_true rfl) rfl ?_
  refine G_iload_n 0 dr_cJ5_append_c97b9_5 rfl ?_
  refine G_iload_n 2 dr_cJ5_append_c97b9_6 rfl ?_
  refine Gw_callS (As := [.int p658385]) (gV_ok D I) (cp_648825_Integer_stringSize l hl0 D I P658381 F658382 p658385 ) dr_cJ5_append_c97b9_7 ⟨wr_8_108, wr_1_35, wr_8_110, by decide, rfl, (Nat.le_of_ble_eq_true rfl), (Nat.le_of_ble_eq_true rfl)⟩ wr_8_109 (show 0 + 0 ≤ 1 by first | omega | decide) (show 0 + 0 ≤ (4 * n658389 + 64) by first | omega | decide) (Nat.le_of_ble_eq_true rfl) (fun r658397 w658398 dc658394 ds658395 hp658396 => ?_) (fun _ _ _ _ _ z => z.elim)
  obtain ⟨o658399, rfl, rfl, hdc, hds, bo658399, x658400⟩ := hp658396
  change G _ _ _ _ _ _ _ (.int o658399 :: _) _ _ _
  refine G_widen (cs' := 0) (sl' := 0) (by omega) (by omega) ?_
  refine G_iadd dr_cJ5_append_c97b9_10 (G_nam fun z658401 hz658401 => ?_)
  have ez658401 : z658401.toInt = p658387.toInt + o658399.toInt := by rw [gI_add hz658401 bp658387 bo658399 (by decide) (by decide)]
  have bz658401 : gB z658401 1 16777227 := gB_add (gI_add hz658401 bp658387 bo658399 (by decide) (by decide)) bp658387 bo658399 (by decide) (by decide)
  refine G_istore_n (L' := [(3, .int z658401), (2, .int p658387), (0, .ref q658383), (1, .int p658385)]) dr_cJ5_append_c97b9_11 (Nat.le_of_ble_eq_true rfl) rfl ?_
  refine G_aload_n 2 dr_cJ5_append_c97b9_12 rfl ?_
  refine G_iload_n 0 dr_cJ5_append_c97b9_13 rfl ?_
  refine Gw_callVB (As := [.int z658401]) (gV_ok D I) (cp_658159_AbstractStringBuilder_ensureCapacityInternal l hl0 D I P658381 F658382 q658383 q658384 z658401 p658386 p658387 f658388 n658389 hmq658383 hmq658384 heq658383 heq658384 ⟨by omega, by omega⟩ bp658386 bp658387 bf658388 (by have qa0 : Int32.toInt 0 = 0 := (by decide); omega) (by have qa0 : Int32.toInt 0 = 0 := (by decide); omega)) dr_cJ5_append_c97b9_14 ⟨wr_8_0, wr_1_19, wr_8_3, by decide, rfl, (Nat.le_of_ble_eq_true rfl), (Nat.le_of_ble_eq_true rfl)⟩ wr_8_2 wr_s_0 hmq658383 heq658383 rfl (show 0 + 1 ≤ 1 by first | omega | decide) (show 0 + (2 * n658389 + 2 + z658401.toInt.toNat) ≤ (4 * n658389 + 64) by first | omega | decide) (Nat.le_of_ble_eq_true rfl) (fun r658405 w658406 dc658402 ds658403 hp658404 => ?_) (fun _ _ _ _ _ z => z.elim)
  rcases hp658404 with hp658407 | hp658408
  · obtain ⟨rfl, rfl, hdc, hds, x658409, x658410, x658411, x658412, x658413, x658414⟩ := hp658407
    change G _ _ _ _ _ _ _ _ _ _ _
    refine G_widen (cs' := 0) (sl' := 0) (by omega) (by omega) ?_
    refine G_aload_n 2 dr_cJ5_append_c97b9_17 rfl ?_
    refine Gw_callVB (As := []) (gV_ok D I) (cp_640037_AbstractStringBuilder_isLatin1 l hl0 D I P658381 F658382 q658383 q658384 p658386 p658387 f658388 n658389 hmq658383 hmq658384 heq658383 heq658384 bp658386 bp658387 bf658388 (by have qa0 : Int32.toInt 0 = 0 := (by decide); omega)) dr_cJ5_append_c97b9_18 ⟨wr_8_29, wr_1_19, wr_8_33, by decide, rfl, (Nat.le_of_ble_eq_true rfl), (Nat.le_of_ble_eq_true rfl)⟩ wr_8_30 wr_8_32 hmq658383 heq658383 rfl (show 0 + 0 ≤ 1 by first | omega | decide) (show 0 + 0 ≤ (4 * n658389 + 64) by first | omega | decide) (Nat.le_of_ble_eq_true rfl) (fun r658418 w658419 dc658415 ds658416 hp658417 => ?_) (fun _ _ _ _ _ z => z.elim)
    obtain ⟨rfl, rfl, hdc, hds⟩ := hp658417
    change G _ _ _ _ _ _ _ (.int 1 :: _) _ _ _
    refine G_widen (cs' := 0) (sl' := 0) (by omega) (by omega) ?_
    refine G_if_eq 37 dr_cJ5_append_c97b9_21 (by decide +kernel) (fun hc => absurd hc (by decide)) (fun _ => ?_)
    refine G_iload_n 3 dr_cJ5_append_c97b9_24 rfl ?_
    refine G_iload_n 0 dr_cJ5_append_c97b9_25 rfl ?_
    refine G_aload_n 2 dr_cJ5_append_c97b9_26 rfl ?_
    refine Gp_get 0 hmq658383 heq658383 dr_cJ5_append_c97b9_27 (gk_J4 D I) (Nat.le_of_ble_eq_true rfl) wr_7_60 rfl ?_
    refine Gw_callS (As := [.int p658385, .int z658401, .ref q658384]) (gV_ok D I) (cp_649002_Integer_getChars l hl0 D I P658381 F658382 q658384 p658385 z658401 f658388 n658389 hmq658384 heq658384 ⟨by omega, by omega⟩ bf658388 (by have qa0 : Int32.toInt 0 = 0 := (by decide); omega) (by have q10 : Int32.toInt 10 = 10 := (by decide); have q11 : Int32.toInt 11 = 11 := (by decide); first | exact dgS_up (by omega) (by omega) x658400 (by omega)) (by have qa0 : Int32.toInt 0 = 0 := (by decide); omega)) dr_cJ5_append_c97b9_30 ⟨wr_8_111, wr_1_35, wr_8_113, by decide, rfl, (Nat.le_of_ble_eq_true rfl), (Nat.le_of_ble_eq_true rfl)⟩ wr_8_112 (show 0 + 0 ≤ 1 by first | omega | decide) (show 0 + 0 ≤ (4 * n658389 + 64) by first | omega | decide) (Nat.le_of_ble_eq_true rfl) (fun r658423 w658424 dc658420 ds658421 hp658422 => ?_) (fun _ _ _ _ _ z => z.elim)
    obtain ⟨F658427, o658425, f658426, rfl, rfl, hfr658429, he658430, hdc, hds, bo658425, bf658426⟩ := hp658422
    have he658431 : F658427 q658383 = .inr (1, [.ref q658384, .int 0, .int p658386, .int p658387]) := (hfr658429 q658383 hmq658383 (nm_c (rn_oa heq658383 heq658384) nm_n)).trans heq658383
    have hfr658432 : rFr [q658384] P658381 F658382 F658427 := rFr_call (rSub_rf (P := P658381)) (rFr_rf (W := []) (P := P658381) (F := F658382)) hfr658429 (fun b hb hn => ⟨nm_n, (nm_c (fun e => hn (e ▸ List.mem_cons_self)) nm_n)⟩)
    change G _ _ _ _ _ _ _ (.int o658425 :: _) _ _ _
    refine G_widen (cs' := 0) (sl' := 0) (by omega) (by omega) ?_
    refine G_pop dr_cJ5_append_c97b9_33 rfl ?_
    refine G_goto 48 dr_cJ5_append_c97b9_34 (by decide +kernel) ?_
    refine G_aload_n 2 dr_cJ5_append_c97b9_48 rfl ?_
    refine G_iload_n 0 dr_cJ5_append_c97b9_49 rfl ?_
    refine Gp_put 3 hmq658383 he658431 dr_cJ5_append_c97b9_50 (gk_J4 D I) (Nat.le_of_ble_eq_true rfl) wr_7_64 rfl rfl rfl (Nat.le_of_ble_eq_true rfl) (fun F658433 e658434 n658435 => ?_)
    have he658436 : F658433 q658384 = .inl (I .byte, n658389, .inl f658426) := (n658435 q658384 (rn_ao he658430 he658431)).trans he658430
    have he658437 : F658433 q658383 = .inr (1, [.ref q658384, .int 0, .int p658386, .int z658401]) := e658434
    have hfr658438 : rFr [q658383, q658384] P658381 F658382 F658433 := rFr_put hfr658432 n658435
    refine G_aload_n 2 dr_cJ5_append_c97b9_53 rfl ?_
    exact G_aretA (FieldType.object "java/lang/AbstractStringBuilder") dr_cJ5_append_c97b9_54 rfl (by first | exact Or.inl ⟨_, rfl⟩ | exact Or.inr ⟨_, rfl⟩) (Or.inr ⟨_, rfl⟩) (Nat.le_of_ble_eq_true rfl) (Nat.le_of_ble_eq_true rfl) (Or.inl ⟨F658433, z658401, f658426, rfl, rfl, hfr658438, he658437, he658436, (Nat.le_of_ble_eq_true rfl), (Nat.le_of_ble_eq_true rfl), ⟨by omega, by omega⟩, bf658426, (by have qa0 : Int32.toInt 0 = 0 := (by decide); omega), (by have qa0 : Int32.toInt 0 = 0 := (by decide); omega), (by have qa0 : Int32.toInt 0 = 0 := (by decide); omega), (by have qa0 : Int32.toInt 0 = 0 := (by decide); omega), (by have qa0 : Int32.toInt 0 = 0 := (by decide); omega), (by have qa0 : Int32.toInt 0 = 0 := (by decide); omega), (by have qa0 : Int32.toInt 0 = 0 := (by decide); omega)⟩)
  · obtain ⟨P658448, F658449, q658439, n658440, f658441, rfl, rfl, hsb658450, hfr658451, he658452, he658453, hm658454, hq658455, hdc, hds, bf658441, x658442, x658443, x658444, x658445, x658446, x658447⟩ := hp658408
    have hm658456 : q658383 ∈ P658448 := hsb658450 q658383 hmq658383
    have hm658457 : q658384 ∈ P658448 := hsb658450 q658384 hmq658384
    have hq658458 : q658439 ∉ P658381 := fun z => hq658455 ((rSub_rf (P := P658381)) q658439 z)
    have hsb658459 : rSub P658381 P658448 := rSub_tr (rSub_rf (P := P658381)) hsb658450
    have he658460 : F658449 q658384 = .inl (I .byte, n658389, .inl f658388) := (hfr658451 q658384 hmq658384 (nm_c (rn_ao heq658384 heq658383) nm_n)).trans heq658384
    have hfr658461 : rFr [q658383] P658381 F658382 F658449 := rFr_call (rSub_rf (P := P658381)) (rFr_rf (W := []) (P := P658381) (F := F658382)) hfr658451 (fun b hb hn => ⟨nm_n, (nm_c (fun e => hn (e ▸ List.mem_cons_self)) nm_n)⟩)
    change G _ _ _ _ _ _ _ _ _ _ _
    refine G_widen (cs' := (min 1 (n658440 - n658389))) (sl' := 2 * (n658440 - n658389)) (by omega) (by omega) ?_
    refine G_aload_n 2 dr_cJ5_append_c97b9_17 rfl ?_
    refine Gw_callVB (As := []) (gV_ok D I) (cp_640037_AbstractStringBuilder_isLatin1 l hl0 D I P658448 F658449 q658383 q658439 p658386 p658387 f658441 n658440 hm658456 hm658454 he658452 he658453 bp658386 bp658387 bf658441 (by have qa0 : Int32.toInt 0 = 0 := (by decide); omega)) dr_cJ5_append_c97b9_18 ⟨wr_8_29, wr_1_19, wr_8_33, by decide, rfl, (Nat.le_of_ble_eq_true rfl), (Nat.le_of_ble_eq_true rfl)⟩ wr_8_30 wr_8_32 hm658456 he658452 rfl (show (min 1 (n658440 - n658389)) + 0 ≤ 1 by first | omega | decide) (show 2 * (n658440 - n658389) + 0 ≤ (4 * n658389 + 64) by first | omega | decide) (Nat.le_of_ble_eq_true rfl) (fun r658465 w658466 dc658462 ds658463 hp658464 => ?_) (fun _ _ _ _ _ z => z.elim)
    obtain ⟨rfl, rfl, hdc, hds⟩ := hp658464
    change G _ _ _ _ _ _ _ (.int 1 :: _) _ _ _
    refine G_widen (cs' := (min 1 (n658440 - n658389)) + 0) (sl' := 2 * (n658440 - n658389) + 0) (by omega) (by omega) ?_
    refine G_if_eq 37 dr_cJ5_append_c97b9_21 (by decide +kernel) (fun hc => absurd hc (by decide)) (fun _ => ?_)
    refine G_iload_n 3 dr_cJ5_append_c97b9_24 rfl ?_
    refine G_iload_n 0 dr_cJ5_append_c97b9_25 rfl ?_
    refine G_aload_n 2 dr_cJ5_append_c97b9_26 rfl ?_
    refine Gp_get 0 hm658456 he658452 dr_cJ5_append_c97b9_27 (gk_J4 D I) (Nat.le_of_ble_eq_true rfl) wr_7_60 rfl ?_
    refine Gw_callS (As := [.int p658385, .int z658401, .ref q658439]) (gV_ok D I) (cp_649002_Integer_getChars l hl0 D I P658448 F658449 q658439 p658385 z658401 f658441 n658440 hm658454 he658453 ⟨by omega, by omega⟩ bf658441 (by have qa0 : Int32.toInt 0 = 0 := (by decide); omega) (by have q10 : Int32.toInt 10 = 10 := (by decide); have q11 : Int32.toInt 11 = 11 := (by decide); first | exact dgS_up (by omega) (by omega) x658400 (by omega)) (by have qa0 : Int32.toInt 0 = 0 := (by decide); omega)) dr_cJ5_append_c97b9_30 ⟨wr_8_111, wr_1_35, wr_8_113, by decide, rfl, (Nat.le_of_ble_eq_true rfl), (Nat.le_of_ble_eq_true rfl)⟩ wr_8_112 (show (min 1 (n658440 - n658389)) + 0 + 0 ≤ 1 by first | omega | decide) (show 2 * (n658440 - n658389) + 0 + 0 ≤ (4 * n658389 + 64) by first | omega | decide) (Nat.le_of_ble_eq_true rfl) (fun r658470 w658471 dc658467 ds658468 hp658469 => ?_) (fun _ _ _ _ _ z => z.elim)
    obtain ⟨F658474, o658472, f658473, rfl, rfl, hfr658476, he658477, hdc, hds, bo658472, bf658473⟩ := hp658469
    have he658478 : F658474 q658384 = .inl (I .byte, n658389, .inl f658388) := (hfr658476 q658384 hm658457 (nm_c (fun h => hq658458 (h ▸ hmq658384)) nm_n)).trans he658460
    have he658479 : F658474 q658383 = .inr (1, [.ref q658439, .int 0, .int p658386, .int p658387]) := (hfr658476 q658383 hm658456 (nm_c (fun h => hq658458 (h ▸ hmq658383)) nm_n)).trans he658452
    have hfr658480 : rFr [q658383] P658381 F658382 F658474 := rFr_call hsb658459 hfr658461 hfr658476 (fun b hb hn => ⟨(nm_c (fun e => hn (e ▸ List.mem_cons_self)) nm_n), (nm_c (fun e => hq658458 (e ▸ hb)) nm_n)⟩)
    change G _ _ _ _ _ _ _ (.int o658472 :: _) _ _ _
    refine G_widen (cs' := (min 1 (n658440 - n658389)) + 0 + 0) (sl' := 2 * (n658440 - n658389) + 0 + 0) (by omega) (by omega) ?_
    refine G_pop dr_cJ5_append_c97b9_33 rfl ?_
    refine G_goto 48 dr_cJ5_append_c97b9_34 (by decide +kernel) ?_
    refine G_aload_n 2 dr_cJ5_append_c97b9_48 rfl ?_
    refine G_iload_n 0 dr_cJ5_append_c97b9_49 rfl ?_
    refine Gp_put 3 hm658456 he658479 dr_cJ5_append_c97b9_50 (gk_J4 D I) (Nat.le_of_ble_eq_true rfl) wr_7_64 rfl rfl rfl (Nat.le_of_ble_eq_true rfl) (fun F658481 e658482 n658483 => ?_)
    have he658484 : F658481 q658384 = .inl (I .byte, n658389, .inl f658388) := (n658483 q658384 (rn_ao he658478 he658479)).trans he658478
    have he658485 : F658481 q658439 = .inl (I .byte, n658440, .inl f658473) := (n658483 q658439 (fun h => hq658458 (h ▸ hmq658383))).trans he658477
    have he658486 : F658481 q658383 = .inr (1, [.ref q658439, .int 0, .int p658386, .int z658401]) := e658482
    have hfr658487 : rFr [q658383] P658381 F658382 F658481 := rFr_put' List.mem_cons_self hfr658480 n658483
    refine G_aload_n 2 dr_cJ5_append_c97b9_53 rfl ?_
    exact G_aretA (FieldType.object "java/lang/AbstractStringBuilder") dr_cJ5_append_c97b9_54 rfl (by first | exact Or.inl ⟨_, rfl⟩ | exact Or.inr ⟨_, rfl⟩) (Or.inr ⟨_, rfl⟩) (show (min 1 (n658440 - n658389)) + 0 + 0 ≤ 1 by omega) (show 2 * (n658440 - n658389) + 0 + 0 ≤ (4 * n658389 + 64) by omega) (Or.inr (⟨P658448, F658481, z658401, q658439, n658440, f658473, rfl, rfl, hsb658459, hfr658487, he658486, he658485, hm658454, hq658458, (by omega), (by omega), ⟨by omega, by omega⟩, bf658473, (by have qa0 : Int32.toInt 0 = 0 := (by decide); omega), (by have qa0 : Int32.toInt 0 = 0 := (by decide); omega), (by have qa0 : Int32.toInt 0 = 0 := (by decide); omega), (by have qa0 : Int32.toInt 0 = 0 := (by decide); omega), (by have qa0 : Int32.toInt 0 = 0 := (by decide); omega), (by have qa0 : Int32.toInt 0 = 0 := (by decide); omega), (by have qa0 : Int32.toInt 0 = 0 := (by decide); omega)⟩))
