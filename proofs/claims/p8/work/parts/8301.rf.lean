theorem dr_cX17_input_30 : decode cX17_input 30 = .ok (.iload_n 2, 1) := by decide +kernel
theorem dr_cX17_input_31 : decode cX17_input 31 = .ok (.iconst 4, 1) := by decide +kernel
theorem dr_cX17_input_32 : decode cX17_input 32 = .ok (.if_icmp .ge 39, 3) := by decide +kernel
theorem dr_cX17_input_35 : decode cX17_input 35 = .ok (.aload_n 0, 1) := by decide +kernel
theorem dr_cX17_input_36 : decode cX17_input 36 = .ok (.getfield 303, 3) := by decide +kernel
theorem dr_cX17_input_39 : decode cX17_input 39 = .ok (.iload_n 1, 1) := by decide +kernel
theorem dr_cX17_input_40 : decode cX17_input 40 = .ok (.aload_n 0, 1) := by decide +kernel
theorem dr_cX17_input_41 : decode cX17_input 41 = .ok (.getfield 303, 3) := by decide +kernel
theorem dr_cX17_input_44 : decode cX17_input 44 = .ok (.iload_n 1, 1) := by decide +kernel
theorem dr_cX17_input_45 : decode cX17_input 45 = .ok (.iaload, 1) := by decide +kernel
theorem dr_cX17_input_46 : decode cX17_input 46 = .ok (.bipush 8, 2) := by decide +kernel
theorem dr_cX17_input_48 : decode cX17_input 48 = .ok (.ishl, 1) := by decide +kernel
theorem dr_cX17_input_49 : decode cX17_input 49 = .ok (.aload_n 0, 1) := by decide +kernel
theorem dr_cX17_input_50 : decode cX17_input 50 = .ok (.getfield 374, 3) := by decide +kernel
theorem dr_cX17_input_53 : decode cX17_input 53 = .ok (.iconst 4, 1) := by decide +kernel
theorem dr_cX17_input_54 : decode cX17_input 54 = .ok (.iload_n 1, 1) := by decide +kernel
theorem dr_cX17_input_55 : decode cX17_input 55 = .ok (.imul, 1) := by decide +kernel
theorem dr_cX17_input_56 : decode cX17_input 56 = .ok (.iload_n 2, 1) := by decide +kernel
theorem dr_cX17_input_57 : decode cX17_input 57 = .ok (.iadd, 1) := by decide +kernel
theorem dr_cX17_input_58 : decode cX17_input 58 = .ok (.baload, 1) := by decide +kernel
theorem dr_cX17_input_59 : decode cX17_input 59 = .ok (.sipush 255, 3) := by decide +kernel
theorem dr_cX17_input_62 : decode cX17_input 62 = .ok (.iand, 1) := by decide +kernel
theorem dr_cX17_input_63 : decode cX17_input 63 = .ok (.ior, 1) := by decide +kernel
theorem dr_cX17_input_64 : decode cX17_input 64 = .ok (.iastore, 1) := by decide +kernel
theorem dr_cX17_input_65 : decode cX17_input 65 = .ok (.iinc 2 1, 3) := by decide +kernel
theorem dr_cX17_input_68 : decode cX17_input 68 = .ok (.goto (-38), 3) := by decide +kernel
theorem dr_cX17_input_19 : decode cX17_input 19 = .ok (.iload_n 1, 1) := by decide +kernel
theorem dr_cX17_input_20 : decode cX17_input 20 = .ok (.aload_n 0, 1) := by decide +kernel
theorem dr_cX17_input_21 : decode cX17_input 21 = .ok (.getfield 303, 3) := by decide +kernel
theorem dr_cX17_input_24 : decode cX17_input 24 = .ok (.arraylength, 1) := by decide +kernel
theorem dr_cX17_input_25 : decode cX17_input 25 = .ok (.if_icmp .ge 52, 3) := by decide +kernel
theorem dr_cX17_input_28 : decode cX17_input 28 = .ok (.iconst 0, 1) := by decide +kernel
theorem dr_cX17_input_29 : decode cX17_input 29 = .ok (.istore_n 2, 1) := by decide +kernel
theorem dr_cX17_input_71 : decode cX17_input 71 = .ok (.iinc 1 1, 3) := by decide +kernel
theorem dr_cX17_input_74 : decode cX17_input 74 = .ok (.goto (-55), 3) := by decide +kernel
theorem dr_cX17_input_0 : decode cX17_input 0 = .ok (.aload_n 0, 1) := by decide +kernel
theorem dr_cX17_input_1 : decode cX17_input 1 = .ok (.iconst 0, 1) := by decide +kernel
theorem dr_cX17_input_2 : decode cX17_input 2 = .ok (.putfield 380, 3) := by decide +kernel
theorem dr_cX17_input_5 : decode cX17_input 5 = .ok (.aload_n 0, 1) := by decide +kernel
theorem dr_cX17_input_6 : decode cX17_input 6 = .ok (.aload_n 0, 1) := by decide +kernel
theorem dr_cX17_input_7 : decode cX17_input 7 = .ok (.getfield 383, 3) := by decide +kernel
theorem dr_cX17_input_10 : decode cX17_input 10 = .ok (.iconst 4, 1) := by decide +kernel
theorem dr_cX17_input_11 : decode cX17_input 11 = .ok (.idiv, 1) := by decide +kernel
theorem dr_cX17_input_12 : decode cX17_input 12 = .ok (.newarray .int, 2) := by decide +kernel
theorem dr_cX17_input_14 : decode cX17_input 14 = .ok (.putfield 303, 3) := by decide +kernel
theorem dr_cX17_input_17 : decode cX17_input 17 = .ok (.iconst 0, 1) := by decide +kernel
theorem dr_cX17_input_18 : decode cX17_input 18 = .ok (.istore_n 1, 1) := by decide +kernel
theorem dr_cX17_input_77 : decode cX17_input 77 = .ok (.aload_n 0, 1) := by decide +kernel
theorem dr_cX17_input_78 : decode cX17_input 78 = .ok (.iconst 0, 1) := by decide +kernel
theorem dr_cX17_input_79 : decode cX17_input 79 = .ok (.putfield 383, 3) := by decide +kernel
theorem dr_cX17_input_82 : decode cX17_input 82 = .ok (.aload_n 0, 1) := by decide +kernel
theorem dr_cX17_input_83 : decode cX17_input 83 = .ok (.getfield 303, 3) := by decide +kernel
theorem dr_cX17_input_86 : decode cX17_input 86 = .ok (.arraylength, 1) := by decide +kernel
theorem dr_cX17_input_87 : decode cX17_input 87 = .ok (.ireturn, 1) := by decide +kernel
abbrev ky_inp : gKey := (cX17_input, 3, "SpillForgeModel", (some FieldType.int), [], "input", fun _ _ => True)
def inS (D : va_G) (I : FieldType → ClassId) (P0 : List Nat) (F0 : Nat → va_E) (γ0 el : Nat → Nat → Nat) (P : List Nat) (γ : Nat → Nat → Nat) (m A N : Nat) (e : va_E) (F : Nat → va_E) : Prop := rSk 0 [] [10, 26] D I P0 F0 γ0 el P F γ el ∧ F m = e ∧ A ∈ P ∧ γ 0 A = 26 ∧ ∃ f : Nat → Int32, F A = .inl (I .int, N, .inl f)
theorem inS_a {D : va_G} {I : FieldType → ClassId} {P0 P : List Nat} {F0 F F1 : Nat → va_E} {γ0 γ el : Nat → Nat → Nat} {m A N : Nat} {e : va_E} {f1 : Nat → Int32} (h : inS D I P0 F0 γ0 el P γ m A N e F) (hm : γ 0 m = 10) (hN : N ≤ 2048) (e1 : F1 A = .inl (I .int, N, .inl f1)) (n : ∀ b, b ≠ A → F1 b = F b) : inS D I P0 F0 γ0 el P γ m A N e F1 := by
  obtain ⟨h1, h2, h3, h4, -⟩ := h
  have hmA : m ≠ A := fun q => by rw [q, h4] at hm; cases hm
  exact ⟨rSk_put h1 (RS_set h1.1 n (show rKd γ A 26 from h4) (by decide) ⟨N, f1, e1, by omega⟩) n (show rKd γ A 26 from h4) (by decide) (fun _ z => nomatch z), (n m hmA).trans h2, h3, h4, f1, e1⟩
set_option maxRecDepth 100000 in
set_option maxHeartbeats 4000000 in
theorem in_l2 {l : Launch} {D : va_G} {I : FieldType → ClassId} {P0 P : List Nat} {F0 : Nat → va_E} {γ0 γ el : Nat → Nat → Nat} {m A N cs sl mc ms : Nat} {Qf : gFin} {r35 : Nat} {v9 v10 v11 v12 v13 v14 v23 v24 v25 v26 v27 v30 v32 v33 v34 i : Int32} (hm : γ 0 m = 10) (t25 : γ 0 (γ 9 31) = 25) (hN : N ≤ 2048) (hi0 : 0 ≤ i.toInt) (hiN : i.toInt < (N : Int))
    (kk : ∀ (F : Nat → va_E) (jj : Int32), inS D I P0 F0 γ0 el P γ m A N (mdE γ A r35 v9 v10 v11 v12 v13 v14 v23 v24 v25 v26 v27 v30 v32 v33 v34) F → G (gV D I) l (gRm 1 20 mc ms) Qf ky_inp 71 [(2, .int jj), (1, .int i), (0, .ref m)] [] (va_pl P F) cs sl) :
    ∀ (μ : Nat) (F : Nat → va_E) (jj : Int32), 4 - jj.toInt < (μ : Int) → 0 ≤ jj.toInt → jj.toInt ≤ 4 → inS D I P0 F0 γ0 el P γ m A N (mdE γ A r35 v9 v10 v11 v12 v13 v14 v23 v24 v25 v26 v27 v30 v32 v33 v34) F →
    G (gV D I) l (gRm 1 20 mc ms) Qf ky_inp 30 [(2, .int jj), (1, .int i), (0, .ref m)] [] (va_pl P F) cs sl := by
  intro μ
  induction μ with
  | zero => intro F jj h h0 h4 _; exact absurd h (by omega)
  | succ μ ih =>
  intro F jj hμ h0 h4 hS
  obtain ⟨hk, he, mA, kA, fA, eA⟩ := id hS
  have mm : m ∈ P := hk.1.1 m (by omega)
  obtain ⟨ft, f1, f2⟩ := show rk_25 I (F (γ 9 31)) from RS_o hk.1 t25
  have mt : γ 9 31 ∈ P := hk.1.1 _ (by omega)
  refine G_iload_n 0 dr_cX17_input_30 rfl ?_
  refine G_iconst 4 dr_cX17_input_31 (by decide +kernel) ?_
  have z4 : Int32.toInt 4 = 4 := by decide
  refine G_icmp_ge 71 dr_cX17_input_32 (by decide +kernel) (fun _ => kk F jj hS) (fun hc => ?_)
  have hlt : jj.toInt < 4 := gj_nle hc rfl
  refine G_aload_n 2 dr_cX17_input_35 rfl ?_
  refine Gp_get 28 mm he dr_cX17_input_36 (gk_X17 D I) (Nat.le_of_ble_eq_true rfl) wr_7_102 rfl ?_
  refine G_iload_n 1 dr_cX17_input_39 rfl ?_
  refine G_aload_n 2 dr_cX17_input_40 rfl ?_
  refine Gp_get 28 mm he dr_cX17_input_41 (gk_X17 D I) (Nat.le_of_ble_eq_true rfl) wr_7_102 rfl ?_
  refine G_iload_n 1 dr_cX17_input_44 rfl ?_
  refine Gp_iald 0 mA eA dr_cX17_input_45 rfl (gB_inr hi0 hiN) (G_nam fun z1 _ => ?_)
  refine G_bipush 8 dr_cX17_input_46 (by decide +kernel) ?_
  refine G_ishl dr_cX17_input_48 (G_nam fun z2 _ => ?_)
  refine G_aload_n 2 dr_cX17_input_49 rfl ?_
  refine Gp_get 31 mm he dr_cX17_input_50 (gk_X17 D I) (Nat.le_of_ble_eq_true rfl) wr_7_105 rfl ?_
  refine G_iconst 4 dr_cX17_input_53 (by decide +kernel) ?_
  refine G_iload_n 1 dr_cX17_input_54 rfl ?_
  refine G_imul dr_cX17_input_55 (G_nam fun z3 hz3 => ?_)
  have bi : gB i 0 2048 := ⟨hi0, by omega⟩
  have e3 : z3.toInt = 4 * i.toInt := by rw [gI_mul hz3 (gBl z4) bi (by decide) (by decide) (by decide), z4]
  refine G_iload_n 0 dr_cX17_input_56 rfl ?_
  refine G_iadd dr_cX17_input_57 (G_nam fun z5 hz5 => ?_)
  have e5 : z5.toInt = z3.toInt + jj.toInt := gI_add hz5 (⟨by omega, by omega⟩ : gB z3 0 8192) (⟨h0, h4⟩ : gB jj 0 4) (by decide) (by decide)
  refine Gp_bald 1 mt f1 dr_cX17_input_58 rfl (gB_inr (by omega) (by omega)) (G_nam fun z6 _ => ?_)
  refine G_sipush 255 dr_cX17_input_59 (by decide +kernel) ?_
  refine G_iand dr_cX17_input_62 (G_nam fun z7 _ => ?_)
  refine G_ior dr_cX17_input_63 (G_nam fun z8 _ => ?_)
  refine Gp_iast 0 mA eA dr_cX17_input_64 rfl (gB_inr hi0 hiN) (fun F1 e1 n1 => ?_)
  have hS1 := inS_a hS hm hN e1 n1
  obtain ⟨j1, hj1⟩ : ∃ z, z = jj + 1 := ⟨_, rfl⟩
  have ej : j1.toInt = jj.toInt + 1 := by rw [gI_add hj1 (⟨h0, h4⟩ : gB jj 0 4) (gBl (show Int32.toInt 1 = 1 by decide)) (by decide) (by decide), show Int32.toInt 1 = 1 from by decide]
  refine G_iinc (L' := [(2, .int j1), (1, .int i), (0, .ref m)]) j1 0 dr_cX17_input_65 rfl (by rw [hj1]; rfl) (Nat.le_of_ble_eq_true rfl) rfl ?_
  refine G_goto 30 dr_cX17_input_68 (by decide +kernel) ?_
  exact ih F1 j1 (by omega) (by omega) (by omega) hS1
set_option maxRecDepth 100000 in
set_option maxHeartbeats 4000000 in
theorem in_l1 {l : Launch} {D : va_G} {I : FieldType → ClassId} {P0 P : List Nat} {F0 : Nat → va_E} {γ0 γ el : Nat → Nat → Nat} {m A N cs sl mc ms : Nat} {Qf : gFin} {r35 : Nat} {v9 v10 v11 v12 v13 v14 v23 v24 v25 v26 v27 v30 v32 v33 v34 : Int32} (hm : γ 0 m = 10) (t25 : γ 0 (γ 9 31) = 25) (hN : N ≤ 2048)
    (kk : ∀ (F : Nat → va_E) (i : Int32), inS D I P0 F0 γ0 el P γ m A N (mdE γ A r35 v9 v10 v11 v12 v13 v14 v23 v24 v25 v26 v27 v30 v32 v33 v34) F → G (gV D I) l (gRm 1 20 mc ms) Qf ky_inp 77 [(1, .int i), (0, .ref m)] [] (va_pl P F) cs sl) :
    ∀ (μ : Nat) (F : Nat → va_E) (i : Int32), (N : Int) - i.toInt < (μ : Int) → 0 ≤ i.toInt → i.toInt ≤ (N : Int) → inS D I P0 F0 γ0 el P γ m A N (mdE γ A r35 v9 v10 v11 v12 v13 v14 v23 v24 v25 v26 v27 v30 v32 v33 v34) F →
    G (gV D I) l (gRm 1 20 mc ms) Qf ky_inp 19 [(1, .int i), (0, .ref m)] [] (va_pl P F) cs sl := by
  intro μ
  induction μ with
  | zero => intro F i h h0 h4 _; exact absurd h (by omega)
  | succ μ ih =>
  intro F i hμ h0 h4 hS
  obtain ⟨hk, he, mA, kA, fA, eA⟩ := id hS
  have mm : m ∈ P := hk.1.1 m (by omega)
  refine G_iload_n 0 dr_cX17_input_19 rfl ?_
  refine G_aload_n 1 dr_cX17_input_20 rfl ?_
  refine Gp_get 28 mm he dr_cX17_input_21 (gk_X17 D I) (Nat.le_of_ble_eq_true rfl) wr_7_102 rfl ?_
  refine Gp_alen (Int32.ofNat N) 0 mA eA dr_cX17_input_24 rfl rfl (G_nam fun z hz => ?_)
  have ez : z.toInt = (N : Nat) := gI_ofM hz (by omega)
  refine G_icmp_ge 77 dr_cX17_input_25 (by decide +kernel) (fun _ => kk F i hS) (fun hc => ?_)
  have hlt : i.toInt < z.toInt := gj_nle hc rfl
  refine G_iconst 0 dr_cX17_input_28 (by decide +kernel) ?_
  refine G_istore_n (L' := [(2, .int 0), (1, .int i), (0, .ref m)]) dr_cX17_input_29 (Nat.le_of_ble_eq_true rfl) rfl ?_
  have z0 : Int32.toInt 0 = 0 := by decide
  refine in_l2 hm t25 hN h0 (by omega) (fun F1 jj hS1 => ?_) 5 F 0 (by rw [z0]; decide) (by rw [z0]; decide) (by rw [z0]; decide) hS
  obtain ⟨i1, hi1⟩ : ∃ z, z = i + 1 := ⟨_, rfl⟩
  have ei : i1.toInt = i.toInt + 1 := by rw [gI_add hi1 (⟨h0, by omega⟩ : gB i 0 2048) (gBl (show Int32.toInt 1 = 1 by decide)) (by decide) (by decide), show Int32.toInt 1 = 1 from by decide]
  refine G_iinc (L' := [(1, .int i1), (2, .int jj), (0, .ref m)]) i1 1 dr_cX17_input_71 rfl (by rw [hi1]; rfl) (Nat.le_of_ble_eq_true rfl) rfl ?_
  refine G_goto 19 dr_cX17_input_74 (by decide +kernel) ?_
  refine G_lv [0, 2] rfl ?_
  exact ih F1 i1 (by omega) (by omega) (by omega) hS1
set_option maxRecDepth 100000 in
set_option maxHeartbeats 4000000 in
theorem cp_input (l : Launch) (hl0 : l.stackTraces = false) (D : va_G) (I : FieldType → ClassId) {P : List Nat} {F : Nat → va_E} {γ el : Nat → Nat → Nat} {m : Nat} (hT : RS D I P F γ el) (hm : γ 0 m = 10) :
    CtA (gV D I) l yX17_input cX17_input 3 (some FieldType.int) 1 20 1 2048 [.ref m] (va_pl P F) (inP D I P F γ el m) gNA := by
  refine CtA_of hl0 (by decide) (Nat.le_of_ble_eq_true rfl) ?_
  obtain ⟨r28, r35, v9, v10, v11, v12, v13, v14, v23, v24, v25, v26, v27, v30, v32, v33, v34, he, hM1, hK, hM2⟩ := rk10_m (show rk_10 γ (F m) from RS_o hT hm)
  have hM1' := hM1
  obtain ⟨q9, q10, q11, q14, q25, q26, q27, q32, q34⟩ := hM1
  have mm : m ∈ P := hT.1 m (by omega)
  have e32 : fI (F m) 32 = v32 := by rw [he]; rfl
  have e10 : fI (F m) 10 = v10 := by rw [he]; rfl
  have e9 : fI (F m) 9 = v9 := by rw [he]; rfl
  have t25 : γ 0 (γ 9 31) = 25 := hK.2.2.2.2.2.2.2.2.2.2.2.2.2.2.2.2.2.2.2.2.1
  refine G_aload_n 0 dr_cX17_input_0 rfl ?_
  refine G_iconst 0 dr_cX17_input_1 (by decide +kernel) ?_
  refine Gp_put 30 mm he dr_cX17_input_2 (gk_X17 D I) (Nat.le_of_ble_eq_true rfl) wr_7_104 rfl rfl rfl (Nat.le_of_ble_eq_true rfl) (fun F1 e1 n1 => ?_)
  have e1' : F1 m = mdE γ r28 r35 v9 v10 v11 v12 v13 v14 v23 v24 v25 v26 v27 0 v32 v33 v34 := e1
  have hT1 := RS_md hT hm n1 e1' hM1' hK hM2
  have hk1 := rSk_put (rSk_rf (f := 0) (K := []) (KF := [10, 26]) hT) hT1 n1 (show rKd γ m 10 from hm) (by decide) (fun _ z => nomatch z)
  refine G_aload_n 0 dr_cX17_input_5 rfl ?_
  refine G_aload_n 0 dr_cX17_input_6 rfl ?_
  refine Gp_get 32 mm e1' dr_cX17_input_7 (gk_X17 D I) (Nat.le_of_ble_eq_true rfl) wr_7_106 rfl ?_
  refine G_iconst 4 dr_cX17_input_10 (by decide +kernel) ?_
  refine G_idiv dr_cX17_input_11 (by decide) (G_nam fun z hz => ?_)
  have ez : z.toInt = v32.toInt / 4 := gI_div hz q32 (by decide) (by decide) (by decide)
  have q32a := q32.1
  have q32b := q32.2
  have hz0 : 0 ≤ z.toInt := by omega
  have hz1 : z.toInt ≤ 2048 := by omega
  refine G_newa 0 (z.toInt.toNat, .inl (fun _ => 0)) dr_cX17_input_12 rfl rfl (by intro C h; cases h) wr_1_95 (fun _ => ga_int _ _) (g_n0 (by omega)) rfl (show z.toInt.toNat * 4 ≤ 536870912 by omega) (show 0 + 1 ≤ 1 by decide) (show 0 + z.toInt.toNat ≤ 2048 by omega) (fun A => Gp_in (fun P2 F2 hq hP e2 n2 => ?_))
  have hs2 : rSub P P2 := rSub_new (rSub_rf (P := P)) hP
  have A0 : γ 0 A = 0 := RS_new hT hq
  have mA2 : A ∈ P2 := (hP A).mpr (Or.inr rfl)
  have hN : z.toInt.toNat ≤ 2048 := by omega
  have sk2 : rSk 0 [] [10, 26] D I P F1 γ el P2 F2 (gNw γ A 26) el := rSk_nw hT1 hq hs2 mA2 n2 ⟨z.toInt.toNat, fun _ => 0, e2, by omega⟩
  have hk2 := rSk_tr hk1 sk2 (fun _ z => nomatch z) (fun _ z => z) (fun _ z => nomatch z)
  have hmA : m ≠ A := fun e => by rw [e, A0] at hm; cases hm
  have hm2 : gNw γ A 26 0 m = 10 := (gNw_ne hmA).trans hm
  have g9 : gNw γ A 26 9 = γ 9 := gNw_j (by decide)
  have e2m : F2 m = mdE (gNw γ A 26) r28 r35 v9 v10 v11 v12 v13 v14 v23 v24 v25 v26 v27 0 v32 v33 v34 := (n2 m hmA).trans e1'
  have mm2 := hs2 m mm
  have kA : gNw γ A 26 0 A = 26 := if_pos ⟨rfl, rfl⟩
  have hM2' : rM2 (gNw γ A 26) v9 v10 v34 r35 := by
    unfold rM2
    rw [gNw_j (j := 6) (by decide), gNw_j (j := 23) (by decide), gNw_j (j := 12) (by decide)]
    exact hM2
  refine Gp_put 28 mm2 e2m dr_cX17_input_14 (gk_X17 D I) (Nat.le_of_ble_eq_true rfl) wr_7_102 rfl rfl rfl (Nat.le_of_ble_eq_true rfl) (fun F3 e3 n3 => ?_)
  have e3' : F3 m = mdE (gNw γ A 26) A r35 v9 v10 v11 v12 v13 v14 v23 v24 v25 v26 v27 0 v32 v33 v34 := e3
  have hK3 := mdK_nw A0 hK
  have hT3 := RS_md hk2.1 hm2 n3 e3' hM1' hK3 hM2'
  have hk3 := rSk_put hk2 hT3 n3 (show rKd (gNw γ A 26) m 10 from hm2) (by decide) (fun _ z => nomatch z)
  have t25' : gNw γ A 26 0 (gNw γ A 26 9 31) = 25 := hK3.2.2.2.2.2.2.2.2.2.2.2.2.2.2.2.2.2.2.2.2.1
  have hS3 : inS D I P F γ el P2 (gNw γ A 26) m A z.toInt.toNat (mdE (gNw γ A 26) A r35 v9 v10 v11 v12 v13 v14 v23 v24 v25 v26 v27 0 v32 v33 v34) F3 := ⟨hk3, e3', mA2, kA, fun _ => 0, (n3 A (Ne.symm hmA)).trans e2⟩
  refine G_iconst 0 dr_cX17_input_17 (by decide +kernel) ?_
  refine G_istore_n (L' := [(1, .int 0), (0, .ref m)]) dr_cX17_input_18 (Nat.le_of_ble_eq_true rfl) rfl ?_
  have z0 : Int32.toInt 0 = 0 := by decide
  refine in_l1 hm2 t25' hN (fun F4 i hS4 => ?_) (z.toInt.toNat + 1) F3 0 (by rw [z0]; omega) (by rw [z0]; decide) (by rw [z0]; omega) hS3
  obtain ⟨hk4, he4, -, -, fA, eA4⟩ := id hS4
  refine G_aload_n 1 dr_cX17_input_77 rfl ?_
  refine G_iconst 0 dr_cX17_input_78 (by decide +kernel) ?_
  refine Gp_put 32 mm2 he4 dr_cX17_input_79 (gk_X17 D I) (Nat.le_of_ble_eq_true rfl) wr_7_106 rfl rfl rfl (Nat.le_of_ble_eq_true rfl) (fun F5 e5 n5 => ?_)
  have e5' : F5 m = mdE (gNw γ A 26) A r35 v9 v10 v11 v12 v13 v14 v23 v24 v25 v26 v27 0 0 v33 v34 := e5
  have hT5 := RS_md hk4.1 hm2 n5 e5' ⟨q9, q10, q11, q14, q25, q26, q27, ⟨by decide, by decide⟩, q34⟩ hK3 hM2'
  have hk5 := rSk_put hk4 hT5 n5 (show rKd (gNw γ A 26) m 10 from hm2) (by decide) (fun _ z => nomatch z)
  refine G_aload_n 1 dr_cX17_input_82 rfl ?_
  refine Gp_get 28 mm2 e5' dr_cX17_input_83 (gk_X17 D I) (Nat.le_of_ble_eq_true rfl) wr_7_102 rfl ?_
  refine Gp_alen (Int32.ofNat z.toInt.toNat) 0 mA2 ((n5 A (Ne.symm hmA)).trans eA4) dr_cX17_input_86 rfl rfl (G_nam fun x hx => ?_)
  exact G_iretA dr_cX17_input_87 rfl (show 0 + 1 ≤ 1 by decide) (show 0 + z.toInt.toNat ≤ 2048 by omega) ⟨P2, F5, gNw γ A 26, x, rfl, rfl, hk5, fun j hj => gNw_j hj, by rw [e5', e9]; rfl, by rw [e5', e10]; rfl, by rw [e5']; rfl, by omega, by rw [e32]; omega, by rw [e5', he]; rfl, by have ex := gI_ofM hx (by omega); rw [ex, e32]; omega⟩
abbrev ky_674336_AbstractStringBuilder_ensureCapacityInternal : gKey := (cJ5_ensureCapacityInternal_d00df, 3, "java/lang/AbstractStringBuilder", none, [], "ensureCapacityInternal", fun _ _ => True)
def pp_674336_AbstractStringBuilder_ensureCapacityInternal (D : va_G) (I : FieldType → ClassId) (P674325 : List Nat) (F674326 : Nat → va_E) (q674327 : Nat) (q674328 : Nat) (p674329 : Int32) (p674330 : Int32) (p674331 : Int32) (f674332 : Nat → Int32) (n674333 : Nat) : Option Value → va_W → Nat → Nat → Prop := fun r w dc ds => (r = none ∧ w = va_pl P674325 F674326 ∧ dc ≤ 0 ∧ ds ≤ 0 ∧ p674329.toInt ≤ (n674333 : Int) ∧ (n674333 : Int) ≤ (n674333 : Int) ∧ ((n674333 : Int) = (n674333 : Int) ∨ (n674333 : Int) < p674329.toInt) ∧ ((n674333 : Int) ≤ 2 * (n674333 : Int) + 2 ∨ (n674333 : Int) ≤ p674329.toInt) ∧ ((n674333 : Int) = (n674333 : Int) ∨ (n674333 : Int) < p674329.toInt) ∧ ((n674333 : Int) = (n674333 : Int) ∨ 2 * (n674333 : Int) + 2 ≤ (n674333 : Int))) ∨ (∃ (P674386 : List Nat) (F674387 : Nat → va_E) (q674383 : Nat) (n674384 : Nat) (f674385 : Nat → Int32), r = none ∧ w = va_pl P674386 F674387 ∧ rSub P674325 P674386 ∧ rFr [q674327] P674325 F674326 F674387 ∧ F674387 q674327 = .inr (1, [.ref q674383, .int 0, .int p674330, .int p674331]) ∧ F674387 q674383 = .inl (I .byte, n674384, .inl f674385) ∧ q674383 ∈ P674386 ∧ q674383 ∉ P674325 ∧ dc ≤ (min 1 (n674384 - n674333)) ∧ ds ≤ 2 * (n674384 - n674333) ∧ gF f674385 (-128) 127 ∧ p674329.toInt ≤ (n674384 : Int) ∧ (n674333 : Int) ≤ (n674384 : Int) ∧ ((n674384 : Int) = (n674333 : Int) ∨ (n674333 : Int) < p674329.toInt) ∧ ((n674384 : Int) ≤ 2 * (n674333 : Int) + 2 ∨ (n674384 : Int) ≤ p674329.toInt) ∧ ((n674384 : Int) = (n674333 : Int) ∨ (n674333 : Int) < p674329.toInt) ∧ ((n674384 : Int) = (n674333 : Int) ∨ 2 * (n674333 : Int) + 2 ≤ (n674384 : Int)))
set_option maxRecDepth 100000 in
set_option maxHeartbeats 4000000 in
theorem cp_674336_AbstractStringBuilder_ensureCapacityInternal (l : Launch) (hl0 : l.stackTraces = false) (D : va_G) (I : FieldType → ClassId) (P674325 : List Nat) (F674326 : Nat → va_E) (q674327 : Nat) (q674328 : Nat) (p674329 : Int32) (p674330 : Int32) (p674331 : Int32) (f674332 : Nat → Int32) (n674333 : Nat) (hmq674327 : q674327 ∈ P674325) (hmq674328 : q674328 ∈ P674325) (heq674327 : F674326 q674327 = .inr (1, [.ref q674328, .int 0, .int p674330, .int p674331])) (heq674328 : F674326 q674328 = .inl (I .byte, n674333, .inl f674332)) (bp674329 : gB p674329 0 8388608) (bp674330 : gB p674330 0 1) (bp674331 : gB p674331 0 16777216) (bf674332 : gF f674332 (-128) 127) (x674334 : (n674333 : Int) ≤ 8388608) (x674335 : ((n674333 : Int) ≤ 16777216)) : CtA (gV D I) l yJ5_ensureCapacityInternal_d00df cJ5_ensureCapacityInternal_d00df 3 none 3 62 1 (2 * n674333 + 2 + p674329.toInt.toNat) [.ref q674327, .int p674329] (va_pl P674325 F674326) (pp_674336_AbstractStringBuilder_ensureCapacityInternal D I P674325 F674326 q674327 q674328 p674329 p674330 p674331 f674332 n674333) gNA := by
  refine CtA_ofF hl0 (by decide +kernel) (Nat.le_of_ble_eq_true rfl) ?_
  refine G_aload_n 0 dr_cJ5_ensureCapacityInternal_d00df_0 rfl ?_
  refine Gp_get 0 hmq674327 heq674327 dr_cJ5_ensureCapacityInternal_d00df_1 (gk_J4 D I) (Nat.le_of_ble_eq_true rfl) wr_7_60 rfl ?_
  refine Gp_alen (Int32.ofNat n674333) 1 hmq674328 heq674328 dr_cJ5_ensureCapacityInternal_d00df_4 rfl rfl (G_nam fun z674337 hz674337 => ?_)
  have ez674337 : z674337.toInt = (n674333 : Nat) := gI_ofM hz674337 (by omega)
  have bz674337 : gB z674337 0 16777216 := ⟨by omega, by omega⟩
  refine G_aload_n 0 dr_cJ5_ensureCapacityInternal_d00df_5 rfl ?_
  refine Gp_get 1 hmq674327 heq674327 dr_cJ5_ensureCapacityInternal_d00df_6 (gk_J4 D I) (Nat.le_of_ble_eq_true rfl) wr_7_61 rfl ?_
  refine G_ishr dr_cJ5_ensureCapacityInternal_d00df_9 (G_nam fun z674338 hz674338 => ?_)
  have ez674338 : z674338.toInt = z674337.toInt / 1 := gI_shr (k := 0) hz674338 (by decide)
  have bz674338 : gB z674338 0 16777216 := ⟨by omega, by omega⟩
  refine G_istore_n (L' := [(2, .int z674338), (0, .ref q674327), (1, .int p674329)]) dr_cJ5_ensureCapacityInternal_d00df_10 (Nat.le_of_ble_eq_true rfl) rfl ?_
  refine G_iload_n 2 dr_cJ5_ensureCapacityInternal_d00df_11 rfl ?_
  refine G_iload_n 0 dr_cJ5_ensureCapacityInternal_d00df_12 rfl ?_
  refine G_isub dr_cJ5_ensureCapacityInternal_d00df_13 (G_nam fun z674339 hz674339 => ?_)
  have ez674339 : z674339.toInt = p674329.toInt - z674338.toInt := by rw [gI_sub hz674339 bp674329 bz674338 (by decide) (by decide)]
  have bz674339 : gB z674339 (-16777216) 8388608 := gB_sub (gI_sub hz674339 bp674329 bz674338 (by decide) (by decide)) bp674329 bz674338 (by decide) (by decide)
  refine G_if_le 38 dr_cJ5_ensureCapacityInternal_d00df_14 (by decide +kernel) (fun hc674340 => ?_) (fun hc674340 => ?_)
  · have r674341 : z674339.toInt ≤ 0 := gj_le hc674340 (show Int32.toInt 0 = 0 by decide)
    have bz674339' : gB z674339 (-16777216) 0 := ⟨by omega, by omega⟩
    exact G_vretA dr_cJ5_ensureCapacityInternal_d00df_38 rfl (Nat.le_of_ble_eq_true rfl) (Nat.le_of_ble_eq_true rfl) (Or.inl ⟨rfl, rfl, (Nat.le_of_ble_eq_true rfl), (Nat.le_of_ble_eq_true rfl), (by have qa0 : Int32.toInt 0 = 0 := (by decide); omega), (by have qa0 : Int32.toInt 0 = 0 := (by decide); omega), (by have qa0 : Int32.toInt 0 = 0 := (by decide); omega), (by have qa0 : Int32.toInt 0 = 0 := (by decide); omega), (by have qa0 : Int32.toInt 0 = 0 := (by decide); omega), (by have qa0 : Int32.toInt 0 = 0 := (by decide); omega)⟩)
  · have r674342 : 0 < z674339.toInt := gj_nle hc674340 (show Int32.toInt 0 = 0 by decide)
    have bz674339' : gB z674339 1 8388608 := ⟨by omega, by omega⟩
    refine G_aload_n 1 dr_cJ5_ensureCapacityInternal_d00df_17 rfl ?_
    refine G_aload_n 1 dr_cJ5_ensureCapacityInternal_d00df_18 rfl ?_
    refine Gp_get 0 hmq674327 heq674327 dr_cJ5_ensureCapacityInternal_d00df_19 (gk_J4 D I) (Nat.le_of_ble_eq_true rfl) wr_7_60 rfl ?_
    refine G_aload_n 1 dr_cJ5_ensureCapacityInternal_d00df_22 rfl ?_
    refine G_iload_n 2 dr_cJ5_ensureCapacityInternal_d00df_23 rfl ?_
    refine Gw_callVB (As := [.int p674329]) (gV_ok D I) (cp_655936_AbstractStringBuilder_newCapacity l hl0 D I P674325 F674326 q674327 q674328 p674329 p674330 p674331 f674332 n674333 hmq674327 hmq674328 heq674327 heq674328 bp674329 bp674330 bp674331 bf674332 (by have qa0 : Int32.toInt 0 = 0 := (by decide); omega) (by have qa0 : Int32.toInt 0 = 0 := (by decide); omega) (by have qa0 : Int32.toInt 0 = 0 := (by decide); omega)) dr_cJ5_ensureCapacityInternal_d00df_24 ⟨wr_8_8, wr_1_19, wr_8_11, by decide, rfl, (Nat.le_of_ble_eq_true rfl), (Nat.le_of_ble_eq_true rfl)⟩ wr_8_10 wr_s_1 hmq674327 heq674327 rfl (show 0 + 0 ≤ 1 by first | omega | decide) (show 0 + 0 ≤ (2 * n674333 + 2 + p674329.toInt.toNat) by first | omega | decide) (Nat.le_of_ble_eq_true rfl) (fun r674346 w674347 dc674343 ds674344 hp674345 => ?_) (fun _ _ _ _ _ z => z.elim)
    obtain ⟨o674348, rfl, rfl, hdc, hds, bo674348, x674349, x674350, x674351, ht674352⟩ := hp674345
    change G _ _ _ _ _ _ _ (.int o674348 :: _) _ _ _
    refine G_widen (cs' := 0) (sl' := 0) (by omega) (by omega) ?_
    refine G_aload_n 1 dr_cJ5_ensureCapacityInternal_d00df_27 rfl ?_
    refine Gp_get 1 hmq674327 heq674327 dr_cJ5_ensureCapacityInternal_d00df_28 (gk_J4 D I) (Nat.le_of_ble_eq_true rfl) wr_7_61 rfl ?_
    refine G_ishl dr_cJ5_ensureCapacityInternal_d00df_31 (G_nam fun z674353 hz674353 => ?_)
    have ez674353 : z674353.toInt = o674348.toInt * 1 := gI_shl (k := 0) hz674353 (by decide) bo674348 (by decide) (by decide)
    have bz674353 : gB z674353 1 33554432 := ⟨by omega, by omega⟩
    refine Gw_callS (As := [.ref q674328, .int z674353]) (gV_ok D I) (cp_655971_Arrays_copyOf l hl0 D I P674325 F674326 q674328 z674353 f674332 n674333 hmq674328 heq674328 (gB_w bz674353 (by decide) (by decide)) bf674332 (by have qa0 : Int32.toInt 0 = 0 := (by decide); omega) (by have qa0 : Int32.toInt 0 = 0 := (by decide); omega)) dr_cJ5_ensureCapacityInternal_d00df_32 ⟨wr_8_21, wr_1_30, wr_8_23, by decide, rfl, (Nat.le_of_ble_eq_true rfl), (Nat.le_of_ble_eq_true rfl)⟩ wr_8_22 (show 0 + 1 ≤ 1 by first | omega | decide) (show 0 + z674353.toInt.toNat ≤ (2 * n674333 + 2 + p674329.toInt.toNat) by first | omega | decide) (Nat.le_of_ble_eq_true rfl) (fun r674357 w674358 dc674354 ds674355 hp674356 => ?_) (fun _ _ _ _ _ z => z.elim)
    obtain ⟨P674362, F674363, q674359, f674360, rfl, rfl, hsb674364, hfr674365, he674366, he674367, hm674368, hq674369, hdc, hds, bf674360, ht674361⟩ := hp674356
    have hm674370 : q674327 ∈ P674362 := hsb674364 q674327 hmq674327
    have hm674371 : q674328 ∈ P674362 := hsb674364 q674328 hmq674328
    have hq674372 : q674359 ∉ P674325 := fun z => hq674369 ((rSub_rf (P := P674325)) q674359 z)
    have hsb674373 : rSub P674325 P674362 := rSub_tr (rSub_rf (P := P674325)) hsb674364
    have he674374 : F674363 q674327 = .inr (1, [.ref q674328, .int 0, .int p674330, .int p674331]) := (hfr674365 q674327 hmq674327 nm_n).trans heq674327
    have hfr674375 : rFr [] P674325 F674326 F674363 := rFr_call (rSub_rf (P := P674325)) (rFr_rf (W := []) (P := P674325) (F := F674326)) hfr674365 (fun b hb hn => ⟨nm_n, nm_n⟩)
    change G _ _ _ _ _ _ _ (.ref q674359 :: _) _ _ _
    refine G_widen (cs' := 1) (sl' := z674353.toInt.toNat) (by omega) (by omega) ?_
    refine Gp_put 0 hm674370 he674374 dr_cJ5_ensureCapacityInternal_d00df_35 (gk_J4 D I) (Nat.le_of_ble_eq_true rfl) wr_7_60 rfl rfl rfl (Nat.le_of_ble_eq_true rfl) (fun F674376 e674377 n674378 => ?_)
    have he674379 : F674376 q674328 = .inl (I .byte, n674333, .inl f674332) := (n674378 q674328 (rn_ao he674366 he674374)).trans he674366
    have he674380 : F674376 q674359 = .inl (I .byte, z674353.toInt.toNat, .inl f674360) := (n674378 q674359 (fun h => hq674372 (h ▸ hmq674327))).trans he674367
    have he674381 : F674376 q674327 = .inr (1, [.ref q674359, .int 0, .int p674330, .int p674331]) := e674377
    have hfr674382 : rFr [q674327] P674325 F674326 F674376 := rFr_put hfr674375 n674378
    exact G_vretA dr_cJ5_ensureCapacityInternal_d00df_38 rfl (Nat.le_of_ble_eq_true rfl) (show z674353.toInt.toNat ≤ (2 * n674333 + 2 + p674329.toInt.toNat) by omega) (Or.inr (⟨P674362, F674376, q674359, z674353.toInt.toNat, f674360, rfl, rfl, hsb674373, hfr674382, he674381, he674380, hm674368, hq674372, (by omega), (by omega), bf674360, (by have qa0 : Int32.toInt 0 = 0 := (by decide); omega), (by have qa0 : Int32.toInt 0 = 0 := (by decide); omega), (by have qa0 : Int32.toInt 0 = 0 := (by decide); omega), (by have qa0 : Int32.toInt 0 = 0 := (by decide); omega), (by have qa0 : Int32.toInt 0 = 0 := (by decide); omega), (by have qa0 : Int32.toInt 0 = 0 := (by decide); omega)⟩))
abbrev ky_674323_AbstractStringBuilder_append : gKey := (cJ5_append_3fe6f, 2, "java/lang/AbstractStringBuilder", (some (FieldType.object "java/lang/AbstractStringBuilder")), [], "append", fun _ _ => True)
def pp_674323_AbstractStringBuilder_append (D : va_G) (I : FieldType → ClassId) (P674311 : List Nat) (F674312 : Nat → va_E) (q674313 : Nat) (q674314 : Nat) (p674315 : Int32) (p674316 : Int32) (p674317 : Int32) (f674318 : Nat → Int32) (n674319 : Nat) : Option Value → va_W → Nat → Nat → Prop := fun r w dc ds => (∃ (F674489 : Nat → va_E) (o674486 : Int32) (f674487 : Nat → Int32), r = some (.ref q674313) ∧ w = va_pl P674311 F674489 ∧ rFr [q674314, q674313] P674311 F674312 F674489 ∧ F674489 q674313 = .inr (1, [.ref q674314, .int 0, .int p674316, .int o674486]) ∧ F674489 q674314 = .inl (I .byte, n674319, .inl f674487) ∧ dc ≤ 0 ∧ ds ≤ 0 ∧ gB o674486 1 16777216 ∧ gF f674487 (-128) 127 ∧ o674486.toInt = p674317.toInt + 1 ∧ o674486.toInt ≤ (n674319 : Int) ∧ (n674319 : Int) ≤ (n674319 : Int) ∧ (n674319 : Int) ≤ 2 * (n674319 : Int) + 2 ∧ ((n674319 : Int) = (n674319 : Int) ∨ (n674319 : Int) < o674486.toInt) ∧ ((n674319 : Int) = (n674319 : Int) ∨ 2 * (n674319 : Int) + 2 ≤ (n674319 : Int))) ∨ (∃ (P674494 : List Nat) (F674495 : Nat → va_E) (o674490 : Int32) (q674491 : Nat) (n674492 : Nat) (f674493 : Nat → Int32), r = some (.ref q674313) ∧ w = va_pl P674494 F674495 ∧ rSub P674311 P674494 ∧ rFr [q674313] P674311 F674312 F674495 ∧ F674495 q674313 = .inr (1, [.ref q674491, .int 0, .int p674316, .int o674490]) ∧ F674495 q674491 = .inl (I .byte, n674492, .inl f674493) ∧ q674491 ∈ P674494 ∧ q674491 ∉ P674311 ∧ dc ≤ (min 1 (n674492 - n674319)) ∧ ds ≤ 2 * (n674492 - n674319) ∧ gB o674490 1 16777216 ∧ gF f674493 (-128) 127 ∧ o674490.toInt = p674317.toInt + 1 ∧ o674490.toInt ≤ (n674492 : Int) ∧ (n674319 : Int) ≤ (n674492 : Int) ∧ (n674492 : Int) ≤ 2 * (n674319 : Int) + 2 ∧ ((n674492 : Int) = (n674319 : Int) ∨ (n674319 : Int) < o674490.toInt) ∧ ((n674492 : Int) = (n674319 : Int) ∨ 2 * (n674319 : Int) + 2 ≤ (n674492 : Int)))
set_option maxRecDepth 100000 in
set_option maxHeartbeats 4000000 in
theorem cp_674323_AbstractStringBuilder_append (l : Launch) (hl0 : l.stackTraces = false) (D : va_G) (I : FieldType → ClassId) (P674311 : List Nat) (F674312 : Nat → va_E) (q674313 : Nat) (q674314 : Nat) (p674315 : Int32) (p674316 : Int32) (p674317 : Int32) (f674318 : Nat → Int32) (n674319 : Nat) (hmq674313 : q674313 ∈ P674311) (hmq674314 : q674314 ∈ P674311) (heq674313 : F674312 q674313 = .inr (1, [.ref q674314, .int 0, .int p674316, .int p674317])) (heq674314 : F674312 q674314 = .inl (I .byte, n674319, .inl f674318)) (bp674315 : gB p674315 0 255) (bp674316 : gB p674316 0 1) (bp674317 : gB p674317 0 16777216) (bf674318 : gF f674318 (-128) 127) (x674320 : (n674319 : Int) ≤ 8388608 - 100000) (x674321 : p674317.toInt ≤ (n674319 : Int)) (x674322 : ((n674319 : Int) ≤ 16777216)) : CtA (gV D I) l yJ5_append_3fe6f cJ5_append_3fe6f 2 (some (FieldType.object "java/lang/AbstractStringBuilder")) 4 84 1 (4 * n674319 + 8) [.ref q674313, .int p674315] (va_pl P674311 F674312) (pp_674323_AbstractStringBuilder_append D I P674311 F674312 q674313 q674314 p674315 p674316 p674317 f674318 n674319) gNA := by
  refine CtA_ofF hl0 (by decide +kernel) (Nat.le_of_ble_eq_true rfl) ?_
  refine G_aload_n 0 dr_cJ5_append_3fe6f_0 rfl ?_
  refine G_aload_n 0 dr_cJ5_append_3fe6f_1 rfl ?_
  refine Gp_get 3 hmq674313 heq674313 dr_cJ5_append_3fe6f_2 (gk_J4 D I) (Nat.le_of_ble_eq_true rfl) wr_7_64 rfl ?_
  refine G_iconst 1 dr_cJ5_append_3fe6f_5 (by decide +kernel) ?_
  refine G_iadd dr_cJ5_append_3fe6f_6 (G_nam fun z674324 hz674324 => ?_)
  have ez674324 : z674324.toInt = p674317.toInt + 1 := by rw [gI_add hz674324 bp674317 (gBl (show Int32.toInt 1 = 1 by decide)) (by decide) (by decide), show Int32.toInt 1 = 1 from by decide]
  have bz674324 : gB z674324 1 16777217 := gB_add (gI_add hz674324 bp674317 (gBl (show Int32.toInt 1 = 1 by decide)) (by decide) (by decide)) bp674317 (gBl (show Int32.toInt 1 = 1 by decide)) (by decide) (by decide)
  refine Gw_callVB (As := [.int z674324]) (gV_ok D I) (cp_674336_AbstractStringBuilder_ensureCapacityInternal l hl0 D I P674311 F674312 q674313 q674314 z674324 p674316 p674317 f674318 n674319 hmq674313 hmq674314 heq674313 heq674314 ⟨by omega, by omega⟩ bp674316 bp674317 bf674318 (by have qa0 : Int32.toInt 0 = 0 := (by decide); omega) (by have qa0 : Int32.toInt 0 = 0 := (by decide); omega)) dr_cJ5_append_3fe6f_7 ⟨wr_8_4, wr_1_19, wr_8_7, by decide, rfl, (Nat.le_of_ble_eq_true rfl), (Nat.le_of_ble_eq_true rfl)⟩ wr_8_6 wr_s_0 hmq674313 heq674313 rfl (show 0 + 1 ≤ 1 by first | omega | decide) (show 0 + (2 * n674319 + 2 + z674324.toInt.toNat) ≤ (4 * n674319 + 8) by first | omega | decide) (Nat.le_of_ble_eq_true rfl) (fun r674391 w674392 dc674388 ds674389 hp674390 => ?_) (fun _ _ _ _ _ z => z.elim)
  rcases hp674390 with hp674393 | hp674394
  · obtain ⟨rfl, rfl, hdc, hds, x674395, x674396, x674397, x674398, x674399, x674400⟩ := hp674393
    change G _ _ _ _ _ _ _ _ _ _ _
    refine G_widen (cs' := 0) (sl' := 0) (by omega) (by omega) ?_
    refine G_aload_n 0 dr_cJ5_append_3fe6f_10 rfl ?_
    refine Gw_callVB (As := []) (gV_ok D I) (cp_655818_AbstractStringBuilder_isLatin1 l hl0 D I P674311 F674312 q674313 q674314 p674316 p674317 f674318 n674319 hmq674313 hmq674314 heq674313 heq674314 bp674316 bp674317 bf674318 (by have qa0 : Int32.toInt 0 = 0 := (by decide); omega)) dr_cJ5_append_3fe6f_11 ⟨wr_8_33, wr_1_19, wr_8_37, by decide, rfl, (Nat.le_of_ble_eq_true rfl), (Nat.le_of_ble_eq_true rfl)⟩ wr_8_34 wr_8_36 hmq674313 heq674313 rfl (show 0 + 0 ≤ 1 by first | omega | decide) (show 0 + 0 ≤ (4 * n674319 + 8) by first | omega | decide) (Nat.le_of_ble_eq_true rfl) (fun r674404 w674405 dc674401 ds674402 hp674403 => ?_) (fun _ _ _ _ _ z => z.elim)
    obtain ⟨rfl, rfl, hdc, hds⟩ := hp674403
    change G _ _ _ _ _ _ _ (.int 1 :: _) _ _ _
    refine G_widen (cs' := 0) (sl' := 0) (by omega) (by omega) ?_
    refine G_if_eq 45 dr_cJ5_append_3fe6f_14 (by decide +kernel) (fun hc => absurd hc (by decide)) (fun _ => ?_)
    refine G_iload_n 1 dr_cJ5_append_3fe6f_17 rfl ?_
    refine Gw_callS (As := [.int p674315]) (gV_ok D I) (cp_655827_StringLatin1_canEncode l hl0 D I P674311 F674312 p674315 (gB_w bp674315 (by decide) (by decide))) dr_cJ5_append_3fe6f_18 ⟨wr_8_38, wr_1_28, wr_8_40, by decide, rfl, (Nat.le_of_ble_eq_true rfl), (Nat.le_of_ble_eq_true rfl)⟩ wr_8_39 (show 0 + 0 ≤ 1 by first | omega | decide) (show 0 + 0 ≤ (4 * n674319 + 8) by first | omega | decide) (Nat.le_of_ble_eq_true rfl) (fun r674409 w674410 dc674406 ds674407 hp674408 => ?_) (fun _ _ _ _ _ z => z.elim)
    rcases hp674408 with ⟨rfl, rfl, hdc, hds, r674411, r674412⟩ | ⟨rfl, rfl, hdc, hds, r674413, r674414⟩
    · exact absurd (show False by omega) not_false
    · change G _ _ _ _ _ _ _ (.int 1 :: _) _ _ _
      refine G_widen (cs' := 0) (sl' := 0) (by omega) (by omega) ?_
      refine G_if_eq 45 dr_cJ5_append_3fe6f_21 (by decide +kernel) (fun hc => absurd hc (by decide)) (fun _ => ?_)
      refine G_aload_n 0 dr_cJ5_append_3fe6f_24 rfl ?_
      refine Gp_get 0 hmq674313 heq674313 dr_cJ5_append_3fe6f_25 (gk_J4 D I) (Nat.le_of_ble_eq_true rfl) wr_7_60 rfl ?_
      refine G_aload_n 0 dr_cJ5_append_3fe6f_28 rfl ?_
      refine G_dup dr_cJ5_append_3fe6f_29 rfl ?_
      refine Gp_get 3 hmq674313 heq674313 dr_cJ5_append_3fe6f_30 (gk_J4 D I) (Nat.le_of_ble_eq_true rfl) wr_7_64 rfl ?_
      refine G_dup_x1 dr_cJ5_append_3fe6f_33 rfl rfl ?_
      refine G_iconst 1 dr_cJ5_append_3fe6f_34 (by decide +kernel) ?_
      refine G_iadd dr_cJ5_append_3fe6f_35 (G_nam fun z674416 hz674416 => ?_)
      have ez674416 : z674416.toInt = p674317.toInt + 1 := by rw [gI_add hz674416 bp674317 (gBl (show Int32.toInt 1 = 1 by decide)) (by decide) (by decide), show Int32.toInt 1 = 1 from by decide]
      have bz674416 : gB z674416 1 16777217 := gB_add (gI_add hz674416 bp674317 (gBl (show Int32.toInt 1 = 1 by decide)) (by decide) (by decide)) bp674317 (gBl (show Int32.toInt 1 = 1 by decide)) (by decide) (by decide)
      refine Gp_put 3 hmq674313 heq674313 dr_cJ5_append_3fe6f_36 (gk_J4 D I) (Nat.le_of_ble_eq_true rfl) wr_7_64 rfl rfl rfl (Nat.le_of_ble_eq_true rfl) (fun F674417 e674418 n674419 => ?_)
      have he674420 : F674417 q674314 = .inl (I .byte, n674319, .inl f674318) := (n674419 q674314 (rn_ao heq674314 heq674313)).trans heq674314
      have he674421 : F674417 q674313 = .inr (1, [.ref q674314, .int 0, .int p674316, .int z674416]) := e674418
      have hfr674422 : rFr [q674313] P674311 F674312 F674417 := rFr_put (rFr_rf (W := []) (P := P674311) (F := F674312)) n674419
      refine G_iload_n 1 dr_cJ5_append_3fe6f_39 rfl ?_
      refine G_i2b dr_cJ5_append_3fe6f_40 (G_nam fun z674423 hz674423 => ?_)
      have bz674423 : gB z674423 (-128) 127 := gB_i2b hz674423
      refine Gp_bast 1 hmq674314 he674420 dr_cJ5_append_3fe6f_41 rfl (gB_inr (by omega) (by omega)) (fun F674424 e674425 n674426 => ?_)
      obtain ⟨f674427, hf674427⟩ : ∃ z, z = upd f674318 p674317.toNatClampNeg (vp_nar .byte z674423) := ⟨_, rfl⟩
      rw [← hf674427] at e674425
      have he674428 : F674424 q674313 = .inr (1, [.ref q674314, .int 0, .int p674316, .int z674416]) := (n674426 q674313 (rn_oa he674421 he674420)).trans he674421
      have he674429 : F674424 q674314 = .inl (I .byte, n674319, .inl f674427) := e674425
      have hfr674430 : rFr [q674314, q674313] P674311 F674312 F674424 := rFr_put hfr674422 n674426
      have bf674427 : gF f674427 (-128) 127 := gF_upd hf674427 bf674318 gB_byte
      refine G_goto 75 dr_cJ5_append_3fe6f_42 (by decide +kernel) ?_
      refine G_aload_n 0 dr_cJ5_append_3fe6f_75 rfl ?_
      exact G_aretA (FieldType.object "java/lang/AbstractStringBuilder") dr_cJ5_append_3fe6f_76 rfl (by first | exact Or.inl ⟨_, rfl⟩ | exact Or.inr ⟨_, rfl⟩) (Or.inr ⟨_, rfl⟩) (Nat.le_of_ble_eq_true rfl) (Nat.le_of_ble_eq_true rfl) (Or.inl ⟨F674424, z674416, f674427, rfl, rfl, hfr674430, he674428, he674429, (Nat.le_of_ble_eq_true rfl), (Nat.le_of_ble_eq_true rfl), ⟨by omega, by omega⟩, bf674427, (by have qa0 : Int32.toInt 0 = 0 := (by decide); omega), (by have qa0 : Int32.toInt 0 = 0 := (by decide); omega), (by have qa0 : Int32.toInt 0 = 0 := (by decide); omega), (by have qa0 : Int32.toInt 0 = 0 := (by decide); omega), (by have qa0 : Int32.toInt 0 = 0 := (by decide); omega), (by have qa0 : Int32.toInt 0 = 0 := (by decide); omega)⟩)
  · obtain ⟨P674440, F674441, q674431, n674432, f674433, rfl, rfl, hsb674442, hfr674443, he674444, he674445, hm674446, hq674447, hdc, hds, bf674433, x674434, x674435, x674436, x674437, x674438, x674439⟩ := hp674394
    have hm674448 : q674313 ∈ P674440 := hsb674442 q674313 hmq674313
    have hm674449 : q674314 ∈ P674440 := hsb674442 q674314 hmq674314
    have hq674450 : q674431 ∉ P674311 := fun z => hq674447 ((rSub_rf (P := P674311)) q674431 z)
    have hsb674451 : rSub P674311 P674440 := rSub_tr (rSub_rf (P := P674311)) hsb674442
    have he674452 : F674441 q674314 = .inl (I .byte, n674319, .inl f674318) := (hfr674443 q674314 hmq674314 (nm_c (rn_ao heq674314 heq674313) nm_n)).trans heq674314
    have hfr674453 : rFr [q674313] P674311 F674312 F674441 := rFr_call (rSub_rf (P := P674311)) (rFr_rf (W := []) (P := P674311) (F := F674312)) hfr674443 (fun b hb hn => ⟨nm_n, (nm_c (fun e => hn (e ▸ List.mem_cons_self)) nm_n)⟩)
    change G _ _ _ _ _ _ _ _ _ _ _
    refine G_widen (cs' := (min 1 (n674432 - n674319))) (sl' := 2 * (n674432 - n674319)) (by omega) (by omega) ?_
    refine G_aload_n 0 dr_cJ5_append_3fe6f_10 rfl ?_
    refine Gw_callVB (As := []) (gV_ok D I) (cp_655818_AbstractStringBuilder_isLatin1 l hl0 D I P674440 F674441 q674313 q674431 p674316 p674317 f674433 n674432 hm674448 hm674446 he674444 he674445 bp674316 bp674317 bf674433 (by have qa0 : Int32.toInt 0 = 0 := (by decide); omega)) dr_cJ5_append_3fe6f_11 ⟨wr_8_33, wr_1_19, wr_8_37, by decide, rfl, (Nat.le_of_ble_eq_true rfl), (Nat.le_of_ble_eq_true rfl)⟩ wr_8_34 wr_8_36 hm674448 he674444 rfl (show (min 1 (n674432 - n674319)) + 0 ≤ 1 by first | omega | decide) (show 2 * (n674432 - n674319) + 0 ≤ (4 * n674319 + 8) by first | omega | decide) (Nat.le_of_ble_eq_true rfl) (fun r674457 w674458 dc674454 ds674455 hp674456 => ?_) (fun _ _ _ _ _ z => z.elim)
    obtain ⟨rfl, rfl, hdc, hds⟩ := hp674456
    change G _ _ _ _ _ _ _ (.int 1 :: _) _ _ _
    refine G_widen (cs' := (min 1 (n674432 - n674319)) + 0) (sl' := 2 * (n674432 - n674319) + 0) (by omega) (by omega) ?_
    refine G_if_eq 45 dr_cJ5_append_3fe6f_14 (by decide +kernel) (fun hc => absurd hc (by decide)) (fun _ => ?_)
    refine G_iload_n 1 dr_cJ5_append_3fe6f_17 rfl ?_
    refine Gw_callS (As := [.int p674315]) (gV_ok D I) (cp_655827_StringLatin1_canEncode l hl0 D I P674440 F674441 p674315 (gB_w bp674315 (by decide) (by decide))) dr_cJ5_append_3fe6f_18 ⟨wr_8_38, wr_1_28, wr_8_40, by decide, rfl, (Nat.le_of_ble_eq_true rfl), (Nat.le_of_ble_eq_true rfl)⟩ wr_8_39 (show (min 1 (n674432 - n674319)) + 0 + 0 ≤ 1 by first | omega | decide) (show 2 * (n674432 - n674319) + 0 + 0 ≤ (4 * n674319 + 8) by first | omega | decide) (Nat.le_of_ble_eq_true rfl) (fun r674462 w674463 dc674459 ds674460 hp674461 => ?_) (fun _ _ _ _ _ z => z.elim)
    rcases hp674461 with ⟨rfl, rfl, hdc, hds, r674464, r674465⟩ | ⟨rfl, rfl, hdc, hds, r674466, r674467⟩
    · exact absurd (show False by omega) not_false
    · change G _ _ _ _ _ _ _ (.int 1 :: _) _ _ _
      refine G_widen (cs' := (min 1 (n674432 - n674319)) + 0 + 0) (sl' := 2 * (n674432 - n674319) + 0 + 0) (by omega) (by omega) ?_
      refine G_if_eq 45 dr_cJ5_append_3fe6f_21 (by decide +kernel) (fun hc => absurd hc (by decide)) (fun _ => ?_)
      refine G_aload_n 0 dr_cJ5_append_3fe6f_24 rfl ?_
      refine Gp_get 0 hm674448 he674444 dr_cJ5_append_3fe6f_25 (gk_J4 D I) (Nat.le_of_ble_eq_true rfl) wr_7_60 rfl ?_
      refine G_aload_n 0 dr_cJ5_append_3fe6f_28 rfl ?_
      refine G_dup dr_cJ5_append_3fe6f_29 rfl ?_
      refine Gp_get 3 hm674448 he674444 dr_cJ5_append_3fe6f_30 (gk_J4 D I) (Nat.le_of_ble_eq_true rfl) wr_7_64 rfl ?_
      refine G_dup_x1 dr_cJ5_append_3fe6f_33 rfl rfl ?_
      refine G_iconst 1 dr_cJ5_append_3fe6f_34 (by decide +kernel) ?_
      refine G_iadd dr_cJ5_append_3fe6f_35 (G_nam fun z674469 hz674469 => ?_)
      have ez674469 : z674469.toInt = p674317.toInt + 1 := by rw [gI_add hz674469 bp674317 (gBl (show Int32.toInt 1 = 1 by decide)) (by decide) (by decide), show Int32.toInt 1 = 1 from by decide]
      have bz674469 : gB z674469 1 16777217 := gB_add (gI_add hz674469 bp674317 (gBl (show Int32.toInt 1 = 1 by decide)) (by decide) (by decide)) bp674317 (gBl (show Int32.toInt 1 = 1 by decide)) (by decide) (by decide)
      refine Gp_put 3 hm674448 he674444 dr_cJ5_append_3fe6f_36 (gk_J4 D I) (Nat.le_of_ble_eq_true rfl) wr_7_64 rfl rfl rfl (Nat.le_of_ble_eq_true rfl) (fun F674470 e674471 n674472 => ?_)
      have he674473 : F674470 q674314 = .inl (I .byte, n674319, .inl f674318) := (n674472 q674314 (rn_ao he674452 he674444)).trans he674452
      have he674474 : F674470 q674431 = .inl (I .byte, n674432, .inl f674433) := (n674472 q674431 (fun h => hq674450 (h ▸ hmq674313))).trans he674445
      have he674475 : F674470 q674313 = .inr (1, [.ref q674431, .int 0, .int p674316, .int z674469]) := e674471
      have hfr674476 : rFr [q674313] P674311 F674312 F674470 := rFr_put' List.mem_cons_self hfr674453 n674472
      refine G_iload_n 1 dr_cJ5_append_3fe6f_39 rfl ?_
      refine G_i2b dr_cJ5_append_3fe6f_40 (G_nam fun z674477 hz674477 => ?_)
      have bz674477 : gB z674477 (-128) 127 := gB_i2b hz674477
      refine Gp_bast 1 hm674446 he674474 dr_cJ5_append_3fe6f_41 rfl (gB_inr (by omega) (by omega)) (fun F674478 e674479 n674480 => ?_)
      obtain ⟨f674481, hf674481⟩ : ∃ z, z = upd f674433 p674317.toNatClampNeg (vp_nar .byte z674477) := ⟨_, rfl⟩
      rw [← hf674481] at e674479
      have he674482 : F674478 q674314 = .inl (I .byte, n674319, .inl f674318) := (n674480 q674314 (fun h => hq674450 (h ▸ hmq674314))).trans he674473
      have he674483 : F674478 q674313 = .inr (1, [.ref q674431, .int 0, .int p674316, .int z674469]) := (n674480 q674313 (fun h => hq674450 (h ▸ hmq674313))).trans he674475
      have he674484 : F674478 q674431 = .inl (I .byte, n674432, .inl f674481) := e674479
      have hfr674485 : rFr [q674313] P674311 F674312 F674478 := rFr_newp hq674450 hfr674476 n674480
      have bf674481 : gF f674481 (-128) 127 := gF_upd hf674481 bf674433 gB_byte
      refine G_goto 75 dr_cJ5_append_3fe6f_42 (by decide +kernel) ?_
      refine G_aload_n 0 dr_cJ5_append_3fe6f_75 rfl ?_
      exact G_aretA (FieldType.object "java/lang/AbstractStringBuilder") dr_cJ5_append_3fe6f_76 rfl (by first | exact Or.inl ⟨_, rfl⟩ | exact Or.inr ⟨_, rfl⟩) (Or.inr ⟨_, rfl⟩) (show (min 1 (n674432 - n674319)) + 0 + 0 ≤ 1 by omega) (show 2 * (n674432 - n674319) + 0 + 0 ≤ (4 * n674319 + 8) by omega) (Or.inr (⟨P674440, F674478, z674469, q674431, n674432, f674481, rfl, rfl, hsb674451, hfr674485, he674483, he674484, hm674446, hq674450, (by omega), (by omega), ⟨by omega, by omega⟩, bf674481, (by have qa0 : Int32.toInt 0 = 0 := (by decide); omega), (by have qa0 : Int32.toInt 0 = 0 := (by decide); omega), (by have qa0 : Int32.toInt 0 = 0 := (by decide); omega), (by have qa0 : Int32.toInt 0 = 0 := (by decide); omega), (by have qa0 : Int32.toInt 0 = 0 := (by decide); omega), (by have qa0 : Int32.toInt 0 = 0 := (by decide); omega)⟩))
abbrev ky_674310_StringBuilder_append : gKey := (cJ4_append_cf468, 2, "java/lang/StringBuilder", (some (FieldType.object "java/lang/StringBuilder")), [], "append", fun _ _ => True)
def pp_674310_StringBuilder_append (D : va_G) (I : FieldType → ClassId) (P674298 : List Nat) (F674299 : Nat → va_E) (q674300 : Nat) (q674301 : Nat) (p674302 : Int32) (p674303 : Int32) (p674304 : Int32) (f674305 : Nat → Int32) (n674306 : Nat) : Option Value → va_W → Nat → Nat → Prop := fun r w dc ds => (∃ (F674544 : Nat → va_E) (o674541 : Int32) (f674542 : Nat → Int32), r = some (.ref q674300) ∧ w = va_pl P674298 F674544 ∧ rFr [q674301, q674300] P674298 F674299 F674544 ∧ F674544 q674300 = .inr (1, [.ref q674301, .int 0, .int p674303, .int o674541]) ∧ F674544 q674301 = .inl (I .byte, n674306, .inl f674542) ∧ dc ≤ 0 ∧ ds ≤ 0 ∧ gB o674541 1 16777216 ∧ gF f674542 (-128) 127 ∧ o674541.toInt = p674304.toInt + 1 ∧ o674541.toInt ≤ (n674306 : Int) ∧ (n674306 : Int) ≤ (n674306 : Int) ∧ (n674306 : Int) ≤ 2 * (n674306 : Int) + 2 ∧ ((n674306 : Int) = (n674306 : Int) ∨ (n674306 : Int) < o674541.toInt) ∧ ((n674306 : Int) = (n674306 : Int) ∨ 2 * (n674306 : Int) + 2 ≤ (n674306 : Int))) ∨ (∃ (P674549 : List Nat) (F674550 : Nat → va_E) (o674545 : Int32) (q674546 : Nat) (n674547 : Nat) (f674548 : Nat → Int32), r = some (.ref q674300) ∧ w = va_pl P674549 F674550 ∧ rSub P674298 P674549 ∧ rFr [q674300] P674298 F674299 F674550 ∧ F674550 q674300 = .inr (1, [.ref q674546, .int 0, .int p674303, .int o674545]) ∧ F674550 q674546 = .inl (I .byte, n674547, .inl f674548) ∧ q674546 ∈ P674549 ∧ q674546 ∉ P674298 ∧ dc ≤ (min 1 (n674547 - n674306)) ∧ ds ≤ 2 * (n674547 - n674306) ∧ gB o674545 1 16777216 ∧ gF f674548 (-128) 127 ∧ o674545.toInt = p674304.toInt + 1 ∧ o674545.toInt ≤ (n674547 : Int) ∧ (n674306 : Int) ≤ (n674547 : Int) ∧ (n674547 : Int) ≤ 2 * (n674306 : Int) + 2 ∧ ((n674547 : Int) = (n674306 : Int) ∨ (n674306 : Int) < o674545.toInt) ∧ ((n674547 : Int) = (n674306 : Int) ∨ 2 * (n674306 : Int) + 2 ≤ (n674547 : Int)))
set_option maxRecDepth 100000 in
set_option maxHeartbeats 4000000 in
theorem cp_674310_StringBuilder_append (l : Launch) (hl0 : l.stackTraces = false) (D : va_G) (I : FieldType → ClassId) (P674298 : List Nat) (F674299 : Nat → va_E) (q674300 : Nat) (q674301 : Nat) (p674302 : Int32) (p674303 : Int32) (p674304 : Int32) (f674305 : Nat → Int32) (n674306 : Nat) (hmq674300 : q674300 ∈ P674298) (hmq674301 : q674301 ∈ P674298) (heq674300 : F674299 q674300 = .inr (1, [.ref q674301, .int 0, .int p674303, .int p674304])) (heq674301 : F674299 q674301 = .inl (I .byte, n674306, .inl f674305)) (bp674302 : gB p674302 0 255) (bp674303 : gB p674303 0 1) (bp674304 : gB p674304 0 16777216) (bf674305 : gF f674305 (-128) 127) (x674307 : (n674306 : Int) ≤ 8388608 - 100000) (x674308 : p674304.toInt ≤ (n674306 : Int)) (x674309 : ((n674306 : Int) ≤ 16777216)) : CtA (gV D I) l yJ4_append_cf468 cJ4_append_cf468 2 (some (FieldType.object "java/lang/StringBuilder")) 5 105 1 (4 * n674306 + 8) [.ref q674300, .int p674302] (va_pl P674298 F674299) (pp_674310_StringBuilder_append D I P674298 F674299 q674300 q674301 p674302 p674303 p674304 f674305 n674306) gNA := by
  refine CtA_ofF hl0 (by decide +kernel) (Nat.le_of_ble_eq_true rfl) ?_
  refine G_aload_n 0 dr_cJ4_append_cf468_0 rfl ?_
  refine G_iload_n 1 dr_cJ4_append_cf468_1 rfl ?_
  refine Gw_callSU (As := [.int p674302]) (gV_ok D I) (cp_674323_AbstractStringBuilder_append l hl0 D I P674298 F674299 q674300 q674301 p674302 p674303 p674304 f674305 n674306 hmq674300 hmq674301 heq674300 heq674301 bp674302 bp674303 bp674304 bf674305 (by have qa0 : Int32.toInt 0 = 0 := (by decide); omega) (by have qa0 : Int32.toInt 0 = 0 := (by decide); omega) (by have qa0 : Int32.toInt 0 = 0 := (by decide); omega)) dr_cJ4_append_cf468_2 ⟨wr_8_1, wr_1_19, wr_8_3, by decide, rfl, (Nat.le_of_ble_eq_true rfl), (Nat.le_of_ble_eq_true rfl)⟩ wr_8_2 wr_11_224 wr_7_73 wr_7_44 (by decide) hmq674300 heq674300 rfl (show 0 + 1 ≤ 1 by first | omega | decide) (show 0 + (4 * n674306 + 8) ≤ (4 * n674306 + 8) by first | omega | decide) (Nat.le_of_ble_eq_true rfl) (fun r674499 w674500 dc674496 ds674497 hp674498 => ?_)
  rcases hp674498 with hp674501 | hp674502
  · obtain ⟨F674511, o674503, f674504, rfl, rfl, hfr674513, he674514, he674515, hdc, hds, bo674503, bf674504, x674505, x674506, x674507, x674508, x674509, x674510⟩ := hp674501
    have hfr674516 : rFr [q674301, q674300] P674298 F674299 F674511 := rFr_call (rSub_rf (P := P674298)) (rFr_rf (W := []) (P := P674298) (F := F674299)) hfr674513 (fun b hb hn => ⟨nm_n, (nm_c (fun e => hn (e ▸ List.mem_cons_self)) (nm_c (fun e => hn (e ▸ (List.mem_cons_of_mem _ List.mem_cons_self))) nm_n))⟩)
    change G _ _ _ _ _ _ _ (.ref q674300 :: _) _ _ _
    refine G_widen (cs' := 0) (sl' := 0) (by omega) (by omega) ?_
    refine G_pop dr_cJ4_append_cf468_5 rfl ?_
    refine G_aload_n 0 dr_cJ4_append_cf468_6 rfl ?_
    exact G_aretA (FieldType.object "java/lang/StringBuilder") dr_cJ4_append_cf468_7 rfl (by first | exact Or.inl ⟨_, rfl⟩ | exact Or.inr ⟨_, rfl⟩) (Or.inr ⟨_, rfl⟩) (Nat.le_of_ble_eq_true rfl) (Nat.le_of_ble_eq_true rfl) (Or.inl ⟨F674511, o674503, f674504, rfl, rfl, hfr674516, he674514, he674515, (Nat.le_of_ble_eq_true rfl), (Nat.le_of_ble_eq_true rfl), bo674503, bf674504, (by have qa0 : Int32.toInt 0 = 0 := (by decide); omega), (by have qa0 : Int32.toInt 0 = 0 := (by decide); omega), (by have qa0 : Int32.toInt 0 = 0 := (by decide); omega), (by have qa0 : Int32.toInt 0 = 0 := (by decide); omega), (by have qa0 : Int32.toInt 0 = 0 := (by decide); omega), (by have qa0 : Int32.toInt 0 = 0 := (by decide); omega)⟩)
  · obtain ⟨P674527, F674528, o674517, q674518, n674519, f674520, rfl, rfl, hsb674529, hfr674530, he674531, he674532, hm674533, hq674534, hdc, hds, bo674517, bf674520, x674521, x674522, x674523, x674524, x674525, x674526⟩ := hp674502
    have hm674535 : q674300 ∈ P674527 := hsb674529 q674300 hmq674300
    have hm674536 : q674301 ∈ P674527 := hsb674529 q674301 hmq674301
    have hq674537 : q674518 ∉ P674298 := fun z => hq674534 ((rSub_rf (P := P674298)) q674518 z)
    have hsb674538 : rSub P674298 P674527 := rSub_tr (rSub_rf (P := P674298)) hsb674529
    have he674539 : F674528 q674301 = .inl (I .byte, n674306, .inl f674305) := (hfr674530 q674301 hmq674301 (nm_c (rn_ao heq674301 heq674300) nm_n)).trans heq674301
    have hfr674540 : rFr [q674300] P674298 F674299 F674528 := rFr_call (rSub_rf (P := P674298)) (rFr_rf (W := []) (P := P674298) (F := F674299)) hfr674530 (fun b hb hn => ⟨nm_n, (nm_c (fun e => hn (e ▸ List.mem_cons_self)) nm_n)⟩)
    change G _ _ _ _ _ _ _ (.ref q674300 :: _) _ _ _
    refine G_widen (cs' := (min 1 (n674519 - n674306))) (sl' := 2 * (n674519 - n674306)) (by omega) (by omega) ?_
    refine G_pop dr_cJ4_append_cf468_5 rfl ?_
    refine G_aload_n 0 dr_cJ4_append_cf468_6 rfl ?_
    exact G_aretA (FieldType.object "java/lang/StringBuilder") dr_cJ4_append_cf468_7 rfl (by first | exact Or.inl ⟨_, rfl⟩ | exact Or.inr ⟨_, rfl⟩) (Or.inr ⟨_, rfl⟩) (show (min 1 (n674519 - n674306)) ≤ 1 by omega) (show 2 * (n674519 - n674306) ≤ (4 * n674306 + 8) by omega) (Or.inr (⟨P674527, F674528, o674517, q674518, n674519, f674520, rfl, rfl, hsb674538, hfr674540, he674531, he674532, hm674533, hq674537, (by omega), (by omega), bo674517, bf674520, (by have qa0 : Int32.toInt 0 = 0 := (by decide); omega), (by have qa0 : Int32.toInt 0 = 0 := (by decide); omega), (by have qa0 : Int32.toInt 0 = 0 := (by decide); omega), (by have qa0 : Int32.toInt 0 = 0 := (by decide); omega), (by have qa0 : Int32.toInt 0 = 0 := (by decide); omega), (by have qa0 : Int32.toInt 0 = 0 := (by decide); omega)⟩))
abbrev ky_674576_AbstractStringBuilder_append : gKey := (cJ5_append_c97b9, 4, "java/lang/AbstractStringBuilder", (some (FieldType.object "java/lang/AbstractStringBuilder")), [], "append", fun _ _ => True)
def pp_674576_AbstractStringBuilder_append (D : va_G) (I : FieldType → ClassId) (P674564 : List Nat) (F674565 : Nat → va_E) (q674566 : Nat) (q674567 : Nat) (p674568 : Int32) (p674569 : Int32) (p674570 : Int32) (f674571 : Nat → Int32) (n674572 : Nat) : Option Value → va_W → Nat → Nat → Prop := fun r w dc ds => (∃ (F674677 : Nat → va_E) (o674674 : Int32) (f674675 : Nat → Int32), r = some (.ref q674566) ∧ w = va_pl P674564 F674677 ∧ rFr [q674566, q674567] P674564 F674565 F674677 ∧ F674677 q674566 = .inr (1, [.ref q674567, .int 0, .int p674569, .int o674674]) ∧ F674677 q674567 = .inl (I .byte, n674572, .inl f674675) ∧ dc ≤ 0 ∧ ds ≤ 0 ∧ gB o674674 1 16777216 ∧ gF f674675 (-128) 127 ∧ p674570.toInt ≤ o674674.toInt ∧ o674674.toInt ≤ p674570.toInt + 11 ∧ o674674.toInt ≤ (n674572 : Int) ∧ (n674572 : Int) ≤ (n674572 : Int) ∧ ((n674572 : Int) ≤ 2 * (n674572 : Int) + 2 ∨ (n674572 : Int) ≤ p674570.toInt + 11) ∧ ((n674572 : Int) = (n674572 : Int) ∨ (n674572 : Int) < o674674.toInt) ∧ ((n674572 : Int) = (n674572 : Int) ∨ 2 * (n674572 : Int) + 2 ≤ (n674572 : Int))) ∨ (∃ (P674682 : List Nat) (F674683 : Nat → va_E) (o674678 : Int32) (q674679 : Nat) (n674680 : Nat) (f674681 : Nat → Int32), r = some (.ref q674566) ∧ w = va_pl P674682 F674683 ∧ rSub P674564 P674682 ∧ rFr [q674566] P674564 F674565 F674683 ∧ F674683 q674566 = .inr (1, [.ref q674679, .int 0, .int p674569, .int o674678]) ∧ F674683 q674679 = .inl (I .byte, n674680, .inl f674681) ∧ q674679 ∈ P674682 ∧ q674679 ∉ P674564 ∧ dc ≤ (min 1 (n674680 - n674572)) ∧ ds ≤ 2 * (n674680 - n674572) ∧ gB o674678 1 16777216 ∧ gF f674681 (-128) 127 ∧ p674570.toInt ≤ o674678.toInt ∧ o674678.toInt ≤ p674570.toInt + 11 ∧ o674678.toInt ≤ (n674680 : Int) ∧ (n674572 : Int) ≤ (n674680 : Int) ∧ ((n674680 : Int) ≤ 2 * (n674572 : Int) + 2 ∨ (n674680 : Int) ≤ p674570.toInt + 11) ∧ ((n674680 : Int) = (n674572 : Int) ∨ (n674572 : Int) < o674678.toInt) ∧ ((n674680 : Int) = (n674572 : Int) ∨ 2 * (n674572 : Int) + 2 ≤ (n674680 : Int)))
set_option maxRecDepth 100000 in
set_option maxHeartbeats 4000000 in
theorem cp_674576_AbstractStringBuilder_append (l : Launch) (hl0 : l.stackTraces = false) (D : va_G) (I : FieldType → ClassId) (P674564 : List Nat) (F674565 : Nat → va_E) (q674566 : Nat) (q674567 : Nat) (p674568 : Int32) (p674569 : Int32) (p674570 : Int32) (f674571 : Nat → Int32) (n674572 : Nat) (hmq674566 : q674566 ∈ P674564) (hmq674567 : q674567 ∈ P674564) (heq674566 : F674565 q674566 = .inr (1, [.ref q674567, .int 0, .int p674569, .int p674570])) (heq674567 : F674565 q674567 = .inl (I .byte, n674572, .inl f674571)) (bp674569 : gB p674569 0 1) (bp674570 : gB p674570 0 16777216) (bf674571 : gF f674571 (-128) 127) (x674573 : (n674572 : Int) ≤ 8388608 - 100000) (x674574 : p674570.toInt ≤ (n674572 : Int)) (x674575 : ((n674572 : Int) ≤ 16777216)) : CtA (gV D I) l yJ5_append_c97b9 cJ5_append_c97b9 4 (some (FieldType.object "java/lang/AbstractStringBuilder")) 4 84 1 (4 * n674572 + 64) [.ref q674566, .int p674568] (va_pl P674564 F674565) (pp_674576_AbstractStringBuilder_append D I P674564 F674565 q674566 q674567 p674568 p674569 p674570 f674571 n674572) gNA := by
  refine CtA_ofF hl0 (by decide +kernel) (Nat.le_of_ble_eq_true rfl) ?_
  have bp674568 := gB_any p674568
  refine G_aload_n 0 dr_cJ5_append_c97b9_0 rfl ?_
  refine Gp_get 3 hmq674566 heq674566 dr_cJ5_append_c97b9_1 (gk_J4 D I) (Nat.le_of_ble_eq_true rfl) wr_7_64 rfl ?_
  refine G_istore_n (L' := [(2, .int p674570), (0, .ref q674566), (1, .int p674568)]) dr_cJ5_append_c97b9_4 (Nat.le_of_ble_eq_true rfl) rfl ?_
  refine G_iload_n 0 dr_cJ5_append_c97b9_5 rfl ?_
  refine G_iload_n 2 dr_cJ5_append_c97b9_6 rfl ?_
  refine Gw_callS (As := [.int p674568]) (gV_ok D I) (cp_664672_Integer_stringSize l hl0 D I P674564 F674565 p674568 ) dr_cJ5_append_c97b9_7 ⟨wr_8_112, wr_1_35, wr_8_114, by decide, rfl, (Nat.le_of_ble_eq_true rfl), (Nat.le_of_ble_eq_true rfl)⟩ wr_8_113 (show 0 + 0 ≤ 1 by first | omega | decide) (show 0 + 0 ≤ (4 * n674572 + 64) by first | omega | decide) (Nat.le_of_ble_eq_true rfl) (fun r674580 w674581 dc674577 ds674578 hp674579 => ?_) (fun _ _ _ _ _ z => z.elim)
  obtain ⟨o674582, rfl, rfl, hdc, hds, bo674582, x674583, ht674584⟩ := hp674579
  change G _ _ _ _ _ _ _ (.int o674582 :: _) _ _ _
  refine G_widen (cs' := 0) (sl' := 0) (by omega) (by omega) ?_
  refine G_iadd dr_cJ5_append_c97b9_10 (G_nam fun z674585 hz674585 => ?_)
  have ez674585 : z674585.toInt = p674570.toInt + o674582.toInt := by rw [gI_add hz674585 bp674570 bo674582 (by decide) (by decide)]
  have bz674585 : gB z674585 1 16777227 := gB_add (gI_add hz674585 bp674570 bo674582 (by decide) (by decide)) bp674570 bo674582 (by decide) (by decide)
  refine G_istore_n (L' := [(3, .int z674585), (2, .int p674570), (0, .ref q674566), (1, .int p674568)]) dr_cJ5_append_c97b9_11 (Nat.le_of_ble_eq_true rfl) rfl ?_
  refine G_aload_n 2 dr_cJ5_append_c97b9_12 rfl ?_
  refine G_iload_n 0 dr_cJ5_append_c97b9_13 rfl ?_
  refine Gw_callVB (As := [.int z674585]) (gV_ok D I) (cp_674336_AbstractStringBuilder_ensureCapacityInternal l hl0 D I P674564 F674565 q674566 q674567 z674585 p674569 p674570 f674571 n674572 hmq674566 hmq674567 heq674566 heq674567 ⟨by omega, by omega⟩ bp674569 bp674570 bf674571 (by have qa0 : Int32.toInt 0 = 0 := (by decide); omega) (by have qa0 : Int32.toInt 0 = 0 := (by decide); omega)) dr_cJ5_append_c97b9_14 ⟨wr_8_4, wr_1_19, wr_8_7, by decide, rfl, (Nat.le_of_ble_eq_true rfl), (Nat.le_of_ble_eq_true rfl)⟩ wr_8_6 wr_s_0 hmq674566 heq674566 rfl (show 0 + 1 ≤ 1 by first | omega | decide) (show 0 + (2 * n674572 + 2 + z674585.toInt.toNat) ≤ (4 * n674572 + 64) by first | omega | decide) (Nat.le_of_ble_eq_true rfl) (fun r674589 w674590 dc674586 ds674587 hp674588 => ?_) (fun _ _ _ _ _ z => z.elim)
  rcases hp674588 with hp674591 | hp674592
  · obtain ⟨rfl, rfl, hdc, hds, x674593, x674594, x674595, x674596, x674597, x674598⟩ := hp674591
    change G _ _ _ _ _ _ _ _ _ _ _
    refine G_widen (cs' := 0) (sl' := 0) (by omega) (by omega) ?_
    refine G_aload_n 2 dr_cJ5_append_c97b9_17 rfl ?_
    refine Gw_callVB (As := []) (gV_ok D I) (cp_655818_AbstractStringBuilder_isLatin1 l hl0 D I P674564 F674565 q674566 q674567 p674569 p674570 f674571 n674572 hmq674566 hmq674567 heq674566 heq674567 bp674569 bp674570 bf674571 (by have qa0 : Int32.toInt 0 = 0 := (by decide); omega)) dr_cJ5_append_c97b9_18 ⟨wr_8_33, wr_1_19, wr_8_37, by decide, rfl, (Nat.le_of_ble_eq_true rfl), (Nat.le_of_ble_eq_true rfl)⟩ wr_8_34 wr_8_36 hmq674566 heq674566 rfl (show 0 + 0 ≤ 1 by first | omega | decide) (show 0 + 0 ≤ (4 * n674572 + 64) by first | omega | decide) (Nat.le_of_ble_eq_true rfl) (fun r674602 w674603 dc674599 ds674600 hp674601 => ?_) (fun _ _ _ _ _ z => z.elim)
    obtain ⟨rfl, rfl, hdc, hds⟩ := hp674601
    change G _ _ _ _ _ _ _ (.int 1 :: _) _ _ _
    refine G_widen (cs' := 0) (sl' := 0) (by omega) (by omega) ?_
    refine G_if_eq 37 dr_cJ5_append_c97b9_21 (by decide +kernel) (fun hc => absurd hc (by decide)) (fun _ => ?_)
    refine G_iload_n 3 dr_cJ5_append_c97b9_24 rfl ?_
    refine G_iload_n 0 dr_cJ5_append_c97b9_25 rfl ?_
    refine G_aload_n 2 dr_cJ5_append_c97b9_26 rfl ?_
    refine Gp_get 0 hmq674566 heq674566 dr_cJ5_append_c97b9_27 (gk_J4 D I) (Nat.le_of_ble_eq_true rfl) wr_7_60 rfl ?_
    refine Gw_callS (As := [.int p674568, .int z674585, .ref q674567]) (gV_ok D I) (cp_664855_Integer_getChars l hl0 D I P674564 F674565 q674567 p674568 z674585 f674571 n674572 hmq674567 heq674567 ⟨by omega, by omega⟩ bf674571 (by have qa0 : Int32.toInt 0 = 0 := (by decide); omega) (by have q10 : Int32.toInt 10 = 10 := (by decide); have q11 : Int32.toInt 11 = 11 := (by decide); first | exact dgS_up (by omega) (by omega) x674583 (by omega)) (by have qa0 : Int32.toInt 0 = 0 := (by decide); omega)) dr_cJ5_append_c97b9_30 ⟨wr_8_115, wr_1_35, wr_8_117, by decide, rfl, (Nat.le_of_ble_eq_true rfl), (Nat.le_of_ble_eq_true rfl)⟩ wr_8_116 (show 0 + 0 ≤ 1 by first | omega | decide) (show 0 + 0 ≤ (4 * n674572 + 64) by first | omega | decide) (Nat.le_of_ble_eq_true rfl) (fun r674607 w674608 dc674604 ds674605 hp674606 => ?_) (fun _ _ _ _ _ z => z.elim)
    obtain ⟨F674612, o674609, f674610, rfl, rfl, hfr674614, he674615, hdc, hds, bo674609, bf674610, ht674611⟩ := hp674606
    have he674616 : F674612 q674566 = .inr (1, [.ref q674567, .int 0, .int p674569, .int p674570]) := (hfr674614 q674566 hmq674566 (nm_c (rn_oa heq674566 heq674567) nm_n)).trans heq674566
    have hfr674617 : rFr [q674567] P674564 F674565 F674612 := rFr_call (rSub_rf (P := P674564)) (rFr_rf (W := []) (P := P674564) (F := F674565)) hfr674614 (fun b hb hn => ⟨nm_n, (nm_c (fun e => hn (e ▸ List.mem_cons_self)) nm_n)⟩)
    change G _ _ _ _ _ _ _ (.int o674609 :: _) _ _ _
    refine G_widen (cs' := 0) (sl' := 0) (by omega) (by omega) ?_
    refine G_pop dr_cJ5_append_c97b9_33 rfl ?_
    refine G_goto 48 dr_cJ5_append_c97b9_34 (by decide +kernel) ?_
    refine G_aload_n 2 dr_cJ5_append_c97b9_48 rfl ?_
    refine G_iload_n 0 dr_cJ5_append_c97b9_49 rfl ?_
    refine Gp_put 3 hmq674566 he674616 dr_cJ5_append_c97b9_50 (gk_J4 D I) (Nat.le_of_ble_eq_true rfl) wr_7_64 rfl rfl rfl (Nat.le_of_ble_eq_true rfl) (fun F674618 e674619 n674620 => ?_)
    have he674621 : F674618 q674567 = .inl (I .byte, n674572, .inl f674610) := (n674620 q674567 (rn_ao he674615 he674616)).trans he674615
    have he674622 : F674618 q674566 = .inr (1, [.ref q674567, .int 0, .int p674569, .int z674585]) := e674619
    have hfr674623 : rFr [q674566, q674567] P674564 F674565 F674618 := rFr_put hfr674617 n674620
    refine G_aload_n 2 dr_cJ5_append_c97b9_53 rfl ?_
    exact G_aretA (FieldType.object "java/lang/AbstractStringBuilder") dr_cJ5_append_c97b9_54 rfl (by first | exact Or.inl ⟨_, rfl⟩ | exact Or.inr ⟨_, rfl⟩) (Or.inr ⟨_, rfl⟩) (Nat.le_of_ble_eq_true rfl) (Nat.le_of_ble_eq_true rfl) (Or.inl ⟨F674618, z674585, f674610, rfl, rfl, hfr674623, he674622, he674621, (Nat.le_of_ble_eq_true rfl), (Nat.le_of_ble_eq_true rfl), ⟨by omega, by omega⟩, bf674610, (by have qa0 : Int32.toInt 0 = 0 := (by decide); omega), (by have qa0 : Int32.toInt 0 = 0 := (by decide); omega), (by have qa0 : Int32.toInt 0 = 0 := (by decide); omega), (by have qa0 : Int32.toInt 0 = 0 := (by decide); omega), (by have qa0 : Int32.toInt 0 = 0 := (by decide); omega), (by have qa0 : Int32.toInt 0 = 0 := (by decide); omega), (by have qa0 : Int32.toInt 0 = 0 := (by decide); omega)⟩)
  · obtain ⟨P674633, F674634, q674624, n674625, f674626, rfl, rfl, hsb674635, hfr674636, he674637, he674638, hm674639, hq674640, hdc, hds, bf674626, x674627, x674628, x674629, x674630, x674631, x674632⟩ := hp674592
    have hm674641 : q674566 ∈ P674633 := hsb674635 q674566 hmq674566
    have hm674642 : q674567 ∈ P674633 := hsb674635 q674567 hmq674567
    have hq674643 : q674624 ∉ P674564 := fun z => hq674640 ((rSub_rf (P := P674564)) q674624 z)
    have hsb674644 : rSub P674564 P674633 := rSub_tr (rSub_rf (P := P674564)) hsb674635
    have he674645 : F674634 q674567 = .inl (I .byte, n674572, .inl f674571) := (hfr674636 q674567 hmq674567 (nm_c (rn_ao heq674567 heq674566) nm_n)).trans heq674567
    have hfr674646 : rFr [q674566] P674564 F674565 F674634 := rFr_call (rSub_rf (P := P674564)) (rFr_rf (W := []) (P := P674564) (F := F674565)) hfr674636 (fun b hb hn => ⟨nm_n, (nm_c (fun e => hn (e ▸ List.mem_cons_self)) nm_n)⟩)
    change G _ _ _ _ _ _ _ _ _ _ _
    refine G_widen (cs' := (min 1 (n674625 - n674572))) (sl' := 2 * (n674625 - n674572)) (by omega) (by omega) ?_
    refine G_aload_n 2 dr_cJ5_append_c97b9_17 rfl ?_
    refine Gw_callVB (As := []) (gV_ok D I) (cp_655818_AbstractStringBuilder_isLatin1 l hl0 D I P674633 F674634 q674566 q674624 p674569 p674570 f674626 n674625 hm674641 hm674639 he674637 he674638 bp674569 bp674570 bf674626 (by have qa0 : Int32.toInt 0 = 0 := (by decide); omega)) dr_cJ5_append_c97b9_18 ⟨wr_8_33, wr_1_19, wr_8_37, by decide, rfl, (Nat.le_of_ble_eq_true rfl), (Nat.le_of_ble_eq_true rfl)⟩ wr_8_34 wr_8_36 hm674641 he674637 rfl (show (min 1 (n674625 - n674572)) + 0 ≤ 1 by first | omega | decide) (show 2 * (n674625 - n674572) + 0 ≤ (4 * n674572 + 64) by first | omega | decide) (Nat.le_of_ble_eq_true rfl) (fun r674650 w674651 dc674647 ds674648 hp674649 => ?_) (fun _ _ _ _ _ z => z.elim)
    obtain ⟨rfl, rfl, hdc, hds⟩ := hp674649
    change G _ _ _ _ _ _ _ (.int 1 :: _) _ _ _
    refine G_widen (cs' := (min 1 (n674625 - n674572)) + 0) (sl' := 2 * (n674625 - n674572) + 0) (by omega) (by omega) ?_
    refine G_if_eq 37 dr_cJ5_append_c97b9_21 (by decide +kernel) (fun hc => absurd hc (by decide)) (fun _ => ?_)
    refine G_iload_n 3 dr_cJ5_append_c97b9_24 rfl ?_
    refine G_iload_n 0 dr_cJ5_append_c97b9_25 rfl ?_
    refine G_aload_n 2 dr_cJ5_append_c97b9_26 rfl ?_
    refine Gp_get 0 hm674641 he674637 dr_cJ5_append_c97b9_27 (gk_J4 D I) (Nat.le_of_ble_eq_true rfl) wr_7_60 rfl ?_
    refine Gw_callS (As := [.int p674568, .int z674585, .ref q674624]) (gV_ok D I) (cp_664855_Integer_getChars l hl0 D I P674633 F674634 q674624 p674568 z674585 f674626 n674625 hm674639 he674638 ⟨by omega, by omega⟩ bf674626 (by have qa0 : Int32.toInt 0 = 0 := (by decide); omega) (by have q10 : Int32.toInt 10 = 10 := (by decide); have q11 : Int32.toInt 11 = 11 := (by decide); first | exact dgS_up (by omega) (by omega) x674583 (by omega)) (by have qa0 : Int32.toInt 0 = 0 := (by decide); omega)) dr_cJ5_append_c97b9_30 ⟨wr_8_115, wr_1_35, wr_8_117, by decide, rfl, (Nat.le_of_ble_eq_true rfl), (Nat.le_of_ble_eq_true rfl)⟩ wr_8_116 (show (min 1 (n674625 - n674572)) + 0 + 0 ≤ 1 by first | omega | decide) (show 2 * (n674625 - n674572) + 0 + 0 ≤ (4 * n674572 + 64) by first | omega | decide) (Nat.le_of_ble_eq_true rfl) (fun r674655 w674656 dc674652 ds674653 hp674654 => ?_) (fun _ _ _ _ _ z => z.elim)
    obtain ⟨F674660, o674657, f674658, rfl, rfl, hfr674662, he674663, hdc, hds, bo674657, bf674658, ht674659⟩ := hp674654
    have he674664 : F674660 q674567 = .inl (I .byte, n674572, .inl f674571) := (hfr674662 q674567 hm674642 (nm_c (fun h => hq674643 (h ▸ hmq674567)) nm_n)).trans he674645
    have he674665 : F674660 q674566 = .inr (1, [.ref q674624, .int 0, .int p674569, .int p674570]) := (hfr674662 q674566 hm674641 (nm_c (fun h => hq674643 (h ▸ hmq674566)) nm_n)).trans he674637
    have hfr674666 : rFr [q674566] P674564 F674565 F674660 := rFr_call hsb674644 hfr674646 hfr674662 (fun b hb hn => ⟨(nm_c (fun e => hn (e ▸ List.mem_cons_self)) nm_n), (nm_c (fun e => hq674643 (e ▸ hb)) nm_n)⟩)
    change G _ _ _ _ _ _ _ (.int o674657 :: _) _ _ _
    refine G_widen (cs' := (min 1 (n674625 - n674572)) + 0 + 0) (sl' := 2 * (n674625 - n674572) + 0 + 0) (by omega) (by omega) ?_
    refine G_pop dr_cJ5_append_c97b9_33 rfl ?_
    refine G_goto 48 dr_cJ5_append_c97b9_34 (by decide +kernel) ?_
    refine G_aload_n 2 dr_cJ5_append_c97b9_48 rfl ?_
    refine G_iload_n 0 dr_cJ5_append_c97b9_49 rfl ?_
    refine Gp_put 3 hm674641 he674665 dr_cJ5_append_c97b9_50 (gk_J4 D I) (Nat.le_of_ble_eq_true rfl) wr_7_64 rfl rfl rfl (Nat.le_of_ble_eq_true rfl) (fun F674667 e674668 n674669 => ?_)
    have he674670 : F674667 q674567 = .inl (I .byte, n674572, .inl f674571) := (n674669 q674567 (rn_ao he674664 he674665)).trans he674664
    have he674671 : F674667 q674624 = .inl (I .byte, n674625, .inl f674658) := (n674669 q674624 (fun h => hq674643 (h ▸ hmq674566))).trans he674663
    have he674672 : F674667 q674566 = .inr (1, [.ref q674624, .int 0, .int p674569, .int z674585]) := e674668
    have hfr674673 : rFr [q674566] P674564 F674565 F674667 := rFr_put' List.mem_cons_self hfr674666 n674669
    refine G_aload_n 2 dr_cJ5_append_c97b9_53 rfl ?_
    exact G_aretA (FieldType.object "java/lang/AbstractStringBuilder") dr_cJ5_append_c97b9_54 rfl (by first | exact Or.inl ⟨_, rfl⟩ | exact Or.inr ⟨_, rfl⟩) (Or.inr ⟨_, rfl⟩) (show (min 1 (n674625 - n674572)) + 0 + 0 ≤ 1 by omega) (show 2 * (n674625 - n674572) + 0 + 0 ≤ (4 * n674572 + 64) by omega) (Or.inr (⟨P674633, F674667, z674585, q674624, n674625, f674658, rfl, rfl, hsb674644, hfr674673, he674672, he674671, hm674639, hq674643, (by omega), (by omega), ⟨by omega, by omega⟩, bf674658, (by have qa0 : Int32.toInt 0 = 0 := (by decide); omega), (by have qa0 : Int32.toInt 0 = 0 := (by decide); omega), (by have qa0 : Int32.toInt 0 = 0 := (by decide); omega), (by have qa0 : Int32.toInt 0 = 0 := (by decide); omega), (by have qa0 : Int32.toInt 0 = 0 := (by decide); omega), (by have qa0 : Int32.toInt 0 = 0 := (by decide); omega), (by have qa0 : Int32.toInt 0 = 0 := (by decide); omega)⟩))
