theorem dr_cX17_input_30 : decode cX17_input 30 = .ok (.iload_n 2, 1) := by decide +kernel
theorem dr_cX17_input_31 : decode cX17_input 31 = .ok (.iconst 4, 1) := by decide +kernel
theorem dr_cX17_input_32 : decode cX17_input 32 = .ok (.if_icmp .ge 39, 3) := by decide +kernel
theorem dr_cX17_input_35 : decode cX17_input 35 = .ok (.aload_n 0, 1) := by decide +kernel
theorem dr_cX17_input_36 : decode cX17_input 36 = .ok (.getfield 303, 3) := by decide +kernel
theorem dr_cX17_input_39 : decode cX17_input 39 = .ok (.iload_n 1, 1) := by decide +kernel
theorem dr_cX17_input_40 : decode cX17_input 40 = .ok (.aload_n 0, 1) := by decide +kernel
theorem dr_cX17_input_41 : decode cX17_input 41 = .ok (.getfield 303, 3) := by decide +kernel
theorem dr_cX17_input_44 : decode cX17_input 44 = .ok (.iload_n 1, 1) := by decide +kernel
theorem dr_cX17_input_45 : decode cX17_input 45 = .ok (.iaload, 1) := by decide +kernel
theorem dr_cX17_input_46 : decode cX17_input 46 = .ok (.bipush 8, 2) := by decide +kernel
theorem dr_cX17_input_48 : decode cX17_input 48 = .ok (.ishl, 1) := by decide +kernel
theorem dr_cX17_input_49 : decode cX17_input 49 = .ok (.aload_n 0, 1) := by decide +kernel
theorem dr_cX17_input_50 : decode cX17_input 50 = .ok (.getfield 374, 3) := by decide +kernel
theorem dr_cX17_input_53 : decode cX17_input 53 = .ok (.iconst 4, 1) := by decide +kernel
theorem dr_cX17_input_54 : decode cX17_input 54 = .ok (.iload_n 1, 1) := by decide +kernel
theorem dr_cX17_input_55 : decode cX17_input 55 = .ok (.imul, 1) := by decide +kernel
theorem dr_cX17_input_56 : decode cX17_input 56 = .ok (.iload_n 2, 1) := by decide +kernel
theorem dr_cX17_input_57 : decode cX17_input 57 = .ok (.iadd, 1) := by decide +kernel
theorem dr_cX17_input_58 : decode cX17_input 58 = .ok (.baload, 1) := by decide +kernel
theorem dr_cX17_input_59 : decode cX17_input 59 = .ok (.sipush 255, 3) := by decide +kernel
theorem dr_cX17_input_62 : decode cX17_input 62 = .ok (.iand, 1) := by decide +kernel
theorem dr_cX17_input_63 : decode cX17_input 63 = .ok (.ior, 1) := by decide +kernel
theorem dr_cX17_input_64 : decode cX17_input 64 = .ok (.iastore, 1) := by decide +kernel
theorem dr_cX17_input_65 : decode cX17_input 65 = .ok (.iinc 2 1, 3) := by decide +kernel
theorem dr_cX17_input_68 : decode cX17_input 68 = .ok (.goto (-38), 3) := by decide +kernel
theorem dr_cX17_input_19 : decode cX17_input 19 = .ok (.iload_n 1, 1) := by decide +kernel
theorem dr_cX17_input_20 : decode cX17_input 20 = .ok (.aload_n 0, 1) := by decide +kernel
theorem dr_cX17_input_21 : decode cX17_input 21 = .ok (.getfield 303, 3) := by decide +kernel
theorem dr_cX17_input_24 : decode cX17_input 24 = .ok (.arraylength, 1) := by decide +kernel
theorem dr_cX17_input_25 : decode cX17_input 25 = .ok (.if_icmp .ge 52, 3) := by decide +kernel
theorem dr_cX17_input_28 : decode cX17_input 28 = .ok (.iconst 0, 1) := by decide +kernel
theorem dr_cX17_input_29 : decode cX17_input 29 = .ok (.istore_n 2, 1) := by decide +kernel
theorem dr_cX17_input_71 : decode cX17_input 71 = .ok (.iinc 1 1, 3) := by decide +kernel
theorem dr_cX17_input_74 : decode cX17_input 74 = .ok (.goto (-55), 3) := by decide +kernel
theorem dr_cX17_input_0 : decode cX17_input 0 = .ok (.aload_n 0, 1) := by decide +kernel
theorem dr_cX17_input_1 : decode cX17_input 1 = .ok (.iconst 0, 1) := by decide +kernel
theorem dr_cX17_input_2 : decode cX17_input 2 = .ok (.putfield 380, 3) := by decide +kernel
theorem dr_cX17_input_5 : decode cX17_input 5 = .ok (.aload_n 0, 1) := by decide +kernel
theorem dr_cX17_input_6 : decode cX17_input 6 = .ok (.aload_n 0, 1) := by decide +kernel
theorem dr_cX17_input_7 : decode cX17_input 7 = .ok (.getfield 383, 3) := by decide +kernel
theorem dr_cX17_input_10 : decode cX17_input 10 = .ok (.iconst 4, 1) := by decide +kernel
theorem dr_cX17_input_11 : decode cX17_input 11 = .ok (.idiv, 1) := by decide +kernel
theorem dr_cX17_input_12 : decode cX17_input 12 = .ok (.newarray .int, 2) := by decide +kernel
theorem dr_cX17_input_14 : decode cX17_input 14 = .ok (.putfield 303, 3) := by decide +kernel
theorem dr_cX17_input_17 : decode cX17_input 17 = .ok (.iconst 0, 1) := by decide +kernel
theorem dr_cX17_input_18 : decode cX17_input 18 = .ok (.istore_n 1, 1) := by decide +kernel
theorem dr_cX17_input_77 : decode cX17_input 77 = .ok (.aload_n 0, 1) := by decide +kernel
theorem dr_cX17_input_78 : decode cX17_input 78 = .ok (.iconst 0, 1) := by decide +kernel
theorem dr_cX17_input_79 : decode cX17_input 79 = .ok (.putfield 383, 3) := by decide +kernel
theorem dr_cX17_input_82 : decode cX17_input 82 = .ok (.aload_n 0, 1) := by decide +kernel
theorem dr_cX17_input_83 : decode cX17_input 83 = .ok (.getfield 303, 3) := by decide +kernel
theorem dr_cX17_input_86 : decode cX17_input 86 = .ok (.arraylength, 1) := by decide +kernel
theorem dr_cX17_input_87 : decode cX17_input 87 = .ok (.ireturn, 1) := by decide +kernel
abbrev ky_inp : gKey := (cX17_input, 3, "SpillForgeModel", (some FieldType.int), [], "input", fun _ _ => True)
def inS (D : va_G) (I : FieldType → ClassId) (P0 : List Nat) (F0 : Nat → va_E) (γ0 el : Nat → Nat → Nat) (P : List Nat) (γ : Nat → Nat → Nat) (m A N : Nat) (e : va_E) (C : (Nat → Int32) → Prop) (F : Nat → va_E) : Prop := rSk 0 [] [10, 98] D I P0 F0 γ0 el P F γ el ∧ F m = e ∧ A ∈ P ∧ γ 0 A = 98 ∧ ∃ f : Nat → Int32, F A = .inl (I .int, N, .inl f) ∧ C f
/-- q ints are done, and j bytes of the next -/
def iC9 (t : Nat → Int32) (i j : Nat) (f : Nat → Int32) : Prop := (∀ q, q < i → f q = i4 t q 4) ∧ f i = i4 t i j ∧ ∀ q, i < q → f q = 0
theorem inS_a {D : va_G} {I : FieldType → ClassId} {P0 P : List Nat} {F0 F F1 : Nat → va_E} {γ0 γ el : Nat → Nat → Nat} {m A N : Nat} {e : va_E} {C C2 : (Nat → Int32) → Prop} {f1 : Nat → Int32} (h : inS D I P0 F0 γ0 el P γ m A N e C F) (hm : γ 0 m = 10) (hN : N ≤ 2048) (e1 : F1 A = .inl (I .int, N, .inl f1)) (n : ∀ b, b ≠ A → F1 b = F b) (hC : C2 f1) : inS D I P0 F0 γ0 el P γ m A N e C2 F1 := by
  obtain ⟨h1, h2, h3, h4, -⟩ := h
  have hmA : m ≠ A := fun q => by rw [q, h4] at hm; cases hm
  exact ⟨rSk_put h1 (RS_set h1.1 n (show rKd γ A 98 from h4) (by decide) ⟨N, f1, e1, by omega⟩) n (show rKd γ A 98 from h4) (by decide) (fun _ z => nomatch z), (n m hmA).trans h2, h3, h4, f1, e1, hC⟩
set_option maxRecDepth 100000 in
set_option maxHeartbeats 4000000 in
theorem in_l2 {l : Launch} {D : va_G} {I : FieldType → ClassId} {P0 P : List Nat} {F0 : Nat → va_E} {γ0 γ el : Nat → Nat → Nat} {m A N cs sl mc ms : Nat} {Qf : gFin} {r35 : Nat} {v9 v10 v11 v12 v13 v14 v23 v24 v25 v26 v27 v30 v32 v33 v34 i : Int32} (hm : γ 0 m = 10) (t25 : γ 0 (γ 9 31) = 99) (hN : N ≤ 2048) {ft : Nat → Int32} (htp : F0 (γ0 9 31) = .inl (I .byte, 8192, .inl ft)) (t250 : γ0 0 (γ0 9 31) = 99) (hi0 : 0 ≤ i.toInt) (hiN : i.toInt < (N : Int))
    (kk : ∀ (F : Nat → va_E) (jj : Int32), inS D I P0 F0 γ0 el P γ m A N (mdE γ A r35 v9 v10 v11 v12 v13 v14 v23 v24 v25 v26 v27 v30 v32 v33 v34) (iC9 ft i.toInt.toNat 4) F → G (gV D I) l (gRm 1 20 mc ms) Qf ky_inp 71 [(2, .int jj), (1, .int i), (0, .ref m)] [] (va_pl P F) cs sl) :
    ∀ (μ : Nat) (F : Nat → va_E) (jj : Int32), 4 - jj.toInt < (μ : Int) → 0 ≤ jj.toInt → jj.toInt ≤ 4 → inS D I P0 F0 γ0 el P γ m A N (mdE γ A r35 v9 v10 v11 v12 v13 v14 v23 v24 v25 v26 v27 v30 v32 v33 v34) (iC9 ft i.toInt.toNat jj.toInt.toNat) F →
    G (gV D I) l (gRm 1 20 mc ms) Qf ky_inp 30 [(2, .int jj), (1, .int i), (0, .ref m)] [] (va_pl P F) cs sl := by
  intro μ
  induction μ with
  | zero => intro F jj h h0 h4 _; exact absurd h (by omega)
  | succ μ ih =>
  intro F jj hμ h0 h4 hS
  obtain ⟨hk, he, mA, kA, fA, eA, hC⟩ := id hS
  have mm : m ∈ P := hk.1.1 m (by omega)
  have f1 : F (γ 9 31) = .inl (I .byte, 8192, .inl ft) := by rw [rSk_9 hk]; exact (rSk_F hk (show rKd γ0 _ 99 from t250) (by decide) (by decide)).trans htp
  have mt : γ 9 31 ∈ P := hk.1.1 _ (by omega)
  refine G_iload_n 0 dr_cX17_input_30 rfl ?_
  refine G_iconst 4 dr_cX17_input_31 (by decide +kernel) ?_
  have z4 : Int32.toInt 4 = 4 := by decide
  refine G_icmp_ge 71 dr_cX17_input_32 (by decide +kernel) (fun hc => kk F jj (by have q := Int32.le_iff_toInt_le.mp hc; rw [z4] at q; rw [show jj.toInt.toNat = 4 by omega] at hS; exact hS)) (fun hc => ?_)
  have hlt : jj.toInt < 4 := gj_nle hc rfl
  refine G_aload_n 2 dr_cX17_input_35 rfl ?_
  refine Gp_get 28 mm he dr_cX17_input_36 (gk_X17 D I) (Nat.le_of_ble_eq_true rfl) wr_7_102 rfl ?_
  refine G_iload_n 1 dr_cX17_input_39 rfl ?_
  refine G_aload_n 2 dr_cX17_input_40 rfl ?_
  refine Gp_get 28 mm he dr_cX17_input_41 (gk_X17 D I) (Nat.le_of_ble_eq_true rfl) wr_7_102 rfl ?_
  refine G_iload_n 1 dr_cX17_input_44 rfl ?_
  refine Gp_iald 0 mA eA dr_cX17_input_45 rfl (gB_inr hi0 hiN) (G_nam fun z1 hz1 => ?_)
  refine G_bipush 8 dr_cX17_input_46 (by decide +kernel) ?_
  refine G_ishl dr_cX17_input_48 (G_nam fun z2 hz2 => ?_)
  refine G_aload_n 2 dr_cX17_input_49 rfl ?_
  refine Gp_get 31 mm he dr_cX17_input_50 (gk_X17 D I) (Nat.le_of_ble_eq_true rfl) wr_7_105 rfl ?_
  refine G_iconst 4 dr_cX17_input_53 (by decide +kernel) ?_
  refine G_iload_n 1 dr_cX17_input_54 rfl ?_
  refine G_imul dr_cX17_input_55 (G_nam fun z3 hz3 => ?_)
  have bi : gB i 0 2048 := ⟨hi0, by omega⟩
  have e3 : z3.toInt = 4 * i.toInt := by rw [gI_mul hz3 (gBl z4) bi (by decide) (by decide) (by decide), z4]
  refine G_iload_n 0 dr_cX17_input_56 rfl ?_
  refine G_iadd dr_cX17_input_57 (G_nam fun z5 hz5 => ?_)
  have e5 : z5.toInt = z3.toInt + jj.toInt := gI_add hz5 (⟨by omega, by omega⟩ : gB z3 0 8192) (⟨h0, h4⟩ : gB jj 0 4) (by decide) (by decide)
  refine Gp_bald 1 mt f1 dr_cX17_input_58 rfl (gB_inr (by omega) (by omega)) (G_nam fun z6 hz6 => ?_)
  refine G_sipush 255 dr_cX17_input_59 (by decide +kernel) ?_
  refine G_iand dr_cX17_input_62 (G_nam fun z7 hz7 => ?_)
  refine G_ior dr_cX17_input_63 (G_nam fun z8 hz8 => ?_)
  refine Gp_iast 0 mA eA dr_cX17_input_64 rfl (gB_inr hi0 hiN) (fun F1 e1 n1 => ?_)
  obtain ⟨j1, hj1⟩ : ∃ z, z = jj + 1 := ⟨_, rfl⟩
  have ej : j1.toInt = jj.toInt + 1 := by rw [gI_add hj1 (⟨h0, h4⟩ : gB jj 0 4) (gBl (show Int32.toInt 1 = 1 by decide)) (by decide) (by decide), show Int32.toInt 1 = 1 from by decide]
  have ni : i.toNatClampNeg = i.toInt.toNat := nnE (show i.toInt = ((i.toInt.toNat : Nat) : Int) by omega)
  have n5 : z5.toNatClampNeg = 4 * i.toInt.toNat + jj.toInt.toNat := nnE (show z5.toInt = ((4 * i.toInt.toNat + jj.toInt.toNat : Nat) : Int) by omega)
  obtain ⟨q1, q2, q3⟩ := hC
  have v8 : z8 = i4 ft i.toInt.toNat (jj.toInt.toNat + 1) := by
    rw [hz8, hz7, hz2, hz1, hz6, n5, ni, q2]
    rfl
  have hS1 : inS D I P0 F0 γ0 el P γ m A N (mdE γ A r35 v9 v10 v11 v12 v13 v14 v23 v24 v25 v26 v27 v30 v32 v33 v34) (iC9 ft i.toInt.toNat j1.toInt.toNat) F1 := inS_a hS hm hN e1 n1 (by
    rw [show j1.toInt.toNat = jj.toInt.toNat + 1 by omega]
    refine ⟨fun q hq => ?_, ?_, fun q hq => ?_⟩
    · rw [ni, updN (by omega)]; exact q1 q hq
    · rw [ni, updE]; exact v8
    · rw [ni, updN (by omega)]; exact q3 q hq)
  refine G_iinc (L' := [(2, .int j1), (1, .int i), (0, .ref m)]) j1 0 dr_cX17_input_65 rfl (by rw [hj1]; rfl) (Nat.le_of_ble_eq_true rfl) rfl ?_
  refine G_goto 30 dr_cX17_input_68 (by decide +kernel) ?_
  exact ih F1 j1 (by omega) (by omega) (by omega) hS1
set_option maxRecDepth 100000 in
set_option maxHeartbeats 4000000 in
theorem in_l1 {l : Launch} {D : va_G} {I : FieldType → ClassId} {P0 P : List Nat} {F0 : Nat → va_E} {γ0 γ el : Nat → Nat → Nat} {m A N cs sl mc ms : Nat} {Qf : gFin} {r35 : Nat} {v9 v10 v11 v12 v13 v14 v23 v24 v25 v26 v27 v30 v32 v33 v34 : Int32} (hm : γ 0 m = 10) (t25 : γ 0 (γ 9 31) = 99) (hN : N ≤ 2048) {ft : Nat → Int32} (htp : F0 (γ0 9 31) = .inl (I .byte, 8192, .inl ft)) (t250 : γ0 0 (γ0 9 31) = 99)
    (kk : ∀ (F : Nat → va_E) (i : Int32), inS D I P0 F0 γ0 el P γ m A N (mdE γ A r35 v9 v10 v11 v12 v13 v14 v23 v24 v25 v26 v27 v30 v32 v33 v34) (iC9 ft N 0) F → G (gV D I) l (gRm 1 20 mc ms) Qf ky_inp 77 [(1, .int i), (0, .ref m)] [] (va_pl P F) cs sl) :
    ∀ (μ : Nat) (F : Nat → va_E) (i : Int32), (N : Int) - i.toInt < (μ : Int) → 0 ≤ i.toInt → i.toInt ≤ (N : Int) → inS D I P0 F0 γ0 el P γ m A N (mdE γ A r35 v9 v10 v11 v12 v13 v14 v23 v24 v25 v26 v27 v30 v32 v33 v34) (iC9 ft i.toInt.toNat 0) F →
    G (gV D I) l (gRm 1 20 mc ms) Qf ky_inp 19 [(1, .int i), (0, .ref m)] [] (va_pl P F) cs sl := by
  intro μ
  induction μ with
  | zero => intro F i h h0 h4 _; exact absurd h (by omega)
  | succ μ ih =>
  intro F i hμ h0 h4 hS
  obtain ⟨hk, he, mA, kA, fA, eA, hC⟩ := id hS
  have mm : m ∈ P := hk.1.1 m (by omega)
  refine G_iload_n 0 dr_cX17_input_19 rfl ?_
  refine G_aload_n 1 dr_cX17_input_20 rfl ?_
  refine Gp_get 28 mm he dr_cX17_input_21 (gk_X17 D I) (Nat.le_of_ble_eq_true rfl) wr_7_102 rfl ?_
  refine Gp_alen (Int32.ofNat N) 0 mA eA dr_cX17_input_24 rfl rfl (G_nam fun z hz => ?_)
  have ez : z.toInt = (N : Nat) := gI_ofM hz (by omega)
  refine G_icmp_ge 77 dr_cX17_input_25 (by decide +kernel) (fun hc => kk F i (by have q := Int32.le_iff_toInt_le.mp hc; rw [show i.toInt.toNat = N by omega] at hS; exact hS)) (fun hc => ?_)
  have hlt : i.toInt < z.toInt := gj_nle hc rfl
  refine G_iconst 0 dr_cX17_input_28 (by decide +kernel) ?_
  refine G_istore_n (L' := [(2, .int 0), (1, .int i), (0, .ref m)]) dr_cX17_input_29 (Nat.le_of_ble_eq_true rfl) rfl ?_
  have z0 : Int32.toInt 0 = 0 := by decide
  refine in_l2 hm t25 hN htp t250 h0 (by omega) (fun F1 jj hS1 => ?_) 5 F 0 (by rw [z0]; decide) (by rw [z0]; decide) (by rw [z0]; decide) hS
  obtain ⟨i1, hi1⟩ : ∃ z, z = i + 1 := ⟨_, rfl⟩
  have ei : i1.toInt = i.toInt + 1 := by rw [gI_add hi1 (⟨h0, by omega⟩ : gB i 0 2048) (gBl (show Int32.toInt 1 = 1 by decide)) (by decide) (by decide), show Int32.toInt 1 = 1 from by decide]
  refine G_iinc (L' := [(1, .int i1), (2, .int jj), (0, .ref m)]) i1 1 dr_cX17_input_71 rfl (by rw [hi1]; rfl) (Nat.le_of_ble_eq_true rfl) rfl ?_
  refine G_goto 19 dr_cX17_input_74 (by decide +kernel) ?_
  refine G_lv [0, 2] rfl ?_
  obtain ⟨u1, u2, u3, u4, u5, u6, u7⟩ := hS1
  exact ih F1 i1 (by omega) (by omega) (by omega) ⟨u1, u2, u3, u4, u5, u6, by
    rw [show i1.toInt.toNat = i.toInt.toNat + 1 by omega]
    refine ⟨fun q hq => ?_, u7.2.2 _ (by omega), fun q hq => u7.2.2 q (by omega)⟩
    by_cases e : q = i.toInt.toNat
    · rw [e]; exact u7.2.1
    · exact u7.1 q (by omega)⟩
set_option maxRecDepth 100000 in
set_option maxHeartbeats 4000000 in
theorem cp_input (l : Launch) (hl0 : l.stackTraces = false) (D : va_G) (I : FieldType → ClassId) {P : List Nat} {F : Nat → va_E} {γ el : Nat → Nat → Nat} {m : Nat} (hT : RS D I P F γ el) (hm : γ 0 m = 10) :
    CtA (gV D I) l yX17_input cX17_input 3 (some FieldType.int) 1 20 1 2048 [.ref m] (va_pl P F) (inP D I P F γ el m) gNA := by
  refine CtA_of hl0 (by decide) (Nat.le_of_ble_eq_true rfl) ?_
  obtain ⟨r28, r35, v9, v10, v11, v12, v13, v14, v23, v24, v25, v26, v27, v30, v32, v33, v34, he, hM1, hK, hM2⟩ := rk10_m (show rk_10 γ (F m) from RS_o hT hm)
  have hM1' := hM1
  obtain ⟨q9, q10, q11, q14, q25, q26, q27, q32, q34⟩ := hM1
  have mm : m ∈ P := hT.1 m (by omega)
  have e32 : fI (F m) 32 = v32 := by rw [he]; rfl
  have e10 : fI (F m) 10 = v10 := by rw [he]; rfl
  have e9 : fI (F m) 9 = v9 := by rw [he]; rfl
  have t25 : γ 0 (γ 9 31) = 99 := hK.2.2.2.2.2.2.2.2.2.2.2.2.2.2.2.2.2.2.2.2.1
  refine G_aload_n 0 dr_cX17_input_0 rfl ?_
  refine G_iconst 0 dr_cX17_input_1 (by decide +kernel) ?_
  refine Gp_put 30 mm he dr_cX17_input_2 (gk_X17 D I) (Nat.le_of_ble_eq_true rfl) wr_7_104 rfl rfl rfl (Nat.le_of_ble_eq_true rfl) (fun F1 e1 n1 => ?_)
  have e1' : F1 m = mdE γ r28 r35 v9 v10 v11 v12 v13 v14 v23 v24 v25 v26 v27 0 v32 v33 v34 := e1
  have hT1 := RS_md hT hm n1 e1' hM1' hK hM2
  have hk1 := rSk_put (rSk_rf (f := 0) (K := []) (KF := [10, 98]) hT) hT1 n1 (show rKd γ m 10 from hm) (by decide) (fun _ z => nomatch z)
  refine G_aload_n 0 dr_cX17_input_5 rfl ?_
  refine G_aload_n 0 dr_cX17_input_6 rfl ?_
  refine Gp_get 32 mm e1' dr_cX17_input_7 (gk_X17 D I) (Nat.le_of_ble_eq_true rfl) wr_7_106 rfl ?_
  refine G_iconst 4 dr_cX17_input_10 (by decide +kernel) ?_
  refine G_idiv dr_cX17_input_11 (by decide) (G_nam fun z hz => ?_)
  have ez : z.toInt = v32.toInt / 4 := gI_div hz q32 (by decide) (by decide) (by decide)
  have q32a := q32.1
  have q32b := q32.2
  have hz0 : 0 ≤ z.toInt := by omega
  have hz1 : z.toInt ≤ 2048 := by omega
  refine G_newa 0 (z.toInt.toNat, .inl (fun _ => 0)) dr_cX17_input_12 rfl rfl (by intro C h; cases h) wr_1_95 (fun _ => ga_int _ _) (g_n0 (by omega)) rfl (show z.toInt.toNat * 4 ≤ 536870912 by omega) (show 0 + 1 ≤ 1 by decide) (show 0 + z.toInt.toNat ≤ 2048 by omega) (fun A => Gp_in (fun P2 F2 hq hP e2 n2 => ?_))
  have hs2 : rSub P P2 := rSub_new (rSub_rf (P := P)) hP
  have A0 : γ 0 A = 0 := RS_new hT hq
  have mA2 : A ∈ P2 := (hP A).mpr (Or.inr rfl)
  have hN : z.toInt.toNat ≤ 2048 := by omega
  have sk2 : rSk 0 [] [10, 98] D I P F1 γ el P2 F2 (gNw γ A 98) el := rSk_nw hT1 hq hs2 mA2 n2 ⟨z.toInt.toNat, fun _ => 0, e2, by omega⟩
  have hk2 := rSk_tr hk1 sk2 (fun _ z => nomatch z) (fun _ z => z) (fun _ z => nomatch z)
  have hmA : m ≠ A := fun e => by rw [e, A0] at hm; cases hm
  have hm2 : gNw γ A 98 0 m = 10 := (gNw_ne hmA).trans hm
  have g9 : gNw γ A 98 9 = γ 9 := gNw_j (by decide)
  have e2m : F2 m = mdE (gNw γ A 98) r28 r35 v9 v10 v11 v12 v13 v14 v23 v24 v25 v26 v27 0 v32 v33 v34 := (n2 m hmA).trans e1'
  have mm2 := hs2 m mm
  have kA : gNw γ A 98 0 A = 98 := if_pos ⟨rfl, rfl⟩
  have hM2' : rM2 (gNw γ A 98) v9 v10 v34 r35 := by
    unfold rM2
    rw [gNw_j (j := 6) (by decide), gNw_j (j := 23) (by decide), gNw_j (j := 12) (by decide)]
    exact hM2
  refine Gp_put 28 mm2 e2m dr_cX17_input_14 (gk_X17 D I) (Nat.le_of_ble_eq_true rfl) wr_7_102 rfl rfl rfl (Nat.le_of_ble_eq_true rfl) (fun F3 e3 n3 => ?_)
  have e3' : F3 m = mdE (gNw γ A 98) A r35 v9 v10 v11 v12 v13 v14 v23 v24 v25 v26 v27 0 v32 v33 v34 := e3
  have hK3 := mdK_nw A0 hK
  have hT3 := RS_md hk2.1 hm2 n3 e3' hM1' hK3 hM2'
  have hk3 := rSk_put hk2 hT3 n3 (show rKd (gNw γ A 98) m 10 from hm2) (by decide) (fun _ z => nomatch z)
  have t25' : gNw γ A 98 0 (gNw γ A 98 9 31) = 99 := hK3.2.2.2.2.2.2.2.2.2.2.2.2.2.2.2.2.2.2.2.2.1
  obtain ⟨ft, htp, -⟩ := show rk_99 I (F (γ 9 31)) from RS_o hT t25
  have hS3 : inS D I P F γ el P2 (gNw γ A 98) m A z.toInt.toNat (mdE (gNw γ A 98) A r35 v9 v10 v11 v12 v13 v14 v23 v24 v25 v26 v27 0 v32 v33 v34) (iC9 ft (Int32.toInt 0).toNat 0) F3 := ⟨hk3, e3', mA2, kA, fun _ => 0, (n3 A (Ne.symm hmA)).trans e2, fun q hq => absurd hq (by rw [show (Int32.toInt 0).toNat = 0 from by decide]; omega), rfl, fun _ _ => rfl⟩
  refine G_iconst 0 dr_cX17_input_17 (by decide +kernel) ?_
  refine G_istore_n (L' := [(1, .int 0), (0, .ref m)]) dr_cX17_input_18 (Nat.le_of_ble_eq_true rfl) rfl ?_
  have z0 : Int32.toInt 0 = 0 := by decide
  refine in_l1 hm2 t25' hN htp t25 (fun F4 i hS4 => ?_) (z.toInt.toNat + 1) F3 0 (by rw [z0]; omega) (by rw [z0]; decide) (by rw [z0]; omega) hS3
  obtain ⟨hk4, he4, -, -, fA, eA4, hC4⟩ := id hS4
  refine G_aload_n 1 dr_cX17_input_77 rfl ?_
  refine G_iconst 0 dr_cX17_input_78 (by decide +kernel) ?_
  refine Gp_put 32 mm2 he4 dr_cX17_input_79 (gk_X17 D I) (Nat.le_of_ble_eq_true rfl) wr_7_106 rfl rfl rfl (Nat.le_of_ble_eq_true rfl) (fun F5 e5 n5 => ?_)
  have e5' : F5 m = mdE (gNw γ A 98) A r35 v9 v10 v11 v12 v13 v14 v23 v24 v25 v26 v27 0 0 v33 v34 := e5
  have hT5 := RS_md hk4.1 hm2 n5 e5' ⟨q9, q10, q11, q14, q25, q26, q27, ⟨by decide, by decide⟩, q34⟩ hK3 hM2'
  have hk5 := rSk_put hk4 hT5 n5 (show rKd (gNw γ A 98) m 10 from hm2) (by decide) (fun _ z => nomatch z)
  refine G_aload_n 1 dr_cX17_input_82 rfl ?_
  refine Gp_get 28 mm2 e5' dr_cX17_input_83 (gk_X17 D I) (Nat.le_of_ble_eq_true rfl) wr_7_102 rfl ?_
  refine Gp_alen (Int32.ofNat z.toInt.toNat) 0 mA2 ((n5 A (Ne.symm hmA)).trans eA4) dr_cX17_input_86 rfl rfl (G_nam fun x hx => ?_)
  exact G_iretA dr_cX17_input_87 rfl (show 0 + 1 ≤ 1 by decide) (show 0 + z.toInt.toNat ≤ 2048 by omega) ⟨P2, F5, gNw γ A 98, x, rfl, rfl, hk5, fun j hj => gNw_j hj, by rw [e5', e9]; rfl, by rw [e5', e10]; rfl, by rw [e5']; rfl, by omega, by rw [e32]; omega, by rw [e5', he]; rfl, by have ex := gI_ofM hx (by omega); rw [ex, e32]; omega, by rw [e5', he]; rfl, by rw [e5', he]; rfl, ft, htp, fA, by rw [e5']; exact ((n5 A (Ne.symm hmA)).trans eA4).trans (by rw [e32, ← ez]), fun q hq => hC4.1 q (by rw [e32, ← ez] at hq; exact hq)⟩
/- tr_RAbstractStringBuilder_ensureCapacityInternal3:  -/
def tr_RAbstractStringBuilder_ensureCapacityInternal3 (a1 : Int32) (a0_value_n : Nat) : Prop := ∀ R : Prop,
  (∀ (x1 : Int32) (x2 : Int32) (x3 : Int32), x1.toInt = (a0_value_n : Nat) → x2.toInt = x1.toInt / 1 → x3.toInt = a1.toInt - x2.toInt → x3.toInt ≤ 0 → R) →
  R
/- tr_RAbstractStringBuilder_ensureCapacityInternal3_g2: a.0.value.#, a.0.value.[] -/
def tr_RAbstractStringBuilder_ensureCapacityInternal3_g2 (a1 : Int32) (a0_value_v : Nat → Int32) (a0_value_n : Nat) (o1 : Nat) (o2 : Nat → Int32) : Prop := ∀ R : (Nat) → (Nat → Int32) → Prop,
  (∀ (x1 : Int32) (x2 : Int32) (x3 : Int32) (x4 : Int32) (x5 : Int32) (x6 : Nat → Int32), x1.toInt = (a0_value_n : Nat) → x2.toInt = x1.toInt / 1 → x3.toInt = a1.toInt - x2.toInt → 0 < x3.toInt → gB x4 1 33554432 → tr_RAbstractStringBuilder_newCapacity a1 a0_value_n x4 → x5.toInt = x4.toInt * 1 → tr_RArrays_copyOf3 x5 a0_value_v a0_value_n x6 → R x5.toInt.toNat x6) →
  R o1 o2
abbrev ky_677241_AbstractStringBuilder_ensureCapacityInternal : gKey := (cJ5_ensureCapacityInternal_d00df, 3, "java/lang/AbstractStringBuilder", none, [], "ensureCapacityInternal", fun _ _ => True)
def pp_677241_AbstractStringBuilder_ensureCapacityInternal (D : va_G) (I : FieldType → ClassId) (P677230 : List Nat) (F677231 : Nat → va_E) (q677232 : Nat) (q677233 : Nat) (p677234 : Int32) (p677235 : Int32) (p677236 : Int32) (f677237 : Nat → Int32) (n677238 : Nat) : Option Value → va_W → Nat → Nat → Prop := fun r w dc ds => (r = none ∧ w = va_pl P677230 F677231 ∧ dc ≤ 0 ∧ ds ≤ 0 ∧ p677234.toInt ≤ (n677238 : Int) ∧ (n677238 : Int) ≤ (n677238 : Int) ∧ ((n677238 : Int) = (n677238 : Int) ∨ (n677238 : Int) < p677234.toInt) ∧ ((n677238 : Int) ≤ 2 * (n677238 : Int) + 2 ∨ (n677238 : Int) ≤ p677234.toInt) ∧ ((n677238 : Int) = (n677238 : Int) ∨ (n677238 : Int) < p677234.toInt) ∧ ((n677238 : Int) = (n677238 : Int) ∨ 2 * (n677238 : Int) + 2 ≤ (n677238 : Int)) ∧ tr_RAbstractStringBuilder_ensureCapacityInternal3 p677234 n677238) ∨ (∃ (P677291 : List Nat) (F677292 : Nat → va_E) (q677288 : Nat) (n677289 : Nat) (f677290 : Nat → Int32), r = none ∧ w = va_pl P677291 F677292 ∧ rSub P677230 P677291 ∧ rFr [q677232] P677230 F677231 F677292 ∧ F677292 q677232 = .inr (1, [.ref q677288, .int 0, .int p677235, .int p677236]) ∧ F677292 q677288 = .inl (I .byte, n677289, .inl f677290) ∧ q677288 ∈ P677291 ∧ q677288 ∉ P677230 ∧ dc ≤ (min 1 (n677289 - n677238)) ∧ ds ≤ 2 * (n677289 - n677238) ∧ gF f677290 (-128) 127 ∧ p677234.toInt ≤ (n677289 : Int) ∧ (n677238 : Int) ≤ (n677289 : Int) ∧ ((n677289 : Int) = (n677238 : Int) ∨ (n677238 : Int) < p677234.toInt) ∧ ((n677289 : Int) ≤ 2 * (n677238 : Int) + 2 ∨ (n677289 : Int) ≤ p677234.toInt) ∧ ((n677289 : Int) = (n677238 : Int) ∨ (n677238 : Int) < p677234.toInt) ∧ ((n677289 : Int) = (n677238 : Int) ∨ 2 * (n677238 : Int) + 2 ≤ (n677289 : Int)) ∧ tr_RAbstractStringBuilder_ensureCapacityInternal3_g2 p677234 f677237 n677238 n677289 f677290)
set_option maxRecDepth 100000 in
set_option maxHeartbeats 4000000 in
theorem cp_677241_AbstractStringBuilder_ensureCapacityInternal (l : Launch) (hl0 : l.stackTraces = false) (D : va_G) (I : FieldType → ClassId) (P677230 : List Nat) (F677231 : Nat → va_E) (q677232 : Nat) (q677233 : Nat) (p677234 : Int32) (p677235 : Int32) (p677236 : Int32) (f677237 : Nat → Int32) (n677238 : Nat) (hmq677232 : q677232 ∈ P677230) (hmq677233 : q677233 ∈ P677230) (heq677232 : F677231 q677232 = .inr (1, [.ref q677233, .int 0, .int p677235, .int p677236])) (heq677233 : F677231 q677233 = .inl (I .byte, n677238, .inl f677237)) (bp677234 : gB p677234 0 8388608) (bp677235 : gB p677235 0 1) (bp677236 : gB p677236 0 16777216) (bf677237 : gF f677237 (-128) 127) (x677239 : (n677238 : Int) ≤ 8388608) (x677240 : ((n677238 : Int) ≤ 16777216)) : CtA (gV D I) l yJ5_ensureCapacityInternal_d00df cJ5_ensureCapacityInternal_d00df 3 none 3 62 1 (2 * n677238 + 2 + p677234.toInt.toNat) [.ref q677232, .int p677234] (va_pl P677230 F677231) (pp_677241_AbstractStringBuilder_ensureCapacityInternal D I P677230 F677231 q677232 q677233 p677234 p677235 p677236 f677237 n677238) gNA := by
  refine CtA_ofF hl0 (by decide +kernel) (Nat.le_of_ble_eq_true rfl) ?_
  refine G_aload_n 0 dr_cJ5_ensureCapacityInternal_d00df_0 rfl ?_
  refine Gp_get 0 hmq677232 heq677232 dr_cJ5_ensureCapacityInternal_d00df_1 (gk_J4 D I) (Nat.le_of_ble_eq_true rfl) wr_7_60 rfl ?_
  refine Gp_alen (Int32.ofNat n677238) 1 hmq677233 heq677233 dr_cJ5_ensureCapacityInternal_d00df_4 rfl rfl (G_nam fun z677242 hz677242 => ?_)
  have ez677242 : z677242.toInt = (n677238 : Nat) := gI_ofM hz677242 (by omega)
  have bz677242 : gB z677242 0 16777216 := ⟨by omega, by omega⟩
  refine G_aload_n 0 dr_cJ5_ensureCapacityInternal_d00df_5 rfl ?_
  refine Gp_get 1 hmq677232 heq677232 dr_cJ5_ensureCapacityInternal_d00df_6 (gk_J4 D I) (Nat.le_of_ble_eq_true rfl) wr_7_61 rfl ?_
  refine G_ishr dr_cJ5_ensureCapacityInternal_d00df_9 (G_nam fun z677243 hz677243 => ?_)
  have ez677243 : z677243.toInt = z677242.toInt / 1 := gI_shr (k := 0) hz677243 (by decide)
  have bz677243 : gB z677243 0 16777216 := ⟨by omega, by omega⟩
  refine G_istore_n (L' := [(2, .int z677243), (0, .ref q677232), (1, .int p677234)]) dr_cJ5_ensureCapacityInternal_d00df_10 (Nat.le_of_ble_eq_true rfl) rfl ?_
  refine G_iload_n 2 dr_cJ5_ensureCapacityInternal_d00df_11 rfl ?_
  refine G_iload_n 0 dr_cJ5_ensureCapacityInternal_d00df_12 rfl ?_
  refine G_isub dr_cJ5_ensureCapacityInternal_d00df_13 (G_nam fun z677244 hz677244 => ?_)
  have ez677244 : z677244.toInt = p677234.toInt - z677243.toInt := by rw [gI_sub hz677244 bp677234 bz677243 (by decide) (by decide)]
  have bz677244 : gB z677244 (-16777216) 8388608 := gB_sub (gI_sub hz677244 bp677234 bz677243 (by decide) (by decide)) bp677234 bz677243 (by decide) (by decide)
  refine G_if_le 38 dr_cJ5_ensureCapacityInternal_d00df_14 (by decide +kernel) (fun hc677245 => ?_) (fun hc677245 => ?_)
  · have r677246 : z677244.toInt ≤ 0 := gj_le hc677245 (show Int32.toInt 0 = 0 by decide)
    have bz677244' : gB z677244 (-16777216) 0 := ⟨by omega, by omega⟩
    exact G_vretA dr_cJ5_ensureCapacityInternal_d00df_38 rfl (Nat.le_of_ble_eq_true rfl) (Nat.le_of_ble_eq_true rfl) (Or.inl ⟨rfl, rfl, (Nat.le_of_ble_eq_true rfl), (Nat.le_of_ble_eq_true rfl), (by have qa0 : Int32.toInt 0 = 0 := (by decide); omega), (by have qa0 : Int32.toInt 0 = 0 := (by decide); omega), (by have qa0 : Int32.toInt 0 = 0 := (by decide); omega), (by have qa0 : Int32.toInt 0 = 0 := (by decide); omega), (by have qa0 : Int32.toInt 0 = 0 := (by decide); omega), (by have qa0 : Int32.toInt 0 = 0 := (by decide); omega), (fun R c1 => c1 z677242 z677243 z677244 ez677242 ez677243 ez677244 r677246)⟩)
  · have r677247 : 0 < z677244.toInt := gj_nle hc677245 (show Int32.toInt 0 = 0 by decide)
    have bz677244' : gB z677244 1 8388608 := ⟨by omega, by omega⟩
    refine G_aload_n 1 dr_cJ5_ensureCapacityInternal_d00df_17 rfl ?_
    refine G_aload_n 1 dr_cJ5_ensureCapacityInternal_d00df_18 rfl ?_
    refine Gp_get 0 hmq677232 heq677232 dr_cJ5_ensureCapacityInternal_d00df_19 (gk_J4 D I) (Nat.le_of_ble_eq_true rfl) wr_7_60 rfl ?_
    refine G_aload_n 1 dr_cJ5_ensureCapacityInternal_d00df_22 rfl ?_
    refine G_iload_n 2 dr_cJ5_ensureCapacityInternal_d00df_23 rfl ?_
    refine Gw_callVB (As := [.int p677234]) (gV_ok D I) (cp_658841_AbstractStringBuilder_newCapacity l hl0 D I P677230 F677231 q677232 q677233 p677234 p677235 p677236 f677237 n677238 hmq677232 hmq677233 heq677232 heq677233 bp677234 bp677235 bp677236 bf677237 (by have qa0 : Int32.toInt 0 = 0 := (by decide); omega) (by have qa0 : Int32.toInt 0 = 0 := (by decide); omega) (by have qa0 : Int32.toInt 0 = 0 := (by decide); omega)) dr_cJ5_ensureCapacityInternal_d00df_24 ⟨wr_8_8, wr_1_19, wr_8_11, by decide, rfl, (Nat.le_of_ble_eq_true rfl), (Nat.le_of_ble_eq_true rfl)⟩ wr_8_10 wr_s_1 hmq677232 heq677232 rfl (show 0 + 0 ≤ 1 by first | omega | decide) (show 0 + 0 ≤ (2 * n677238 + 2 + p677234.toInt.toNat) by first | omega | decide) (Nat.le_of_ble_eq_true rfl) (fun r677251 w677252 dc677248 ds677249 hp677250 => ?_) (fun _ _ _ _ _ z => z.elim)
    obtain ⟨o677253, rfl, rfl, hdc, hds, bo677253, x677254, x677255, x677256, ht677257⟩ := hp677250
    change G _ _ _ _ _ _ _ (.int o677253 :: _) _ _ _
    refine G_widen (cs' := 0) (sl' := 0) (by omega) (by omega) ?_
    refine G_aload_n 1 dr_cJ5_ensureCapacityInternal_d00df_27 rfl ?_
    refine Gp_get 1 hmq677232 heq677232 dr_cJ5_ensureCapacityInternal_d00df_28 (gk_J4 D I) (Nat.le_of_ble_eq_true rfl) wr_7_61 rfl ?_
    refine G_ishl dr_cJ5_ensureCapacityInternal_d00df_31 (G_nam fun z677258 hz677258 => ?_)
    have ez677258 : z677258.toInt = o677253.toInt * 1 := gI_shl (k := 0) hz677258 (by decide) bo677253 (by decide) (by decide)
    have bz677258 : gB z677258 1 33554432 := ⟨by omega, by omega⟩
    refine Gw_callS (As := [.ref q677233, .int z677258]) (gV_ok D I) (cp_658876_Arrays_copyOf l hl0 D I P677230 F677231 q677233 z677258 f677237 n677238 hmq677233 heq677233 (gB_w bz677258 (by decide) (by decide)) bf677237 (by have qa0 : Int32.toInt 0 = 0 := (by decide); omega) (by have qa0 : Int32.toInt 0 = 0 := (by decide); omega)) dr_cJ5_ensureCapacityInternal_d00df_32 ⟨wr_8_21, wr_1_30, wr_8_23, by decide, rfl, (Nat.le_of_ble_eq_true rfl), (Nat.le_of_ble_eq_true rfl)⟩ wr_8_22 (show 0 + 1 ≤ 1 by first | omega | decide) (show 0 + z677258.toInt.toNat ≤ (2 * n677238 + 2 + p677234.toInt.toNat) by first | omega | decide) (Nat.le_of_ble_eq_true rfl) (fun r677262 w677263 dc677259 ds677260 hp677261 => ?_) (fun _ _ _ _ _ z => z.elim)
    obtain ⟨P677267, F677268, q677264, f677265, rfl, rfl, hsb677269, hfr677270, he677271, he677272, hm677273, hq677274, hdc, hds, bf677265, ht677266⟩ := hp677261
    have hm677275 : q677232 ∈ P677267 := hsb677269 q677232 hmq677232
    have hm677276 : q677233 ∈ P677267 := hsb677269 q677233 hmq677233
    have hq677277 : q677264 ∉ P677230 := fun z => hq677274 ((rSub_rf (P := P677230)) q677264 z)
    have hsb677278 : rSub P677230 P677267 := rSub_tr (rSub_rf (P := P677230)) hsb677269
    have he677279 : F677268 q677232 = .inr (1, [.ref q677233, .int 0, .int p677235, .int p677236]) := (hfr677270 q677232 hmq677232 nm_n).trans heq677232
    have hfr677280 : rFr [] P677230 F677231 F677268 := rFr_call (rSub_rf (P := P677230)) (rFr_rf (W := []) (P := P677230) (F := F677231)) hfr677270 (fun b hb hn => ⟨nm_n, nm_n⟩)
    change G _ _ _ _ _ _ _ (.ref q677264 :: _) _ _ _
    refine G_widen (cs' := 1) (sl' := z677258.toInt.toNat) (by omega) (by omega) ?_
    refine Gp_put 0 hm677275 he677279 dr_cJ5_ensureCapacityInternal_d00df_35 (gk_J4 D I) (Nat.le_of_ble_eq_true rfl) wr_7_60 rfl rfl rfl (Nat.le_of_ble_eq_true rfl) (fun F677281 e677282 n677283 => ?_)
    have he677284 : F677281 q677233 = .inl (I .byte, n677238, .inl f677237) := (n677283 q677233 (rn_ao he677271 he677279)).trans he677271
    have he677285 : F677281 q677264 = .inl (I .byte, z677258.toInt.toNat, .inl f677265) := (n677283 q677264 (fun h => hq677277 (h ▸ hmq677232))).trans he677272
    have he677286 : F677281 q677232 = .inr (1, [.ref q677264, .int 0, .int p677235, .int p677236]) := e677282
    have hfr677287 : rFr [q677232] P677230 F677231 F677281 := rFr_put hfr677280 n677283
    exact G_vretA dr_cJ5_ensureCapacityInternal_d00df_38 rfl (Nat.le_of_ble_eq_true rfl) (show z677258.toInt.toNat ≤ (2 * n677238 + 2 + p677234.toInt.toNat) by omega) (Or.inr (⟨P677267, F677281, q677264, z677258.toInt.toNat, f677265, rfl, rfl, hsb677278, hfr677287, he677286, he677285, hm677273, hq677277, (by omega), (by omega), bf677265, (by have qa0 : Int32.toInt 0 = 0 := (by decide); omega), (by have qa0 : Int32.toInt 0 = 0 := (by decide); omega), (by have qa0 : Int32.toInt 0 = 0 := (by decide); omega), (by have qa0 : Int32.toInt 0 = 0 := (by decide); omega), (by have qa0 : Int32.toInt 0 = 0 := (by decide); omega), (by have qa0 : Int32.toInt 0 = 0 := (by decide); omega), (fun R c1 => c1 z677242 z677243 z677244 o677253 z677258 f677265 ez677242 ez677243 ez677244 r677247 bo677253 ht677257 ez677258 ht677266)⟩))
/- tr_RAbstractStringBuilder_append9: a.0...count, a.0.value.[] -/
def tr_RAbstractStringBuilder_append9 (a1 : Int32) (a0_count : Int32) (a0_value_v : Nat → Int32) (a0_value_n : Nat) (o1 : Int32) (o2 : Nat → Int32) : Prop := ∀ R : (Int32) → (Nat → Int32) → Prop,
  (∀ (x1 : Int32) (x2 : Int32) (x3 : Int32) (x4 : Nat → Int32), x1.toInt = a0_count.toInt + 1 → tr_RAbstractStringBuilder_ensureCapacityInternal3 x1 a0_value_n → tr_RStringLatin1_canEncode a1 (1 : Int32) → x2.toInt = a0_count.toInt + 1 → x3 = a1.toInt8.toInt32 → x4 = upd a0_value_v a0_count.toNatClampNeg (vp_nar .byte x3) → R x2 x4) →
  R o1 o2
/- tr_RAbstractStringBuilder_append9_g2: a.0...count, a.0.value.#, a.0.value.[] -/
def tr_RAbstractStringBuilder_append9_g2 (a1 : Int32) (a0_count : Int32) (a0_value_v : Nat → Int32) (a0_value_n : Nat) (o1 : Int32) (o2 : Nat) (o3 : Nat → Int32) : Prop := ∀ R : (Int32) → (Nat) → (Nat → Int32) → Prop,
  (∀ (x1 : Int32) (x2 : Nat) (x3 : Nat → Int32) (x4 : Int32) (x5 : Int32) (x6 : Nat → Int32), x1.toInt = a0_count.toInt + 1 → tr_RAbstractStringBuilder_ensureCapacityInternal3_g2 x1 a0_value_v a0_value_n x2 x3 → tr_RStringLatin1_canEncode a1 (1 : Int32) → x4.toInt = a0_count.toInt + 1 → x5 = a1.toInt8.toInt32 → x6 = upd x3 a0_count.toNatClampNeg (vp_nar .byte x5) → R x4 x2 x6) →
  R o1 o2 o3
abbrev ky_677228_AbstractStringBuilder_append : gKey := (cJ5_append_3fe6f, 2, "java/lang/AbstractStringBuilder", (some (FieldType.object "java/lang/AbstractStringBuilder")), [], "append", fun _ _ => True)
def pp_677228_AbstractStringBuilder_append (D : va_G) (I : FieldType → ClassId) (P677216 : List Nat) (F677217 : Nat → va_E) (q677218 : Nat) (q677219 : Nat) (p677220 : Int32) (p677221 : Int32) (p677222 : Int32) (f677223 : Nat → Int32) (n677224 : Nat) : Option Value → va_W → Nat → Nat → Prop := fun r w dc ds => (∃ (F677396 : Nat → va_E) (o677393 : Int32) (f677394 : Nat → Int32), r = some (.ref q677218) ∧ w = va_pl P677216 F677396 ∧ rFr [q677219, q677218] P677216 F677217 F677396 ∧ F677396 q677218 = .inr (1, [.ref q677219, .int 0, .int p677221, .int o677393]) ∧ F677396 q677219 = .inl (I .byte, n677224, .inl f677394) ∧ dc ≤ 0 ∧ ds ≤ 0 ∧ gB o677393 1 16777216 ∧ gF f677394 (-128) 127 ∧ o677393.toInt = p677222.toInt + 1 ∧ o677393.toInt ≤ (n677224 : Int) ∧ (n677224 : Int) ≤ (n677224 : Int) ∧ (n677224 : Int) ≤ 2 * (n677224 : Int) + 2 ∧ ((n677224 : Int) = (n677224 : Int) ∨ (n677224 : Int) < o677393.toInt) ∧ ((n677224 : Int) = (n677224 : Int) ∨ 2 * (n677224 : Int) + 2 ≤ (n677224 : Int)) ∧ tr_RAbstractStringBuilder_append9 p677220 p677222 f677223 n677224 o677393 f677394) ∨ (∃ (P677401 : List Nat) (F677402 : Nat → va_E) (o677397 : Int32) (q677398 : Nat) (n677399 : Nat) (f677400 : Nat → Int32), r = some (.ref q677218) ∧ w = va_pl P677401 F677402 ∧ rSub P677216 P677401 ∧ rFr [q677218] P677216 F677217 F677402 ∧ F677402 q677218 = .inr (1, [.ref q677398, .int 0, .int p677221, .int o677397]) ∧ F677402 q677398 = .inl (I .byte, n677399, .inl f677400) ∧ q677398 ∈ P677401 ∧ q677398 ∉ P677216 ∧ dc ≤ (min 1 (n677399 - n677224)) ∧ ds ≤ 2 * (n677399 - n677224) ∧ gB o677397 1 16777216 ∧ gF f677400 (-128) 127 ∧ o677397.toInt = p677222.toInt + 1 ∧ o677397.toInt ≤ (n677399 : Int) ∧ (n677224 : Int) ≤ (n677399 : Int) ∧ (n677399 : Int) ≤ 2 * (n677224 : Int) + 2 ∧ ((n677399 : Int) = (n677224 : Int) ∨ (n677224 : Int) < o677397.toInt) ∧ ((n677399 : Int) = (n677224 : Int) ∨ 2 * (n677224 : Int) + 2 ≤ (n677399 : Int)) ∧ tr_RAbstractStringBuilder_append9_g2 p677220 p677222 f677223 n677224 o677397 n677399 f677400)
set_option maxRecDepth 100000 in
set_option maxHeartbeats 4000000 in
theorem cp_677228_AbstractStringBuilder_append (l : Launch) (hl0 : l.stackTraces = false) (D : va_G) (I : FieldType → ClassId) (P677216 : List Nat) (F677217 : Nat → va_E) (q677218 : Nat) (q677219 : Nat) (p677220 : Int32) (p677221 : Int32) (p677222 : Int32) (f677223 : Nat → Int32) (n677224 : Nat) (hmq677218 : q677218 ∈ P677216) (hmq677219 : q677219 ∈ P677216) (heq677218 : F677217 q677218 = .inr (1, [.ref q677219, .int 0, .int p677221, .int p677222])) (heq677219 : F677217 q677219 = .inl (I .byte, n677224, .inl f677223)) (bp677220 : gB p677220 0 255) (bp677221 : gB p677221 0 1) (bp677222 : gB p677222 0 16777216) (bf677223 : gF f677223 (-128) 127) (x677225 : (n677224 : Int) ≤ 8388608 - 100000) (x677226 : p677222.toInt ≤ (n677224 : Int)) (x677227 : ((n677224 : Int) ≤ 16777216)) : CtA (gV D I) l yJ5_append_3fe6f cJ5_append_3fe6f 2 (some (FieldType.object "java/lang/AbstractStringBuilder")) 4 84 1 (4 * n677224 + 8) [.ref q677218, .int p677220] (va_pl P677216 F677217) (pp_677228_AbstractStringBuilder_append D I P677216 F677217 q677218 q677219 p677220 p677221 p677222 f677223 n677224) gNA := by
  refine CtA_ofF hl0 (by decide +kernel) (Nat.le_of_ble_eq_true rfl) ?_
  refine G_aload_n 0 dr_cJ5_append_3fe6f_0 rfl ?_
  refine G_aload_n 0 dr_cJ5_append_3fe6f_1 rfl ?_
  refine Gp_get 3 hmq677218 heq677218 dr_cJ5_append_3fe6f_2 (gk_J4 D I) (Nat.le_of_ble_eq_true rfl) wr_7_64 rfl ?_
  refine G_iconst 1 dr_cJ5_append_3fe6f_5 (by decide +kernel) ?_
  refine G_iadd dr_cJ5_append_3fe6f_6 (G_nam fun z677229 hz677229 => ?_)
  have ez677229 : z677229.toInt = p677222.toInt + 1 := by rw [gI_add hz677229 bp677222 (gBl (show Int32.toInt 1 = 1 by decide)) (by decide) (by decide), show Int32.toInt 1 = 1 from by decide]
  have bz677229 : gB z677229 1 16777217 := gB_add (gI_add hz677229 bp677222 (gBl (show Int32.toInt 1 = 1 by decide)) (by decide) (by decide)) bp677222 (gBl (show Int32.toInt 1 = 1 by decide)) (by decide) (by decide)
  refine Gw_callVB (As := [.int z677229]) (gV_ok D I) (cp_677241_AbstractStringBuilder_ensureCapacityInternal l hl0 D I P677216 F677217 q677218 q677219 z677229 p677221 p677222 f677223 n677224 hmq677218 hmq677219 heq677218 heq677219 ⟨by omega, by omega⟩ bp677221 bp677222 bf677223 (by have qa0 : Int32.toInt 0 = 0 := (by decide); omega) (by have qa0 : Int32.toInt 0 = 0 := (by decide); omega)) dr_cJ5_append_3fe6f_7 ⟨wr_8_4, wr_1_19, wr_8_7, by decide, rfl, (Nat.le_of_ble_eq_true rfl), (Nat.le_of_ble_eq_true rfl)⟩ wr_8_6 wr_s_0 hmq677218 heq677218 rfl (show 0 + 1 ≤ 1 by first | omega | decide) (show 0 + (2 * n677224 + 2 + z677229.toInt.toNat) ≤ (4 * n677224 + 8) by first | omega | decide) (Nat.le_of_ble_eq_true rfl) (fun r677296 w677297 dc677293 ds677294 hp677295 => ?_) (fun _ _ _ _ _ z => z.elim)
  rcases hp677295 with hp677298 | hp677299
  · obtain ⟨rfl, rfl, hdc, hds, x677300, x677301, x677302, x677303, x677304, x677305, ht677306⟩ := hp677298
    change G _ _ _ _ _ _ _ _ _ _ _
    refine G_widen (cs' := 0) (sl' := 0) (by omega) (by omega) ?_
    refine G_aload_n 0 dr_cJ5_append_3fe6f_10 rfl ?_
    refine Gw_callVB (As := []) (gV_ok D I) (cp_658723_AbstractStringBuilder_isLatin1 l hl0 D I P677216 F677217 q677218 q677219 p677221 p677222 f677223 n677224 hmq677218 hmq677219 heq677218 heq677219 bp677221 bp677222 bf677223 (by have qa0 : Int32.toInt 0 = 0 := (by decide); omega)) dr_cJ5_append_3fe6f_11 ⟨wr_8_33, wr_1_19, wr_8_37, by decide, rfl, (Nat.le_of_ble_eq_true rfl), (Nat.le_of_ble_eq_true rfl)⟩ wr_8_34 wr_8_36 hmq677218 heq677218 rfl (show 0 + 0 ≤ 1 by first | omega | decide) (show 0 + 0 ≤ (4 * n677224 + 8) by first | omega | decide) (Nat.le_of_ble_eq_true rfl) (fun r677310 w677311 dc677307 ds677308 hp677309 => ?_) (fun _ _ _ _ _ z => z.elim)
    obtain ⟨rfl, rfl, hdc, hds⟩ := hp677309
    change G _ _ _ _ _ _ _ (.int 1 :: _) _ _ _
    refine G_widen (cs' := 0) (sl' := 0) (by omega) (by omega) ?_
    refine G_if_eq 45 dr_cJ5_append_3fe6f_14 (by decide +kernel) (fun hc => absurd hc (by decide)) (fun _ => ?_)
    refine G_iload_n 1 dr_cJ5_append_3fe6f_17 rfl ?_
    refine Gw_callS (As := [.int p677220]) (gV_ok D I) (cp_658732_StringLatin1_canEncode l hl0 D I P677216 F677217 p677220 (gB_w bp677220 (by decide) (by decide))) dr_cJ5_append_3fe6f_18 ⟨wr_8_38, wr_1_28, wr_8_40, by decide, rfl, (Nat.le_of_ble_eq_true rfl), (Nat.le_of_ble_eq_true rfl)⟩ wr_8_39 (show 0 + 0 ≤ 1 by first | omega | decide) (show 0 + 0 ≤ (4 * n677224 + 8) by first | omega | decide) (Nat.le_of_ble_eq_true rfl) (fun r677315 w677316 dc677312 ds677313 hp677314 => ?_) (fun _ _ _ _ _ z => z.elim)
    rcases hp677314 with ⟨rfl, rfl, hdc, hds, r677317, r677318⟩ | ⟨rfl, rfl, hdc, hds, r677319, r677320⟩
    · exact absurd (show False by omega) not_false
    · change G _ _ _ _ _ _ _ (.int 1 :: _) _ _ _
      refine G_widen (cs' := 0) (sl' := 0) (by omega) (by omega) ?_
      refine G_if_eq 45 dr_cJ5_append_3fe6f_21 (by decide +kernel) (fun hc => absurd hc (by decide)) (fun _ => ?_)
      refine G_aload_n 0 dr_cJ5_append_3fe6f_24 rfl ?_
      refine Gp_get 0 hmq677218 heq677218 dr_cJ5_append_3fe6f_25 (gk_J4 D I) (Nat.le_of_ble_eq_true rfl) wr_7_60 rfl ?_
      refine G_aload_n 0 dr_cJ5_append_3fe6f_28 rfl ?_
      refine G_dup dr_cJ5_append_3fe6f_29 rfl ?_
      refine Gp_get 3 hmq677218 heq677218 dr_cJ5_append_3fe6f_30 (gk_J4 D I) (Nat.le_of_ble_eq_true rfl) wr_7_64 rfl ?_
      refine G_dup_x1 dr_cJ5_append_3fe6f_33 rfl rfl ?_
      refine G_iconst 1 dr_cJ5_append_3fe6f_34 (by decide +kernel) ?_
      refine G_iadd dr_cJ5_append_3fe6f_35 (G_nam fun z677322 hz677322 => ?_)
      have ez677322 : z677322.toInt = p677222.toInt + 1 := by rw [gI_add hz677322 bp677222 (gBl (show Int32.toInt 1 = 1 by decide)) (by decide) (by decide), show Int32.toInt 1 = 1 from by decide]
      have bz677322 : gB z677322 1 16777217 := gB_add (gI_add hz677322 bp677222 (gBl (show Int32.toInt 1 = 1 by decide)) (by decide) (by decide)) bp677222 (gBl (show Int32.toInt 1 = 1 by decide)) (by decide) (by decide)
      refine Gp_put 3 hmq677218 heq677218 dr_cJ5_append_3fe6f_36 (gk_J4 D I) (Nat.le_of_ble_eq_true rfl) wr_7_64 rfl rfl rfl (Nat.le_of_ble_eq_true rfl) (fun F677323 e677324 n677325 => ?_)
      have he677326 : F677323 q677219 = .inl (I .byte, n677224, .inl f677223) := (n677325 q677219 (rn_ao heq677219 heq677218)).trans heq677219
      have he677327 : F677323 q677218 = .inr (1, [.ref q677219, .int 0, .int p677221, .int z677322]) := e677324
      have hfr677328 : rFr [q677218] P677216 F677217 F677323 := rFr_put (rFr_rf (W := []) (P := P677216) (F := F677217)) n677325
      refine G_iload_n 1 dr_cJ5_append_3fe6f_39 rfl ?_
      refine G_i2b dr_cJ5_append_3fe6f_40 (G_nam fun z677329 hz677329 => ?_)
      have bz677329 : gB z677329 (-128) 127 := gB_i2b hz677329
      refine Gp_bast 1 hmq677219 he677326 dr_cJ5_append_3fe6f_41 rfl (gB_inr (by omega) (by omega)) (fun F677330 e677331 n677332 => ?_)
      obtain ⟨f677333, hf677333⟩ : ∃ z, z = upd f677223 p677222.toNatClampNeg (vp_nar .byte z677329) := ⟨_, rfl⟩
      rw [← hf677333] at e677331
      have he677334 : F677330 q677218 = .inr (1, [.ref q677219, .int 0, .int p677221, .int z677322]) := (n677332 q677218 (rn_oa he677327 he677326)).trans he677327
      have he677335 : F677330 q677219 = .inl (I .byte, n677224, .inl f677333) := e677331
      have hfr677336 : rFr [q677219, q677218] P677216 F677217 F677330 := rFr_put hfr677328 n677332
      have bf677333 : gF f677333 (-128) 127 := gF_upd hf677333 bf677223 gB_byte
      refine G_goto 75 dr_cJ5_append_3fe6f_42 (by decide +kernel) ?_
      refine G_aload_n 0 dr_cJ5_append_3fe6f_75 rfl ?_
      exact G_aretA (FieldType.object "java/lang/AbstractStringBuilder") dr_cJ5_append_3fe6f_76 rfl (by first | exact Or.inl ⟨_, rfl⟩ | exact Or.inr ⟨_, rfl⟩) (Or.inr ⟨_, rfl⟩) (Nat.le_of_ble_eq_true rfl) (Nat.le_of_ble_eq_true rfl) (Or.inl ⟨F677330, z677322, f677333, rfl, rfl, hfr677336, he677334, he677335, (Nat.le_of_ble_eq_true rfl), (Nat.le_of_ble_eq_true rfl), ⟨by omega, by omega⟩, bf677333, (by have qa0 : Int32.toInt 0 = 0 := (by decide); omega), (by have qa0 : Int32.toInt 0 = 0 := (by decide); omega), (by have qa0 : Int32.toInt 0 = 0 := (by decide); omega), (by have qa0 : Int32.toInt 0 = 0 := (by decide); omega), (by have qa0 : Int32.toInt 0 = 0 := (by decide); omega), (by have qa0 : Int32.toInt 0 = 0 := (by decide); omega), (fun R c1 => c1 z677229 z677322 z677329 f677333 ez677229 ht677306 r677320 ez677322 hz677329 hf677333)⟩)
  · obtain ⟨P677347, F677348, q677337, n677338, f677339, rfl, rfl, hsb677349, hfr677350, he677351, he677352, hm677353, hq677354, hdc, hds, bf677339, x677340, x677341, x677342, x677343, x677344, x677345, ht677346⟩ := hp677299
    have hm677355 : q677218 ∈ P677347 := hsb677349 q677218 hmq677218
    have hm677356 : q677219 ∈ P677347 := hsb677349 q677219 hmq677219
    have hq677357 : q677337 ∉ P677216 := fun z => hq677354 ((rSub_rf (P := P677216)) q677337 z)
    have hsb677358 : rSub P677216 P677347 := rSub_tr (rSub_rf (P := P677216)) hsb677349
    have he677359 : F677348 q677219 = .inl (I .byte, n677224, .inl f677223) := (hfr677350 q677219 hmq677219 (nm_c (rn_ao heq677219 heq677218) nm_n)).trans heq677219
    have hfr677360 : rFr [q677218] P677216 F677217 F677348 := rFr_call (rSub_rf (P := P677216)) (rFr_rf (W := []) (P := P677216) (F := F677217)) hfr677350 (fun b hb hn => ⟨nm_n, (nm_c (fun e => hn (e ▸ List.mem_cons_self)) nm_n)⟩)
    change G _ _ _ _ _ _ _ _ _ _ _
    refine G_widen (cs' := (min 1 (n677338 - n677224))) (sl' := 2 * (n677338 - n677224)) (by omega) (by omega) ?_
    refine G_aload_n 0 dr_cJ5_append_3fe6f_10 rfl ?_
    refine Gw_callVB (As := []) (gV_ok D I) (cp_658723_AbstractStringBuilder_isLatin1 l hl0 D I P677347 F677348 q677218 q677337 p677221 p677222 f677339 n677338 hm677355 hm677353 he677351 he677352 bp677221 bp677222 bf677339 (by have qa0 : Int32.toInt 0 = 0 := (by decide); omega)) dr_cJ5_append_3fe6f_11 ⟨wr_8_33, wr_1_19, wr_8_37, by decide, rfl, (Nat.le_of_ble_eq_true rfl), (Nat.le_of_ble_eq_true rfl)⟩ wr_8_34 wr_8_36 hm677355 he677351 rfl (show (min 1 (n677338 - n677224)) + 0 ≤ 1 by first | omega | decide) (show 2 * (n677338 - n677224) + 0 ≤ (4 * n677224 + 8) by first | omega | decide) (Nat.le_of_ble_eq_true rfl) (fun r677364 w677365 dc677361 ds677362 hp677363 => ?_) (fun _ _ _ _ _ z => z.elim)
    obtain ⟨rfl, rfl, hdc, hds⟩ := hp677363
    change G _ _ _ _ _ _ _ (.int 1 :: _) _ _ _
    refine G_widen (cs' := (min 1 (n677338 - n677224)) + 0) (sl' := 2 * (n677338 - n677224) + 0) (by omega) (by omega) ?_
    refine G_if_eq 45 dr_cJ5_append_3fe6f_14 (by decide +kernel) (fun hc => absurd hc (by decide)) (fun _ => ?_)
    refine G_iload_n 1 dr_cJ5_append_3fe6f_17 rfl ?_
    refine Gw_callS (As := [.int p677220]) (gV_ok D I) (cp_658732_StringLatin1_canEncode l hl0 D I P677347 F677348 p677220 (gB_w bp677220 (by decide) (by decide))) dr_cJ5_append_3fe6f_18 ⟨wr_8_38, wr_1_28, wr_8_40, by decide, rfl, (Nat.le_of_ble_eq_true rfl), (Nat.le_of_ble_eq_true rfl)⟩ wr_8_39 (show (min 1 (n677338 - n677224)) + 0 + 0 ≤ 1 by first | omega | decide) (show 2 * (n677338 - n677224) + 0 + 0 ≤ (4 * n677224 + 8) by first | omega | decide) (Nat.le_of_ble_eq_true rfl) (fun r677369 w677370 dc677366 ds677367 hp677368 => ?_) (fun _ _ _ _ _ z => z.elim)
    rcases hp677368 with ⟨rfl, rfl, hdc, hds, r677371, r677372⟩ | ⟨rfl, rfl, hdc, hds, r677373, r677374⟩
    · exact absurd (show False by omega) not_false
    · change G _ _ _ _ _ _ _ (.int 1 :: _) _ _ _
      refine G_widen (cs' := (min 1 (n677338 - n677224)) + 0 + 0) (sl' := 2 * (n677338 - n677224) + 0 + 0) (by omega) (by omega) ?_
      refine G_if_eq 45 dr_cJ5_append_3fe6f_21 (by decide +kernel) (fun hc => absurd hc (by decide)) (fun _ => ?_)
      refine G_aload_n 0 dr_cJ5_append_3fe6f_24 rfl ?_
      refine Gp_get 0 hm677355 he677351 dr_cJ5_append_3fe6f_25 (gk_J4 D I) (Nat.le_of_ble_eq_true rfl) wr_7_60 rfl ?_
      refine G_aload_n 0 dr_cJ5_append_3fe6f_28 rfl ?_
      refine G_dup dr_cJ5_append_3fe6f_29 rfl ?_
      refine Gp_get 3 hm677355 he677351 dr_cJ5_append_3fe6f_30 (gk_J4 D I) (Nat.le_of_ble_eq_true rfl) wr_7_64 rfl ?_
      refine G_dup_x1 dr_cJ5_append_3fe6f_33 rfl rfl ?_
      refine G_iconst 1 dr_cJ5_append_3fe6f_34 (by decide +kernel) ?_
      refine G_iadd dr_cJ5_append_3fe6f_35 (G_nam fun z677376 hz677376 => ?_)
      have ez677376 : z677376.toInt = p677222.toInt + 1 := by rw [gI_add hz677376 bp677222 (gBl (show Int32.toInt 1 = 1 by decide)) (by decide) (by decide), show Int32.toInt 1 = 1 from by decide]
      have bz677376 : gB z677376 1 16777217 := gB_add (gI_add hz677376 bp677222 (gBl (show Int32.toInt 1 = 1 by decide)) (by decide) (by decide)) bp677222 (gBl (show Int32.toInt 1 = 1 by decide)) (by decide) (by decide)
      refine Gp_put 3 hm677355 he677351 dr_cJ5_append_3fe6f_36 (gk_J4 D I) (Nat.le_of_ble_eq_true rfl) wr_7_64 rfl rfl rfl (Nat.le_of_ble_eq_true rfl) (fun F677377 e677378 n677379 => ?_)
      have he677380 : F677377 q677219 = .inl (I .byte, n677224, .inl f677223) := (n677379 q677219 (rn_ao he677359 he677351)).trans he677359
      have he677381 : F677377 q677337 = .inl (I .byte, n677338, .inl f677339) := (n677379 q677337 (fun h => hq677357 (h ▸ hmq677218))).trans he677352
      have he677382 : F677377 q677218 = .inr (1, [.ref q677337, .int 0, .int p677221, .int z677376]) := e677378
      have hfr677383 : rFr [q677218] P677216 F677217 F677377 := rFr_put' List.mem_cons_self hfr677360 n677379
      refine G_iload_n 1 dr_cJ5_append_3fe6f_39 rfl ?_
      refine G_i2b dr_cJ5_append_3fe6f_40 (G_nam fun z677384 hz677384 => ?_)
      have bz677384 : gB z677384 (-128) 127 := gB_i2b hz677384
      refine Gp_bast 1 hm677353 he677381 dr_cJ5_append_3fe6f_41 rfl (gB_inr (by omega) (by omega)) (fun F677385 e677386 n677387 => ?_)
      obtain ⟨f677388, hf677388⟩ : ∃ z, z = upd f677339 p677222.toNatClampNeg (vp_nar .byte z677384) := ⟨_, rfl⟩
      rw [← hf677388] at e677386
      have he677389 : F677385 q677219 = .inl (I .byte, n677224, .inl f677223) := (n677387 q677219 (fun h => hq677357 (h ▸ hmq677219))).trans he677380
      have he677390 : F677385 q677218 = .inr (1, [.ref q677337, .int 0, .int p677221, .int z677376]) := (n677387 q677218 (fun h => hq677357 (h ▸ hmq677218))).trans he677382
      have he677391 : F677385 q677337 = .inl (I .byte, n677338, .inl f677388) := e677386
      have hfr677392 : rFr [q677218] P677216 F677217 F677385 := rFr_newp hq677357 hfr677383 n677387
      have bf677388 : gF f677388 (-128) 127 := gF_upd hf677388 bf677339 gB_byte
      refine G_goto 75 dr_cJ5_append_3fe6f_42 (by decide +kernel) ?_
      refine G_aload_n 0 dr_cJ5_append_3fe6f_75 rfl ?_
      exact G_aretA (FieldType.object "java/lang/AbstractStringBuilder") dr_cJ5_append_3fe6f_76 rfl (by first | exact Or.inl ⟨_, rfl⟩ | exact Or.inr ⟨_, rfl⟩) (Or.inr ⟨_, rfl⟩) (show (min 1 (n677338 - n677224)) + 0 + 0 ≤ 1 by omega) (show 2 * (n677338 - n677224) + 0 + 0 ≤ (4 * n677224 + 8) by omega) (Or.inr (⟨P677347, F677385, z677376, q677337, n677338, f677388, rfl, rfl, hsb677358, hfr677392, he677390, he677391, hm677353, hq677357, (by omega), (by omega), ⟨by omega, by omega⟩, bf677388, (by have qa0 : Int32.toInt 0 = 0 := (by decide); omega), (by have qa0 : Int32.toInt 0 = 0 := (by decide); omega), (by have qa0 : Int32.toInt 0 = 0 := (by decide); omega), (by have qa0 : Int32.toInt 0 = 0 := (by decide); omega), (by have qa0 : Int32.toInt 0 = 0 := (by decide); omega), (by have qa0 : Int32.toInt 0 = 0 := (by decide); omega), (fun R c1 => c1 z677229 n677338 f677339 z677376 z677384 f677388 ez677229 ht677346 r677374 ez677376 hz677384 hf677388)⟩))
/- tr_RStringBuilder_append9: a.0...count, a.0.value.[] -/
def tr_RStringBuilder_append9 (a1 : Int32) (a0_count : Int32) (a0_value_v : Nat → Int32) (a0_value_n : Nat) (o1 : Int32) (o2 : Nat → Int32) : Prop := ∀ R : (Int32) → (Nat → Int32) → Prop,
  (∀ (x1 : Int32) (x2 : Nat → Int32), gB x1 1 16777216 → tr_RAbstractStringBuilder_append9 a1 a0_count a0_value_v a0_value_n x1 x2 → R x1 x2) →
  R o1 o2
/- tr_RStringBuilder_append9_g2: a.0...count, a.0.value.#, a.0.value.[] -/
def tr_RStringBuilder_append9_g2 (a1 : Int32) (a0_count : Int32) (a0_value_v : Nat → Int32) (a0_value_n : Nat) (o1 : Int32) (o2 : Nat) (o3 : Nat → Int32) : Prop := ∀ R : (Int32) → (Nat) → (Nat → Int32) → Prop,
  (∀ (x1 : Int32) (x2 : Nat) (x3 : Nat → Int32), gB x1 1 16777216 → tr_RAbstractStringBuilder_append9_g2 a1 a0_count a0_value_v a0_value_n x1 x2 x3 → R x1 x2 x3) →
  R o1 o2 o3
abbrev ky_677215_StringBuilder_append : gKey := (cJ4_append_cf468, 2, "java/lang/StringBuilder", (some (FieldType.object "java/lang/StringBuilder")), [], "append", fun _ _ => True)
def pp_677215_StringBuilder_append (D : va_G) (I : FieldType → ClassId) (P677203 : List Nat) (F677204 : Nat → va_E) (q677205 : Nat) (q677206 : Nat) (p677207 : Int32) (p677208 : Int32) (p677209 : Int32) (f677210 : Nat → Int32) (n677211 : Nat) : Option Value → va_W → Nat → Nat → Prop := fun r w dc ds => (∃ (F677453 : Nat → va_E) (o677450 : Int32) (f677451 : Nat → Int32), r = some (.ref q677205) ∧ w = va_pl P677203 F677453 ∧ rFr [q677206, q677205] P677203 F677204 F677453 ∧ F677453 q677205 = .inr (1, [.ref q677206, .int 0, .int p677208, .int o677450]) ∧ F677453 q677206 = .inl (I .byte, n677211, .inl f677451) ∧ dc ≤ 0 ∧ ds ≤ 0 ∧ gB o677450 1 16777216 ∧ gF f677451 (-128) 127 ∧ o677450.toInt = p677209.toInt + 1 ∧ o677450.toInt ≤ (n677211 : Int) ∧ (n677211 : Int) ≤ (n677211 : Int) ∧ (n677211 : Int) ≤ 2 * (n677211 : Int) + 2 ∧ ((n677211 : Int) = (n677211 : Int) ∨ (n677211 : Int) < o677450.toInt) ∧ ((n677211 : Int) = (n677211 : Int) ∨ 2 * (n677211 : Int) + 2 ≤ (n677211 : Int)) ∧ tr_RStringBuilder_append9 p677207 p677209 f677210 n677211 o677450 f677451) ∨ (∃ (P677458 : List Nat) (F677459 : Nat → va_E) (o677454 : Int32) (q677455 : Nat) (n677456 : Nat) (f677457 : Nat → Int32), r = some (.ref q677205) ∧ w = va_pl P677458 F677459 ∧ rSub P677203 P677458 ∧ rFr [q677205] P677203 F677204 F677459 ∧ F677459 q677205 = .inr (1, [.ref q677455, .int 0, .int p677208, .int o677454]) ∧ F677459 q677455 = .inl (I .byte, n677456, .inl f677457) ∧ q677455 ∈ P677458 ∧ q677455 ∉ P677203 ∧ dc ≤ (min 1 (n677456 - n677211)) ∧ ds ≤ 2 * (n677456 - n677211) ∧ gB o677454 1 16777216 ∧ gF f677457 (-128) 127 ∧ o677454.toInt = p677209.toInt + 1 ∧ o677454.toInt ≤ (n677456 : Int) ∧ (n677211 : Int) ≤ (n677456 : Int) ∧ (n677456 : Int) ≤ 2 * (n677211 : Int) + 2 ∧ ((n677456 : Int) = (n677211 : Int) ∨ (n677211 : Int) < o677454.toInt) ∧ ((n677456 : Int) = (n677211 : Int) ∨ 2 * (n677211 : Int) + 2 ≤ (n677456 : Int)) ∧ tr_RStringBuilder_append9_g2 p677207 p677209 f677210 n677211 o677454 n677456 f677457)
set_option maxRecDepth 100000 in
set_option maxHeartbeats 4000000 in
theorem cp_677215_StringBuilder_append (l : Launch) (hl0 : l.stackTraces = false) (D : va_G) (I : FieldType → ClassId) (P677203 : List Nat) (F677204 : Nat → va_E) (q677205 : Nat) (q677206 : Nat) (p677207 : Int32) (p677208 : Int32) (p677209 : Int32) (f677210 : Nat → Int32) (n677211 : Nat) (hmq677205 : q677205 ∈ P677203) (hmq677206 : q677206 ∈ P677203) (heq677205 : F677204 q677205 = .inr (1, [.ref q677206, .int 0, .int p677208, .int p677209])) (heq677206 : F677204 q677206 = .inl (I .byte, n677211, .inl f677210)) (bp677207 : gB p677207 0 255) (bp677208 : gB p677208 0 1) (bp677209 : gB p677209 0 16777216) (bf677210 : gF f677210 (-128) 127) (x677212 : (n677211 : Int) ≤ 8388608 - 100000) (x677213 : p677209.toInt ≤ (n677211 : Int)) (x677214 : ((n677211 : Int) ≤ 16777216)) : CtA (gV D I) l yJ4_append_cf468 cJ4_append_cf468 2 (some (FieldType.object "java/lang/StringBuilder")) 5 105 1 (4 * n677211 + 8) [.ref q677205, .int p677207] (va_pl P677203 F677204) (pp_677215_StringBuilder_append D I P677203 F677204 q677205 q677206 p677207 p677208 p677209 f677210 n677211) gNA := by
  refine CtA_ofF hl0 (by decide +kernel) (Nat.le_of_ble_eq_true rfl) ?_
  refine G_aload_n 0 dr_cJ4_append_cf468_0 rfl ?_
  refine G_iload_n 1 dr_cJ4_append_cf468_1 rfl ?_
  refine Gw_callSU (As := [.int p677207]) (gV_ok D I) (cp_677228_AbstractStringBuilder_append l hl0 D I P677203 F677204 q677205 q677206 p677207 p677208 p677209 f677210 n677211 hmq677205 hmq677206 heq677205 heq677206 bp677207 bp677208 bp677209 bf677210 (by have qa0 : Int32.toInt 0 = 0 := (by decide); omega) (by have qa0 : Int32.toInt 0 = 0 := (by decide); omega) (by have qa0 : Int32.toInt 0 = 0 := (by decide); omega)) dr_cJ4_append_cf468_2 ⟨wr_8_1, wr_1_19, wr_8_3, by decide, rfl, (Nat.le_of_ble_eq_true rfl), (Nat.le_of_ble_eq_true rfl)⟩ wr_8_2 wr_11_224 wr_7_73 wr_7_44 (by decide) hmq677205 heq677205 rfl (show 0 + 1 ≤ 1 by first | omega | decide) (show 0 + (4 * n677211 + 8) ≤ (4 * n677211 + 8) by first | omega | decide) (Nat.le_of_ble_eq_true rfl) (fun r677406 w677407 dc677403 ds677404 hp677405 => ?_)
  rcases hp677405 with hp677408 | hp677409
  · obtain ⟨F677419, o677410, f677411, rfl, rfl, hfr677421, he677422, he677423, hdc, hds, bo677410, bf677411, x677412, x677413, x677414, x677415, x677416, x677417, ht677418⟩ := hp677408
    have hfr677424 : rFr [q677206, q677205] P677203 F677204 F677419 := rFr_call (rSub_rf (P := P677203)) (rFr_rf (W := []) (P := P677203) (F := F677204)) hfr677421 (fun b hb hn => ⟨nm_n, (nm_c (fun e => hn (e ▸ List.mem_cons_self)) (nm_c (fun e => hn (e ▸ (List.mem_cons_of_mem _ List.mem_cons_self))) nm_n))⟩)
    change G _ _ _ _ _ _ _ (.ref q677205 :: _) _ _ _
    refine G_widen (cs' := 0) (sl' := 0) (by omega) (by omega) ?_
    refine G_pop dr_cJ4_append_cf468_5 rfl ?_
    refine G_aload_n 0 dr_cJ4_append_cf468_6 rfl ?_
    exact G_aretA (FieldType.object "java/lang/StringBuilder") dr_cJ4_append_cf468_7 rfl (by first | exact Or.inl ⟨_, rfl⟩ | exact Or.inr ⟨_, rfl⟩) (Or.inr ⟨_, rfl⟩) (Nat.le_of_ble_eq_true rfl) (Nat.le_of_ble_eq_true rfl) (Or.inl ⟨F677419, o677410, f677411, rfl, rfl, hfr677424, he677422, he677423, (Nat.le_of_ble_eq_true rfl), (Nat.le_of_ble_eq_true rfl), bo677410, bf677411, (by have qa0 : Int32.toInt 0 = 0 := (by decide); omega), (by have qa0 : Int32.toInt 0 = 0 := (by decide); omega), (by have qa0 : Int32.toInt 0 = 0 := (by decide); omega), (by have qa0 : Int32.toInt 0 = 0 := (by decide); omega), (by have qa0 : Int32.toInt 0 = 0 := (by decide); omega), (by have qa0 : Int32.toInt 0 = 0 := (by decide); omega), (fun R c1 => c1 o677410 f677411 bo677410 ht677418)⟩)
  · obtain ⟨P677436, F677437, o677425, q677426, n677427, f677428, rfl, rfl, hsb677438, hfr677439, he677440, he677441, hm677442, hq677443, hdc, hds, bo677425, bf677428, x677429, x677430, x677431, x677432, x677433, x677434, ht677435⟩ := hp677409
    have hm677444 : q677205 ∈ P677436 := hsb677438 q677205 hmq677205
    have hm677445 : q677206 ∈ P677436 := hsb677438 q677206 hmq677206
    have hq677446 : q677426 ∉ P677203 := fun z => hq677443 ((rSub_rf (P := P677203)) q677426 z)
    have hsb677447 : rSub P677203 P677436 := rSub_tr (rSub_rf (P := P677203)) hsb677438
    have he677448 : F677437 q677206 = .inl (I .byte, n677211, .inl f677210) := (hfr677439 q677206 hmq677206 (nm_c (rn_ao heq677206 heq677205) nm_n)).trans heq677206
    have hfr677449 : rFr [q677205] P677203 F677204 F677437 := rFr_call (rSub_rf (P := P677203)) (rFr_rf (W := []) (P := P677203) (F := F677204)) hfr677439 (fun b hb hn => ⟨nm_n, (nm_c (fun e => hn (e ▸ List.mem_cons_self)) nm_n)⟩)
    change G _ _ _ _ _ _ _ (.ref q677205 :: _) _ _ _
    refine G_widen (cs' := (min 1 (n677427 - n677211))) (sl' := 2 * (n677427 - n677211)) (by omega) (by omega) ?_
    refine G_pop dr_cJ4_append_cf468_5 rfl ?_
    refine G_aload_n 0 dr_cJ4_append_cf468_6 rfl ?_
    exact G_aretA (FieldType.object "java/lang/StringBuilder") dr_cJ4_append_cf468_7 rfl (by first | exact Or.inl ⟨_, rfl⟩ | exact Or.inr ⟨_, rfl⟩) (Or.inr ⟨_, rfl⟩) (show (min 1 (n677427 - n677211)) ≤ 1 by omega) (show 2 * (n677427 - n677211) ≤ (4 * n677211 + 8) by omega) (Or.inr (⟨P677436, F677437, o677425, q677426, n677427, f677428, rfl, rfl, hsb677447, hfr677449, he677440, he677441, hm677442, hq677446, (by omega), (by omega), bo677425, bf677428, (by have qa0 : Int32.toInt 0 = 0 := (by decide); omega), (by have qa0 : Int32.toInt 0 = 0 := (by decide); omega), (by have qa0 : Int32.toInt 0 = 0 := (by decide); omega), (by have qa0 : Int32.toInt 0 = 0 := (by decide); omega), (by have qa0 : Int32.toInt 0 = 0 := (by decide); omega), (by have qa0 : Int32.toInt 0 = 0 := (by decide); omega), (fun R c1 => c1 o677425 n677427 f677428 bo677425 ht677435)⟩))
/- tr_RAbstractStringBuilder_append10: a.0...count, a.0.value.[] -/
def tr_RAbstractStringBuilder_append10 (a1 : Int32) (a0_count : Int32) (a0_value_v : Nat → Int32) (a0_value_n : Nat) (o1 : Int32) (o2 : Nat → Int32) : Prop := ∀ R : (Int32) → (Nat → Int32) → Prop,
  (∀ (x1 : Int32) (x2 : Int32) (x3 : Int32) (x4 : Nat → Int32), gB x1 1 11 → tr_RInteger_stringSize a1 x1 → x2.toInt = a0_count.toInt + x1.toInt → tr_RAbstractStringBuilder_ensureCapacityInternal3 x2 a0_value_n → gB x3 0 16777215 → tr_RInteger_getChars a1 x2 a0_value_v x3 x4 → R x2 x4) →
  R o1 o2
/- tr_RAbstractStringBuilder_append10_g2: a.0...count, a.0.value.#, a.0.value.[] -/
def tr_RAbstractStringBuilder_append10_g2 (a1 : Int32) (a0_count : Int32) (a0_value_v : Nat → Int32) (a0_value_n : Nat) (o1 : Int32) (o2 : Nat) (o3 : Nat → Int32) : Prop := ∀ R : (Int32) → (Nat) → (Nat → Int32) → Prop,
  (∀ (x1 : Int32) (x2 : Int32) (x3 : Nat) (x4 : Nat → Int32) (x5 : Int32) (x6 : Nat → Int32), gB x1 1 11 → tr_RInteger_stringSize a1 x1 → x2.toInt = a0_count.toInt + x1.toInt → tr_RAbstractStringBuilder_ensureCapacityInternal3_g2 x2 a0_value_v a0_value_n x3 x4 → gB x5 0 16777215 → tr_RInteger_getChars a1 x2 x4 x5 x6 → R x2 x3 x6) →
  R o1 o2 o3
abbrev ky_677485_AbstractStringBuilder_append : gKey := (cJ5_append_c97b9, 4, "java/lang/AbstractStringBuilder", (some (FieldType.object "java/lang/AbstractStringBuilder")), [], "append", fun _ _ => True)
def pp_677485_AbstractStringBuilder_append (D : va_G) (I : FieldType → ClassId) (P677473 : List Nat) (F677474 : Nat → va_E) (q677475 : Nat) (q677476 : Nat) (p677477 : Int32) (p677478 : Int32) (p677479 : Int32) (f677480 : Nat → Int32) (n677481 : Nat) : Option Value → va_W → Nat → Nat → Prop := fun r w dc ds => (∃ (F677588 : Nat → va_E) (o677585 : Int32) (f677586 : Nat → Int32), r = some (.ref q677475) ∧ w = va_pl P677473 F677588 ∧ rFr [q677475, q677476] P677473 F677474 F677588 ∧ F677588 q677475 = .inr (1, [.ref q677476, .int 0, .int p677478, .int o677585]) ∧ F677588 q677476 = .inl (I .byte, n677481, .inl f677586) ∧ dc ≤ 0 ∧ ds ≤ 0 ∧ gB o677585 1 16777216 ∧ gF f677586 (-128) 127 ∧ p677479.toInt ≤ o677585.toInt ∧ o677585.toInt ≤ p677479.toInt + 11 ∧ o677585.toInt ≤ (n677481 : Int) ∧ (n677481 : Int) ≤ (n677481 : Int) ∧ ((n677481 : Int) ≤ 2 * (n677481 : Int) + 2 ∨ (n677481 : Int) ≤ p677479.toInt + 11) ∧ ((n677481 : Int) = (n677481 : Int) ∨ (n677481 : Int) < o677585.toInt) ∧ ((n677481 : Int) = (n677481 : Int) ∨ 2 * (n677481 : Int) + 2 ≤ (n677481 : Int)) ∧ tr_RAbstractStringBuilder_append10 p677477 p677479 f677480 n677481 o677585 f677586) ∨ (∃ (P677593 : List Nat) (F677594 : Nat → va_E) (o677589 : Int32) (q677590 : Nat) (n677591 : Nat) (f677592 : Nat → Int32), r = some (.ref q677475) ∧ w = va_pl P677593 F677594 ∧ rSub P677473 P677593 ∧ rFr [q677475] P677473 F677474 F677594 ∧ F677594 q677475 = .inr (1, [.ref q677590, .int 0, .int p677478, .int o677589]) ∧ F677594 q677590 = .inl (I .byte, n677591, .inl f677592) ∧ q677590 ∈ P677593 ∧ q677590 ∉ P677473 ∧ dc ≤ (min 1 (n677591 - n677481)) ∧ ds ≤ 2 * (n677591 - n677481) ∧ gB o677589 1 16777216 ∧ gF f677592 (-128) 127 ∧ p677479.toInt ≤ o677589.toInt ∧ o677589.toInt ≤ p677479.toInt + 11 ∧ o677589.toInt ≤ (n677591 : Int) ∧ (n677481 : Int) ≤ (n677591 : Int) ∧ ((n677591 : Int) ≤ 2 * (n677481 : Int) + 2 ∨ (n677591 : Int) ≤ p677479.toInt + 11) ∧ ((n677591 : Int) = (n677481 : Int) ∨ (n677481 : Int) < o677589.toInt) ∧ ((n677591 : Int) = (n677481 : Int) ∨ 2 * (n677481 : Int) + 2 ≤ (n677591 : Int)) ∧ tr_RAbstractStringBuilder_append10_g2 p677477 p677479 f677480 n677481 o677589 n677591 f677592)
set_option maxRecDepth 100000 in
set_option maxHeartbeats 4000000 in
theorem cp_677485_AbstractStringBuilder_append (l : Launch) (hl0 : l.stackTraces = false) (D : va_G) (I : FieldType → ClassId) (P677473 : List Nat) (F677474 : Nat → va_E) (q677475 : Nat) (q677476 : Nat) (p677477 : Int32) (p677478 : Int32) (p677479 : Int32) (f677480 : Nat → Int32) (n677481 : Nat) (hmq677475 : q677475 ∈ P677473) (hmq677476 : q677476 ∈ P677473) (heq677475 : F677474 q677475 = .inr (1, [.ref q677476, .int 0, .int p677478, .int p677479])) (heq677476 : F677474 q677476 = .inl (I .byte, n677481, .inl f677480)) (bp677478 : gB p677478 0 1) (bp677479 : gB p677479 0 16777216) (bf677480 : gF f677480 (-128) 127) (x677482 : (n677481 : Int) ≤ 8388608 - 100000) (x677483 : p677479.toInt ≤ (n677481 : Int)) (x677484 : ((n677481 : Int) ≤ 16777216)) : CtA (gV D I) l yJ5_append_c97b9 cJ5_append_c97b9 4 (some (FieldType.object "java/lang/AbstractStringBuilder")) 4 84 1 (4 * n677481 + 64) [.ref q677475, .int p677477] (va_pl P677473 F677474) (pp_677485_AbstractStringBuilder_append D I P677473 F677474 q677475 q677476 p677477 p677478 p677479 f677480 n677481) gNA := by
  refine CtA_ofF hl0 (by decide +kernel) (Nat.le_of_ble_eq_true rfl) ?_
  have bp677477 := gB_any p677477
  refine G_aload_n 0 dr_cJ5_append_c97b9_0 rfl ?_
  refine Gp_get 3 hmq677475 heq677475 dr_cJ5_append_c97b9_1 (gk_J4 D I) (Nat.le_of_ble_eq_true rfl) wr_7_64 rfl ?_
  refine G_istore_n (L' := [(2, .int p677479), (0, .ref q677475), (1, .int p677477)]) dr_cJ5_append_c97b9_4 (Nat.le_of_ble_eq_true rfl) rfl ?_
  refine G_iload_n 0 dr_cJ5_append_c97b9_5 rfl ?_
  refine G_iload_n 2 dr_cJ5_append_c97b9_6 rfl ?_
  refine Gw_callS (As := [.int p677477]) (gV_ok D I) (cp_667577_Integer_stringSize l hl0 D I P677473 F677474 p677477 ) dr_cJ5_append_c97b9_7 ⟨wr_8_112, wr_1_35, wr_8_114, by decide, rfl, (Nat.le_of_ble_eq_true rfl), (Nat.le_of_ble_eq_true rfl)⟩ wr_8_113 (show 0 + 0 ≤ 1 by first | omega | decide) (show 0 + 0 ≤ (4 * n677481 + 64) by first | omega | decide) (Nat.le_of_ble_eq_true rfl) (fun r677489 w677490 dc677486 ds677487 hp677488 => ?_) (fun _ _ _ _ _ z => z.elim)
  obtain ⟨o677491, rfl, rfl, hdc, hds, bo677491, x677492, ht677493⟩ := hp677488
  change G _ _ _ _ _ _ _ (.int o677491 :: _) _ _ _
  refine G_widen (cs' := 0) (sl' := 0) (by omega) (by omega) ?_
  refine G_iadd dr_cJ5_append_c97b9_10 (G_nam fun z677494 hz677494 => ?_)
  have ez677494 : z677494.toInt = p677479.toInt + o677491.toInt := by rw [gI_add hz677494 bp677479 bo677491 (by decide) (by decide)]
  have bz677494 : gB z677494 1 16777227 := gB_add (gI_add hz677494 bp677479 bo677491 (by decide) (by decide)) bp677479 bo677491 (by decide) (by decide)
  refine G_istore_n (L' := [(3, .int z677494), (2, .int p677479), (0, .ref q677475), (1, .int p677477)]) dr_cJ5_append_c97b9_11 (Nat.le_of_ble_eq_true rfl) rfl ?_
  refine G_aload_n 2 dr_cJ5_append_c97b9_12 rfl ?_
  refine G_iload_n 0 dr_cJ5_append_c97b9_13 rfl ?_
  refine Gw_callVB (As := [.int z677494]) (gV_ok D I) (cp_677241_AbstractStringBuilder_ensureCapacityInternal l hl0 D I P677473 F677474 q677475 q677476 z677494 p677478 p677479 f677480 n677481 hmq677475 hmq677476 heq677475 heq677476 ⟨by omega, by omega⟩ bp677478 bp677479 bf677480 (by have qa0 : Int32.toInt 0 = 0 := (by decide); omega) (by have qa0 : Int32.toInt 0 = 0 := (by decide); omega)) dr_cJ5_append_c97b9_14 ⟨wr_8_4, wr_1_19, wr_8_7, by decide, rfl, (Nat.le_of_ble_eq_true rfl), (Nat.le_of_ble_eq_true rfl)⟩ wr_8_6 wr_s_0 hmq677475 heq677475 rfl (show 0 + 1 ≤ 1 by first | omega | decide) (show 0 + (2 * n677481 + 2 + z677494.toInt.toNat) ≤ (4 * n677481 + 64) by first | omega | decide) (Nat.le_of_ble_eq_true rfl) (fun r677498 w677499 dc677495 ds677496 hp677497 => ?_) (fun _ _ _ _ _ z => z.elim)
  rcases hp677497 with hp677500 | hp677501
  · obtain ⟨rfl, rfl, hdc, hds, x677502, x677503, x677504, x677505, x677506, x677507, ht677508⟩ := hp677500
    change G _ _ _ _ _ _ _ _ _ _ _
    refine G_widen (cs' := 0) (sl' := 0) (by omega) (by omega) ?_
    refine G_aload_n 2 dr_cJ5_append_c97b9_17 rfl ?_
    refine Gw_callVB (As := []) (gV_ok D I) (cp_658723_AbstractStringBuilder_isLatin1 l hl0 D I P677473 F677474 q677475 q677476 p677478 p677479 f677480 n677481 hmq677475 hmq677476 heq677475 heq677476 bp677478 bp677479 bf677480 (by have qa0 : Int32.toInt 0 = 0 := (by decide); omega)) dr_cJ5_append_c97b9_18 ⟨wr_8_33, wr_1_19, wr_8_37, by decide, rfl, (Nat.le_of_ble_eq_true rfl), (Nat.le_of_ble_eq_true rfl)⟩ wr_8_34 wr_8_36 hmq677475 heq677475 rfl (show 0 + 0 ≤ 1 by first | omega | decide) (show 0 + 0 ≤ (4 * n677481 + 64) by first | omega | decide) (Nat.le_of_ble_eq_true rfl) (fun r677512 w677513 dc677509 ds677510 hp677511 => ?_) (fun _ _ _ _ _ z => z.elim)
    obtain ⟨rfl, rfl, hdc, hds⟩ := hp677511
    change G _ _ _ _ _ _ _ (.int 1 :: _) _ _ _
    refine G_widen (cs' := 0) (sl' := 0) (by omega) (by omega) ?_
    refine G_if_eq 37 dr_cJ5_append_c97b9_21 (by decide +kernel) (fun hc => absurd hc (by decide)) (fun _ => ?_)
    refine G_iload_n 3 dr_cJ5_append_c97b9_24 rfl ?_
    refine G_iload_n 0 dr_cJ5_append_c97b9_25 rfl ?_
    refine G_aload_n 2 dr_cJ5_append_c97b9_26 rfl ?_
    refine Gp_get 0 hmq677475 heq677475 dr_cJ5_append_c97b9_27 (gk_J4 D I) (Nat.le_of_ble_eq_true rfl) wr_7_60 rfl ?_
    refine Gw_callS (As := [.int p677477, .int z677494, .ref q677476]) (gV_ok D I) (cp_667760_Integer_getChars l hl0 D I P677473 F677474 q677476 p677477 z677494 f677480 n677481 hmq677476 heq677476 ⟨by omega, by omega⟩ bf677480 (by have qa0 : Int32.toInt 0 = 0 := (by decide); omega) (by have q10 : Int32.toInt 10 = 10 := (by decide); have q11 : Int32.toInt 11 = 11 := (by decide); first | exact dgS_up (by omega) (by omega) x677492 (by omega)) (by have qa0 : Int32.toInt 0 = 0 := (by decide); omega)) dr_cJ5_append_c97b9_30 ⟨wr_8_115, wr_1_35, wr_8_117, by decide, rfl, (Nat.le_of_ble_eq_true rfl), (Nat.le_of_ble_eq_true rfl)⟩ wr_8_116 (show 0 + 0 ≤ 1 by first | omega | decide) (show 0 + 0 ≤ (4 * n677481 + 64) by first | omega | decide) (Nat.le_of_ble_eq_true rfl) (fun r677517 w677518 dc677514 ds677515 hp677516 => ?_) (fun _ _ _ _ _ z => z.elim)
    obtain ⟨F677522, o677519, f677520, rfl, rfl, hfr677524, he677525, hdc, hds, bo677519, bf677520, ht677521⟩ := hp677516
    have he677526 : F677522 q677475 = .inr (1, [.ref q677476, .int 0, .int p677478, .int p677479]) := (hfr677524 q677475 hmq677475 (nm_c (rn_oa heq677475 heq677476) nm_n)).trans heq677475
    have hfr677527 : rFr [q677476] P677473 F677474 F677522 := rFr_call (rSub_rf (P := P677473)) (rFr_rf (W := []) (P := P677473) (F := F677474)) hfr677524 (fun b hb hn => ⟨nm_n, (nm_c (fun e => hn (e ▸ List.mem_cons_self)) nm_n)⟩)
    change G _ _ _ _ _ _ _ (.int o677519 :: _) _ _ _
    refine G_widen (cs' := 0) (sl' := 0) (by omega) (by omega) ?_
    refine G_pop dr_cJ5_append_c97b9_33 rfl ?_
    refine G_goto 48 dr_cJ5_append_c97b9_34 (by decide +kernel) ?_
    refine G_aload_n 2 dr_cJ5_append_c97b9_48 rfl ?_
    refine G_iload_n 0 dr_cJ5_append_c97b9_49 rfl ?_
    refine Gp_put 3 hmq677475 he677526 dr_cJ5_append_c97b9_50 (gk_J4 D I) (Nat.le_of_ble_eq_true rfl) wr_7_64 rfl rfl rfl (Nat.le_of_ble_eq_true rfl) (fun F677528 e677529 n677530 => ?_)
    have he677531 : F677528 q677476 = .inl (I .byte, n677481, .inl f677520) := (n677530 q677476 (rn_ao he677525 he677526)).trans he677525
    have he677532 : F677528 q677475 = .inr (1, [.ref q677476, .int 0, .int p677478, .int z677494]) := e677529
    have hfr677533 : rFr [q677475, q677476] P677473 F677474 F677528 := rFr_put hfr677527 n677530
    refine G_aload_n 2 dr_cJ5_append_c97b9_53 rfl ?_
    exact G_aretA (FieldType.object "java/lang/AbstractStringBuilder") dr_cJ5_append_c97b9_54 rfl (by first | exact Or.inl ⟨_, rfl⟩ | exact Or.inr ⟨_, rfl⟩) (Or.inr ⟨_, rfl⟩) (Nat.le_of_ble_eq_true rfl) (Nat.le_of_ble_eq_true rfl) (Or.inl ⟨F677528, z677494, f677520, rfl, rfl, hfr677533, he677532, he677531, (Nat.le_of_ble_eq_true rfl), (Nat.le_of_ble_eq_true rfl), ⟨by omega, by omega⟩, bf677520, (by have qa0 : Int32.toInt 0 = 0 := (by decide); omega), (by have qa0 : Int32.toInt 0 = 0 := (by decide); omega), (by have qa0 : Int32.toInt 0 = 0 := (by decide); omega), (by have qa0 : Int32.toInt 0 = 0 := (by decide); omega), (by have qa0 : Int32.toInt 0 = 0 := (by decide); omega), (by have qa0 : Int32.toInt 0 = 0 := (by decide); omega), (by have qa0 : Int32.toInt 0 = 0 := (by decide); omega), (fun R c1 => c1 o677491 z677494 o677519 f677520 bo677491 ht677493 ez677494 ht677508 bo677519 ht677521)⟩)
  · obtain ⟨P677544, F677545, q677534, n677535, f677536, rfl, rfl, hsb677546, hfr677547, he677548, he677549, hm677550, hq677551, hdc, hds, bf677536, x677537, x677538, x677539, x677540, x677541, x677542, ht677543⟩ := hp677501
    have hm677552 : q677475 ∈ P677544 := hsb677546 q677475 hmq677475
    have hm677553 : q677476 ∈ P677544 := hsb677546 q677476 hmq677476
    have hq677554 : q677534 ∉ P677473 := fun z => hq677551 ((rSub_rf (P := P677473)) q677534 z)
    have hsb677555 : rSub P677473 P677544 := rSub_tr (rSub_rf (P := P677473)) hsb677546
    have he677556 : F677545 q677476 = .inl (I .byte, n677481, .inl f677480) := (hfr677547 q677476 hmq677476 (nm_c (rn_ao heq677476 heq677475) nm_n)).trans heq677476
    have hfr677557 : rFr [q677475] P677473 F677474 F677545 := rFr_call (rSub_rf (P := P677473)) (rFr_rf (W := []) (P := P677473) (F := F677474)) hfr677547 (fun b hb hn => ⟨nm_n, (nm_c (fun e => hn (e ▸ List.mem_cons_self)) nm_n)⟩)
    change G _ _ _ _ _ _ _ _ _ _ _
    refine G_widen (cs' := (min 1 (n677535 - n677481))) (sl' := 2 * (n677535 - n677481)) (by omega) (by omega) ?_
    refine G_aload_n 2 dr_cJ5_append_c97b9_17 rfl ?_
    refine Gw_callVB (As := []) (gV_ok D I) (cp_658723_AbstractStringBuilder_isLatin1 l hl0 D I P677544 F677545 q677475 q677534 p677478 p677479 f677536 n677535 hm677552 hm677550 he677548 he677549 bp677478 bp677479 bf677536 (by have qa0 : Int32.toInt 0 = 0 := (by decide); omega)) dr_cJ5_append_c97b9_18 ⟨wr_8_33, wr_1_19, wr_8_37, by decide, rfl, (Nat.le_of_ble_eq_true rfl), (Nat.le_of_ble_eq_true rfl)⟩ wr_8_34 wr_8_36 hm677552 he677548 rfl (show (min 1 (n677535 - n677481)) + 0 ≤ 1 by first | omega | decide) (show 2 * (n677535 - n677481) + 0 ≤ (4 * n677481 + 64) by first | omega | decide) (Nat.le_of_ble_eq_true rfl) (fun r677561 w677562 dc677558 ds677559 hp677560 => ?_) (fun _ _ _ _ _ z => z.elim)
    obtain ⟨rfl, rfl, hdc, hds⟩ := hp677560
    change G _ _ _ _ _ _ _ (.int 1 :: _) _ _ _
    refine G_widen (cs' := (min 1 (n677535 - n677481)) + 0) (sl' := 2 * (n677535 - n677481) + 0) (by omega) (by omega) ?_
    refine G_if_eq 37 dr_cJ5_append_c97b9_21 (by decide +kernel) (fun hc => absurd hc (by decide)) (fun _ => ?_)
    refine G_iload_n 3 dr_cJ5_append_c97b9_24 rfl ?_
    refine G_iload_n 0 dr_cJ5_append_c97b9_25 rfl ?_
    refine G_aload_n 2 dr_cJ5_append_c97b9_26 rfl ?_
    refine Gp_get 0 hm677552 he677548 dr_cJ5_append_c97b9_27 (gk_J4 D I) (Nat.le_of_ble_eq_true rfl) wr_7_60 rfl ?_
    refine Gw_callS (As := [.int p677477, .int z677494, .ref q677534]) (gV_ok D I) (cp_667760_Integer_getChars l hl0 D I P677544 F677545 q677534 p677477 z677494 f677536 n677535 hm677550 he677549 ⟨by omega, by omega⟩ bf677536 (by have qa0 : Int32.toInt 0 = 0 := (by decide); omega) (by have q10 : Int32.toInt 10 = 10 := (by decide); have q11 : Int32.toInt 11 = 11 := (by decide); first | exact dgS_up (by omega) (by omega) x677492 (by omega)) (by have qa0 : Int32.toInt 0 = 0 := (by decide); omega)) dr_cJ5_append_c97b9_30 ⟨wr_8_115, wr_1_35, wr_8_117, by decide, rfl, (Nat.le_of_ble_eq_true rfl), (Nat.le_of_ble_eq_true rfl)⟩ wr_8_116 (show (min 1 (n677535 - n677481)) + 0 + 0 ≤ 1 by first | omega | decide) (show 2 * (n677535 - n677481) + 0 + 0 ≤ (4 * n677481 + 64) by first | omega | decide) (Nat.le_of_ble_eq_true rfl) (fun r677566 w677567 dc677563 ds677564 hp677565 => ?_) (fun _ _ _ _ _ z => z.elim)
    obtain ⟨F677571, o677568, f677569, rfl, rfl, hfr677573, he677574, hdc, hds, bo677568, bf677569, ht677570⟩ := hp677565
    have he677575 : F677571 q677476 = .inl (I .byte, n677481, .inl f677480) := (hfr677573 q677476 hm677553 (nm_c (fun h => hq677554 (h ▸ hmq677476)) nm_n)).trans he677556
    have he677576 : F677571 q677475 = .inr (1, [.ref q677534, .int 0, .int p677478, .int p677479]) := (hfr677573 q677475 hm677552 (nm_c (fun h => hq677554 (h ▸ hmq677475)) nm_n)).trans he677548
    have hfr677577 : rFr [q677475] P677473 F677474 F677571 := rFr_call hsb677555 hfr677557 hfr677573 (fun b hb hn => ⟨(nm_c (fun e => hn (e ▸ List.mem_cons_self)) nm_n), (nm_c (fun e => hq677554 (e ▸ hb)) nm_n)⟩)
    change G _ _ _ _ _ _ _ (.int o677568 :: _) _ _ _
    refine G_widen (cs' := (min 1 (n677535 - n677481)) + 0 + 0) (sl' := 2 * (n677535 - n677481) + 0 + 0) (by omega) (by omega) ?_
    refine G_pop dr_cJ5_append_c97b9_33 rfl ?_
    refine G_goto 48 dr_cJ5_append_c97b9_34 (by decide +kernel) ?_
    refine G_aload_n 2 dr_cJ5_append_c97b9_48 rfl ?_
    refine G_iload_n 0 dr_cJ5_append_c97b9_49 rfl ?_
    refine Gp_put 3 hm677552 he677576 dr_cJ5_append_c97b9_50 (gk_J4 D I) (Nat.le_of_ble_eq_true rfl) wr_7_64 rfl rfl rfl (Nat.le_of_ble_eq_true rfl) (fun F677578 e677579 n677580 => ?_)
    have he677581 : F677578 q677476 = .inl (I .byte, n677481, .inl f677480) := (n677580 q677476 (rn_ao he677575 he677576)).trans he677575
    have he677582 : F677578 q677534 = .inl (I .byte, n677535, .inl f677569) := (n677580 q677534 (fun h => hq677554 (h ▸ hmq677475))).trans he677574
    have he677583 : F677578 q677475 = .inr (1, [.ref q677534, .int 0, .int p677478, .int z677494]) := e677579
    have hfr677584 : rFr [q677475] P677473 F677474 F677578 := rFr_put' List.mem_cons_self hfr677577 n677580
    refine G_aload_n 2 dr_cJ5_append_c97b9_53 rfl ?_
    exact G_aretA (FieldType.object "java/lang/AbstractStringBuilder") dr_cJ5_append_c97b9_54 rfl (by first | exact Or.inl ⟨_, rfl⟩ | exact Or.inr ⟨_, rfl⟩) (Or.inr ⟨_, rfl⟩) (show (min 1 (n677535 - n677481)) + 0 + 0 ≤ 1 by omega) (show 2 * (n677535 - n677481) + 0 + 0 ≤ (4 * n677481 + 64) by omega) (Or.inr (⟨P677544, F677578, z677494, q677534, n677535, f677569, rfl, rfl, hsb677555, hfr677584, he677583, he677582, hm677550, hq677554, (by omega), (by omega), ⟨by omega, by omega⟩, bf677569, (by have qa0 : Int32.toInt 0 = 0 := (by decide); omega), (by have qa0 : Int32.toInt 0 = 0 := (by decide); omega), (by have qa0 : Int32.toInt 0 = 0 := (by decide); omega), (by have qa0 : Int32.toInt 0 = 0 := (by decide); omega), (by have qa0 : Int32.toInt 0 = 0 := (by decide); omega), (by have qa0 : Int32.toInt 0 = 0 := (by decide); omega), (by have qa0 : Int32.toInt 0 = 0 := (by decide); omega), (fun R c1 => c1 o677491 z677494 n677535 f677536 o677568 f677569 bo677491 ht677493 ez677494 ht677543 bo677568 ht677570)⟩))
/- tr_RStringBuilder_append10: a.0...count, a.0.value.[] -/
def tr_RStringBuilder_append10 (a1 : Int32) (a0_count : Int32) (a0_value_v : Nat → Int32) (a0_value_n : Nat) (o1 : Int32) (o2 : Nat → Int32) : Prop := ∀ R : (Int32) → (Nat → Int32) → Prop,
  (∀ (x1 : Int32) (x2 : Nat → Int32), gB x1 1 16777216 → tr_RAbstractStringBuilder_append10 a1 a0_count a0_value_v a0_value_n x1 x2 → R x1 x2) →
  R o1 o2
/- tr_RStringBuilder_append10_g2: a.0...count, a.0.value.#, a.0.value.[] -/
def tr_RStringBuilder_append10_g2 (a1 : Int32) (a0_count : Int32) (a0_value_v : Nat → Int32) (a0_value_n : Nat) (o1 : Int32) (o2 : Nat) (o3 : Nat → Int32) : Prop := ∀ R : (Int32) → (Nat) → (Nat → Int32) → Prop,
  (∀ (x1 : Int32) (x2 : Nat) (x3 : Nat → Int32), gB x1 1 16777216 → tr_RAbstractStringBuilder_append10_g2 a1 a0_count a0_value_v a0_value_n x1 x2 x3 → R x1 x2 x3) →
  R o1 o2 o3
