theorem dr_cX17_list___96 : decode cX17_list__ 96 = .ok (.iload_n 2, 1) := by decide +kernel
theorem dr_cX17_list___97 : decode cX17_list__ 97 = .ok (.aload_n 0, 1) := by decide +kernel
theorem dr_cX17_list___98 : decode cX17_list__ 98 = .ok (.getfield 426, 3) := by decide +kernel
theorem dr_cX17_list___101 : decode cX17_list__ 101 = .ok (.if_icmp .ge 24, 3) := by decide +kernel
theorem dr_cX17_list___104 : decode cX17_list__ 104 = .ok (.aload_n 0, 1) := by decide +kernel
theorem dr_cX17_list___105 : decode cX17_list__ 105 = .ok (.getfield 378, 3) := by decide +kernel
theorem dr_cX17_list___108 : decode cX17_list__ 108 = .ok (.iload_n 2, 1) := by decide +kernel
theorem dr_cX17_list___109 : decode cX17_list__ 109 = .ok (.aload_n 0, 1) := by decide +kernel
theorem dr_cX17_list___110 : decode cX17_list__ 110 = .ok (.getfield 316, 3) := by decide +kernel
theorem dr_cX17_list___113 : decode cX17_list__ 113 = .ok (.iload_n 2, 1) := by decide +kernel
theorem dr_cX17_list___114 : decode cX17_list__ 114 = .ok (.invokevirtual 443, 3) := by decide +kernel
theorem wr_11_209 : (Jvm.Cond.methodLink "SpillForgeModel" (443 : Nat) ({ cls := "java/lang/StringBuilder", name := "charAt", desc := "(I)C" } : Jvm.MethodName)) ∈ gw := gw_11 209 rfl rfl
theorem wr_11_212 : (Jvm.Cond.code ({ cls := "java/lang/StringBuilder", name := "charAt", desc := "(I)C" } : Jvm.MethodName) prog_35_method_88_code (2 : Nat) (Option.some Jvm.ClassFile.FieldType.char)) ∈ gw := gw_11 212 rfl rfl
theorem wr_11_210 : (Jvm.Cond.instanceMethod ({ cls := "java/lang/StringBuilder", name := "charAt", desc := "(I)C" } : Jvm.MethodName)) ∈ gw := gw_11 210 rfl rfl
theorem wr_11_211 : (Jvm.Cond.selects "java/lang/StringBuilder" ({ cls := "java/lang/StringBuilder", name := "charAt", desc := "(I)C" } : Jvm.MethodName) ({ cls := "java/lang/StringBuilder", name := "charAt", desc := "(I)C" } : Jvm.MethodName)) ∈ gw := gw_11 211 rfl rfl
theorem dr_cX17_list___117 : decode cX17_list__ 117 = .ok (.i2b, 1) := by decide +kernel
theorem dr_cX17_list___118 : decode cX17_list__ 118 = .ok (.bastore, 1) := by decide +kernel
theorem dr_cX17_list___119 : decode cX17_list__ 119 = .ok (.iinc 2 1, 3) := by decide +kernel
theorem dr_cX17_list___122 : decode cX17_list__ 122 = .ok (.goto (-26), 3) := by decide +kernel
theorem dr_cX17_list___0 : decode cX17_list__ 0 = .ok (.aload_n 0, 1) := by decide +kernel
theorem dr_cX17_list___1 : decode cX17_list__ 1 = .ok (.iconst 0, 1) := by decide +kernel
theorem dr_cX17_list___2 : decode cX17_list__ 2 = .ok (.putfield 380, 3) := by decide +kernel
theorem dr_cX17_list___26 : decode cX17_list__ 26 = .ok (.aload_n 0, 1) := by decide +kernel
theorem dr_cX17_list___27 : decode cX17_list__ 27 = .ok (.iconst 1, 1) := by decide +kernel
theorem dr_cX17_list___28 : decode cX17_list__ 28 = .ok (.invokevirtual 385, 3) := by decide +kernel
theorem dr_cX17_list___31 : decode cX17_list__ 31 = .ok (.ireturn, 1) := by decide +kernel
theorem dr_cX17_list___48 : decode cX17_list__ 48 = .ok (.invokevirtual 438, 3) := by decide +kernel
theorem wr_11_121 : (Jvm.Cond.methodLink "SpillForgeModel" (438 : Nat) ({ cls := "SpillForgeModel", name := "list", desc := "(LSpillForgeModel$Code;)V" } : Jvm.MethodName)) ∈ gw := gw_11 121 rfl rfl
theorem wr_11_124 : (Jvm.Cond.code ({ cls := "SpillForgeModel", name := "list", desc := "(LSpillForgeModel$Code;)V" } : Jvm.MethodName) prog_14_method_32_code (5 : Nat) (Option.none : Option Jvm.ClassFile.FieldType)) ∈ gw := gw_11 124 rfl rfl
theorem wr_11_123 : (Jvm.Cond.instanceMethod ({ cls := "SpillForgeModel", name := "list", desc := "(LSpillForgeModel$Code;)V" } : Jvm.MethodName)) ∈ gw := gw_11 123 rfl rfl
theorem wr_p_116 : Cond.selects "SpillForgeModel" ⟨"SpillForgeModel", "list", "(LSpillForgeModel$Code;)V"⟩ ⟨"SpillForgeModel", "list", "(LSpillForgeModel$Code;)V"⟩ ∈ gw := gw_p _ 116 rfl rfl rfl
theorem dr_cX17_list___94 : decode cX17_list__ 94 = .ok (.iconst 0, 1) := by decide +kernel
theorem dr_cX17_list___95 : decode cX17_list__ 95 = .ok (.istore_n 2, 1) := by decide +kernel
theorem dr_cX17_list___125 : decode cX17_list__ 125 = .ok (.aload_n 0, 1) := by decide +kernel
theorem dr_cX17_list___126 : decode cX17_list__ 126 = .ok (.getfield 426, 3) := by decide +kernel
theorem dr_cX17_list___129 : decode cX17_list__ 129 = .ok (.ireturn, 1) := by decide +kernel
theorem dr_cX17_list___51 : decode cX17_list__ 51 = .ok (.aload_n 0, 1) := by decide +kernel
theorem dr_cX17_list___52 : decode cX17_list__ 52 = .ok (.aload_n 0, 1) := by decide +kernel
theorem dr_cX17_list___53 : decode cX17_list__ 53 = .ok (.getfield 316, 3) := by decide +kernel
theorem dr_cX17_list___56 : decode cX17_list__ 56 = .ok (.invokevirtual 440, 3) := by decide +kernel
theorem wr_11_208 : (Jvm.Cond.methodLink "SpillForgeModel" (440 : Nat) ({ cls := "java/lang/StringBuilder", name := "length", desc := "()I" } : Jvm.MethodName)) ∈ gw := gw_11 208 rfl rfl
theorem wr_11_234 : (Jvm.Cond.selects "java/lang/StringBuilder" ({ cls := "java/lang/StringBuilder", name := "length", desc := "()I" } : Jvm.MethodName) ({ cls := "java/lang/StringBuilder", name := "length", desc := "()I" } : Jvm.MethodName)) ∈ gw := gw_11 234 rfl rfl
theorem dr_cX17_list___59 : decode cX17_list__ 59 = .ok (.putfield 426, 3) := by decide +kernel
theorem dr_cX17_list___62 : decode cX17_list__ 62 = .ok (.aload_n 0, 1) := by decide +kernel
theorem dr_cX17_list___63 : decode cX17_list__ 63 = .ok (.getfield 378, 3) := by decide +kernel
theorem dr_cX17_list___66 : decode cX17_list__ 66 = .ok (.arraylength, 1) := by decide +kernel
theorem dr_cX17_list___67 : decode cX17_list__ 67 = .ok (.aload_n 0, 1) := by decide +kernel
theorem dr_cX17_list___68 : decode cX17_list__ 68 = .ok (.getfield 426, 3) := by decide +kernel
theorem dr_cX17_list___71 : decode cX17_list__ 71 = .ok (.if_icmp .ge 23, 3) := by decide +kernel
theorem dr_cX17_list___74 : decode cX17_list__ 74 = .ok (.aload_n 0, 1) := by decide +kernel
theorem dr_cX17_list___75 : decode cX17_list__ 75 = .ok (.aload_n 0, 1) := by decide +kernel
theorem dr_cX17_list___76 : decode cX17_list__ 76 = .ok (.getfield 426, 3) := by decide +kernel
theorem dr_cX17_list___79 : decode cX17_list__ 79 = .ok (.iconst 2, 1) := by decide +kernel
theorem dr_cX17_list___80 : decode cX17_list__ 80 = .ok (.aload_n 0, 1) := by decide +kernel
theorem dr_cX17_list___81 : decode cX17_list__ 81 = .ok (.getfield 378, 3) := by decide +kernel
theorem dr_cX17_list___84 : decode cX17_list__ 84 = .ok (.arraylength, 1) := by decide +kernel
theorem dr_cX17_list___85 : decode cX17_list__ 85 = .ok (.imul, 1) := by decide +kernel
theorem dr_cX17_list___86 : decode cX17_list__ 86 = .ok (.invokestatic 189, 3) := by decide +kernel
theorem dr_cX17_list___89 : decode cX17_list__ 89 = .ok (.newarray .byte, 2) := by decide +kernel
theorem dr_cX17_list___91 : decode cX17_list__ 91 = .ok (.putfield 378, 3) := by decide +kernel
theorem dr_cX17_list___32 : decode cX17_list__ 32 = .ok (.aload_n 0, 1) := by decide +kernel
theorem dr_cX17_list___33 : decode cX17_list__ 33 = .ok (.iload_n 1, 1) := by decide +kernel
theorem dr_cX17_list___34 : decode cX17_list__ 34 = .ok (.ifCond .eq 10, 3) := by decide +kernel
theorem dr_cX17_list___44 : decode cX17_list__ 44 = .ok (.aload_n 0, 1) := by decide +kernel
theorem dr_cX17_list___45 : decode cX17_list__ 45 = .ok (.getfield 361, 3) := by decide +kernel
theorem dr_cX17_list___37 : decode cX17_list__ 37 = .ok (.aload_n 0, 1) := by decide +kernel
theorem dr_cX17_list___38 : decode cX17_list__ 38 = .ok (.getfield 365, 3) := by decide +kernel
theorem dr_cX17_list___41 : decode cX17_list__ 41 = .ok (.goto 7, 3) := by decide +kernel
theorem dr_cX17_list___5 : decode cX17_list__ 5 = .ok (.iload_n 1, 1) := by decide +kernel
theorem dr_cX17_list___6 : decode cX17_list__ 6 = .ok (.ifCond .eq 13, 3) := by decide +kernel
theorem dr_cX17_list___19 : decode cX17_list__ 19 = .ok (.aload_n 0, 1) := by decide +kernel
theorem dr_cX17_list___20 : decode cX17_list__ 20 = .ok (.getfield 414, 3) := by decide +kernel
theorem dr_cX17_list___23 : decode cX17_list__ 23 = .ok (.ifCond .ne 9, 3) := by decide +kernel
theorem dr_cX17_list___9 : decode cX17_list__ 9 = .ok (.aload_n 0, 1) := by decide +kernel
theorem dr_cX17_list___10 : decode cX17_list__ 10 = .ok (.getfield 416, 3) := by decide +kernel
theorem dr_cX17_list___13 : decode cX17_list__ 13 = .ok (.ifCond .ne 19, 3) := by decide +kernel
theorem dr_cX17_list___16 : decode cX17_list__ 16 = .ok (.goto 10, 3) := by decide +kernel
abbrev ky_lsb : gKey := (cX17_list__, 3, "SpillForgeModel", (some FieldType.int), [], "list", fun _ _ => True)
set_option maxRecDepth 100000 in
set_option maxHeartbeats 4000000 in
theorem ls_cp {l : Launch} {D : va_G} {I : FieldType → ClassId} {P : List Nat} {F1 : Nat → va_E} {γ : Nat → Nat → Nat} {m Ra N a n cs sl mc ms r28 : Nat} {Qf : gFin} {fa : Nat → Int32} {gi mb v9 v10 v11 v12 v13 v14 v23 v24 v25 v26 v27 v30 v32 v33 v34 : Int32} (hl0 : l.stackTraces = false) (mm : m ∈ P) (mR : Ra ∈ P) (mW : γ 9 29 ∈ P) (ma : a ∈ P) (hmR : m ≠ Ra) (hWR : γ 9 29 ≠ Ra) (haR : a ≠ Ra)
    (em : F1 m = mdE γ r28 Ra v9 v10 v11 v12 v13 v14 v23 v24 v25 v26 v27 v30 v32 v33 v34) (eW : F1 (γ 9 29) = .inr (1, [.ref a, .int 0, .int mb, .int v34])) (ea : F1 a = .inl (I .byte, n, .inl fa)) (bmb : gB mb 0 1) (b34 : gB v34 0 8000000) (bfa : gF fa (-128) 127) (hn : v34.toInt ≤ (n : Int)) (hn2 : n ≤ 16777216) (hN : v34.toInt ≤ (N : Int)) (hcs : cs ≤ mc) (hsl : sl ≤ ms)
    (kk : ∀ (F : Nat → va_E) (k : Int32) (f : Nat → Int32), (∀ b, b ≠ Ra → F b = F1 b) → F Ra = .inl (I .byte, N, .inl f) → gF f (-128) 127 → (∀ i, i < v34.toInt.toNat → f i = fa i) → G (gV D I) l (gRm 9 230 mc ms) Qf ky_lsb 125 [(2, .int k), (0, .ref m), (1, .int gi)] [] (va_pl P F) cs sl) :
    ∀ (μ : Nat) (F : Nat → va_E) (k : Int32) (f : Nat → Int32), v34.toInt - k.toInt < (μ : Int) → 0 ≤ k.toInt → k.toInt ≤ v34.toInt → (∀ b, b ≠ Ra → F b = F1 b) → F Ra = .inl (I .byte, N, .inl f) → gF f (-128) 127 → (∀ i, i < k.toInt.toNat → f i = fa i) → G (gV D I) l (gRm 9 230 mc ms) Qf ky_lsb 96 [(2, .int k), (0, .ref m), (1, .int gi)] [] (va_pl P F) cs sl := by
  intro μ
  induction μ with
  | zero => intro F k f h _ h1 _ _ _ _; exact absurd h (by omega)
  | succ μ ih =>
  intro F k f hμ h0 h1 hF eR hf hfa
  have em' := (hF m hmR).trans em
  have eW' := (hF _ hWR).trans eW
  have ea' := (hF a haR).trans ea
  have q34 := b34.2
  refine G_iload_n 0 dr_cX17_list___96 rfl ?_
  refine G_aload_n 1 dr_cX17_list___97 rfl ?_
  refine Gp_get 34 mm em' dr_cX17_list___98 (gk_X17 D I) (Nat.le_of_ble_eq_true rfl) wr_7_108 rfl ?_
  refine G_icmp_ge 125 dr_cX17_list___101 (by decide +kernel) (fun hc => kk F k f hF eR hf (fun i hi => hfa i (by have q : v34.toInt ≤ k.toInt := gj_le hc rfl; omega))) (fun hc => ?_)
  have hlt : k.toInt < v34.toInt := gj_nle hc rfl
  refine G_aload_n 1 dr_cX17_list___104 rfl ?_
  refine Gp_get 35 mm em' dr_cX17_list___105 (gk_X17 D I) (Nat.le_of_ble_eq_true rfl) wr_7_109 rfl ?_
  refine G_iload_n 0 dr_cX17_list___108 rfl ?_
  refine G_aload_n 1 dr_cX17_list___109 rfl ?_
  refine Gp_get 29 mm em' dr_cX17_list___110 (gk_X17 D I) (Nat.le_of_ble_eq_true rfl) wr_7_103 rfl ?_
  refine G_iload_n 0 dr_cX17_list___113 rfl ?_
  refine Gw_callV (As := [.int k]) (gV_ok D I) (cp_658601_StringBuilder_charAt l hl0 D I P F (γ 9 29) a k mb v34 fa n mW ma eW' ea' ⟨h0, by omega⟩ bmb (gB_w b34 (by decide) (by decide)) bfa hlt hn (by omega)) dr_cX17_list___114 ⟨wr_11_209, wr_1_20, wr_11_212, by decide, rfl, (Nat.le_of_ble_eq_true rfl), (Nat.le_of_ble_eq_true rfl)⟩ wr_11_210 wr_11_211 mW eW' rfl (show _ ≤ mc by omega) (show _ ≤ ms by omega) (Nat.le_of_ble_eq_true rfl) (fun r w dc ds hp => ?_) (fun _ _ _ _ _ z => z.elim)
  obtain ⟨o, rfl, rfl, hdc, hds, bo, ht⟩ := hp
  change G _ _ _ _ _ _ _ (.int o :: .int k :: .ref Ra :: []) _ _ _
  refine G_widen (cs' := cs) (sl' := sl) (by omega) (by omega) ?_
  refine G_i2b dr_cX17_list___117 (G_nam fun z hz => ?_)
  refine Gp_bast 1 mR eR dr_cX17_list___118 rfl (gB_inr h0 (by omega)) (fun F2 e2 n2 => ?_)
  obtain ⟨k1, hk1⟩ : ∃ z, z = k + 1 := ⟨_, rfl⟩
  have ek : k1.toInt = k.toInt + 1 := by rw [gI_add hk1 (⟨h0, by omega⟩ : gB k 0 8000000) (gBl (show Int32.toInt 1 = 1 by decide)) (by decide) (by decide), show Int32.toInt 1 = 1 from by decide]
  refine G_iinc (L' := [(2, .int k1), (0, .ref m), (1, .int gi)]) k1 0 dr_cX17_list___119 rfl (by rw [hk1]; rfl) (Nat.le_of_ble_eq_true rfl) rfl ?_
  refine G_goto 96 dr_cX17_list___122 (by decide +kernel) ?_
  exact ih F2 k1 _ (by omega) (by omega) (by omega) (fun b hb => (n2 b hb).trans (hF b hb)) e2 (gF_upd rfl hf gB_byte) (fun i hi => by
    have ekn : k.toNatClampNeg = k.toInt.toNat := rfl
    by_cases c : i = k.toInt.toNat
    · rw [c, ekn, updE]; exact chbt hz ht
    · rw [ekn, updN c]; exact hfa i (by omega))
abbrev ky_mno : gKey := (cX17_no, 2, "SpillForgeModel", (some FieldType.int), [], "no", fun _ _ => True)
/-- what no(x) leaves: the model's thrown -/
def noP (D : va_G) (I : FieldType → ClassId) (P : List Nat) (F : Nat → va_E) (γ el : Nat → Nat → Nat) (m : Nat) (x : Int32) : Option Value → va_W → Nat → Nat → Prop := fun r w dc ds => ∃ F1 : Nat → va_E, r = some (.int 0) ∧ w = va_pl P F1 ∧ RS D I P F1 γ el ∧ (∀ b, b ≠ m → F1 b = F b) ∧ fI (F1 m) 9 = fI (F m) 9 ∧ fI (F1 m) 10 = fI (F m) 10 ∧ fI (F1 m) 32 = fI (F m) 32 ∧ dc ≤ 0 ∧ ds ≤ 0 ∧ fR (F1 m) 35 = fR (F m) 35 ∧ mO (F1 m) = mO (F m) ∧ fI (F1 m) 30 = x
theorem cp_mno (l : Launch) (hl0 : l.stackTraces = false) (D : va_G) (I : FieldType → ClassId) {P : List Nat} {F : Nat → va_E} {γ el : Nat → Nat → Nat} {m : Nat} {x : Int32} (hT : RS D I P F γ el) (hm : γ 0 m = 10) :
    CtA (gV D I) l yX17_no cX17_no 2 (some FieldType.int) 0 0 0 0 [.ref m, .int x] (va_pl P F) (noP D I P F γ el m x) gNA := by
  refine CtA_of hl0 (by decide) (Nat.le_of_ble_eq_true rfl) ?_
  obtain ⟨r28, r35, v9, v10, v11, v12, v13, v14, v23, v24, v25, v26, v27, v30, v32, v33, v34, he, hM1, hK, hM2⟩ := rk10_m (show rk_10 γ (F m) from RS_o hT hm)
  have mm : m ∈ P := hT.1 m (by omega)
  refine G_aload_n 0 dr_cX17_no_0 rfl ?_
  refine G_iload_n 1 dr_cX17_no_1 rfl ?_
  refine Gp_put 30 mm he dr_cX17_no_2 (gk_X17 D I) (Nat.le_of_ble_eq_true rfl) wr_7_104 rfl rfl rfl (Nat.le_of_ble_eq_true rfl) (fun F1 e1 n1 => ?_)
  have e1' : F1 m = mdE γ r28 r35 v9 v10 v11 v12 v13 v14 v23 v24 v25 v26 v27 x v32 v33 v34 := e1
  refine G_iconst 0 dr_cX17_no_5 (by decide +kernel) ?_
  exact G_iretA dr_cX17_no_6 rfl (Nat.le_refl _) (Nat.le_refl _) ⟨F1, rfl, rfl, RS_md hT hm n1 e1' hM1 hK hM2, n1, by rw [e1', he]; rfl, by rw [e1', he]; rfl, by rw [e1', he]; rfl, Nat.le_refl _, Nat.le_refl _, by rw [e1', he]; rfl, by rw [e1', he]; rfl, by rw [e1']; rfl⟩
/-- what list(given) costs: by the growth of the words and of the result -/
def lsC (n L n1 L1 C dc ds : Nat) : Prop := n ≤ n1 ∧ (n1 = n ∨ n1 ≤ 2 * C + 16) ∧ L ≤ L1 ∧ (L1 = L ∨ L1 ≤ 2 * C) ∧ 128 * dc + 64 * n + 2 * L ≤ 64 * n1 + 2 * L1 ∧ ds + 2 * n + 2 * L ≤ 2 * n1 + 2 * L1
theorem lsA {n n2 L C K dc ds mc ms : Nat} {c2 : Int} (hK : K ≤ C) (h1 : c2 ≤ 0 + (K : Int)) (h2 : n ≤ n2) (h3 : n2 = n ∨ (n2 : Int) ≤ 2 * c2 + 16) (h4 : 2 * dc + n ≤ n2) (h5 : ds + 2 * n ≤ 2 * n2) (hr : rmW mc ms n C) : lsC n L n2 L C dc ds ∧ dc ≤ mc ∧ ds ≤ ms ∧ n2 ≤ 8000000 ∧ c2 ≤ 2000000 := by
  obtain ⟨r1, r2, r3, r4, r5⟩ := hr
  exact ⟨⟨h2, by omega, Nat.le_refl _, Or.inl rfl, by omega, by omega⟩, by omega, by omega, by omega, by omega⟩
theorem lsB {n n2 L N C K dc ds mc ms : Nat} {c2 : Int} (hK : K ≤ C) (h1 : c2 ≤ 0 + (K : Int)) (h2 : n ≤ n2) (h3 : n2 = n ∨ (n2 : Int) ≤ 2 * c2 + 16) (h4 : 2 * dc + n ≤ n2) (h5 : ds + 2 * n ≤ 2 * n2) (hr : rmW mc ms n C) (h2C : 2 * C ≤ ms) (hL64 : 64 ≤ L) (hL : (L : Int) < c2) (hN : (N : Int) = c2 ∨ N = 2 * L) (hN1 : c2 ≤ (N : Int)) (hN2 : 2 * L ≤ N) : lsC n L n2 N C (dc + 1) (ds + N) ∧ dc + 1 ≤ mc ∧ ds + N ≤ ms ∧ N ≤ 4000000 := by
  obtain ⟨r1, r2, r3, r4, r5⟩ := hr
  exact ⟨⟨h2, by omega, by omega, by omega, by omega, by omega⟩, by omega, by omega, by omega⟩
def lsP (D : va_G) (I : FieldType → ClassId) (P : List Nat) (F : Nat → va_E) (γ el : Nat → Nat → Nat) (m C : Nat) (gi : Int32) : Option Value → va_W → Nat → Nat → Prop := fun r w dc ds => ∃ (P1 : List Nat) (F1 : Nat → va_E) (γ1 : Nat → Nat → Nat) (x : Int32) (n1 L1 : Nat),
  r = some (.int x) ∧ w = va_pl P1 F1 ∧ RS D I P1 F1 γ1 el ∧ rSub P P1 ∧ rStr γ [96] F F1 ∧ (∀ j, j ≠ 0 → j ≠ 12 → γ1 j = γ j) ∧ (∀ b, γ 0 b ≠ 0 → γ1 0 b = γ 0 b ∧ γ1 12 b = γ 12 b) ∧ fI (F1 m) 9 = fI (F m) 9 ∧ fI (F1 m) 10 = fI (F m) 10 ∧ fI (F1 m) 32 = fI (F m) 32 ∧ ((mO (F1 m)).1.1, (mO (F1 m)).2) = ((mO (F m)).1.1, (mO (F m)).2) ∧
  γ1 12 (fR (F1 (γ 9 29)) 0) = n1 ∧ γ1 12 (fR (F1 m) 35) = L1 ∧ lsC (γ 12 (fR (F (γ 9 29)) 0)) (γ 12 (fR (F m) 35)) n1 L1 C dc ds ∧
  ((((gi = 0 ∧ (fI (F m) 9).toInt = 0) ∨ (¬ gi = 0 ∧ (fI (F m) 10).toInt = 0)) ∧ (fI (F1 m) 30).toInt = 1 ∧ (fR (F1 m) 35 = fR (F m) 35 ∧ fI (F1 m) 34 = fI (F m) 34) ∧ F1 (fR (F m) 35) = F (fR (F m) 35)) ∨ ((fI (F1 m) 30).toInt = 0 ∧ ∃ (F' : Nat → va_E) (cc f : Nat), (∀ b, b ≠ m → F' b = F b) ∧ ((gi = 0 ∧ (fI (F m) 9).toInt ≠ 0 ∧ cc = γ 9 6 ∧ f = 0) ∨ (¬ gi = 0 ∧ (fI (F m) 10).toInt ≠ 0 ∧ cc = γ 9 7 ∧ f = 1)) ∧ x.toInt = ((zrP γ el F' cc (γ 6 f)).length : Int) ∧ fI (F1 m) 34 = x ∧ lt9 (zrP γ el F' cc (γ 6 f)) (cB (F1 (fR (F1 m) 35)))))
set_option maxRecDepth 100000 in
set_option maxHeartbeats 4000000 in
theorem cp_lsb (l : Launch) (hl0 : l.stackTraces = false) (D : va_G) (I : FieldType → ClassId) {P : List Nat} {F : Nat → va_E} {γ el : Nat → Nat → Nat} {m C mc ms : Nat} {gi : Int32} (hT : RS D I P F γ el) (hm : γ 0 m = 10) (hf9 : (fI (F m) 9).toInt = 0 ∨ 0 < γ 6 0) (hf10 : (fI (F m) 10).toInt = 0 ∨ 0 < γ 6 1) (hC0 : (fI (F m) 9).toInt = 0 ∨ 52 * γ 16 0 + 2400 ≤ C) (hC1 : 52 * γ 16 1 + 2400 ≤ C) (hr : rmW mc ms (γ 12 (fR (F (γ 9 29)) 0)) C) (h2C : 2 * C ≤ ms) (h64 : 64 ≤ γ 12 (fR (F m) 35)) :
    CtA (gV D I) l yX17_list__ cX17_list__ 3 (some FieldType.int) 9 230 mc ms [.ref m, .int gi] (va_pl P F) (lsP D I P F γ el m C gi) gNA := by
  refine CtA_of hl0 (by decide) (Nat.le_of_ble_eq_true rfl) ?_
  obtain ⟨r28, r35, v9, v10, v11, v12, v13, v14, v23, v24, v25, v26, v27, v30, v32, v33, v34, he, hM1, hK, hM2⟩ := rk10_m (show rk_10 γ (F m) from RS_o hT hm)
  have mm : m ∈ P := hT.1 m (by omega)
  have e9 : fI (F m) 9 = v9 := by rw [he]; rfl
  have e10 : fI (F m) 10 = v10 := by rw [he]; rfl
  have e32 : fI (F m) 32 = v32 := by rw [he]; rfl
  have e35 : fR (F m) 35 = r35 := by rw [he]; rfl
  obtain ⟨k0, k1, k2, k3, k4, k5, k6, k7, k8, k9, k10, k11, k12, k13, k14, k15, k16, k17, k18, kW, k20, k21, k22, k23⟩ := id hK
  have hW28 : γ 0 (γ 9 29) = 28 := kW
  have h27 : γ 0 r35 = 96 := k1
  have hWm : γ 9 29 ≠ m := fun e => by rw [e, hm] at hW28; cases hW28
  have hRm : r35 ≠ m := fun e => by rw [e, hm] at h27; cases h27
  have z0 : Int32.toInt 0 = 0 := by decide
  have z2 : Int32.toInt 2 = 2 := by decide
  refine G_aload_n 0 dr_cX17_list___0 rfl ?_
  refine G_iconst 0 dr_cX17_list___1 (by decide +kernel) ?_
  refine Gp_put 30 mm he dr_cX17_list___2 (gk_X17 D I) (Nat.le_of_ble_eq_true rfl) wr_7_104 rfl rfl rfl (Nat.le_of_ble_eq_true rfl) (fun F1 e1 n1 => ?_)
  have e1' : F1 m = mdE γ r28 r35 v9 v10 v11 v12 v13 v14 v23 v24 v25 v26 v27 0 v32 v33 v34 := e1
  have hT1 := RS_md hT hm n1 e1' hM1 hK hM2
  have eW1 : F1 (γ 9 29) = F (γ 9 29) := n1 _ hWm
  have lo : 1 ≤ mc := hr.2.1
  have k26 : ((gi = 0 ∧ (fI (F m) 9).toInt = 0) ∨ (¬ gi = 0 ∧ (fI (F m) 10).toInt = 0)) → G (gV D I) l (gRm 9 230 mc ms) (gMA (gV D I) (lsP D I P F γ el m C gi) gNA mc ms) ky_lsb 26 [(0, .ref m), (1, .int gi)] [] (va_pl P F1) 0 0 := fun hno => by
    refine G_aload_n 0 dr_cX17_list___26 rfl ?_
    refine G_iconst 1 dr_cX17_list___27 (by decide +kernel) ?_
    refine Gw_callV (As := [.int 1]) (gV_ok D I) (cp_mno l hl0 D I (x := 1) hT1 hm) dr_cX17_list___28 ⟨wr_7_191, wr_1_14, wr_7_194, by decide, rfl, (Nat.le_of_ble_eq_true rfl), (Nat.le_of_ble_eq_true rfl)⟩ wr_7_193 wr_p_73 mm e1' rfl (Nat.zero_le _) (Nat.zero_le _) (Nat.le_of_ble_eq_true rfl) (fun r w dc ds hp => ?_) (fun _ _ _ _ _ z => z.elim)
    obtain ⟨F2, rfl, rfl, hT2, n2, y9, y10, y32, hdc, hds, y35, yO, y30⟩ := hp
    change G _ _ _ _ _ _ _ (.int 0 :: []) _ _ _
    refine G_iretA dr_cX17_list___31 rfl (by omega) (by omega) ⟨P, F2, γ, 0, _, _, rfl, rfl, hT2, rSub_rf, fun b h0 hb _ => have q : b ≠ m := (fun e => by rw [e, hm] at hb; omega); (n2 b q).trans (n1 b q), fun _ _ _ => rfl, fun _ _ => ⟨rfl, rfl⟩, ?_, ?_, ?_, ?_, rfl, rfl, ?_, Or.inl ⟨hno, by rw [y30]; decide, ⟨by rw [y35, e1', e35]; rfl, by rw [show fI (F2 m) 34 = fI (F1 m) 34 from congrArg (fun z => z.1.2) yO, e1', he]; rfl⟩, by rw [e35, n2 _ hRm, n1 _ hRm]⟩⟩
    · rw [y9, e1', he]; rfl
    · rw [y10, e1', he]; rfl
    · rw [y32, e1', he]; rfl
    · rw [show ((mO (F2 m)).1.1, (mO (F2 m)).2) = ((mO (F1 m)).1.1, (mO (F1 m)).2) from congrArg (fun z => (z.1.1, z.2)) yO, e1', he]; rfl
    · have g1 : fR (F2 (γ 9 29)) 0 = fR (F (γ 9 29)) 0 := by rw [n2 _ hWm, eW1]
      have g2 : fR (F2 m) 35 = fR (F m) 35 := by rw [y35, e1', e35]; rfl
      rw [g1, g2]
      exact ⟨Nat.le_refl _, Or.inl rfl, Nat.le_refl _, Or.inl rfl, by omega, by omega⟩
  have k48 : ∀ cc f : Nat, ((gi = 0 ∧ (fI (F m) 9).toInt ≠ 0 ∧ cc = γ 9 6 ∧ f = 0) ∨ (¬ gi = 0 ∧ (fI (F m) 10).toInt ≠ 0 ∧ cc = γ 9 7 ∧ f = 1)) → γ 0 cc = 9 → γ 1 cc = f → 0 < γ 6 f → 52 * γ 16 f + 2400 ≤ C → G (gV D I) l (gRm 9 230 mc ms) (gMA (gV D I) (lsP D I P F γ el m C gi) gNA mc ms) ky_lsb 48 [(0, .ref m), (1, .int gi)] [.ref cc, .ref m] (va_pl P F1) 0 0 := fun cc f hyes hc9 hcf h6 hCf => by
    obtain ⟨a, n, c, ws0, hb, ha29, hn12, hn16⟩ := wdS_beg hT1 hW28
    obtain ⟨mb0, ew0, -⟩ := hb.2.1.2.2
    have ea0 : fR (F (γ 9 29)) 0 = a := by rw [← eW1, ew0]; rfl
    rw [ea0, ← hn12] at hr
    have hlet := lc_let hT1 hc9 hcf h6
    refine Gw_callV (As := [.ref cc]) (gV_ok D I) (cp_lcd l hl0 D I (C := C) hT1 hm e1' hc9 hcf h6 hb (Int.ofNat_le.mpr (Nat.le_trans hlet hCf)) hr) dr_cX17_list___48 ⟨wr_11_121, wr_1_14, wr_11_124, by decide, rfl, (Nat.le_of_ble_eq_true rfl), (Nat.le_of_ble_eq_true rfl)⟩ wr_11_123 wr_p_116 mm e1' rfl (show 0 + mc ≤ mc by omega) (show 0 + ms ≤ ms by omega) (Nat.le_of_ble_eq_true rfl) (fun r w dc ds hp => ?_) (fun _ _ _ _ _ z => z.elim)
    obtain ⟨P2, F2, a2, n2, c2, rfl, rfl, h2, q2⟩ := hp
    change G _ _ _ _ _ _ _ [] _ _ _
    refine G_widen (cs' := dc) (sl' := ds) (by omega) (by omega) ?_
    obtain ⟨q21, q22, q23, q24, q25, q26⟩ := q2
    rw [z0] at q21 q22
    have hKC : rsum (fun i => 52 * γ 2 (γ 14 (el (γ 14 cc) i)) + 60) (γ 6 f) ≤ C := Nat.le_trans hlet hCf
    obtain ⟨x1, x2, x3, x4, x5⟩ := lsA (L := γ 12 r35) hKC q22 q23 q24 q25 q26 hr
    obtain ⟨mm2, em2⟩ := wdS_F h2 hm (by decide) (by decide) (by decide)
    have em2' := em2.trans e1'
    obtain ⟨mR2, eR2⟩ := wdS_F h2 h27 (by decide) (by decide) (by decide)
    obtain ⟨-, ⟨mW2, -, mb, eW2, bmb⟩, ⟨ma2, fA, ea2, bfA⟩, -, bc2, hc2, hL2, hw2⟩ := id h2
    rw [cB_of ea2] at hw2
    obtain ⟨γ3, hT3, hj3, hk3, ka3, na3⟩ := wdS_end h2 (by omega)
    have g9 : γ3 9 = γ 9 := hj3 9 (by decide) (by decide)
    have hm3 : γ3 0 m = 10 := (hk3 m (by omega)).1.trans hm
    have h273 : γ3 0 r35 = 96 := (hk3 r35 (by omega)).1.trans h27
    have h123 : γ3 12 r35 = γ 12 r35 := (hk3 r35 (by omega)).2
    obtain ⟨L, fL, eL, bfL, hL16, hL12⟩ := show rk_96 I γ3 r35 (F2 r35) from RS_o hT3 h273
    have hLL : L = γ 12 r35 := hL12.trans h123
    have hL64 : 64 ≤ L := by rw [hLL, ← e35]; exact h64
    have haW : a2 ≠ γ 9 29 := fun e => by rw [e, eW2] at ea2; cases ea2
    have ham : a2 ≠ m := fun e => by rw [e, hm3] at ka3; cases ka3
    have haR : a2 ≠ r35 := fun e => by rw [e, h273] at ka3; cases ka3
    have hWR : γ 9 29 ≠ r35 := fun e => by rw [← e, hW28] at h27; cases h27
    have hs2 : rSub P P2 := h2.1.2.1
    have hc20 : 0 ≤ c2.toInt := by omega
    have b34 : gB c2 0 8000000 := ⟨hc20, by omega⟩
    have hst2 : rStr γ [96] F F2 := fun b h0 hb _ => have q : b ≠ m := (fun e => by rw [e, hm] at hb; omega); ((wdS_F h2 (rfl : γ 0 b = γ 0 b) h0 (by omega) (by omega)).2).trans (n1 b q)
    have k94 : ∀ (P4 : List Nat) (F4 : Nat → va_E) (γ4 : Nat → Nat → Nat) (Ra N cs4 sl4 : Nat) (fa : Nat → Int32), RS D I P4 F4 γ4 el → rSub P2 P4 → rStr γ [96] F F4 → (∀ j, j ≠ 0 → j ≠ 12 → γ4 j = γ j) → (∀ b, γ 0 b ≠ 0 → γ4 0 b = γ 0 b ∧ γ4 12 b = γ 12 b) → F4 m = mdE γ r28 Ra v9 v10 v11 v12 v13 v14 v23 v24 v25 v26 v27 0 v32 v33 c2 → F4 (γ 9 29) = F2 (γ 9 29) → F4 a2 = F2 a2 → γ4 12 a2 = n2 → Ra ∈ P4 → m ≠ Ra → γ 9 29 ≠ Ra → a2 ≠ Ra → F4 Ra = .inl (I .byte, N, .inl fa) → gF fa (-128) 127 → γ4 0 Ra = 96 → γ4 12 Ra = N → c2.toInt ≤ (N : Int) → N ≤ 16777216 → lsC n (γ 12 r35) n2 N C cs4 sl4 → cs4 ≤ mc → sl4 ≤ ms → G (gV D I) l (gRm 9 230 mc ms) (gMA (gV D I) (lsP D I P F γ el m C gi) gNA mc ms) ky_lsb 94 [(0, .ref m), (1, .int gi)] [] (va_pl P4 F4) cs4 sl4 := by
      intro P4 F4 γ4 Ra N cs4 sl4 fa hT4 hs4 hst4 hj4 hk4 em4 eW4 ea4 na4 mR4 hmR hWRa haRa eR4 bf4 k27 n27 hcN hN16 hcost hcs hsl
      refine G_iconst 0 dr_cX17_list___94 (by decide +kernel) ?_
      refine G_istore_n (L' := [(2, .int 0), (0, .ref m), (1, .int gi)]) dr_cX17_list___95 (Nat.le_of_ble_eq_true rfl) rfl ?_
      refine ls_cp hl0 (hs4 _ mm2) mR4 (hs4 _ mW2) (hs4 _ ma2) hmR hWRa haRa em4 (eW4.trans eW2) (ea4.trans ea2) bmb b34 bfA hc2 (by omega) hcN hcs hsl (fun F5 k5 f5 hF5 eR5 hf5 hfa5 => ?_) (c2.toInt.toNat + 1) F4 0 fa (by rw [z0]; omega) (by rw [z0]; decide) (by rw [z0]; omega) (fun _ _ => rfl) eR4 bf4 (fun i hi => absurd hi (by rw [z0]; exact Nat.not_lt_zero i))
      have hT5 := RS_set hT4 hF5 (show rKd γ4 Ra 96 from k27) (by decide) ⟨N, f5, eR5, hf5, by omega, n27.symm⟩
      have em5 : F5 m = mdE γ r28 Ra v9 v10 v11 v12 v13 v14 v23 v24 v25 v26 v27 0 v32 v33 c2 := (hF5 m hmR).trans em4
      refine G_aload_n 1 dr_cX17_list___125 rfl ?_
      refine Gp_get 34 (hs4 _ mm2) em5 dr_cX17_list___126 (gk_X17 D I) (Nat.le_of_ble_eq_true rfl) wr_7_108 rfl ?_
      refine G_iretA dr_cX17_list___129 rfl hcs hsl ⟨P4, F5, γ4, c2, n2, N, rfl, rfl, hT5, fun b hb => hs4 b (hs2 b hb), fun b h0 hb hw => (hF5 b (fun e => by have q := (hk4 b h0).1; rw [e, k27] at q; exact hw (by rw [e, ← q]; exact List.mem_cons_self))).trans (hst4 b h0 hb hw), hj4, hk4, ?_, ?_, ?_, ?_, ?_, ?_, ?_, Or.inr ⟨by rw [em5]; exact z0, F1, cc, f, n1, hyes, hL2, by rw [em5]; rfl, fun i hi => ?_⟩⟩
      · rw [em5, he]; rfl
      · rw [em5, he]; rfl
      · rw [em5, he]; rfl
      · rw [em5, he]; rfl
      · have g1 : fR (F5 (γ 9 29)) 0 = a2 := by rw [hF5 _ hWRa, eW4, eW2]; rfl
        rw [g1]; exact na4
      · have g2 : fR (F5 m) 35 = Ra := by rw [em5]; rfl
        rw [g2]; exact n27
      · rw [ea0, e35, ← hn12]; exact hcost
      · have g2 : fR (F5 m) 35 = Ra := by rw [em5]; rfl
        rw [g2, cB_of eR5, hfa5 i (by omega)]; exact hw2 i hi
    refine G_aload_n 0 dr_cX17_list___51 rfl ?_
    refine G_aload_n 0 dr_cX17_list___52 rfl ?_
    refine Gp_get 29 mm2 em2' dr_cX17_list___53 (gk_X17 D I) (Nat.le_of_ble_eq_true rfl) wr_7_103 rfl ?_
    refine Gw_callV (As := []) (gV_ok D I) (cp_658573_StringBuilder_length l hl0 D I P2 F2 (γ 9 29) a2 mb c2 fA n2 mW2 ma2 eW2 ea2 bmb bc2 bfA (by omega)) dr_cX17_list___56 ⟨wr_11_208, wr_1_20, wr_8_89, by decide, rfl, (Nat.le_of_ble_eq_true rfl), (Nat.le_of_ble_eq_true rfl)⟩ wr_8_88 wr_11_234 mW2 eW2 rfl (show _ ≤ mc by omega) (show _ ≤ ms by omega) (Nat.le_of_ble_eq_true rfl) (fun r w dc3 ds3 hp => ?_) (fun _ _ _ _ _ z => z.elim)
    obtain ⟨rfl, rfl, hdc3, hds3⟩ := hp
    change G _ _ _ _ _ _ _ (.int c2 :: .ref m :: []) _ _ _
    refine G_widen (cs' := dc) (sl' := ds) (by omega) (by omega) ?_
    refine Gp_put 34 mm2 em2' dr_cX17_list___59 (gk_X17 D I) (Nat.le_of_ble_eq_true rfl) wr_7_108 rfl rfl rfl (Nat.le_of_ble_eq_true rfl) (fun F3 e3 n3 => ?_)
    have e3' : F3 m = mdE γ r28 r35 v9 v10 v11 v12 v13 v14 v23 v24 v25 v26 v27 0 v32 v33 c2 := e3
    have hst3 : rStr γ [96] F F3 := fun b h0 hb hw => (n3 b (fun e => by rw [e, hm] at hb; omega)).trans (hst2 b h0 hb hw)
    have eR3 : F3 r35 = .inl (I .byte, L, .inl fL) := (n3 _ hRm).trans eL
    refine G_aload_n 0 dr_cX17_list___62 rfl ?_
    refine Gp_get 35 mm2 e3' dr_cX17_list___63 (gk_X17 D I) (Nat.le_of_ble_eq_true rfl) wr_7_109 rfl ?_
    refine Gp_alen (Int32.ofNat L) 1 mR2 eR3 dr_cX17_list___66 rfl rfl (G_nam fun z hz => ?_)
    have ez : z.toInt = (L : Nat) := gI_ofM hz (by omega)
    refine G_aload_n 0 dr_cX17_list___67 rfl ?_
    refine Gp_get 34 mm2 e3' dr_cX17_list___68 (gk_X17 D I) (Nat.le_of_ble_eq_true rfl) wr_7_108 rfl ?_
    have em3 : F3 m = mdE γ3 r28 r35 v9 v10 v11 v12 v13 v14 v23 v24 v25 v26 v27 0 v32 v33 c2 := by
      rw [e3']
      unfold mdE
      rw [g9]
    obtain ⟨p9, p10, p11, p14, p25, p26, p27, p32, p34⟩ := hM1
    have hM13 : rM1 v9 v10 v11 v14 v25 v26 v27 v32 c2 := ⟨p9, p10, p11, p14, p25, p26, p27, p32, gB_w b34 (by decide) (by decide)⟩
    have hK3 : mdK γ3 r28 r35 := by
      obtain ⟨s28, s35, u9, u10, u11, u12, u13, u14, u23, u24, u25, u26, u27, u30, u32, u33, u34, ue, -, uK, -⟩ := rk10_m (show rk_10 γ3 (F2 m) from RS_o hT3 hm3)
      have w1 : fR (F2 m) 28 = s28 := by rw [ue]; rfl
      have w2 : fR (F2 m) 28 = r28 := by rw [em2']; rfl
      have w3 : fR (F2 m) 35 = s35 := by rw [ue]; rfl
      have w4 : fR (F2 m) 35 = r35 := by rw [em2']; rfl
      rw [w1.symm.trans w2, w3.symm.trans w4] at uK
      exact uK
    have h2f : (v9.toInt = 0 ∨ 0 < γ3 6 0 ∨ 0 < γ3 23 0) ∧ (v10.toInt = 0 ∨ 0 < γ3 6 1 ∨ 0 < γ3 23 1) := by
      rw [hj3 6 (by decide) (by decide), hj3 23 (by decide) (by decide)]
      exact ⟨hM2.1, hM2.2.1⟩
    refine G_icmp_ge 94 dr_cX17_list___71 (by decide +kernel) (fun hc => ?_) (fun hc => ?_)
    · have hle : c2.toInt ≤ z.toInt := gj_le hc rfl
      have hT3' := RS_md hT3 hm3 n3 em3 hM13 hK3 ⟨h2f.1, h2f.2, by omega⟩
      exact k94 P2 F3 γ3 r35 L dc ds fL hT3' rSub_rf hst3 hj3 hk3 e3' (n3 _ hWm) (n3 _ ham) na3 mR2 (Ne.symm hRm) hWR haR eR3 bfL h273 hL12.symm (by omega) (by omega) (by rw [← hLL] at x1 ⊢; exact x1) x2 x3
    · have hlt : z.toInt < c2.toInt := gj_nle hc rfl
      refine G_aload_n 0 dr_cX17_list___74 rfl ?_
      refine G_aload_n 0 dr_cX17_list___75 rfl ?_
      refine Gp_get 34 mm2 e3' dr_cX17_list___76 (gk_X17 D I) (Nat.le_of_ble_eq_true rfl) wr_7_108 rfl ?_
      refine G_iconst 2 dr_cX17_list___79 (by decide +kernel) ?_
      refine G_aload_n 0 dr_cX17_list___80 rfl ?_
      refine Gp_get 35 mm2 e3' dr_cX17_list___81 (gk_X17 D I) (Nat.le_of_ble_eq_true rfl) wr_7_109 rfl ?_
      refine Gp_alen (Int32.ofNat L) 1 mR2 eR3 dr_cX17_list___84 rfl rfl (G_nam fun y hy => ?_)
      have ey : y.toInt = (L : Nat) := gI_ofM hy (by omega)
      have by' : gB y 0 8000000 := ⟨by omega, by omega⟩
      refine G_imul dr_cX17_list___85 (G_nam fun t ht => ?_)
      have et : t.toInt = 2 * y.toInt := by rw [gI_mul ht (gBl z2) by' (by decide) (by decide) (by decide), z2]
      refine G_mmax dr_cX17_list___86 wr_11_21 wr_1_140 wr_1_6 wr_1_141 (Nat.le_of_ble_eq_true rfl) (Nat.le_of_ble_eq_true rfl) (show dc ≤ mc by omega) (show ds ≤ ms by omega) (G_nam fun u hu => ?_)
      have eu := gI_max hu
      obtain ⟨N, hN⟩ : ∃ N : Nat, N = u.toInt.toNat := ⟨_, rfl⟩
      have hu0 : (N : Int) = u.toInt := by omega
      obtain ⟨y1, y2, y3, y4⟩ := lsB (L := L) (N := N) hKC q22 q23 q24 q25 q26 hr h2C hL64 (by omega) (by omega) (by omega) (by omega)
      refine G_newa 1 (N, .inl (fun _ => 0)) dr_cX17_list___89 rfl rfl (by intro C h; cases h) wr_1_66 (fun _ => ga_byte _ _) (g_n0 (by omega)) (show u.toNatClampNeg = N from hN.symm) (show N * 1 ≤ 536870912 by omega) (show dc + 1 ≤ mc by omega) (show ds + N ≤ ms by omega) (fun A => Gp_in (fun P4 F4 hq hP e4 n4 => ?_))
      have hs4 : rSub P2 P4 := rSub_new (rSub_rf (P := P2)) hP
      have mA4 : A ∈ P4 := (hP A).mpr (Or.inr rfl)
      have nA : ∀ b, b ∈ P2 → b ≠ A := fun b hb e => hq (e ▸ hb)
      have e4m : F4 m = mdE γ r28 r35 v9 v10 v11 v12 v13 v14 v23 v24 v25 v26 v27 0 v32 v33 c2 := (n4 m (nA m mm2)).trans e3'
      refine Gp_put 35 (hs4 m mm2) e4m dr_cX17_list___91 (gk_X17 D I) (Nat.le_of_ble_eq_true rfl) wr_7_109 rfl rfl rfl (Nat.le_of_ble_eq_true rfl) (fun F5 e5 n5 => ?_)
      have e5' : F5 m = mdE γ r28 A v9 v10 v11 v12 v13 v14 v23 v24 v25 v26 v27 0 v32 v33 c2 := e5
      have em5 : F5 m = mdE γ3 r28 A v9 v10 v11 v12 v13 v14 v23 v24 v25 v26 v27 0 v32 v33 c2 := by
        rw [e5']
        unfold mdE
        rw [g9]
      have A0 : γ3 0 A = 0 := RS_new hT3 hq
      have hAm : A ≠ m := fun e => by rw [e, hm3] at A0; cases A0
      have eA5 : F5 A = .inl (I .byte, N, .inl (fun _ => 0)) := (n5 A hAm).trans e4
      have hT5 := ls_fin hT3 hm3 hq hs4 mA4 (fun b hb hbA => (n5 b hb).trans ((n4 b hbA).trans (n3 b hb))) eA5 (fun _ => ⟨show _ ≤ Int32.toInt 0 by decide, show Int32.toInt 0 ≤ _ by decide⟩) (by omega) em5 hM13 hK3 h2f (by omega)
      have l0 : ∀ b, gLn γ3 A N 0 b = γ3 0 b := fun b => if_neg (fun w => absurd w.1 (by decide))
      have lj : ∀ j, j ≠ 12 → gLn γ3 A N j = γ3 j := fun j hj => by
        funext b
        exact if_neg (fun w => hj w.1)
      have l12 : ∀ b, b ≠ A → gLn γ3 A N 12 b = γ3 12 b := fun b hb => if_neg (fun w => hb w.2)
      have g12 : gNw (gLn γ3 A N) A 96 12 = gLn γ3 A N 12 := gNw_j (by decide)
      have hne : ∀ b, γ 0 b ≠ 0 → b ≠ A := fun b hb e => hb (by
        have := (hk3 b hb).1
        rw [e, A0] at this
        rw [e]
        exact this.symm)
      refine k94 P4 F5 (gNw (gLn γ3 A N) A 96) A N (dc + 1) (ds + N) (fun _ => 0) hT5 hs4 (fun b h0 hb hw => (n5 b (fun e => by rw [e, hm] at hb; omega)).trans ((n4 b (hne b h0)).trans (hst3 b h0 hb hw))) (fun j h0 h12 => (gNw_j h0).trans ((lj j h12).trans (hj3 j h0 h12))) (fun b hb => ⟨(gNw_ne (hne b hb)).trans ((l0 b).trans (hk3 b hb).1), ?_⟩) e5' ((n5 _ hWm).trans ((n4 _ (nA _ mW2)).trans (n3 _ hWm))) ((n5 _ ham).trans ((n4 _ (nA _ ma2)).trans (n3 _ ham))) ?_ mA4 (Ne.symm hAm) (nA _ mW2) (nA _ ma2) eA5 (fun _ => ⟨show _ ≤ Int32.toInt 0 by decide, show Int32.toInt 0 ≤ _ by decide⟩) (if_pos ⟨rfl, rfl⟩) ?_ (by omega) (by omega) (by rw [← hLL]; exact y1) y2 y3
      · rw [g12, l12 b (hne b hb)]; exact (hk3 b hb).2
      · rw [g12, l12 a2 (nA _ ma2)]; exact na3
      · rw [g12]; exact if_pos ⟨rfl, rfl⟩
  have nz : ∀ x : Int32, ¬ x = 0 → x.toInt ≠ 0 := fun x hx e => hx (Int32.toInt_inj.mp (e.trans z0.symm))
  have k32 : (¬ gi = 0 → 0 < γ 6 1 ∧ (fI (F m) 10).toInt ≠ 0) → (gi = 0 → 0 < γ 6 0 ∧ 52 * γ 16 0 + 2400 ≤ C ∧ (fI (F m) 9).toInt ≠ 0) → G (gV D I) l (gRm 9 230 mc ms) (gMA (gV D I) (lsP D I P F γ el m C gi) gNA mc ms) ky_lsb 32 [(0, .ref m), (1, .int gi)] [] (va_pl P F1) 0 0 := fun h1 h0 => by
    refine G_aload_n 0 dr_cX17_list___32 rfl ?_
    refine G_iload_n 1 dr_cX17_list___33 rfl ?_
    refine G_if_eq 44 dr_cX17_list___34 (by decide +kernel) (fun hc => ?_) (fun hc => ?_)
    · refine G_aload_n 0 dr_cX17_list___44 rfl ?_
      exact Gp_get 6 mm e1' dr_cX17_list___45 (gk_X17 D I) (Nat.le_of_ble_eq_true rfl) wr_7_80 rfl (k48 _ 0 (Or.inl ⟨hc, (h0 hc).2.2, rfl, rfl⟩) k8 k21 (h0 hc).1 (h0 hc).2.1)
    · refine G_aload_n 0 dr_cX17_list___37 rfl ?_
      refine Gp_get 7 mm e1' dr_cX17_list___38 (gk_X17 D I) (Nat.le_of_ble_eq_true rfl) wr_7_81 rfl ?_
      exact G_goto 48 dr_cX17_list___41 (by decide +kernel) (k48 _ 1 (Or.inr ⟨hc, (h1 hc).2, rfl, rfl⟩) k9 k22 (h1 hc).1 hC1)
  refine G_iload_n 1 dr_cX17_list___5 rfl ?_
  refine G_if_eq 19 dr_cX17_list___6 (by decide +kernel) (fun hc => ?_) (fun hc => ?_)
  · refine G_aload_n 0 dr_cX17_list___19 rfl ?_
    refine Gp_get 9 mm e1' dr_cX17_list___20 (gk_X17 D I) (Nat.le_of_ble_eq_true rfl) wr_7_83 rfl ?_
    refine G_if_ne 32 dr_cX17_list___23 (by decide +kernel) (fun h => k32 (fun g => absurd hc g) (fun _ => ⟨hf9.resolve_left (by rw [e9]; exact nz _ h), hC0.resolve_left (by rw [e9]; exact nz _ h), by rw [e9]; exact nz _ h⟩)) (fun h => k26 (Or.inl ⟨hc, by rw [e9, h]; exact z0⟩))
  · refine G_aload_n 0 dr_cX17_list___9 rfl ?_
    refine Gp_get 10 mm e1' dr_cX17_list___10 (gk_X17 D I) (Nat.le_of_ble_eq_true rfl) wr_7_84 rfl ?_
    refine G_if_ne 32 dr_cX17_list___13 (by decide +kernel) (fun h => k32 (fun _ => ⟨hf10.resolve_left (by rw [e10]; exact nz _ h), by rw [e10]; exact nz _ h⟩) (fun g => absurd g hc)) (fun h => ?_)
    exact G_goto 26 dr_cX17_list___16 (by decide +kernel) (k26 (Or.inr ⟨hc, by rw [e10, h]; exact z0⟩))
