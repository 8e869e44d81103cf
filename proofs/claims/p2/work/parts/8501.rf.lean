theorem dr_cX17_list___96 : decode cX17_list__ 96 = .ok (.iload_n 2, 1) := by decide +kernel
theorem dr_cX17_list___97 : decode cX17_list__ 97 = .ok (.aload_n 0, 1) := by decide +kernel
theorem dr_cX17_list___98 : decode cX17_list__ 98 = .ok (.getfield 426, 3) := by decide +kernel
theorem dr_cX17_list___101 : decode cX17_list__ 101 = .ok (.if_icmp .ge 24, 3) := by decide +kernel
theorem dr_cX17_list___104 : decode cX17_list__ 104 = .ok (.aload_n 0, 1) := by decide +kernel
theorem dr_cX17_list___105 : decode cX17_list__ 105 = .ok (.getfield 378, 3) := by decide +kernel
theorem dr_cX17_list___108 : decode cX17_list__ 108 = .ok (.iload_n 2, 1) := by decide +kernel
theorem dr_cX17_list___109 : decode cX17_list__ 109 = .ok (.aload_n 0, 1) := by decide +kernel
theorem dr_cX17_list___110 : decode cX17_list__ 110 = .ok (.getfield 316, 3) := by decide +kernel
theorem dr_cX17_list___113 : decode cX17_list__ 113 = .ok (.iload_n 2, 1) := by decide +kernel
theorem dr_cX17_list___114 : decode cX17_list__ 114 = .ok (.invokevirtual 443, 3) := by decide +kernel
theorem wr_11_209 : (Jvm.Cond.methodLink "SpillForgeModel" (443 : Nat) ({ cls := "java/lang/StringBuilder", name := "charAt", desc := "(I)C" } : Jvm.MethodName)) ∈ gw := gw_11 209 rfl rfl
theorem wr_11_212 : (Jvm.Cond.code ({ cls := "java/lang/StringBuilder", name := "charAt", desc := "(I)C" } : Jvm.MethodName) prog_35_method_88_code (2 : Nat) (Option.some Jvm.ClassFile.FieldType.char)) ∈ gw := gw_11 212 rfl rfl
theorem wr_11_210 : (Jvm.Cond.instanceMethod ({ cls := "java/lang/StringBuilder", name := "charAt", desc := "(I)C" } : Jvm.MethodName)) ∈ gw := gw_11 210 rfl rfl
theorem wr_11_211 : (Jvm.Cond.selects "java/lang/StringBuilder" ({ cls := "java/lang/StringBuilder", name := "charAt", desc := "(I)C" } : Jvm.MethodName) ({ cls := "java/lang/StringBuilder", name := "charAt", desc := "(I)C" } : Jvm.MethodName)) ∈ gw := gw_11 211 rfl rfl
theorem dr_cX17_list___117 : decode cX17_list__ 117 = .ok (.i2b, 1) := by decide +kernel
theorem dr_cX17_list___118 : decode cX17_list__ 118 = .ok (.bastore, 1) := by decide +kernel
theorem dr_cX17_list___119 : decode cX17_list__ 119 = .ok (.iinc 2 1, 3) := by decide +kernel
theorem dr_cX17_list___122 : decode cX17_list__ 122 = .ok (.goto (-26), 3) := by decide +kernel
abbrev ky_lsb : gKey := (cX17_list__, 3, "SpillForgeModel", (some FieldType.int), [], "list", fun _ _ => True)
set_option maxRecDepth 100000 in
set_option maxHeartbeats 4000000 in
theorem ls_cp {l : Launch} {D : va_G} {I : FieldType → ClassId} {P : List Nat} {F1 : Nat → va_E} {γ : Nat → Nat → Nat} {m Ra N a n cs sl mc ms r28 : Nat} {Qf : gFin} {fa : Nat → Int32} {gi mb v9 v10 v11 v12 v13 v14 v23 v24 v25 v26 v27 v30 v32 v33 v34 : Int32} (hl0 : l.stackTraces = false) (mm : m ∈ P) (mR : Ra ∈ P) (mW : γ 9 29 ∈ P) (ma : a ∈ P) (hmR : m ≠ Ra) (hWR : γ 9 29 ≠ Ra) (haR : a ≠ Ra)
    (em : F1 m = mdE γ r28 Ra v9 v10 v11 v12 v13 v14 v23 v24 v25 v26 v27 v30 v32 v33 v34) (eW : F1 (γ 9 29) = .inr (1, [.ref a, .int 0, .int mb, .int v34])) (ea : F1 a = .inl (I .byte, n, .inl fa)) (bmb : gB mb 0 1) (b34 : gB v34 0 8000000) (bfa : gF fa (-128) 127) (hn : v34.toInt ≤ (n : Int)) (hn2 : n ≤ 16777216) (hN : v34.toInt ≤ (N : Int)) (hcs : cs ≤ mc) (hsl : sl ≤ ms)
    (kk : ∀ (F : Nat → va_E) (k : Int32) (f : Nat → Int32), (∀ b, b ≠ Ra → F b = F1 b) → F Ra = .inl (I .byte, N, .inl f) → gF f (-128) 127 → G (gV D I) l (gRm 9 230 mc ms) Qf ky_lsb 125 [(2, .int k), (0, .ref m), (1, .int gi)] [] (va_pl P F) cs sl) :
    ∀ (μ : Nat) (F : Nat → va_E) (k : Int32) (f : Nat → Int32), v34.toInt - k.toInt < (μ : Int) → 0 ≤ k.toInt → k.toInt ≤ v34.toInt → (∀ b, b ≠ Ra → F b = F1 b) → F Ra = .inl (I .byte, N, .inl f) → gF f (-128) 127 → G (gV D I) l (gRm 9 230 mc ms) Qf ky_lsb 96 [(2, .int k), (0, .ref m), (1, .int gi)] [] (va_pl P F) cs sl := by
  intro μ
  induction μ with
  | zero => intro F k f h _ h1 _ _ _; exact absurd h (by omega)
  | succ μ ih =>
  intro F k f hμ h0 h1 hF eR hf
  have em' := (hF m hmR).trans em
  have eW' := (hF _ hWR).trans eW
  have ea' := (hF a haR).trans ea
  have q34 := b34.2
  refine G_iload_n 0 dr_cX17_list___96 rfl ?_
  refine G_aload_n 1 dr_cX17_list___97 rfl ?_
  refine Gp_get 34 mm em' dr_cX17_list___98 (gk_X17 D I) (Nat.le_of_ble_eq_true rfl) wr_7_108 rfl ?_
  refine G_icmp_ge 125 dr_cX17_list___101 (by decide +kernel) (fun _ => kk F k f hF eR hf) (fun hc => ?_)
  have hlt : k.toInt < v34.toInt := gj_nle hc rfl
  refine G_aload_n 1 dr_cX17_list___104 rfl ?_
  refine Gp_get 35 mm em' dr_cX17_list___105 (gk_X17 D I) (Nat.le_of_ble_eq_true rfl) wr_7_109 rfl ?_
  refine G_iload_n 0 dr_cX17_list___108 rfl ?_
  refine G_aload_n 1 dr_cX17_list___109 rfl ?_
  refine Gp_get 29 mm em' dr_cX17_list___110 (gk_X17 D I) (Nat.le_of_ble_eq_true rfl) wr_7_103 rfl ?_
  refine G_iload_n 0 dr_cX17_list___113 rfl ?_
  refine Gw_callV (As := [.int k]) (gV_ok D I) (cp_640028_StringBuilder_charAt l hl0 D I P F (γ 9 29) a k mb v34 fa n mW ma eW' ea' ⟨h0, by omega⟩ bmb (gB_w b34 (by decide) (by decide)) bfa hlt hn (by omega)) dr_cX17_list___114 ⟨wr_11_209, wr_1_20, wr_11_212, by decide, rfl, (Nat.le_of_ble_eq_true rfl), (Nat.le_of_ble_eq_true rfl)⟩ wr_11_210 wr_11_211 mW eW' rfl (show _ ≤ mc by omega) (show _ ≤ ms by omega) (Nat.le_of_ble_eq_true rfl) (fun r w dc ds hp => ?_) (fun _ _ _ _ _ z => z.elim)
  obtain ⟨o, rfl, rfl, hdc, hds, bo⟩ := hp
  change G _ _ _ _ _ _ _ (.int o :: .int k :: .ref Ra :: []) _ _ _
  refine G_widen (cs' := cs) (sl' := sl) (by omega) (by omega) ?_
  refine G_i2b dr_cX17_list___117 (G_nam fun z _ => ?_)
  refine Gp_bast 1 mR eR dr_cX17_list___118 rfl (gB_inr h0 (by omega)) (fun F2 e2 n2 => ?_)
  obtain ⟨k1, hk1⟩ : ∃ z, z = k + 1 := ⟨_, rfl⟩
  have ek : k1.toInt = k.toInt + 1 := by rw [gI_add hk1 (⟨h0, by omega⟩ : gB k 0 8000000) (gBl (show Int32.toInt 1 = 1 by decide)) (by decide) (by decide), show Int32.toInt 1 = 1 from by decide]
  refine G_iinc (L' := [(2, .int k1), (0, .ref m), (1, .int gi)]) k1 0 dr_cX17_list___119 rfl (by rw [hk1]; rfl) (Nat.le_of_ble_eq_true rfl) rfl ?_
  refine G_goto 96 dr_cX17_list___122 (by decide +kernel) ?_
  exact ih F2 k1 _ (by omega) (by omega) (by omega) (fun b hb => (n2 b hb).trans (hF b hb)) e2 (gF_upd rfl hf gB_byte)
abbrev ky_mno : gKey := (cX17_no, 2, "SpillForgeModel", (some FieldType.int), [], "no", fun _ _ => True)
/-- what no(x) leaves: the model's thrown -/
def noP (D : va_G) (I : FieldType → ClassId) (P : List Nat) (F : Nat → va_E) (γ el : Nat → Nat → Nat) (m : Nat) : Option Value → va_W → Nat → Nat → Prop := fun r w dc ds => ∃ F1 : Nat → va_E, r = some (.int 0) ∧ w = va_pl P F1 ∧ RS D I P F1 γ el ∧ (∀ b, b ≠ m → F1 b = F b) ∧ fI (F1 m) 9 = fI (F m) 9 ∧ fI (F1 m) 10 = fI (F m) 10 ∧ fI (F1 m) 32 = fI (F m) 32 ∧ dc ≤ 0 ∧ ds ≤ 0
theorem cp_mno (l : Launch) (hl0 : l.stackTraces = false) (D : va_G) (I : FieldType → ClassId) {P : List Nat} {F : Nat → va_E} {γ el : Nat → Nat → Nat} {m : Nat} {x : Int32} (hT : RS D I P F γ el) (hm : γ 0 m = 10) :
    CtA (gV D I) l yX17_no cX17_no 2 (some FieldType.int) 0 0 0 0 [.ref m, .int x] (va_pl P F) (noP D I P F γ el m) gNA := by
  refine CtA_of hl0 (by decide) (Nat.le_of_ble_eq_true rfl) ?_
  obtain ⟨r28, r35, v9, v10, v11, v12, v13, v14, v23, v24, v25, v26, v27, v30, v32, v33, v34, he, hM1, hK, hM2⟩ := rk10_m (show rk_10 γ (F m) from RS_o hT hm)
  have mm : m ∈ P := hT.1 m (by omega)
  refine G_aload_n 0 dr_cX17_no_0 rfl ?_
  refine G_iload_n 1 dr_cX17_no_1 rfl ?_
  refine Gp_put 30 mm he dr_cX17_no_2 (gk_X17 D I) (Nat.le_of_ble_eq_true rfl) wr_7_104 rfl rfl rfl (Nat.le_of_ble_eq_true rfl) (fun F1 e1 n1 => ?_)
  have e1' : F1 m = mdE γ r28 r35 v9 v10 v11 v12 v13 v14 v23 v24 v25 v26 v27 x v32 v33 v34 := e1
  refine G_iconst 0 dr_cX17_no_5 (by decide +kernel) ?_
  exact G_iretA dr_cX17_no_6 rfl (Nat.le_refl _) (Nat.le_refl _) ⟨F1, rfl, rfl, RS_md hT hm n1 e1' hM1 hK hM2, n1, by rw [e1', he]; rfl, by rw [e1', he]; rfl, by rw [e1', he]; rfl, Nat.le_refl _, Nat.le_refl _⟩
