/-! names by colours: the reference -/
section SR9
variable {D : va_G} {I : FieldType → ClassId} {P : List Nat} {F : Nat → va_E} {γ el γ0 el0 : Nat → Nat → Nat} {f b j : Nat} {R : gPg} {col sf : Nat → Int} {r : Bool} {l : Nat → Int} {g : (Nat → Int) → (Nat → Int)}
theorem uA_t2 {op ra r : Int32} (h : tr_RRow_usesA2 op ra r) : (r.toInt = 1 ∧ op.toInt ≠ 20 ∧ op.toInt ≠ 21 ∧ op.toInt ≠ 30 ∧ ra.toInt ≠ 0) ∨ (r.toInt = 0 ∧ (op.toInt = 20 ∨ op.toInt = 21 ∨ op.toInt = 30 ∨ ra.toInt = 0)) := by
  refine h (fun r => (r.toInt = 1 ∧ op.toInt ≠ 20 ∧ op.toInt ≠ 21 ∧ op.toInt ≠ 30 ∧ ra.toInt ≠ 0) ∨ (r.toInt = 0 ∧ (op.toInt = 20 ∨ op.toInt = 21 ∨ op.toInt = 30 ∨ ra.toInt = 0))) ?_ ?_ ?_ ?_ ?_
  · intro h1
    have q0 : Int32.toInt 0 = 0 := by decide
    have q1 : Int32.toInt 1 = 1 := by decide
    omega
  · intro h1 h2
    have q0 : Int32.toInt 0 = 0 := by decide
    have q1 : Int32.toInt 1 = 1 := by decide
    omega
  · intro h1 h2 h3
    have q0 : Int32.toInt 0 = 0 := by decide
    have q1 : Int32.toInt 1 = 1 := by decide
    omega
  · intro h1 h2 h3 h4
    have q0 : Int32.toInt 0 = 0 := by decide
    have q1 : Int32.toInt 1 = 1 := by decide
    omega
  · intro h1 h2 h3 h4
    have q0 : Int32.toInt 0 = 0 := by decide
    have q1 : Int32.toInt 1 = 1 := by decide
    omega
theorem uB_t2 {op ra r : Int32} (h : tr_RRow_usesB2 op ra r) : (r.toInt = 1 ∧ 0 < op.toInt ∧ op.toInt < 20 ∧ ra.toInt ≠ 0) ∨ (r.toInt = 0 ∧ (op.toInt ≤ 0 ∨ 20 ≤ op.toInt ∨ ra.toInt = 0)) := by
  refine h (fun r => (r.toInt = 1 ∧ 0 < op.toInt ∧ op.toInt < 20 ∧ ra.toInt ≠ 0) ∨ (r.toInt = 0 ∧ (op.toInt ≤ 0 ∨ 20 ≤ op.toInt ∨ ra.toInt = 0))) ?_ ?_ ?_ ?_
  · intro h1
    have q0 : Int32.toInt 0 = 0 := by decide
    have q1 : Int32.toInt 1 = 1 := by decide
    omega
  · intro h1 h2
    have q0 : Int32.toInt 0 = 0 := by decide
    have q1 : Int32.toInt 1 = 1 := by decide
    omega
  · intro h1 h2 h3
    have q0 : Int32.toInt 0 = 0 := by decide
    have q1 : Int32.toInt 1 = 1 := by decide
    omega
  · intro h1 h2 h3
    have q0 : Int32.toInt 0 = 0 := by decide
    have q1 : Int32.toInt 1 = 1 := by decide
    omega
theorem ss_t2 {op r : Int32} (h : tr_RRow_sets2 op r) : (r.toInt = 1 ∧ op.toInt ≤ 21) ∨ (r.toInt = 0 ∧ 21 < op.toInt) := by
  refine h (fun r => (r.toInt = 1 ∧ op.toInt ≤ 21) ∨ (r.toInt = 0 ∧ 21 < op.toInt)) ?_ ?_
  · intro h1
    have q0 : Int32.toInt 0 = 0 := by decide
    have q1 : Int32.toInt 1 = 1 := by decide
    omega
  · intro h1
    have q0 : Int32.toInt 0 = 0 := by decide
    have q1 : Int32.toInt 1 = 1 := by decide
    omega
theorem rm6 : ∀ f, f < 6 → rmL col l f = mkL (l 0) (cM col (l 1)) (cM col (l 2)) (l 3) (cM col (l 4)) (l 5) f
  | 0, _ => rfl
  | 1, _ => rfl
  | 2, _ => rfl
  | 3, _ => rfl
  | 4, _ => rfl
  | 5, _ => rfl
  | _ + 6, h => by omega
theorem cM_n (h : l 2 = -1) : cM col (l 2) = l 2 := by unfold cM; rw [h]; rfl
theorem cM_x {x : Int} (h : x = -1) : cM col x = x := by unfold cM; rw [h]; rfl
theorem cM_p {x : Int} {a y : Int32} {p : Nat → Int32} (ha : a.toInt = x) (h0 : 0 ≤ x) (h1 : x < 2000) (hp : ∀ v, v < 2000 → (p v).toInt = col v) (hy : y = p a.toNatClampNeg) : y.toInt = cM col x := by
  unfold cM
  rw [if_pos h0, hy, nnE (show a.toInt = ((x.toNat : Nat) : Int) by omega)]
  exact hp _ (by omega)
/-- cells of the model -/
theorem md_k9 {q0 : Nat} (hT : RS D I P F γ el) (hm : γ 0 q0 = 10) : γ 0 (γ 9 16) = 19 ∧ γ 0 (γ 9 17) = 20 ∧ γ 0 (γ 9 19) = 21 ∧ γ 0 (γ 9 20) = 22 ∧ γ 0 (γ 9 21) = 23 ∧ γ 0 (γ 9 22) = 97 := by
  obtain ⟨r28, r35, v9, v10, v11, v12, v13, v14, v23, v24, v25, v26, v27, v30, v32, v33, v34, he, hM1, hK, hM2⟩ := rk10_m (show rk_10 γ (F q0) from RS_o hT hm)
  obtain ⟨k0, k1, k2, k3, k4, k5, k6, k7, k8, k9, k10, k11, k12, k13, k14, k15, k16, k17, k18, kW, k20, k21, k22, k23⟩ := hK
  exact ⟨k12, k13, k15, k16, k17, k18⟩
theorem md_17 {q0 : Nat} (hT : RS D I P F γ el) (hm : γ 0 q0 = 10) : γ 0 (γ 9 17) = 20 := (md_k9 hT hm).2.1
/-- half done -/
def hfP (R : gPg) (g : (Nat → Int) → (Nat → Int)) (b j : Nat) : gPg := (R.1, R.2.1, fun c i => if c < b ∨ (c = b ∧ i < j) then g (R.2.2.1 c i) else R.2.2.1 c i, R.2.2.2)
theorem hf_l : (hfP R g b j).2.2.1 b j = R.2.2.1 b j := if_neg (by omega)
theorem hf_s : pgSt (hfP R g b j) b j (g (R.2.2.1 b j)) = hfP R g b (j + 1) := by
  have e : (fun d i => if d = b ∧ i = j then g (R.2.2.1 b j) else (if d < b ∨ (d = b ∧ i < j) then g (R.2.2.1 d i) else R.2.2.1 d i)) = (fun c i => if c < b ∨ (c = b ∧ i < j + 1) then g (R.2.2.1 c i) else R.2.2.1 c i) := by
    funext d i
    by_cases c : d = b ∧ i = j
    · rw [if_pos c, if_pos (by omega), c.1, c.2]
    · rw [if_neg c]
      by_cases e : d < b ∨ (d = b ∧ i < j)
      · rw [if_pos e, if_pos (by omega)]
      · rw [if_neg e, if_neg (by omega)]
  show (R.1, R.2.1, (fun d i => if d = b ∧ i = j then g (R.2.2.1 b j) else (if d < b ∨ (d = b ∧ i < j) then g (R.2.2.1 d i) else R.2.2.1 d i)), R.2.2.2) = _
  rw [e]
  rfl
theorem hf_0 {γ el : Nat → Nat → Nat} {F : Nat → va_E} {c : Nat} (h : rfX γ el F c R) : rfX γ el F c (hfP R g 0 0) := rfX_c h rfl (fun i hi => ⟨rfl, rfl, fun k hk => if_neg (by omega)⟩)
theorem hf_e {γ el : Nat → Nat → Nat} {F : Nat → va_E} {c n : Nat} (hn : ∀ i, n ≤ i → i < R.2.1 b → g (R.2.2.1 b i) = R.2.2.1 b i) (h : rfX γ el F c (hfP R g b n)) : rfX γ el F c (hfP R g (b + 1) 0) := rfX_c h rfl (fun i hi => ⟨rfl, rfl, fun k hk => by
  have hk' : k < R.2.1 i := hk
  show (if i < b + 1 ∨ (i = b + 1 ∧ k < 0) then g (R.2.2.1 i k) else R.2.2.1 i k) = (if i < b ∨ (i = b ∧ k < n) then g (R.2.2.1 i k) else R.2.2.1 i k)
  by_cases e : i < b + 1
  · rw [if_pos (Or.inl e)]
    by_cases e2 : i < b ∨ (i = b ∧ k < n)
    · rw [if_pos e2]
    · rw [if_neg e2]
      have e3 : i = b := by omega
      rw [e3] at hk' ⊢
      exact hn k (by omega) hk'
  · rw [if_neg (by omega), if_neg (by omega)]⟩)
set_option maxHeartbeats 2000000 in
theorem col_ln {q0 : Nat} {q1 : Nat} {o1 : Nat → va_E} (hO : lnO2 r l) (hl : lnX r l (F q1)) (hs : rwS (F q1)) (n17 : γ 9 17 ≠ q1) (hC : ∀ v, v < 2000 → (cB (F (γ 9 17)) v).toInt = col v) (hc1 : 0 ≤ l 1 → 0 ≤ col (l 1).toNat ∧ col (l 1).toNat < 2000) (hc2 : 0 ≤ l 2 → 0 ≤ col (l 2).toNat ∧ col (l 2).toNat < 2000) (hc4 : 0 ≤ l 4 → 0 ≤ col (l 4).toNat ∧ col (l 4).toNat < 2000) (h : tr_RModel_coloured D I γ el F q0 q1 o1) : lnX r (rmL col l) (o1 q1) ∧ ∀ a, a ≠ q1 → o1 a = F a := by
  obtain ⟨U1, U2, U3⟩ := lnU_X hO hl
  have B1 := lnO2_le1 hO
  have B2 := lnO2_le2 hO
  have B4 := lnO2_le4 hO
  have cp : ∀ x : Int, 0 ≤ x → cM col x = col x.toNat := fun x hx => if_pos hx
  refine h (fun o1 => lnX r (rmL col l) (o1 q1) ∧ ∀ a, a ≠ q1 → o1 a = F a) ?_ ?_ ?_ ?_ ?_ ?_ ?_ ?_
  · intro x1 x2 x3 x4 x5 x6 h1 h2 h3 h4 h5 h6 h7 h8 h9 h10 h11 h12
    have L0 := hl
    have O0 := hO
    have S0 := hs
    have qa := uA_t2 h4
    have qb := uB_t2 h8
    have qs := ss_t2 h11
    have v_x1 : x1 = fI (F q1) 0 := by rw [← h1]
    have v_x2 : x2 = fI (F q1) 5 := by rw [← h2]
    have v_x4 : x4 = fI (F q1) 6 := by rw [← h6]
    rw [v_x1] at qa
    rw [v_x2] at qa
    rw [v_x1] at qb
    rw [v_x4] at qb
    rw [v_x1] at qs
    have n2 : cM col (l 2) = l 2 := cM_x (by omega)
    have K1 : lnX r (mkL (l 0) (l 1) (cM col (l 2)) (l 3) (l 4) (l 5)) (F q1) := by rw [n2]; exact lnX_6 L0 (fun f hf => mk6 hf)
    have O1 : lnO2 r (mkL (l 0) (l 1) (cM col (l 2)) (l 3) (l 4) (l 5)) := by rw [n2]; exact lnO2_6 O0 (fun f hf => mk6 hf)
    have L1 := K1
    have n4 : cM col (l 4) = l 4 := cM_x (by omega)
    have K2 : lnX r (mkL (l 0) (l 1) (cM col (l 2)) (l 3) (cM col (l 4)) (l 5)) (F q1) := by rw [n4]; exact lnX_6 L1 (fun f hf => rfl)
    have O2 : lnO2 r (mkL (l 0) (l 1) (cM col (l 2)) (l 3) (cM col (l 4)) (l 5)) := by rw [n4]; exact lnO2_6 O1 (fun f hf => rfl)
    have L2 := K2
    have n1 : cM col (l 1) = l 1 := cM_x (by omega)
    have K3 : lnX r (mkL (l 0) (cM col (l 1)) (cM col (l 2)) (l 3) (cM col (l 4)) (l 5)) (F q1) := by rw [n1]; exact lnX_6 L2 (fun f hf => rfl)
    have L3 := K3
    exact ⟨lnX_6 L3 (fun f hf => rm6 f hf), fun a ha => rfl⟩
  · intro x1 x2 x3 x4 x5 x6 x7 x8 x9 x10 h1 h2 h3 h4 h5 h6 h7 h8 h9 h10 h11 h12 h13 h14 h15 h16 h17 h18 h19
    have L0 := hl
    have O0 := hO
    have S0 := hs
    have qa := uA_t2 h4
    have qb := uB_t2 h8
    have qs := ss_t2 h11
    obtain ⟨S1, E1_0, E1_1, E1_2, E1_3, E1_4, E1_5, E1_6⟩ := cw_1 S0 h19
    have v_x1 : x1 = fI (F q1) 0 := by rw [← h1]
    have v_x2 : x2 = fI (F q1) 5 := by rw [← h2]
    have v_x4 : x4 = fI (F q1) 6 := by rw [← h6]
    have v_x7 : x7 = fI (F q1) 1 := by rw [← h14]
    rw [v_x1] at qa
    rw [v_x2] at qa
    rw [v_x1] at qb
    rw [v_x4] at qb
    rw [v_x1] at qs
    have n2 : cM col (l 2) = l 2 := cM_x (by omega)
    have K1 : lnX r (mkL (l 0) (l 1) (cM col (l 2)) (l 3) (l 4) (l 5)) (F q1) := by rw [n2]; exact lnX_6 L0 (fun f hf => mk6 hf)
    have O1 : lnO2 r (mkL (l 0) (l 1) (cM col (l 2)) (l 3) (l 4) (l 5)) := by rw [n2]; exact lnO2_6 O0 (fun f hf => mk6 hf)
    have L1 := K1
    have n4 : cM col (l 4) = l 4 := cM_x (by omega)
    have K2 : lnX r (mkL (l 0) (l 1) (cM col (l 2)) (l 3) (cM col (l 4)) (l 5)) (F q1) := by rw [n4]; exact lnX_6 L1 (fun f hf => rfl)
    have O2 : lnO2 r (mkL (l 0) (l 1) (cM col (l 2)) (l 3) (cM col (l 4)) (l 5)) := by rw [n4]; exact lnO2_6 O1 (fun f hf => rfl)
    have L2 := K2
    have a1 : ∀ v, v < 2000 → (x8 v).toInt = col v := fun v hv => by
      have e : cB (F (γ 9 17)) = x8 := by rw [← cB_of h15]
      rw [← e]; exact hC v hv
    have g1 : 0 ≤ l 1 := by omega
    have y1 : x9.toInt = cM col (l 1) := cM_p (show x7.toInt = l 1 by rw [v_x7]; omega) g1 (by omega) a1 h16
    have z1 := hc1 g1
    rw [← cp _ g1] at z1
    have K3 : lnX r (mkL (l 0) (cM col (l 1)) (cM col (l 2)) (l 3) (cM col (l 4)) (l 5)) (x10 q1) := set_T (l := mkL (l 0) (l 1) (cM col (l 2)) (l 3) (cM col (l 4)) (l 5)) O2 L2 S0 h19 g1 y1
    have L3 := K3
    exact ⟨lnX_6 L3 (fun f hf => rm6 f hf), fun a ha => by rw [h18 a ha]⟩
  · intro x1 x2 x3 x4 x5 x6 x7 x8 x9 x10 h1 h2 h3 h4 h5 h6 h7 h8 h9 h10 h11 h12 h13 h14 h15 h16 h17 h18 h19 h20
    have L0 := hl
    have O0 := hO
    have S0 := hs
    have qa := uA_t2 h4
    have qb := uB_t2 h8
    have qs := ss_t2 h19
    obtain ⟨S1, E1_0, E1_1, E1_2, E1_3, E1_4, E1_5, E1_6⟩ := cw_3 S0 h16
    have v_x1 : x1 = fI (F q1) 0 := by rw [← h1]
    have v_x2 : x2 = fI (F q1) 5 := by rw [← h2]
    have v_x4 : x4 = fI (F q1) 6 := by rw [← h6]
    have v_x6 : x6 = fI (F q1) 3 := by rw [← h11]
    rw [v_x1] at qa
    rw [v_x2] at qa
    rw [v_x1] at qb
    rw [v_x4] at qb
    rw [v_x1] at qs
    have n2 : cM col (l 2) = l 2 := cM_x (by omega)
    have K1 : lnX r (mkL (l 0) (l 1) (cM col (l 2)) (l 3) (l 4) (l 5)) (F q1) := by rw [n2]; exact lnX_6 L0 (fun f hf => mk6 hf)
    have O1 : lnO2 r (mkL (l 0) (l 1) (cM col (l 2)) (l 3) (l 4) (l 5)) := by rw [n2]; exact lnO2_6 O0 (fun f hf => mk6 hf)
    have L1 := K1
    have a1 : ∀ v, v < 2000 → (x7 v).toInt = col v := fun v hv => by
      have e : cB (F (γ 9 17)) = x7 := by rw [← cB_of h12]
      rw [← e]; exact hC v hv
    have g1 : 0 ≤ l 4 := by omega
    have y1 : x8.toInt = cM col (l 4) := cM_p (show x6.toInt = l 4 by rw [v_x6]; omega) g1 (by omega) a1 h13
    have z1 := hc4 g1
    rw [← cp _ g1] at z1
    have K2 : lnX r (mkL (l 0) (l 1) (cM col (l 2)) (l 3) (cM col (l 4)) (l 5)) (x9 q1) := set_B (l := mkL (l 0) (l 1) (cM col (l 2)) (l 3) (l 4) (l 5)) O1 L1 S0 h16 g1 y1 z1.1
    have O2 : lnO2 r (mkL (l 0) (l 1) (cM col (l 2)) (l 3) (cM col (l 4)) (l 5)) := lnO2_B (l := mkL (l 0) (l 1) (cM col (l 2)) (l 3) (l 4) (l 5)) O1 g1 z1.1 (by have := z1.2; omega)
    have L2 := K2
    have n1 : cM col (l 1) = l 1 := cM_x (by omega)
    have K3 : lnX r (mkL (l 0) (cM col (l 1)) (cM col (l 2)) (l 3) (cM col (l 4)) (l 5)) (x9 q1) := by rw [n1]; exact lnX_6 L2 (fun f hf => rfl)
    have L3 := K3
    exact ⟨lnX_6 L3 (fun f hf => rm6 f hf), fun a ha => by rw [h15 a ha]⟩
  · intro x1 x2 x3 x4 x5 x6 x7 x8 x9 x10 x11 x12 x13 h1 h2 h3 h4 h5 h6 h7 h8 h9 h10 h11 h12 h13 h14 h15 h16 h17 h18 h19 h20 h21 h22 h23 h24 h25 h26 h27
    have L0 := hl
    have O0 := hO
    have S0 := hs
    have qa := uA_t2 h4
    have qb := uB_t2 h8
    have qs := ss_t2 h19
    obtain ⟨S1, E1_0, E1_1, E1_2, E1_3, E1_4, E1_5, E1_6⟩ := cw_3 S0 h16
    obtain ⟨S2, E2_0, E2_1, E2_2, E2_3, E2_4, E2_5, E2_6⟩ := cw_1 S1 h27
    have v_x1 : x1 = fI (F q1) 0 := by rw [← h1]
    have v_x2 : x2 = fI (F q1) 5 := by rw [← h2]
    have v_x4 : x4 = fI (F q1) 6 := by rw [← h6]
    have v_x6 : x6 = fI (F q1) 3 := by rw [← h11]
    have v_x11 : x11 = fI (F q1) 1 := by rw [← h22, E1_1]
    rw [v_x1] at qa
    rw [v_x2] at qa
    rw [v_x1] at qb
    rw [v_x4] at qb
    rw [v_x1] at qs
    have n2 : cM col (l 2) = l 2 := cM_x (by omega)
    have K1 : lnX r (mkL (l 0) (l 1) (cM col (l 2)) (l 3) (l 4) (l 5)) (F q1) := by rw [n2]; exact lnX_6 L0 (fun f hf => mk6 hf)
    have O1 : lnO2 r (mkL (l 0) (l 1) (cM col (l 2)) (l 3) (l 4) (l 5)) := by rw [n2]; exact lnO2_6 O0 (fun f hf => mk6 hf)
    have L1 := K1
    have a1 : ∀ v, v < 2000 → (x7 v).toInt = col v := fun v hv => by
      have e : cB (F (γ 9 17)) = x7 := by rw [← cB_of h12]
      rw [← e]; exact hC v hv
    have g1 : 0 ≤ l 4 := by omega
    have y1 : x8.toInt = cM col (l 4) := cM_p (show x6.toInt = l 4 by rw [v_x6]; omega) g1 (by omega) a1 h13
    have z1 := hc4 g1
    rw [← cp _ g1] at z1
    have K2 : lnX r (mkL (l 0) (l 1) (cM col (l 2)) (l 3) (cM col (l 4)) (l 5)) (x9 q1) := set_B (l := mkL (l 0) (l 1) (cM col (l 2)) (l 3) (l 4) (l 5)) O1 L1 S0 h16 g1 y1 z1.1
    have O2 : lnO2 r (mkL (l 0) (l 1) (cM col (l 2)) (l 3) (cM col (l 4)) (l 5)) := lnO2_B (l := mkL (l 0) (l 1) (cM col (l 2)) (l 3) (l 4) (l 5)) O1 g1 z1.1 (by have := z1.2; omega)
    have L2 := K2
    have a2 : ∀ v, v < 2000 → (x7 v).toInt = col v := fun v hv => by
      have e : cB (F (γ 9 17)) = x7 := by rw [← cB_of h23, h15 _ n17]
      rw [← e]; exact hC v hv
    have g2 : 0 ≤ l 1 := by omega
    have y2 : x12.toInt = cM col (l 1) := cM_p (show x11.toInt = l 1 by rw [v_x11]; omega) g2 (by omega) a2 h24
    have z2 := hc1 g2
    rw [← cp _ g2] at z2
    have K3 : lnX r (mkL (l 0) (cM col (l 1)) (cM col (l 2)) (l 3) (cM col (l 4)) (l 5)) (x13 q1) := set_T (l := mkL (l 0) (l 1) (cM col (l 2)) (l 3) (cM col (l 4)) (l 5)) O2 L2 S1 h27 g2 y2
    have L3 := K3
    exact ⟨lnX_6 L3 (fun f hf => rm6 f hf), fun a ha => by rw [h26 a ha, h15 a ha]⟩
  · intro x1 x2 x3 x4 x5 x6 x7 x8 x9 x10 h1 h2 h3 h4 h5 h6 h7 h8 h9 h10 h11 h12 h13 h14 h15 h16 h17 h18 h19 h20
    have L0 := hl
    have O0 := hO
    have S0 := hs
    have qa := uA_t2 h4
    have qb := uB_t2 h16
    have qs := ss_t2 h19
    obtain ⟨S1, E1_0, E1_1, E1_2, E1_3, E1_4, E1_5, E1_6⟩ := cw_2 S0 h12
    have v_x1 : x1 = fI (F q1) 0 := by rw [← h1]
    have v_x2 : x2 = fI (F q1) 5 := by rw [← h2]
    have v_x4 : x4 = fI (F q1) 2 := by rw [← h7]
    have v_x8 : x8 = fI (F q1) 6 := by rw [← h14, E1_6]
    rw [v_x1] at qa
    rw [v_x2] at qa
    rw [v_x1] at qb
    rw [v_x8] at qb
    rw [v_x1] at qs
    have a1 : ∀ v, v < 2000 → (x5 v).toInt = col v := fun v hv => by
      have e : cB (F (γ 9 17)) = x5 := by rw [← cB_of h8]
      rw [← e]; exact hC v hv
    have g1 : 0 ≤ l 2 := by omega
    have y1 : x6.toInt = cM col (l 2) := cM_p (show x4.toInt = l 2 by rw [v_x4]; omega) g1 (by omega) a1 h9
    have z1 := hc2 g1
    rw [← cp _ g1] at z1
    have K1 : lnX r (mkL (l 0) (l 1) (cM col (l 2)) (l 3) (l 4) (l 5)) (x7 q1) := set_A (l := l) O0 L0 S0 h12 g1 y1 z1.1
    have O1 : lnO2 r (mkL (l 0) (l 1) (cM col (l 2)) (l 3) (l 4) (l 5)) := lnO2_A (l := l) O0 g1 z1.1 (by have := z1.2; omega)
    have L1 := K1
    have n4 : cM col (l 4) = l 4 := cM_x (by omega)
    have K2 : lnX r (mkL (l 0) (l 1) (cM col (l 2)) (l 3) (cM col (l 4)) (l 5)) (x7 q1) := by rw [n4]; exact lnX_6 L1 (fun f hf => rfl)
    have O2 : lnO2 r (mkL (l 0) (l 1) (cM col (l 2)) (l 3) (cM col (l 4)) (l 5)) := by rw [n4]; exact lnO2_6 O1 (fun f hf => rfl)
    have L2 := K2
    have n1 : cM col (l 1) = l 1 := cM_x (by omega)
    have K3 : lnX r (mkL (l 0) (cM col (l 1)) (cM col (l 2)) (l 3) (cM col (l 4)) (l 5)) (x7 q1) := by rw [n1]; exact lnX_6 L2 (fun f hf => rfl)
    have L3 := K3
    exact ⟨lnX_6 L3 (fun f hf => rm6 f hf), fun a ha => by rw [h11 a ha]⟩
  · intro x1 x2 x3 x4 x5 x6 x7 x8 x9 x10 x11 x12 x13 h1 h2 h3 h4 h5 h6 h7 h8 h9 h10 h11 h12 h13 h14 h15 h16 h17 h18 h19 h20 h21 h22 h23 h24 h25 h26 h27
    have L0 := hl
    have O0 := hO
    have S0 := hs
    have qa := uA_t2 h4
    have qb := uB_t2 h16
    have qs := ss_t2 h19
    obtain ⟨S1, E1_0, E1_1, E1_2, E1_3, E1_4, E1_5, E1_6⟩ := cw_2 S0 h12
    obtain ⟨S2, E2_0, E2_1, E2_2, E2_3, E2_4, E2_5, E2_6⟩ := cw_1 S1 h27
    have v_x1 : x1 = fI (F q1) 0 := by rw [← h1]
    have v_x2 : x2 = fI (F q1) 5 := by rw [← h2]
    have v_x4 : x4 = fI (F q1) 2 := by rw [← h7]
    have v_x8 : x8 = fI (F q1) 6 := by rw [← h14, E1_6]
    have v_x11 : x11 = fI (F q1) 1 := by rw [← h22, E1_1]
    rw [v_x1] at qa
    rw [v_x2] at qa
    rw [v_x1] at qb
    rw [v_x8] at qb
    rw [v_x1] at qs
    have a1 : ∀ v, v < 2000 → (x5 v).toInt = col v := fun v hv => by
      have e : cB (F (γ 9 17)) = x5 := by rw [← cB_of h8]
      rw [← e]; exact hC v hv
    have g1 : 0 ≤ l 2 := by omega
    have y1 : x6.toInt = cM col (l 2) := cM_p (show x4.toInt = l 2 by rw [v_x4]; omega) g1 (by omega) a1 h9
    have z1 := hc2 g1
    rw [← cp _ g1] at z1
    have K1 : lnX r (mkL (l 0) (l 1) (cM col (l 2)) (l 3) (l 4) (l 5)) (x7 q1) := set_A (l := l) O0 L0 S0 h12 g1 y1 z1.1
    have O1 : lnO2 r (mkL (l 0) (l 1) (cM col (l 2)) (l 3) (l 4) (l 5)) := lnO2_A (l := l) O0 g1 z1.1 (by have := z1.2; omega)
    have L1 := K1
    have n4 : cM col (l 4) = l 4 := cM_x (by omega)
    have K2 : lnX r (mkL (l 0) (l 1) (cM col (l 2)) (l 3) (cM col (l 4)) (l 5)) (x7 q1) := by rw [n4]; exact lnX_6 L1 (fun f hf => rfl)
    have O2 : lnO2 r (mkL (l 0) (l 1) (cM col (l 2)) (l 3) (cM col (l 4)) (l 5)) := by rw [n4]; exact lnO2_6 O1 (fun f hf => rfl)
    have L2 := K2
    have a2 : ∀ v, v < 2000 → (x5 v).toInt = col v := fun v hv => by
      have e : cB (F (γ 9 17)) = x5 := by rw [← cB_of h23, h11 _ n17]
      rw [← e]; exact hC v hv
    have g2 : 0 ≤ l 1 := by omega
    have y2 : x12.toInt = cM col (l 1) := cM_p (show x11.toInt = l 1 by rw [v_x11]; omega) g2 (by omega) a2 h24
    have z2 := hc1 g2
    rw [← cp _ g2] at z2
    have K3 : lnX r (mkL (l 0) (cM col (l 1)) (cM col (l 2)) (l 3) (cM col (l 4)) (l 5)) (x13 q1) := set_T (l := mkL (l 0) (l 1) (cM col (l 2)) (l 3) (cM col (l 4)) (l 5)) O2 L2 S1 h27 g2 y2
    have L3 := K3
    exact ⟨lnX_6 L3 (fun f hf => rm6 f hf), fun a ha => by rw [h26 a ha, h11 a ha]⟩
  · intro x1 x2 x3 x4 x5 x6 x7 x8 x9 x10 x11 x12 x13 h1 h2 h3 h4 h5 h6 h7 h8 h9 h10 h11 h12 h13 h14 h15 h16 h17 h18 h19 h20 h21 h22 h23 h24 h25 h26 h27 h28
    have L0 := hl
    have O0 := hO
    have S0 := hs
    have qa := uA_t2 h4
    have qb := uB_t2 h16
    have qs := ss_t2 h27
    obtain ⟨S1, E1_0, E1_1, E1_2, E1_3, E1_4, E1_5, E1_6⟩ := cw_2 S0 h12
    obtain ⟨S2, E2_0, E2_1, E2_2, E2_3, E2_4, E2_5, E2_6⟩ := cw_3 S1 h24
    have v_x1 : x1 = fI (F q1) 0 := by rw [← h1]
    have v_x2 : x2 = fI (F q1) 5 := by rw [← h2]
    have v_x4 : x4 = fI (F q1) 2 := by rw [← h7]
    have v_x8 : x8 = fI (F q1) 6 := by rw [← h14, E1_6]
    have v_x10 : x10 = fI (F q1) 3 := by rw [← h19, E1_3]
    rw [v_x1] at qa
    rw [v_x2] at qa
    rw [v_x1] at qb
    rw [v_x8] at qb
    rw [v_x1] at qs
    have a1 : ∀ v, v < 2000 → (x5 v).toInt = col v := fun v hv => by
      have e : cB (F (γ 9 17)) = x5 := by rw [← cB_of h8]
      rw [← e]; exact hC v hv
    have g1 : 0 ≤ l 2 := by omega
    have y1 : x6.toInt = cM col (l 2) := cM_p (show x4.toInt = l 2 by rw [v_x4]; omega) g1 (by omega) a1 h9
    have z1 := hc2 g1
    rw [← cp _ g1] at z1
    have K1 : lnX r (mkL (l 0) (l 1) (cM col (l 2)) (l 3) (l 4) (l 5)) (x7 q1) := set_A (l := l) O0 L0 S0 h12 g1 y1 z1.1
    have O1 : lnO2 r (mkL (l 0) (l 1) (cM col (l 2)) (l 3) (l 4) (l 5)) := lnO2_A (l := l) O0 g1 z1.1 (by have := z1.2; omega)
    have L1 := K1
    have a2 : ∀ v, v < 2000 → (x5 v).toInt = col v := fun v hv => by
      have e : cB (F (γ 9 17)) = x5 := by rw [← cB_of h20, h11 _ n17]
      rw [← e]; exact hC v hv
    have g2 : 0 ≤ l 4 := by omega
    have y2 : x11.toInt = cM col (l 4) := cM_p (show x10.toInt = l 4 by rw [v_x10]; omega) g2 (by omega) a2 h21
    have z2 := hc4 g2
    rw [← cp _ g2] at z2
    have K2 : lnX r (mkL (l 0) (l 1) (cM col (l 2)) (l 3) (cM col (l 4)) (l 5)) (x12 q1) := set_B (l := mkL (l 0) (l 1) (cM col (l 2)) (l 3) (l 4) (l 5)) O1 L1 S1 h24 g2 y2 z2.1
    have O2 : lnO2 r (mkL (l 0) (l 1) (cM col (l 2)) (l 3) (cM col (l 4)) (l 5)) := lnO2_B (l := mkL (l 0) (l 1) (cM col (l 2)) (l 3) (l 4) (l 5)) O1 g2 z2.1 (by have := z2.2; omega)
    have L2 := K2
    have n1 : cM col (l 1) = l 1 := cM_x (by omega)
    have K3 : lnX r (mkL (l 0) (cM col (l 1)) (cM col (l 2)) (l 3) (cM col (l 4)) (l 5)) (x12 q1) := by rw [n1]; exact lnX_6 L2 (fun f hf => rfl)
    have L3 := K3
    exact ⟨lnX_6 L3 (fun f hf => rm6 f hf), fun a ha => by rw [h23 a ha, h11 a ha]⟩
  · intro x1 x2 x3 x4 x5 x6 x7 x8 x9 x10 x11 x12 x13 x14 x15 x16 h1 h2 h3 h4 h5 h6 h7 h8 h9 h10 h11 h12 h13 h14 h15 h16 h17 h18 h19 h20 h21 h22 h23 h24 h25 h26 h27 h28 h29 h30 h31 h32 h33 h34 h35
    have L0 := hl
    have O0 := hO
    have S0 := hs
    have qa := uA_t2 h4
    have qb := uB_t2 h16
    have qs := ss_t2 h27
    obtain ⟨S1, E1_0, E1_1, E1_2, E1_3, E1_4, E1_5, E1_6⟩ := cw_2 S0 h12
    obtain ⟨S2, E2_0, E2_1, E2_2, E2_3, E2_4, E2_5, E2_6⟩ := cw_3 S1 h24
    obtain ⟨S3, E3_0, E3_1, E3_2, E3_3, E3_4, E3_5, E3_6⟩ := cw_1 S2 h35
    have v_x1 : x1 = fI (F q1) 0 := by rw [← h1]
    have v_x2 : x2 = fI (F q1) 5 := by rw [← h2]
    have v_x4 : x4 = fI (F q1) 2 := by rw [← h7]
    have v_x8 : x8 = fI (F q1) 6 := by rw [← h14, E1_6]
    have v_x10 : x10 = fI (F q1) 3 := by rw [← h19, E1_3]
    have v_x14 : x14 = fI (F q1) 1 := by rw [← h30, E2_1, E1_1]
    rw [v_x1] at qa
    rw [v_x2] at qa
    rw [v_x1] at qb
    rw [v_x8] at qb
    rw [v_x1] at qs
    have a1 : ∀ v, v < 2000 → (x5 v).toInt = col v := fun v hv => by
      have e : cB (F (γ 9 17)) = x5 := by rw [← cB_of h8]
      rw [← e]; exact hC v hv
    have g1 : 0 ≤ l 2 := by omega
    have y1 : x6.toInt = cM col (l 2) := cM_p (show x4.toInt = l 2 by rw [v_x4]; omega) g1 (by omega) a1 h9
    have z1 := hc2 g1
    rw [← cp _ g1] at z1
    have K1 : lnX r (mkL (l 0) (l 1) (cM col (l 2)) (l 3) (l 4) (l 5)) (x7 q1) := set_A (l := l) O0 L0 S0 h12 g1 y1 z1.1
    have O1 : lnO2 r (mkL (l 0) (l 1) (cM col (l 2)) (l 3) (l 4) (l 5)) := lnO2_A (l := l) O0 g1 z1.1 (by have := z1.2; omega)
    have L1 := K1
    have a2 : ∀ v, v < 2000 → (x5 v).toInt = col v := fun v hv => by
      have e : cB (F (γ 9 17)) = x5 := by rw [← cB_of h20, h11 _ n17]
      rw [← e]; exact hC v hv
    have g2 : 0 ≤ l 4 := by omega
    have y2 : x11.toInt = cM col (l 4) := cM_p (show x10.toInt = l 4 by rw [v_x10]; omega) g2 (by omega) a2 h21
    have z2 := hc4 g2
    rw [← cp _ g2] at z2
    have K2 : lnX r (mkL (l 0) (l 1) (cM col (l 2)) (l 3) (cM col (l 4)) (l 5)) (x12 q1) := set_B (l := mkL (l 0) (l 1) (cM col (l 2)) (l 3) (l 4) (l 5)) O1 L1 S1 h24 g2 y2 z2.1
    have O2 : lnO2 r (mkL (l 0) (l 1) (cM col (l 2)) (l 3) (cM col (l 4)) (l 5)) := lnO2_B (l := mkL (l 0) (l 1) (cM col (l 2)) (l 3) (l 4) (l 5)) O1 g2 z2.1 (by have := z2.2; omega)
    have L2 := K2
    have a3 : ∀ v, v < 2000 → (x5 v).toInt = col v := fun v hv => by
      have e : cB (F (γ 9 17)) = x5 := by rw [← cB_of h31, h23 _ n17, h11 _ n17]
      rw [← e]; exact hC v hv
    have g3 : 0 ≤ l 1 := by omega
    have y3 : x15.toInt = cM col (l 1) := cM_p (show x14.toInt = l 1 by rw [v_x14]; omega) g3 (by omega) a3 h32
    have z3 := hc1 g3
    rw [← cp _ g3] at z3
    have K3 : lnX r (mkL (l 0) (cM col (l 1)) (cM col (l 2)) (l 3) (cM col (l 4)) (l 5)) (x16 q1) := set_T (l := mkL (l 0) (l 1) (cM col (l 2)) (l 3) (cM col (l 4)) (l 5)) O2 L2 S2 h35 g3 y3
    have L3 := K3
    exact ⟨lnX_6 L3 (fun f hf => rm6 f hf), fun a ha => by rw [h34 a ha, h23 a ha, h11 a ha]⟩
set_option maxHeartbeats 2000000 in
theorem ga110_r {q0 : Nat} {c1 : Nat → va_E} {q1 : Nat} {l5_1 : Int32} {c2 : Nat} {s1 : List Nat} {s2 : Nat → va_E} {s3 : Nat → Nat → Nat} {s4 : Nat → Nat → Nat} {s5 : Int32} {k : Nat} {e1 : Nat → va_E} {e2 : List Nat} {e3 : Nat → Nat → Nat} {e4 : Nat → Nat → Nat} (hm : γ0 0 q0 = 10) (hc : γ0 0 q1 = 9) (hcf : γ0 1 q1 = f) (hO : qOk R) (hC : ∀ v, v < 2000 → (cB (c1 (γ0 9 17)) v).toInt = col v) (hcol : ∀ v, Sd R false 2000 v → 0 ≤ col v ∧ col v < 2000) (hb : b < R.1) (h : tl_RModel_giveAll_110 D I γ0 el0 f P F q0 c1 q1 l5_1 c2 s1 s2 s3 s4 s5 k e1 e2 e3 e4) : ∀ j : Nat, s5.toInt = (j : Int) → j ≤ R.2.1 b → s3 6 f = R.1 → c2 = s4 (s3 14 q1) b → rfX s3 s4 s2 q1 (hfP R (rmL col) b j) → (e2 = s1 ∧ e3 = s3 ∧ e4 = s4 ∧ e1 q0 = s2 q0) ∧ rfX e3 e4 e1 q1 (hfP R (rmL col) b (R.2.1 b)) := by
  refine h (fun s1 s2 s3 s4 s5 k e1 e2 e3 e4 => ∀ j : Nat, s5.toInt = (j : Int) → j ≤ R.2.1 b → s3 6 f = R.1 → c2 = s4 (s3 14 q1) b → rfX s3 s4 s2 q1 (hfP R (rmL col) b j) → (e2 = s1 ∧ e3 = s3 ∧ e4 = s4 ∧ e1 q0 = s2 q0) ∧ rfX e3 e4 e1 q1 (hfP R (rmL col) b (R.2.1 b))) ?_ ?_ ?_
  · intro P_2 F_2 gm_2 el_2 l7_2 x1 x2 h1 h2 h3 h4 h5 h6 h7 h8 h9 h10 h11 h12 h13 h14 h15
    intro j hj hj2 hR6 hc2 hx
    have jT := h2
    have jk := h3
    have c9 : gm_2 0 q1 = 9 := rSk_k jk (show rKd γ0 q1 9 from hc) (by decide) (by decide)
    have cf' : gm_2 1 q1 = f := rSk_1 jk (show rKd γ0 q1 9 from hc) (by decide) hcf
    have n9 : gm_2 9 = γ0 9 := rSk_9 jk
    have bk := hB2_ (Q := R) jT c9 cf' hR6 b hb
    rw [← hc2] at bk
    obtain ⟨ll, nn, pp, ss, v1, ⟨g1, g2, g3⟩, v3, v4, v5, -⟩ := show rk_2 gm_2 c2 (F_2 c2) from RS_o jT bk
    have ex1 : x1 = rwL gm_2 el_2 q1 b := by
      rw [← h12, v1]
      show ll = gm_2 14 (el_2 (gm_2 14 q1) b)
      rw [← hc2, g1]
    have mlen : gm_2 2 (rwL gm_2 el_2 q1 b) + 1 = R.2.1 b := (hx.2.1 b hb).1
    have hx2 := h13
    rw [ex1] at hx2
    have e : j = R.2.1 b := by omega
    rw [e] at hx
    exact ⟨⟨rfl, rfl, rfl, rfl⟩, hx⟩
  · intro P_2 F_2 gm_2 el_2 l7_2 x1 x2 x3 x4 x5 k e1 e2 e3 e4 h1 h2 h3 h4 h5 h6 h7 h8 h9 h10 h11 h12 h13 h14 h15 h16 h17 h18 h19 h20 h21 h22 h23 h24 h25 h26 ih
    intro j hj hj2 hR6 hc2 hx
    have jT := h2
    have jk := h3
    have c9 : gm_2 0 q1 = 9 := rSk_k jk (show rKd γ0 q1 9 from hc) (by decide) (by decide)
    have cf' : gm_2 1 q1 = f := rSk_1 jk (show rKd γ0 q1 9 from hc) (by decide) hcf
    have n9 : gm_2 9 = γ0 9 := rSk_9 jk
    have bk := hB2_ (Q := R) jT c9 cf' hR6 b hb
    rw [← hc2] at bk
    obtain ⟨ll, nn, pp, ss, v1, ⟨g1, g2, g3⟩, v3, v4, v5, -⟩ := show rk_2 gm_2 c2 (F_2 c2) from RS_o jT bk
    have ex1 : x1 = rwL gm_2 el_2 q1 b := by
      rw [← h12, v1]
      show ll = gm_2 14 (el_2 (gm_2 14 q1) b)
      rw [← hc2, g1]
    have mlen : gm_2 2 (rwL gm_2 el_2 q1 b) + 1 = R.2.1 b := (hx.2.1 b hb).1
    have hx2 := h13
    rw [ex1] at hx2
    have hj3 : j < R.2.1 b := by omega
    have e3 : x3 = rAt gm_2 el_2 q1 b j := by
      rw [← h18, v1]
      show nn = _
      rw [show rAt gm_2 el_2 q1 b j = gm_2 15 (el_2 (gm_2 14 q1) b) from if_neg (show ¬ j < gm_2 2 (rwL gm_2 el_2 q1 b) by omega), ← hc2, g2]
    have hl := hx.2.2 b hb j (by omega)
    rw [← e3] at hl
    have hl2 : lnX (rwB R b j) (R.2.2.1 b j) (F_2 x3) := by
      have q : lnX (rwB R b j) ((hfP R (rmL col) b j).2.2.1 b j) (F_2 x3) := hl
      rw [hf_l] at q
      exact q
    have kx : gm_2 0 x3 = 1 := by rw [e3]; exact (rAt_k jT c9 cf' (by omega)).1
    have m10 : gm_2 0 q0 = 10 := rSk_k jk (show rKd γ0 q0 10 from hm) (by decide) (by decide)
    have n17 : gm_2 9 17 ≠ x3 := fun e => by
      have q := md_17 jT m10
      rw [e, kx] at q; cases q
    have cc : ∀ f, f = 1 ∨ f = 2 ∨ f = 4 → 0 ≤ R.2.2.1 b j f → 0 ≤ col (R.2.2.1 b j f).toNat ∧ col (R.2.2.1 b j f).toNat < 2000 := fun f hf h0 => hcol _ (Sd_f hb hj3 hf h0 (by
      have q := lnO2_b (qk_l hO hb hj3)
      rcases hf with e | e | e <;> rw [e] <;> omega))
    obtain ⟨p1, p2⟩ := col_ln (qk_l hO hb hj3) hl2 (rwS_1 (RS_o jT kx)) n17 (fun v hv => by rw [n9, h7]; exact hC v hv) (cc 1 (Or.inl rfl)) (cc 2 (Or.inr (Or.inl rfl))) (cc 4 (Or.inr (Or.inr rfl))) h25
    have pt := rfX_put (b := b) (j := j) (l := rmL col (R.2.2.1 b j)) (F1 := x4) jT c9 cf' (by exact hR6) hx (hB2_ (Q := R) jT c9 cf' hR6) hb hj3 (by rw [← e3]; exact p2) (by rw [hf_l]; rfl) (by rw [← e3]; exact p1)
    rw [hf_s] at pt
    obtain ⟨⟨i1, i2, i3, i4⟩, i5⟩ := ih (j + 1) (by rw [h26]; omega) hj3 hR6 hc2 pt
    exact ⟨⟨i1, i2, i3, i4.trans h22⟩, i5⟩
  · intro P_2 F_2 gm_2 el_2 l7_2 x1 x2 x3 x4 x5 k e1 e2 e3 e4 h1 h2 h3 h4 h5 h6 h7 h8 h9 h10 h11 h12 h13 h14 h15 h16 h17 h18 h19 h20 h21 h22 h23 h24 h25 h26 h27 ih
    intro j hj hj2 hR6 hc2 hx
    have jT := h2
    have jk := h3
    have c9 : gm_2 0 q1 = 9 := rSk_k jk (show rKd γ0 q1 9 from hc) (by decide) (by decide)
    have cf' : gm_2 1 q1 = f := rSk_1 jk (show rKd γ0 q1 9 from hc) (by decide) hcf
    have n9 : gm_2 9 = γ0 9 := rSk_9 jk
    have bk := hB2_ (Q := R) jT c9 cf' hR6 b hb
    rw [← hc2] at bk
    obtain ⟨ll, nn, pp, ss, v1, ⟨g1, g2, g3⟩, v3, v4, v5, -⟩ := show rk_2 gm_2 c2 (F_2 c2) from RS_o jT bk
    have ex1 : x1 = rwL gm_2 el_2 q1 b := by
      rw [← h12, v1]
      show ll = gm_2 14 (el_2 (gm_2 14 q1) b)
      rw [← hc2, g1]
    have mlen : gm_2 2 (rwL gm_2 el_2 q1 b) + 1 = R.2.1 b := (hx.2.1 b hb).1
    have hx2 := h13
    rw [ex1] at hx2
    have hj3 : j < R.2.1 b := by omega
    have e3 : x3 = rAt gm_2 el_2 q1 b j := by
      rw [h18, ex1, show l7_2.toInt.toNat = j by rw [hj]; rfl]
      exact (if_pos (show j < gm_2 2 (rwL gm_2 el_2 q1 b) by omega)).symm
    have hl := hx.2.2 b hb j (by omega)
    rw [← e3] at hl
    have hl2 : lnX (rwB R b j) (R.2.2.1 b j) (F_2 x3) := by
      have q : lnX (rwB R b j) ((hfP R (rmL col) b j).2.2.1 b j) (F_2 x3) := hl
      rw [hf_l] at q
      exact q
    have kx : gm_2 0 x3 = 1 := by rw [e3]; exact (rAt_k jT c9 cf' (by omega)).1
    have m10 : gm_2 0 q0 = 10 := rSk_k jk (show rKd γ0 q0 10 from hm) (by decide) (by decide)
    have n17 : gm_2 9 17 ≠ x3 := fun e => by
      have q := md_17 jT m10
      rw [e, kx] at q; cases q
    have cc : ∀ f, f = 1 ∨ f = 2 ∨ f = 4 → 0 ≤ R.2.2.1 b j f → 0 ≤ col (R.2.2.1 b j f).toNat ∧ col (R.2.2.1 b j f).toNat < 2000 := fun f hf h0 => hcol _ (Sd_f hb hj3 hf h0 (by
      have q := lnO2_b (qk_l hO hb hj3)
      rcases hf with e | e | e <;> rw [e] <;> omega))
    obtain ⟨p1, p2⟩ := col_ln (qk_l hO hb hj3) hl2 (rwS_1 (RS_o jT kx)) n17 (fun v hv => by rw [n9, h7]; exact hC v hv) (cc 1 (Or.inl rfl)) (cc 2 (Or.inr (Or.inl rfl))) (cc 4 (Or.inr (Or.inr rfl))) h26
    have pt := rfX_put (b := b) (j := j) (l := rmL col (R.2.2.1 b j)) (F1 := x4) jT c9 cf' (by exact hR6) hx (hB2_ (Q := R) jT c9 cf' hR6) hb hj3 (by rw [← e3]; exact p2) (by rw [hf_l]; rfl) (by rw [← e3]; exact p1)
    rw [hf_s] at pt
    obtain ⟨⟨i1, i2, i3, i4⟩, i5⟩ := ih (j + 1) (by rw [h27]; omega) hj3 hR6 hc2 pt
    exact ⟨⟨i1, i2, i3, i4.trans h23⟩, i5⟩
theorem ga90_r {q0 : Nat} {c1 : Nat → va_E} {q1 : Nat} {s1 : List Nat} {s2 : Nat → va_E} {s3 : Nat → Nat → Nat} {s4 : Nat → Nat → Nat} {s5 : Int32} {k : Nat} {e1 : Nat → va_E} {e2 : List Nat} {e3 : Nat → Nat → Nat} {e4 : Nat → Nat → Nat} (hm : γ0 0 q0 = 10) (hc : γ0 0 q1 = 9) (hcf : γ0 1 q1 = f) (hO : qOk R) (hC : ∀ v, v < 2000 → (cB (c1 (γ0 9 17)) v).toInt = col v) (hcol : ∀ v, Sd R false 2000 v → 0 ≤ col v ∧ col v < 2000) (h : tl_RModel_giveAll_90 D I γ0 el0 f P F q0 c1 q1 s1 s2 s3 s4 s5 k e1 e2 e3 e4) : ∀ b : Nat, s5.toInt = (b : Int) → b ≤ R.1 → s3 6 f = R.1 → rfX s3 s4 s2 q1 (hfP R (rmL col) b 0) → (e2 = s1 ∧ e3 = s3 ∧ e4 = s4 ∧ e1 q0 = s2 q0) ∧ rfX e3 e4 e1 q1 (rmP R col) ∧ RS D I e2 e1 e3 e4 := by
  refine h (fun s1 s2 s3 s4 s5 k e1 e2 e3 e4 => ∀ b : Nat, s5.toInt = (b : Int) → b ≤ R.1 → s3 6 f = R.1 → rfX s3 s4 s2 q1 (hfP R (rmL col) b 0) → (e2 = s1 ∧ e3 = s3 ∧ e4 = s4 ∧ e1 q0 = s2 q0) ∧ rfX e3 e4 e1 q1 (rmP R col) ∧ RS D I e2 e1 e3 e4) ?_ ?_
  · intro P_1 F_1 gm_1 el_1 l5_1 x1 h1 h2 h3 h4 h5 h6 h7 h8 h9 h10 h11
    intro b hb hb2 hR6 hx
    have q' : (fI (F_1 q1) 3).toInt = (R.1 : Int) := hx.1
    rw [h10] at q'
    have e : b = R.1 := by omega
    rw [e] at hx
    exact ⟨⟨rfl, rfl, rfl, rfl⟩, rfX_c hx rfl (fun i hi => ⟨rfl, rfl, fun k hk => (if_pos (Or.inl hi)).symm⟩), h2⟩
  · intro P_1 F_1 gm_1 el_1 l5_1 x1 x2 x3 x4 x5 x6 x7 x8 x9 k e1 e2 e3 e4 h1 h2 h3 h4 h5 h6 h7 h8 h9 h10 h11 h12 h13 h14 h15 h16 h17 ih
    intro b hb hb2 hR6 hx
    have jT := h2
    have jk := h3
    have c9 : gm_1 0 q1 = 9 := rSk_k jk (show rKd γ0 q1 9 from hc) (by decide) (by decide)
    have q' : (fI (F_1 q1) 3).toInt = (R.1 : Int) := hx.1
    rw [h10] at q'
    have hb3 : b < R.1 := by omega
    obtain ⟨lb, lr, rn, md, w1, ⟨w2, -⟩, -⟩ := show rk_9 gm_1 el_1 q1 (F_1 q1) from RS_o jT c9
    have e3 : x3 = el_1 (gm_1 14 q1) b := by
      rw [h13, ← h12, w1, show l5_1.toInt.toNat = b by rw [hb]; rfl]
      show el_1 lb b = _
      rw [w2]
    obtain ⟨⟨i1, i2, i3, i4⟩, i5⟩ := ga110_r hm hc hcf hO hC hcol hb3 h16 0 (by decide) (Nat.zero_le _) hR6 e3 hx
    obtain ⟨⟨k1, k2, k3, k4⟩, k5⟩ := ih (b + 1) (by rw [h17]; omega) hb3 (by rw [i2]; exact hR6) (hf_e (fun i hi hi2 => by omega) i5)
    exact ⟨⟨k1.trans i1, k2.trans i2, k3.trans i3, k4.trans i4⟩, k5⟩
end SR9
