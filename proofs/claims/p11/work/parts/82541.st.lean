section STR
variable {D : va_G} {I : FieldType → ClassId} {P : List Nat} {F : Nat → va_E} {γ0 el0 : Nat → Nat → Nat} {f b nm : Nat} {R : gPg} {so : Nat → Int} {S0 : gSp6}
set_option maxHeartbeats 4000000 in
theorem sp90_c8 {q0 : Nat} {F_1 : Nat → va_E} {q1 : Nat} {l2_1 : Int32} {c1 : Nat} (hm : γ0 0 q0 = 10) (hc : γ0 0 q1 = 9) (hcf : γ0 1 q1 = f) (hQ6 : γ0 6 f = R.1) (hO : qOk R) (hb : b < R.1) (hl2 : l2_1.toInt = (b : Int)) (hsl : slR (cB (F_1 (γ0 9 19))) so) (hS0 : S0.1.1 = b + 1) (h100 : 100 ≤ S0.2) (hbd : (spB so (R.2.2.1 b) (R.2.1 b) S0).2 ≤ 720) (hld : ∀ i, i < R.2.1 b → R.2.2.1 b i 0 = 17 → slf so (R.2.2.1 b i 1) = -1) : ∀ (y1 : List Nat) (y2 : Nat → va_E) (y3 : Nat → Nat → Nat) (y4 : Nat → Nat → Nat) (y5 : Int32) (y6 : Nat) (y7 : Int32) (y8 : Int32) (k : Nat) (e1 : Nat → va_E) (e2 : List Nat) (e3 : Nat → Nat → Nat) (e4 : Nat → Nat → Nat), gB y5 0 1000001 → gB y7 (-1) 1999 → gB y8 (-1) 1999 → RS D I y1 y2 y3 y4 → rSk f [101] ([1, 3, 5, 6, 8, 9, 101] ++ npk) D I P F γ0 el0 y1 y2 y3 y4 → y3 6 f = γ0 6 f → y3 18 f = γ0 18 f → ((y3 7 f : Nat) : Int) = (fI (y2 q0) 11).toInt → (fI (y2 q0) 11).toInt = (fI (F_1 q0) 11).toInt → 100 ≤ (fI (y2 q0) 14).toInt → (y2 (γ0 9 19) = F_1 (γ0 9 19)) → rPl y3 y4 y2 q1 (y3 6 f) (spX (cB (F (γ0 9 3))) (cB (F_1 (γ0 9 19))) (l2_1.toInt : Int).toNat (y5.toInt : Int).toNat) → rAt y3 y4 q1 (l2_1.toInt : Int).toNat (y5.toInt : Int).toNat = y6 → rS1 (cB (F (γ0 9 3))) (cB (F_1 (γ0 9 19))) (y2 y6) y7.toInt y8.toInt → (y5.toInt : Int) ≤ y3 2 (y3 14 c1) → (l2_1.toInt : Int) < y3 6 f → eO y5.toInt (y3 2 (y3 14 c1) : Nat) (fI (y2 y6) 0).toInt → (y2 (γ0 9 3) = F (γ0 9 3)) → mKp (F q0) (y2 q0) → 0 ≤ y8.toInt → y8.toInt = y7.toInt → sp90_J1 q0 q1 c1 R b so S0 y1 y2 y3 y4 y5 y6 k e1 e2 e3 e4 → sp90_J2 q0 q1 c1 R b so S0 y1 y2 y3 y4 y5 y6 y7 y8 k e1 e2 e3 e4 := by
  have eb : l2_1.toInt.toNat = b := by rw [hl2]; rfl
  have SBb : ∀ i, (spB so (R.2.2.1 b) i S0).1.1 = b + 1 := fun i => ((spB_k (so := so) (ls := R.2.2.1 b) (s := S0) (by omega) h100 i).1.1).trans hS0
  have SB0 : ∀ i, 0 < (spB so (R.2.2.1 b) i S0).1.1 := fun i => by rw [SBb i]; omega
  have SB2 : ∀ i, 100 ≤ (spB so (R.2.2.1 b) i S0).2 := fun i => (spB_k (so := so) (ls := R.2.2.1 b) (s := S0) (by omega) h100 i).2.2
  have SBn : ∀ i, i < R.2.1 b → (spLn so (R.2.2.1 b i) (spB so (R.2.2.1 b) i S0)).2 ≤ 720 := fun i hi => by
    have q := (spB_m (so := so) (ls := R.2.2.1 b) (s := S0) (by omega) h100 (R.2.1 b - (i + 1)) (i + 1)).1
    rw [show i + 1 + (R.2.1 b - (i + 1)) = R.2.1 b by omega] at q
    exact Nat.le_trans q hbd
  have R2n : ∀ i, (spR so (R.2.2.1 b i) (spB so (R.2.2.1 b) i S0)).2 ≤ (spLn so (R.2.2.1 b i) (spB so (R.2.2.1 b) i S0)).2 := fun i => (spW_k (so := so) (l := (R.2.2.1 b i)) (a := ldV so ((R.2.2.1 b i) 2) (spB so (R.2.2.1 b) i S0).2) (c := spV so (R.2.2.1 b i) (spB so (R.2.2.1 b) i S0)) (spR_1 (SB0 i)) (spR_2 (SB2 i))).2.1
  have R1n : ∀ i, (ldN so ((R.2.2.1 b i) 2) (spB so (R.2.2.1 b) i S0)).2 ≤ (spR so (R.2.2.1 b i) (spB so (R.2.2.1 b) i S0)).2 := fun i => by
    unfold spR
    split
    · exact Nat.le_refl _
    · exact ldN_le
  have lO : ∀ i, i < R.2.1 b → lnO2 (rwB R b i) (R.2.2.1 b i) := fun i hi => qk_l hO hb hi
  intro y1 y2 y3 y4 y5 y6 y7 y8 k e1 e2 e3 e4 h1 h2 h3 h4 h5 h6 h7 h8 h9 h10 h11 h12 h13 h14 h15 h16 h17 h18 h19 h20 h21 ih
  intro i hi2 hst
  obtain ⟨a1, a2, a3, a4, a5, a6⟩ := hst
  have c9 : y3 0 q1 = 9 := rSk_k h5 (show rKd γ0 q1 9 from hc) (by decide) (by decide)
  have cf' : y3 1 q1 = f := rSk_1 h5 (show rKd γ0 q1 9 from hc) (by decide) hcf
  have m10 : y3 0 q0 = 10 := rSk_k h5 (show rKd γ0 q0 10 from hm) (by decide) (by decide)
  have n9 : y3 9 = γ0 9 := rSk_9 h5
  have g6 : y3 6 f = R.1 := (h6).trans hQ6
  have e42 : (R.2.2.1 b i) 4 = (R.2.2.1 b i) 2 := by omega
  have eR : (spR so (R.2.2.1 b i) (spB so (R.2.2.1 b) i S0)) = (ldN so ((R.2.2.1 b i) 2) (spB so (R.2.2.1 b) i S0)) := if_pos e42
  have eW : spV so (R.2.2.1 b i) (spB so (R.2.2.1 b) i S0) = ldV so ((R.2.2.1 b i) 2) (spB so (R.2.2.1 b) i S0).2 := if_pos e42
  rw [if_pos e42] at a1
  refine ih i hi2 ?_
  rw [eR, eW]
  exact ⟨a1, a2, a3, a4⟩
set_option maxHeartbeats 4000000 in
theorem sp90_c9 {q0 : Nat} {F_1 : Nat → va_E} {q1 : Nat} {l2_1 : Int32} {c1 : Nat} (hm : γ0 0 q0 = 10) (hc : γ0 0 q1 = 9) (hcf : γ0 1 q1 = f) (hQ6 : γ0 6 f = R.1) (hO : qOk R) (hb : b < R.1) (hl2 : l2_1.toInt = (b : Int)) (hsl : slR (cB (F_1 (γ0 9 19))) so) (hS0 : S0.1.1 = b + 1) (h100 : 100 ≤ S0.2) (hbd : (spB so (R.2.2.1 b) (R.2.1 b) S0).2 ≤ 720) (hld : ∀ i, i < R.2.1 b → R.2.2.1 b i 0 = 17 → slf so (R.2.2.1 b i 1) = -1) : ∀ (y1 : List Nat) (y2 : Nat → va_E) (y3 : Nat → Nat → Nat) (y4 : Nat → Nat → Nat) (y5 : Int32) (y6 : Nat) (y7 : Int32) (y8 : Int32) (x1 : Nat → Int32) (x2 : Int32) (k : Nat) (e1 : Nat → va_E) (e2 : List Nat) (e3 : Nat → Nat → Nat) (e4 : Nat → Nat → Nat), gB y5 0 1000001 → gB y7 (-1) 1999 → gB y8 (-1) 1999 → RS D I y1 y2 y3 y4 → rSk f [101] ([1, 3, 5, 6, 8, 9, 101] ++ npk) D I P F γ0 el0 y1 y2 y3 y4 → y3 6 f = γ0 6 f → y3 18 f = γ0 18 f → ((y3 7 f : Nat) : Int) = (fI (y2 q0) 11).toInt → (fI (y2 q0) 11).toInt = (fI (F_1 q0) 11).toInt → 100 ≤ (fI (y2 q0) 14).toInt → (y2 (γ0 9 19) = F_1 (γ0 9 19)) → rPl y3 y4 y2 q1 (y3 6 f) (spX (cB (F (γ0 9 3))) (cB (F_1 (γ0 9 19))) (l2_1.toInt : Int).toNat (y5.toInt : Int).toNat) → rAt y3 y4 q1 (l2_1.toInt : Int).toNat (y5.toInt : Int).toNat = y6 → rS1 (cB (F (γ0 9 3))) (cB (F_1 (γ0 9 19))) (y2 y6) y7.toInt y8.toInt → (y5.toInt : Int) ≤ y3 2 (y3 14 c1) → (l2_1.toInt : Int) < y3 6 f → eO y5.toInt (y3 2 (y3 14 c1) : Nat) (fI (y2 y6) 0).toInt → (y2 (γ0 9 3) = F (γ0 9 3)) → mKp (F q0) (y2 q0) → 0 ≤ y8.toInt → y8.toInt ≠ y7.toInt → fR (y2 q0) 19 = (y3 9 19) → y2 (y3 9 19) = .inl (I .int, 2000, .inl x1) → x2 = x1 y8.toNatClampNeg → gB x2 (-1) 1999 → x2.toInt < 0 → sp90_J1 q0 q1 c1 R b so S0 y1 y2 y3 y4 y5 y6 k e1 e2 e3 e4 → sp90_J2 q0 q1 c1 R b so S0 y1 y2 y3 y4 y5 y6 y7 y8 k e1 e2 e3 e4 := by
  have eb : l2_1.toInt.toNat = b := by rw [hl2]; rfl
  have SBb : ∀ i, (spB so (R.2.2.1 b) i S0).1.1 = b + 1 := fun i => ((spB_k (so := so) (ls := R.2.2.1 b) (s := S0) (by omega) h100 i).1.1).trans hS0
  have SB0 : ∀ i, 0 < (spB so (R.2.2.1 b) i S0).1.1 := fun i => by rw [SBb i]; omega
  have SB2 : ∀ i, 100 ≤ (spB so (R.2.2.1 b) i S0).2 := fun i => (spB_k (so := so) (ls := R.2.2.1 b) (s := S0) (by omega) h100 i).2.2
  have SBn : ∀ i, i < R.2.1 b → (spLn so (R.2.2.1 b i) (spB so (R.2.2.1 b) i S0)).2 ≤ 720 := fun i hi => by
    have q := (spB_m (so := so) (ls := R.2.2.1 b) (s := S0) (by omega) h100 (R.2.1 b - (i + 1)) (i + 1)).1
    rw [show i + 1 + (R.2.1 b - (i + 1)) = R.2.1 b by omega] at q
    exact Nat.le_trans q hbd
  have R2n : ∀ i, (spR so (R.2.2.1 b i) (spB so (R.2.2.1 b) i S0)).2 ≤ (spLn so (R.2.2.1 b i) (spB so (R.2.2.1 b) i S0)).2 := fun i => (spW_k (so := so) (l := (R.2.2.1 b i)) (a := ldV so ((R.2.2.1 b i) 2) (spB so (R.2.2.1 b) i S0).2) (c := spV so (R.2.2.1 b i) (spB so (R.2.2.1 b) i S0)) (spR_1 (SB0 i)) (spR_2 (SB2 i))).2.1
  have R1n : ∀ i, (ldN so ((R.2.2.1 b i) 2) (spB so (R.2.2.1 b) i S0)).2 ≤ (spR so (R.2.2.1 b i) (spB so (R.2.2.1 b) i S0)).2 := fun i => by
    unfold spR
    split
    · exact Nat.le_refl _
    · exact ldN_le
  have lO : ∀ i, i < R.2.1 b → lnO2 (rwB R b i) (R.2.2.1 b i) := fun i hi => qk_l hO hb hi
  intro y1 y2 y3 y4 y5 y6 y7 y8 x1 x2 k e1 e2 e3 e4 h1 h2 h3 h4 h5 h6 h7 h8 h9 h10 h11 h12 h13 h14 h15 h16 h17 h18 h19 h20 h21 h22 h23 h24 h25 h26 ih
  intro i hi2 hst
  obtain ⟨a1, a2, a3, a4, a5, a6⟩ := hst
  have c9 : y3 0 q1 = 9 := rSk_k h5 (show rKd γ0 q1 9 from hc) (by decide) (by decide)
  have cf' : y3 1 q1 = f := rSk_1 h5 (show rKd γ0 q1 9 from hc) (by decide) hcf
  have m10 : y3 0 q0 = 10 := rSk_k h5 (show rKd γ0 q0 10 from hm) (by decide) (by decide)
  have n9 : y3 9 = γ0 9 := rSk_9 h5
  have g6 : y3 6 f = R.1 := (h6).trans hQ6
  have e42 : ¬ (R.2.2.1 b i) 4 = (R.2.2.1 b i) 2 := by omega
  have eg : cB (F_1 (γ0 9 19)) = x1 := by rw [← h11, ← n9]; exact cB_of h23
  have sv := slR_u hsl a6 (by omega) (lnO2_le4 (lO i hi2))
  rw [eg, ← h24] at sv
  have e1 : slf so ((R.2.2.1 b i) 4) = -1 := by omega
  have eR : (spR so (R.2.2.1 b i) (spB so (R.2.2.1 b) i S0)) = (ldN so ((R.2.2.1 b i) 2) (spB so (R.2.2.1 b) i S0)) := (if_neg e42).trans (if_pos e1)
  have eW : spV so (R.2.2.1 b i) (spB so (R.2.2.1 b) i S0) = (R.2.2.1 b i) 4 := (if_neg e42).trans (if_pos e1)
  rw [if_neg e42] at a1
  refine ih i hi2 ?_
  rw [eR, eW]
  exact ⟨a1, a2, a3, a4⟩
set_option maxHeartbeats 4000000 in
theorem sp90_c10 {q0 : Nat} {F_1 : Nat → va_E} {q1 : Nat} {l2_1 : Int32} {c1 : Nat} (hm : γ0 0 q0 = 10) (hc : γ0 0 q1 = 9) (hcf : γ0 1 q1 = f) (hQ6 : γ0 6 f = R.1) (hO : qOk R) (hb : b < R.1) (hl2 : l2_1.toInt = (b : Int)) (hsl : slR (cB (F_1 (γ0 9 19))) so) (hS0 : S0.1.1 = b + 1) (h100 : 100 ≤ S0.2) (hbd : (spB so (R.2.2.1 b) (R.2.1 b) S0).2 ≤ 720) (hld : ∀ i, i < R.2.1 b → R.2.2.1 b i 0 = 17 → slf so (R.2.2.1 b i 1) = -1) : ∀ (y1 : List Nat) (y2 : Nat → va_E) (y3 : Nat → Nat → Nat) (y4 : Nat → Nat → Nat) (y5 : Int32) (y6 : Nat) (y7 : Int32) (y8 : Int32) (x1 : Nat → Int32) (x2 : Int32) (x3 : List Nat) (x4 : Nat → va_E) (x5 : Nat → Nat → Nat) (x6 : Nat → Nat → Nat) (x7 : Int32) (x8 : Int32) (x9 : Nat → va_E) (k : Nat) (e1 : Nat → va_E) (e2 : List Nat) (e3 : Nat → Nat → Nat) (e4 : Nat → Nat → Nat), gB y5 0 1000001 → gB y7 (-1) 1999 → gB y8 (-1) 1999 → RS D I y1 y2 y3 y4 → rSk f [101] ([1, 3, 5, 6, 8, 9, 101] ++ npk) D I P F γ0 el0 y1 y2 y3 y4 → y3 6 f = γ0 6 f → y3 18 f = γ0 18 f → ((y3 7 f : Nat) : Int) = (fI (y2 q0) 11).toInt → (fI (y2 q0) 11).toInt = (fI (F_1 q0) 11).toInt → 100 ≤ (fI (y2 q0) 14).toInt → (y2 (γ0 9 19) = F_1 (γ0 9 19)) → rPl y3 y4 y2 q1 (y3 6 f) (spX (cB (F (γ0 9 3))) (cB (F_1 (γ0 9 19))) (l2_1.toInt : Int).toNat (y5.toInt : Int).toNat) → rAt y3 y4 q1 (l2_1.toInt : Int).toNat (y5.toInt : Int).toNat = y6 → rS1 (cB (F (γ0 9 3))) (cB (F_1 (γ0 9 19))) (y2 y6) y7.toInt y8.toInt → (y5.toInt : Int) ≤ y3 2 (y3 14 c1) → (l2_1.toInt : Int) < y3 6 f → eO y5.toInt (y3 2 (y3 14 c1) : Nat) (fI (y2 y6) 0).toInt → (y2 (γ0 9 3) = F (γ0 9 3)) → mKp (F q0) (y2 q0) → 0 ≤ y8.toInt → y8.toInt ≠ y7.toInt → fR (y2 q0) 19 = (y3 9 19) → y2 (y3 9 19) = .inl (I .int, 2000, .inl x1) → x2 = x1 y8.toNatClampNeg → gB x2 (-1) 1999 → 0 ≤ x2.toInt → rSk f [101] ([3, 5, 6, 8, 9, 10, 101]) D I y1 y2 y3 y4 x3 x4 x5 x6 → x5 6 f = y3 6 f → x5 7 f = y3 7 f → x5 18 f = y3 18 f → ((x5 14 c1 = y3 14 c1 ∧ l2_1.toInt.toNat < x5 2 (x5 14 q1) ∧ x6 (x5 14 q1) l2_1.toInt.toNat = c1)) → ((x7.toInt < 0 ∨ (x7.toInt = (fI (y2 q0) 14).toInt ∧ x7.toInt < 2000 ∧ (fI (x4 q0) 14).toInt = x7.toInt + 1 ∧ x5 16 f = y3 16 f + 1 ∧ x5 2 (x5 14 c1) = y3 2 (y3 14 c1) + 1))) → (fI (x4 q0) 11).toInt = (fI (y2 q0) 11).toInt → ((x7.toInt < 0 ∨ rInsP y3 y4 y2 x5 x6 x4 q1 f l2_1.toInt.toNat (y5.toInt : Int).toNat (x7.toInt : Int).toNat)) → ((x7.toInt < 0 ∨ ∀ j : Nat, (y5.toInt : Int).toNat ≤ j → rAt x5 x6 q1 l2_1.toInt.toNat (j + 1) = rAt y3 y4 q1 l2_1.toInt.toNat j)) → mKp (y2 q0) (x4 q0) → tr_RModel_load D I y3 y4 f y1 y2 q0 q1 c1 y5 x2 x7 x3 x4 x5 x6 → 0 ≤ x7.toInt → x8.toInt = y5.toInt + 1 → (∀ b, b ≠ y6 → x9 b = x4 b) → x9 y6 = cF (x4 y6) 3 (.int x7) → sp90_J1 q0 q1 c1 R b so S0 x3 x9 x5 x6 x8 y6 k e1 e2 e3 e4 → sp90_J2 q0 q1 c1 R b so S0 y1 y2 y3 y4 y5 y6 y7 y8 k e1 e2 e3 e4 := by
  have eb : l2_1.toInt.toNat = b := by rw [hl2]; rfl
  have SBb : ∀ i, (spB so (R.2.2.1 b) i S0).1.1 = b + 1 := fun i => ((spB_k (so := so) (ls := R.2.2.1 b) (s := S0) (by omega) h100 i).1.1).trans hS0
  have SB0 : ∀ i, 0 < (spB so (R.2.2.1 b) i S0).1.1 := fun i => by rw [SBb i]; omega
  have SB2 : ∀ i, 100 ≤ (spB so (R.2.2.1 b) i S0).2 := fun i => (spB_k (so := so) (ls := R.2.2.1 b) (s := S0) (by omega) h100 i).2.2
  have SBn : ∀ i, i < R.2.1 b → (spLn so (R.2.2.1 b i) (spB so (R.2.2.1 b) i S0)).2 ≤ 720 := fun i hi => by
    have q := (spB_m (so := so) (ls := R.2.2.1 b) (s := S0) (by omega) h100 (R.2.1 b - (i + 1)) (i + 1)).1
    rw [show i + 1 + (R.2.1 b - (i + 1)) = R.2.1 b by omega] at q
    exact Nat.le_trans q hbd
  have R2n : ∀ i, (spR so (R.2.2.1 b i) (spB so (R.2.2.1 b) i S0)).2 ≤ (spLn so (R.2.2.1 b i) (spB so (R.2.2.1 b) i S0)).2 := fun i => (spW_k (so := so) (l := (R.2.2.1 b i)) (a := ldV so ((R.2.2.1 b i) 2) (spB so (R.2.2.1 b) i S0).2) (c := spV so (R.2.2.1 b i) (spB so (R.2.2.1 b) i S0)) (spR_1 (SB0 i)) (spR_2 (SB2 i))).2.1
  have R1n : ∀ i, (ldN so ((R.2.2.1 b i) 2) (spB so (R.2.2.1 b) i S0)).2 ≤ (spR so (R.2.2.1 b i) (spB so (R.2.2.1 b) i S0)).2 := fun i => by
    unfold spR
    split
    · exact Nat.le_refl _
    · exact ldN_le
  have lO : ∀ i, i < R.2.1 b → lnO2 (rwB R b i) (R.2.2.1 b i) := fun i hi => qk_l hO hb hi
  intro y1 y2 y3 y4 y5 y6 y7 y8 x1 x2 x3 x4 x5 x6 x7 x8 x9 k e1 e2 e3 e4 h1 h2 h3 h4 h5 h6 h7 h8 h9 h10 h11 h12 h13 h14 h15 h16 h17 h18 h19 h20 h21 h22 h23 h24 h25 h26 h27 h28 h29 h30 h31 h32 h33 h34 h35 h36 h37 h38 h39 h40 h41 ih
  intro i hi2 hst
  obtain ⟨a1, a2, a3, a4, a5, a6⟩ := hst
  have c9 : y3 0 q1 = 9 := rSk_k h5 (show rKd γ0 q1 9 from hc) (by decide) (by decide)
  have cf' : y3 1 q1 = f := rSk_1 h5 (show rKd γ0 q1 9 from hc) (by decide) hcf
  have m10 : y3 0 q0 = 10 := rSk_k h5 (show rKd γ0 q0 10 from hm) (by decide) (by decide)
  have n9 : y3 9 = γ0 9 := rSk_9 h5
  have g6 : y3 6 f = R.1 := (h6).trans hQ6
  have e42 : ¬ (R.2.2.1 b i) 4 = (R.2.2.1 b i) 2 := by omega
  have eg : cB (F_1 (γ0 9 19)) = x1 := by rw [← h11, ← n9]; exact cB_of h23
  have sv := slR_u hsl a6 (by omega) (lnO2_le4 (lO i hi2))
  rw [eg, ← h24] at sv
  have e1 : slf so ((R.2.2.1 b i) 4) = x2.toInt := by omega
  have ne1 : ¬ slf so ((R.2.2.1 b i) 4) = -1 := by omega
  have eR : (spR so (R.2.2.1 b i) (spB so (R.2.2.1 b) i S0)) = (pgL (ldN so ((R.2.2.1 b i) 2) (spB so (R.2.2.1 b) i S0)).1 (mkL 17 ((ldN so ((R.2.2.1 b i) 2) (spB so (R.2.2.1 b) i S0)).2 : Int) (-1) 0 (-1) (slf so ((R.2.2.1 b i) 4))), (ldN so ((R.2.2.1 b i) 2) (spB so (R.2.2.1 b) i S0)).2 + 1) := (if_neg e42).trans (if_neg ne1)
  have eW : spV so (R.2.2.1 b i) (spB so (R.2.2.1 b) i S0) = ((ldN so ((R.2.2.1 b i) 2) (spB so (R.2.2.1 b) i S0)).2 : Int) := (if_neg e42).trans (if_neg ne1)
  have nn1 : (ldN so ((R.2.2.1 b i) 2) (spB so (R.2.2.1 b) i S0)).2 + 1 ≤ 720 := by
    have q2 := R2n i
    have q3 := SBn i hi2
    rw [eR] at q2
    have q2' : (ldN so ((R.2.2.1 b i) 2) (spB so (R.2.2.1 b) i S0)).2 + 1 ≤ _ := q2
    omega
  have S1b : (ldN so ((R.2.2.1 b i) 2) (spB so (R.2.2.1 b) i S0)).1.1 = b + 1 := ldN_b (SBb i)
  rw [if_neg e42] at a1
  obtain ⟨t1, t2, t3, t4⟩ := lod_r (n := (ldN so ((R.2.2.1 b i) 2) (spB so (R.2.2.1 b) i S0)).2) (j := (ldN so ((R.2.2.1 b i) 2) (spB so (R.2.2.1 b) i S0)).1.2.1 b) h4 m10 c9 cf' (by exact g6) a1 hb a2 a3 (by
    show (ldN so ((R.2.2.1 b i) 2) (spB so (R.2.2.1 b) i S0)).1.2.1 b < (mid (ldN so ((R.2.2.1 b i) 2) (spB so (R.2.2.1 b) i S0)) R b i).2.1 b
    rw [mid_len]; omega) a4 (by omega) (by omega) (by omega) h37
  have t5 : rfX x5 x6 x4 q1 (pgSt (mid (spR so (R.2.2.1 b i) (spB so (R.2.2.1 b) i S0)) R b i) b ((ldN so ((R.2.2.1 b i) 2) (spB so (R.2.2.1 b) i S0)).1.2.1 b + 1) (mkL ((R.2.2.1 b i) 0) ((R.2.2.1 b i) 1) (ldV so ((R.2.2.1 b i) 2) (spB so (R.2.2.1 b) i S0).2) ((R.2.2.1 b i) 3) ((R.2.2.1 b i) 4) ((R.2.2.1 b i) 5))) := by
    rw [eR, e1]
    exact rfX_A t2 (mid_ins S1b hi2 hb)
  have ln1 : (spR so (R.2.2.1 b i) (spB so (R.2.2.1 b) i S0)).1.2.1 b = (ldN so ((R.2.2.1 b i) 2) (spB so (R.2.2.1 b) i S0)).1.2.1 b + 1 := by rw [eR]; exact L_len S1b
  have skL := h27
  have d9 : x5 0 q1 = 9 := rSk_k skL (show rKd y3 q1 9 from c9) (by decide) (by decide)
  have df : x5 1 q1 = f := rSk_1 skL (show rKd y3 q1 9 from c9) (by decide) cf'
  have d6 : x5 6 f = R.1 := (h28).trans g6
  have hTL : RS D I x3 x4 x5 x6 := skL.1
  have rA : rAt x5 x6 q1 b ((ldN so ((R.2.2.1 b i) 2) (spB so (R.2.2.1 b) i S0)).1.2.1 b + 1) = y6 := by
    have q := (h35).resolve_left (by omega) ((ldN so ((R.2.2.1 b i) 2) (spB so (R.2.2.1 b) i S0)).1.2.1 b) (by rw [a3]; exact Nat.le_refl _)
    rw [eb] at q
    rw [q]
    have e6 := h13
    rw [eb, show y5.toInt.toNat = (ldN so ((R.2.2.1 b i) 2) (spB so (R.2.2.1 b) i S0)).1.2.1 b by rw [a3]; rfl] at e6
    exact e6
  have mL : (mid (spR so (R.2.2.1 b i) (spB so (R.2.2.1 b) i S0)) R b i).2.1 b = (ldN so ((R.2.2.1 b i) 2) (spB so (R.2.2.1 b) i S0)).1.2.1 b + 1 + (R.2.1 b - i) := by rw [mid_len, ln1]
  have rB : rwB (mid (spR so (R.2.2.1 b i) (spB so (R.2.2.1 b) i S0)) R b i) b ((ldN so ((R.2.2.1 b i) 2) (spB so (R.2.2.1 b) i S0)).1.2.1 b + 1) = rwB R b i := by rw [← ln1]; exact rwB_mid hi2
  have hl5 := t5.2.2 b hb ((ldN so ((R.2.2.1 b i) 2) (spB so (R.2.2.1 b) i S0)).1.2.1 b + 1) (by
    have q : x5 2 (rwL x5 x6 q1 b) + 1 = (mid (spR so (R.2.2.1 b i) (spB so (R.2.2.1 b) i S0)) R b i).2.1 b := (t5.2.1 b hb).1
    rw [mL] at q
    omega)
  rw [rA] at hl5
  have hl6 : lnX (rwB R b i) (mkL ((R.2.2.1 b i) 0) ((R.2.2.1 b i) 1) (ldV so ((R.2.2.1 b i) 2) (spB so (R.2.2.1 b) i S0).2) ((R.2.2.1 b i) 3) ((R.2.2.1 b i) 4) ((R.2.2.1 b i) 5)) (x4 y6) := by
    have q : lnX (rwB (mid (spR so (R.2.2.1 b i) (spB so (R.2.2.1 b) i S0)) R b i) b ((ldN so ((R.2.2.1 b i) 2) (spB so (R.2.2.1 b) i S0)).1.2.1 b + 1)) ((pgSt (mid (spR so (R.2.2.1 b i) (spB so (R.2.2.1 b) i S0)) R b i) b ((ldN so ((R.2.2.1 b i) 2) (spB so (R.2.2.1 b) i S0)).1.2.1 b + 1) (mkL ((R.2.2.1 b i) 0) ((R.2.2.1 b i) 1) (ldV so ((R.2.2.1 b i) 2) (spB so (R.2.2.1 b) i S0).2) ((R.2.2.1 b i) 3) ((R.2.2.1 b i) 4) ((R.2.2.1 b i) 5))).2.2.1 b ((ldN so ((R.2.2.1 b i) 2) (spB so (R.2.2.1 b) i S0)).1.2.1 b + 1)) (x4 y6) := hl5
    rw [rB, pgSt_l] at q
    exact q
  have kx : x5 0 y6 = 1 := by rw [← rA]; exact (rAt_k hTL d9 df (by omega)).1
  have sx : rwS (x4 y6) := rwS_1 (RS_o hTL kx)
  have lO' : lnO2 (rwB R b i) (mkL ((R.2.2.1 b i) 0) ((R.2.2.1 b i) 1) (ldV so ((R.2.2.1 b i) 2) (spB so (R.2.2.1 b) i S0).2) ((R.2.2.1 b i) 3) ((R.2.2.1 b i) 4) ((R.2.2.1 b i) 5)) := lnO2_V (lO i hi2) (SB2 i) (by have := R1n i; have := R2n i; have := SBn i hi2; have := ldN_le (so := so) (x := (R.2.2.1 b i) 2) (s := (spB so (R.2.2.1 b) i S0)); omega)
  have p1 := set_B (t := ((ldN so ((R.2.2.1 b i) 2) (spB so (R.2.2.1 b) i S0)).2 : Int)) lO' hl6 sx h41 (by show 0 ≤ (R.2.2.1 b i) 4; omega) t1 (by omega)
  have pt := rfX_put (b := b) (j := (ldN so ((R.2.2.1 b i) 2) (spB so (R.2.2.1 b) i S0)).1.2.1 b + 1) (l := mkL ((R.2.2.1 b i) 0) ((R.2.2.1 b i) 1) (ldV so ((R.2.2.1 b i) 2) (spB so (R.2.2.1 b) i S0).2) ((R.2.2.1 b i) 3) ((ldN so ((R.2.2.1 b i) 2) (spB so (R.2.2.1 b) i S0)).2 : Int) ((R.2.2.1 b i) 5)) hTL d9 df (by exact d6) t5 (hB2_ (Q := R) hTL d9 df d6) hb (by
    show (ldN so ((R.2.2.1 b i) 2) (spB so (R.2.2.1 b) i S0)).1.2.1 b + 1 < (mid (spR so (R.2.2.1 b i) (spB so (R.2.2.1 b) i S0)) R b i).2.1 b
    rw [mL]; omega) (by rw [rA]; exact h40) (by rw [pgSt_l]; rfl) (by
    rw [rA]
    show lnX (rwB (mid (spR so (R.2.2.1 b i) (spB so (R.2.2.1 b) i S0)) R b i) b ((ldN so ((R.2.2.1 b i) 2) (spB so (R.2.2.1 b) i S0)).1.2.1 b + 1)) _ _
    rw [rB]
    exact p1)
  rw [pgSt_2] at pt
  have mq : x9 q0 = x4 q0 := h40 q0 (fun e => by
    have q : x5 0 q0 = 10 := rSk_k skL (show rKd y3 q0 10 from m10) (by decide) (by decide)
    rw [e, kx] at q; cases q)
  refine ih i hi2 ?_
  rw [ln1, eW]
  refine ⟨pt, t4, by omega, ?_⟩
  rw [mq, t3, eR]
set_option maxHeartbeats 4000000 in
theorem sp90_c11 {q0 : Nat} {F_1 : Nat → va_E} {q1 : Nat} {l2_1 : Int32} {c1 : Nat} (hm : γ0 0 q0 = 10) (hc : γ0 0 q1 = 9) (hcf : γ0 1 q1 = f) (hQ6 : γ0 6 f = R.1) (hO : qOk R) (hb : b < R.1) (hl2 : l2_1.toInt = (b : Int)) (hsl : slR (cB (F_1 (γ0 9 19))) so) (hS0 : S0.1.1 = b + 1) (h100 : 100 ≤ S0.2) (hbd : (spB so (R.2.2.1 b) (R.2.1 b) S0).2 ≤ 720) (hld : ∀ i, i < R.2.1 b → R.2.2.1 b i 0 = 17 → slf so (R.2.2.1 b i 1) = -1) : ∀ (y1 : List Nat) (y2 : Nat → va_E) (y3 : Nat → Nat → Nat) (y4 : Nat → Nat → Nat) (y5 : Int32) (y6 : Nat) (y7 : Int32) (y8 : Int32) (x1 : Nat → Int32) (x2 : Int32) (x3 : List Nat) (x4 : Nat → va_E) (x5 : Nat → Nat → Nat) (x6 : Nat → Nat → Nat) (x7 : Int32), gB y5 0 1000001 → gB y7 (-1) 1999 → gB y8 (-1) 1999 → RS D I y1 y2 y3 y4 → rSk f [101] ([1, 3, 5, 6, 8, 9, 101] ++ npk) D I P F γ0 el0 y1 y2 y3 y4 → y3 6 f = γ0 6 f → y3 18 f = γ0 18 f → ((y3 7 f : Nat) : Int) = (fI (y2 q0) 11).toInt → (fI (y2 q0) 11).toInt = (fI (F_1 q0) 11).toInt → 100 ≤ (fI (y2 q0) 14).toInt → (y2 (γ0 9 19) = F_1 (γ0 9 19)) → rPl y3 y4 y2 q1 (y3 6 f) (spX (cB (F (γ0 9 3))) (cB (F_1 (γ0 9 19))) (l2_1.toInt : Int).toNat (y5.toInt : Int).toNat) → rAt y3 y4 q1 (l2_1.toInt : Int).toNat (y5.toInt : Int).toNat = y6 → rS1 (cB (F (γ0 9 3))) (cB (F_1 (γ0 9 19))) (y2 y6) y7.toInt y8.toInt → (y5.toInt : Int) ≤ y3 2 (y3 14 c1) → (l2_1.toInt : Int) < y3 6 f → eO y5.toInt (y3 2 (y3 14 c1) : Nat) (fI (y2 y6) 0).toInt → (y2 (γ0 9 3) = F (γ0 9 3)) → mKp (F q0) (y2 q0) → 0 ≤ y8.toInt → y8.toInt ≠ y7.toInt → fR (y2 q0) 19 = (y3 9 19) → y2 (y3 9 19) = .inl (I .int, 2000, .inl x1) → x2 = x1 y8.toNatClampNeg → gB x2 (-1) 1999 → 0 ≤ x2.toInt → rSk f [101] ([3, 5, 6, 8, 9, 10, 101]) D I y1 y2 y3 y4 x3 x4 x5 x6 → x5 6 f = y3 6 f → x5 7 f = y3 7 f → x5 18 f = y3 18 f → ((x5 14 c1 = y3 14 c1 ∧ l2_1.toInt.toNat < x5 2 (x5 14 q1) ∧ x6 (x5 14 q1) l2_1.toInt.toNat = c1)) → ((x7.toInt < 0 ∨ (x7.toInt = (fI (y2 q0) 14).toInt ∧ x7.toInt < 2000 ∧ (fI (x4 q0) 14).toInt = x7.toInt + 1 ∧ x5 16 f = y3 16 f + 1 ∧ x5 2 (x5 14 c1) = y3 2 (y3 14 c1) + 1))) → (fI (x4 q0) 11).toInt = (fI (y2 q0) 11).toInt → ((x7.toInt < 0 ∨ rInsP y3 y4 y2 x5 x6 x4 q1 f l2_1.toInt.toNat (y5.toInt : Int).toNat (x7.toInt : Int).toNat)) → ((x7.toInt < 0 ∨ ∀ j : Nat, (y5.toInt : Int).toNat ≤ j → rAt x5 x6 q1 l2_1.toInt.toNat (j + 1) = rAt y3 y4 q1 l2_1.toInt.toNat j)) → mKp (y2 q0) (x4 q0) → tr_RModel_load D I y3 y4 f y1 y2 q0 q1 c1 y5 x2 x7 x3 x4 x5 x6 → x7.toInt < 0 → sp90_J2 q0 q1 c1 R b so S0 y1 y2 y3 y4 y5 y6 y7 y8 280 x4 x3 x5 x6 := by
  have eb : l2_1.toInt.toNat = b := by rw [hl2]; rfl
  have SBb : ∀ i, (spB so (R.2.2.1 b) i S0).1.1 = b + 1 := fun i => ((spB_k (so := so) (ls := R.2.2.1 b) (s := S0) (by omega) h100 i).1.1).trans hS0
  have SB0 : ∀ i, 0 < (spB so (R.2.2.1 b) i S0).1.1 := fun i => by rw [SBb i]; omega
  have SB2 : ∀ i, 100 ≤ (spB so (R.2.2.1 b) i S0).2 := fun i => (spB_k (so := so) (ls := R.2.2.1 b) (s := S0) (by omega) h100 i).2.2
  have SBn : ∀ i, i < R.2.1 b → (spLn so (R.2.2.1 b i) (spB so (R.2.2.1 b) i S0)).2 ≤ 720 := fun i hi => by
    have q := (spB_m (so := so) (ls := R.2.2.1 b) (s := S0) (by omega) h100 (R.2.1 b - (i + 1)) (i + 1)).1
    rw [show i + 1 + (R.2.1 b - (i + 1)) = R.2.1 b by omega] at q
    exact Nat.le_trans q hbd
  have R2n : ∀ i, (spR so (R.2.2.1 b i) (spB so (R.2.2.1 b) i S0)).2 ≤ (spLn so (R.2.2.1 b i) (spB so (R.2.2.1 b) i S0)).2 := fun i => (spW_k (so := so) (l := (R.2.2.1 b i)) (a := ldV so ((R.2.2.1 b i) 2) (spB so (R.2.2.1 b) i S0).2) (c := spV so (R.2.2.1 b i) (spB so (R.2.2.1 b) i S0)) (spR_1 (SB0 i)) (spR_2 (SB2 i))).2.1
  have R1n : ∀ i, (ldN so ((R.2.2.1 b i) 2) (spB so (R.2.2.1 b) i S0)).2 ≤ (spR so (R.2.2.1 b i) (spB so (R.2.2.1 b) i S0)).2 := fun i => by
    unfold spR
    split
    · exact Nat.le_refl _
    · exact ldN_le
  have lO : ∀ i, i < R.2.1 b → lnO2 (rwB R b i) (R.2.2.1 b i) := fun i hi => qk_l hO hb hi
  intro y1 y2 y3 y4 y5 y6 y7 y8 x1 x2 x3 x4 x5 x6 x7 h1 h2 h3 h4 h5 h6 h7 h8 h9 h10 h11 h12 h13 h14 h15 h16 h17 h18 h19 h20 h21 h22 h23 h24 h25 h26 h27 h28 h29 h30 h31 h32 h33 h34 h35 h36 h37 h38
  intro i hi2 hst
  obtain ⟨a1, a2, a3, a4, a5, a6⟩ := hst
  have c9 : y3 0 q1 = 9 := rSk_k h5 (show rKd γ0 q1 9 from hc) (by decide) (by decide)
  have cf' : y3 1 q1 = f := rSk_1 h5 (show rKd γ0 q1 9 from hc) (by decide) hcf
  have m10 : y3 0 q0 = 10 := rSk_k h5 (show rKd γ0 q0 10 from hm) (by decide) (by decide)
  have n9 : y3 9 = γ0 9 := rSk_9 h5
  have g6 : y3 6 f = R.1 := (h6).trans hQ6
  have e42 : ¬ (R.2.2.1 b i) 4 = (R.2.2.1 b i) 2 := by omega
  have eg : cB (F_1 (γ0 9 19)) = x1 := by rw [← h11, ← n9]; exact cB_of h23
  have sv := slR_u hsl a6 (by omega) (lnO2_le4 (lO i hi2))
  rw [eg, ← h24] at sv
  have e1 : slf so ((R.2.2.1 b i) 4) = x2.toInt := by omega
  have ne1 : ¬ slf so ((R.2.2.1 b i) 4) = -1 := by omega
  have eR : (spR so (R.2.2.1 b i) (spB so (R.2.2.1 b) i S0)) = (pgL (ldN so ((R.2.2.1 b i) 2) (spB so (R.2.2.1 b) i S0)).1 (mkL 17 ((ldN so ((R.2.2.1 b i) 2) (spB so (R.2.2.1 b) i S0)).2 : Int) (-1) 0 (-1) (slf so ((R.2.2.1 b i) 4))), (ldN so ((R.2.2.1 b i) 2) (spB so (R.2.2.1 b) i S0)).2 + 1) := (if_neg e42).trans (if_neg ne1)
  have eW : spV so (R.2.2.1 b i) (spB so (R.2.2.1 b) i S0) = ((ldN so ((R.2.2.1 b i) 2) (spB so (R.2.2.1 b) i S0)).2 : Int) := (if_neg e42).trans (if_neg ne1)
  have nn1 : (ldN so ((R.2.2.1 b i) 2) (spB so (R.2.2.1 b) i S0)).2 + 1 ≤ 720 := by
    have q2 := R2n i
    have q3 := SBn i hi2
    rw [eR] at q2
    have q2' : (ldN so ((R.2.2.1 b i) 2) (spB so (R.2.2.1 b) i S0)).2 + 1 ≤ _ := q2
    omega
  have S1b : (ldN so ((R.2.2.1 b i) 2) (spB so (R.2.2.1 b) i S0)).1.1 = b + 1 := ldN_b (SBb i)
  rw [if_neg e42] at a1
  obtain ⟨t1, t2, t3, t4⟩ := lod_r (n := (ldN so ((R.2.2.1 b i) 2) (spB so (R.2.2.1 b) i S0)).2) (j := (ldN so ((R.2.2.1 b i) 2) (spB so (R.2.2.1 b) i S0)).1.2.1 b) h4 m10 c9 cf' (by exact g6) a1 hb a2 a3 (by
    show (ldN so ((R.2.2.1 b i) 2) (spB so (R.2.2.1 b) i S0)).1.2.1 b < (mid (ldN so ((R.2.2.1 b i) 2) (spB so (R.2.2.1 b) i S0)) R b i).2.1 b
    rw [mid_len]; omega) a4 (by omega) (by omega) (by omega) h37
  omega
set_option maxHeartbeats 4000000 in
theorem sp90_c12 {q0 : Nat} {F_1 : Nat → va_E} {q1 : Nat} {l2_1 : Int32} {c1 : Nat} (hm : γ0 0 q0 = 10) (hc : γ0 0 q1 = 9) (hcf : γ0 1 q1 = f) (hQ6 : γ0 6 f = R.1) (hO : qOk R) (hb : b < R.1) (hl2 : l2_1.toInt = (b : Int)) (hsl : slR (cB (F_1 (γ0 9 19))) so) (hS0 : S0.1.1 = b + 1) (h100 : 100 ≤ S0.2) (hbd : (spB so (R.2.2.1 b) (R.2.1 b) S0).2 ≤ 720) (hld : ∀ i, i < R.2.1 b → R.2.2.1 b i 0 = 17 → slf so (R.2.2.1 b i 1) = -1) : ∀ (P_2 : List Nat) (F_2 : Nat → va_E) (gm_2 : Nat → Nat → Nat) (el_2 : Nat → Nat → Nat) (l4_2 : Int32) (x1 : Nat) (x2 : Int32) (x3 : Nat) (x4 : Int32) (x5 : Int32) (x6 : Int32) (x7 : Int32) (x8 : Int32) (k : Nat) (e1 : Nat → va_E) (e2 : List Nat) (e3 : Nat → Nat → Nat) (e4 : Nat → Nat → Nat), gB l4_2 0 1000003 → RS D I P_2 F_2 gm_2 el_2 → rSk f [101] ([1, 3, 5, 6, 8, 9, 101] ++ npk) D I P F γ0 el0 P_2 F_2 gm_2 el_2 → gm_2 6 f = γ0 6 f → gm_2 18 f = γ0 18 f → ((gm_2 7 f : Nat) : Int) = (fI (F_2 q0) 11).toInt → (fI (F_2 q0) 11).toInt = (fI (F_1 q0) 11).toInt → 100 ≤ (fI (F_2 q0) 14).toInt → (F_2 (γ0 9 19) = F_1 (γ0 9 19)) → rPl gm_2 el_2 F_2 q1 (gm_2 6 f) (spQ (cB (F (γ0 9 3))) (cB (F_1 (γ0 9 19))) (l2_1.toInt : Int).toNat (l4_2.toInt : Int).toNat) → (l4_2.toInt : Int) ≤ gm_2 2 (gm_2 14 c1) + 1 → (l2_1.toInt : Int) < gm_2 6 f → (F_2 (γ0 9 3) = F (γ0 9 3)) → mKp (F q0) (F_2 q0) → fR (F_2 c1) 0 = x1 → x2.toInt = (gm_2 2 x1 : Int) → fI (F_2 x1) 2 = x2 → l4_2.toInt ≤ x2.toInt → x2.toInt = (gm_2 2 x1 : Int) → x2.toInt ≤ l4_2.toInt → fR (F_2 c1) 1 = x3 → fI (F_2 x3) 0 = x4 → fI (F_2 x3) 5 = x5 → gB x6 0 1 → tr_RRow_usesA3 x4 x5 x6 → x6.toInt = 0 → fI (F_2 x3) 6 = x7 → gB x8 0 1 → tr_RRow_usesB3 x4 x7 x8 → x8.toInt = 0 → sp90_J2 q0 q1 c1 R b so S0 P_2 F_2 gm_2 el_2 l4_2 x3 (-1 : Int32) (-1 : Int32) k e1 e2 e3 e4 → sp90_M q0 q1 c1 R b so S0 P_2 F_2 gm_2 el_2 l4_2 k e1 e2 e3 e4 := by
  have eb : l2_1.toInt.toNat = b := by rw [hl2]; rfl
  have SBb : ∀ i, (spB so (R.2.2.1 b) i S0).1.1 = b + 1 := fun i => ((spB_k (so := so) (ls := R.2.2.1 b) (s := S0) (by omega) h100 i).1.1).trans hS0
  have SB0 : ∀ i, 0 < (spB so (R.2.2.1 b) i S0).1.1 := fun i => by rw [SBb i]; omega
  have SB2 : ∀ i, 100 ≤ (spB so (R.2.2.1 b) i S0).2 := fun i => (spB_k (so := so) (ls := R.2.2.1 b) (s := S0) (by omega) h100 i).2.2
  have SBn : ∀ i, i < R.2.1 b → (spLn so (R.2.2.1 b i) (spB so (R.2.2.1 b) i S0)).2 ≤ 720 := fun i hi => by
    have q := (spB_m (so := so) (ls := R.2.2.1 b) (s := S0) (by omega) h100 (R.2.1 b - (i + 1)) (i + 1)).1
    rw [show i + 1 + (R.2.1 b - (i + 1)) = R.2.1 b by omega] at q
    exact Nat.le_trans q hbd
  have R2n : ∀ i, (spR so (R.2.2.1 b i) (spB so (R.2.2.1 b) i S0)).2 ≤ (spLn so (R.2.2.1 b i) (spB so (R.2.2.1 b) i S0)).2 := fun i => (spW_k (so := so) (l := (R.2.2.1 b i)) (a := ldV so ((R.2.2.1 b i) 2) (spB so (R.2.2.1 b) i S0).2) (c := spV so (R.2.2.1 b i) (spB so (R.2.2.1 b) i S0)) (spR_1 (SB0 i)) (spR_2 (SB2 i))).2.1
  have R1n : ∀ i, (ldN so ((R.2.2.1 b i) 2) (spB so (R.2.2.1 b) i S0)).2 ≤ (spR so (R.2.2.1 b i) (spB so (R.2.2.1 b) i S0)).2 := fun i => by
    unfold spR
    split
    · exact Nat.le_refl _
    · exact ldN_le
  have lO : ∀ i, i < R.2.1 b → lnO2 (rwB R b i) (R.2.2.1 b i) := fun i hi => qk_l hO hb hi
  intro P_2 F_2 gm_2 el_2 l4_2 x1 x2 x3 x4 x5 x6 x7 x8 k e1 e2 e3 e4 h1 h2 h3 h4 h5 h6 h7 h8 h9 h10 h11 h12 h13 h14 h15 h16 h17 h18 h19 h20 h21 h22 h23 h24 h25 h26 h27 h28 h29 h30 ih
  intro i hi hst
  obtain ⟨a1, a2, a3, a4⟩ := hst
  have c9 : gm_2 0 q1 = 9 := rSk_k h3 (show rKd γ0 q1 9 from hc) (by decide) (by decide)
  have cf' : gm_2 1 q1 = f := rSk_1 h3 (show rKd γ0 q1 9 from hc) (by decide) hcf
  have m10 : gm_2 0 q0 = 10 := rSk_k h3 (show rKd γ0 q0 10 from hm) (by decide) (by decide)
  have n9 : gm_2 9 = γ0 9 := rSk_9 h3
  have g6 : gm_2 6 f = R.1 := (h4).trans hQ6
  have bk := hB2_ (Q := R) h2 c9 cf' g6 b hb
  rw [a2] at bk
  obtain ⟨ll, nn, pp, ss, v1, ⟨g1, g2, g3⟩, v3, v4, v5, -⟩ := show rk_2 gm_2 c1 (F_2 c1) from RS_o h2 bk
  have ex1 : x1 = rwL gm_2 el_2 q1 b := by
    rw [← h15, v1]
    show ll = gm_2 14 (el_2 (gm_2 14 q1) b)
    rw [a2, g1]
  have mlen : gm_2 2 (rwL gm_2 el_2 q1 b) + 1 = (spB so (R.2.2.1 b) i S0).1.2.1 b + (R.2.1 b - i) := by
    have q := (a1.2.1 b hb).1
    rw [mid_len] at q
    exact q
  rw [ex1] at h16
  have hi2 : i < R.2.1 b := by omega
  have e3 : x3 = rAt gm_2 el_2 q1 b ((spB so (R.2.2.1 b) i S0).1.2.1 b) := by
    rw [← h21, v1]
    show nn = _
    rw [show rAt gm_2 el_2 q1 b ((spB so (R.2.2.1 b) i S0).1.2.1 b) = gm_2 15 (el_2 (gm_2 14 q1) b) from if_neg (show ¬ (spB so (R.2.2.1 b) i S0).1.2.1 b < gm_2 2 (rwL gm_2 el_2 q1 b) by omega), a2, g2]
  have hl := a1.2.2 b hb ((spB so (R.2.2.1 b) i S0).1.2.1 b) (by omega)
  rw [← e3] at hl
  unfold lnQ at hl
  rw [rwB_mid hi2, mid_cur] at hl
  obtain ⟨U1, U2, U3⟩ := lnU_X (lO i hi2) hl
  have uA := uA_tr3 h25
  have uB := uB_tr3 h29
  rw [h22, h23] at U2
  rw [h22, h27] at U3
  have q0' : rfX gm_2 el_2 F_2 q1 (pgSt (mid (spB so (R.2.2.1 b) i S0) R b i) b ((spB so (R.2.2.1 b) i S0).1.2.1 b) (mkL ((R.2.2.1 b i) 0) ((R.2.2.1 b i) 1) ((R.2.2.1 b i) 2) ((R.2.2.1 b i) 3) ((R.2.2.1 b i) 4) ((R.2.2.1 b i) 5))) := rfX_cur a1 (fun f' hf => by rw [mid_cur]; exact mk6 hf)
  have el2 : (R.2.2.1 b i) 2 = -1 := by omega
  have e1 : slf so ((R.2.2.1 b i) 2) = -1 := slf_n el2
  have m1 : Int32.toInt (-1) = -1 := by decide
  have eN : ldN so ((R.2.2.1 b i) 2) (spB so (R.2.2.1 b) i S0) = (spB so (R.2.2.1 b) i S0) := if_pos e1
  have eV : ldV so ((R.2.2.1 b i) 2) (spB so (R.2.2.1 b) i S0).2 = (R.2.2.1 b i) 2 := if_pos e1
  have eI : (if (R.2.2.1 b i) 4 = (R.2.2.1 b i) 2 then (R.2.2.1 b i) 2 else (R.2.2.1 b i) 4) = (R.2.2.1 b i) 4 := by split <;> omega
  refine ih i hi2 ?_
  rw [eN, eV, eI]
  exact ⟨q0', a2, a3, a4, by omega, by omega⟩
set_option maxHeartbeats 4000000 in
theorem sp90_c13 {q0 : Nat} {F_1 : Nat → va_E} {q1 : Nat} {l2_1 : Int32} {c1 : Nat} (hm : γ0 0 q0 = 10) (hc : γ0 0 q1 = 9) (hcf : γ0 1 q1 = f) (hQ6 : γ0 6 f = R.1) (hO : qOk R) (hb : b < R.1) (hl2 : l2_1.toInt = (b : Int)) (hsl : slR (cB (F_1 (γ0 9 19))) so) (hS0 : S0.1.1 = b + 1) (h100 : 100 ≤ S0.2) (hbd : (spB so (R.2.2.1 b) (R.2.1 b) S0).2 ≤ 720) (hld : ∀ i, i < R.2.1 b → R.2.2.1 b i 0 = 17 → slf so (R.2.2.1 b i 1) = -1) : ∀ (P_2 : List Nat) (F_2 : Nat → va_E) (gm_2 : Nat → Nat → Nat) (el_2 : Nat → Nat → Nat) (l4_2 : Int32) (x1 : Nat) (x2 : Int32) (x3 : Nat) (x4 : Int32) (x5 : Int32) (x6 : Int32) (x7 : Int32) (x8 : Int32) (x9 : Int32) (k : Nat) (e1 : Nat → va_E) (e2 : List Nat) (e3 : Nat → Nat → Nat) (e4 : Nat → Nat → Nat), gB l4_2 0 1000003 → RS D I P_2 F_2 gm_2 el_2 → rSk f [101] ([1, 3, 5, 6, 8, 9, 101] ++ npk) D I P F γ0 el0 P_2 F_2 gm_2 el_2 → gm_2 6 f = γ0 6 f → gm_2 18 f = γ0 18 f → ((gm_2 7 f : Nat) : Int) = (fI (F_2 q0) 11).toInt → (fI (F_2 q0) 11).toInt = (fI (F_1 q0) 11).toInt → 100 ≤ (fI (F_2 q0) 14).toInt → (F_2 (γ0 9 19) = F_1 (γ0 9 19)) → rPl gm_2 el_2 F_2 q1 (gm_2 6 f) (spQ (cB (F (γ0 9 3))) (cB (F_1 (γ0 9 19))) (l2_1.toInt : Int).toNat (l4_2.toInt : Int).toNat) → (l4_2.toInt : Int) ≤ gm_2 2 (gm_2 14 c1) + 1 → (l2_1.toInt : Int) < gm_2 6 f → (F_2 (γ0 9 3) = F (γ0 9 3)) → mKp (F q0) (F_2 q0) → fR (F_2 c1) 0 = x1 → x2.toInt = (gm_2 2 x1 : Int) → fI (F_2 x1) 2 = x2 → l4_2.toInt ≤ x2.toInt → x2.toInt = (gm_2 2 x1 : Int) → x2.toInt ≤ l4_2.toInt → fR (F_2 c1) 1 = x3 → fI (F_2 x3) 0 = x4 → fI (F_2 x3) 5 = x5 → gB x6 0 1 → tr_RRow_usesA3 x4 x5 x6 → x6.toInt = 0 → fI (F_2 x3) 6 = x7 → gB x8 0 1 → tr_RRow_usesB3 x4 x7 x8 → x8.toInt ≠ 0 → fI (F_2 x3) 3 = x9 → sp90_J2 q0 q1 c1 R b so S0 P_2 F_2 gm_2 el_2 l4_2 x3 (-1 : Int32) x9 k e1 e2 e3 e4 → sp90_M q0 q1 c1 R b so S0 P_2 F_2 gm_2 el_2 l4_2 k e1 e2 e3 e4 := by
  have eb : l2_1.toInt.toNat = b := by rw [hl2]; rfl
  have SBb : ∀ i, (spB so (R.2.2.1 b) i S0).1.1 = b + 1 := fun i => ((spB_k (so := so) (ls := R.2.2.1 b) (s := S0) (by omega) h100 i).1.1).trans hS0
  have SB0 : ∀ i, 0 < (spB so (R.2.2.1 b) i S0).1.1 := fun i => by rw [SBb i]; omega
  have SB2 : ∀ i, 100 ≤ (spB so (R.2.2.1 b) i S0).2 := fun i => (spB_k (so := so) (ls := R.2.2.1 b) (s := S0) (by omega) h100 i).2.2
  have SBn : ∀ i, i < R.2.1 b → (spLn so (R.2.2.1 b i) (spB so (R.2.2.1 b) i S0)).2 ≤ 720 := fun i hi => by
    have q := (spB_m (so := so) (ls := R.2.2.1 b) (s := S0) (by omega) h100 (R.2.1 b - (i + 1)) (i + 1)).1
    rw [show i + 1 + (R.2.1 b - (i + 1)) = R.2.1 b by omega] at q
    exact Nat.le_trans q hbd
  have R2n : ∀ i, (spR so (R.2.2.1 b i) (spB so (R.2.2.1 b) i S0)).2 ≤ (spLn so (R.2.2.1 b i) (spB so (R.2.2.1 b) i S0)).2 := fun i => (spW_k (so := so) (l := (R.2.2.1 b i)) (a := ldV so ((R.2.2.1 b i) 2) (spB so (R.2.2.1 b) i S0).2) (c := spV so (R.2.2.1 b i) (spB so (R.2.2.1 b) i S0)) (spR_1 (SB0 i)) (spR_2 (SB2 i))).2.1
  have R1n : ∀ i, (ldN so ((R.2.2.1 b i) 2) (spB so (R.2.2.1 b) i S0)).2 ≤ (spR so (R.2.2.1 b i) (spB so (R.2.2.1 b) i S0)).2 := fun i => by
    unfold spR
    split
    · exact Nat.le_refl _
    · exact ldN_le
  have lO : ∀ i, i < R.2.1 b → lnO2 (rwB R b i) (R.2.2.1 b i) := fun i hi => qk_l hO hb hi
  intro P_2 F_2 gm_2 el_2 l4_2 x1 x2 x3 x4 x5 x6 x7 x8 x9 k e1 e2 e3 e4 h1 h2 h3 h4 h5 h6 h7 h8 h9 h10 h11 h12 h13 h14 h15 h16 h17 h18 h19 h20 h21 h22 h23 h24 h25 h26 h27 h28 h29 h30 h31 ih
  intro i hi hst
  obtain ⟨a1, a2, a3, a4⟩ := hst
  have c9 : gm_2 0 q1 = 9 := rSk_k h3 (show rKd γ0 q1 9 from hc) (by decide) (by decide)
  have cf' : gm_2 1 q1 = f := rSk_1 h3 (show rKd γ0 q1 9 from hc) (by decide) hcf
  have m10 : gm_2 0 q0 = 10 := rSk_k h3 (show rKd γ0 q0 10 from hm) (by decide) (by decide)
  have n9 : gm_2 9 = γ0 9 := rSk_9 h3
  have g6 : gm_2 6 f = R.1 := (h4).trans hQ6
  have bk := hB2_ (Q := R) h2 c9 cf' g6 b hb
  rw [a2] at bk
  obtain ⟨ll, nn, pp, ss, v1, ⟨g1, g2, g3⟩, v3, v4, v5, -⟩ := show rk_2 gm_2 c1 (F_2 c1) from RS_o h2 bk
  have ex1 : x1 = rwL gm_2 el_2 q1 b := by
    rw [← h15, v1]
    show ll = gm_2 14 (el_2 (gm_2 14 q1) b)
    rw [a2, g1]
  have mlen : gm_2 2 (rwL gm_2 el_2 q1 b) + 1 = (spB so (R.2.2.1 b) i S0).1.2.1 b + (R.2.1 b - i) := by
    have q := (a1.2.1 b hb).1
    rw [mid_len] at q
    exact q
  rw [ex1] at h16
  have hi2 : i < R.2.1 b := by omega
  have e3 : x3 = rAt gm_2 el_2 q1 b ((spB so (R.2.2.1 b) i S0).1.2.1 b) := by
    rw [← h21, v1]
    show nn = _
    rw [show rAt gm_2 el_2 q1 b ((spB so (R.2.2.1 b) i S0).1.2.1 b) = gm_2 15 (el_2 (gm_2 14 q1) b) from if_neg (show ¬ (spB so (R.2.2.1 b) i S0).1.2.1 b < gm_2 2 (rwL gm_2 el_2 q1 b) by omega), a2, g2]
  have hl := a1.2.2 b hb ((spB so (R.2.2.1 b) i S0).1.2.1 b) (by omega)
  rw [← e3] at hl
  unfold lnQ at hl
  rw [rwB_mid hi2, mid_cur] at hl
  obtain ⟨U1, U2, U3⟩ := lnU_X (lO i hi2) hl
  have uA := uA_tr3 h25
  have uB := uB_tr3 h29
  rw [h22, h23] at U2
  rw [h22, h27] at U3
  have q0' : rfX gm_2 el_2 F_2 q1 (pgSt (mid (spB so (R.2.2.1 b) i S0) R b i) b ((spB so (R.2.2.1 b) i S0).1.2.1 b) (mkL ((R.2.2.1 b i) 0) ((R.2.2.1 b i) 1) ((R.2.2.1 b i) 2) ((R.2.2.1 b i) 3) ((R.2.2.1 b i) 4) ((R.2.2.1 b i) 5))) := rfX_cur a1 (fun f' hf => by rw [mid_cur]; exact mk6 hf)
  rw [h31] at U3
  have el2 : (R.2.2.1 b i) 2 = -1 := by omega
  have e1 : slf so ((R.2.2.1 b i) 2) = -1 := slf_n el2
  have m1 : Int32.toInt (-1) = -1 := by decide
  have eN : ldN so ((R.2.2.1 b i) 2) (spB so (R.2.2.1 b) i S0) = (spB so (R.2.2.1 b) i S0) := if_pos e1
  have eV : ldV so ((R.2.2.1 b i) 2) (spB so (R.2.2.1 b) i S0).2 = (R.2.2.1 b i) 2 := if_pos e1
  have eI : (if (R.2.2.1 b i) 4 = (R.2.2.1 b i) 2 then (R.2.2.1 b i) 2 else (R.2.2.1 b i) 4) = (R.2.2.1 b i) 4 := by split <;> omega
  refine ih i hi2 ?_
  rw [eN, eV, eI]
  exact ⟨q0', a2, a3, a4, by omega, by omega⟩
set_option maxHeartbeats 4000000 in
theorem sp90_c14 {q0 : Nat} {F_1 : Nat → va_E} {q1 : Nat} {l2_1 : Int32} {c1 : Nat} (hm : γ0 0 q0 = 10) (hc : γ0 0 q1 = 9) (hcf : γ0 1 q1 = f) (hQ6 : γ0 6 f = R.1) (hO : qOk R) (hb : b < R.1) (hl2 : l2_1.toInt = (b : Int)) (hsl : slR (cB (F_1 (γ0 9 19))) so) (hS0 : S0.1.1 = b + 1) (h100 : 100 ≤ S0.2) (hbd : (spB so (R.2.2.1 b) (R.2.1 b) S0).2 ≤ 720) (hld : ∀ i, i < R.2.1 b → R.2.2.1 b i 0 = 17 → slf so (R.2.2.1 b i 1) = -1) : ∀ (P_2 : List Nat) (F_2 : Nat → va_E) (gm_2 : Nat → Nat → Nat) (el_2 : Nat → Nat → Nat) (l4_2 : Int32) (x1 : Nat) (x2 : Int32) (x3 : Nat) (x4 : Int32) (x5 : Int32) (x6 : Int32) (x7 : Int32) (x8 : Int32) (x9 : Int32) (x10 : Nat → Int32) (x11 : Int32) (k : Nat) (e1 : Nat → va_E) (e2 : List Nat) (e3 : Nat → Nat → Nat) (e4 : Nat → Nat → Nat), gB l4_2 0 1000003 → RS D I P_2 F_2 gm_2 el_2 → rSk f [101] ([1, 3, 5, 6, 8, 9, 101] ++ npk) D I P F γ0 el0 P_2 F_2 gm_2 el_2 → gm_2 6 f = γ0 6 f → gm_2 18 f = γ0 18 f → ((gm_2 7 f : Nat) : Int) = (fI (F_2 q0) 11).toInt → (fI (F_2 q0) 11).toInt = (fI (F_1 q0) 11).toInt → 100 ≤ (fI (F_2 q0) 14).toInt → (F_2 (γ0 9 19) = F_1 (γ0 9 19)) → rPl gm_2 el_2 F_2 q1 (gm_2 6 f) (spQ (cB (F (γ0 9 3))) (cB (F_1 (γ0 9 19))) (l2_1.toInt : Int).toNat (l4_2.toInt : Int).toNat) → (l4_2.toInt : Int) ≤ gm_2 2 (gm_2 14 c1) + 1 → (l2_1.toInt : Int) < gm_2 6 f → (F_2 (γ0 9 3) = F (γ0 9 3)) → mKp (F q0) (F_2 q0) → fR (F_2 c1) 0 = x1 → x2.toInt = (gm_2 2 x1 : Int) → fI (F_2 x1) 2 = x2 → l4_2.toInt ≤ x2.toInt → x2.toInt = (gm_2 2 x1 : Int) → x2.toInt ≤ l4_2.toInt → fR (F_2 c1) 1 = x3 → fI (F_2 x3) 0 = x4 → fI (F_2 x3) 5 = x5 → gB x6 0 1 → tr_RRow_usesA3 x4 x5 x6 → x6.toInt ≠ 0 → fI (F_2 x3) 2 = x7 → fI (F_2 x3) 6 = x8 → gB x9 0 1 → tr_RRow_usesB3 x4 x8 x9 → x9.toInt = 0 → fR (F_2 q0) 19 = (gm_2 9 19) → F_2 (gm_2 9 19) = .inl (I .int, 2000, .inl x10) → x11 = x10 x7.toNatClampNeg → gB x11 (-1) 1999 → x11.toInt < 0 → sp90_J2 q0 q1 c1 R b so S0 P_2 F_2 gm_2 el_2 l4_2 x3 x7 (-1 : Int32) k e1 e2 e3 e4 → sp90_M q0 q1 c1 R b so S0 P_2 F_2 gm_2 el_2 l4_2 k e1 e2 e3 e4 := by
  have eb : l2_1.toInt.toNat = b := by rw [hl2]; rfl
  have SBb : ∀ i, (spB so (R.2.2.1 b) i S0).1.1 = b + 1 := fun i => ((spB_k (so := so) (ls := R.2.2.1 b) (s := S0) (by omega) h100 i).1.1).trans hS0
  have SB0 : ∀ i, 0 < (spB so (R.2.2.1 b) i S0).1.1 := fun i => by rw [SBb i]; omega
  have SB2 : ∀ i, 100 ≤ (spB so (R.2.2.1 b) i S0).2 := fun i => (spB_k (so := so) (ls := R.2.2.1 b) (s := S0) (by omega) h100 i).2.2
  have SBn : ∀ i, i < R.2.1 b → (spLn so (R.2.2.1 b i) (spB so (R.2.2.1 b) i S0)).2 ≤ 720 := fun i hi => by
    have q := (spB_m (so := so) (ls := R.2.2.1 b) (s := S0) (by omega) h100 (R.2.1 b - (i + 1)) (i + 1)).1
    rw [show i + 1 + (R.2.1 b - (i + 1)) = R.2.1 b by omega] at q
    exact Nat.le_trans q hbd
  have R2n : ∀ i, (spR so (R.2.2.1 b i) (spB so (R.2.2.1 b) i S0)).2 ≤ (spLn so (R.2.2.1 b i) (spB so (R.2.2.1 b) i S0)).2 := fun i => (spW_k (so := so) (l := (R.2.2.1 b i)) (a := ldV so ((R.2.2.1 b i) 2) (spB so (R.2.2.1 b) i S0).2) (c := spV so (R.2.2.1 b i) (spB so (R.2.2.1 b) i S0)) (spR_1 (SB0 i)) (spR_2 (SB2 i))).2.1
  have R1n : ∀ i, (ldN so ((R.2.2.1 b i) 2) (spB so (R.2.2.1 b) i S0)).2 ≤ (spR so (R.2.2.1 b i) (spB so (R.2.2.1 b) i S0)).2 := fun i => by
    unfold spR
    split
    · exact Nat.le_refl _
    · exact ldN_le
  have lO : ∀ i, i < R.2.1 b → lnO2 (rwB R b i) (R.2.2.1 b i) := fun i hi => qk_l hO hb hi
  intro P_2 F_2 gm_2 el_2 l4_2 x1 x2 x3 x4 x5 x6 x7 x8 x9 x10 x11 k e1 e2 e3 e4 h1 h2 h3 h4 h5 h6 h7 h8 h9 h10 h11 h12 h13 h14 h15 h16 h17 h18 h19 h20 h21 h22 h23 h24 h25 h26 h27 h28 h29 h30 h31 h32 h33 h34 h35 h36 ih
  intro i hi hst
  obtain ⟨a1, a2, a3, a4⟩ := hst
  have c9 : gm_2 0 q1 = 9 := rSk_k h3 (show rKd γ0 q1 9 from hc) (by decide) (by decide)
  have cf' : gm_2 1 q1 = f := rSk_1 h3 (show rKd γ0 q1 9 from hc) (by decide) hcf
  have m10 : gm_2 0 q0 = 10 := rSk_k h3 (show rKd γ0 q0 10 from hm) (by decide) (by decide)
  have n9 : gm_2 9 = γ0 9 := rSk_9 h3
  have g6 : gm_2 6 f = R.1 := (h4).trans hQ6
  have bk := hB2_ (Q := R) h2 c9 cf' g6 b hb
  rw [a2] at bk
  obtain ⟨ll, nn, pp, ss, v1, ⟨g1, g2, g3⟩, v3, v4, v5, -⟩ := show rk_2 gm_2 c1 (F_2 c1) from RS_o h2 bk
  have ex1 : x1 = rwL gm_2 el_2 q1 b := by
    rw [← h15, v1]
    show ll = gm_2 14 (el_2 (gm_2 14 q1) b)
    rw [a2, g1]
  have mlen : gm_2 2 (rwL gm_2 el_2 q1 b) + 1 = (spB so (R.2.2.1 b) i S0).1.2.1 b + (R.2.1 b - i) := by
    have q := (a1.2.1 b hb).1
    rw [mid_len] at q
    exact q
  rw [ex1] at h16
  have hi2 : i < R.2.1 b := by omega
  have e3 : x3 = rAt gm_2 el_2 q1 b ((spB so (R.2.2.1 b) i S0).1.2.1 b) := by
    rw [← h21, v1]
    show nn = _
    rw [show rAt gm_2 el_2 q1 b ((spB so (R.2.2.1 b) i S0).1.2.1 b) = gm_2 15 (el_2 (gm_2 14 q1) b) from if_neg (show ¬ (spB so (R.2.2.1 b) i S0).1.2.1 b < gm_2 2 (rwL gm_2 el_2 q1 b) by omega), a2, g2]
  have hl := a1.2.2 b hb ((spB so (R.2.2.1 b) i S0).1.2.1 b) (by omega)
  rw [← e3] at hl
  unfold lnQ at hl
  rw [rwB_mid hi2, mid_cur] at hl
  obtain ⟨U1, U2, U3⟩ := lnU_X (lO i hi2) hl
  have uA := uA_tr3 h25
  have uB := uB_tr3 h30
  rw [h22, h23] at U2
  rw [h22, h28] at U3
  have q0' : rfX gm_2 el_2 F_2 q1 (pgSt (mid (spB so (R.2.2.1 b) i S0) R b i) b ((spB so (R.2.2.1 b) i S0).1.2.1 b) (mkL ((R.2.2.1 b i) 0) ((R.2.2.1 b i) 1) ((R.2.2.1 b i) 2) ((R.2.2.1 b i) 3) ((R.2.2.1 b i) 4) ((R.2.2.1 b i) 5))) := rfX_cur a1 (fun f' hf => by rw [mid_cur]; exact mk6 hf)
  rw [h27] at U2
  have el2 : x7.toInt = (R.2.2.1 b i) 2 := by omega
  have eg : cB (F_1 (γ0 9 19)) = x10 := by rw [← h9, ← n9]; exact cB_of h33
  have sv := slR_u hsl el2 (by omega) (by have q := lO i hi2; exact lnO2_le2 q)
  rw [eg, ← h34] at sv
  have e1 : slf so ((R.2.2.1 b i) 2) = -1 := by omega
  have m1 : Int32.toInt (-1) = -1 := by decide
  have eN : ldN so ((R.2.2.1 b i) 2) (spB so (R.2.2.1 b) i S0) = (spB so (R.2.2.1 b) i S0) := if_pos e1
  have eV : ldV so ((R.2.2.1 b i) 2) (spB so (R.2.2.1 b) i S0).2 = (R.2.2.1 b i) 2 := if_pos e1
  have eI : (if (R.2.2.1 b i) 4 = (R.2.2.1 b i) 2 then (R.2.2.1 b i) 2 else (R.2.2.1 b i) 4) = (R.2.2.1 b i) 4 := by split <;> omega
  refine ih i hi2 ?_
  rw [eN, eV, eI]
  exact ⟨q0', a2, a3, a4, by omega, by omega⟩
end STR
