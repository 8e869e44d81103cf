section LIV
variable {P : gPg} {sl : Bool} {W Nm b j : Nat}
theorem iN_0 {a n : Int32} (h : tr_Live_isName a n 0) : ¬ (0 ≤ a.toInt ∧ a.toInt < n.toInt) := by
  have q : (0 : Int32).toInt = 0 → ¬ (0 ≤ a.toInt ∧ a.toInt < n.toInt) := by
    refine h (fun r => r.toInt = 0 → ¬ (0 ≤ a.toInt ∧ a.toInt < n.toInt)) ?_ ?_ ?_
    · intro h1
      intro _; omega
    · intro h1 h2
      intro _; omega
    · intro h1 h2
      exact fun z => absurd z (by decide)
  exact q (by decide)
theorem iN_1 {a n : Int32} (h : tr_Live_isName a n 1) : 0 ≤ a.toInt ∧ a.toInt < n.toInt := by
  have q : (1 : Int32).toInt = 1 → 0 ≤ a.toInt ∧ a.toInt < n.toInt := by
    refine h (fun r => r.toInt = 1 → 0 ≤ a.toInt ∧ a.toInt < n.toInt) ?_ ?_ ?_
    · intro h1
      exact fun z => absurd z (by decide)
    · intro h1 h2
      exact fun z => absurd z (by decide)
    · intro h1 h2
      exact fun _ => ⟨h1, h2⟩
  exact q (by decide)
theorem gU_tr {a1 a2 nm : Int32} {u s x : Nat → Int64} {A : Nat} (h : tr_Live_gatherUse a1 a2 nm u s x) (hN : nm.toInt = (Nm : Int)) (hA : a1.toInt = (A : Int)) : ∀ q, gbit x q = (gbit u q || (decide (0 ≤ a2.toInt ∧ a2.toInt < (Nm : Int) ∧ (q : Int) = 64 * (A : Int) + a2.toInt) && !gbit s q)) := by
  refine h (fun x => ∀ q, gbit x q = (gbit u q || (decide (0 ≤ a2.toInt ∧ a2.toInt < (Nm : Int) ∧ (q : Int) = 64 * (A : Int) + a2.toInt) && !gbit s q))) ?_ ?_ ?_
  · intro h1
    intro q
    rw [decide_eq_false (by omega), Bool.false_and, Bool.or_false]
  · intro h1 h2
    intro q
    rw [decide_eq_false (by omega), Bool.false_and, Bool.or_false]
  · intro x1 x2 x3 x4 x5 x6 x7 x8 x9 h1 h2 h3 h4 h5 h6 h7 h8 h9 h10 h11
    intro q
    have em : a2.toInt = ((a2.toInt.toNat : Nat) : Int) := (Int.toNat_of_nonneg h1).symm
    have r := gbit_orN (f := u) (g := s) (a := A) (m := a2.toInt.toNat) h6 em (i := x2) (by omega) (by rw [h8, h7]) h9 (by rw [h10, h5]) h11 q
    rw [r]
    congr 2
    exact decide_eq_decide.mpr (by omega)
theorem bE_tr {a bl li r : Int32} {fi fg sg op st lf ln rt rn : Nat → Int32} (hc : cdP bl li fi fg sg op st lf ln rt rn P) (ha : a.toInt = (b : Int)) (hb : b < P.1) (h : tr_Code_blockEnd a bl li fi r) : r.toInt = (fsm P.2.1 (b + 1) : Int) := by
  have c1 := hc.1
  have c2 := hc.2.1
  refine h (fun r => r.toInt = (fsm P.2.1 (b + 1) : Int)) ?_ ?_
  · intro x1 h1 h2
    have e : b + 1 = P.1 := by omega
    rw [e]; exact c2
  · intro x1 x2 x3 h1 h2 h3 h4 h5
    rw [h4, nnE (show x2.toInt = ((b + 1 : Nat) : Int) by omega)]
    exact (hc.2.2.1 (b + 1) (by omega)).1
theorem fU_tr {i ob r bl li : Int32} {fi fg sg op st lf ln rt rn : Nat → Int32} (hc : cdP bl li fi fg sg op st lf ln rt rn P) (hb : b < P.1) (hj : j < P.2.1 b) (hi : i.toNatClampNeg = fsm P.2.1 b + j) (hsl : sl = decide (ob.toInt ≠ 0)) (h : tr_Code_firstUse i ob op lf rn r) : r.toInt = u1V sl (P.2.2.1 b j) := by
  obtain ⟨d0, d1, d2, d3, d4, d5⟩ := hc.2.2.2 b j hb hj
  rw [← hi] at d0 d1 d2 d3 d4 d5
  unfold u1V
  refine h (fun r => r.toInt = if sl = true then (if P.2.2.1 b j 0 = 17 then P.2.2.1 b j 5 else -1) else P.2.2.1 b j 2) ?_ ?_ ?_
  · intro x1 h1 h2
    have es : sl = false := by rw [hsl]; exact decide_eq_false (by omega)
    rw [es]
    rw [if_neg (by decide), h2]; exact d2
  · intro x1 h1 h2 h3 h4
    have es : sl = true := by rw [hsl]; exact decide_eq_true (by omega)
    rw [es]
    rw [if_pos rfl, if_neg (by rw [← d0, ← h2]; exact h4)]; exact px_m1
  · intro x1 x2 h1 h2 h3 h4 h5
    have es : sl = true := by rw [hsl]; exact decide_eq_true (by omega)
    rw [es]
    rw [if_pos rfl, if_pos (by rw [← d0, ← h2]; exact h4), h5]; exact d5
theorem sU_tr {i ob r bl li : Int32} {fi fg sg op st lf ln rt rn : Nat → Int32} (hc : cdP bl li fi fg sg op st lf ln rt rn P) (hb : b < P.1) (hj : j < P.2.1 b) (hi : i.toNatClampNeg = fsm P.2.1 b + j) (hsl : sl = decide (ob.toInt ≠ 0)) (h : tr_Code_secondUse i ob rt r) : r.toInt = u2V sl (P.2.2.1 b j) := by
  obtain ⟨d0, d1, d2, d3, d4, d5⟩ := hc.2.2.2 b j hb hj
  rw [← hi] at d0 d1 d2 d3 d4 d5
  unfold u2V
  refine h (fun r => r.toInt = if sl = true then -1 else P.2.2.1 b j 4) ?_ ?_
  · intro x1 h1 h2
    have es : sl = false := by rw [hsl]; exact decide_eq_false (by omega)
    rw [es]
    rw [if_neg (by decide), h2]; exact d4
  · intro h1
    have es : sl = true := by rw [hsl]; exact decide_eq_true (by omega)
    rw [es]
    rw [if_pos rfl]; exact px_m1
theorem sB_tr {i ob r bl li : Int32} {fi fg sg op st lf ln rt rn : Nat → Int32} (hc : cdP bl li fi fg sg op st lf ln rt rn P) (hb : b < P.1) (hj : j < P.2.1 b) (hi : i.toNatClampNeg = fsm P.2.1 b + j) (hsl : sl = decide (ob.toInt ≠ 0)) (h : tr_Code_setBy i ob op st rn r) : r.toInt = seV sl (P.2.2.1 b j) := by
  obtain ⟨d0, d1, d2, d3, d4, d5⟩ := hc.2.2.2 b j hb hj
  rw [← hi] at d0 d1 d2 d3 d4 d5
  unfold seV
  refine h (fun r => r.toInt = if sl = true then (if P.2.2.1 b j 0 = 18 then P.2.2.1 b j 5 else -1) else P.2.2.1 b j 1) ?_ ?_ ?_
  · intro x1 h1 h2
    have es : sl = false := by rw [hsl]; exact decide_eq_false (by omega)
    rw [es]
    rw [if_neg (by decide), h2]; exact d1
  · intro x1 h1 h2 h3 h4
    have es : sl = true := by rw [hsl]; exact decide_eq_true (by omega)
    rw [es]
    rw [if_pos rfl, if_neg (by rw [← d0, ← h2]; exact h4)]; exact px_m1
  · intro x1 x2 h1 h2 h3 h4 h5
    have es : sl = true := by rw [hsl]; exact decide_eq_true (by omega)
    rw [es]
    rw [if_pos rfl, if_pos (by rw [← d0, ← h2]; exact h4), h5]; exact d5
theorem ga_tl {a2 : Int32} {Code_blocks : Int32} {Code_lines : Int32} {Code_first : Nat → Int32} {Live_ofSlots : Int32} {Code_op : Nat → Int32} {Code_left : Nat → Int32} {Code_rightNumber : Nat → Int32} {c1 : Int32} {Live_names : Int32} {Code_right : Nat → Int32} {Code_set : Nat → Int32} {s1 : Int32} {s2 : Nat → Int64} {s3 : Nat → Int64} {k : Nat} {e1 : Nat → Int64} {e2 : Nat → Int64} {fg : Nat → Int32} {sg : Nat → Int32} {cln : Nat → Int32} (hc : cdP Code_blocks Code_lines Code_first fg sg Code_op Code_set Code_left cln Code_right Code_rightNumber P) (ha : a2.toInt = (b : Int)) (hb : b < P.1) (hN : Live_names.toInt = (Nm : Int)) (hA : c1.toInt = ((b * W : Nat) : Int)) (hsl : sl = decide (Live_ofSlots.toInt ≠ 0)) (h : tl_Live_gather_15 a2 Code_blocks Code_lines Code_first Live_ofSlots Code_op Code_left Code_rightNumber c1 Live_names Code_right Code_set s1 s2 s3 k e1 e2) : ∀ j, j ≤ P.2.1 b → s1.toInt = ((fsm P.2.1 b + j : Nat) : Int) → gth P sl W Nm b j s2 s3 e1 e2 := by
  have eB2 : fsm P.2.1 (b + 1) = fsm P.2.1 b + P.2.1 b := rfl
  refine h (fun s1 s2 s3 _ e1 e2 => ∀ j, j ≤ P.2.1 b → s1.toInt = ((fsm P.2.1 b + j : Nat) : Int) → gth P sl W Nm b j s2 s3 e1 e2) ?_ ?_ ?_ ?_ ?_ ?_ ?_ ?_ ?_ ?_ ?_ ?_ ?_ ?_ ?_ ?_ ?_ ?_ ?_ ?_
  · intro l4_1 Live_used_1 Live_set_1 h1 h2 h3
    intro j hj hl
    have eB := bE_tr hc ha hb h2
    exact gth_0 (by omega)
  · intro l4_1 Live_used_1 Live_set_1 x1 x2 x3 x4 x5 x6 k e1 e2 h1 h2 h3 h4 h5 h6 h7 h8 h9 h10 ih
    intro j hj hl
    have eB := bE_tr hc ha hb h2
    have hj2 : j < P.2.1 b := by omega
    have hi : l4_1.toNatClampNeg = fsm P.2.1 b + j := nnE (by omega)
    have f1 := fU_tr hc hb hj2 hi hsl h4
    have f2 := sU_tr hc hb hj2 hi hsl h6
    have f3 := sB_tr hc hb hj2 hi hsl h8
    have g1 := gU_tr h5 hN hA
    have g2 := gU_tr h7 hN hA
    have n0 := iN_0 h9
    refine gth_s hj2 (se_no _ (by omega)) (us_two g1 g2 _ f1.symm f2.symm) (ih (j + 1) (by omega) (by omega))
  · intro l4_1 Live_used_1 Live_set_1 x1 x2 x3 x4 x5 x6 x7 x8 x9 x10 x11 x12 k e1 e2 h1 h2 h3 h4 h5 h6 h7 h8 h9 h10 h11 h12 h13 h14 h15 h16 ih
    intro j hj hl
    have eB := bE_tr hc ha hb h2
    have hj2 : j < P.2.1 b := by omega
    have hi : l4_1.toNatClampNeg = fsm P.2.1 b + j := nnE (by omega)
    have f1 := fU_tr hc hb hj2 hi hsl h4
    have f2 := sU_tr hc hb hj2 hi hsl h6
    have f3 := sB_tr hc hb hj2 hi hsl h8
    have g1 := gU_tr h5 hN hA
    have g2 := gU_tr h7 hN hA
    have n1 := iN_1 h9
    have em : x5.toInt = ((x5.toInt.toNat : Nat) : Int) := (Int.toNat_of_nonneg n1.1).symm
    have o1 := gbit_or (f := Live_set_1) (a := b * W) (m := x5.toInt.toNat) h13 em (i := x7) (by omega) (by rw [h14, h12]) h15
    refine gth_s hj2 (se_one _ o1 (by omega) (by omega)) (us_two g1 g2 _ f1.symm f2.symm) (ih (j + 1) (by omega) (by omega))
  · intro l4_1 Live_used_1 Live_set_1 x1 x2 x3 x4 x5 k e1 e2 h1 h2 h3 h4 h5 h6 h7 h8 h9 h10 ih
    intro j hj hl
    have eB := bE_tr hc ha hb h2
    have hj2 : j < P.2.1 b := by omega
    have hi : l4_1.toNatClampNeg = fsm P.2.1 b + j := nnE (by omega)
    have f1 := fU_tr hc hb hj2 hi hsl h4
    have f2 := sU_tr hc hb hj2 hi hsl h6
    have f3 := sB_tr hc hb hj2 hi hsl h8
    have g1 := gU_tr h5 hN hA
    have g2 := gU_tr h7 hN hA
    have n0 := iN_0 h9
    refine gth_s hj2 (se_no _ (by omega)) (us_two g1 g2 _ f1.symm f2.symm) (ih (j + 1) (by omega) (by omega))
  · intro l4_1 Live_used_1 Live_set_1 x1 x2 x3 x4 k e1 e2 h1 h2 h3 h4 h5 h6 h7 h8 h9 h10 ih
    intro j hj hl
    have eB := bE_tr hc ha hb h2
    have hj2 : j < P.2.1 b := by omega
    have hi : l4_1.toNatClampNeg = fsm P.2.1 b + j := nnE (by omega)
    have f1 := fU_tr hc hb hj2 hi hsl h4
    have f2 := sU_tr hc hb hj2 hi hsl h6
    have f3 := sB_tr hc hb hj2 hi hsl h8
    have g1 := gU_tr h5 hN hA
    have g2 := gU_tr h7 hN hA
    have n0 := iN_0 h9
    refine gth_s hj2 (se_no _ (by omega)) (us_two g1 g2 _ f1.symm f2.symm) (ih (j + 1) (by omega) (by omega))
  · intro l4_1 Live_used_1 Live_set_1 x1 x2 x3 x4 x5 k e1 e2 h1 h2 h3 h4 h5 h6 h7 h8 h9 h10 ih
    intro j hj hl
    have eB := bE_tr hc ha hb h2
    have hj2 : j < P.2.1 b := by omega
    have hi : l4_1.toNatClampNeg = fsm P.2.1 b + j := nnE (by omega)
    have f1 := fU_tr hc hb hj2 hi hsl h4
    have f2 := sU_tr hc hb hj2 hi hsl h6
    have f3 := sB_tr hc hb hj2 hi hsl h8
    have g1 := gU_tr h5 hN hA
    have g2 := gU_tr h7 hN hA
    have n0 := iN_0 h9
    refine gth_s hj2 (se_no _ (by omega)) (us_two g1 g2 _ f1.symm f2.symm) (ih (j + 1) (by omega) (by omega))
  · intro l4_1 Live_used_1 Live_set_1 x1 x2 x3 x4 x5 x6 x7 x8 x9 x10 x11 k e1 e2 h1 h2 h3 h4 h5 h6 h7 h8 h9 h10 h11 h12 h13 h14 h15 h16 ih
    intro j hj hl
    have eB := bE_tr hc ha hb h2
    have hj2 : j < P.2.1 b := by omega
    have hi : l4_1.toNatClampNeg = fsm P.2.1 b + j := nnE (by omega)
    have f1 := fU_tr hc hb hj2 hi hsl h4
    have f2 := sU_tr hc hb hj2 hi hsl h6
    have f3 := sB_tr hc hb hj2 hi hsl h8
    have g1 := gU_tr h5 hN hA
    have g2 := gU_tr h7 hN hA
    have n1 := iN_1 h9
    have em : x4.toInt = ((x4.toInt.toNat : Nat) : Int) := (Int.toNat_of_nonneg n1.1).symm
    have o1 := gbit_or (f := Live_set_1) (a := b * W) (m := x4.toInt.toNat) h13 em (i := x6) (by omega) (by rw [h14, h12]) h15
    refine gth_s hj2 (se_one _ o1 (by omega) (by omega)) (us_two g1 g2 _ f1.symm f2.symm) (ih (j + 1) (by omega) (by omega))
  · intro l4_1 Live_used_1 Live_set_1 x1 x2 x3 k e1 e2 h1 h2 h3 h4 h5 h6 h7 h8 h9 h10 ih
    intro j hj hl
    have eB := bE_tr hc ha hb h2
    have hj2 : j < P.2.1 b := by omega
    have hi : l4_1.toNatClampNeg = fsm P.2.1 b + j := nnE (by omega)
    have f1 := fU_tr hc hb hj2 hi hsl h4
    have f2 := sU_tr hc hb hj2 hi hsl h6
    have f3 := sB_tr hc hb hj2 hi hsl h8
    have g1 := gU_tr h5 hN hA
    have g2 := gU_tr h7 hN hA
    have n0 := iN_0 h9
    refine gth_s hj2 (se_no _ (by omega)) (us_two g1 g2 _ f1.symm f2.symm) (ih (j + 1) (by omega) (by omega))
  · intro l4_1 Live_used_1 Live_set_1 x1 x2 x3 x4 k e1 e2 h1 h2 h3 h4 h5 h6 h7 h8 h9 h10 ih
    intro j hj hl
    have eB := bE_tr hc ha hb h2
    have hj2 : j < P.2.1 b := by omega
    have hi : l4_1.toNatClampNeg = fsm P.2.1 b + j := nnE (by omega)
    have f1 := fU_tr hc hb hj2 hi hsl h4
    have f2 := sU_tr hc hb hj2 hi hsl h6
    have f3 := sB_tr hc hb hj2 hi hsl h8
    have g1 := gU_tr h5 hN hA
    have g2 := gU_tr h7 hN hA
    have n0 := iN_0 h9
    refine gth_s hj2 (se_no _ (by omega)) (us_two g1 g2 _ f1.symm f2.symm) (ih (j + 1) (by omega) (by omega))
  · intro l4_1 Live_used_1 Live_set_1 x1 x2 x3 x4 x5 x6 x7 x8 x9 x10 k e1 e2 h1 h2 h3 h4 h5 h6 h7 h8 h9 h10 h11 h12 h13 h14 h15 h16 ih
    intro j hj hl
    have eB := bE_tr hc ha hb h2
    have hj2 : j < P.2.1 b := by omega
    have hi : l4_1.toNatClampNeg = fsm P.2.1 b + j := nnE (by omega)
    have f1 := fU_tr hc hb hj2 hi hsl h4
    have f2 := sU_tr hc hb hj2 hi hsl h6
    have f3 := sB_tr hc hb hj2 hi hsl h8
    have g1 := gU_tr h5 hN hA
    have g2 := gU_tr h7 hN hA
    have n1 := iN_1 h9
    have em : x3.toInt = ((x3.toInt.toNat : Nat) : Int) := (Int.toNat_of_nonneg n1.1).symm
    have o1 := gbit_or (f := Live_set_1) (a := b * W) (m := x3.toInt.toNat) h13 em (i := x5) (by omega) (by rw [h14, h12]) h15
    refine gth_s hj2 (se_one _ o1 (by omega) (by omega)) (us_two g1 g2 _ f1.symm f2.symm) (ih (j + 1) (by omega) (by omega))
  · intro l4_1 Live_used_1 Live_set_1 x1 h1 h2 h3
    intro j hj hl
    have eB := bE_tr hc ha hb h2
    exact gth_0 (by omega)
  · intro l4_1 Live_used_1 Live_set_1 x1 x2 x3 x4 x5 x6 x7 k e1 e2 h1 h2 h3 h4 h5 h6 h7 h8 h9 h10 ih
    intro j hj hl
    have eB := bE_tr hc ha hb h2
    have hj2 : j < P.2.1 b := by omega
    have hi : l4_1.toNatClampNeg = fsm P.2.1 b + j := nnE (by omega)
    have f1 := fU_tr hc hb hj2 hi hsl h4
    have f2 := sU_tr hc hb hj2 hi hsl h6
    have f3 := sB_tr hc hb hj2 hi hsl h8
    have g1 := gU_tr h5 hN hA
    have g2 := gU_tr h7 hN hA
    have n0 := iN_0 h9
    refine gth_s hj2 (se_no _ (by omega)) (us_two g1 g2 _ f1.symm f2.symm) (ih (j + 1) (by omega) (by omega))
  · intro l4_1 Live_used_1 Live_set_1 x1 x2 x3 x4 x5 x6 x7 x8 x9 x10 x11 x12 x13 k e1 e2 h1 h2 h3 h4 h5 h6 h7 h8 h9 h10 h11 h12 h13 h14 h15 h16 ih
    intro j hj hl
    have eB := bE_tr hc ha hb h2
    have hj2 : j < P.2.1 b := by omega
    have hi : l4_1.toNatClampNeg = fsm P.2.1 b + j := nnE (by omega)
    have f1 := fU_tr hc hb hj2 hi hsl h4
    have f2 := sU_tr hc hb hj2 hi hsl h6
    have f3 := sB_tr hc hb hj2 hi hsl h8
    have g1 := gU_tr h5 hN hA
    have g2 := gU_tr h7 hN hA
    have n1 := iN_1 h9
    have em : x6.toInt = ((x6.toInt.toNat : Nat) : Int) := (Int.toNat_of_nonneg n1.1).symm
    have o1 := gbit_or (f := Live_set_1) (a := b * W) (m := x6.toInt.toNat) h13 em (i := x8) (by omega) (by rw [h14, h12]) h15
    refine gth_s hj2 (se_one _ o1 (by omega) (by omega)) (us_two g1 g2 _ f1.symm f2.symm) (ih (j + 1) (by omega) (by omega))
  · intro l4_1 Live_used_1 Live_set_1 x1 x2 x3 x4 x5 x6 k e1 e2 h1 h2 h3 h4 h5 h6 h7 h8 h9 h10 ih
    intro j hj hl
    have eB := bE_tr hc ha hb h2
    have hj2 : j < P.2.1 b := by omega
    have hi : l4_1.toNatClampNeg = fsm P.2.1 b + j := nnE (by omega)
    have f1 := fU_tr hc hb hj2 hi hsl h4
    have f2 := sU_tr hc hb hj2 hi hsl h6
    have f3 := sB_tr hc hb hj2 hi hsl h8
    have g1 := gU_tr h5 hN hA
    have g2 := gU_tr h7 hN hA
    have n0 := iN_0 h9
    refine gth_s hj2 (se_no _ (by omega)) (us_two g1 g2 _ f1.symm f2.symm) (ih (j + 1) (by omega) (by omega))
  · intro l4_1 Live_used_1 Live_set_1 x1 x2 x3 x4 x5 k e1 e2 h1 h2 h3 h4 h5 h6 h7 h8 h9 h10 ih
    intro j hj hl
    have eB := bE_tr hc ha hb h2
    have hj2 : j < P.2.1 b := by omega
    have hi : l4_1.toNatClampNeg = fsm P.2.1 b + j := nnE (by omega)
    have f1 := fU_tr hc hb hj2 hi hsl h4
    have f2 := sU_tr hc hb hj2 hi hsl h6
    have f3 := sB_tr hc hb hj2 hi hsl h8
    have g1 := gU_tr h5 hN hA
    have g2 := gU_tr h7 hN hA
    have n0 := iN_0 h9
    refine gth_s hj2 (se_no _ (by omega)) (us_two g1 g2 _ f1.symm f2.symm) (ih (j + 1) (by omega) (by omega))
  · intro l4_1 Live_used_1 Live_set_1 x1 x2 x3 x4 x5 x6 k e1 e2 h1 h2 h3 h4 h5 h6 h7 h8 h9 h10 ih
    intro j hj hl
    have eB := bE_tr hc ha hb h2
    have hj2 : j < P.2.1 b := by omega
    have hi : l4_1.toNatClampNeg = fsm P.2.1 b + j := nnE (by omega)
    have f1 := fU_tr hc hb hj2 hi hsl h4
    have f2 := sU_tr hc hb hj2 hi hsl h6
    have f3 := sB_tr hc hb hj2 hi hsl h8
    have g1 := gU_tr h5 hN hA
    have g2 := gU_tr h7 hN hA
    have n0 := iN_0 h9
    refine gth_s hj2 (se_no _ (by omega)) (us_two g1 g2 _ f1.symm f2.symm) (ih (j + 1) (by omega) (by omega))
  · intro l4_1 Live_used_1 Live_set_1 x1 x2 x3 x4 x5 x6 x7 x8 x9 x10 x11 x12 k e1 e2 h1 h2 h3 h4 h5 h6 h7 h8 h9 h10 h11 h12 h13 h14 h15 h16 ih
    intro j hj hl
    have eB := bE_tr hc ha hb h2
    have hj2 : j < P.2.1 b := by omega
    have hi : l4_1.toNatClampNeg = fsm P.2.1 b + j := nnE (by omega)
    have f1 := fU_tr hc hb hj2 hi hsl h4
    have f2 := sU_tr hc hb hj2 hi hsl h6
    have f3 := sB_tr hc hb hj2 hi hsl h8
    have g1 := gU_tr h5 hN hA
    have g2 := gU_tr h7 hN hA
    have n1 := iN_1 h9
    have em : x5.toInt = ((x5.toInt.toNat : Nat) : Int) := (Int.toNat_of_nonneg n1.1).symm
    have o1 := gbit_or (f := Live_set_1) (a := b * W) (m := x5.toInt.toNat) h13 em (i := x7) (by omega) (by rw [h14, h12]) h15
    refine gth_s hj2 (se_one _ o1 (by omega) (by omega)) (us_two g1 g2 _ f1.symm f2.symm) (ih (j + 1) (by omega) (by omega))
  · intro l4_1 Live_used_1 Live_set_1 x1 x2 x3 x4 k e1 e2 h1 h2 h3 h4 h5 h6 h7 h8 h9 h10 ih
    intro j hj hl
    have eB := bE_tr hc ha hb h2
    have hj2 : j < P.2.1 b := by omega
    have hi : l4_1.toNatClampNeg = fsm P.2.1 b + j := nnE (by omega)
    have f1 := fU_tr hc hb hj2 hi hsl h4
    have f2 := sU_tr hc hb hj2 hi hsl h6
    have f3 := sB_tr hc hb hj2 hi hsl h8
    have g1 := gU_tr h5 hN hA
    have g2 := gU_tr h7 hN hA
    have n0 := iN_0 h9
    refine gth_s hj2 (se_no _ (by omega)) (us_two g1 g2 _ f1.symm f2.symm) (ih (j + 1) (by omega) (by omega))
  · intro l4_1 Live_used_1 Live_set_1 x1 x2 x3 x4 x5 k e1 e2 h1 h2 h3 h4 h5 h6 h7 h8 h9 h10 ih
    intro j hj hl
    have eB := bE_tr hc ha hb h2
    have hj2 : j < P.2.1 b := by omega
    have hi : l4_1.toNatClampNeg = fsm P.2.1 b + j := nnE (by omega)
    have f1 := fU_tr hc hb hj2 hi hsl h4
    have f2 := sU_tr hc hb hj2 hi hsl h6
    have f3 := sB_tr hc hb hj2 hi hsl h8
    have g1 := gU_tr h5 hN hA
    have g2 := gU_tr h7 hN hA
    have n0 := iN_0 h9
    refine gth_s hj2 (se_no _ (by omega)) (us_two g1 g2 _ f1.symm f2.symm) (ih (j + 1) (by omega) (by omega))
  · intro l4_1 Live_used_1 Live_set_1 x1 x2 x3 x4 x5 x6 x7 x8 x9 x10 x11 k e1 e2 h1 h2 h3 h4 h5 h6 h7 h8 h9 h10 h11 h12 h13 h14 h15 h16 ih
    intro j hj hl
    have eB := bE_tr hc ha hb h2
    have hj2 : j < P.2.1 b := by omega
    have hi : l4_1.toNatClampNeg = fsm P.2.1 b + j := nnE (by omega)
    have f1 := fU_tr hc hb hj2 hi hsl h4
    have f2 := sU_tr hc hb hj2 hi hsl h6
    have f3 := sB_tr hc hb hj2 hi hsl h8
    have g1 := gU_tr h5 hN hA
    have g2 := gU_tr h7 hN hA
    have n1 := iN_1 h9
    have em : x4.toInt = ((x4.toInt.toNat : Nat) : Int) := (Int.toNat_of_nonneg n1.1).symm
    have o1 := gbit_or (f := Live_set_1) (a := b * W) (m := x4.toInt.toNat) h13 em (i := x6) (by omega) (by rw [h14, h12]) h15
    refine gth_s hj2 (se_one _ o1 (by omega) (by omega)) (us_two g1 g2 _ f1.symm f2.symm) (ih (j + 1) (by omega) (by omega))
theorem ga_tr {a2 : Int32} {Live_names : Int32} {Live_words : Int32} {Live_ofSlots : Int32} {Code_blocks : Int32} {Code_lines : Int32} {Live_used : Nat → Int64} {Live_set : Nat → Int64} {Code_first : Nat → Int32} {Code_op : Nat → Int32} {Code_set : Nat → Int32} {Code_left : Nat → Int32} {Code_right : Nat → Int32} {Code_rightNumber : Nat → Int32} {o1 : Nat → Int64} {o2 : Nat → Int64} {fg : Nat → Int32} {sg : Nat → Int32} {cln : Nat → Int32} (hc : cdP Code_blocks Code_lines Code_first fg sg Code_op Code_set Code_left cln Code_right Code_rightNumber P) (ha : a2.toInt = (b : Int)) (hb : b < P.1) (hN : Live_names.toInt = (Nm : Int)) (hW : Live_words.toInt = (W : Int)) (hsl : sl = decide (Live_ofSlots.toInt ≠ 0)) (h : tr_Live_gather a2 Live_names Live_words Live_ofSlots Code_blocks Code_lines Live_used Live_set Code_first Code_op Code_set Code_left Code_right Code_rightNumber o1 o2) : gth P sl W Nm b 0 Live_used Live_set o1 o2 := by
  refine h (fun o1 o2 => gth P sl W Nm b 0 Live_used Live_set o1 o2) ?_
  · intro x1 x2 x3 x4 h1 h2 h3 h4
    refine ga_tl hc ha hb hN ?_ hsl h4 0 (Nat.zero_le _) ?_
    · rw [h1, ha, hW]; exact (Int.natCast_mul b W).symm
    · rw [h2, nnE ha]; exact (hc.2.2.1 b hb).1
theorem sz_tl {Code_blocks : Int32} {c1 : Int32} {s1 : Int32} {s2 : Nat → Int64} {s3 : Nat → Int64} {s4 : Nat → Int64} {k : Nat} {e1 : Nat → Int64} {e2 : Nat → Int64} {e3 : Nat → Int64} {M : Nat} (hM : Code_blocks.toInt * c1.toInt = (M : Int)) (h : tl_Live_solve_37 Code_blocks c1 s1 s2 s3 s4 k e1 e2 e3) : 0 ≤ s1.toInt → ∀ i, i < M → ((i : Int) < s1.toInt → s2 i = 0 ∧ s3 i = 0 ∧ s4 i = 0) → e1 i = 0 ∧ e2 i = 0 ∧ e3 i = 0 := by
  refine h (fun s1 s2 s3 s4 _ e1 e2 e3 => 0 ≤ s1.toInt → ∀ i, i < M → ((i : Int) < s1.toInt → s2 i = 0 ∧ s3 i = 0 ∧ s4 i = 0) → e1 i = 0 ∧ e2 i = 0 ∧ e3 i = 0) ?_ ?_
  · intro l4_1 Live_in_1 Live_used_1 Live_set_1 x1 h1 h2 h3
    exact fun _ i hi hz => hz (by omega)
  · intro l4_1 Live_in_1 Live_used_1 Live_set_1 x1 x2 x3 x4 x5 k e1 e2 e3 h1 h2 h3 h4 h5 h6 h7 ih
    intro h0 i hi hz
    refine ih (by omega) i hi (fun hl => ?_)
    have en : (l4_1.toNatClampNeg : Int) = l4_1.toInt := g_nn h0
    rw [h4, h5, h6]
    unfold vp_updL
    by_cases e : i = l4_1.toNatClampNeg
    · rw [if_pos e, if_pos e, if_pos e]; exact ⟨rfl, rfl, rfl⟩
    · rw [if_neg e, if_neg e, if_neg e]; exact hz (by omega)
theorem sg_tl {Code_blocks : Int32} {c1 : Int32} {c2 : Int32} {a3 : Int32} {Code_lines : Int32} {Code_first : Nat → Int32} {Code_op : Nat → Int32} {Code_set : Nat → Int32} {Code_left : Nat → Int32} {Code_right : Nat → Int32} {Code_rightNumber : Nat → Int32} {s1 : Int32} {s2 : Nat → Int64} {s3 : Nat → Int64} {k : Nat} {e1 : Nat → Int64} {e2 : Nat → Int64} {fg : Nat → Int32} {sg : Nat → Int32} {cln : Nat → Int32} (hc : cdP Code_blocks Code_lines Code_first fg sg Code_op Code_set Code_left cln Code_right Code_rightNumber P) (hW2 : Nm ≤ 64 * W) (hN : c1.toInt = (Nm : Int)) (hW : c2.toInt = (W : Int)) (hsl : sl = decide (a3.toInt ≠ 0)) (h : tl_Live_solve_84 Code_blocks c1 c2 a3 Code_lines Code_first Code_op Code_set Code_left Code_right Code_rightNumber s1 s2 s3 k e1 e2) : ∀ b : Nat, s1.toInt = (b : Int) → zrB P W b s2 → zrB P W b s3 → gtB P sl W Nm b s2 s3 e1 e2 := by
  have cb := hc.1
  refine h (fun s1 s2 s3 _ e1 e2 => ∀ b : Nat, s1.toInt = (b : Int) → zrB P W b s2 → zrB P W b s3 → gtB P sl W Nm b s2 s3 e1 e2) ?_ ?_
  · intro l4_1 Live_used_1 Live_set_1 h1 h2
    exact fun b hl _ _ c v hc hv => ⟨fun _ => ⟨rfl, rfl⟩, fun hbc => by omega⟩
  · intro l4_1 Live_used_1 Live_set_1 x1 x2 x3 k e1 e2 h1 h2 h3 h4 ih
    intro b hl hu hs
    exact gtB_s hW2 (by omega) hu hs (ga_tr hc hl (by omega) hN hW hsl h3) (ih (b + 1) (by omega))
theorem bE_tr2 {a bl li r : Int32} {fi fg sg op st lf ln rt rn : Nat → Int32} (hc : cdP bl li fi fg sg op st lf ln rt rn P) (ha : a.toInt = (b : Int)) (hb : b < P.1) (h : tr_Code_blockEnd2 a bl li fi r) : r.toInt = (fsm P.2.1 (b + 1) : Int) := by
  have c1 := hc.1
  have c2 := hc.2.1
  refine h (fun r => r.toInt = (fsm P.2.1 (b + 1) : Int)) ?_ ?_
  · intro x1 h1 h2
    have e : b + 1 = P.1 := by omega
    rw [e]; exact c2
  · intro x1 x2 x3 h1 h2 h3 h4 h5
    rw [h4, nnE (show x2.toInt = ((b + 1 : Nat) : Int) by omega)]
    exact (hc.2.2.1 (b + 1) (by omega)).1
theorem fU_tr2 {i ob r bl li : Int32} {fi fg sg op st lf ln rt rn : Nat → Int32} (hc : cdP bl li fi fg sg op st lf ln rt rn P) (hb : b < P.1) (hj : j < P.2.1 b) (hi : i.toNatClampNeg = fsm P.2.1 b + j) (hsl : sl = decide (ob.toInt ≠ 0)) (h : tr_Code_firstUse2 i ob op lf rn r) : r.toInt = u1V sl (P.2.2.1 b j) := by
  obtain ⟨d0, d1, d2, d3, d4, d5⟩ := hc.2.2.2 b j hb hj
  rw [← hi] at d0 d1 d2 d3 d4 d5
  unfold u1V
  refine h (fun r => r.toInt = if sl = true then (if P.2.2.1 b j 0 = 17 then P.2.2.1 b j 5 else -1) else P.2.2.1 b j 2) ?_ ?_ ?_
  · intro x1 h1 h2
    have es : sl = false := by rw [hsl]; exact decide_eq_false (by omega)
    rw [es]
    rw [if_neg (by decide), h2]; exact d2
  · intro x1 h1 h2 h3 h4
    have es : sl = true := by rw [hsl]; exact decide_eq_true (by omega)
    rw [es]
    rw [if_pos rfl, if_neg (by rw [← d0, ← h2]; exact h4)]; exact px_m1
  · intro x1 x2 h1 h2 h3 h4 h5
    have es : sl = true := by rw [hsl]; exact decide_eq_true (by omega)
    rw [es]
    rw [if_pos rfl, if_pos (by rw [← d0, ← h2]; exact h4), h5]; exact d5
theorem sU_tr2 {i ob r bl li : Int32} {fi fg sg op st lf ln rt rn : Nat → Int32} (hc : cdP bl li fi fg sg op st lf ln rt rn P) (hb : b < P.1) (hj : j < P.2.1 b) (hi : i.toNatClampNeg = fsm P.2.1 b + j) (hsl : sl = decide (ob.toInt ≠ 0)) (h : tr_Code_secondUse2 i ob rt r) : r.toInt = u2V sl (P.2.2.1 b j) := by
  obtain ⟨d0, d1, d2, d3, d4, d5⟩ := hc.2.2.2 b j hb hj
  rw [← hi] at d0 d1 d2 d3 d4 d5
  unfold u2V
  refine h (fun r => r.toInt = if sl = true then -1 else P.2.2.1 b j 4) ?_ ?_
  · intro x1 h1 h2
    have es : sl = false := by rw [hsl]; exact decide_eq_false (by omega)
    rw [es]
    rw [if_neg (by decide), h2]; exact d4
  · intro h1
    have es : sl = true := by rw [hsl]; exact decide_eq_true (by omega)
    rw [es]
    rw [if_pos rfl]; exact px_m1
theorem sB_tr2 {i ob r bl li : Int32} {fi fg sg op st lf ln rt rn : Nat → Int32} (hc : cdP bl li fi fg sg op st lf ln rt rn P) (hb : b < P.1) (hj : j < P.2.1 b) (hi : i.toNatClampNeg = fsm P.2.1 b + j) (hsl : sl = decide (ob.toInt ≠ 0)) (h : tr_Code_setBy2 i ob op st rn r) : r.toInt = seV sl (P.2.2.1 b j) := by
  obtain ⟨d0, d1, d2, d3, d4, d5⟩ := hc.2.2.2 b j hb hj
  rw [← hi] at d0 d1 d2 d3 d4 d5
  unfold seV
  refine h (fun r => r.toInt = if sl = true then (if P.2.2.1 b j 0 = 18 then P.2.2.1 b j 5 else -1) else P.2.2.1 b j 1) ?_ ?_ ?_
  · intro x1 h1 h2
    have es : sl = false := by rw [hsl]; exact decide_eq_false (by omega)
    rw [es]
    rw [if_neg (by decide), h2]; exact d1
  · intro x1 h1 h2 h3 h4
    have es : sl = true := by rw [hsl]; exact decide_eq_true (by omega)
    rw [es]
    rw [if_pos rfl, if_neg (by rw [← d0, ← h2]; exact h4)]; exact px_m1
  · intro x1 x2 h1 h2 h3 h4 h5
    have es : sl = true := by rw [hsl]; exact decide_eq_true (by omega)
    rw [es]
    rw [if_pos rfl, if_pos (by rw [← d0, ← h2]; exact h4), h5]; exact d5
theorem ga_tl2 {a2 : Int32} {Code_blocks : Int32} {Code_lines : Int32} {Code_first : Nat → Int32} {Live_ofSlots : Int32} {Code_op : Nat → Int32} {Code_left : Nat → Int32} {Code_rightNumber : Nat → Int32} {c1 : Int32} {Live_names : Int32} {Code_right : Nat → Int32} {Code_set : Nat → Int32} {s1 : Int32} {s2 : Nat → Int64} {s3 : Nat → Int64} {k : Nat} {e1 : Nat → Int64} {e2 : Nat → Int64} {fg : Nat → Int32} {sg : Nat → Int32} {cln : Nat → Int32} (hc : cdP Code_blocks Code_lines Code_first fg sg Code_op Code_set Code_left cln Code_right Code_rightNumber P) (ha : a2.toInt = (b : Int)) (hb : b < P.1) (hN : Live_names.toInt = (Nm : Int)) (hA : c1.toInt = ((b * W : Nat) : Int)) (hsl : sl = decide (Live_ofSlots.toInt ≠ 0)) (h : tl_Live_gather2_15 a2 Code_blocks Code_lines Code_first Live_ofSlots Code_op Code_left Code_rightNumber c1 Live_names Code_right Code_set s1 s2 s3 k e1 e2) : ∀ j, j ≤ P.2.1 b → s1.toInt = ((fsm P.2.1 b + j : Nat) : Int) → gth P sl W Nm b j s2 s3 e1 e2 := by
  have eB2 : fsm P.2.1 (b + 1) = fsm P.2.1 b + P.2.1 b := rfl
  refine h (fun s1 s2 s3 _ e1 e2 => ∀ j, j ≤ P.2.1 b → s1.toInt = ((fsm P.2.1 b + j : Nat) : Int) → gth P sl W Nm b j s2 s3 e1 e2) ?_ ?_ ?_ ?_ ?_ ?_ ?_ ?_ ?_ ?_ ?_ ?_ ?_ ?_ ?_ ?_ ?_ ?_ ?_ ?_
  · intro l4_1 Live_used_1 Live_set_1 h1 h2 h3
    intro j hj hl
    have eB := bE_tr2 hc ha hb h2
    exact gth_0 (by omega)
  · intro l4_1 Live_used_1 Live_set_1 x1 x2 x3 x4 x5 x6 k e1 e2 h1 h2 h3 h4 h5 h6 h7 h8 h9 h10 ih
    intro j hj hl
    have eB := bE_tr2 hc ha hb h2
    have hj2 : j < P.2.1 b := by omega
    have hi : l4_1.toNatClampNeg = fsm P.2.1 b + j := nnE (by omega)
    have f1 := fU_tr2 hc hb hj2 hi hsl h4
    have f2 := sU_tr2 hc hb hj2 hi hsl h6
    have f3 := sB_tr2 hc hb hj2 hi hsl h8
    have g1 := gU_tr h5 hN hA
    have g2 := gU_tr h7 hN hA
    have n0 := iN_0 h9
    refine gth_s hj2 (se_no _ (by omega)) (us_two g1 g2 _ f1.symm f2.symm) (ih (j + 1) (by omega) (by omega))
  · intro l4_1 Live_used_1 Live_set_1 x1 x2 x3 x4 x5 x6 x7 x8 x9 x10 x11 x12 k e1 e2 h1 h2 h3 h4 h5 h6 h7 h8 h9 h10 h11 h12 h13 h14 h15 h16 ih
    intro j hj hl
    have eB := bE_tr2 hc ha hb h2
    have hj2 : j < P.2.1 b := by omega
    have hi : l4_1.toNatClampNeg = fsm P.2.1 b + j := nnE (by omega)
    have f1 := fU_tr2 hc hb hj2 hi hsl h4
    have f2 := sU_tr2 hc hb hj2 hi hsl h6
    have f3 := sB_tr2 hc hb hj2 hi hsl h8
    have g1 := gU_tr h5 hN hA
    have g2 := gU_tr h7 hN hA
    have n1 := iN_1 h9
    have em : x5.toInt = ((x5.toInt.toNat : Nat) : Int) := (Int.toNat_of_nonneg n1.1).symm
    have o1 := gbit_or (f := Live_set_1) (a := b * W) (m := x5.toInt.toNat) h13 em (i := x7) (by omega) (by rw [h14, h12]) h15
    refine gth_s hj2 (se_one _ o1 (by omega) (by omega)) (us_two g1 g2 _ f1.symm f2.symm) (ih (j + 1) (by omega) (by omega))
  · intro l4_1 Live_used_1 Live_set_1 x1 x2 x3 x4 x5 k e1 e2 h1 h2 h3 h4 h5 h6 h7 h8 h9 h10 ih
    intro j hj hl
    have eB := bE_tr2 hc ha hb h2
    have hj2 : j < P.2.1 b := by omega
    have hi : l4_1.toNatClampNeg = fsm P.2.1 b + j := nnE (by omega)
    have f1 := fU_tr2 hc hb hj2 hi hsl h4
    have f2 := sU_tr2 hc hb hj2 hi hsl h6
    have f3 := sB_tr2 hc hb hj2 hi hsl h8
    have g1 := gU_tr h5 hN hA
    have g2 := gU_tr h7 hN hA
    have n0 := iN_0 h9
    refine gth_s hj2 (se_no _ (by omega)) (us_two g1 g2 _ f1.symm f2.symm) (ih (j + 1) (by omega) (by omega))
  · intro l4_1 Live_used_1 Live_set_1 x1 x2 x3 x4 k e1 e2 h1 h2 h3 h4 h5 h6 h7 h8 h9 h10 ih
    intro j hj hl
    have eB := bE_tr2 hc ha hb h2
    have hj2 : j < P.2.1 b := by omega
    have hi : l4_1.toNatClampNeg = fsm P.2.1 b + j := nnE (by omega)
    have f1 := fU_tr2 hc hb hj2 hi hsl h4
    have f2 := sU_tr2 hc hb hj2 hi hsl h6
    have f3 := sB_tr2 hc hb hj2 hi hsl h8
    have g1 := gU_tr h5 hN hA
    have g2 := gU_tr h7 hN hA
    have n0 := iN_0 h9
    refine gth_s hj2 (se_no _ (by omega)) (us_two g1 g2 _ f1.symm f2.symm) (ih (j + 1) (by omega) (by omega))
  · intro l4_1 Live_used_1 Live_set_1 x1 x2 x3 x4 x5 k e1 e2 h1 h2 h3 h4 h5 h6 h7 h8 h9 h10 ih
    intro j hj hl
    have eB := bE_tr2 hc ha hb h2
    have hj2 : j < P.2.1 b := by omega
    have hi : l4_1.toNatClampNeg = fsm P.2.1 b + j := nnE (by omega)
    have f1 := fU_tr2 hc hb hj2 hi hsl h4
    have f2 := sU_tr2 hc hb hj2 hi hsl h6
    have f3 := sB_tr2 hc hb hj2 hi hsl h8
    have g1 := gU_tr h5 hN hA
    have g2 := gU_tr h7 hN hA
    have n0 := iN_0 h9
    refine gth_s hj2 (se_no _ (by omega)) (us_two g1 g2 _ f1.symm f2.symm) (ih (j + 1) (by omega) (by omega))
  · intro l4_1 Live_used_1 Live_set_1 x1 x2 x3 x4 x5 x6 x7 x8 x9 x10 x11 k e1 e2 h1 h2 h3 h4 h5 h6 h7 h8 h9 h10 h11 h12 h13 h14 h15 h16 ih
    intro j hj hl
    have eB := bE_tr2 hc ha hb h2
    have hj2 : j < P.2.1 b := by omega
    have hi : l4_1.toNatClampNeg = fsm P.2.1 b + j := nnE (by omega)
    have f1 := fU_tr2 hc hb hj2 hi hsl h4
    have f2 := sU_tr2 hc hb hj2 hi hsl h6
    have f3 := sB_tr2 hc hb hj2 hi hsl h8
    have g1 := gU_tr h5 hN hA
    have g2 := gU_tr h7 hN hA
    have n1 := iN_1 h9
    have em : x4.toInt = ((x4.toInt.toNat : Nat) : Int) := (Int.toNat_of_nonneg n1.1).symm
    have o1 := gbit_or (f := Live_set_1) (a := b * W) (m := x4.toInt.toNat) h13 em (i := x6) (by omega) (by rw [h14, h12]) h15
    refine gth_s hj2 (se_one _ o1 (by omega) (by omega)) (us_two g1 g2 _ f1.symm f2.symm) (ih (j + 1) (by omega) (by omega))
  · intro l4_1 Live_used_1 Live_set_1 x1 x2 x3 k e1 e2 h1 h2 h3 h4 h5 h6 h7 h8 h9 h10 ih
    intro j hj hl
    have eB := bE_tr2 hc ha hb h2
    have hj2 : j < P.2.1 b := by omega
    have hi : l4_1.toNatClampNeg = fsm P.2.1 b + j := nnE (by omega)
    have f1 := fU_tr2 hc hb hj2 hi hsl h4
    have f2 := sU_tr2 hc hb hj2 hi hsl h6
    have f3 := sB_tr2 hc hb hj2 hi hsl h8
    have g1 := gU_tr h5 hN hA
    have g2 := gU_tr h7 hN hA
    have n0 := iN_0 h9
    refine gth_s hj2 (se_no _ (by omega)) (us_two g1 g2 _ f1.symm f2.symm) (ih (j + 1) (by omega) (by omega))
  · intro l4_1 Live_used_1 Live_set_1 x1 x2 x3 x4 k e1 e2 h1 h2 h3 h4 h5 h6 h7 h8 h9 h10 ih
    intro j hj hl
    have eB := bE_tr2 hc ha hb h2
    have hj2 : j < P.2.1 b := by omega
    have hi : l4_1.toNatClampNeg = fsm P.2.1 b + j := nnE (by omega)
    have f1 := fU_tr2 hc hb hj2 hi hsl h4
    have f2 := sU_tr2 hc hb hj2 hi hsl h6
    have f3 := sB_tr2 hc hb hj2 hi hsl h8
    have g1 := gU_tr h5 hN hA
    have g2 := gU_tr h7 hN hA
    have n0 := iN_0 h9
    refine gth_s hj2 (se_no _ (by omega)) (us_two g1 g2 _ f1.symm f2.symm) (ih (j + 1) (by omega) (by omega))
  · intro l4_1 Live_used_1 Live_set_1 x1 x2 x3 x4 x5 x6 x7 x8 x9 x10 k e1 e2 h1 h2 h3 h4 h5 h6 h7 h8 h9 h10 h11 h12 h13 h14 h15 h16 ih
    intro j hj hl
    have eB := bE_tr2 hc ha hb h2
    have hj2 : j < P.2.1 b := by omega
    have hi : l4_1.toNatClampNeg = fsm P.2.1 b + j := nnE (by omega)
    have f1 := fU_tr2 hc hb hj2 hi hsl h4
    have f2 := sU_tr2 hc hb hj2 hi hsl h6
    have f3 := sB_tr2 hc hb hj2 hi hsl h8
    have g1 := gU_tr h5 hN hA
    have g2 := gU_tr h7 hN hA
    have n1 := iN_1 h9
    have em : x3.toInt = ((x3.toInt.toNat : Nat) : Int) := (Int.toNat_of_nonneg n1.1).symm
    have o1 := gbit_or (f := Live_set_1) (a := b * W) (m := x3.toInt.toNat) h13 em (i := x5) (by omega) (by rw [h14, h12]) h15
    refine gth_s hj2 (se_one _ o1 (by omega) (by omega)) (us_two g1 g2 _ f1.symm f2.symm) (ih (j + 1) (by omega) (by omega))
  · intro l4_1 Live_used_1 Live_set_1 x1 h1 h2 h3
    intro j hj hl
    have eB := bE_tr2 hc ha hb h2
    exact gth_0 (by omega)
  · intro l4_1 Live_used_1 Live_set_1 x1 x2 x3 x4 x5 x6 x7 k e1 e2 h1 h2 h3 h4 h5 h6 h7 h8 h9 h10 ih
    intro j hj hl
    have eB := bE_tr2 hc ha hb h2
    have hj2 : j < P.2.1 b := by omega
    have hi : l4_1.toNatClampNeg = fsm P.2.1 b + j := nnE (by omega)
    have f1 := fU_tr2 hc hb hj2 hi hsl h4
    have f2 := sU_tr2 hc hb hj2 hi hsl h6
    have f3 := sB_tr2 hc hb hj2 hi hsl h8
    have g1 := gU_tr h5 hN hA
    have g2 := gU_tr h7 hN hA
    have n0 := iN_0 h9
    refine gth_s hj2 (se_no _ (by omega)) (us_two g1 g2 _ f1.symm f2.symm) (ih (j + 1) (by omega) (by omega))
  · intro l4_1 Live_used_1 Live_set_1 x1 x2 x3 x4 x5 x6 x7 x8 x9 x10 x11 x12 x13 k e1 e2 h1 h2 h3 h4 h5 h6 h7 h8 h9 h10 h11 h12 h13 h14 h15 h16 ih
    intro j hj hl
    have eB := bE_tr2 hc ha hb h2
    have hj2 : j < P.2.1 b := by omega
    have hi : l4_1.toNatClampNeg = fsm P.2.1 b + j := nnE (by omega)
    have f1 := fU_tr2 hc hb hj2 hi hsl h4
    have f2 := sU_tr2 hc hb hj2 hi hsl h6
    have f3 := sB_tr2 hc hb hj2 hi hsl h8
    have g1 := gU_tr h5 hN hA
    have g2 := gU_tr h7 hN hA
    have n1 := iN_1 h9
    have em : x6.toInt = ((x6.toInt.toNat : Nat) : Int) := (Int.toNat_of_nonneg n1.1).symm
    have o1 := gbit_or (f := Live_set_1) (a := b * W) (m := x6.toInt.toNat) h13 em (i := x8) (by omega) (by rw [h14, h12]) h15
    refine gth_s hj2 (se_one _ o1 (by omega) (by omega)) (us_two g1 g2 _ f1.symm f2.symm) (ih (j + 1) (by omega) (by omega))
  · intro l4_1 Live_used_1 Live_set_1 x1 x2 x3 x4 x5 x6 k e1 e2 h1 h2 h3 h4 h5 h6 h7 h8 h9 h10 ih
    intro j hj hl
    have eB := bE_tr2 hc ha hb h2
    have hj2 : j < P.2.1 b := by omega
    have hi : l4_1.toNatClampNeg = fsm P.2.1 b + j := nnE (by omega)
    have f1 := fU_tr2 hc hb hj2 hi hsl h4
    have f2 := sU_tr2 hc hb hj2 hi hsl h6
    have f3 := sB_tr2 hc hb hj2 hi hsl h8
    have g1 := gU_tr h5 hN hA
    have g2 := gU_tr h7 hN hA
    have n0 := iN_0 h9
    refine gth_s hj2 (se_no _ (by omega)) (us_two g1 g2 _ f1.symm f2.symm) (ih (j + 1) (by omega) (by omega))
  · intro l4_1 Live_used_1 Live_set_1 x1 x2 x3 x4 x5 k e1 e2 h1 h2 h3 h4 h5 h6 h7 h8 h9 h10 ih
    intro j hj hl
    have eB := bE_tr2 hc ha hb h2
    have hj2 : j < P.2.1 b := by omega
    have hi : l4_1.toNatClampNeg = fsm P.2.1 b + j := nnE (by omega)
    have f1 := fU_tr2 hc hb hj2 hi hsl h4
    have f2 := sU_tr2 hc hb hj2 hi hsl h6
    have f3 := sB_tr2 hc hb hj2 hi hsl h8
    have g1 := gU_tr h5 hN hA
    have g2 := gU_tr h7 hN hA
    have n0 := iN_0 h9
    refine gth_s hj2 (se_no _ (by omega)) (us_two g1 g2 _ f1.symm f2.symm) (ih (j + 1) (by omega) (by omega))
  · intro l4_1 Live_used_1 Live_set_1 x1 x2 x3 x4 x5 x6 k e1 e2 h1 h2 h3 h4 h5 h6 h7 h8 h9 h10 ih
    intro j hj hl
    have eB := bE_tr2 hc ha hb h2
    have hj2 : j < P.2.1 b := by omega
    have hi : l4_1.toNatClampNeg = fsm P.2.1 b + j := nnE (by omega)
    have f1 := fU_tr2 hc hb hj2 hi hsl h4
    have f2 := sU_tr2 hc hb hj2 hi hsl h6
    have f3 := sB_tr2 hc hb hj2 hi hsl h8
    have g1 := gU_tr h5 hN hA
    have g2 := gU_tr h7 hN hA
    have n0 := iN_0 h9
    refine gth_s hj2 (se_no _ (by omega)) (us_two g1 g2 _ f1.symm f2.symm) (ih (j + 1) (by omega) (by omega))
  · intro l4_1 Live_used_1 Live_set_1 x1 x2 x3 x4 x5 x6 x7 x8 x9 x10 x11 x12 k e1 e2 h1 h2 h3 h4 h5 h6 h7 h8 h9 h10 h11 h12 h13 h14 h15 h16 ih
    intro j hj hl
    have eB := bE_tr2 hc ha hb h2
    have hj2 : j < P.2.1 b := by omega
    have hi : l4_1.toNatClampNeg = fsm P.2.1 b + j := nnE (by omega)
    have f1 := fU_tr2 hc hb hj2 hi hsl h4
    have f2 := sU_tr2 hc hb hj2 hi hsl h6
    have f3 := sB_tr2 hc hb hj2 hi hsl h8
    have g1 := gU_tr h5 hN hA
    have g2 := gU_tr h7 hN hA
    have n1 := iN_1 h9
    have em : x5.toInt = ((x5.toInt.toNat : Nat) : Int) := (Int.toNat_of_nonneg n1.1).symm
    have o1 := gbit_or (f := Live_set_1) (a := b * W) (m := x5.toInt.toNat) h13 em (i := x7) (by omega) (by rw [h14, h12]) h15
    refine gth_s hj2 (se_one _ o1 (by omega) (by omega)) (us_two g1 g2 _ f1.symm f2.symm) (ih (j + 1) (by omega) (by omega))
  · intro l4_1 Live_used_1 Live_set_1 x1 x2 x3 x4 k e1 e2 h1 h2 h3 h4 h5 h6 h7 h8 h9 h10 ih
    intro j hj hl
    have eB := bE_tr2 hc ha hb h2
    have hj2 : j < P.2.1 b := by omega
    have hi : l4_1.toNatClampNeg = fsm P.2.1 b + j := nnE (by omega)
    have f1 := fU_tr2 hc hb hj2 hi hsl h4
    have f2 := sU_tr2 hc hb hj2 hi hsl h6
    have f3 := sB_tr2 hc hb hj2 hi hsl h8
    have g1 := gU_tr h5 hN hA
    have g2 := gU_tr h7 hN hA
    have n0 := iN_0 h9
    refine gth_s hj2 (se_no _ (by omega)) (us_two g1 g2 _ f1.symm f2.symm) (ih (j + 1) (by omega) (by omega))
  · intro l4_1 Live_used_1 Live_set_1 x1 x2 x3 x4 x5 k e1 e2 h1 h2 h3 h4 h5 h6 h7 h8 h9 h10 ih
    intro j hj hl
    have eB := bE_tr2 hc ha hb h2
    have hj2 : j < P.2.1 b := by omega
    have hi : l4_1.toNatClampNeg = fsm P.2.1 b + j := nnE (by omega)
    have f1 := fU_tr2 hc hb hj2 hi hsl h4
    have f2 := sU_tr2 hc hb hj2 hi hsl h6
    have f3 := sB_tr2 hc hb hj2 hi hsl h8
    have g1 := gU_tr h5 hN hA
    have g2 := gU_tr h7 hN hA
    have n0 := iN_0 h9
    refine gth_s hj2 (se_no _ (by omega)) (us_two g1 g2 _ f1.symm f2.symm) (ih (j + 1) (by omega) (by omega))
  · intro l4_1 Live_used_1 Live_set_1 x1 x2 x3 x4 x5 x6 x7 x8 x9 x10 x11 k e1 e2 h1 h2 h3 h4 h5 h6 h7 h8 h9 h10 h11 h12 h13 h14 h15 h16 ih
    intro j hj hl
    have eB := bE_tr2 hc ha hb h2
    have hj2 : j < P.2.1 b := by omega
    have hi : l4_1.toNatClampNeg = fsm P.2.1 b + j := nnE (by omega)
    have f1 := fU_tr2 hc hb hj2 hi hsl h4
    have f2 := sU_tr2 hc hb hj2 hi hsl h6
    have f3 := sB_tr2 hc hb hj2 hi hsl h8
    have g1 := gU_tr h5 hN hA
    have g2 := gU_tr h7 hN hA
    have n1 := iN_1 h9
    have em : x4.toInt = ((x4.toInt.toNat : Nat) : Int) := (Int.toNat_of_nonneg n1.1).symm
    have o1 := gbit_or (f := Live_set_1) (a := b * W) (m := x4.toInt.toNat) h13 em (i := x6) (by omega) (by rw [h14, h12]) h15
    refine gth_s hj2 (se_one _ o1 (by omega) (by omega)) (us_two g1 g2 _ f1.symm f2.symm) (ih (j + 1) (by omega) (by omega))
theorem ga_tr2 {a2 : Int32} {Live_names : Int32} {Live_words : Int32} {Live_ofSlots : Int32} {Code_blocks : Int32} {Code_lines : Int32} {Live_used : Nat → Int64} {Live_set : Nat → Int64} {Code_first : Nat → Int32} {Code_op : Nat → Int32} {Code_set : Nat → Int32} {Code_left : Nat → Int32} {Code_right : Nat → Int32} {Code_rightNumber : Nat → Int32} {o1 : Nat → Int64} {o2 : Nat → Int64} {fg : Nat → Int32} {sg : Nat → Int32} {cln : Nat → Int32} (hc : cdP Code_blocks Code_lines Code_first fg sg Code_op Code_set Code_left cln Code_right Code_rightNumber P) (ha : a2.toInt = (b : Int)) (hb : b < P.1) (hN : Live_names.toInt = (Nm : Int)) (hW : Live_words.toInt = (W : Int)) (hsl : sl = decide (Live_ofSlots.toInt ≠ 0)) (h : tr_Live_gather2 a2 Live_names Live_words Live_ofSlots Code_blocks Code_lines Live_used Live_set Code_first Code_op Code_set Code_left Code_right Code_rightNumber o1 o2) : gth P sl W Nm b 0 Live_used Live_set o1 o2 := by
  refine h (fun o1 o2 => gth P sl W Nm b 0 Live_used Live_set o1 o2) ?_
  · intro x1 x2 x3 x4 h1 h2 h3 h4
    refine ga_tl2 hc ha hb hN ?_ hsl h4 0 (Nat.zero_le _) ?_
    · rw [h1, ha, hW]; exact (Int.natCast_mul b W).symm
    · rw [h2, nnE ha]; exact (hc.2.2.1 b hb).1
theorem sz_tl2 {Code_blocks : Int32} {c1 : Int32} {s1 : Int32} {s2 : Nat → Int64} {s3 : Nat → Int64} {s4 : Nat → Int64} {k : Nat} {e1 : Nat → Int64} {e2 : Nat → Int64} {e3 : Nat → Int64} {M : Nat} (hM : Code_blocks.toInt * c1.toInt = (M : Int)) (h : tl_Live_solve2_37 Code_blocks c1 s1 s2 s3 s4 k e1 e2 e3) : 0 ≤ s1.toInt → ∀ i, i < M → ((i : Int) < s1.toInt → s2 i = 0 ∧ s3 i = 0 ∧ s4 i = 0) → e1 i = 0 ∧ e2 i = 0 ∧ e3 i = 0 := by
  refine h (fun s1 s2 s3 s4 _ e1 e2 e3 => 0 ≤ s1.toInt → ∀ i, i < M → ((i : Int) < s1.toInt → s2 i = 0 ∧ s3 i = 0 ∧ s4 i = 0) → e1 i = 0 ∧ e2 i = 0 ∧ e3 i = 0) ?_ ?_
  · intro l4_1 Live_in_1 Live_used_1 Live_set_1 x1 h1 h2 h3
    exact fun _ i hi hz => hz (by omega)
  · intro l4_1 Live_in_1 Live_used_1 Live_set_1 x1 x2 x3 x4 x5 k e1 e2 e3 h1 h2 h3 h4 h5 h6 h7 ih
    intro h0 i hi hz
    refine ih (by omega) i hi (fun hl => ?_)
    have en : (l4_1.toNatClampNeg : Int) = l4_1.toInt := g_nn h0
    rw [h4, h5, h6]
    unfold vp_updL
    by_cases e : i = l4_1.toNatClampNeg
    · rw [if_pos e, if_pos e, if_pos e]; exact ⟨rfl, rfl, rfl⟩
    · rw [if_neg e, if_neg e, if_neg e]; exact hz (by omega)
theorem sg_tl2 {Code_blocks : Int32} {c1 : Int32} {c2 : Int32} {a3 : Int32} {Code_lines : Int32} {Code_first : Nat → Int32} {Code_op : Nat → Int32} {Code_set : Nat → Int32} {Code_left : Nat → Int32} {Code_right : Nat → Int32} {Code_rightNumber : Nat → Int32} {s1 : Int32} {s2 : Nat → Int64} {s3 : Nat → Int64} {k : Nat} {e1 : Nat → Int64} {e2 : Nat → Int64} {fg : Nat → Int32} {sg : Nat → Int32} {cln : Nat → Int32} (hc : cdP Code_blocks Code_lines Code_first fg sg Code_op Code_set Code_left cln Code_right Code_rightNumber P) (hW2 : Nm ≤ 64 * W) (hN : c1.toInt = (Nm : Int)) (hW : c2.toInt = (W : Int)) (hsl : sl = decide (a3.toInt ≠ 0)) (h : tl_Live_solve2_84 Code_blocks c1 c2 a3 Code_lines Code_first Code_op Code_set Code_left Code_right Code_rightNumber s1 s2 s3 k e1 e2) : ∀ b : Nat, s1.toInt = (b : Int) → zrB P W b s2 → zrB P W b s3 → gtB P sl W Nm b s2 s3 e1 e2 := by
  have cb := hc.1
  refine h (fun s1 s2 s3 _ e1 e2 => ∀ b : Nat, s1.toInt = (b : Int) → zrB P W b s2 → zrB P W b s3 → gtB P sl W Nm b s2 s3 e1 e2) ?_ ?_
  · intro l4_1 Live_used_1 Live_set_1 h1 h2
    exact fun b hl _ _ c v hc hv => ⟨fun _ => ⟨rfl, rfl⟩, fun hbc => by omega⟩
  · intro l4_1 Live_used_1 Live_set_1 x1 x2 x3 k e1 e2 h1 h2 h3 h4 ih
    intro b hl hu hs
    exact gtB_s hW2 (by omega) hu hs (ga_tr2 hc hl (by omega) hN hW hsl h3) (ih (b + 1) (by omega))
end LIV
