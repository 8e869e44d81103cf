section BGC
variable {P Q : gPg} {b j : Nat} {a1 a2 a3 a4 a5 a6 bl li fl : Int32} {fi fg sg op st lf ln rt rn : Nat → Int32}
theorem add_tr2 {x1 x8 : Int32} {x2 x3 x4 x5 x6 x7 : Nat → Int32} (h : tr_Code_add2 a1 a2 a3 a4 a5 a6 li fl op st lf ln rt rn x1 x2 x3 x4 x5 x6 x7 x8) (hc : cdP bl li fi fg sg op st lf ln rt rn P) (hl : li.toInt < 920) (hP : 0 < P.1) : cdP bl x1 fi fg sg x2 x3 x4 x5 x6 x7 (pgL P (mkL a1.toInt a2.toInt a3.toInt a4.toInt a5.toInt a6.toInt)) := by
  refine h (fun x1 x2 x3 x4 x5 x6 x7 _ => cdP bl x1 fi fg sg x2 x3 x4 x5 x6 x7 (pgL P (mkL a1.toInt a2.toInt a3.toInt a4.toInt a5.toInt a6.toInt))) ?_ ?_
  · intro x1 x2 x3 x4 x5 x6 x7 h1 h2 h3 h4 h5 h6 h7 h8
    exact cdP_L hc hP h8 h2 h3 h4 h5 h6 h7
  · intro h1
    omega
theorem mkL_e {l : Nat → Int} {z : Nat → Int} (h0 : l 0 = z 0) (h1 : l 1 = z 1) (h2 : l 2 = z 2) (h3 : l 3 = z 3) (h4 : l 4 = z 4) (h5 : ∀ i, 5 ≤ i → l i = z 5) : l = mkL (z 0) (z 1) (z 2) (z 3) (z 4) (z 5) := funext (fun i => by
  match i with
  | 0 => exact h0
  | 1 => exact h1
  | 2 => exact h2
  | 3 => exact h3
  | 4 => exact h4
  | n + 5 => exact h5 (n + 5) (by omega))
/-- lines that are made of six numbers -/
def lnO (P : gPg) : Prop := ∀ b j, b < P.1 → j < P.2.1 b → P.2.2.1 b j = mkL (P.2.2.1 b j 0) (P.2.2.1 b j 1) (P.2.2.1 b j 2) (P.2.2.1 b j 3) (P.2.2.1 b j 4) (P.2.2.1 b j 5)
theorem aln_tr {a2 : Int32} {Code_lines : Int32} {Code_isFull : Int32} {Code_op : Nat → Int32} {Code_set : Nat → Int32} {Code_left : Nat → Int32} {Code_leftNumber : Nat → Int32} {Code_right : Nat → Int32} {Code_rightNumber : Nat → Int32} {Code_op2 : Nat → Int32} {Code_set2 : Nat → Int32} {Code_left2 : Nat → Int32} {Code_leftNumber2 : Nat → Int32} {Code_right2 : Nat → Int32} {Code_rightNumber2 : Nat → Int32} {o1 : Int32} {o2 : Int32} {o3 : Nat → Int32} {o4 : Nat → Int32} {o5 : Nat → Int32} {o6 : Nat → Int32} {o7 : Nat → Int32} {o8 : Nat → Int32} {bl2 li2 : Int32} {fi2 fg2 sg2 : Nat → Int32} (h : tr_Code_addLine a2 Code_lines Code_isFull Code_op Code_set Code_left Code_leftNumber Code_right Code_rightNumber Code_op2 Code_set2 Code_left2 Code_leftNumber2 Code_right2 Code_rightNumber2 o1 o2 o3 o4 o5 o6 o7 o8) (hc2 : cdP bl2 li2 fi2 fg2 sg2 Code_op2 Code_set2 Code_left2 Code_leftNumber2 Code_right2 Code_rightNumber2 P) (hl : lnO P) (hb : b < P.1) (hj : j < P.2.1 b) (hi : a2.toNatClampNeg = fsm P.2.1 b + j) (hc : cdP bl Code_lines fi fg sg Code_op Code_set Code_left Code_leftNumber Code_right Code_rightNumber Q) (hl2 : Code_lines.toInt < 920) (hQ : 0 < Q.1) : cdP bl o1 fi fg sg o3 o4 o5 o6 o7 o8 (pgL Q (P.2.2.1 b j)) := by
  obtain ⟨d0, d1, d2, d3, d4, d5⟩ := hc2.2.2.2 b j hb hj
  refine h (fun o1 _ o3 o4 o5 o6 o7 o8 => cdP bl o1 fi fg sg o3 o4 o5 o6 o7 o8 (pgL Q (P.2.2.1 b j))) ?_
  · intro x1 x2 x3 x4 x5 x6 x7 x8 x9 x10 x11 x12 x13 x14 h1 h2 h3 h4 h5 h6 h7 h8 h9 h10
    have q := add_tr2 h10 hc hl2 hQ
    rw [h1, h3, h4, h5, h6, h7, hi, d0, d1, d2, d3, d4, d5, ← hl b j hb hj] at q
    exact q
theorem bl_tl {l2_1 : Int32} {Code_blocks : Int32} {Code_lines : Int32} {Code_first : Nat → Int32} {Code_op : Nat → Int32} {Code_set : Nat → Int32} {Code_left : Nat → Int32} {Code_leftNumber : Nat → Int32} {Code_right : Nat → Int32} {Code_rightNumber : Nat → Int32} {s1 : Int32} {s2 : Int32} {s3 : Int32} {s4 : Nat → Int32} {s5 : Nat → Int32} {s6 : Nat → Int32} {s7 : Nat → Int32} {s8 : Nat → Int32} {s9 : Nat → Int32} {k : Nat} {e1 : Int32} {e2 : Int32} {e3 : Nat → Int32} {e4 : Nat → Int32} {e5 : Nat → Int32} {e6 : Nat → Int32} {e7 : Nat → Int32} {e8 : Nat → Int32} {pfg psg : Nat → Int32} (hcP : cdP Code_blocks Code_lines Code_first pfg psg Code_op Code_set Code_left Code_leftNumber Code_right Code_rightNumber P) (hl : lnO P) (hQ : 0 < Q.1) (ha : l2_1.toInt = (b : Int)) (hb : b < P.1) (h : tl_Giver_begin_93 l2_1 Code_blocks Code_lines Code_first Code_op Code_set Code_left Code_leftNumber Code_right Code_rightNumber s1 s2 s3 s4 s5 s6 s7 s8 s9 k e1 e2 e3 e4 e5 e6 e7 e8) : ∀ j : Nat, j ≤ P.2.1 b → s1.toInt = ((fsm P.2.1 b + j : Nat) : Int) → (s2.toInt + ((P.2.1 b - j : Nat) : Int) ≤ 919) → cdP bl s2 fi fg sg s4 s5 s6 s7 s8 s9 (cpB P Q b j) → cdP bl e1 fi fg sg e3 e4 e5 e6 e7 e8 (cpB P Q b (P.2.1 b)) := by
  have eB2 : fsm P.2.1 (b + 1) = fsm P.2.1 b + P.2.1 b := rfl
  have hQ2 : ∀ m, 0 < (cpB P Q b m).1 := fun m => by rw [(cpB_f (P := P) (Q := Q) (b := b) m).1]; exact hQ
  refine h (fun s1 s2 _ s4 s5 s6 s7 s8 s9 _ e1 _ e3 e4 e5 e6 e7 e8 => ∀ j : Nat, j ≤ P.2.1 b → s1.toInt = ((fsm P.2.1 b + j : Nat) : Int) → (s2.toInt + ((P.2.1 b - j : Nat) : Int) ≤ 919) → cdP bl s2 fi fg sg s4 s5 s6 s7 s8 s9 (cpB P Q b j) → cdP bl e1 fi fg sg e3 e4 e5 e6 e7 e8 (cpB P Q b (P.2.1 b))) ?_ ?_ ?_ ?_
  · intro l3_2 Code_lines_2 Code_isFull_2 Code_op_2 Code_set_2 Code_left_2 Code_leftNumber_2 Code_right_2 Code_rightNumber_2 h1 h2 h3 h4 h5
    intro j hj hl1 hm hc
    have eB := bE_tr hcP ha hb h4
    have e : j = P.2.1 b := by omega
    rw [e] at hc; exact hc
  · intro l3_2 Code_lines_2 Code_isFull_2 Code_op_2 Code_set_2 Code_left_2 Code_leftNumber_2 Code_right_2 Code_rightNumber_2 x1 x2 x3 x4 x5 x6 x7 x8 x9 k e1 e2 e3 e4 e5 e6 e7 e8 h1 h2 h3 h4 h5 h6 h7 h8 h9 ih
    intro j hj hl1 hm hc
    have eB := bE_tr hcP ha hb h4
    have hj2 : j < P.2.1 b := by omega
    have hi : l3_2.toNatClampNeg = fsm P.2.1 b + j := nnE (by omega)
    have q := aln_tr h8 hcP hl hb hj2 hi hc (by omega) (hQ2 j)
    have e1 := q.2.1
    rw [pgL_s (hQ2 j)] at e1
    have e2 := hc.2.1
    exact ih (j + 1) (by omega) (by omega) (by omega) q
  · intro l3_2 Code_lines_2 Code_isFull_2 Code_op_2 Code_set_2 Code_left_2 Code_leftNumber_2 Code_right_2 Code_rightNumber_2 x1 h1 h2 h3 h4 h5
    intro j hj hl1 hm hc
    have eB := bE_tr hcP ha hb h4
    have e : j = P.2.1 b := by omega
    rw [e] at hc; exact hc
  · intro l3_2 Code_lines_2 Code_isFull_2 Code_op_2 Code_set_2 Code_left_2 Code_leftNumber_2 Code_right_2 Code_rightNumber_2 x1 x2 x3 x4 x5 x6 x7 x8 x9 x10 k e1 e2 e3 e4 e5 e6 e7 e8 h1 h2 h3 h4 h5 h6 h7 h8 h9 ih
    intro j hj hl1 hm hc
    have eB := bE_tr hcP ha hb h4
    have hj2 : j < P.2.1 b := by omega
    have hi : l3_2.toNatClampNeg = fsm P.2.1 b + j := nnE (by omega)
    have q := aln_tr h8 hcP hl hb hj2 hi hc (by omega) (hQ2 j)
    have e1 := q.2.1
    rw [pgL_s (hQ2 j)] at e1
    have e2 := hc.2.1
    exact ih (j + 1) (by omega) (by omega) (by omega) q
theorem bl_tl_2 {l2_1 : Int32} {Code_blocks : Int32} {Code_lines : Int32} {Code_first : Nat → Int32} {Code_op : Nat → Int32} {Code_set : Nat → Int32} {Code_left : Nat → Int32} {Code_leftNumber : Nat → Int32} {Code_right : Nat → Int32} {Code_rightNumber : Nat → Int32} {s1 : Int32} {s2 : Int32} {s3 : Int32} {s4 : Nat → Int32} {s5 : Nat → Int32} {s6 : Nat → Int32} {s7 : Nat → Int32} {s8 : Nat → Int32} {s9 : Nat → Int32} {k : Nat} {e1 : Int32} {e2 : Int32} {e3 : Nat → Int32} {e4 : Nat → Int32} {e5 : Nat → Int32} {e6 : Nat → Int32} {e7 : Nat → Int32} {e8 : Nat → Int32} {pfg psg : Nat → Int32} (hcP : cdP Code_blocks Code_lines Code_first pfg psg Code_op Code_set Code_left Code_leftNumber Code_right Code_rightNumber P) (hl : lnO P) (hQ : 0 < Q.1) (ha : l2_1.toInt = (b : Int)) (hb : b < P.1) (h : tl_Giver_begin_93_2 l2_1 Code_blocks Code_lines Code_first Code_op Code_set Code_left Code_leftNumber Code_right Code_rightNumber s1 s2 s3 s4 s5 s6 s7 s8 s9 k e1 e2 e3 e4 e5 e6 e7 e8) : ∀ j : Nat, j ≤ P.2.1 b → s1.toInt = ((fsm P.2.1 b + j : Nat) : Int) → (s2.toInt + ((P.2.1 b - j : Nat) : Int) ≤ 919) → cdP bl s2 fi fg sg s4 s5 s6 s7 s8 s9 (cpB P Q b j) → cdP bl e1 fi fg sg e3 e4 e5 e6 e7 e8 (cpB P Q b (P.2.1 b)) := by
  have eB2 : fsm P.2.1 (b + 1) = fsm P.2.1 b + P.2.1 b := rfl
  have hQ2 : ∀ m, 0 < (cpB P Q b m).1 := fun m => by rw [(cpB_f (P := P) (Q := Q) (b := b) m).1]; exact hQ
  refine h (fun s1 s2 _ s4 s5 s6 s7 s8 s9 _ e1 _ e3 e4 e5 e6 e7 e8 => ∀ j : Nat, j ≤ P.2.1 b → s1.toInt = ((fsm P.2.1 b + j : Nat) : Int) → (s2.toInt + ((P.2.1 b - j : Nat) : Int) ≤ 919) → cdP bl s2 fi fg sg s4 s5 s6 s7 s8 s9 (cpB P Q b j) → cdP bl e1 fi fg sg e3 e4 e5 e6 e7 e8 (cpB P Q b (P.2.1 b))) ?_ ?_ ?_ ?_
  · intro l3_2 Code_lines_2 Code_isFull_2 Code_op_2 Code_set_2 Code_left_2 Code_leftNumber_2 Code_right_2 Code_rightNumber_2 h1 h2 h3 h4 h5
    intro j hj hl1 hm hc
    have eB := bE_tr hcP ha hb h4
    have e : j = P.2.1 b := by omega
    rw [e] at hc; exact hc
  · intro l3_2 Code_lines_2 Code_isFull_2 Code_op_2 Code_set_2 Code_left_2 Code_leftNumber_2 Code_right_2 Code_rightNumber_2 x1 x2 x3 x4 x5 x6 x7 x8 x9 k e1 e2 e3 e4 e5 e6 e7 e8 h1 h2 h3 h4 h5 h6 h7 h8 h9 ih
    intro j hj hl1 hm hc
    have eB := bE_tr hcP ha hb h4
    have hj2 : j < P.2.1 b := by omega
    have hi : l3_2.toNatClampNeg = fsm P.2.1 b + j := nnE (by omega)
    have q := aln_tr h8 hcP hl hb hj2 hi hc (by omega) (hQ2 j)
    have e1 := q.2.1
    rw [pgL_s (hQ2 j)] at e1
    have e2 := hc.2.1
    exact ih (j + 1) (by omega) (by omega) (by omega) q
  · intro l3_2 Code_lines_2 Code_isFull_2 Code_op_2 Code_set_2 Code_left_2 Code_leftNumber_2 Code_right_2 Code_rightNumber_2 x1 h1 h2 h3 h4 h5
    intro j hj hl1 hm hc
    have eB := bE_tr hcP ha hb h4
    have e : j = P.2.1 b := by omega
    rw [e] at hc; exact hc
  · intro l3_2 Code_lines_2 Code_isFull_2 Code_op_2 Code_set_2 Code_left_2 Code_leftNumber_2 Code_right_2 Code_rightNumber_2 x1 x2 x3 x4 x5 x6 x7 x8 x9 x10 k e1 e2 e3 e4 e5 e6 e7 e8 h1 h2 h3 h4 h5 h6 h7 h8 h9 ih
    intro j hj hl1 hm hc
    have eB := bE_tr hcP ha hb h4
    have hj2 : j < P.2.1 b := by omega
    have hi : l3_2.toNatClampNeg = fsm P.2.1 b + j := nnE (by omega)
    have q := aln_tr h8 hcP hl hb hj2 hi hc (by omega) (hQ2 j)
    have e1 := q.2.1
    rw [pgL_s (hQ2 j)] at e1
    have e2 := hc.2.1
    exact ih (j + 1) (by omega) (by omega) (by omega) q
theorem ilb_0 {a v nm wd : Int32} {f : Nat → Int64} {Nm W b m : Nat} (h : tr_Live_isLiveBefore a v nm wd f 0) (ha : a.toInt = (b : Int)) (hb : b < 40) (hv : v.toInt = (m : Int)) (hm : m < Nm) (hN : nm.toInt = (Nm : Int)) (hW : wd.toInt = (W : Int)) : gbit f (64 * (b * W) + m) = false := by
  have q : (0 : Int32).toInt = 0 → gbit f (64 * (b * W) + m) = false := by
    refine h (fun r => r.toInt = 0 → gbit f (64 * (b * W) + m) = false) ?_ ?_ ?_ ?_ ?_
    · intro h1
      have n0 := iN_0 h1
      exact absurd ⟨by omega, by omega⟩ n0
    · intro h1 h2
      omega
    · intro h1 h2 h3
      omega
    · intro x1 x2 x3 x4 x5 x6 h1 h2 h3 h4 h5 h6 h7 h8 h9 h10
      intro _
      have ep : x1.toInt = ((b * W : Nat) : Int) := by rw [h4, ha, hW]; exact (Int.natCast_mul _ _).symm
      have t := tst_bit (f := f) (a := b * W) (m := m) (i := x3) (by omega) hv h7 h8 h9
      exact t.mp h10
    · intro x1 x2 x3 x4 x5 x6 h1 h2 h3 h4 h5 h6 h7 h8 h9 h10
      exact fun z => absurd z (by decide)
  exact q (by decide)
theorem ilb_1 {a v nm wd : Int32} {f : Nat → Int64} {Nm W b m : Nat} (h : tr_Live_isLiveBefore a v nm wd f 1) (ha : a.toInt = (b : Int)) (hb : b < 40) (hv : v.toInt = (m : Int)) (hm : m < Nm) (hN : nm.toInt = (Nm : Int)) (hW : wd.toInt = (W : Int)) : gbit f (64 * (b * W) + m) = true := by
  have q : (1 : Int32).toInt = 1 → gbit f (64 * (b * W) + m) = true := by
    refine h (fun r => r.toInt = 1 → gbit f (64 * (b * W) + m) = true) ?_ ?_ ?_ ?_ ?_
    · intro h1
      exact fun z => absurd z (by decide)
    · intro h1 h2
      exact fun z => absurd z (by decide)
    · intro h1 h2 h3
      exact fun z => absurd z (by decide)
    · intro x1 x2 x3 x4 x5 x6 h1 h2 h3 h4 h5 h6 h7 h8 h9 h10
      exact fun z => absurd z (by decide)
    · intro x1 x2 x3 x4 x5 x6 h1 h2 h3 h4 h5 h6 h7 h8 h9 h10
      intro _
      have ep : x1.toInt = ((b * W : Nat) : Int) := by rw [h4, ha, hW]; exact (Int.natCast_mul _ _).symm
      have t := tst_bit (f := f) (a := b * W) (m := m) (i := x3) (by omega) hv h7 h8 h9
      exact eq_true_of_ne_false (fun z => h10 (t.mpr z))
  exact q (by decide)
theorem sz2_tl {Live_names : Int32} {Live_words : Int32} {Live_in : Nat → Int64} {s1 : Int32} {s2 : Int32} {s3 : Int32} {s4 : Nat → Int32} {s5 : Nat → Int32} {s6 : Nat → Int32} {s7 : Nat → Int32} {s8 : Nat → Int32} {s9 : Nat → Int32} {k : Nat} {e1 : Int32} {e2 : Int32} {e3 : Nat → Int32} {e4 : Nat → Int32} {e5 : Nat → Int32} {e6 : Nat → Int32} {e7 : Nat → Int32} {e8 : Nat → Int32} {T : Nat → Prop} {W : Nat} (hQ : 0 < Q.1) (hN : Live_names.toInt = 100) (hW : Live_words.toInt = (W : Int)) (hT : ∀ v, v < 100 → (gbit Live_in (64 * (0 * W) + v) = true ↔ T v)) (h : tl_Giver_setLiveToZero_2 Live_names Live_words Live_in s1 s2 s3 s4 s5 s6 s7 s8 s9 k e1 e2 e3 e4 e5 e6 e7 e8) : ∀ k : Nat, s1.toInt = (k : Int) → s2.toInt + (100 - (k : Int)) ≤ 919 → cdP bl s2 fi fg sg s4 s5 s6 s7 s8 s9 (zrF T Q k) → cdP bl e1 fi fg sg e3 e4 e5 e6 e7 e8 (zrF T Q 100) := by
  have hQ2 : ∀ m, m ≤ 100 → 0 < (zrF T Q m).1 := fun m hm => by rw [(zrF_f (T := T) (Q := Q) m hm).1]; exact hQ
  refine h (fun s1 s2 _ s4 s5 s6 s7 s8 s9 _ e1 _ e3 e4 e5 e6 e7 e8 => ∀ k : Nat, s1.toInt = (k : Int) → s2.toInt + (100 - (k : Int)) ≤ 919 → cdP bl s2 fi fg sg s4 s5 s6 s7 s8 s9 (zrF T Q k) → cdP bl e1 fi fg sg e3 e4 e5 e6 e7 e8 (zrF T Q 100)) ?_ ?_ ?_
  · intro l1_1 Code_lines_1 Code_isFull_1 Code_op_1 Code_set_1 Code_left_1 Code_leftNumber_1 Code_right_1 Code_rightNumber_1 h1 h2 h3 h4
    intro k hk hm hc
    have e : k = 100 := by have z := h1.2; omega
    rw [e] at hc; exact hc
  · intro l1_1 Code_lines_1 Code_isFull_1 Code_op_1 Code_set_1 Code_left_1 Code_leftNumber_1 Code_right_1 Code_rightNumber_1 x1 k e1 e2 e3 e4 e5 e6 e7 e8 h1 h2 h3 h4 h5 h6 ih
    intro k hk hm hc
    have q := ilb_0 (Nm := 100) (b := 0) h5 (by decide) (by decide) hk (by omega) hN hW
    refine ih (k + 1) (by omega) (by omega) ?_
    have e : zrF T Q (k + 1) = zrF T Q k := if_neg (fun z => by rw [(hT k (by omega)).mpr z] at q; cases q)
    rw [e]; exact hc
  · intro l1_1 Code_lines_1 Code_isFull_1 Code_op_1 Code_set_1 Code_left_1 Code_leftNumber_1 Code_right_1 Code_rightNumber_1 x1 x2 x3 x4 x5 x6 x7 x8 x9 k e1 e2 e3 e4 e5 e6 e7 e8 h1 h2 h3 h4 h5 h6 h7 h8 h9 ih
    intro k hk hm hc
    have q := ilb_1 (Nm := 100) (b := 0) h5 (by decide) (by decide) hk (by omega) hN hW
    have e : zrF T Q (k + 1) = pgL (zrF T Q k) (mkL 14 (k : Int) (-1) 0 (-1) 0) := if_pos ((hT k (by omega)).mp q)
    have a := add_tr2 h8 hc (by omega) (hQ2 k (by omega))
    rw [show Int32.toInt 14 = 14 from by decide, px_m1, px_0, hk] at a
    have e1 := a.2.1
    rw [pgL_s (hQ2 k (by omega))] at e1
    have e2 := hc.2.1
    refine ih (k + 1) (by omega) (by omega) ?_
    rw [e]; exact a
theorem sz2_tr {Code_lines : Int32} {Code_isFull : Int32} {Live_names : Int32} {Live_words : Int32} {Code_op : Nat → Int32} {Code_set : Nat → Int32} {Code_left : Nat → Int32} {Code_leftNumber : Nat → Int32} {Code_right : Nat → Int32} {Code_rightNumber : Nat → Int32} {Live_in : Nat → Int64} {o1 : Int32} {o2 : Int32} {o3 : Nat → Int32} {o4 : Nat → Int32} {o5 : Nat → Int32} {o6 : Nat → Int32} {o7 : Nat → Int32} {o8 : Nat → Int32} {T : Nat → Prop} {W : Nat} (hQ : 0 < Q.1) (hN : Live_names.toInt = 100) (hW : Live_words.toInt = (W : Int)) (hT : ∀ v, v < 100 → (gbit Live_in (64 * (0 * W) + v) = true ↔ T v)) (h : tr_Giver_setLiveToZero Code_lines Code_isFull Live_names Live_words Code_op Code_set Code_left Code_leftNumber Code_right Code_rightNumber Live_in o1 o2 o3 o4 o5 o6 o7 o8) (hm : Code_lines.toInt + 100 ≤ 919) (hc : cdP bl Code_lines fi fg sg Code_op Code_set Code_left Code_leftNumber Code_right Code_rightNumber Q) : cdP bl o1 fi fg sg o3 o4 o5 o6 o7 o8 (zrF T Q 100) := by
  refine h (fun o1 _ o3 o4 o5 o6 o7 o8 => cdP bl o1 fi fg sg o3 o4 o5 o6 o7 o8 (zrF T Q 100)) ?_
  · intro x1 x2 x3 x4 x5 x6 x7 x8 h1
    exact sz2_tl hQ hN hW hT h1 0 (by decide) (by omega) hc
theorem opB_tr2 {x1 x2 : Int32} {y1 y2 y3 : Nat → Int32} (h : tr_Code_openBlock2 bl li fi fg sg x1 x2 y1 y2 y3) (hc : cdP bl li fi fg sg op st lf ln rt rn P) (hb : bl.toInt < 40) : x1.toInt = 1 ∧ cdP x2 li y1 y2 y3 op st lf ln rt rn (pgB P) := by
  refine h (fun x1 x2 y1 y2 y3 => x1.toInt = 1 ∧ cdP x2 li y1 y2 y3 op st lf ln rt rn (pgB P)) ?_ ?_
  · intro x1 x2 x3 x4 h1 h2 h3 h4 h5
    exact ⟨px_1, cdP_B hc h5 h2 h3 h4⟩
  · intro h1
    omega
theorem cdP_OL {y2 y3 : Nat → Int32} {u w : Int32} (h : cdP bl li fi fg sg op st lf ln rt rn (pgB Q)) (h1 : y2 = upd fg Q.1 u) (h2 : y3 = upd sg Q.1 w) (hu : u.toInt = P.2.2.2 Q.1 0) (hw : w.toInt = P.2.2.2 Q.1 1) : cdP bl li fi y2 y3 op st lf ln rt rn (pgOL P Q) := by
  obtain ⟨c1, c2, c3, c4⟩ := h
  refine ⟨c1, c2, fun b hb => ?_, c4⟩
  obtain ⟨d1, d2, d3⟩ := c3 b hb
  refine ⟨d1, ?_, ?_⟩
  · show (y2 b).toInt = if b = Q.1 then P.2.2.2 b 0 else Q.2.2.2 b 0
    rw [h1]
    by_cases e : b = Q.1
    · rw [e, updE, if_pos rfl]; exact hu
    · rw [updN e, if_neg e, d2]; exact if_neg e
  · show (y3 b).toInt = if b = Q.1 then P.2.2.2 b 1 else Q.2.2.2 b 1
    rw [h2]
    by_cases e : b = Q.1
    · rw [e, updE, if_pos rfl]; exact hw
    · rw [updN e, if_neg e, d3]; exact if_neg e
theorem opL_tr {Code_blocks : Int32} {Code_lines : Int32} {Code_blocks2 : Int32} {Code_first : Nat → Int32} {Code_firstGoal : Nat → Int32} {Code_secondGoal : Nat → Int32} {Code_firstGoal2 : Nat → Int32} {Code_secondGoal2 : Nat → Int32} {o1 : Int32} {o2 : Nat → Int32} {o3 : Nat → Int32} {o4 : Nat → Int32} {li2 : Int32} {fi2 op2 st2 lf2 ln2 rt2 rn2 : Nat → Int32} (h : tr_Code_openLike2 Code_blocks Code_lines Code_blocks2 Code_first Code_firstGoal Code_secondGoal Code_firstGoal2 Code_secondGoal2 o1 o2 o3 o4) (hc2 : cdP Code_blocks2 li2 fi2 Code_firstGoal2 Code_secondGoal2 op2 st2 lf2 ln2 rt2 rn2 P) (hc : cdP Code_blocks Code_lines Code_first Code_firstGoal Code_secondGoal op st lf ln rt rn Q) (hlt : Q.1 < P.1) (h40 : P.1 ≤ 40) : cdP o1 Code_lines o2 o3 o4 op st lf ln rt rn (pgOL P Q) := by
  have c1 := hc.1
  have c2 := hc2.1
  refine h (fun o1 o2 o3 o4 => cdP o1 Code_lines o2 o3 o4 op st lf ln rt rn (pgOL P Q)) ?_ ?_ ?_
  · intro h1
    omega
  · intro x1 x2 x3 x4 x5 h1 h2 h3 h4 h5
    obtain ⟨q1, -⟩ := opB_tr2 h4 hc (by omega)
    omega
  · intro x1 x2 x3 x4 x5 x6 x7 x8 x9 h1 h2 h3 h4 h5 h6 h7 h8 h9
    obtain ⟨q1, q2⟩ := opB_tr2 h4 hc (by omega)
    have e := nnE c1
    rw [e] at h6 h7 h8 h9
    obtain ⟨g0, g1⟩ := (hc2.2.2.1 Q.1 hlt).2
    exact cdP_OL q2 h7 h9 (by rw [h6]; exact g0) (by rw [h8]; exact g1)
theorem bg_tl {Code_blocks : Int32} {Code_firstGoal : Nat → Int32} {Code_secondGoal : Nat → Int32} {Code_first : Nat → Int32} {Code_lines : Int32} {Code_op : Nat → Int32} {Code_set : Nat → Int32} {Code_left : Nat → Int32} {Code_leftNumber : Nat → Int32} {Code_right : Nat → Int32} {Code_rightNumber : Nat → Int32} {c1 : Int32} {c2 : Int32} {c3 : Nat → Int64} {s1 : Int32} {s2 : Int32} {s3 : Int32} {s4 : Int32} {s5 : Nat → Int32} {s6 : Nat → Int32} {s7 : Nat → Int32} {s8 : Nat → Int32} {s9 : Nat → Int32} {s10 : Nat → Int32} {s11 : Nat → Int32} {s12 : Nat → Int32} {s13 : Nat → Int32} {k : Nat} {e1 : Int32} {e2 : Int32} {e3 : Int32} {e4 : Nat → Int32} {e5 : Nat → Int32} {e6 : Nat → Int32} {e7 : Nat → Int32} {e8 : Nat → Int32} {e9 : Nat → Int32} {e10 : Nat → Int32} {e11 : Nat → Int32} {e12 : Nat → Int32} {W : Nat} (hcP : cdP Code_blocks Code_lines Code_first Code_firstGoal Code_secondGoal Code_op Code_set Code_left Code_leftNumber Code_right Code_rightNumber P) (hl : lnO P) (h40 : P.1 ≤ 40) (h200 : fsm P.2.1 P.1 ≤ 200) (hN : c1.toInt = 100) (hW : c2.toInt = (W : Int)) (hT : ∀ v, v < 100 → (gbit c3 (64 * (0 * W) + v) = true ↔ lz P v)) (h : tl_Giver_begin_62 Code_blocks Code_firstGoal Code_secondGoal Code_first Code_lines Code_op Code_set Code_left Code_leftNumber Code_right Code_rightNumber c1 c2 c3 s1 s2 s3 s4 s5 s6 s7 s8 s9 s10 s11 s12 s13 k e1 e2 e3 e4 e5 e6 e7 e8 e9 e10 e11 e12) : ∀ b : Nat, s1.toInt = (b : Int) → b ≤ P.1 → cdP s2 s3 s5 s6 s7 s8 s9 s10 s11 s12 s13 (bgQ P b) → cdP e1 e2 e4 e5 e6 e7 e8 e9 e10 e11 e12 (bgQ P P.1) := by
  have cb := hcP.1
  have ls : ∀ b, b ≤ P.1 → fsm (bgQ P b).2.1 b ≤ 100 + fsm P.2.1 b := fun b => by
    induction b with
    | zero => exact fun _ => Nat.zero_le _
    | succ b ihb =>
      intro hb
      have i1 := ihb (by omega)
      obtain ⟨k1, k2⟩ := bgQ_e (P := P) b (by omega)
      obtain ⟨m1, m2⟩ := bgQ_e (P := P) (b + 1) hb
      have e1 : fsm (bgQ P (b + 1)).2.1 b = fsm (bgQ P b).2.1 b := fsm_c (fun c hc => by rw [(m2 c (by omega)).1, (k2 c hc).1])
      have e2 : (bgQ P (b + 1)).2.1 b = (pgZ P).2.1 b := (m2 b (by omega)).1
      show fsm (bgQ P (b + 1)).2.1 b + (bgQ P (b + 1)).2.1 b ≤ 100 + (fsm P.2.1 b + P.2.1 b)
      rw [e1, e2]
      by_cases e : b = 0
      · have z : (pgZ P).2.1 b = cntP (lz P) 100 + P.2.1 0 := if_pos e
        have c := cntP_le (T := lz P) 100
        rw [z, e]
        show 0 + (cntP (lz P) 100 + P.2.1 0) ≤ 100 + (0 + P.2.1 0)
        omega
      · have z : (pgZ P).2.1 b = P.2.1 b := if_neg e
        rw [z]; omega
  refine h (fun s1 s2 s3 _ s5 s6 s7 s8 s9 s10 s11 s12 s13 _ e1 e2 _ e4 e5 e6 e7 e8 e9 e10 e11 e12 => ∀ b : Nat, s1.toInt = (b : Int) → b ≤ P.1 → cdP s2 s3 s5 s6 s7 s8 s9 s10 s11 s12 s13 (bgQ P b) → cdP e1 e2 e4 e5 e6 e7 e8 e9 e10 e11 e12 (bgQ P P.1)) ?_ ?_ ?_
  · intro l2_1 Code_blocks_1 Code_lines_1 Code_isFull_1 Code_first_1 Code_firstGoal_1 Code_secondGoal_1 Code_op_1 Code_set_1 Code_left_1 Code_leftNumber_1 Code_right_1 Code_rightNumber_1 h1 h2 h3 h4 h5
    intro b hb hbP hc
    have e : b = P.1 := by omega
    rw [e] at hc; exact hc
  · intro l2_1 Code_blocks_1 Code_lines_1 Code_isFull_1 Code_first_1 Code_firstGoal_1 Code_secondGoal_1 Code_op_1 Code_set_1 Code_left_1 Code_leftNumber_1 Code_right_1 Code_rightNumber_1 x1 x2 x3 x4 x5 x6 x7 x8 x9 x10 x11 x12 x13 x14 k e1 e2 e3 e4 e5 e6 e7 e8 e9 e10 e11 e12 h1 h2 h3 h4 h5 h6 h7 h8 h9 h10 h11 h12 ih
    intro b hb hbP hc
    have hb2 : b < P.1 := by omega
    obtain ⟨k1, k2⟩ := bgQ_e (P := P) b (by omega)
    have lsb := ls b (by omega)
    have c2 := hc.2.1
    rw [k1] at c2
    have op := opL_tr h7 hcP hc (by rw [k1]; exact hb2) h40
    have hQ : 0 < (pgOL P (bgQ P b)).1 := Nat.succ_pos _
    have f1 := fsm_mo (l := P.2.1) (show b + 1 ≤ P.1 from hb2)
    have f2 : fsm P.2.1 (b + 1) = fsm P.2.1 b + P.2.1 b := rfl
    rw [nnE hb] at h9
    refine ih (b + 1) (by omega) (by omega) ?_
    have e0 : b ≠ 0 := by omega
    have r := bl_tl hcP hl hQ hb hb2 h11 0 (Nat.zero_le _) (by rw [h9]; exact (hcP.2.2.1 b hb2).1) (by omega) op
    have e : bgQ P (b + 1) = cpB P (pgOL P (bgQ P b)) b (P.2.1 b) := by
      show cpB P (@ite gPg (b = 0) (Classical.propDecidable (b = 0)) (zrF (lz P) (pgOL P (bgQ P b)) 100) (pgOL P (bgQ P b))) b (P.2.1 b) = _
      rw [if_neg e0]
    rw [e]; exact r
  · intro l2_1 Code_blocks_1 Code_lines_1 Code_isFull_1 Code_first_1 Code_firstGoal_1 Code_secondGoal_1 Code_op_1 Code_set_1 Code_left_1 Code_leftNumber_1 Code_right_1 Code_rightNumber_1 x1 x2 x3 x4 x5 x6 x7 x8 x9 x10 x11 x12 x13 x14 x15 x16 x17 x18 x19 x20 x21 x22 k e1 e2 e3 e4 e5 e6 e7 e8 e9 e10 e11 e12 h1 h2 h3 h4 h5 h6 h7 h8 h9 h10 h11 h12 h13 h14 h15 ih
    intro b hb hbP hc
    have hb2 : b < P.1 := by omega
    obtain ⟨k1, k2⟩ := bgQ_e (P := P) b (by omega)
    have lsb := ls b (by omega)
    have c2 := hc.2.1
    rw [k1] at c2
    have op := opL_tr h7 hcP hc (by rw [k1]; exact hb2) h40
    have hQ : 0 < (pgOL P (bgQ P b)).1 := Nat.succ_pos _
    have f1 := fsm_mo (l := P.2.1) (show b + 1 ≤ P.1 from hb2)
    have f2 : fsm P.2.1 (b + 1) = fsm P.2.1 b + P.2.1 b := rfl
    rw [nnE hb] at h12
    refine ih (b + 1) (by omega) (by omega) ?_
    have e0 : b = 0 := by omega
    have z := sz2_tr hQ hN hW hT h11 (by have l0 : fsm (bgQ P b).2.1 b = 0 := (by rw [e0]; rfl); omega) op
    have zl := z.2.1
    have zq : 0 < (zrF (lz P) (pgOL P (bgQ P b)) 100).1 := by rw [(zrF_f (T := lz P) (Q := pgOL P (bgQ P b)) 100 (Nat.le_refl _)).1]; exact hQ
    have r := bl_tl_2 hcP hl zq hb hb2 h14 0 (Nat.zero_le _) (by rw [h12]; exact (hcP.2.2.1 b hb2).1) ?_ z
    · have e : bgQ P (b + 1) = cpB P (zrF (lz P) (pgOL P (bgQ P b)) 100) b (P.2.1 b) := by
        show cpB P (@ite gPg (b = 0) (Classical.propDecidable (b = 0)) (zrF (lz P) (pgOL P (bgQ P b)) 100) (pgOL P (bgQ P b))) b (P.2.1 b) = _
        rw [if_pos e0]
      rw [e]; exact r
    · have zf := zrF_f (T := lz P) (Q := pgOL P (bgQ P b)) 100 (Nat.le_refl _)
      have q1 : (pgOL P (bgQ P b)).1 = b + 1 := by show (bgQ P b).1 + 1 = b + 1; rw [k1]
      have q2 := zf.2.2.2 b q1.symm
      have q3 : (pgOL P (bgQ P b)).2.1 b = 0 := if_pos k1.symm
      rw [zf.1, q1] at zl
      have q4 : fsm (zrF (lz P) (pgOL P (bgQ P b)) 100).2.1 (b + 1) = fsm (zrF (lz P) (pgOL P (bgQ P b)) 100).2.1 b + (zrF (lz P) (pgOL P (bgQ P b)) 100).2.1 b := rfl
      have q5 : fsm (zrF (lz P) (pgOL P (bgQ P b)) 100).2.1 b = 0 := by rw [e0]; rfl
      have cz := cntP_le (T := lz P) 100
      rw [q4, q5, q2.1, q3] at zl
      omega
theorem bg_tr {Code_blocks : Int32} {Code_lines : Int32} {Giver_slotOf : Nat → Int32} {Code_first : Nat → Int32} {Code_firstGoal : Nat → Int32} {Code_secondGoal : Nat → Int32} {Code_op : Nat → Int32} {Code_set : Nat → Int32} {Code_left : Nat → Int32} {Code_leftNumber : Nat → Int32} {Code_right : Nat → Int32} {Code_rightNumber : Nat → Int32} {Code_first2 : Nat → Int32} {Code_firstGoal2 : Nat → Int32} {Code_secondGoal2 : Nat → Int32} {Code_op2 : Nat → Int32} {Code_set2 : Nat → Int32} {Code_left2 : Nat → Int32} {Code_leftNumber2 : Nat → Int32} {Code_right2 : Nat → Int32} {Code_rightNumber2 : Nat → Int32} {Live_in : Nat → Int64} {Live_used : Nat → Int64} {Live_set : Nat → Int64} {Live_now : Nat → Int64} {o1 : Int32} {o2 : Int32} {o3 : Int32} {o4 : Int32} {o5 : Int32} {o6 : Int32} {o7 : Nat → Int32} {o8 : Int32} {o9 : Int32} {o10 : Int32} {o11 : Int32} {o12 : Int32} {o13 : Int32} {o14 : Nat → Int32} {o15 : Nat → Int32} {o16 : Nat → Int32} {o17 : Nat → Int32} {o18 : Nat → Int32} {o19 : Nat → Int32} {o20 : Nat → Int32} {o21 : Nat → Int32} {o22 : Nat → Int32} {o23 : Nat → Int64} {o24 : Nat → Int64} {o25 : Nat → Int64} {o26 : Nat → Int64} (hcP : cdP Code_blocks Code_lines Code_first Code_firstGoal Code_secondGoal Code_op Code_set Code_left Code_leftNumber Code_right Code_rightNumber P) (hl : lnO P) (h40 : P.1 ≤ 40) (h0 : 0 < P.1) (h200 : fsm P.2.1 P.1 ≤ 200) (h : tr_Giver_begin Code_blocks Code_lines Giver_slotOf Code_first Code_firstGoal Code_secondGoal Code_op Code_set Code_left Code_leftNumber Code_right Code_rightNumber Code_first2 Code_firstGoal2 Code_secondGoal2 Code_op2 Code_set2 Code_left2 Code_leftNumber2 Code_right2 Code_rightNumber2 Live_in Live_used Live_set Live_now o1 o2 o3 o4 o5 o6 o7 o8 o9 o10 o11 o12 o13 o14 o15 o16 o17 o18 o19 o20 o21 o22 o23 o24 o25 o26) : o1 = 100 ∧ cdP o8 o9 o14 o15 o16 o17 o18 o19 o20 o21 o22 (pgZ P) ∧ o12.toInt = 2 ∧ (∀ c v, c < P.1 → v < 128 → (gbit o23 (64 * (c * 2) + v) = true ↔ v < 100 ∧ Lv P false v c 0)) := by
  refine h (fun o1 o2 o3 o4 o5 o6 o7 o8 o9 o10 o11 o12 o13 o14 o15 o16 o17 o18 o19 o20 o21 o22 o23 o24 o25 o26 => o1 = 100 ∧ cdP o8 o9 o14 o15 o16 o17 o18 o19 o20 o21 o22 (pgZ P) ∧ o12.toInt = 2 ∧ (∀ c v, c < P.1 → v < 128 → (gbit o23 (64 * (c * 2) + v) = true ↔ v < 100 ∧ Lv P false v c 0))) ?_
  · intro x1 x2 x3 x4 x5 x6 x7 x8 x9 x10 x11 x12 x13 x14 x15 x16 x17 x18 x19 x20 x21 x22 x23 h1 h2 h3 h4 h5 h6 h7 h8 h9 h10
    obtain ⟨e1, e2, e3, eI, -⟩ := so_tr (Nm := 100) (sl := false) hcP (by decide) (by decide) (by decide) h5
    have e2' : x3.toInt = ((2 : Nat) : Int) := e2
    have hT : ∀ v, v < 100 → (gbit x5 (64 * (0 * 2) + v) = true ↔ lz P v) := fun v hv => by
      have q := eI 0 v h0 (by omega)
      exact ⟨fun z => (q.mp z).2, fun z => q.mpr ⟨hv, z⟩⟩
    have z9 : x9.toInt = 0 := by have a := h6.1; have b := h6.2; omega
    have z10 : x10.toInt = 0 := by have a := h7.1; have b := h7.2; omega
    refine ⟨rfl, ?_, e2, eI⟩
    exact cdP_c bgQ_Z (bg_tl hcP hl h40 h200 e1 e2' hT h10 0 (by decide) (Nat.zero_le _) (cdP_O z9 z10))
theorem lw_tl {Live_words : Int32} {a1 : Int32} {Live_in : Nat → Int64} {s1 : Int32} {s2 : Int32} {k : Nat} {e1 : Int32} {v W : Nat} (hW : Live_words.toInt = (W : Int)) (hW2 : W ≤ 32) (hv : a1.toInt = (v : Int)) (h : tl_Live_liveBefore_4 Live_words a1 Live_in s1 s2 k e1) : ∀ m : Nat, s1.toInt = (m : Int) → m ≤ W → 0 ≤ s2.toInt → s2.toInt ≤ 127 * (m : Int) → s2.toInt = bsm Live_in (v * W) m → e1.toInt = bsm Live_in (v * W) W := by
  refine h (fun s1 s2 _ e1 => ∀ m : Nat, s1.toInt = (m : Int) → m ≤ W → 0 ≤ s2.toInt → s2.toInt ≤ 127 * (m : Int) → s2.toInt = bsm Live_in (v * W) m → e1.toInt = bsm Live_in (v * W) W) ?_ ?_
  · intro l3_1 l2_1 h1 h2
    intro m hm hmW _ _ hs
    have e : m = W := by omega
    rw [e] at hs; exact hs
  · intro l3_1 l2_1 x1 x2 x3 x4 x5 x6 k e1 h1 h2 h3 h4 h5 h6 h7 h8 h9 ih
    intro m hm hmW h0 hL hs
    have b1 := h6.1
    have b2 := h6.2
    have ep : x1.toInt = ((v * W : Nat) : Int) := by rw [h3, hv, hW]; exact (Int.natCast_mul _ _).symm
    have e2 : x2.toNatClampNeg = v * W + m := nnE (by omega)
    rw [e2] at h5
    have e4 := bc_tr h7
    rw [h5] at e4
    have e5 : x5.toInt = l2_1.toInt + x4.toInt := px_add h8 (by omega) (by omega)
    refine ih (m + 1) (by omega) (by omega) (by omega) (by omega) ?_
    show x5.toInt = bsm Live_in (v * W) m + (lb_bc (Live_in (v * W + m))).toInt
    rw [← e4, ← hs, e5]
theorem lwb_tr {a1 : Int32} {Live_words : Int32} {Live_in : Nat → Int64} {o1 : Int32} {v W : Nat} (hW : Live_words.toInt = (W : Int)) (hW2 : W ≤ 32) (hv : a1.toInt = (v : Int)) (h : tr_Live_liveBefore a1 Live_words Live_in o1) : o1.toInt = bsm Live_in (v * W) W := by
  refine h (fun o1 => o1.toInt = bsm Live_in (v * W) W) ?_
  · intro x1 h1
    exact lw_tl hW hW2 hv h1 0 (by decide) (Nat.zero_le _) (by decide) (by decide) px_0
theorem sv7_tl {Code_blocks : Int32} {c1 : Int32} {c2 : Nat → Int64} {s1 : Int32} {s2 : Nat → Int32} {k : Nat} {e1 : Nat → Int32} (hn : Code_blocks.toInt = (P.1 : Int)) (hW : c1.toInt = 2) (h : tl_Giver_survey_7 Code_blocks c1 c2 s1 s2 k e1) : ∀ m : Nat, s1.toInt = (m : Int) → ∀ b, b < P.1 → (b < m → e1 b = s2 b) ∧ (m ≤ b → (e1 b).toInt = bsm c2 (b * 2) 2) := by
  refine h (fun s1 s2 _ e1 => ∀ m : Nat, s1.toInt = (m : Int) → ∀ b, b < P.1 → (b < m → e1 b = s2 b) ∧ (m ≤ b → (e1 b).toInt = bsm c2 (b * 2) 2)) ?_ ?_
  · intro l2_1 Giver_liveBefore_1 h1 h2
    intro m hm b hb
    exact ⟨fun _ => rfl, fun z => by omega⟩
  · intro l2_1 Giver_liveBefore_1 x1 x2 x3 k e1 h1 h2 h3 h4 h5 ih
    intro m hm b hb
    obtain ⟨i1, i2⟩ := ih (m + 1) (by omega) b hb
    rw [nnE hm] at h4
    refine ⟨fun z => by rw [i1 (by omega), h4, updN (by omega)], fun z => ?_⟩
    by_cases e : b = m
    · rw [i1 (by omega), h4, e, updE]
      exact lwb_tr (W := 2) hW (by decide) hm h3
    · exact i2 (by omega)
theorem sdS_tr {a nm r : Int32} {f : Nat → Int64} {m Nm : Nat} (h : tr_Graph_stands a nm f r) (ha : a.toInt = (m : Int)) (hm : m < Nm) (hN : nm.toInt = (Nm : Int)) : (r.toInt = 1 ∧ gbit f m = true) ∨ (r.toInt = 0 ∧ gbit f m = false) := by
  refine h (fun r => (r.toInt = 1 ∧ gbit f m = true) ∨ (r.toInt = 0 ∧ gbit f m = false)) ?_ ?_ ?_ ?_
  · intro h1
    omega
  · intro h1 h2
    omega
  · intro x1 x2 x3 x4 h1 h2 h3 h4 h5 h6 h7
    have t := tst_bit (f := f) (a := 0) (m := m) (i := x1) (by omega) ha h4 h5 h6
    rw [show 64 * 0 + m = m by omega] at t
    exact Or.inr ⟨px_0, t.mp h7⟩
  · intro x1 x2 x3 x4 h1 h2 h3 h4 h5 h6 h7
    have t := tst_bit (f := f) (a := 0) (m := m) (i := x1) (by omega) ha h4 h5 h6
    rw [show 64 * 0 + m = m by omega] at t
    exact Or.inl ⟨px_1, eq_true_of_ne_false (fun z => h7 (t.mpr z))⟩
theorem cwt_tr {a r : Int32} {f : Nat → Int32} {m : Nat} (h : tr_Colouring_weight a f r) (ha : a.toInt = (m : Int)) (hm : m < 720) : r = f m := by
  refine h (fun r => r = f m) ?_ ?_ ?_
  · intro h1
    omega
  · intro h1 h2
    omega
  · intro x1 h1 h2 h3
    rw [nnE ha] at h3; exact h3
theorem sv71_tl {c1 : Nat → Int32} {c2 : Int32} {c3 : Nat → Int64} {c4 : Nat → Int32} {s1 : Int32} {s2 : Nat → Int32} {s3 : Nat → Int32} {k : Nat} {e1 : Nat → Int32} {e2 : Nat → Int32} (hN : c2.toInt = 100) (h : tl_Giver_survey_71 c1 c2 c3 c4 s1 s2 s3 k e1 e2) : ∀ m : Nat, s1.toInt = (m : Int) → ∀ v, v < 100 → (v < m → e1 v = s2 v ∧ e2 v = s3 v) ∧ (m ≤ v → e1 v = c1 v ∧ (gbit c3 v = true → e2 v = c4 v) ∧ (gbit c3 v = false → e2 v = -1)) := by
  refine h (fun s1 s2 s3 _ e1 e2 => ∀ m : Nat, s1.toInt = (m : Int) → ∀ v, v < 100 → (v < m → e1 v = s2 v ∧ e2 v = s3 v) ∧ (m ≤ v → e1 v = c1 v ∧ (gbit c3 v = true → e2 v = c4 v) ∧ (gbit c3 v = false → e2 v = -1))) ?_ ?_ ?_
  · intro l2_1 Giver_firstWeight_1 Giver_firstDegree_1 h1 h2
    intro m hm v hv
    exact ⟨fun _ => ⟨rfl, rfl⟩, fun z => by omega⟩
  · intro l2_1 Giver_firstWeight_1 Giver_firstDegree_1 x1 x2 x3 x4 k e1 e2 h1 h2 h3 h4 h5 h6 h7 ih
    intro m hm v hv
    obtain ⟨i1, i2⟩ := ih (m + 1) (by omega) v hv
    rw [nnE hm] at h4 h6
    have sd := sdS_tr (Nm := 100) h5 hm (by omega) hN
    have cw := cwt_tr h3 hm (by omega)
    refine ⟨fun z => ?_, fun z => ?_⟩
    · rw [(i1 (by omega)).1, (i1 (by omega)).2, h4, h6, updN (by omega), updN (by omega)]
      exact ⟨rfl, rfl⟩
    · by_cases e : v = m
      · rw [(i1 (by omega)).1, (i1 (by omega)).2, h4, h6, e, updE, updE]
        rcases sd with ⟨sd, -⟩ | ⟨-, sd⟩
        · exact absurd sd (by decide)
        · exact ⟨cw, fun q => (by rw [sd] at q; cases q), fun _ => rfl⟩
      · exact i2 (by omega)
  · intro l2_1 Giver_firstWeight_1 Giver_firstDegree_1 x1 x2 x3 x4 x5 k e1 e2 h1 h2 h3 h4 h5 h6 h7 h8 ih
    intro m hm v hv
    obtain ⟨i1, i2⟩ := ih (m + 1) (by omega) v hv
    rw [nnE hm] at h4 h7
    have sd := sdS_tr (Nm := 100) h5 hm (by omega) hN
    have cw := cwt_tr h3 hm (by omega)
    refine ⟨fun z => ?_, fun z => ?_⟩
    · rw [(i1 (by omega)).1, (i1 (by omega)).2, h4, h7, updN (by omega), updN (by omega)]
      exact ⟨rfl, rfl⟩
    · by_cases e : v = m
      · rw [(i1 (by omega)).1, (i1 (by omega)).2, h4, h7, e, updE, updE]
        rcases sd with ⟨-, sd⟩ | ⟨sd, -⟩
        · exact ⟨cw, fun _ => by rw [h6, nnE hm], fun q => (by rw [sd] at q; cases q)⟩
        · exact absurd sd (by decide)
      · exact i2 (by omega)
/-- what look is asked for -/
def lkS (P : gPg) (dep fw fd lb : Nat → Int32) : Prop :=
  (∀ b, b < P.1 → (dep b).toInt = (dpt P b : Int)) ∧ (∀ b, b < P.1 → isD (fun v => v < 100 ∧ Lv P false v b 0) 2 (lb b).toInt) ∧
  ∀ v, v < 100 → fw v = wPg (pgZ P) (dpt P) v P.1 ∧ (Sd (pgZ P) false 100 v → isD (Jn (pgZ P) false 100 v) 2 (fd v).toInt) ∧ (¬ Sd (pgZ P) false 100 v → fd v = -1)
theorem sv_tr {Code_blocks : Int32} {Code_lines : Int32} {Giver_firstWeight : Nat → Int32} {Giver_firstDegree : Nat → Int32} {Giver_liveBefore : Nat → Int32} {Giver_slotOf : Nat → Int32} {Code_first : Nat → Int32} {Code_firstGoal : Nat → Int32} {Code_secondGoal : Nat → Int32} {Code_op : Nat → Int32} {Code_set : Nat → Int32} {Code_left : Nat → Int32} {Code_leftNumber : Nat → Int32} {Code_right : Nat → Int32} {Code_rightNumber : Nat → Int32} {Loops_depth : Nat → Int32} {Graph_joined : Nat → Int64} {Graph_standing : Nat → Int64} {Graph_degree : Nat → Int32} {Colouring_weight : Nat → Int32} {Code_first2 : Nat → Int32} {Code_firstGoal2 : Nat → Int32} {Code_secondGoal2 : Nat → Int32} {Code_op2 : Nat → Int32} {Code_set2 : Nat → Int32} {Code_left2 : Nat → Int32} {Code_leftNumber2 : Nat → Int32} {Code_right2 : Nat → Int32} {Code_rightNumber2 : Nat → Int32} {Live_in : Nat → Int64} {Live_used : Nat → Int64} {Live_set : Nat → Int64} {Live_now : Nat → Int64} {o1 : Int32} {o2 : Int32} {o3 : Int32} {o4 : Int32} {o5 : Int32} {o6 : Int32} {o7 : Int32} {o8 : Int32} {o9 : Nat → Int32} {o10 : Nat → Int32} {o11 : Nat → Int32} {o12 : Nat → Int32} {o13 : Int32} {o14 : Int32} {o15 : Int32} {o16 : Int32} {o17 : Int32} {o18 : Int32} {o19 : Nat → Int64} {o20 : Nat → Int64} {o21 : Nat → Int32} {o22 : Nat → Int32} {o23 : Nat → Int32} {o24 : Nat → Int32} {o25 : Nat → Int32} {o26 : Nat → Int32} {o27 : Nat → Int32} {o28 : Nat → Int32} {o29 : Nat → Int32} {o30 : Nat → Int32} {o31 : Nat → Int32} {o32 : Nat → Int64} {o33 : Nat → Int64} {o34 : Nat → Int64} {o35 : Nat → Int64} (hcP : cdP Code_blocks Code_lines Code_first Code_firstGoal Code_secondGoal Code_op Code_set Code_left Code_leftNumber Code_right Code_rightNumber P) (hl : lnO P) (h40 : P.1 ≤ 40) (h0 : 0 < P.1) (h200 : fsm P.2.1 P.1 ≤ 200) (hdp : ∀ b, b < P.1 → (Loops_depth b).toInt = (dpt P b : Int)) (h : tr_Giver_survey Code_blocks Code_lines Giver_firstWeight Giver_firstDegree Giver_liveBefore Giver_slotOf Code_first Code_firstGoal Code_secondGoal Code_op Code_set Code_left Code_leftNumber Code_right Code_rightNumber Loops_depth Graph_joined Graph_standing Graph_degree Colouring_weight Code_first2 Code_firstGoal2 Code_secondGoal2 Code_op2 Code_set2 Code_left2 Code_leftNumber2 Code_right2 Code_rightNumber2 Live_in Live_used Live_set Live_now o1 o2 o3 o4 o5 o6 o7 o8 o9 o10 o11 o12 o13 o14 o15 o16 o17 o18 o19 o20 o21 o22 o23 o24 o25 o26 o27 o28 o29 o30 o31 o32 o33 o34 o35) : lkS P Loops_depth o9 o10 o11 := by
  refine h (fun o1 o2 o3 o4 o5 o6 o7 o8 o9 o10 o11 o12 o13 o14 o15 o16 o17 o18 o19 o20 o21 o22 o23 o24 o25 o26 o27 o28 o29 o30 o31 o32 o33 o34 o35 => lkS P Loops_depth o9 o10 o11) ?_
  · intro x1 x2 x3 x4 x5 x6 x7 x8 x9 x10 x11 x12 x13 x14 x15 x16 x17 x18 x19 x20 x21 x22 x23 x24 x25 x26 x27 x28 x29 x30 x31 x32 x33 x34 x35 x36 x37 x38 x39 x40 x41 x42 h1 h2 h3 h4 h5 h6 h7 h8 h9 h10 h11 h12 h13 h14 h15 h16 h17 h18 h19 h20 h21 h22
    obtain ⟨b1, b2, b3, b4⟩ := bg_tr hcP hl h40 h0 h200 h13
    obtain ⟨g1, g2, -, -, gJ, gS, gD, -⟩ := gb_tr (Nm := 100) (sl := false) b2 (by rw [b1]; decide) (by decide) (by decide) h20
    have wv := wg_tr (dp := dpt P) b2 h40 hdp h21
    have s7 := sv7_tl hcP.1 b3 h14 0 (by decide)
    have s71 := sv71_tl g1 h22 0 (by decide)
    refine ⟨hdp, fun b hb => ?_, fun v hv => ?_⟩
    · exact ⟨x23, b * 2, fun v hv => b4 b v hb hv, (s7 b hb).2 (Nat.zero_le _)⟩
    · obtain ⟨r1, r2, r3⟩ := (s71 v hv).2 (Nat.zero_le _)
      have gs := gS v (by omega)
      refine ⟨by rw [r1, wv v (by omega)]; rfl, fun z => ?_, fun z => r3 (Bool.eq_false_iff.mpr (fun q => z (gs.mp q)))⟩
      rw [r2 (gs.mpr z)]
      exact gD v hv
end BGC
