/-! names by colours, slots shared: the class -/
section FNC
variable {P R : gPg} {J : Nat → Nat → Prop} {col : Nat → Int} {sl Nm W v u s i : Nat}
def nI7 (k : Int) (p : Nat → Int32) (a : Int32) : Int32 := if 0 ≤ a.toInt ∧ a.toInt < k then p a.toNatClampNeg else a
theorem nmi_x {a1 : Int32} {p : Nat → Int32} {o1 : Int32} (h : tr_Code_nameIn a1 p o1) : o1 = nI7 720 p a1 := by
  unfold nI7
  refine h (fun o1 => o1 = if 0 ≤ a1.toInt ∧ a1.toInt < 720 then p a1.toNatClampNeg else a1) ?_ ?_ ?_
  · intro h1
    rw [if_neg (fun z => by omega)]
  · intro h1 h2
    rw [if_neg (fun z => by omega)]
  · intro x1 h1 h2 h3
    rw [if_pos ⟨h1, h2⟩]; exact h3
theorem nmi_y {a1 : Int32} {p : Nat → Int32} {o1 : Int32} (h : tr_Code_nameIn2 a1 p o1) : o1 = nI7 100 p a1 := by
  unfold nI7
  refine h (fun o1 => o1 = if 0 ≤ a1.toInt ∧ a1.toInt < 100 then p a1.toNatClampNeg else a1) ?_ ?_ ?_
  · intro h1
    rw [if_neg (fun z => by omega)]
  · intro h1 h2
    rw [if_neg (fun z => by omega)]
  · intro x1 h1 h2 h3
    rw [if_pos ⟨h1, h2⟩]; exact h3
theorem nI_c {k : Int} {p : Nat → Int32} {a : Int32} {x : Int} {K : Nat} (hp : ∀ u, u < K → (p u).toInt = col u) (hk : k = (K : Int)) (ha : a.toInt = x) (hx : x < k) : (nI7 k p a).toInt = cM col x := by
  unfold nI7 cM
  by_cases c : 0 ≤ x
  · rw [if_pos ⟨by omega, by omega⟩, if_pos c, nnE (show a.toInt = ((x.toNat : Nat) : Int) by omega)]
    exact hp _ (by omega)
  · rw [if_neg (fun z => by omega), if_neg c]; exact ha
theorem rnm_tl {Code_lines : Int32} {c1 : Nat → Int32} {s1 : Int32} {s2 : Nat → Int32} {s3 : Nat → Int32} {s4 : Nat → Int32} {k : Nat} {e1 : Nat → Int32} {e2 : Nat → Int32} {e3 : Nat → Int32} {x y z : Int32} (hi : (i : Int) < Code_lines.toInt) (h : tl_Code_rename_2 Code_lines c1 s1 s2 s3 s4 k e1 e2 e3) : ∀ m : Nat, s1.toInt = (m : Int) → ((m ≤ i → s2 i = x) → (i < m → s2 i = nI7 720 c1 x) → e1 i = nI7 720 c1 x) ∧ ((m ≤ i → s3 i = y) → (i < m → s3 i = nI7 720 c1 y) → e2 i = nI7 720 c1 y) ∧ ((m ≤ i → s4 i = z) → (i < m → s4 i = nI7 720 c1 z) → e3 i = nI7 720 c1 z) := by
  refine h (fun s1 s2 s3 s4 k e1 e2 e3 => ∀ m : Nat, s1.toInt = (m : Int) → ((m ≤ i → s2 i = x) → (i < m → s2 i = nI7 720 c1 x) → e1 i = nI7 720 c1 x) ∧ ((m ≤ i → s3 i = y) → (i < m → s3 i = nI7 720 c1 y) → e2 i = nI7 720 c1 y) ∧ ((m ≤ i → s4 i = z) → (i < m → s4 i = nI7 720 c1 z) → e3 i = nI7 720 c1 z)) ?_ ?_ ?_ ?_ ?_ ?_ ?_ ?_ ?_
  · intro l2_1 Code_set_1 Code_left_1 Code_right_1 h1 h2
    intro m hm
    exact ⟨fun _ q => q (by omega), fun _ q => q (by omega), fun _ q => q (by omega)⟩
  · intro l2_1 Code_set_1 Code_left_1 Code_right_1 x1 x2 x3 x4 x5 x6 x7 k e1 e2 e3 h1 h2 h3 h4 h5 h6 h7 h8 h9 h10 h11 h12 ih
    intro m hm
    obtain ⟨i1, i2, i3⟩ := ih (m + 1) (by rw [h12]; omega)
    have em : l2_1.toNatClampNeg = m := nnE hm
    refine ⟨?_, ?_, ?_⟩
    · refine fun q1 q2 => i1 (fun e => ?_) (fun e => ?_)
      · rw [h5, em, updN (by omega)]; exact q1 (by omega)
      · rw [h5, em]
        by_cases c : i = m
        · rw [c, updE, nmi_x h4, h3, em, ← c, q1 (by omega)]
        · rw [updN c]; exact q2 (by omega)
    · refine fun q1 q2 => i2 (fun e => ?_) (fun e => ?_)
      · rw [h8, em, updN (by omega)]; exact q1 (by omega)
      · rw [h8, em]
        by_cases c : i = m
        · rw [c, updE, nmi_x h7, h6, em, ← c, q1 (by omega)]
        · rw [updN c]; exact q2 (by omega)
    · refine fun q1 q2 => i3 (fun e => ?_) (fun e => ?_)
      · rw [h11, em, updN (by omega)]; exact q1 (by omega)
      · rw [h11, em]
        by_cases c : i = m
        · rw [c, updE, nmi_x h10, h9, em, ← c, q1 (by omega)]
        · rw [updN c]; exact q2 (by omega)
  · intro l2_1 Code_set_1 Code_left_1 Code_right_1 x1 x2 x3 x4 x5 x6 x7 x8 k e1 e2 e3 h1 h2 h3 h4 h5 h6 h7 h8 h9 h10 h11 h12 ih
    intro m hm
    obtain ⟨i1, i2, i3⟩ := ih (m + 1) (by rw [h12]; omega)
    have em : l2_1.toNatClampNeg = m := nnE hm
    refine ⟨?_, ?_, ?_⟩
    · refine fun q1 q2 => i1 (fun e => ?_) (fun e => ?_)
      · rw [h5, em, updN (by omega)]; exact q1 (by omega)
      · rw [h5, em]
        by_cases c : i = m
        · rw [c, updE, nmi_x h4, h3, em, ← c, q1 (by omega)]
        · rw [updN c]; exact q2 (by omega)
    · refine fun q1 q2 => i2 (fun e => ?_) (fun e => ?_)
      · rw [h8, em, updN (by omega)]; exact q1 (by omega)
      · rw [h8, em]
        by_cases c : i = m
        · rw [c, updE, nmi_x h7, h6, em, ← c, q1 (by omega)]
        · rw [updN c]; exact q2 (by omega)
    · refine fun q1 q2 => i3 (fun e => ?_) (fun e => ?_)
      · rw [h11, em, updN (by omega)]; exact q1 (by omega)
      · rw [h11, em]
        by_cases c : i = m
        · rw [c, updE, nmi_x h10, h9, em, ← c, q1 (by omega)]
        · rw [updN c]; exact q2 (by omega)
  · intro l2_1 Code_set_1 Code_left_1 Code_right_1 x1 x2 x3 x4 x5 x6 x7 x8 k e1 e2 e3 h1 h2 h3 h4 h5 h6 h7 h8 h9 h10 h11 h12 ih
    intro m hm
    obtain ⟨i1, i2, i3⟩ := ih (m + 1) (by rw [h12]; omega)
    have em : l2_1.toNatClampNeg = m := nnE hm
    refine ⟨?_, ?_, ?_⟩
    · refine fun q1 q2 => i1 (fun e => ?_) (fun e => ?_)
      · rw [h5, em, updN (by omega)]; exact q1 (by omega)
      · rw [h5, em]
        by_cases c : i = m
        · rw [c, updE, nmi_x h4, h3, em, ← c, q1 (by omega)]
        · rw [updN c]; exact q2 (by omega)
    · refine fun q1 q2 => i2 (fun e => ?_) (fun e => ?_)
      · rw [h8, em, updN (by omega)]; exact q1 (by omega)
      · rw [h8, em]
        by_cases c : i = m
        · rw [c, updE, nmi_x h7, h6, em, ← c, q1 (by omega)]
        · rw [updN c]; exact q2 (by omega)
    · refine fun q1 q2 => i3 (fun e => ?_) (fun e => ?_)
      · rw [h11, em, updN (by omega)]; exact q1 (by omega)
      · rw [h11, em]
        by_cases c : i = m
        · rw [c, updE, nmi_x h10, h9, em, ← c, q1 (by omega)]
        · rw [updN c]; exact q2 (by omega)
  · intro l2_1 Code_set_1 Code_left_1 Code_right_1 x1 x2 x3 x4 x5 x6 x7 x8 x9 k e1 e2 e3 h1 h2 h3 h4 h5 h6 h7 h8 h9 h10 h11 h12 ih
    intro m hm
    obtain ⟨i1, i2, i3⟩ := ih (m + 1) (by rw [h12]; omega)
    have em : l2_1.toNatClampNeg = m := nnE hm
    refine ⟨?_, ?_, ?_⟩
    · refine fun q1 q2 => i1 (fun e => ?_) (fun e => ?_)
      · rw [h5, em, updN (by omega)]; exact q1 (by omega)
      · rw [h5, em]
        by_cases c : i = m
        · rw [c, updE, nmi_x h4, h3, em, ← c, q1 (by omega)]
        · rw [updN c]; exact q2 (by omega)
    · refine fun q1 q2 => i2 (fun e => ?_) (fun e => ?_)
      · rw [h8, em, updN (by omega)]; exact q1 (by omega)
      · rw [h8, em]
        by_cases c : i = m
        · rw [c, updE, nmi_x h7, h6, em, ← c, q1 (by omega)]
        · rw [updN c]; exact q2 (by omega)
    · refine fun q1 q2 => i3 (fun e => ?_) (fun e => ?_)
      · rw [h11, em, updN (by omega)]; exact q1 (by omega)
      · rw [h11, em]
        by_cases c : i = m
        · rw [c, updE, nmi_x h10, h9, em, ← c, q1 (by omega)]
        · rw [updN c]; exact q2 (by omega)
  · intro l2_1 Code_set_1 Code_left_1 Code_right_1 x1 x2 x3 x4 x5 x6 x7 x8 k e1 e2 e3 h1 h2 h3 h4 h5 h6 h7 h8 h9 h10 h11 h12 ih
    intro m hm
    obtain ⟨i1, i2, i3⟩ := ih (m + 1) (by rw [h12]; omega)
    have em : l2_1.toNatClampNeg = m := nnE hm
    refine ⟨?_, ?_, ?_⟩
    · refine fun q1 q2 => i1 (fun e => ?_) (fun e => ?_)
      · rw [h5, em, updN (by omega)]; exact q1 (by omega)
      · rw [h5, em]
        by_cases c : i = m
        · rw [c, updE, nmi_x h4, h3, em, ← c, q1 (by omega)]
        · rw [updN c]; exact q2 (by omega)
    · refine fun q1 q2 => i2 (fun e => ?_) (fun e => ?_)
      · rw [h8, em, updN (by omega)]; exact q1 (by omega)
      · rw [h8, em]
        by_cases c : i = m
        · rw [c, updE, nmi_x h7, h6, em, ← c, q1 (by omega)]
        · rw [updN c]; exact q2 (by omega)
    · refine fun q1 q2 => i3 (fun e => ?_) (fun e => ?_)
      · rw [h11, em, updN (by omega)]; exact q1 (by omega)
      · rw [h11, em]
        by_cases c : i = m
        · rw [c, updE, nmi_x h10, h9, em, ← c, q1 (by omega)]
        · rw [updN c]; exact q2 (by omega)
  · intro l2_1 Code_set_1 Code_left_1 Code_right_1 x1 x2 x3 x4 x5 x6 x7 x8 x9 k e1 e2 e3 h1 h2 h3 h4 h5 h6 h7 h8 h9 h10 h11 h12 ih
    intro m hm
    obtain ⟨i1, i2, i3⟩ := ih (m + 1) (by rw [h12]; omega)
    have em : l2_1.toNatClampNeg = m := nnE hm
    refine ⟨?_, ?_, ?_⟩
    · refine fun q1 q2 => i1 (fun e => ?_) (fun e => ?_)
      · rw [h5, em, updN (by omega)]; exact q1 (by omega)
      · rw [h5, em]
        by_cases c : i = m
        · rw [c, updE, nmi_x h4, h3, em, ← c, q1 (by omega)]
        · rw [updN c]; exact q2 (by omega)
    · refine fun q1 q2 => i2 (fun e => ?_) (fun e => ?_)
      · rw [h8, em, updN (by omega)]; exact q1 (by omega)
      · rw [h8, em]
        by_cases c : i = m
        · rw [c, updE, nmi_x h7, h6, em, ← c, q1 (by omega)]
        · rw [updN c]; exact q2 (by omega)
    · refine fun q1 q2 => i3 (fun e => ?_) (fun e => ?_)
      · rw [h11, em, updN (by omega)]; exact q1 (by omega)
      · rw [h11, em]
        by_cases c : i = m
        · rw [c, updE, nmi_x h10, h9, em, ← c, q1 (by omega)]
        · rw [updN c]; exact q2 (by omega)
  · intro l2_1 Code_set_1 Code_left_1 Code_right_1 x1 x2 x3 x4 x5 x6 x7 x8 x9 k e1 e2 e3 h1 h2 h3 h4 h5 h6 h7 h8 h9 h10 h11 h12 ih
    intro m hm
    obtain ⟨i1, i2, i3⟩ := ih (m + 1) (by rw [h12]; omega)
    have em : l2_1.toNatClampNeg = m := nnE hm
    refine ⟨?_, ?_, ?_⟩
    · refine fun q1 q2 => i1 (fun e => ?_) (fun e => ?_)
      · rw [h5, em, updN (by omega)]; exact q1 (by omega)
      · rw [h5, em]
        by_cases c : i = m
        · rw [c, updE, nmi_x h4, h3, em, ← c, q1 (by omega)]
        · rw [updN c]; exact q2 (by omega)
    · refine fun q1 q2 => i2 (fun e => ?_) (fun e => ?_)
      · rw [h8, em, updN (by omega)]; exact q1 (by omega)
      · rw [h8, em]
        by_cases c : i = m
        · rw [c, updE, nmi_x h7, h6, em, ← c, q1 (by omega)]
        · rw [updN c]; exact q2 (by omega)
    · refine fun q1 q2 => i3 (fun e => ?_) (fun e => ?_)
      · rw [h11, em, updN (by omega)]; exact q1 (by omega)
      · rw [h11, em]
        by_cases c : i = m
        · rw [c, updE, nmi_x h10, h9, em, ← c, q1 (by omega)]
        · rw [updN c]; exact q2 (by omega)
  · intro l2_1 Code_set_1 Code_left_1 Code_right_1 x1 x2 x3 x4 x5 x6 x7 x8 x9 x10 k e1 e2 e3 h1 h2 h3 h4 h5 h6 h7 h8 h9 h10 h11 h12 ih
    intro m hm
    obtain ⟨i1, i2, i3⟩ := ih (m + 1) (by rw [h12]; omega)
    have em : l2_1.toNatClampNeg = m := nnE hm
    refine ⟨?_, ?_, ?_⟩
    · refine fun q1 q2 => i1 (fun e => ?_) (fun e => ?_)
      · rw [h5, em, updN (by omega)]; exact q1 (by omega)
      · rw [h5, em]
        by_cases c : i = m
        · rw [c, updE, nmi_x h4, h3, em, ← c, q1 (by omega)]
        · rw [updN c]; exact q2 (by omega)
    · refine fun q1 q2 => i2 (fun e => ?_) (fun e => ?_)
      · rw [h8, em, updN (by omega)]; exact q1 (by omega)
      · rw [h8, em]
        by_cases c : i = m
        · rw [c, updE, nmi_x h7, h6, em, ← c, q1 (by omega)]
        · rw [updN c]; exact q2 (by omega)
    · refine fun q1 q2 => i3 (fun e => ?_) (fun e => ?_)
      · rw [h11, em, updN (by omega)]; exact q1 (by omega)
      · rw [h11, em]
        by_cases c : i = m
        · rw [c, updE, nmi_x h10, h9, em, ← c, q1 (by omega)]
        · rw [updN c]; exact q2 (by omega)
theorem rnm_c {bl Code_lines : Int32} {fi fg sg op st lf ln rt rn p o1 o2 o3 : Nat → Int32} (hc : cdP bl Code_lines fi fg sg op st lf ln rt rn R) (hn : nmO R 720) (hp : ∀ u, u < 720 → (p u).toInt = col u) (h : tr_Code_rename Code_lines p st lf rt o1 o2 o3) : cdP bl Code_lines fi fg sg op o1 o2 ln o3 rn (rmP R col) := by
  obtain ⟨c1, c2, c3, c4⟩ := hc
  refine ⟨c1, c2, c3, fun b j hb hj => ?_⟩
  obtain ⟨d0, d1, d2, d3, d4, d5⟩ := c4 b j hb hj
  have hi : ((fsm R.2.1 b + j : Nat) : Int) < Code_lines.toInt := by
    have := fsm_lt (l := R.2.1) (show b < R.1 from hb) (show j < R.2.1 b from hj)
    omega
  obtain ⟨n1, n2, n4⟩ := hn b j hb hj
  refine h (fun o1 o2 o3 => (op (fsm R.2.1 b + j)).toInt = R.2.2.1 b j 0 ∧ (o1 (fsm R.2.1 b + j)).toInt = cM col (R.2.2.1 b j 1) ∧ (o2 (fsm R.2.1 b + j)).toInt = cM col (R.2.2.1 b j 2) ∧ (ln (fsm R.2.1 b + j)).toInt = R.2.2.1 b j 3 ∧ (o3 (fsm R.2.1 b + j)).toInt = cM col (R.2.2.1 b j 4) ∧ (rn (fsm R.2.1 b + j)).toInt = R.2.2.1 b j 5) ?_
  · intro x1 x2 x3 h1
    obtain ⟨i1, i2, i3⟩ := rnm_tl (x := st (fsm R.2.1 b + j)) (y := lf (fsm R.2.1 b + j)) (z := rt (fsm R.2.1 b + j)) hi h1 0 (by decide)
    rw [i1 (fun _ => rfl) (fun z => absurd z (Nat.not_lt_zero _)), i2 (fun _ => rfl) (fun z => absurd z (Nat.not_lt_zero _)), i3 (fun _ => rfl) (fun z => absurd z (Nat.not_lt_zero _))]
    exact ⟨d0, nI_c hp rfl d1 n1, nI_c hp rfl d2 n2, d3, nI_c hp rfl d4 n4, d5⟩
theorem rsl_tl {Code_lines : Int32} {Code_op : Nat → Int32} {c1 : Nat → Int32} {s1 : Int32} {s2 : Nat → Int32} {k : Nat} {e1 : Nat → Int32} {x : Int32} (hi : (i : Int) < Code_lines.toInt) (h : tl_Code_renameSlots_2 Code_lines Code_op c1 s1 s2 k e1) : ∀ m : Nat, s1.toInt = (m : Int) → (m ≤ i → s2 i = x) → (i < m → s2 i = (if (Code_op i).toInt = 17 ∨ (Code_op i).toInt = 18 then nI7 100 c1 x else x)) → e1 i = (if (Code_op i).toInt = 17 ∨ (Code_op i).toInt = 18 then nI7 100 c1 x else x) := by
  refine h (fun s1 s2 k e1 => ∀ m : Nat, s1.toInt = (m : Int) → (m ≤ i → s2 i = x) → (i < m → s2 i = (if (Code_op i).toInt = 17 ∨ (Code_op i).toInt = 18 then nI7 100 c1 x else x)) → e1 i = (if (Code_op i).toInt = 17 ∨ (Code_op i).toInt = 18 then nI7 100 c1 x else x)) ?_ ?_ ?_ ?_ ?_ ?_
  · intro l2_1 Code_rightNumber_1 h1 h2
    intro m hm q1 q2
    exact q2 (by omega)
  · intro l2_1 Code_rightNumber_1 x1 x2 x3 x4 k e1 h1 h2 h3 h4 h5 h6 h7 h8 h9 ih
    intro m hm q1 q2
    have em : l2_1.toNatClampNeg = m := nnE hm
    rw [em] at h3
    refine ih (m + 1) (by rw [h9]; omega) (fun e => ?_) (fun e => ?_)
    · rw [h8, em, updN (by omega)]; exact q1 (by omega)
    · rw [h8, em]
      by_cases c : i = m
      · have ex := q1 (by omega)
        rw [c] at ex
        rw [c, updE, nmi_y h7, h6, em, ex, if_pos (Or.inl (by rw [← h3]; exact h5))]
      · rw [updN c]; exact q2 (by omega)
  · intro l2_1 Code_rightNumber_1 x1 x2 x3 x4 x5 k e1 h1 h2 h3 h4 h5 h6 h7 h8 h9 ih
    intro m hm q1 q2
    have em : l2_1.toNatClampNeg = m := nnE hm
    rw [em] at h3
    refine ih (m + 1) (by rw [h9]; omega) (fun e => ?_) (fun e => ?_)
    · rw [h8, em, updN (by omega)]; exact q1 (by omega)
    · rw [h8, em]
      by_cases c : i = m
      · have ex := q1 (by omega)
        rw [c] at ex
        rw [c, updE, nmi_y h7, h6, em, ex, if_pos (Or.inl (by rw [← h3]; exact h5))]
      · rw [updN c]; exact q2 (by omega)
  · intro l2_1 Code_rightNumber_1 x1 x2 k e1 h1 h2 h3 h4 h5 h6 h7 ih
    intro m hm q1 q2
    have em : l2_1.toNatClampNeg = m := nnE hm
    rw [em] at h3
    refine ih (m + 1) (by rw [h7]; omega) (fun e => q1 (by omega)) (fun e => ?_)
    by_cases c : i = m
    · rw [q1 (by omega), c, if_neg (fun z => by rw [← h3] at z; omega)]
    · exact q2 (by omega)
  · intro l2_1 Code_rightNumber_1 x1 x2 x3 x4 k e1 h1 h2 h3 h4 h5 h6 h7 h8 h9 h10 ih
    intro m hm q1 q2
    have em : l2_1.toNatClampNeg = m := nnE hm
    rw [em] at h3
    refine ih (m + 1) (by rw [h10]; omega) (fun e => ?_) (fun e => ?_)
    · rw [h9, em, updN (by omega)]; exact q1 (by omega)
    · rw [h9, em]
      by_cases c : i = m
      · have ex := q1 (by omega)
        rw [c] at ex
        rw [c, updE, nmi_y h8, h7, em, ex, if_pos (Or.inr (by rw [← h3]; exact h6))]
      · rw [updN c]; exact q2 (by omega)
  · intro l2_1 Code_rightNumber_1 x1 x2 x3 x4 x5 k e1 h1 h2 h3 h4 h5 h6 h7 h8 h9 h10 ih
    intro m hm q1 q2
    have em : l2_1.toNatClampNeg = m := nnE hm
    rw [em] at h3
    refine ih (m + 1) (by rw [h10]; omega) (fun e => ?_) (fun e => ?_)
    · rw [h9, em, updN (by omega)]; exact q1 (by omega)
    · rw [h9, em]
      by_cases c : i = m
      · have ex := q1 (by omega)
        rw [c] at ex
        rw [c, updE, nmi_y h8, h7, em, ex, if_pos (Or.inr (by rw [← h3]; exact h6))]
      · rw [updN c]; exact q2 (by omega)
theorem ars_tr {a1 a2 Graph_names Graph_words o1 : Int32} {Graph_joined : Nat → Int64} (gN : Graph_names.toInt = (Nm : Int)) (gW : Graph_words.toInt = (W : Int)) (gNW : Nm ≤ 64 * W) (gJ : ∀ x y, x < Nm → y < 64 * W → (gbit Graph_joined (64 * (x * W) + y) = true ↔ J x y)) (hv : a1.toInt = (v : Int)) (hu : a2.toInt = (u : Int)) (hv2 : v < Nm) (hu2 : u < Nm) (h : tr_Graph_areJoined a1 a2 Graph_names Graph_words Graph_joined o1) : o1.toInt ≠ 0 ↔ J v u := by
  refine h (fun o1 => o1.toInt ≠ 0 ↔ J v u) ?_ ?_ ?_ ?_ ?_ ?_
  · intro h1
    omega
  · intro h1 h2
    omega
  · intro h1 h2 h3
    omega
  · intro h1 h2 h3 h4
    omega
  · intro x1 x2 x3 x4 x5 x6 h1 h2 h3 h4 h5 h6 h7 h8 h9 h10 h11
    have ep : x1.toInt = ((v * W : Nat) : Int) := by rw [h5, hv, gW]; exact (Int.natCast_mul _ _).symm
    have tb := tst_bit (f := Graph_joined) (a := v * W) (m := u) (i := x3) (by omega) hu h8 h9 h10
    have gj := gJ v u hv2 (by omega)
    rw [px_0]
    exact ⟨fun y => absurd rfl y, fun y => by rw [← gj, tb.mp h11] at y; cases y⟩
  · intro x1 x2 x3 x4 x5 x6 h1 h2 h3 h4 h5 h6 h7 h8 h9 h10 h11
    have ep : x1.toInt = ((v * W : Nat) : Int) := by rw [h5, hv, gW]; exact (Int.natCast_mul _ _).symm
    have tb := tst_bit (f := Graph_joined) (a := v * W) (m := u) (i := x3) (by omega) hu h8 h9 h10
    have gj := gJ v u hv2 (by omega)
    rw [px_1]
    refine ⟨fun _ => gj.mp ?_, fun _ => by decide⟩
    cases e : gbit Graph_joined (64 * (v * W) + u)
    · exact absurd (tb.mpr e) h11
    · rfl
theorem itk_tl {a1 : Int32} {Giver_sharedSlot : Nat → Int32} {a2 : Int32} {Graph_names : Int32} {Graph_words : Int32} {Graph_joined : Nat → Int64} {s1 : Int32} {k : Nat} (gN : Graph_names.toInt = (Nm : Int)) (gW : Graph_words.toInt = (W : Int)) (gNW : Nm ≤ 64 * W) (gJ : ∀ x y, x < Nm → y < 64 * W → (gbit Graph_joined (64 * (x * W) + y) = true ↔ J x y)) (hs : a1.toInt = (s : Int)) (hs2 : s < Nm) (h : tl_Giver_isTakenAround_2 a1 Giver_sharedSlot a2 Graph_names Graph_words Graph_joined s1 k) : ∀ m : Nat, s1.toInt = (m : Int) → (k = 29 → ∃ t, t < s ∧ (Giver_sharedSlot t).toInt = a2.toInt ∧ J s t) ∧ (k = 37 → ∀ t, m ≤ t → t < s → (Giver_sharedSlot t).toInt = a2.toInt → ¬ J s t) := by
  refine h (fun s1 k => ∀ m : Nat, s1.toInt = (m : Int) → (k = 29 → ∃ t, t < s ∧ (Giver_sharedSlot t).toInt = a2.toInt ∧ J s t) ∧ (k = 37 → ∀ t, m ≤ t → t < s → (Giver_sharedSlot t).toInt = a2.toInt → ¬ J s t)) ?_ ?_ ?_ ?_
  · intro l3_1 h1 h2
    intro m hm
    exact ⟨fun z => (nomatch z), fun _ t h1 h2 => by omega⟩
  · intro l3_1 x1 x2 k h1 h2 h3 h4 h5 ih
    intro m hm
    obtain ⟨i1, i2⟩ := ih (m + 1) (by rw [h5]; omega)
    refine ⟨i1, fun e37 t h1t h2t z => ?_⟩
    by_cases e : t = m
    · have z2 : (Giver_sharedSlot m).toInt = a2.toInt := by rw [← e]; exact z
      rw [← nnE hm, ← h3] at z2
      exact absurd z2 h4
    · exact i2 e37 t (by omega) h2t z
  · intro l3_1 x1 x2 k h1 h2 h3 h4 h5 h6 ih
    intro m hm
    obtain ⟨i1, i2⟩ := ih (m + 1) (by rw [h6]; omega)
    refine ⟨i1, fun e37 t h1t h2t z => ?_⟩
    by_cases e : t = m
    · rw [e]
      exact fun y => (ars_tr gN gW gNW gJ hs hm hs2 (by omega) h5).mpr y (by decide)
    · exact i2 e37 t (by omega) h2t z
  · intro l3_1 x1 h1 h2 h3 h4 h5
    intro m hm
    refine ⟨fun _ => ⟨m, by omega, ?_, ?_⟩, fun z => (nomatch z)⟩
    · rw [← nnE hm, ← h3]; exact h4
    · exact (ars_tr gN gW gNW gJ hs hm hs2 (by omega) h5).mp (by decide)
theorem itk_tr {a1 : Int32} {a2 : Int32} {Graph_names : Int32} {Graph_words : Int32} {Giver_sharedSlot : Nat → Int32} {Graph_joined : Nat → Int64} {o1 : Int32} (gN : Graph_names.toInt = (Nm : Int)) (gW : Graph_words.toInt = (W : Int)) (gNW : Nm ≤ 64 * W) (gJ : ∀ x y, x < Nm → y < 64 * W → (gbit Graph_joined (64 * (x * W) + y) = true ↔ J x y)) (hs : a1.toInt = (s : Int)) (hs2 : s < Nm) (h : tr_Giver_isTakenAround a1 a2 Graph_names Graph_words Giver_sharedSlot Graph_joined o1) : (o1.toInt ≠ 0 → ∃ t, t < s ∧ (Giver_sharedSlot t).toInt = a2.toInt ∧ J s t) ∧ (o1.toInt = 0 → ∀ t, t < s → (Giver_sharedSlot t).toInt = a2.toInt → ¬ J s t) := by
  refine h (fun o1 => (o1.toInt ≠ 0 → ∃ t, t < s ∧ (Giver_sharedSlot t).toInt = a2.toInt ∧ J s t) ∧ (o1.toInt = 0 → ∀ t, t < s → (Giver_sharedSlot t).toInt = a2.toInt → ¬ J s t)) ?_ ?_
  · intro h1
    exact ⟨fun z => absurd (by decide) z, fun _ t ht => (itk_tl gN gW gNW gJ hs hs2 h1 0 (by decide)).2 rfl t (Nat.zero_le _) ht⟩
  · intro h1
    exact ⟨fun _ => (itk_tl gN gW gNW gJ hs hs2 h1 0 (by decide)).1 rfl, fun z => absurd z (by decide)⟩
theorem sh34_tl {l1_1 : Int32} {c1 : Int32} {c2 : Int32} {Giver_sharedSlot_1 : Nat → Int32} {c3 : Nat → Int64} {s1 : Int32} {k : Nat} {e1 : Int32} (gN : c1.toInt = (Nm : Int)) (gW : c2.toInt = (W : Int)) (gNW : Nm ≤ 64 * W) (gJ : ∀ x y, x < Nm → y < 64 * W → (gbit c3 (64 * (x * W) + y) = true ↔ J x y)) (hs : l1_1.toInt = (s : Int)) (hs2 : s < Nm) (h : tl_Giver_shareSlots_34 l1_1 c1 c2 Giver_sharedSlot_1 c3 s1 k e1) : ∀ m : Nat, s1.toInt = (m : Int) → m ≤ s → (∀ d, d < m → ∃ u, u < s ∧ (Giver_sharedSlot_1 u).toInt = (d : Int) ∧ J s u) → ∃ c : Nat, e1.toInt = (c : Int) ∧ c ≤ s ∧ (∀ d, d < c → ∃ u, u < s ∧ (Giver_sharedSlot_1 u).toInt = (d : Int) ∧ J s u) ∧ (c < s → ∀ u, u < s → (Giver_sharedSlot_1 u).toInt = (c : Int) → ¬ J s u) := by
  refine h (fun s1 k e1 => ∀ m : Nat, s1.toInt = (m : Int) → m ≤ s → (∀ d, d < m → ∃ u, u < s ∧ (Giver_sharedSlot_1 u).toInt = (d : Int) ∧ J s u) → ∃ c : Nat, e1.toInt = (c : Int) ∧ c ≤ s ∧ (∀ d, d < c → ∃ u, u < s ∧ (Giver_sharedSlot_1 u).toInt = (d : Int) ∧ J s u) ∧ (c < s → ∀ u, u < s → (Giver_sharedSlot_1 u).toInt = (c : Int) → ¬ J s u)) ?_ ?_ ?_
  · intro l2_2 h1 h2
    intro m hm hms hd
    exact ⟨m, hm, hms, hd, fun z => by omega⟩
  · intro l2_2 x1 h1 h2 h3 h4 h5
    intro m hm hms hd
    exact ⟨m, hm, hms, hd, fun _ u hu z => (itk_tr gN gW gNW gJ hs hs2 h4).2 h5 u hu (by rw [z, hm])⟩
  · intro l2_2 x1 x2 k e1 h1 h2 h3 h4 h5 h6 ih
    intro m hm hms hd
    refine ih (m + 1) (by rw [h6]; omega) (by omega) (fun d hdm => ?_)
    by_cases e : d = m
    · obtain ⟨u, y1, y2, y3⟩ := (itk_tr gN gW gNW gJ hs hs2 h4).1 h5
      exact ⟨u, y1, by rw [y2, hm, e], y3⟩
    · exact hd d (by omega)
theorem sh18_tl {Giver_slots : Int32} {c1 : Int32} {c2 : Int32} {c3 : Nat → Int64} {s1 : Int32} {s2 : Int32} {s3 : Nat → Int32} {k : Nat} {e1 : Int32} {e2 : Nat → Int32} (gN : c1.toInt = (Nm : Int)) (gW : c2.toInt = (W : Int)) (gNW : Nm ≤ 64 * W) (gJ : ∀ x y, x < Nm → y < 64 * W → (gbit c3 (64 * (x * W) + y) = true ↔ J x y)) (hsl : Giver_slots.toInt = (sl : Int)) (hsl2 : sl ≤ 100) (hslN : sl ≤ Nm) (h : tl_Giver_shareSlots_18 Giver_slots c1 c2 c3 s1 s2 s3 k e1 e2) : ∀ t : Nat, s1.toInt = (t : Int) → t ≤ sl → (∀ u, u < t → (s3 u).toInt = shN J t u ∧ 0 ≤ (s3 u).toInt ∧ (s3 u).toInt ≤ (u : Int)) → ∀ u, u < sl → (e2 u).toInt = shN J sl u ∧ 0 ≤ (e2 u).toInt ∧ (e2 u).toInt ≤ (u : Int) := by
  refine h (fun s1 s2 s3 k e1 e2 => ∀ t : Nat, s1.toInt = (t : Int) → t ≤ sl → (∀ u, u < t → (s3 u).toInt = shN J t u ∧ 0 ≤ (s3 u).toInt ∧ (s3 u).toInt ≤ (u : Int)) → ∀ u, u < sl → (e2 u).toInt = shN J sl u ∧ 0 ≤ (e2 u).toInt ∧ (e2 u).toInt ≤ (u : Int)) ?_ ?_ ?_
  · intro l1_1 Giver_sharedSlots_1 Giver_sharedSlot_1 h1 h2
    intro t ht htl hu
    have e : t = sl := by omega
    rw [e] at hu
    exact hu
  · intro l1_1 Giver_sharedSlots_1 Giver_sharedSlot_1 h1 h2 h3
    intro t ht htl hu
    omega
  · intro l1_1 Giver_sharedSlots_1 Giver_sharedSlot_1 x1 x2 x3 x4 x5 k e1 e2 h1 h2 h3 h4 h5 h6 h7 h8 ih
    intro t ht htl hu
    obtain ⟨c, y1, y2, y3, y4⟩ := sh34_tl (s := t) gN gW gNW gJ ht (by omega) h4 0 (by decide) (Nat.zero_le _) (fun d hd => absurd hd (Nat.not_lt_zero d))
    have lc : lcl J (shN J t) t = c := shN_l (g := fun u => (Giver_sharedSlot_1 u).toInt) (fun u hu1 => (hu u hu1).1) (fun u hu1 => (hu u hu1).2.2) y2 y3 y4
    refine ih (t + 1) (by rw [h8]; omega) (by omega) (fun u hu1 => ?_)
    rw [h5, nnE ht]
    by_cases e : u = t
    · rw [e, updE, shN_e, lc]
      exact ⟨y1, by omega, by omega⟩
    · rw [updN e, shN_n e]
      exact hu u (by omega)
theorem shN_J {J K : Nat → Nat → Prop} (N : Nat) (h : ∀ v u, v < N → u < N → (J v u ↔ K v u)) : ∀ t, t ≤ N → shN J t = shN K t
  | 0, _ => rfl
  | t + 1, ht => by
    have i := shN_J N h t (by omega)
    have e : lcl J (shN J t) t = lcl K (shN K t) t := by
      rw [i]
      unfold lcl
      congr 1
      funext c
      apply propext
      unfold isLc
      have hk : ∀ u (x : Int), 0 ≤ x → shN K t u = x → u < N := fun u x hx e => Classical.byContradiction fun z => by rw [shN_hi t (by omega)] at e; omega
      constructor
      · exact fun ⟨a1, a2⟩ => ⟨fun u hu e => a1 u ((h t u (by omega) (hk u _ (by omega) e)).mpr hu) e, fun d hd => (a2 d hd).elim fun u q => ⟨u, (h t u (by omega) (hk u _ (by omega) q.2)).mp q.1, q.2⟩⟩
      · exact fun ⟨a1, a2⟩ => ⟨fun u hu e => a1 u ((h t u (by omega) (hk u _ (by omega) e)).mp hu) e, fun d hd => (a2 d hd).elim fun u q => ⟨u, (h t u (by omega) (hk u _ (by omega) q.2)).mpr q.1, q.2⟩⟩
    funext u
    by_cases c : u = t
    · rw [c, shN_e, shN_e, e]
    · rw [shN_n c, shN_n c, i]
theorem rsr_c {Code_lines : Int32} {p op rn o1 : Nat → Int32} (hi : (i : Int) < Code_lines.toInt) (h : tr_Code_renameSlots Code_lines p op rn o1) : o1 i = if (op i).toInt = 17 ∨ (op i).toInt = 18 then nI7 100 p (rn i) else rn i := by
  refine h (fun o1 => o1 i = if (op i).toInt = 17 ∨ (op i).toInt = 18 then nI7 100 p (rn i) else rn i) ?_
  · intro x1 h1
    exact rsl_tl hi h1 0 (by decide) (fun _ => rfl) (fun z => absurd z (Nat.not_lt_zero _))
theorem shr_c {Giver_slots : Int32} {Giver_sharedSlots : Int32} {Giver_sharedSlot : Nat → Int32} {Code_blocks : Int32} {Code_lines : Int32} {Graph_joined : Nat → Int64} {Graph_standing : Nat → Int64} {Graph_degree : Nat → Int32} {Code_first : Nat → Int32} {Code_firstGoal : Nat → Int32} {Code_secondGoal : Nat → Int32} {Code_op : Nat → Int32} {Code_set : Nat → Int32} {Code_left : Nat → Int32} {Code_right : Nat → Int32} {Code_rightNumber : Nat → Int32} {Live_in : Nat → Int64} {Live_used : Nat → Int64} {Live_set : Nat → Int64} {Live_now : Nat → Int64} {o1 : Int32} {o2 : Int32} {o3 : Int32} {o4 : Nat → Int32} {o5 : Int32} {o6 : Int32} {o7 : Int32} {o8 : Nat → Int64} {o9 : Nat → Int64} {o10 : Nat → Int32} {o11 : Nat → Int32} {o12 : Nat → Int64} {o13 : Nat → Int64} {o14 : Nat → Int64} {o15 : Nat → Int64} {cln : Nat → Int32} (hc : cdP Code_blocks Code_lines Code_first Code_firstGoal Code_secondGoal Code_op Code_set Code_left cln Code_right Code_rightNumber R) (hsl : Giver_slots.toInt = (sl : Int)) (hsl2 : sl ≤ 100) (hso : soO R sl) (h : tr_Giver_shareSlots Giver_slots Giver_sharedSlots Giver_sharedSlot Code_blocks Code_lines Graph_joined Graph_standing Graph_degree Code_first Code_firstGoal Code_secondGoal Code_op Code_set Code_left Code_right Code_rightNumber Live_in Live_used Live_set Live_now o1 o2 o3 o4 o5 o6 o7 o8 o9 o10 o11 o12 o13 o14 o15) : cdP Code_blocks Code_lines Code_first Code_firstGoal Code_secondGoal Code_op Code_set Code_left cln Code_right o11 (shP R (shN (Jn R true 2000) sl)) := by
  refine h (fun o1 o2 o3 o4 o5 o6 o7 o8 o9 o10 o11 o12 o13 o14 o15 => cdP Code_blocks Code_lines Code_first Code_firstGoal Code_secondGoal Code_op Code_set Code_left cln Code_right o11 (shP R (shN (Jn R true 2000) sl))) ?_
  · intro x1 x2 x3 x4 x5 x6 x7 x8 x9 x10 x11 x12 x13 x14 x15 h1 h2 h3 h4 h5 h6 h7 h8
    obtain ⟨e1, e2, -, -, e3, -⟩ := gb_tr (sl := true) hc hsl (by omega) (by decide) h6
    have gJ : ∀ x y, x < sl → y < 64 * ((sl + 63) / 64) → (gbit x6 (64 * (x * ((sl + 63) / 64)) + y) = true ↔ Jn R true sl x y) := e3
    have sh := sh18_tl (J := Jn R true sl) e1 e2 (by omega) gJ hsl hsl2 (Nat.le_refl _) h7 0 (by decide) (Nat.zero_le _) (fun u hu => absurd hu (Nat.not_lt_zero u))
    obtain ⟨c1, c2, c3, c4⟩ := hc
    refine ⟨c1, c2, c3, fun b j hb hj => ?_⟩
    obtain ⟨d0, d1, d2, d3, d4, d5⟩ := c4 b j hb hj
    refine ⟨d0, d1, d2, d3, d4, ?_⟩
    have hi : ((fsm R.2.1 b + j : Nat) : Int) < Code_lines.toInt := by
      have := fsm_lt (l := R.2.1) (show b < R.1 from hb) (show j < R.2.1 b from hj)
      omega
    have q := rsr_c hi h8
    show (x15 (fsm R.2.1 b + j)).toInt = shL (shN (Jn R true 2000) sl) (R.2.2.1 b j) 5
    rw [q, d0]
    by_cases c : R.2.2.1 b j 0 = 17 ∨ R.2.2.1 b j 0 = 18
    · obtain ⟨z0, z1⟩ := hso b j hb hj c
      rw [if_pos c, shL_5 c]
      unfold nI7
      rw [if_pos ⟨by omega, by omega⟩, nnE (show (Code_rightNumber (fsm R.2.1 b + j)).toInt = (((R.2.2.1 b j 5).toNat : Nat) : Int) by omega), (sh _ (by omega)).1]
      exact congrFun (shN_J sl (fun v u hv hu => ⟨Jn_N (by omega) (by omega) (by omega) (by omega), Jn_N hv hu (by omega) (by omega)⟩) sl (Nat.le_refl _)) _
    · rw [if_neg c, shL_5n c]
      exact d5
theorem bgd_tr {Code_blocks : Int32} {Code_lines : Int32} {Giver_slotOf : Nat → Int32} {Code_first : Nat → Int32} {Code_firstGoal : Nat → Int32} {Code_secondGoal : Nat → Int32} {Code_op : Nat → Int32} {Code_set : Nat → Int32} {Code_left : Nat → Int32} {Code_leftNumber : Nat → Int32} {Code_right : Nat → Int32} {Code_rightNumber : Nat → Int32} {Code_first2 : Nat → Int32} {Code_firstGoal2 : Nat → Int32} {Code_secondGoal2 : Nat → Int32} {Code_op2 : Nat → Int32} {Code_set2 : Nat → Int32} {Code_left2 : Nat → Int32} {Code_leftNumber2 : Nat → Int32} {Code_right2 : Nat → Int32} {Code_rightNumber2 : Nat → Int32} {Live_in : Nat → Int64} {Live_used : Nat → Int64} {Live_set : Nat → Int64} {Live_now : Nat → Int64} {o1 : Int32} {o2 : Int32} {o3 : Int32} {o4 : Int32} {o5 : Int32} {o6 : Int32} {o7 : Nat → Int32} {o8 : Int32} {o9 : Int32} {o10 : Int32} {o11 : Int32} {o12 : Int32} {o13 : Int32} {o14 : Nat → Int32} {o15 : Nat → Int32} {o16 : Nat → Int32} {o17 : Nat → Int32} {o18 : Nat → Int32} {o19 : Nat → Int32} {o20 : Nat → Int32} {o21 : Nat → Int32} {o22 : Nat → Int32} {o23 : Nat → Int64} {o24 : Nat → Int64} {o25 : Nat → Int64} {o26 : Nat → Int64} (h : tr_Giver_begin Code_blocks Code_lines Giver_slotOf Code_first Code_firstGoal Code_secondGoal Code_op Code_set Code_left Code_leftNumber Code_right Code_rightNumber Code_first2 Code_firstGoal2 Code_secondGoal2 Code_op2 Code_set2 Code_left2 Code_leftNumber2 Code_right2 Code_rightNumber2 Live_in Live_used Live_set Live_now o1 o2 o3 o4 o5 o6 o7 o8 o9 o10 o11 o12 o13 o14 o15 o16 o17 o18 o19 o20 o21 o22 o23 o24 o25 o26) : o6.toInt = 0 := by
  refine h (fun o1 o2 o3 o4 o5 o6 o7 o8 o9 o10 o11 o12 o13 o14 o15 o16 o17 o18 o19 o20 o21 o22 o23 o24 o25 o26 => o6.toInt = 0) ?_
  · intro x1 x2 x3 x4 x5 x6 x7 x8 x9 x10 x11 x12 x13 x14 x15 x16 x17 x18 x19 x20 x21 x22 x23 h1 h2 h3 h4 h5 h6 h7 h8 h9 h10
    decide
theorem gvo_x {a2 : Int32} {Code_blocks : Int32} {Code_lines : Int32} {Graph_names : Int32} {Graph_words : Int32} {Colouring_restSize : Int32} {Colouring_pileSize : Int32} {Giver_slotOf : Nat → Int32} {Giver_sharedSlot : Nat → Int32} {Code_blocks2 : Int32} {Code_lines2 : Int32} {Code_isFull : Int32} {Code_first : Nat → Int32} {Code_firstGoal : Nat → Int32} {Code_secondGoal : Nat → Int32} {Code_op : Nat → Int32} {Code_set : Nat → Int32} {Code_left : Nat → Int32} {Code_leftNumber : Nat → Int32} {Code_right : Nat → Int32} {Code_rightNumber : Nat → Int32} {Loops_depth : Nat → Int32} {Graph_joined : Nat → Int64} {Graph_standing : Nat → Int64} {Graph_degree : Nat → Int32} {Colouring_weight : Nat → Int32} {Colouring_degree : Nat → Int32} {Colouring_rest : Nat → Int32} {Colouring_pile : Nat → Int32} {Colouring_colour : Nat → Int32} {Code_first2 : Nat → Int32} {Code_firstGoal2 : Nat → Int32} {Code_secondGoal2 : Nat → Int32} {Code_op2 : Nat → Int32} {Code_set2 : Nat → Int32} {Code_left2 : Nat → Int32} {Code_leftNumber2 : Nat → Int32} {Code_right2 : Nat → Int32} {Code_rightNumber2 : Nat → Int32} {Code_first3 : Nat → Int32} {Code_firstGoal3 : Nat → Int32} {Code_secondGoal3 : Nat → Int32} {Code_op3 : Nat → Int32} {Code_set3 : Nat → Int32} {Code_left3 : Nat → Int32} {Code_leftNumber3 : Nat → Int32} {Code_right3 : Nat → Int32} {Code_rightNumber3 : Nat → Int32} {Live_in : Nat → Int64} {Live_used : Nat → Int64} {Live_set : Nat → Int64} {Live_now : Nat → Int64} {o1 : Int32} {o2 : Int32} {o3 : Int32} {o4 : Int32} {o5 : Int32} {o6 : Int32} {o7 : Int32} {o8 : Int32} {o9 : Int32} {o10 : Int32} {o11 : Int32} {o12 : Nat → Int32} {o13 : Int32} {o14 : Int32} {o15 : Int32} {o16 : Int32} {o17 : Int32} {o18 : Int32} {o19 : Int32} {o20 : Int32} {o21 : Int32} {o22 : Nat → Int64} {o23 : Nat → Int64} {o24 : Nat → Int32} {o25 : Nat → Int32} {o26 : Nat → Int32} {o27 : Nat → Int32} {o28 : Nat → Int32} {o29 : Nat → Int32} {o30 : Nat → Int32} {o31 : Nat → Int32} {o32 : Nat → Int32} {o33 : Nat → Int32} {o34 : Nat → Int32} {o35 : Nat → Int32} {o36 : Nat → Int32} {o37 : Nat → Int32} {o38 : Nat → Int32} {o39 : Nat → Int32} {o40 : Nat → Int32} {o41 : Nat → Int32} {o42 : Nat → Int32} {o43 : Nat → Int32} {o44 : Nat → Int32} {o45 : Nat → Int32} {o46 : Nat → Int32} {o47 : Nat → Int32} {o48 : Nat → Int64} {o49 : Nat → Int64} {o50 : Nat → Int64} {o51 : Nat → Int64} {o52 : Nat → Int32} {B : Int → Int} {n : Int} (hB : bOk B n) (hP : okP B n P) (hc : cdP Code_blocks Code_lines Code_first Code_firstGoal Code_secondGoal Code_op Code_set Code_left Code_leftNumber Code_right Code_rightNumber P) (hdp : ∀ b, b < P.1 → (Loops_depth b).toInt = (dpt P b : Int)) (hk1 : 1 ≤ a2.toInt) (hk2 : a2.toInt ≤ 32) (h : tr_Giver_giveOut a2 Code_blocks Code_lines Graph_names Graph_words Colouring_restSize Colouring_pileSize Giver_slotOf Giver_sharedSlot Code_blocks2 Code_lines2 Code_isFull Code_first Code_firstGoal Code_secondGoal Code_op Code_set Code_left Code_leftNumber Code_right Code_rightNumber Loops_depth Graph_joined Graph_standing Graph_degree Colouring_weight Colouring_degree Colouring_rest Colouring_pile Colouring_colour Code_first2 Code_firstGoal2 Code_secondGoal2 Code_op2 Code_set2 Code_left2 Code_leftNumber2 Code_right2 Code_rightNumber2 Code_first3 Code_firstGoal3 Code_secondGoal3 Code_op3 Code_set3 Code_left3 Code_leftNumber3 Code_right3 Code_rightNumber3 Live_in Live_used Live_set Live_now o1 o2 o3 o4 o5 o6 o7 o8 o9 o10 o11 o12 o13 o14 o15 o16 o17 o18 o19 o20 o21 o22 o23 o24 o25 o26 o27 o28 o29 o30 o31 o32 o33 o34 o35 o36 o37 o38 o39 o40 o41 o42 o43 o44 o45 o46 o47 o48 o49 o50 o51 o52) : ∃ Z, GVr a2.toInt (dpt P) 40 1 (pgZ P) 100 0 o1.toInt Z ∧ ((o1.toInt ≠ -1 ∧ o7.toInt = 1 ∧ (soO Z.1 Z.2.2 → Z.2.2 ≤ 100 → nmO Z.1 720 → cdP o13 o14 o30 o31 o32 o33 o34 o35 o36 o37 o38 (fnP Z))) ∨ (o1.toInt = -1 ∧ o7.toInt = 0)) := by
  obtain ⟨f1, f2, f3, f4, f5, f6⟩ := okP_f hB hP
  have gi := gvI_Z hB hP
  refine h (fun o1 o2 o3 o4 o5 o6 o7 o8 o9 o10 o11 o12 o13 o14 o15 o16 o17 o18 o19 o20 o21 o22 o23 o24 o25 o26 o27 o28 o29 o30 o31 o32 o33 o34 o35 o36 o37 o38 o39 o40 o41 o42 o43 o44 o45 o46 o47 o48 o49 o50 o51 o52 => ∃ Z, GVr a2.toInt (dpt P) 40 1 (pgZ P) 100 0 o1.toInt Z ∧ ((o1.toInt ≠ -1 ∧ o7.toInt = 1 ∧ (soO Z.1 Z.2.2 → Z.2.2 ≤ 100 → nmO Z.1 720 → cdP o13 o14 o30 o31 o32 o33 o34 o35 o36 o37 o38 (fnP Z))) ∨ (o1.toInt = -1 ∧ o7.toInt = 0))) ?_ ?_ ?_ ?_
  · intro x1 x2 x3 x4 x5 x6 x7 x8 x9 x10 x11 x12 x13 x14 x15 x16 x17 x18 x19 x20 x21 x22 x23 x24 x25 x26 x27 x28 x29 x30 x31 x32 x33 x34 x35 x36 x37 x38 x39 x40 x41 x42 x43 x44 x45 x46 x47 x48 x49 x50 x51 x52 x53 x54 x55 x56 x57 x58 x59 x60 x61 x62 x63 x64 x65 x66 x67 x68 x69 x70 x71 x72 x73 x74 h1 h2 h3 h4 h5 h6 h7 h8 h9 h10 h11 h12 h13 h14
    obtain ⟨b1, b2, -, -⟩ := bg_tr hc f1 f2 f3 f4 h13
    obtain ⟨c1, c2, c3⟩ := bgs_tr h13
    obtain ⟨r, Z, r1, r2, r3⟩ := gv7_tl (dp := dpt P) hk1 hk2 h14 (pgZ P) 100 0 1 (by decide) (Nat.le_refl _) (by decide) c1 c2 (by decide) b2 gi hdp (fun v hv _ => c3 v hv)
    rw [r3 (by decide)] at r1
    exact ⟨Z, r1, Or.inr ⟨by decide, bgd_tr h13⟩⟩
  · intro x1 x2 x3 x4 x5 x6 x7 x8 x9 x10 x11 x12 x13 x14 x15 x16 x17 x18 x19 x20 x21 x22 x23 x24 x25 x26 x27 x28 x29 x30 x31 x32 x33 x34 x35 x36 x37 x38 x39 x40 x41 x42 x43 x44 x45 x46 x47 x48 x49 x50 x51 x52 x53 x54 x55 x56 x57 x58 x59 x60 x61 x62 x63 x64 x65 x66 x67 x68 x69 x70 x71 x72 x73 x74 h1 h2 h3 h4 h5 h6 h7 h8 h9 h10 h11 h12 h13 h14
    obtain ⟨b1, b2, -, -⟩ := bg_tr hc f1 f2 f3 f4 h13
    obtain ⟨c1, c2, c3⟩ := bgs_tr h13
    obtain ⟨r, Z, r1, r2, r3⟩ := gv7_tl (dp := dpt P) hk1 hk2 h14 (pgZ P) 100 0 1 (by decide) (Nat.le_refl _) (by decide) c1 c2 (by decide) b2 gi hdp (fun v hv _ => c3 v hv)
    rw [r3 (by decide)] at r1
    exact ⟨Z, r1, Or.inr ⟨by decide, bgd_tr h13⟩⟩
  · intro x1 x2 x3 x4 x5 x6 x7 x8 x9 x10 x11 x12 x13 x14 x15 x16 x17 x18 x19 x20 x21 x22 x23 x24 x25 x26 x27 x28 x29 x30 x31 x32 x33 x34 x35 x36 x37 x38 x39 x40 x41 x42 x43 x44 x45 x46 x47 x48 x49 x50 x51 x52 x53 x54 x55 x56 x57 x58 x59 x60 x61 x62 x63 x64 x65 x66 x67 x68 x69 x70 x71 x72 x73 x74 h1 h2 h3 h4 h5 h6 h7 h8 h9 h10 h11 h12 h13 h14
    obtain ⟨b1, b2, -, -⟩ := bg_tr hc f1 f2 f3 f4 h13
    obtain ⟨c1, c2, c3⟩ := bgs_tr h13
    obtain ⟨r, Z, r1, r2, r3⟩ := gv7_tl (dp := dpt P) hk1 hk2 h14 (pgZ P) 100 0 1 (by decide) (Nat.le_refl _) (by decide) c1 c2 (by decide) b2 gi hdp (fun v hv _ => c3 v hv)
    rw [r3 (by decide)] at r1
    exact ⟨Z, r1, Or.inr ⟨by decide, bgd_tr h13⟩⟩
  · intro x1 x2 x3 x4 x5 x6 x7 x8 x9 x10 x11 x12 x13 x14 x15 x16 x17 x18 x19 x20 x21 x22 x23 x24 x25 x26 x27 x28 x29 x30 x31 x32 x33 x34 x35 x36 x37 x38 x39 x40 x41 x42 x43 x44 x45 x46 x47 x48 x49 x50 x51 x52 x53 x54 x55 x56 x57 x58 x59 x60 x61 x62 x63 x64 x65 x66 x67 x68 x69 x70 x71 x72 x73 x74 x75 x76 x77 x78 x79 x80 x81 x82 x83 x84 x85 x86 x87 x88 x89 x90 x91 x92 x93 h1 h2 h3 h4 h5 h6 h7 h8 h9 h10 h11 h12 h13 h14 h15 h16 h17 h18 h19 h20 h21
    obtain ⟨b1, b2, -, -⟩ := bg_tr hc f1 f2 f3 f4 h13
    obtain ⟨c1, c2, c3⟩ := bgs_tr h13
    obtain ⟨r, Z, r1, r2, r3⟩ := gv7_tl (dp := dpt P) hk1 hk2 h14 (pgZ P) 100 0 1 (by decide) (Nat.le_refl _) (by decide) c1 c2 (by decide) b2 gi hdp (fun v hv _ => c3 v hv)
    obtain ⟨y1, y0, y2, y3, y4⟩ := r2 rfl
    rw [y1] at r1 y0
    exact ⟨Z, r1, Or.inl ⟨by omega, by decide, fun hs h100 hn => shr_c (rnm_c y2 hn y3 h15) y4 h100 (soO_rm hs) h21⟩⟩
end FNC
