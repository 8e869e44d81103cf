section
/-! names by colours, slots shared: the class -/
section FNC
variable {P R : gPg} {J : Nat → Nat → Prop} {col : Nat → Int} {sl Nm W v u s i : Nat}
def nI7 (k : Int) (p : Nat → Int32) (a : Int32) : Int32 := if 0 ≤ a.toInt ∧ a.toInt < k then p a.toNatClampNeg else a
theorem nmi_x {a1 : Int32} {p : Nat → Int32} {o1 : Int32} (h : tr_Code_nameIn a1 p o1) : o1 = nI7 720 p a1 := by
  unfold nI7
  refine h (fun o1 => o1 = if 0 ≤ a1.toInt ∧ a1.toInt < 720 then p a1.toNatClampNeg else a1) ?_ ?_ ?_
  · intro h1
    rw [if_neg (fun z => by omega)]
  · intro h1 h2
    rw [if_neg (fun z => by omega)]
  · intro x1 h1 h2 h3
    rw [if_pos ⟨h1, h2⟩]; exact h3
theorem nmi_y {a1 : Int32} {p : Nat → Int32} {o1 : Int32} (h : tr_Code_nameIn2 a1 p o1) : o1 = nI7 100 p a1 := by
  unfold nI7
  refine h (fun o1 => o1 = if 0 ≤ a1.toInt ∧ a1.toInt < 100 then p a1.toNatClampNeg else a1) ?_ ?_ ?_
  · intro h1
    rw [if_neg (fun z => by omega)]
  · intro h1 h2
    rw [if_neg (fun z => by omega)]
  · intro x1 h1 h2 h3
    rw [if_pos ⟨h1, h2⟩]; exact h3
theorem nI_c {k : Int} {p : Nat → Int32} {a : Int32} {x : Int} {K : Nat} (hp : ∀ u, u < K → (p u).toInt = col u) (hk : k = (K : Int)) (ha : a.toInt = x) (hx : x < k) : (nI7 k p a).toInt = cM col x := by
  unfold nI7 cM
  by_cases c : 0 ≤ x
  · rw [if_pos ⟨by omega, by omega⟩, if_pos c, nnE (show a.toInt = ((x.toNat : Nat) : Int) by omega)]
    exact hp _ (by omega)
  · rw [if_neg (fun z => by omega), if_neg c]; exact ha
theorem rnm_tl {Code_lines : Int32} {c1 : Nat → Int32} {s1 : Int32} {s2 : Nat → Int32} {s3 : Nat → Int32} {s4 : Nat → Int32} {k : Nat} {e1 : Nat → Int32} {e2 : Nat → Int32} {e3 : Nat → Int32} {x y z : Int32} (hi : (i : Int) < Code_lines.toInt) (h : tl_Code_rename_2 Code_lines c1 s1 s2 s3 s4 k e1 e2 e3) : ∀ m : Nat, s1.toInt = (m : Int) → ((m ≤ i → s2 i = x) → (i < m → s2 i = nI7 720 c1 x) → e1 i = nI7 720 c1 x) ∧ ((m ≤ i → s3 i = y) → (i < m → s3 i = nI7 720 c1 y) → e2 i = nI7 720 c1 y) ∧ ((m ≤ i → s4 i = z) → (i < m → s4 i = nI7 720 c1 z) → e3 i = nI7 720 c1 z) := by
  refine h (fun s1 s2 s3 s4 k e1 e2 e3 => ∀ m : Nat, s1.toInt = (m : Int) → ((m ≤ i → s2 i = x) → (i < m → s2 i = nI7 720 c1 x) → e1 i = nI7 720 c1 x) ∧ ((m ≤ i → s3 i = y) → (i < m → s3 i = nI7 720 c1 y) → e2 i = nI7 720 c1 y) ∧ ((m ≤ i → s4 i = z) → (i < m → s4 i = nI7 720 c1 z) → e3 i = nI7 720 c1 z)) ?_ ?_ ?_ ?_ ?_ ?_ ?_ ?_ ?_
  · intro l2_1 Code_set_1 Code_left_1 Code_right_1 h1 h2
    intro m hm
    exact ⟨fun _ q => q (by omega), fun _ q => q (by omega), fun _ q => q (by omega)⟩
  · intro l2_1 Code_set_1 Code_left_1 Code_right_1 x1 x2 x3 x4 x5 x6 x7 k e1 e2 e3 h1 h2 h3 h4 h5 h6 h7 h8 h9 h10 h11 h12 ih
    intro m hm
    obtain ⟨i1, i2, i3⟩ := ih (m + 1) (by rw [h12]; omega)
    have em : l2_1.toNatClampNeg = m := nnE hm
    refine ⟨?_, ?_, ?_⟩
    · refine fun q1 q2 => i1 (fun e => ?_) (fun e => ?_)
      · rw [h5, em, updN (by omega)]; exact q1 (by omega)
      · rw [h5, em]
        by_cases c : i = m
        · rw [c, updE, nmi_x h4, h3, em, ← c, q1 (by omega)]
        · rw [updN c]; exact q2 (by omega)
    · refine fun q1 q2 => i2 (fun e => ?_) (fun e => ?_)
      · rw [h8, em, updN (by omega)]; exact q1 (by omega)
      · rw [h8, em]
        by_cases c : i = m
        · rw [c, updE, nmi_x h7, h6, em, ← c, q1 (by omega)]
        · rw [updN c]; exact q2 (by omega)
    · refine fun q1 q2 => i3 (fun e => ?_) (fun e => ?_)
      · rw [h11, em, updN (by omega)]; exact q1 (by omega)
      · rw [h11, em]
        by_cases c : i = m
        · rw [c, updE, nmi_x h10, h9, em, ← c, q1 (by omega)]
        · rw [updN c]; exact q2 (by omega)
  · intro l2_1 Code_set_1 Code_left_1 Code_right_1 x1 x2 x3 x4 x5 x6 x7 x8 k e1 e2 e3 h1 h2 h3 h4 h5 h6 h7 h8 h9 h10 h11 h12 ih
    intro m hm
    obtain ⟨i1, i2, i3⟩ := ih (m + 1) (by rw [h12]; omega)
    have em : l2_1.toNatClampNeg = m := nnE hm
    refine ⟨?_, ?_, ?_⟩
    · refine fun q1 q2 => i1 (fun e => ?_) (fun e => ?_)
      · rw [h5, em, updN (by omega)]; exact q1 (by omega)
      · rw [h5, em]
        by_cases c : i = m
        · rw [c, updE, nmi_x h4, h3, em, ← c, q1 (by omega)]
        · rw [updN c]; exact q2 (by omega)
    · refine fun q1 q2 => i2 (fun e => ?_) (fun e => ?_)
      · rw [h8, em, updN (by omega)]; exact q1 (by omega)
      · rw [h8, em]
        by_cases c : i = m
        · rw [c, updE, nmi_x h7, h6, em, ← c, q1 (by omega)]
        · rw [updN c]; exact q2 (by omega)
    · refine fun q1 q2 => i3 (fun e => ?_) (fun e => ?_)
      · rw [h11, em, updN (by omega)]; exact q1 (by omega)
      · rw [h11, em]
        by_cases c : i = m
        · rw [c, updE, nmi_x h10, h9, em, ← c, q1 (by omega)]
        · rw [updN c]; exact q2 (by omega)
  · intro l2_1 Code_set_1 Code_left_1 Code_right_1 x1 x2 x3 x4 x5 x6 x7 x8 k e1 e2 e3 h1 h2 h3 h4 h5 h6 h7 h8 h9 h10 h11 h12 ih
    intro m hm
    obtain ⟨i1, i2, i3⟩ := ih (m + 1) (by rw [h12]; omega)
    have em : l2_1.toNatClampNeg = m := nnE hm
    refine ⟨?_, ?_, ?_⟩
    · refine fun q1 q2 => i1 (fun e => ?_) (fun e => ?_)
      · rw [h5, em, updN (by omega)]; exact q1 (by omega)
      · rw [h5, em]
        by_cases c : i = m
        · rw [c, updE, nmi_x h4, h3, em, ← c, q1 (by omega)]
        · rw [updN c]; exact q2 (by omega)
    · refine fun q1 q2 => i2 (fun e => ?_) (fun e => ?_)
      · rw [h8, em, updN (by omega)]; exact q1 (by omega)
      · rw [h8, em]
        by_cases c : i = m
        · rw [c, updE, nmi_x h7, h6, em, ← c, q1 (by omega)]
        · rw [updN c]; exact q2 (by omega)
    · refine fun q1 q2 => i3 (fun e => ?_) (fun e => ?_)
      · rw [h11, em, updN (by omega)]; exact q1 (by omega)
      · rw [h11, em]
        by_cases c : i = m
        · rw [c, updE, nmi_x h10, h9, em, ← c, q1 (by omega)]
        · rw [updN c]; exact q2 (by omega)
  · intro l2_1 Code_set_1 Code_left_1 Code_right_1 x1 x2 x3 x4 x5 x6 x7 x8 x9 k e1 e2 e3 h1 h2 h3 h4 h5 h6 h7 h8 h9 h10 h11 h12 ih
    intro m hm
    obtain ⟨i1, i2, i3⟩ := ih (m + 1) (by rw [h12]; omega)
    have em : l2_1.toNatClampNeg = m := nnE hm
    refine ⟨?_, ?_, ?_⟩
    · refine fun q1 q2 => i1 (fun e => ?_) (fun e => ?_)
      · rw [h5, em, updN (by omega)]; exact q1 (by omega)
      · rw [h5, em]
        by_cases c : i = m
        · rw [c, updE, nmi_x h4, h3, em, ← c, q1 (by omega)]
        · rw [updN c]; exact q2 (by omega)
    · refine fun q1 q2 => i2 (fun e => ?_) (fun e => ?_)
      · rw [h8, em, updN (by omega)]; exact q1 (by omega)
      · rw [h8, em]
        by_cases c : i = m
        · rw [c, updE, nmi_x h7, h6, em, ← c, q1 (by omega)]
        · rw [updN c]; exact q2 (by omega)
    · refine fun q1 q2 => i3 (fun e => ?_) (fun e => ?_)
      · rw [h11, em, updN (by omega)]; exact q1 (by omega)
      · rw [h11, em]
        by_cases c : i = m
        · rw [c, updE, nmi_x h10, h9, em, ← c, q1 (by omega)]
        · rw [updN c]; exact q2 (by omega)
  · intro l2_1 Code_set_1 Code_left_1 Code_right_1 x1 x2 x3 x4 x5 x6 x7 x8 k e1 e2 e3 h1 h2 h3 h4 h5 h6 h7 h8 h9 h10 h11 h12 ih
    intro m hm
    obtain ⟨i1, i2, i3⟩ := ih (m + 1) (by rw [h12]; omega)
    have em : l2_1.toNatClampNeg = m := nnE hm
    refine ⟨?_, ?_, ?_⟩
    · refine fun q1 q2 => i1 (fun e => ?_) (fun e => ?_)
      · rw [h5, em, updN (by omega)]; exact q1 (by omega)
      · rw [h5, em]
        by_cases c : i = m
        · rw [c, updE, nmi_x h4, h3, em, ← c, q1 (by omega)]
        · rw [updN c]; exact q2 (by omega)
    · refine fun q1 q2 => i2 (fun e => ?_) (fun e => ?_)
      · rw [h8, em, updN (by omega)]; exact q1 (by omega)
      · rw [h8, em]
        by_cases c : i = m
        · rw [c, updE, nmi_x h7, h6, em, ← c, q1 (by omega)]
        · rw [updN c]; exact q2 (by omega)
    · refine fun q1 q2 => i3 (fun e => ?_) (fun e => ?_)
      · rw [h11, em, updN (by omega)]; exact q1 (by omega)
      · rw [h11, em]
        by_cases c : i = m
        · rw [c, updE, nmi_x h10, h9, em, ← c, q1 (by omega)]
        · rw [updN c]; exact q2 (by omega)
  · intro l2_1 Code_set_1 Code_left_1 Code_right_1 x1 x2 x3 x4 x5 x6 x7 x8 x9 k e1 e2 e3 h1 h2 h3 h4 h5 h6 h7 h8 h9 h10 h11 h12 ih
    intro m hm
    obtain ⟨i1, i2, i3⟩ := ih (m + 1) (by rw [h12]; omega)
    have em : l2_1.toNatClampNeg = m := nnE hm
    refine ⟨?_, ?_, ?_⟩
    · refine fun q1 q2 => i1 (fun e => ?_) (fun e => ?_)
      · rw [h5, em, updN (by omega)]; exact q1 (by omega)
      · rw [h5, em]
        by_cases c : i = m
        · rw [c, updE, nmi_x h4, h3, em, ← c, q1 (by omega)]
        · rw [updN c]; exact q2 (by omega)
    · refine fun q1 q2 => i2 (fun e => ?_) (fun e => ?_)
      · rw [h8, em, updN (by omega)]; exact q1 (by omega)
      · rw [h8, em]
        by_cases c : i = m
        · rw [c, updE, nmi_x h7, h6, em, ← c, q1 (by omega)]
        · rw [updN c]; exact q2 (by omega)
    · refine fun q1 q2 => i3 (fun e => ?_) (fun e => ?_)
      · rw [h11, em, updN (by omega)]; exact q1 (by omega)
      · rw [h11, em]
        by_cases c : i = m
        · rw [c, updE, nmi_x h10, h9, em, ← c, q1 (by omega)]
        · rw [updN c]; exact q2 (by omega)
  · intro l2_1 Code_set_1 Code_left_1 Code_right_1 x1 x2 x3 x4 x5 x6 x7 x8 x9 k e1 e2 e3 h1 h2 h3 h4 h5 h6 h7 h8 h9 h10 h11 h12 ih
    intro m hm
    obtain ⟨i1, i2, i3⟩ := ih (m + 1) (by rw [h12]; omega)
    have em : l2_1.toNatClampNeg = m := nnE hm
    refine ⟨?_, ?_, ?_⟩
    · refine fun q1 q2 => i1 (fun e => ?_) (fun e => ?_)
      · rw [h5, em, updN (by omega)]; exact q1 (by omega)
      · rw [h5, em]
        by_cases c : i = m
        · rw [c, updE, nmi_x h4, h3, em, ← c, q1 (by omega)]
        · rw [updN c]; exact q2 (by omega)
    · refine fun q1 q2 => i2 (fun e => ?_) (fun e => ?_)
      · rw [h8, em, updN (by omega)]; exact q1 (by omega)
      · rw [h8, em]
        by_cases c : i = m
        · rw [c, updE, nmi_x h7, h6, em, ← c, q1 (by omega)]
        · rw [updN c]; exact q2 (by omega)
    · refine fun q1 q2 => i3 (fun e => ?_) (fun e => ?_)
      · rw [h11, em, updN (by omega)]; exact q1 (by omega)
      · rw [h11, em]
        by_cases c : i = m
        · rw [c, updE, nmi_x h10, h9, em, ← c, q1 (by omega)]
        · rw [updN c]; exact q2 (by omega)
  · intro l2_1 Code_set_1 Code_left_1 Code_right_1 x1 x2 x3 x4 x5 x6 x7 x8 x9 x10 k e1 e2 e3 h1 h2 h3 h4 h5 h6 h7 h8 h9 h10 h11 h12 ih
    intro m hm
    obtain ⟨i1, i2, i3⟩ := ih (m + 1) (by rw [h12]; omega)
    have em : l2_1.toNatClampNeg = m := nnE hm
    refine ⟨?_, ?_, ?_⟩
    · refine fun q1 q2 => i1 (fun e => ?_) (fun e => ?_)
      · rw [h5, em, updN (by omega)]; exact q1 (by omega)
      · rw [h5, em]
        by_cases c : i = m
        · rw [c, updE, nmi_x h4, h3, em, ← c, q1 (by omega)]
        · rw [updN c]; exact q2 (by omega)
    · refine fun q1 q2 => i2 (fun e => ?_) (fun e => ?_)
      · rw [h8, em, updN (by omega)]; exact q1 (by omega)
      · rw [h8, em]
        by_cases c : i = m
        · rw [c, updE, nmi_x h7, h6, em, ← c, q1 (by omega)]
        · rw [updN c]; exact q2 (by omega)
    · refine fun q1 q2 => i3 (fun e => ?_) (fun e => ?_)
      · rw [h11, em, updN (by omega)]; exact q1 (by omega)
      · rw [h11, em]
        by_cases c : i = m
        · rw [c, updE, nmi_x h10, h9, em, ← c, q1 (by omega)]
        · rw [updN c]; exact q2 (by omega)
theorem rnm_c {bl Code_lines : Int32} {fi fg sg op st lf ln rt rn p o1 o2 o3 : Nat → Int32} (hc : cdP bl Code_lines fi fg sg op st lf ln rt rn R) (hn : nmO R 720) (hp : ∀ u, u < 720 → (p u).toInt = col u) (h : tr_Code_rename Code_lines p st lf rt o1 o2 o3) : cdP bl Code_lines fi fg sg op o1 o2 ln o3 rn (rmP R col) := by
  obtain ⟨c1, c2, c3, c4⟩ := hc
  refine ⟨c1, c2, c3, fun b j hb hj => ?_⟩
  obtain ⟨d0, d1, d2, d3, d4, d5⟩ := c4 b j hb hj
  have hi : ((fsm R.2.1 b + j : Nat) : Int) < Code_lines.toInt := by
    have := fsm_lt (l := R.2.1) (show b < R.1 from hb) (show j < R.2.1 b from hj)
    omega
  obtain ⟨n1, n2, n4⟩ := hn b j hb hj
  refine h (fun o1 o2 o3 => (op (fsm R.2.1 b + j)).toInt = R.2.2.1 b j 0 ∧ (o1 (fsm R.2.1 b + j)).toInt = cM col (R.2.2.1 b j 1) ∧ (o2 (fsm R.2.1 b + j)).toInt = cM col (R.2.2.1 b j 2) ∧ (ln (fsm R.2.1 b + j)).toInt = R.2.2.1 b j 3 ∧ (o3 (fsm R.2.1 b + j)).toInt = cM col (R.2.2.1 b j 4) ∧ (rn (fsm R.2.1 b + j)).toInt = R.2.2.1 b j 5) ?_
  · intro x1 x2 x3 h1
    obtain ⟨i1, i2, i3⟩ := rnm_tl (x := st (fsm R.2.1 b + j)) (y := lf (fsm R.2.1 b + j)) (z := rt (fsm R.2.1 b + j)) hi h1 0 (by decide)
    rw [i1 (fun _ => rfl) (fun z => absurd z (Nat.not_lt_zero _)), i2 (fun _ => rfl) (fun z => absurd z (Nat.not_lt_zero _)), i3 (fun _ => rfl) (fun z => absurd z (Nat.not_lt_zero _))]
    exact ⟨d0, nI_c hp rfl d1 n1, nI_c hp rfl d2 n2, d3, nI_c hp rfl d4 n4, d5⟩
theorem rsl_tl {Code_lines : Int32} {Code_op : Nat → Int32} {c1 : Nat → Int32} {s1 : Int32} {s2 : Nat → Int32} {k : Nat} {e1 : Nat → Int32} {x : Int32} (hi : (i : Int) < Code_lines.toInt) (h : tl_Code_renameSlots_2 Code_lines Code_op c1 s1 s2 k e1) : ∀ m : Nat, s1.toInt = (m : Int) → (m ≤ i → s2 i = x) → (i < m → s2 i = (if (Code_op i).toInt = 17 ∨ (Code_op i).toInt = 18 then nI7 100 c1 x else x)) → e1 i = (if (Code_op i).toInt = 17 ∨ (Code_op i).toInt = 18 then nI7 100 c1 x else x) := by
  refine h (fun s1 s2 k e1 => ∀ m : Nat, s1.toInt = (m : Int) → (m ≤ i → s2 i = x) → (i < m → s2 i = (if (Code_op i).toInt = 17 ∨ (Code_op i).toInt = 18 then nI7 100 c1 x else x)) → e1 i = (if (Code_op i).toInt = 17 ∨ (Code_op i).toInt = 18 then nI7 100 c1 x else x)) ?_ ?_ ?_ ?_ ?_ ?_
  · intro l2_1 Code_rightNumber_1 h1 h2
    intro m hm q1 q2
    exact q2 (by omega)
  · intro l2_1 Code_rightNumber_1 x1 x2 x3 x4 k e1 h1 h2 h3 h4 h5 h6 h7 h8 h9 ih
    intro m hm q1 q2
    have em : l2_1.toNatClampNeg = m := nnE hm
    rw [em] at h3
    refine ih (m + 1) (by rw [h9]; omega) (fun e => ?_) (fun e => ?_)
    · rw [h8, em, updN (by omega)]; exact q1 (by omega)
    · rw [h8, em]
      by_cases c : i = m
      · have ex := q1 (by omega)
        rw [c] at ex
        rw [c, updE, nmi_y h7, h6, em, ex, if_pos (Or.inl (by rw [← h3]; exact h5))]
      · rw [updN c]; exact q2 (by omega)
  · intro l2_1 Code_rightNumber_1 x1 x2 x3 x4 x5 k e1 h1 h2 h3 h4 h5 h6 h7 h8 h9 ih
    intro m hm q1 q2
    have em : l2_1.toNatClampNeg = m := nnE hm
    rw [em] at h3
    refine ih (m + 1) (by rw [h9]; omega) (fun e => ?_) (fun e => ?_)
    · rw [h8, em, updN (by omega)]; exact q1 (by omega)
    · rw [h8, em]
      by_cases c : i = m
      · have ex := q1 (by omega)
        rw [c] at ex
        rw [c, updE, nmi_y h7, h6, em, ex, if_pos (Or.inl (by rw [← h3]; exact h5))]
      · rw [updN c]; exact q2 (by omega)
  · intro l2_1 Code_rightNumber_1 x1 x2 k e1 h1 h2 h3 h4 h5 h6 h7 ih
    intro m hm q1 q2
    have em : l2_1.toNatClampNeg = m := nnE hm
    rw [em] at h3
    refine ih (m + 1) (by rw [h7]; omega) (fun e => q1 (by omega)) (fun e => ?_)
    by_cases c : i = m
    · rw [q1 (by omega), c, if_neg (fun z => by rw [← h3] at z; omega)]
    · exact q2 (by omega)
  · intro l2_1 Code_rightNumber_1 x1 x2 x3 x4 k e1 h1 h2 h3 h4 h5 h6 h7 h8 h9 h10 ih
    intro m hm q1 q2
    have em : l2_1.toNatClampNeg = m := nnE hm
    rw [em] at h3
    refine ih (m + 1) (by rw [h10]; omega) (fun e => ?_) (fun e => ?_)
    · rw [h9, em, updN (by omega)]; exact q1 (by omega)
    · rw [h9, em]
      by_cases c : i = m
      · have ex := q1 (by omega)
        rw [c] at ex
        rw [c, updE, nmi_y h8, h7, em, ex, if_pos (Or.inr (by rw [← h3]; exact h6))]
      · rw [updN c]; exact q2 (by omega)
  · intro l2_1 Code_rightNumber_1 x1 x2 x3 x4 x5 k e1 h1 h2 h3 h4 h5 h6 h7 h8 h9 h10 ih
    intro m hm q1 q2
    have em : l2_1.toNatClampNeg = m := nnE hm
    rw [em] at h3
    refine ih (m + 1) (by rw [h10]; omega) (fun e => ?_) (fun e => ?_)
    · rw [h9, em, updN (by omega)]; exact q1 (by omega)
    · rw [h9, em]
      by_cases c : i = m
      · have ex := q1 (by omega)
        rw [c] at ex
        rw [c, updE, nmi_y h8, h7, em, ex, if_pos (Or.inr (by rw [← h3]; exact h6))]
      · rw [updN c]; exact q2 (by omega)
theorem ars_tr {a1 a2 Graph_names Graph_words o1 : Int32} {Graph_joined : Nat → Int64} (gN : Graph_names.toInt = (Nm : Int)) (gW : Graph_words.toInt = (W : Int)) (gNW : Nm ≤ 64 * W) (gJ : ∀ x y, x < Nm → y < 64 * W → (gbit Graph_joined (64 * (x * W) + y) = true ↔ J x y)) (hv : a1.toInt = (v : Int)) (hu : a2.toInt = (u : Int)) (hv2 : v < Nm) (hu2 : u < Nm) (h : tr_Graph_areJoined a1 a2 Graph_names Graph_words Graph_joined o1) : o1.toInt ≠ 0 ↔ J v u := by
  refine h (fun o1 => o1.toInt ≠ 0 ↔ J v u) ?_ ?_ ?_ ?_ ?_ ?_
  · intro h1
    omega
  · intro h1 h2
    omega
  · intro h1 h2 h3
    omega
  · intro h1 h2 h3 h4
    omega
  · intro x1 x2 x3 x4 x5 x6 h1 h2 h3 h4 h5 h6 h7 h8 h9 h10 h11
    have ep : x1.toInt = ((v * W : Nat) : Int) := by rw [h5, hv, gW]; exact (Int.natCast_mul _ _).symm
    have tb := tst_bit (f := Graph_joined) (a := v * W) (m := u) (i := x3) (by omega) hu h8 h9 h10
    have gj := gJ v u hv2 (by omega)
    rw [px_0]
    exact ⟨fun y => absurd rfl y, fun y => by rw [← gj, tb.mp h11] at y; cases y⟩
  · intro x1 x2 x3 x4 x5 x6 h1 h2 h3 h4 h5 h6 h7 h8 h9 h10 h11
    have ep : x1.toInt = ((v * W : Nat) : Int) := by rw [h5, hv, gW]; exact (Int.natCast_mul _ _).symm
    have tb := tst_bit (f := Graph_joined) (a := v * W) (m := u) (i := x3) (by omega) hu h8 h9 h10
    have gj := gJ v u hv2 (by omega)
    rw [px_1]
    refine ⟨fun _ => gj.mp ?_, fun _ => by decide⟩
    cases e : gbit Graph_joined (64 * (v * W) + u)
    · exact absurd (tb.mpr e) h11
    · rfl
theorem itk_tl {a1 : Int32} {Giver_sharedSlot : Nat → Int32} {a2 : Int32} {Graph_names : Int32} {Graph_words : Int32} {Graph_joined : Nat → Int64} {s1 : Int32} {k : Nat} (gN : Graph_names.toInt = (Nm : Int)) (gW : Graph_words.toInt = (W : Int)) (gNW : Nm ≤ 64 * W) (gJ : ∀ x y, x < Nm → y < 64 * W → (gbit Graph_joined (64 * (x * W) + y) = true ↔ J x y)) (hs : a1.toInt = (s : Int)) (hs2 : s < Nm) (h : tl_Giver_isTakenAround_2 a1 Giver_sharedSlot a2 Graph_names Graph_words Graph_joined s1 k) : ∀ m : Nat, s1.toInt = (m : Int) → (k = 29 → ∃ t, t < s ∧ (Giver_sharedSlot t).toInt = a2.toInt ∧ J s t) ∧ (k = 37 → ∀ t, m ≤ t → t < s → (Giver_sharedSlot t).toInt = a2.toInt → ¬ J s t) := by
  refine h (fun s1 k => ∀ m : Nat, s1.toInt = (m : Int) → (k = 29 → ∃ t, t < s ∧ (Giver_sharedSlot t).toInt = a2.toInt ∧ J s t) ∧ (k = 37 → ∀ t, m ≤ t → t < s → (Giver_sharedSlot t).toInt = a2.toInt → ¬ J s t)) ?_ ?_ ?_ ?_
  · intro l3_1 h1 h2
    intro m hm
    exact ⟨fun z => (nomatch z), fun _ t h1 h2 => by omega⟩
  · intro l3_1 x1 x2 k h1 h2 h3 h4 h5 ih
    intro m hm
    obtain ⟨i1, i2⟩ := ih (m + 1) (by rw [h5]; omega)
    refine ⟨i1, fun e37 t h1t h2t z => ?_⟩
    by_cases e : t = m
    · have z2 : (Giver_sharedSlot m).toInt = a2.toInt := by rw [← e]; exact z
      rw [← nnE hm, ← h3] at z2
      exact absurd z2 h4
    · exact i2 e37 t (by omega) h2t z
  · intro l3_1 x1 x2 k h1 h2 h3 h4 h5 h6 ih
    intro m hm
    obtain ⟨i1, i2⟩ := ih (m + 1) (by rw [h6]; omega)
    refine ⟨i1, fun e37 t h1t h2t z => ?_⟩
    by_cases e : t = m
    · rw [e]
      exact fun y => (ars_tr gN gW gNW gJ hs hm hs2 (by omega) h5).mpr y (by decide)
    · exact i2 e37 t (by omega) h2t z
  · intro l3_1 x1 h1 h2 h3 h4 h5
    intro m hm
    refine ⟨fun _ => ⟨m, by omega, ?_, ?_⟩, fun z => (nomatch z)⟩
    · rw [← nnE hm, ← h3]; exact h4
    · exact (ars_tr gN gW gNW gJ hs hm hs2 (by omega) h5).mp (by decide)
theorem itk_tr {a1 : Int32} {a2 : Int32} {Graph_names : Int32} {Graph_words : Int32} {Giver_sharedSlot : Nat → Int32} {Graph_joined : Nat → Int64} {o1 : Int32} (gN : Graph_names.toInt = (Nm : Int)) (gW : Graph_words.toInt = (W : Int)) (gNW : Nm ≤ 64 * W) (gJ : ∀ x y, x < Nm → y < 64 * W → (gbit Graph_joined (64 * (x * W) + y) = true ↔ J x y)) (hs : a1.toInt = (s : Int)) (hs2 : s < Nm) (h : tr_Giver_isTakenAround a1 a2 Graph_names Graph_words Giver_sharedSlot Graph_joined o1) : (o1.toInt ≠ 0 → ∃ t, t < s ∧ (Giver_sharedSlot t).toInt = a2.toInt ∧ J s t) ∧ (o1.toInt = 0 → ∀ t, t < s → (Giver_sharedSlot t).toInt = a2.toInt → ¬ J s t) := by
  refine h (fun o1 => (o1.toInt ≠ 0 → ∃ t, t < s ∧ (Giver_sharedSlot t).toInt = a2.toInt ∧ J s t) ∧ (o1.toInt = 0 → ∀ t, t < s → (Giver_sharedSlot t).toInt = a2.toInt → ¬ J s t)) ?_ ?_
  · intro h1
    exact ⟨fun z => absurd (by decide) z, fun _ t ht => (itk_tl gN gW gNW gJ hs hs2 h1 0 (by decide)).2 rfl t (Nat.zero_le _) ht⟩
  · intro h1
    exact ⟨fun _ => (itk_tl gN gW gNW gJ hs hs2 h1 0 (by decide)).1 rfl, fun z => absurd z (by decide)⟩
theorem sh34_tl {l1_1 : Int32} {c1 : Int32} {c2 : Int32} {Giver_sharedSlot_1 : Nat → Int32} {c3 : Nat → Int64} {s1 : Int32} {k : Nat} {e1 : Int32} (gN : c1.toInt = (Nm : Int)) (gW : c2.toInt = (W : Int)) (gNW : Nm ≤ 64 * W) (gJ : ∀ x y, x < Nm → y < 64 * W → (gbit c3 (64 * (x * W) + y) = true ↔ J x y)) (hs : l1_1.toInt = (s : Int)) (hs2 : s < Nm) (h : tl_Giver_shareSlots_34 l1_1 c1 c2 Giver_sharedSlot_1 c3 s1 k e1) : ∀ m : Nat, s1.toInt = (m : Int) → m ≤ s → (∀ d, d < m → ∃ u, u < s ∧ (Giver_sharedSlot_1 u).toInt = (d : Int) ∧ J s u) → ∃ c : Nat, e1.toInt = (c : Int) ∧ c ≤ s ∧ (∀ d, d < c → ∃ u, u < s ∧ (Giver_sharedSlot_1 u).toInt = (d : Int) ∧ J s u) ∧ (c < s → ∀ u, u < s → (Giver_sharedSlot_1 u).toInt = (c : Int) → ¬ J s u) := by
  refine h (fun s1 k e1 => ∀ m : Nat, s1.toInt = (m : Int) → m ≤ s → (∀ d, d < m → ∃ u, u < s ∧ (Giver_sharedSlot_1 u).toInt = (d : Int) ∧ J s u) → ∃ c : Nat, e1.toInt = (c : Int) ∧ c ≤ s ∧ (∀ d, d < c → ∃ u, u < s ∧ (Giver_sharedSlot_1 u).toInt = (d : Int) ∧ J s u) ∧ (c < s → ∀ u, u < s → (Giver_sharedSlot_1 u).toInt = (c : Int) → ¬ J s u)) ?_ ?_ ?_
  · intro l2_2 h1 h2
    intro m hm hms hd
    exact ⟨m, hm, hms, hd, fun z => by omega⟩
  · intro l2_2 x1 h1 h2 h3 h4 h5
    intro m hm hms hd
    exact ⟨m, hm, hms, hd, fun _ u hu z => (itk_tr gN gW gNW gJ hs hs2 h4).2 h5 u hu (by rw [z, hm])⟩
  · intro l2_2 x1 x2 k e1 h1 h2 h3 h4 h5 h6 ih
    intro m hm hms hd
    refine ih (m + 1) (by rw [h6]; omega) (by omega) (fun d hdm => ?_)
    by_cases e : d = m
    · obtain ⟨u, y1, y2, y3⟩ := (itk_tr gN gW gNW gJ hs hs2 h4).1 h5
      exact ⟨u, y1, by rw [y2, hm, e], y3⟩
    · exact hd d (by omega)
theorem sh18_tl {Giver_slots : Int32} {c1 : Int32} {c2 : Int32} {c3 : Nat → Int64} {s1 : Int32} {s2 : Int32} {s3 : Nat → Int32} {k : Nat} {e1 : Int32} {e2 : Nat → Int32} (gN : c1.toInt = (Nm : Int)) (gW : c2.toInt = (W : Int)) (gNW : Nm ≤ 64 * W) (gJ : ∀ x y, x < Nm → y < 64 * W → (gbit c3 (64 * (x * W) + y) = true ↔ J x y)) (hsl : Giver_slots.toInt = (sl : Int)) (hsl2 : sl ≤ 100) (hslN : sl ≤ Nm) (h : tl_Giver_shareSlots_18 Giver_slots c1 c2 c3 s1 s2 s3 k e1 e2) : ∀ t : Nat, s1.toInt = (t : Int) → t ≤ sl → (∀ u, u < t → (s3 u).toInt = shN J t u ∧ 0 ≤ (s3 u).toInt ∧ (s3 u).toInt ≤ (u : Int)) → ∀ u, u < sl → (e2 u).toInt = shN J sl u ∧ 0 ≤ (e2 u).toInt ∧ (e2 u).toInt ≤ (u : Int) := by
  refine h (fun s1 s2 s3 k e1 e2 => ∀ t : Nat, s1.toInt = (t : Int) → t ≤ sl → (∀ u, u < t → (s3 u).toInt = shN J t u ∧ 0 ≤ (s3 u).toInt ∧ (s3 u).toInt ≤ (u : Int)) → ∀ u, u < sl → (e2 u).toInt = shN J sl u ∧ 0 ≤ (e2 u).toInt ∧ (e2 u).toInt ≤ (u : Int)) ?_ ?_ ?_
  · intro l1_1 Giver_sharedSlots_1 Giver_sharedSlot_1 h1 h2
    intro t ht htl hu
    have e : t = sl := by omega
    rw [e] at hu
    exact hu
  · intro l1_1 Giver_sharedSlots_1 Giver_sharedSlot_1 h1 h2 h3
    intro t ht htl hu
    omega
  · intro l1_1 Giver_sharedSlots_1 Giver_sharedSlot_1 x1 x2 x3 x4 x5 k e1 e2 h1 h2 h3 h4 h5 h6 h7 h8 ih
    intro t ht htl hu
    obtain ⟨c, y1, y2, y3, y4⟩ := sh34_tl (s := t) gN gW gNW gJ ht (by omega) h4 0 (by decide) (Nat.zero_le _) (fun d hd => absurd hd (Nat.not_lt_zero d))
    have lc : lcl J (shN J t) t = c := shN_l (g := fun u => (Giver_sharedSlot_1 u).toInt) (fun u hu1 => (hu u hu1).1) (fun u hu1 => (hu u hu1).2.2) y2 y3 y4
    refine ih (t + 1) (by rw [h8]; omega) (by omega) (fun u hu1 => ?_)
    rw [h5, nnE ht]
    by_cases e : u = t
    · rw [e, updE, shN_e, lc]
      exact ⟨y1, by omega, by omega⟩
    · rw [updN e, shN_n e]
      exact hu u (by omega)
theorem shN_J {J K : Nat → Nat → Prop} (N : Nat) (h : ∀ v u, v < N → u < N → (J v u ↔ K v u)) : ∀ t, t ≤ N → shN J t = shN K t
  | 0, _ => rfl
  | t + 1, ht => by
    have i := shN_J N h t (by omega)
    have e : lcl J (shN J t) t = lcl K (shN K t) t := by
      rw [i]
      unfold lcl
      congr 1
      funext c
      apply propext
      unfold isLc
      have hk : ∀ u (x : Int), 0 ≤ x → shN K t u = x → u < N := fun u x hx e => Classical.byContradiction fun z => by rw [shN_hi t (by omega)] at e; omega
      constructor
      · exact fun ⟨a1, a2⟩ => ⟨fun u hu e => a1 u ((h t u (by omega) (hk u _ (by omega) e)).mpr hu) e, fun d hd => (a2 d hd).elim fun u q => ⟨u, (h t u (by omega) (hk u _ (by omega) q.2)).mp q.1, q.2⟩⟩
      · exact fun ⟨a1, a2⟩ => ⟨fun u hu e => a1 u ((h t u (by omega) (hk u _ (by omega) e)).mp hu) e, fun d hd => (a2 d hd).elim fun u q => ⟨u, (h t u (by omega) (hk u _ (by omega) q.2)).mpr q.1, q.2⟩⟩
    funext u
    by_cases c : u = t
    · rw [c, shN_e, shN_e, e]
    · rw [shN_n c, shN_n c, i]
theorem rsr_c {Code_lines : Int32} {p op rn o1 : Nat → Int32} (hi : (i : Int) < Code_lines.toInt) (h : tr_Code_renameSlots Code_lines p op rn o1) : o1 i = if (op i).toInt = 17 ∨ (op i).toInt = 18 then nI7 100 p (rn i) else rn i := by
  refine h (fun o1 => o1 i = if (op i).toInt = 17 ∨ (op i).toInt = 18 then nI7 100 p (rn i) else rn i) ?_
  · intro x1 h1
    exact rsl_tl hi h1 0 (by decide) (fun _ => rfl) (fun z => absurd z (Nat.not_lt_zero _))
theorem shr_c {Giver_slots : Int32} {Giver_sharedSlots : Int32} {Giver_sharedSlot : Nat → Int32} {Code_blocks : Int32} {Code_lines : Int32} {Graph_joined : Nat → Int64} {Graph_standing : Nat → Int64} {Graph_degree : Nat → Int32} {Code_first : Nat → Int32} {Code_firstGoal : Nat → Int32} {Code_secondGoal : Nat → Int32} {Code_op : Nat → Int32} {Code_set : Nat → Int32} {Code_left : Nat → Int32} {Code_right : Nat → Int32} {Code_rightNumber : Nat → Int32} {Live_in : Nat → Int64} {Live_used : Nat → Int64} {Live_set : Nat → Int64} {Live_now : Nat → Int64} {o1 : Int32} {o2 : Int32} {o3 : Int32} {o4 : Nat → Int32} {o5 : Int32} {o6 : Int32} {o7 : Int32} {o8 : Nat → Int64} {o9 : Nat → Int64} {o10 : Nat → Int32} {o11 : Nat → Int32} {o12 : Nat → Int64} {o13 : Nat → Int64} {o14 : Nat → Int64} {o15 : Nat → Int64} {cln : Nat → Int32} (hc : cdP Code_blocks Code_lines Code_first Code_firstGoal Code_secondGoal Code_op Code_set Code_left cln Code_right Code_rightNumber R) (hsl : Giver_slots.toInt = (sl : Int)) (hsl2 : sl ≤ 100) (hso : soO R sl) (h : tr_Giver_shareSlots Giver_slots Giver_sharedSlots Giver_sharedSlot Code_blocks Code_lines Graph_joined Graph_standing Graph_degree Code_first Code_firstGoal Code_secondGoal Code_op Code_set Code_left Code_right Code_rightNumber Live_in Live_used Live_set Live_now o1 o2 o3 o4 o5 o6 o7 o8 o9 o10 o11 o12 o13 o14 o15) : cdP Code_blocks Code_lines Code_first Code_firstGoal Code_secondGoal Code_op Code_set Code_left cln Code_right o11 (shP R (shN (Jn R true 2000) sl)) := by
  refine h (fun o1 o2 o3 o4 o5 o6 o7 o8 o9 o10 o11 o12 o13 o14 o15 => cdP Code_blocks Code_lines Code_first Code_firstGoal Code_secondGoal Code_op Code_set Code_left cln Code_right o11 (shP R (shN (Jn R true 2000) sl))) ?_
  · intro x1 x2 x3 x4 x5 x6 x7 x8 x9 x10 x11 x12 x13 x14 x15 h1 h2 h3 h4 h5 h6 h7 h8
    obtain ⟨e1, e2, -, -, e3, -⟩ := gb_tr (sl := true) hc hsl (by omega) (by decide) h6
    have gJ : ∀ x y, x < sl → y < 64 * ((sl + 63) / 64) → (gbit x6 (64 * (x * ((sl + 63) / 64)) + y) = true ↔ Jn R true sl x y) := e3
    have sh := sh18_tl (J := Jn R true sl) e1 e2 (by omega) gJ hsl hsl2 (Nat.le_refl _) h7 0 (by decide) (Nat.zero_le _) (fun u hu => absurd hu (Nat.not_lt_zero u))
    obtain ⟨c1, c2, c3, c4⟩ := hc
    refine ⟨c1, c2, c3, fun b j hb hj => ?_⟩
    obtain ⟨d0, d1, d2, d3, d4, d5⟩ := c4 b j hb hj
    refine ⟨d0, d1, d2, d3, d4, ?_⟩
    have hi : ((fsm R.2.1 b + j : Nat) : Int) < Code_lines.toInt := by
      have := fsm_lt (l := R.2.1) (show b < R.1 from hb) (show j < R.2.1 b from hj)
      omega
    have q := rsr_c hi h8
    show (x15 (fsm R.2.1 b + j)).toInt = shL (shN (Jn R true 2000) sl) (R.2.2.1 b j) 5
    rw [q, d0]
    by_cases c : R.2.2.1 b j 0 = 17 ∨ R.2.2.1 b j 0 = 18
    · obtain ⟨z0, z1⟩ := hso b j hb hj c
      rw [if_pos c, shL_5 c]
      unfold nI7
      rw [if_pos ⟨by omega, by omega⟩, nnE (show (Code_rightNumber (fsm R.2.1 b + j)).toInt = (((R.2.2.1 b j 5).toNat : Nat) : Int) by omega), (sh _ (by omega)).1]
      exact congrFun (shN_J sl (fun v u hv hu => ⟨Jn_N (by omega) (by omega) (by omega) (by omega), Jn_N hv hu (by omega) (by omega)⟩) sl (Nat.le_refl _)) _
    · rw [if_neg c, shL_5n c]
      exact d5
theorem bgd_tr {Code_blocks : Int32} {Code_lines : Int32} {Giver_slotOf : Nat → Int32} {Code_first : Nat → Int32} {Code_firstGoal : Nat → Int32} {Code_secondGoal : Nat → Int32} {Code_op : Nat → Int32} {Code_set : Nat → Int32} {Code_left : Nat → Int32} {Code_leftNumber : Nat → Int32} {Code_right : Nat → Int32} {Code_rightNumber : Nat → Int32} {Code_first2 : Nat → Int32} {Code_firstGoal2 : Nat → Int32} {Code_secondGoal2 : Nat → Int32} {Code_op2 : Nat → Int32} {Code_set2 : Nat → Int32} {Code_left2 : Nat → Int32} {Code_leftNumber2 : Nat → Int32} {Code_right2 : Nat → Int32} {Code_rightNumber2 : Nat → Int32} {Live_in : Nat → Int64} {Live_used : Nat → Int64} {Live_set : Nat → Int64} {Live_now : Nat → Int64} {o1 : Int32} {o2 : Int32} {o3 : Int32} {o4 : Int32} {o5 : Int32} {o6 : Int32} {o7 : Nat → Int32} {o8 : Int32} {o9 : Int32} {o10 : Int32} {o11 : Int32} {o12 : Int32} {o13 : Int32} {o14 : Nat → Int32} {o15 : Nat → Int32} {o16 : Nat → Int32} {o17 : Nat → Int32} {o18 : Nat → Int32} {o19 : Nat → Int32} {o20 : Nat → Int32} {o21 : Nat → Int32} {o22 : Nat → Int32} {o23 : Nat → Int64} {o24 : Nat → Int64} {o25 : Nat → Int64} {o26 : Nat → Int64} (h : tr_Giver_begin Code_blocks Code_lines Giver_slotOf Code_first Code_firstGoal Code_secondGoal Code_op Code_set Code_left Code_leftNumber Code_right Code_rightNumber Code_first2 Code_firstGoal2 Code_secondGoal2 Code_op2 Code_set2 Code_left2 Code_leftNumber2 Code_right2 Code_rightNumber2 Live_in Live_used Live_set Live_now o1 o2 o3 o4 o5 o6 o7 o8 o9 o10 o11 o12 o13 o14 o15 o16 o17 o18 o19 o20 o21 o22 o23 o24 o25 o26) : o6.toInt = 0 := by
  refine h (fun o1 o2 o3 o4 o5 o6 o7 o8 o9 o10 o11 o12 o13 o14 o15 o16 o17 o18 o19 o20 o21 o22 o23 o24 o25 o26 => o6.toInt = 0) ?_
  · intro x1 x2 x3 x4 x5 x6 x7 x8 x9 x10 x11 x12 x13 x14 x15 x16 x17 x18 x19 x20 x21 x22 x23 h1 h2 h3 h4 h5 h6 h7 h8 h9 h10
    decide
theorem gvo_x {a2 : Int32} {Code_blocks : Int32} {Code_lines : Int32} {Graph_names : Int32} {Graph_words : Int32} {Colouring_restSize : Int32} {Colouring_pileSize : Int32} {Giver_slotOf : Nat → Int32} {Giver_sharedSlot : Nat → Int32} {Code_blocks2 : Int32} {Code_lines2 : Int32} {Code_isFull : Int32} {Code_first : Nat → Int32} {Code_firstGoal : Nat → Int32} {Code_secondGoal : Nat → Int32} {Code_op : Nat → Int32} {Code_set : Nat → Int32} {Code_left : Nat → Int32} {Code_leftNumber : Nat → Int32} {Code_right : Nat → Int32} {Code_rightNumber : Nat → Int32} {Loops_depth : Nat → Int32} {Graph_joined : Nat → Int64} {Graph_standing : Nat → Int64} {Graph_degree : Nat → Int32} {Colouring_weight : Nat → Int32} {Colouring_degree : Nat → Int32} {Colouring_rest : Nat → Int32} {Colouring_pile : Nat → Int32} {Colouring_colour : Nat → Int32} {Code_first2 : Nat → Int32} {Code_firstGoal2 : Nat → Int32} {Code_secondGoal2 : Nat → Int32} {Code_op2 : Nat → Int32} {Code_set2 : Nat → Int32} {Code_left2 : Nat → Int32} {Code_leftNumber2 : Nat → Int32} {Code_right2 : Nat → Int32} {Code_rightNumber2 : Nat → Int32} {Code_first3 : Nat → Int32} {Code_firstGoal3 : Nat → Int32} {Code_secondGoal3 : Nat → Int32} {Code_op3 : Nat → Int32} {Code_set3 : Nat → Int32} {Code_left3 : Nat → Int32} {Code_leftNumber3 : Nat → Int32} {Code_right3 : Nat → Int32} {Code_rightNumber3 : Nat → Int32} {Live_in : Nat → Int64} {Live_used : Nat → Int64} {Live_set : Nat → Int64} {Live_now : Nat → Int64} {o1 : Int32} {o2 : Int32} {o3 : Int32} {o4 : Int32} {o5 : Int32} {o6 : Int32} {o7 : Int32} {o8 : Int32} {o9 : Int32} {o10 : Int32} {o11 : Int32} {o12 : Nat → Int32} {o13 : Int32} {o14 : Int32} {o15 : Int32} {o16 : Int32} {o17 : Int32} {o18 : Int32} {o19 : Int32} {o20 : Int32} {o21 : Int32} {o22 : Nat → Int64} {o23 : Nat → Int64} {o24 : Nat → Int32} {o25 : Nat → Int32} {o26 : Nat → Int32} {o27 : Nat → Int32} {o28 : Nat → Int32} {o29 : Nat → Int32} {o30 : Nat → Int32} {o31 : Nat → Int32} {o32 : Nat → Int32} {o33 : Nat → Int32} {o34 : Nat → Int32} {o35 : Nat → Int32} {o36 : Nat → Int32} {o37 : Nat → Int32} {o38 : Nat → Int32} {o39 : Nat → Int32} {o40 : Nat → Int32} {o41 : Nat → Int32} {o42 : Nat → Int32} {o43 : Nat → Int32} {o44 : Nat → Int32} {o45 : Nat → Int32} {o46 : Nat → Int32} {o47 : Nat → Int32} {o48 : Nat → Int64} {o49 : Nat → Int64} {o50 : Nat → Int64} {o51 : Nat → Int64} {o52 : Nat → Int32} {B : Int → Int} {n : Int} (hB : bOk B n) (hP : okP B n P) (hc : cdP Code_blocks Code_lines Code_first Code_firstGoal Code_secondGoal Code_op Code_set Code_left Code_leftNumber Code_right Code_rightNumber P) (hdp : ∀ b, b < P.1 → (Loops_depth b).toInt = (dpt P b : Int)) (hk1 : 1 ≤ a2.toInt) (hk2 : a2.toInt ≤ 32) (h : tr_Giver_giveOut a2 Code_blocks Code_lines Graph_names Graph_words Colouring_restSize Colouring_pileSize Giver_slotOf Giver_sharedSlot Code_blocks2 Code_lines2 Code_isFull Code_first Code_firstGoal Code_secondGoal Code_op Code_set Code_left Code_leftNumber Code_right Code_rightNumber Loops_depth Graph_joined Graph_standing Graph_degree Colouring_weight Colouring_degree Colouring_rest Colouring_pile Colouring_colour Code_first2 Code_firstGoal2 Code_secondGoal2 Code_op2 Code_set2 Code_left2 Code_leftNumber2 Code_right2 Code_rightNumber2 Code_first3 Code_firstGoal3 Code_secondGoal3 Code_op3 Code_set3 Code_left3 Code_leftNumber3 Code_right3 Code_rightNumber3 Live_in Live_used Live_set Live_now o1 o2 o3 o4 o5 o6 o7 o8 o9 o10 o11 o12 o13 o14 o15 o16 o17 o18 o19 o20 o21 o22 o23 o24 o25 o26 o27 o28 o29 o30 o31 o32 o33 o34 o35 o36 o37 o38 o39 o40 o41 o42 o43 o44 o45 o46 o47 o48 o49 o50 o51 o52) : ∃ Z, GVr a2.toInt (dpt P) 40 1 (pgZ P) 100 0 o1.toInt Z ∧ ((o1.toInt ≠ -1 ∧ o7.toInt = 1 ∧ (soO Z.1 Z.2.2 → Z.2.2 ≤ 100 → nmO Z.1 720 → cdP o13 o14 o30 o31 o32 o33 o34 o35 o36 o37 o38 (fnP Z))) ∨ (o1.toInt = -1 ∧ o7.toInt = 0)) := by
  obtain ⟨f1, f2, f3, f4, f5, f6⟩ := okP_f hB hP
  have gi := gvI_Z hB hP
  refine h (fun o1 o2 o3 o4 o5 o6 o7 o8 o9 o10 o11 o12 o13 o14 o15 o16 o17 o18 o19 o20 o21 o22 o23 o24 o25 o26 o27 o28 o29 o30 o31 o32 o33 o34 o35 o36 o37 o38 o39 o40 o41 o42 o43 o44 o45 o46 o47 o48 o49 o50 o51 o52 => ∃ Z, GVr a2.toInt (dpt P) 40 1 (pgZ P) 100 0 o1.toInt Z ∧ ((o1.toInt ≠ -1 ∧ o7.toInt = 1 ∧ (soO Z.1 Z.2.2 → Z.2.2 ≤ 100 → nmO Z.1 720 → cdP o13 o14 o30 o31 o32 o33 o34 o35 o36 o37 o38 (fnP Z))) ∨ (o1.toInt = -1 ∧ o7.toInt = 0))) ?_ ?_ ?_ ?_
  · intro x1 x2 x3 x4 x5 x6 x7 x8 x9 x10 x11 x12 x13 x14 x15 x16 x17 x18 x19 x20 x21 x22 x23 x24 x25 x26 x27 x28 x29 x30 x31 x32 x33 x34 x35 x36 x37 x38 x39 x40 x41 x42 x43 x44 x45 x46 x47 x48 x49 x50 x51 x52 x53 x54 x55 x56 x57 x58 x59 x60 x61 x62 x63 x64 x65 x66 x67 x68 x69 x70 x71 x72 x73 x74 h1 h2 h3 h4 h5 h6 h7 h8 h9 h10 h11 h12 h13 h14
    obtain ⟨b1, b2, -, -⟩ := bg_tr hc f1 f2 f3 f4 h13
    obtain ⟨c1, c2, c3⟩ := bgs_tr h13
    obtain ⟨r, Z, r1, r2, r3⟩ := gv7_tl (dp := dpt P) hk1 hk2 h14 (pgZ P) 100 0 1 (by decide) (Nat.le_refl _) (by decide) c1 c2 (by decide) b2 gi hdp (fun v hv _ => c3 v hv)
    rw [r3 (by decide)] at r1
    exact ⟨Z, r1, Or.inr ⟨by decide, bgd_tr h13⟩⟩
  · intro x1 x2 x3 x4 x5 x6 x7 x8 x9 x10 x11 x12 x13 x14 x15 x16 x17 x18 x19 x20 x21 x22 x23 x24 x25 x26 x27 x28 x29 x30 x31 x32 x33 x34 x35 x36 x37 x38 x39 x40 x41 x42 x43 x44 x45 x46 x47 x48 x49 x50 x51 x52 x53 x54 x55 x56 x57 x58 x59 x60 x61 x62 x63 x64 x65 x66 x67 x68 x69 x70 x71 x72 x73 x74 h1 h2 h3 h4 h5 h6 h7 h8 h9 h10 h11 h12 h13 h14
    obtain ⟨b1, b2, -, -⟩ := bg_tr hc f1 f2 f3 f4 h13
    obtain ⟨c1, c2, c3⟩ := bgs_tr h13
    obtain ⟨r, Z, r1, r2, r3⟩ := gv7_tl (dp := dpt P) hk1 hk2 h14 (pgZ P) 100 0 1 (by decide) (Nat.le_refl _) (by decide) c1 c2 (by decide) b2 gi hdp (fun v hv _ => c3 v hv)
    rw [r3 (by decide)] at r1
    exact ⟨Z, r1, Or.inr ⟨by decide, bgd_tr h13⟩⟩
  · intro x1 x2 x3 x4 x5 x6 x7 x8 x9 x10 x11 x12 x13 x14 x15 x16 x17 x18 x19 x20 x21 x22 x23 x24 x25 x26 x27 x28 x29 x30 x31 x32 x33 x34 x35 x36 x37 x38 x39 x40 x41 x42 x43 x44 x45 x46 x47 x48 x49 x50 x51 x52 x53 x54 x55 x56 x57 x58 x59 x60 x61 x62 x63 x64 x65 x66 x67 x68 x69 x70 x71 x72 x73 x74 h1 h2 h3 h4 h5 h6 h7 h8 h9 h10 h11 h12 h13 h14
    obtain ⟨b1, b2, -, -⟩ := bg_tr hc f1 f2 f3 f4 h13
    obtain ⟨c1, c2, c3⟩ := bgs_tr h13
    obtain ⟨r, Z, r1, r2, r3⟩ := gv7_tl (dp := dpt P) hk1 hk2 h14 (pgZ P) 100 0 1 (by decide) (Nat.le_refl _) (by decide) c1 c2 (by decide) b2 gi hdp (fun v hv _ => c3 v hv)
    rw [r3 (by decide)] at r1
    exact ⟨Z, r1, Or.inr ⟨by decide, bgd_tr h13⟩⟩
  · intro x1 x2 x3 x4 x5 x6 x7 x8 x9 x10 x11 x12 x13 x14 x15 x16 x17 x18 x19 x20 x21 x22 x23 x24 x25 x26 x27 x28 x29 x30 x31 x32 x33 x34 x35 x36 x37 x38 x39 x40 x41 x42 x43 x44 x45 x46 x47 x48 x49 x50 x51 x52 x53 x54 x55 x56 x57 x58 x59 x60 x61 x62 x63 x64 x65 x66 x67 x68 x69 x70 x71 x72 x73 x74 x75 x76 x77 x78 x79 x80 x81 x82 x83 x84 x85 x86 x87 x88 x89 x90 x91 x92 x93 h1 h2 h3 h4 h5 h6 h7 h8 h9 h10 h11 h12 h13 h14 h15 h16 h17 h18 h19 h20 h21
    obtain ⟨b1, b2, -, -⟩ := bg_tr hc f1 f2 f3 f4 h13
    obtain ⟨c1, c2, c3⟩ := bgs_tr h13
    obtain ⟨r, Z, r1, r2, r3⟩ := gv7_tl (dp := dpt P) hk1 hk2 h14 (pgZ P) 100 0 1 (by decide) (Nat.le_refl _) (by decide) c1 c2 (by decide) b2 gi hdp (fun v hv _ => c3 v hv)
    obtain ⟨y1, y0, y2, y3, y4⟩ := r2 rfl
    rw [y1] at r1 y0
    exact ⟨Z, r1, Or.inl ⟨by omega, by decide, fun hs h100 hn => shr_c (rnm_c y2 hn y3 h15) y4 h100 (soO_rm hs) h21⟩⟩
end FNC
end
section
/-! INPUT: four bytes an int -/
section INC
variable {q n : Nat}
def i4 (t : Nat → Int32) (q : Nat) : Nat → Int32
  | 0 => 0
  | j + 1 => (i4 t q j <<< ((8 : Int32) &&& 31)) ||| (t (4 * q + j) &&& 255)
theorem i4_c {t u : Nat → Int32} : ∀ j, (∀ k, k < j → t (4 * q + k) = u (4 * q + k)) → i4 t q j = i4 u q j
  | 0, _ => rfl
  | j + 1, h => by
    show (i4 t q j <<< ((8 : Int32) &&& 31)) ||| (t (4 * q + j) &&& 255) = (i4 u q j <<< ((8 : Int32) &&& 31)) ||| (u (4 * q + j) &&& 255)
    rw [i4_c j (fun k hk => h k (by omega)), h j (by omega)]
theorem a255 (x : Int32) : (x &&& 255) &&& 255 = x &&& 255 := by
  apply Int32.toBitVec_inj.mp
  show (x.toBitVec &&& 255#32) &&& 255#32 = x.toBitVec &&& 255#32
  rw [BitVec.and_assoc, BitVec.and_self]
theorem by_x {a1 : Int32} {Tape_size : Int32} {Tape_bytes : Nat → Int32} {o1 : Int32} (h0 : 0 ≤ a1.toInt) (hl : a1.toInt < Tape_size.toInt) (h : tr_Tape_byteAt a1 Tape_size Tape_bytes o1) : o1 = Tape_bytes a1.toNatClampNeg &&& 255 := by
  refine h (fun o1 => o1 = Tape_bytes a1.toNatClampNeg &&& 255) ?_ ?_ ?_
  · intro h1
    omega
  · intro h1 h2
    omega
  · intro x1 x2 h1 h2 h3 h4 h5
    rw [h5, h3]
theorem it_tl {a1 : Int32} {Tape_size : Int32} {Tape_bytes : Nat → Int32} {s1 : Int32} {s2 : Int32} {k : Nat} {e1 : Int32} (ha : a1.toInt = ((4 * q : Nat) : Int)) (hl : ((4 * q + 4 : Nat) : Int) ≤ Tape_size.toInt) (h8192 : Tape_size.toInt ≤ 8192) (h : tl_Tape_intAt_4 a1 Tape_size Tape_bytes s1 s2 k e1) : ∀ j : Nat, s1.toInt = (j : Int) → j ≤ 4 → s2 = i4 Tape_bytes q j → e1 = i4 Tape_bytes q 4 := by
  refine h (fun s1 s2 k e1 => ∀ j : Nat, s1.toInt = (j : Int) → j ≤ 4 → s2 = i4 Tape_bytes q j → e1 = i4 Tape_bytes q 4) ?_ ?_
  · intro l3_1 l2_1 h1 h2
    intro j hj hj4 hs
    rw [hs, show j = 4 by omega]
  · intro l3_1 l2_1 x1 x2 x3 x4 x5 x6 k e1 h1 h2 h3 h4 h5 h6 h7 h8 h9 ih
    intro j hj hj4 hs
    have e2 : x2.toInt = ((4 * q + j : Nat) : Int) := by
      have q := gI_add h4 (show gB a1 0 8192 from ⟨by omega, by omega⟩) (show gB l3_1 0 4 from ⟨by omega, by omega⟩) (by decide) (by decide)
      omega
    have b := by_x (by omega) (by omega) h6
    refine ih (j + 1) (by rw [h9]; omega) (by omega) ?_
    rw [h8, h7, b, a255, h3, hs, nnE e2]
    rfl
theorem it_tr {a1 : Int32} {Tape_size : Int32} {Tape_bytes : Nat → Int32} {o1 : Int32} (ha : a1.toInt = ((4 * q : Nat) : Int)) (hl : ((4 * q + 4 : Nat) : Int) ≤ Tape_size.toInt) (h8192 : Tape_size.toInt ≤ 8192) (h : tr_Tape_intAt a1 Tape_size Tape_bytes o1) : o1 = i4 Tape_bytes q 4 := by
  refine h (fun o1 => o1 = i4 Tape_bytes q 4) ?_
  · intro x1 h1
    exact it_tl ha hl h8192 h1 0 (by decide) (by decide) rfl
theorem ti_tl {c1 : Int32} {Tape_size : Int32} {Tape_bytes : Nat → Int32} {s1 : Int32} {s2 : Nat → Int32} {k : Nat} {e1 : Nat → Int32} (hc : c1.toInt = (n : Int)) (hn : ((4 * n : Nat) : Int) ≤ Tape_size.toInt) (h8192 : Tape_size.toInt ≤ 8192) (h : tl_Machine_takeInput_20 c1 Tape_size Tape_bytes s1 s2 k e1) : ∀ m : Nat, s1.toInt = (m : Int) → (∀ q, q < m → s2 q = i4 Tape_bytes q 4) → ∀ q, q < n → e1 q = i4 Tape_bytes q 4 := by
  refine h (fun s1 s2 k e1 => ∀ m : Nat, s1.toInt = (m : Int) → (∀ q, q < m → s2 q = i4 Tape_bytes q 4) → ∀ q, q < n → e1 q = i4 Tape_bytes q 4) ?_ ?_
  · intro l2_1 Machine_given_1 h1 h2
    intro m hm hz q hq
    exact hz q (by omega)
  · intro l2_1 Machine_given_1 x1 x2 x3 x4 k e1 h1 h2 h3 h4 h5 h6 ih
    intro m hm hz
    refine ih (m + 1) (by rw [h6]; omega) (fun q hq => ?_)
    rw [h5, nnE hm]
    by_cases e : q = m
    · rw [e, updE]
      exact it_tr (by omega) (by omega) h8192 h4
    · rw [updN e]; exact hz q (by omega)
theorem ti_tr {Tape_size : Int32} {Machine_given : Nat → Int32} {Tape_bytes : Nat → Int32} {o1 : Int32} {o2 : Int32} {o3 : Nat → Int32} (h0 : 0 ≤ Tape_size.toInt) (h8192 : Tape_size.toInt ≤ 8192) (h : tr_Machine_takeInput Tape_size Machine_given Tape_bytes o1 o2 o3) : ∃ n : Nat, (n : Int) = Tape_size.toInt / 4 ∧ o1.toInt = (n : Int) ∧ o2.toInt = (n : Int) ∧ ∀ q, q < n → o3 q = i4 Tape_bytes q 4 := by
  refine h (fun o1 o2 o3 => ∃ n : Nat, (n : Int) = Tape_size.toInt / 4 ∧ o1.toInt = (n : Int) ∧ o2.toInt = (n : Int) ∧ ∀ q, q < n → o3 q = i4 Tape_bytes q 4) ?_
  · intro x1 x2 x3 h1 h2 h3
    have e2 : x2.toInt = Tape_size.toInt / 4 := by omega
    refine ⟨(Tape_size.toInt / 4).toNat, by omega, by omega, by omega, ti_tl (n := (Tape_size.toInt / 4).toNat) (by omega) (by omega) h8192 h3 0 (by decide) (fun q hq => absurd hq (Nat.not_lt_zero q))⟩
theorem inp_c {Tape_size : Int32} {Tape_bytes : Nat → Int32} {Machine_given : Nat → Int32} {o1 : Int32} {o2 : Int32} {o3 : Int32} {o4 : Nat → Int32} (h0 : 0 ≤ Tape_size.toInt) (h8192 : Tape_size.toInt ≤ 8192) (h : tr_SpillForge_input Tape_size Tape_bytes Machine_given o1 o2 o3 o4) : ∃ n : Nat, (n : Int) = Tape_size.toInt / 4 ∧ o3.toInt = (n : Int) ∧ ∀ q, q < n → o4 q = i4 Tape_bytes q 4 := by
  refine h (fun o1 o2 o3 o4 => ∃ n : Nat, (n : Int) = Tape_size.toInt / 4 ∧ o3.toInt = (n : Int) ∧ ∀ q, q < n → o4 q = i4 Tape_bytes q 4) ?_
  · intro x1 x2 x3 x4 h1 h2 h3 h4 h5
    obtain ⟨n, y1, y2, y3, y4⟩ := ti_tr h0 h8192 h3
    exact ⟨n, y1, y3, y4⟩
end INC
end
section
/-! listings: letters, digits -/
section LSD
variable {f f1 f2 : Nat → Int32} {a b : List Int32} {k n : Nat}
/-- the letters a are written behind the first k -/
def apd (a : List Int32) (k : Nat) (f f1 : Nat → Int32) : Prop := (∀ i, i < k → f1 i = f i) ∧ ∀ i, i < a.length → f1 (k + i) = a.getD i 0
theorem lgt_l {i : Nat} (h : i < a.length) : (a ++ b).getD i 0 = a.getD i 0 := by
  rw [List.getD_eq_getElem?_getD, List.getD_eq_getElem?_getD, List.getElem?_append_left h]
theorem lgt_r {i : Nat} : (a ++ b).getD (a.length + i) 0 = b.getD i 0 := by
  rw [List.getD_eq_getElem?_getD, List.getD_eq_getElem?_getD, List.getElem?_append_right (Nat.le_add_right _ _), Nat.add_sub_cancel_left]
theorem apd_0 : apd [] k f f := ⟨fun _ _ => rfl, fun i hi => absurd hi (Nat.not_lt_zero i)⟩
theorem apd_t (h : apd a k f f1) (g : apd b (k + a.length) f1 f2) : apd (a ++ b) k f f2 := by
  refine ⟨fun i hi => (g.1 i (by omega)).trans (h.1 i hi), fun i hi => ?_⟩
  rw [List.length_append] at hi
  by_cases c : i < a.length
  · rw [lgt_l c, g.1 _ (by omega)]; exact h.2 i c
  · obtain ⟨m, rfl⟩ : ∃ m, i = a.length + m := ⟨i - a.length, by omega⟩
    rw [lgt_r, ← g.2 m (by omega), Nat.add_assoc]
/-- letters j, .. of bs -/
def sgm (bs : List Int32) : Nat → Nat → List Int32
  | _, 0 => []
  | j, m + 1 => bs.getD j 0 :: sgm bs (j + 1) m
theorem sgm_c {x : Int32} : ∀ m j, sgm (x :: a) (j + 1) m = sgm a j m
  | 0, _ => rfl
  | m + 1, j => by
    show (x :: a).getD (j + 1) 0 :: sgm (x :: a) (j + 1 + 1) m = a.getD j 0 :: sgm a (j + 1) m
    rw [sgm_c m (j + 1), List.getD_cons_succ]
theorem sgm_l : ∀ a : List Int32, sgm a 0 a.length = a
  | [] => rfl
  | x :: a => by
    show (x :: a).getD 0 0 :: sgm (x :: a) (0 + 1) a.length = x :: a
    rw [sgm_c, sgm_l a, List.getD_cons_zero]
/-- how many digits a number below 10000000000 has -/
def dgl (n : Nat) : Nat := if n < 10 then 1 else if n < 100 then 2 else if n < 1000 then 3 else if n < 10000 then 4 else if n < 100000 then 5 else if n < 1000000 then 6 else if n < 10000000 then 7 else if n < 100000000 then 8 else if n < 1000000000 then 9 else 10
theorem dgl_1 (h1 : n < 10) : dgl n = 1 := by
  unfold dgl
  rw [if_pos h1]
theorem dgl_2 (h0 : 10 ≤ n) (h1 : n < 100) : dgl n = 2 := by
  unfold dgl
  rw [if_neg (by omega), if_pos h1]
theorem dgl_3 (h0 : 100 ≤ n) (h1 : n < 1000) : dgl n = 3 := by
  unfold dgl
  rw [if_neg (by omega), if_neg (by omega), if_pos h1]
theorem dgl_4 (h0 : 1000 ≤ n) (h1 : n < 10000) : dgl n = 4 := by
  unfold dgl
  rw [if_neg (by omega), if_neg (by omega), if_neg (by omega), if_pos h1]
theorem dgl_5 (h0 : 10000 ≤ n) (h1 : n < 100000) : dgl n = 5 := by
  unfold dgl
  rw [if_neg (by omega), if_neg (by omega), if_neg (by omega), if_neg (by omega), if_pos h1]
theorem dgl_6 (h0 : 100000 ≤ n) (h1 : n < 1000000) : dgl n = 6 := by
  unfold dgl
  rw [if_neg (by omega), if_neg (by omega), if_neg (by omega), if_neg (by omega), if_neg (by omega), if_pos h1]
theorem dgl_7 (h0 : 1000000 ≤ n) (h1 : n < 10000000) : dgl n = 7 := by
  unfold dgl
  rw [if_neg (by omega), if_neg (by omega), if_neg (by omega), if_neg (by omega), if_neg (by omega), if_neg (by omega), if_pos h1]
theorem dgl_8 (h0 : 10000000 ≤ n) (h1 : n < 100000000) : dgl n = 8 := by
  unfold dgl
  rw [if_neg (by omega), if_neg (by omega), if_neg (by omega), if_neg (by omega), if_neg (by omega), if_neg (by omega), if_neg (by omega), if_pos h1]
theorem dgl_9 (h0 : 100000000 ≤ n) (h1 : n < 1000000000) : dgl n = 9 := by
  unfold dgl
  rw [if_neg (by omega), if_neg (by omega), if_neg (by omega), if_neg (by omega), if_neg (by omega), if_neg (by omega), if_neg (by omega), if_neg (by omega), if_pos h1]
theorem dgl_10 (h0 : 1000000000 ≤ n) : dgl n = 10 := by
  unfold dgl
  rw [if_neg (by omega), if_neg (by omega), if_neg (by omega), if_neg (by omega), if_neg (by omega), if_neg (by omega), if_neg (by omega), if_neg (by omega), if_neg (by omega)]
theorem dgl_c (n : Nat) : (n < 10 ∧ dgl n = 1) ∨ ((10 ≤ n ∧ n < 100) ∧ dgl n = 2) ∨ ((100 ≤ n ∧ n < 1000) ∧ dgl n = 3) ∨ ((1000 ≤ n ∧ n < 10000) ∧ dgl n = 4) ∨ ((10000 ≤ n ∧ n < 100000) ∧ dgl n = 5) ∨ ((100000 ≤ n ∧ n < 1000000) ∧ dgl n = 6) ∨ ((1000000 ≤ n ∧ n < 10000000) ∧ dgl n = 7) ∨ ((10000000 ≤ n ∧ n < 100000000) ∧ dgl n = 8) ∨ ((100000000 ≤ n ∧ n < 1000000000) ∧ dgl n = 9) ∨ (1000000000 ≤ n ∧ dgl n = 10) := by
  have h : n < 10 ∨ (10 ≤ n ∧ n < 100) ∨ (100 ≤ n ∧ n < 1000) ∨ (1000 ≤ n ∧ n < 10000) ∨ (10000 ≤ n ∧ n < 100000) ∨ (100000 ≤ n ∧ n < 1000000) ∨ (1000000 ≤ n ∧ n < 10000000) ∨ (10000000 ≤ n ∧ n < 100000000) ∨ (100000000 ≤ n ∧ n < 1000000000) ∨ 1000000000 ≤ n := by omega
  rcases h with h | h | h | h | h | h | h | h | h | h
  · exact Or.inl ⟨h, dgl_1 h⟩
  · exact Or.inr (Or.inl ⟨h, dgl_2 h.1 h.2⟩)
  · exact Or.inr (Or.inr (Or.inl ⟨h, dgl_3 h.1 h.2⟩))
  · exact Or.inr (Or.inr (Or.inr (Or.inl ⟨h, dgl_4 h.1 h.2⟩)))
  · exact Or.inr (Or.inr (Or.inr (Or.inr (Or.inl ⟨h, dgl_5 h.1 h.2⟩))))
  · exact Or.inr (Or.inr (Or.inr (Or.inr (Or.inr (Or.inl ⟨h, dgl_6 h.1 h.2⟩)))))
  · exact Or.inr (Or.inr (Or.inr (Or.inr (Or.inr (Or.inr (Or.inl ⟨h, dgl_7 h.1 h.2⟩))))))
  · exact Or.inr (Or.inr (Or.inr (Or.inr (Or.inr (Or.inr (Or.inr (Or.inl ⟨h, dgl_8 h.1 h.2⟩)))))))
  · exact Or.inr (Or.inr (Or.inr (Or.inr (Or.inr (Or.inr (Or.inr (Or.inr (Or.inl ⟨h, dgl_9 h.1 h.2⟩))))))))
  · exact Or.inr (Or.inr (Or.inr (Or.inr (Or.inr (Or.inr (Or.inr (Or.inr (Or.inr (⟨h, dgl_10 h⟩)))))))))
theorem dgl_b : 1 ≤ dgl n ∧ dgl n ≤ 10 := by
  rcases dgl_c n with ⟨-, h⟩ | ⟨-, h⟩ | ⟨-, h⟩ | ⟨-, h⟩ | ⟨-, h⟩ | ⟨-, h⟩ | ⟨-, h⟩ | ⟨-, h⟩ | ⟨-, h⟩ | ⟨-, h⟩ <;> omega
theorem dgl_h (h : 100 ≤ n) (h2 : n < 10000000000) : dgl n = dgl (n / 100) + 2 := by
  have c : n < 1000 ∨ (1000 ≤ n ∧ n < 10000) ∨ (10000 ≤ n ∧ n < 100000) ∨ (100000 ≤ n ∧ n < 1000000) ∨ (1000000 ≤ n ∧ n < 10000000) ∨ (10000000 ≤ n ∧ n < 100000000) ∨ (100000000 ≤ n ∧ n < 1000000000) ∨ 1000000000 ≤ n := by omega
  rcases c with c | c | c | c | c | c | c | c
  · rw [dgl_3 h c, dgl_1 (by omega)]
  · rw [dgl_4 c.1 c.2, dgl_2 (by omega) (by omega)]
  · rw [dgl_5 c.1 c.2, dgl_3 (by omega) (by omega)]
  · rw [dgl_6 c.1 c.2, dgl_4 (by omega) (by omega)]
  · rw [dgl_7 c.1 c.2, dgl_5 (by omega) (by omega)]
  · rw [dgl_8 c.1 c.2, dgl_6 (by omega) (by omega)]
  · rw [dgl_9 c.1 c.2, dgl_7 (by omega) (by omega)]
  · rw [dgl_10 c, dgl_8 (by omega) (by omega)]
theorem dgl_u {j : Nat} (hj : j ≤ 9) (h1 : j = 9 ∨ n / 10 < 10 ^ j) (h2 : ∀ i, i < j → 10 ^ i ≤ n / 10) : dgl n = j + 1 := by
  have c : j = 0 ∨ j = 1 ∨ j = 2 ∨ j = 3 ∨ j = 4 ∨ j = 5 ∨ j = 6 ∨ j = 7 ∨ j = 8 ∨ j = 9 := by omega
  rcases c with c | c | c | c | c | c | c | c | c | c
  · subst c
    have b := h1.resolve_left (by omega)
    rw [show (10 : Nat) ^ 0 = 1 from rfl] at b
    exact dgl_1 (by omega)
  · subst c
    have a := h2 0 (by omega)
    rw [show (10 : Nat) ^ 0 = 1 from rfl] at a
    have b := h1.resolve_left (by omega)
    rw [show (10 : Nat) ^ 1 = 10 from rfl] at b
    exact dgl_2 (by omega) (by omega)
  · subst c
    have a := h2 1 (by omega)
    rw [show (10 : Nat) ^ 1 = 10 from rfl] at a
    have b := h1.resolve_left (by omega)
    rw [show (10 : Nat) ^ 2 = 100 from rfl] at b
    exact dgl_3 (by omega) (by omega)
  · subst c
    have a := h2 2 (by omega)
    rw [show (10 : Nat) ^ 2 = 100 from rfl] at a
    have b := h1.resolve_left (by omega)
    rw [show (10 : Nat) ^ 3 = 1000 from rfl] at b
    exact dgl_4 (by omega) (by omega)
  · subst c
    have a := h2 3 (by omega)
    rw [show (10 : Nat) ^ 3 = 1000 from rfl] at a
    have b := h1.resolve_left (by omega)
    rw [show (10 : Nat) ^ 4 = 10000 from rfl] at b
    exact dgl_5 (by omega) (by omega)
  · subst c
    have a := h2 4 (by omega)
    rw [show (10 : Nat) ^ 4 = 10000 from rfl] at a
    have b := h1.resolve_left (by omega)
    rw [show (10 : Nat) ^ 5 = 100000 from rfl] at b
    exact dgl_6 (by omega) (by omega)
  · subst c
    have a := h2 5 (by omega)
    rw [show (10 : Nat) ^ 5 = 100000 from rfl] at a
    have b := h1.resolve_left (by omega)
    rw [show (10 : Nat) ^ 6 = 1000000 from rfl] at b
    exact dgl_7 (by omega) (by omega)
  · subst c
    have a := h2 6 (by omega)
    rw [show (10 : Nat) ^ 6 = 1000000 from rfl] at a
    have b := h1.resolve_left (by omega)
    rw [show (10 : Nat) ^ 7 = 10000000 from rfl] at b
    exact dgl_8 (by omega) (by omega)
  · subst c
    have a := h2 7 (by omega)
    rw [show (10 : Nat) ^ 7 = 10000000 from rfl] at a
    have b := h1.resolve_left (by omega)
    rw [show (10 : Nat) ^ 8 = 100000000 from rfl] at b
    exact dgl_9 (by omega) (by omega)
  · subst c
    have a := h2 8 (by omega)
    rw [show (10 : Nat) ^ 8 = 100000000 from rfl] at a
    exact dgl_10 (by omega)
/-- as it is found from below: 10 ^ i is the first above it -/
theorem dgl_s {i : Nat} (h1 : 1 ≤ i) (hi : i ≤ 10) (h2 : i = 10 ∨ n < 10 ^ i) (h3 : ∀ j, 1 ≤ j → j < i → 10 ^ j ≤ n) : dgl n = i := by
  have c : i = 1 ∨ i = 2 ∨ i = 3 ∨ i = 4 ∨ i = 5 ∨ i = 6 ∨ i = 7 ∨ i = 8 ∨ i = 9 ∨ i = 10 := by omega
  rcases c with c | c | c | c | c | c | c | c | c | c
  · subst c
    have b := h2.resolve_left (by omega)
    rw [show (10 : Nat) ^ 1 = 10 from rfl] at b
    exact dgl_1 b
  · subst c
    have a := h3 1 (by omega) (by omega)
    rw [show (10 : Nat) ^ 1 = 10 from rfl] at a
    have b := h2.resolve_left (by omega)
    rw [show (10 : Nat) ^ 2 = 100 from rfl] at b
    exact dgl_2 a b
  · subst c
    have a := h3 2 (by omega) (by omega)
    rw [show (10 : Nat) ^ 2 = 100 from rfl] at a
    have b := h2.resolve_left (by omega)
    rw [show (10 : Nat) ^ 3 = 1000 from rfl] at b
    exact dgl_3 a b
  · subst c
    have a := h3 3 (by omega) (by omega)
    rw [show (10 : Nat) ^ 3 = 1000 from rfl] at a
    have b := h2.resolve_left (by omega)
    rw [show (10 : Nat) ^ 4 = 10000 from rfl] at b
    exact dgl_4 a b
  · subst c
    have a := h3 4 (by omega) (by omega)
    rw [show (10 : Nat) ^ 4 = 10000 from rfl] at a
    have b := h2.resolve_left (by omega)
    rw [show (10 : Nat) ^ 5 = 100000 from rfl] at b
    exact dgl_5 a b
  · subst c
    have a := h3 5 (by omega) (by omega)
    rw [show (10 : Nat) ^ 5 = 100000 from rfl] at a
    have b := h2.resolve_left (by omega)
    rw [show (10 : Nat) ^ 6 = 1000000 from rfl] at b
    exact dgl_6 a b
  · subst c
    have a := h3 6 (by omega) (by omega)
    rw [show (10 : Nat) ^ 6 = 1000000 from rfl] at a
    have b := h2.resolve_left (by omega)
    rw [show (10 : Nat) ^ 7 = 10000000 from rfl] at b
    exact dgl_7 a b
  · subst c
    have a := h3 7 (by omega) (by omega)
    rw [show (10 : Nat) ^ 7 = 10000000 from rfl] at a
    have b := h2.resolve_left (by omega)
    rw [show (10 : Nat) ^ 8 = 100000000 from rfl] at b
    exact dgl_8 a b
  · subst c
    have a := h3 8 (by omega) (by omega)
    rw [show (10 : Nat) ^ 8 = 100000000 from rfl] at a
    have b := h2.resolve_left (by omega)
    rw [show (10 : Nat) ^ 9 = 1000000000 from rfl] at b
    exact dgl_9 a b
  · subst c
    have a := h3 9 (by omega) (by omega)
    rw [show (10 : Nat) ^ 9 = 1000000000 from rfl] at a
    exact dgl_10 a
/-- digit q from the right, from the left -/
def dch (n q : Nat) : Int32 := Int32.ofNat (48 + n / 10 ^ q % 10)
def dgD (n q : Nat) : Int32 := dch n (dgl n - 1 - q)
def dgq (n : Nat) : Nat → Nat → List Int32
  | _, 0 => []
  | q, m + 1 => dgD n q :: dgq n (q + 1) m
def dgN (n : Nat) : List Int32 := dgq n 0 (dgl n)
/-- a number's letters -/
def dgI (x : Int) : List Int32 := if x < 0 then 45 :: dgN x.natAbs else dgN x.natAbs
theorem dgq_l : ∀ m q, (dgq n q m).length = m
  | 0, _ => rfl
  | m + 1, q => by
    show (dgq n (q + 1) m).length + 1 = m + 1
    rw [dgq_l m]
theorem dgq_g : ∀ m q i, i < m → (dgq n q m).getD i 0 = dgD n (q + i)
  | 0, _, i, h => absurd h (Nat.not_lt_zero i)
  | m + 1, q, 0, _ => rfl
  | m + 1, q, i + 1, h => by
    show (dgD n q :: dgq n (q + 1) m).getD (i + 1) 0 = dgD n (q + (i + 1))
    rw [List.getD_cons_succ, dgq_g m (q + 1) i (by omega), Nat.add_assoc, Nat.add_comm 1 i]
theorem dgN_l : (dgN n).length = dgl n := dgq_l _ _
theorem dgI_l {x : Int} : (dgI x).length ≤ 11 := by
  have b := dgl_b (n := x.natAbs)
  unfold dgI
  split
  · show (dgN x.natAbs).length + 1 ≤ 11
    rw [dgN_l]; omega
  · rw [dgN_l]; omega
theorem dgI_p {x : Int} (h : 0 ≤ x) : dgI x = dgN x.natAbs := if_neg (by omega)
theorem dgI_n {x : Int} (h : x < 0) : dgI x = 45 :: dgN x.natAbs := if_pos h
theorem dgI_2 {x : Int} (h : 0 ≤ x) (h2 : x ≤ 99) : (dgI x).length ≤ 2 := by
  rw [dgI_p h, dgN_l]
  rcases dgl_c x.natAbs with ⟨c, e⟩ | ⟨c, e⟩ | ⟨c, e⟩ | ⟨c, e⟩ | ⟨c, e⟩ | ⟨c, e⟩ | ⟨c, e⟩ | ⟨c, e⟩ | ⟨c, e⟩ | ⟨c, e⟩ <;> omega
theorem dch_t {q : Nat} : (dch n q).toInt = ((48 + n / 10 ^ q % 10 : Nat) : Int) := by
  have h : n / 10 ^ q % 10 < 10 := Nat.mod_lt _ (by decide)
  exact Int32.toInt_ofNat_of_lt (by omega)
theorem dch_h {q : Nat} : dch (n / 100) q = dch n (q + 2) := by
  have e : (10 : Nat) ^ (q + 2) = 10 ^ q * 100 := Nat.pow_add 10 q 2
  unfold dch
  rw [Nat.div_div_eq_div_mul, e, Nat.mul_comm]
theorem dch_0 : dch n 0 = Int32.ofNat (48 + n % 10) := by unfold dch; rw [Nat.pow_zero, Nat.div_one]
theorem dch_1 : dch n 1 = Int32.ofNat (48 + n / 10 % 10) := by unfold dch; rw [Nat.pow_one]
/-- letters: those of an operand, of a sign, of a line -/
def zlO (x n : Int) : List Int32 := if 0 ≤ x then 118 :: dgI x else dgI n
def zlS (o : Int) : List Int32 :=
  if o = 0 then [43] else if o = 1 then [45] else if o = 2 then [42] else if o = 3 then [47] else if o = 4 then [37] else if o = 5 then [38] else if o = 6 then [124] else if o = 7 then [94] else if o = 8 then [60, 60] else if o = 9 then [62, 62] else if o = 10 then [60] else if o = 11 then [60, 61] else if o = 12 then [61, 61] else [33, 61]
def zlE (l : Nat → Int) : List Int32 := if l 0 = 15 then [105, 110] else if l 0 = 17 then [115, 108, 111, 116, 32] ++ dgI (l 5) else zlO (l 2) (l 3) ++ (if l 0 ≤ 13 then ([32] ++ zlS (l 0) ++ [32]) ++ zlO (l 4) (l 5) else [])
def zlR (l : Nat → Int) : List Int32 := if l 0 = 16 then [115, 104, 111, 119, 32] ++ zlO (l 2) (l 3) else if l 0 = 18 then ([115, 108, 111, 116, 32] ++ dgI (l 5)) ++ ([32, 61, 32, 118] ++ dgI (l 2)) else (([118] ++ dgI (l 1)) ++ [32, 61, 32]) ++ zlE l
def zlF (g l : Nat → Int) : List Int32 := if l 0 = 21 then [114, 101, 116, 32] ++ zlO (l 2) (l 3) else if l 0 = 19 then [106, 117, 109, 112, 32, 98] ++ dgI (g 0) else (([105, 102, 32] ++ zlO (l 2) (l 3)) ++ ([32, 98] ++ dgI (g 0))) ++ ([32, 98] ++ dgI (g 1))
def zlN (g l : Nat → Int) : List Int32 := (if l 0 ≤ 18 then zlR l else zlF g l) ++ [10]
def zlJ (Q : gPg) (c : Nat) : Nat → List Int32
  | 0 => []
  | j + 1 => zlJ Q c j ++ zlN (Q.2.2.2 c) (Q.2.2.1 c j)
def zlK (Q : gPg) (c : Nat) : Nat → Nat → List Int32
  | _, 0 => []
  | j, m + 1 => zlN (Q.2.2.2 c) (Q.2.2.1 c j) ++ zlK Q c (j + 1) m
theorem zlK_J {Q : gPg} {c : Nat} : ∀ m j, zlJ Q c j ++ zlK Q c j m = zlJ Q c (j + m)
  | 0, _ => List.append_nil _
  | m + 1, j => by
    have i := zlK_J (Q := Q) (c := c) m (j + 1)
    rw [show j + (m + 1) = j + 1 + m by omega, ← i]
    show zlJ Q c j ++ (zlN (Q.2.2.2 c) (Q.2.2.1 c j) ++ zlK Q c (j + 1) m) = (zlJ Q c j ++ zlN (Q.2.2.2 c) (Q.2.2.1 c j)) ++ zlK Q c (j + 1) m
    rw [List.append_assoc]
theorem zlK_0 {Q : gPg} {c m : Nat} : zlK Q c 0 m = zlJ Q c m := by
  have i := zlK_J (Q := Q) (c := c) m 0
  rw [Nat.zero_add] at i
  exact i
/-- a block's listing, a program's -/
def zlG (Q : gPg) (c : Nat) : List Int32 := (([98] ++ dgI (c : Int)) ++ [58, 10]) ++ zlJ Q c (Q.2.1 c)
def zlB (Q : gPg) : Nat → List Int32
  | 0 => []
  | c + 1 => zlB Q c ++ zlG Q c
def zlM (Q : gPg) : Nat → Nat → List Int32
  | _, 0 => []
  | c, m + 1 => zlG Q c ++ zlM Q (c + 1) m
theorem zlM_B {Q : gPg} : ∀ m c, zlB Q c ++ zlM Q c m = zlB Q (c + m)
  | 0, _ => List.append_nil _
  | m + 1, c => by
    have i := zlM_B (Q := Q) m (c + 1)
    rw [show c + (m + 1) = c + 1 + m by omega, ← i]
    show zlB Q c ++ (zlG Q c ++ zlM Q (c + 1) m) = (zlB Q c ++ zlG Q c) ++ zlM Q (c + 1) m
    rw [List.append_assoc]
theorem zlM_0 {Q : gPg} {m : Nat} : zlM Q 0 m = zlB Q m := by
  have i := zlM_B (Q := Q) m 0
  rw [Nat.zero_add] at i
  exact i
end LSD
end
section
/-! the class's listing -/
section LSC
variable {a b : List Int32} {s s1 s2 : Int32} {f f1 f2 : Nat → Int32} {n : Nat} {Q : gPg} {l g : Nat → Int} {I : Nat}
def zlA (a : List Int32) (s : Int32) (f : Nat → Int32) (s1 : Int32) (f1 : Nat → Int32) : Prop := ∀ k : Nat, s.toInt = (k : Int) → k + a.length ≤ 16384 → s1.toInt = ((k + a.length : Nat) : Int) ∧ apd a k f f1
theorem zlA_0 : zlA [] s f s f := fun k hk _ => ⟨hk, apd_0⟩
theorem zlA_t (h : zlA a s f s1 f1) (g : zlA b s1 f1 s2 f2) : zlA (a ++ b) s f s2 f2 := fun k hk hl => by
  have e : (a ++ b).length = a.length + b.length := List.length_append
  rw [e] at hl ⊢
  obtain ⟨p1, p2⟩ := h k hk (by omega)
  obtain ⟨q1, q2⟩ := g (k + a.length) p1 (by omega)
  exact ⟨by omega, apd_t p2 q2⟩
theorem nar_c {c y : Int32} (h0 : 0 ≤ c.toInt) (h1 : c.toInt ≤ 127) (hy : y = c.toInt8.toInt32) : vp_nar .byte y = c := by
  have e : c.toInt8.toInt32.toInt = c.toInt := by
    rw [Int8.toInt_toInt32, Int32.toInt_toInt8]
    rw [Int.bmod_def]; split <;> omega
  have e2 : vp_nar .byte y = y.toInt8.toInt32 := rfl
  refine Int32.toInt_inj.mp ?_
  rw [e2, hy, Int8.toInt_toInt32, Int32.toInt_toInt8, e, Int.bmod_def]
  split <;> omega
theorem zlA_1 {c : Int32} (b0 : 0 ≤ c.toInt) (b1 : c.toInt ≤ 127) (h : tr_Listing_addByte c s f s1 f1) : zlA [c] s f s1 f1 := by
  refine h (fun s1 f1 => zlA [c] s f s1 f1) ?_ ?_
  · intro h1
    intro k hk hl
    have hl2 : k + 1 ≤ 16384 := hl
    omega
  · intro x1 x2 x3 h1 h2 h3 h4
    intro k hk hl
    rw [nnE hk] at h3
    refine ⟨by show x3.toInt = ((k + 1 : Nat) : Int); omega, fun i hi => ?_, fun i hi => ?_⟩
    · rw [h3, updN (by omega)]
    · have e : i = 0 := by have hi2 : i < 1 := hi; omega
      subst e
      show x2 (k + 0) = c
      rw [Nat.add_zero, h3, updE]
      exact nar_c b0 b1 h2
/-- plain letters -/
def azc (bs : List Int32) : Prop := ∀ j, j < bs.length → chr bs j = (bs.getD j 0).toInt ∧ chr bs j ≤ 127
theorem adt_l {bs : List Int32} {s1 : Int32} {s2 : Int32} {s3 : Nat → Int32} {k : Nat} {e1 : Int32} {e2 : Nat → Int32} (hb : azc bs) (h : tl_Listing_addText_2 bs s1 s2 s3 k e1 e2) : ∀ j m : Nat, s1.toInt = (j : Int) → j + m = bs.length → zlA (sgm bs j m) s2 s3 e1 e2 := by
  refine h (fun s1 s2 s3 _ e1 e2 => ∀ j m : Nat, s1.toInt = (j : Int) → j + m = bs.length → zlA (sgm bs j m) s2 s3 e1 e2) ?_ ?_
  · intro l2_1 Listing_size_1 Listing_bytes_1 x1 h1 h2 h3 h4 h5
    intro j m hj hm
    have q := ln_tr h4
    have e : m = 0 := by omega
    rw [e]
    exact zlA_0
  · intro l2_1 Listing_size_1 Listing_bytes_1 x1 x2 x3 x4 x5 k e1 e2 h1 h2 h3 h4 h5 h6 h7 h8 h9 h10 ih
    intro j m hj hm
    have q := ln_tr h4
    obtain ⟨m1, rfl⟩ : ∃ m1, m = m1 + 1 := ⟨m - 1, by omega⟩
    have q2 := ch_tr h7
    have ej : l2_1.toInt.toNat = j := by omega
    rw [ej] at q2
    obtain ⟨y1, y2⟩ := hb j (by omega)
    have y0 := (chr_lt (bs := bs) (j := j)).1
    have ex : x2 = bs.getD j 0 := Int32.toInt_inj.mp (q2.trans y1)
    have w := zlA_1 (by omega) (by omega) h9
    rw [ex] at w
    exact zlA_t w (ih (j + 1) m1 (by omega) (by omega))
theorem adt_tr {bs : List Int32} (hb : azc bs) (h : tr_Listing_addText bs s f s1 f1) : zlA bs s f s1 f1 := by
  refine h (fun s1 f1 => zlA bs s f s1 f1) ?_
  · intro x1 x2 h1
    have q := adt_l hb h1 0 bs.length (by decide) (Nat.zero_add _)
    rw [sgm_l] at q
    exact q
theorem d64 {x y z : Int64} {p q : Nat} (h : z = x / y) (hx : x.toInt = (p : Int)) (hy : y.toInt = (q : Int)) (hp : p ≤ 4294967296) : z.toInt = ((p / q : Nat) : Int) := by
  have e : (p : Int).tdiv (q : Int) = ((p / q : Nat) : Int) := (Int.ofNat_tdiv p q).symm
  have l := Nat.div_le_self p q
  rw [h, Int64.toInt_div, hx, hy, e]
  clear e
  generalize p / q = w at l ⊢
  exact px_64 (by omega) (by omega)
theorem zd10 : Int64.toInt 10 = ((10 : Nat) : Int) := by decide
theorem zd10i : Int64.toInt 10 = 10 := by decide
theorem zd48 : Int64.toInt 48 = 48 := by decide
theorem zz0 : Int64.toInt 0 = 0 := by decide
theorem abs_tr {x y : Int64} (hb : -4294967296 ≤ x.toInt) (h : tr_Math_abs x y) : y.toInt = (x.toInt.natAbs : Int) := by
  refine h (fun y => y.toInt = (x.toInt.natAbs : Int)) ?_ ?_
  · intro x1 h1 h2
    have q := px_cge h1 h2
    rw [zz0] at q
    omega
  · intro x1 x2 h1 h2 h3
    have q := px_clt h1 h2
    rw [zz0] at q
    have e : x2.toInt = -x.toInt := by
      rw [h3, Int64.toInt_neg]; exact px_64 (by omega) (by omega)
    omega
theorem n22 {c1 : Int64} {s1 : Int32} {s2 : Int64} {k : Nat} {e1 : Int64} (hn : n ≤ 4294967296) (hc : c1.toInt = (n : Int)) (h : tl_Listing_addNumber_22 c1 s1 s2 k e1) : ∀ j : Nat, s1.toInt = (j : Int) → s2.toInt = ((10 ^ j : Nat) : Int) → j ≤ 9 → (∀ i, i < j → 10 ^ i ≤ n / 10) → ∃ q : Nat, q ≤ 9 ∧ e1.toInt = ((10 ^ q : Nat) : Int) ∧ (q = 9 ∨ n / 10 < 10 ^ q) ∧ ∀ i, i < q → 10 ^ i ≤ n / 10 := by
  refine h (fun s1 s2 _ e1 => ∀ j : Nat, s1.toInt = (j : Int) → s2.toInt = ((10 ^ j : Nat) : Int) → j ≤ 9 → (∀ i, i < j → 10 ^ i ≤ n / 10) → ∃ q : Nat, q ≤ 9 ∧ e1.toInt = ((10 ^ q : Nat) : Int) ∧ (q = 9 ∨ n / 10 < 10 ^ q) ∧ ∀ i, i < q → 10 ^ i ≤ n / 10) ?_ ?_ ?_
  · intro l6_1 l4_1 h1 h2
    intro j hj h10 hj9 hl
    exact ⟨j, hj9, h10, Or.inl (by omega), hl⟩
  · intro l6_1 l4_1 x1 x2 h1 h2 h3 h4 h5
    intro j hj h10 hj9 hl
    have q := d64 h3 hc zd10 hn
    have w := px_cgt h4 h5
    rw [q, h10] at w
    exact ⟨j, hj9, h10, Or.inr (Int.ofNat_lt.mp w), hl⟩
  · intro l6_1 l4_1 x1 x2 x3 x4 k e1 h1 h2 h3 h4 h5 h6 h7 ih
    intro j hj h10 hj9 hl
    have q := d64 h3 hc zd10 hn
    have w := px_cle h4 h5
    rw [q, h10] at w
    have w2 : 10 ^ j ≤ n / 10 := Int.ofNat_le.mp w
    obtain ⟨P, hP⟩ : ∃ P : Nat, P = 10 ^ j := ⟨_, rfl⟩
    have e10 : (10 : Nat) ^ (j + 1) = P * 10 := by rw [hP]; exact Nat.pow_succ 10 j
    rw [← hP] at h10 w2
    have ex : x3.toInt = ((10 ^ (j + 1) : Nat) : Int) := by
      rw [h6, Int64.toInt_mul, h10, zd10i, e10, px_64 (x := (P : Int) * 10) (by omega) (by omega)]
      omega
    refine ih (j + 1) (by omega) ex (by omega) (fun i hi => ?_)
    by_cases c : i = j
    · rw [c, ← hP]; exact w2
    · exact hl i (by omega)
theorem n22_2 {c1 : Int64} {s1 : Int32} {s2 : Int64} {k : Nat} {e1 : Int64} (hn : n ≤ 4294967296) (hc : c1.toInt = (n : Int)) (h : tl_Listing_addNumber_22_2 c1 s1 s2 k e1) : ∀ j : Nat, s1.toInt = (j : Int) → s2.toInt = ((10 ^ j : Nat) : Int) → j ≤ 9 → (∀ i, i < j → 10 ^ i ≤ n / 10) → ∃ q : Nat, q ≤ 9 ∧ e1.toInt = ((10 ^ q : Nat) : Int) ∧ (q = 9 ∨ n / 10 < 10 ^ q) ∧ ∀ i, i < q → 10 ^ i ≤ n / 10 := by
  refine h (fun s1 s2 _ e1 => ∀ j : Nat, s1.toInt = (j : Int) → s2.toInt = ((10 ^ j : Nat) : Int) → j ≤ 9 → (∀ i, i < j → 10 ^ i ≤ n / 10) → ∃ q : Nat, q ≤ 9 ∧ e1.toInt = ((10 ^ q : Nat) : Int) ∧ (q = 9 ∨ n / 10 < 10 ^ q) ∧ ∀ i, i < q → 10 ^ i ≤ n / 10) ?_ ?_ ?_
  · intro l6_1 l4_1 h1 h2
    intro j hj h10 hj9 hl
    exact ⟨j, hj9, h10, Or.inl (by omega), hl⟩
  · intro l6_1 l4_1 x1 x2 h1 h2 h3 h4 h5
    intro j hj h10 hj9 hl
    have q := d64 h3 hc zd10 hn
    have w := px_cgt h4 h5
    rw [q, h10] at w
    exact ⟨j, hj9, h10, Or.inr (Int.ofNat_lt.mp w), hl⟩
  · intro l6_1 l4_1 x1 x2 x3 x4 k e1 h1 h2 h3 h4 h5 h6 h7 ih
    intro j hj h10 hj9 hl
    have q := d64 h3 hc zd10 hn
    have w := px_cle h4 h5
    rw [q, h10] at w
    have w2 : 10 ^ j ≤ n / 10 := Int.ofNat_le.mp w
    obtain ⟨P, hP⟩ : ∃ P : Nat, P = 10 ^ j := ⟨_, rfl⟩
    have e10 : (10 : Nat) ^ (j + 1) = P * 10 := by rw [hP]; exact Nat.pow_succ 10 j
    rw [← hP] at h10 w2
    have ex : x3.toInt = ((10 ^ (j + 1) : Nat) : Int) := by
      rw [h6, Int64.toInt_mul, h10, zd10i, e10, px_64 (x := (P : Int) * 10) (by omega) (by omega)]
      omega
    refine ih (j + 1) (by omega) ex (by omega) (fun i hi => ?_)
    by_cases c : i = j
    · rw [c, ← hP]; exact w2
    · exact hl i (by omega)
/-- the value of a step: 10 ^ (m - 1), 0 behind the last -/
def unt : Nat → Nat
  | 0 => 0
  | m + 1 => 10 ^ m
theorem unt_d : ∀ m, unt (m + 1) / 10 = unt m
  | 0 => rfl
  | m + 1 => by
    show 10 ^ (m + 1) / 10 = 10 ^ m
    rw [Nat.pow_succ]
    exact Nat.mul_div_cancel _ (by decide)
theorem unt_b : ∀ m, m < 11 → unt m ≤ 1000000000 := by decide +kernel
theorem unt_p (m : Nat) : 0 < unt (m + 1) := Nat.pow_pos (by decide)
theorem n57 {c1 : Int64} {s1 : Int32} {s2 : Int64} {s3 : Int32} {s4 : Nat → Int32} {k : Nat} {e1 : Int32} {e2 : Nat → Int32} (hn : n ≤ 4294967296) (hc : c1.toInt = (n : Int)) (h : tl_Listing_addNumber_57 c1 s1 s2 s3 s4 k e1 e2) : ∀ i m : Nat, s1.toInt = (i : Int) → i + m = dgl n → s2.toInt = (unt m : Int) → zlA (dgq n i m) s3 s4 e1 e2 := by
  have hL := dgl_b (n := n)
  refine h (fun s1 s2 s3 s4 _ e1 e2 => ∀ i m : Nat, s1.toInt = (i : Int) → i + m = dgl n → s2.toInt = (unt m : Int) → zlA (dgq n i m) s3 s4 e1 e2) ?_ ?_ ?_
  · intro l6_1 l4_1 Listing_size_1 Listing_bytes_1 h1 h2 h3
    intro i m hi hm hu
    have e : m = 0 := by omega
    rw [e]
    exact zlA_0
  · intro l6_1 l4_1 Listing_size_1 Listing_bytes_1 x1 h1 h2 h3 h4 h5
    intro i m hi hm hu
    have w := px_cle h4 h5
    rw [zz0, hu] at w
    have e : m = 0 := by
      cases m with
      | zero => rfl
      | succ m => have := unt_p m; omega
    rw [e]
    exact zlA_0
  · intro l6_1 l4_1 Listing_size_1 Listing_bytes_1 x1 x2 x3 x4 x5 x6 x7 x8 x9 x10 k e1 e2 h1 h2 h3 h4 h5 h6 h7 h8 h9 h10 h11 h12 h13 h14 ih
    intro i m hi hm hu
    have w := px_cgt h4 h5
    rw [zz0, hu] at w
    obtain ⟨m1, rfl⟩ : ∃ m1, m = m1 + 1 := by
      cases m with
      | zero => exact absurd w (by decide)
      | succ m => exact ⟨m, rfl⟩
    have ub := unt_b (m1 + 1) (by omega)
    obtain ⟨N, hN⟩ : ∃ N : Nat, N = n / unt (m1 + 1) := ⟨_, rfl⟩
    have q2 : x2.toInt = (N : Int) := by rw [hN]; exact d64 h6 hc hu hn
    have l2 : N ≤ n := by rw [hN]; exact Nat.div_le_self n _
    obtain ⟨y, hy⟩ : ∃ y : Int64, y = x2 / 10 := ⟨_, rfl⟩
    have qy := d64 hy q2 zd10 (by omega)
    have q3 : x3.toInt = ((N % 10 : Nat) : Int) := by
      have e : (y * 10).toInt = y.toInt * 10 := by
        rw [Int64.toInt_mul, zd10i]; exact px_64 (by omega) (by omega)
      rw [h7, ← hy, Int64.toInt_sub, e, px_64 (x := x2.toInt - y.toInt * 10) (by omega) (by omega)]
      omega
    have q4 : x4.toInt = 48 + x3.toInt := by
      rw [h8, Int64.toInt_add, zd48]; exact px_64 (by omega) (by omega)
    have q5 : x5.toInt = x4.toInt := by
      rw [h9, Int64.toInt_toInt32]; exact gM_of (by omega) (by omega)
    have q6 : x6.toInt = x5.toInt := px_i2c h10 (by omega) (by omega)
    have ex : x6 = dgD n i := Int32.toInt_inj.mp (by
      unfold dgD
      rw [dch_t, show dgl n - 1 - i = m1 by omega, show n / 10 ^ m1 = N from hN.symm]
      omega)
    have z := zlA_1 (by omega) (by omega) h12
    rw [ex] at z
    exact zlA_t z (ih (i + 1) m1 (by omega) (by omega) ((d64 h13 hu zd10 (by omega)).trans (by rw [unt_d])))
theorem n57_2 {c1 : Int64} {s1 : Int32} {s2 : Int64} {s3 : Int32} {s4 : Nat → Int32} {k : Nat} {e1 : Int32} {e2 : Nat → Int32} (hn : n ≤ 4294967296) (hc : c1.toInt = (n : Int)) (h : tl_Listing_addNumber_57_2 c1 s1 s2 s3 s4 k e1 e2) : ∀ i m : Nat, s1.toInt = (i : Int) → i + m = dgl n → s2.toInt = (unt m : Int) → zlA (dgq n i m) s3 s4 e1 e2 := by
  have hL := dgl_b (n := n)
  refine h (fun s1 s2 s3 s4 _ e1 e2 => ∀ i m : Nat, s1.toInt = (i : Int) → i + m = dgl n → s2.toInt = (unt m : Int) → zlA (dgq n i m) s3 s4 e1 e2) ?_ ?_ ?_
  · intro l6_1 l4_1 Listing_size_1 Listing_bytes_1 h1 h2 h3
    intro i m hi hm hu
    have e : m = 0 := by omega
    rw [e]
    exact zlA_0
  · intro l6_1 l4_1 Listing_size_1 Listing_bytes_1 x1 h1 h2 h3 h4 h5
    intro i m hi hm hu
    have w := px_cle h4 h5
    rw [zz0, hu] at w
    have e : m = 0 := by
      cases m with
      | zero => rfl
      | succ m => have := unt_p m; omega
    rw [e]
    exact zlA_0
  · intro l6_1 l4_1 Listing_size_1 Listing_bytes_1 x1 x2 x3 x4 x5 x6 x7 x8 x9 x10 k e1 e2 h1 h2 h3 h4 h5 h6 h7 h8 h9 h10 h11 h12 h13 h14 ih
    intro i m hi hm hu
    have w := px_cgt h4 h5
    rw [zz0, hu] at w
    obtain ⟨m1, rfl⟩ : ∃ m1, m = m1 + 1 := by
      cases m with
      | zero => exact absurd w (by decide)
      | succ m => exact ⟨m, rfl⟩
    have ub := unt_b (m1 + 1) (by omega)
    obtain ⟨N, hN⟩ : ∃ N : Nat, N = n / unt (m1 + 1) := ⟨_, rfl⟩
    have q2 : x2.toInt = (N : Int) := by rw [hN]; exact d64 h6 hc hu hn
    have l2 : N ≤ n := by rw [hN]; exact Nat.div_le_self n _
    obtain ⟨y, hy⟩ : ∃ y : Int64, y = x2 / 10 := ⟨_, rfl⟩
    have qy := d64 hy q2 zd10 (by omega)
    have q3 : x3.toInt = ((N % 10 : Nat) : Int) := by
      have e : (y * 10).toInt = y.toInt * 10 := by
        rw [Int64.toInt_mul, zd10i]; exact px_64 (by omega) (by omega)
      rw [h7, ← hy, Int64.toInt_sub, e, px_64 (x := x2.toInt - y.toInt * 10) (by omega) (by omega)]
      omega
    have q4 : x4.toInt = 48 + x3.toInt := by
      rw [h8, Int64.toInt_add, zd48]; exact px_64 (by omega) (by omega)
    have q5 : x5.toInt = x4.toInt := by
      rw [h9, Int64.toInt_toInt32]; exact gM_of (by omega) (by omega)
    have q6 : x6.toInt = x5.toInt := px_i2c h10 (by omega) (by omega)
    have ex : x6 = dgD n i := Int32.toInt_inj.mp (by
      unfold dgD
      rw [dch_t, show dgl n - 1 - i = m1 by omega, show n / 10 ^ m1 = N from hN.symm]
      omega)
    have z := zlA_1 (by omega) (by omega) h12
    rw [ex] at z
    exact zlA_t z (ih (i + 1) m1 (by omega) (by omega) ((d64 h13 hu zd10 (by omega)).trans (by rw [unt_d])))
theorem n57_3 {c1 : Int64} {s1 : Int32} {s2 : Int64} {s3 : Int32} {s4 : Nat → Int32} {k : Nat} {e1 : Int32} {e2 : Nat → Int32} (hn : n ≤ 4294967296) (hc : c1.toInt = (n : Int)) (h : tl_Listing_addNumber_57_3 c1 s1 s2 s3 s4 k e1 e2) : ∀ i m : Nat, s1.toInt = (i : Int) → i + m = dgl n → s2.toInt = (unt m : Int) → zlA (dgq n i m) s3 s4 e1 e2 := by
  have hL := dgl_b (n := n)
  refine h (fun s1 s2 s3 s4 _ e1 e2 => ∀ i m : Nat, s1.toInt = (i : Int) → i + m = dgl n → s2.toInt = (unt m : Int) → zlA (dgq n i m) s3 s4 e1 e2) ?_ ?_ ?_
  · intro l6_1 l4_1 Listing_size_1 Listing_bytes_1 h1 h2 h3
    intro i m hi hm hu
    have e : m = 0 := by omega
    rw [e]
    exact zlA_0
  · intro l6_1 l4_1 Listing_size_1 Listing_bytes_1 x1 h1 h2 h3 h4 h5
    intro i m hi hm hu
    have w := px_cle h4 h5
    rw [zz0, hu] at w
    have e : m = 0 := by
      cases m with
      | zero => rfl
      | succ m => have := unt_p m; omega
    rw [e]
    exact zlA_0
  · intro l6_1 l4_1 Listing_size_1 Listing_bytes_1 x1 x2 x3 x4 x5 x6 x7 x8 x9 x10 k e1 e2 h1 h2 h3 h4 h5 h6 h7 h8 h9 h10 h11 h12 h13 h14 ih
    intro i m hi hm hu
    have w := px_cgt h4 h5
    rw [zz0, hu] at w
    obtain ⟨m1, rfl⟩ : ∃ m1, m = m1 + 1 := by
      cases m with
      | zero => exact absurd w (by decide)
      | succ m => exact ⟨m, rfl⟩
    have ub := unt_b (m1 + 1) (by omega)
    obtain ⟨N, hN⟩ : ∃ N : Nat, N = n / unt (m1 + 1) := ⟨_, rfl⟩
    have q2 : x2.toInt = (N : Int) := by rw [hN]; exact d64 h6 hc hu hn
    have l2 : N ≤ n := by rw [hN]; exact Nat.div_le_self n _
    obtain ⟨y, hy⟩ : ∃ y : Int64, y = x2 / 10 := ⟨_, rfl⟩
    have qy := d64 hy q2 zd10 (by omega)
    have q3 : x3.toInt = ((N % 10 : Nat) : Int) := by
      have e : (y * 10).toInt = y.toInt * 10 := by
        rw [Int64.toInt_mul, zd10i]; exact px_64 (by omega) (by omega)
      rw [h7, ← hy, Int64.toInt_sub, e, px_64 (x := x2.toInt - y.toInt * 10) (by omega) (by omega)]
      omega
    have q4 : x4.toInt = 48 + x3.toInt := by
      rw [h8, Int64.toInt_add, zd48]; exact px_64 (by omega) (by omega)
    have q5 : x5.toInt = x4.toInt := by
      rw [h9, Int64.toInt_toInt32]; exact gM_of (by omega) (by omega)
    have q6 : x6.toInt = x5.toInt := px_i2c h10 (by omega) (by omega)
    have ex : x6 = dgD n i := Int32.toInt_inj.mp (by
      unfold dgD
      rw [dch_t, show dgl n - 1 - i = m1 by omega, show n / 10 ^ m1 = N from hN.symm]
      omega)
    have z := zlA_1 (by omega) (by omega) h12
    rw [ex] at z
    exact zlA_t z (ih (i + 1) m1 (by omega) (by omega) ((d64 h13 hu zd10 (by omega)).trans (by rw [unt_d])))
theorem n57_4 {c1 : Int64} {s1 : Int32} {s2 : Int64} {s3 : Int32} {s4 : Nat → Int32} {k : Nat} {e1 : Int32} {e2 : Nat → Int32} (hn : n ≤ 4294967296) (hc : c1.toInt = (n : Int)) (h : tl_Listing_addNumber_57_4 c1 s1 s2 s3 s4 k e1 e2) : ∀ i m : Nat, s1.toInt = (i : Int) → i + m = dgl n → s2.toInt = (unt m : Int) → zlA (dgq n i m) s3 s4 e1 e2 := by
  have hL := dgl_b (n := n)
  refine h (fun s1 s2 s3 s4 _ e1 e2 => ∀ i m : Nat, s1.toInt = (i : Int) → i + m = dgl n → s2.toInt = (unt m : Int) → zlA (dgq n i m) s3 s4 e1 e2) ?_ ?_ ?_
  · intro l6_1 l4_1 Listing_size_1 Listing_bytes_1 h1 h2 h3
    intro i m hi hm hu
    have e : m = 0 := by omega
    rw [e]
    exact zlA_0
  · intro l6_1 l4_1 Listing_size_1 Listing_bytes_1 x1 h1 h2 h3 h4 h5
    intro i m hi hm hu
    have w := px_cle h4 h5
    rw [zz0, hu] at w
    have e : m = 0 := by
      cases m with
      | zero => rfl
      | succ m => have := unt_p m; omega
    rw [e]
    exact zlA_0
  · intro l6_1 l4_1 Listing_size_1 Listing_bytes_1 x1 x2 x3 x4 x5 x6 x7 x8 x9 x10 k e1 e2 h1 h2 h3 h4 h5 h6 h7 h8 h9 h10 h11 h12 h13 h14 ih
    intro i m hi hm hu
    have w := px_cgt h4 h5
    rw [zz0, hu] at w
    obtain ⟨m1, rfl⟩ : ∃ m1, m = m1 + 1 := by
      cases m with
      | zero => exact absurd w (by decide)
      | succ m => exact ⟨m, rfl⟩
    have ub := unt_b (m1 + 1) (by omega)
    obtain ⟨N, hN⟩ : ∃ N : Nat, N = n / unt (m1 + 1) := ⟨_, rfl⟩
    have q2 : x2.toInt = (N : Int) := by rw [hN]; exact d64 h6 hc hu hn
    have l2 : N ≤ n := by rw [hN]; exact Nat.div_le_self n _
    obtain ⟨y, hy⟩ : ∃ y : Int64, y = x2 / 10 := ⟨_, rfl⟩
    have qy := d64 hy q2 zd10 (by omega)
    have q3 : x3.toInt = ((N % 10 : Nat) : Int) := by
      have e : (y * 10).toInt = y.toInt * 10 := by
        rw [Int64.toInt_mul, zd10i]; exact px_64 (by omega) (by omega)
      rw [h7, ← hy, Int64.toInt_sub, e, px_64 (x := x2.toInt - y.toInt * 10) (by omega) (by omega)]
      omega
    have q4 : x4.toInt = 48 + x3.toInt := by
      rw [h8, Int64.toInt_add, zd48]; exact px_64 (by omega) (by omega)
    have q5 : x5.toInt = x4.toInt := by
      rw [h9, Int64.toInt_toInt32]; exact gM_of (by omega) (by omega)
    have q6 : x6.toInt = x5.toInt := px_i2c h10 (by omega) (by omega)
    have ex : x6 = dgD n i := Int32.toInt_inj.mp (by
      unfold dgD
      rw [dch_t, show dgl n - 1 - i = m1 by omega, show n / 10 ^ m1 = N from hN.symm]
      omega)
    have z := zlA_1 (by omega) (by omega) h12
    rw [ex] at z
    exact zlA_t z (ih (i + 1) m1 (by omega) (by omega) ((d64 h13 hu zd10 (by omega)).trans (by rw [unt_d])))
theorem adn_tr {x : Int32} (h : tr_Listing_addNumber x s f s1 f1) : zlA (dgI x.toInt) s f s1 f1 := by
  have bx := Int32.toInt_lt x
  have bx0 := Int32.le_toInt x
  refine h (fun s1 f1 => zlA (dgI x.toInt) s f s1 f1) ?_ ?_ ?_ ?_
  · intro x1 x2 x3 x4 x5 h1 h2 h3 h4 h5
    have e1 : x1.toInt = x.toInt := by rw [h2]; exact Int32.toInt_toInt64 x
    have e2 := abs_tr (by omega) h3
    rw [e1] at e2
    obtain ⟨q, y1, y2, y3, y4⟩ := n22 (n := x.toInt.natAbs) (by omega) e2 h4 0 (by decide) (by decide) (by decide) (fun i hi => absurd hi (Nat.not_lt_zero i))
    have eL := dgl_u y1 y3 y4
    have z := n57 (n := x.toInt.natAbs) (by omega) e2 h5 0 (q + 1) (by decide) (by omega) y2
    rw [← eL] at z
    rw [dgI_p h1]
    exact z
  · intro x1 x2 x3 x4 x5 h1 h2 h3 h4 h5
    have e1 : x1.toInt = x.toInt := by rw [h2]; exact Int32.toInt_toInt64 x
    have e2 := abs_tr (by omega) h3
    rw [e1] at e2
    obtain ⟨q, y1, y2, y3, y4⟩ := n22 (n := x.toInt.natAbs) (by omega) e2 h4 0 (by decide) (by decide) (by decide) (fun i hi => absurd hi (Nat.not_lt_zero i))
    have eL := dgl_u y1 y3 y4
    have z := n57_2 (n := x.toInt.natAbs) (by omega) e2 h5 0 (q + 1) (by decide) (by omega) y2
    rw [← eL] at z
    rw [dgI_p h1]
    exact z
  · intro x1 x2 x3 x4 x5 x6 x7 h1 h2 h3 h4 h5 h6 h7
    have e1 : x3.toInt = x.toInt := by rw [h4]; exact Int32.toInt_toInt64 x
    have e2 := abs_tr (by omega) h5
    rw [e1] at e2
    obtain ⟨q, y1, y2, y3, y4⟩ := n22_2 (n := x.toInt.natAbs) (by omega) e2 h6 0 (by decide) (by decide) (by decide) (fun i hi => absurd hi (Nat.not_lt_zero i))
    have eL := dgl_u y1 y3 y4
    have z := n57_3 (n := x.toInt.natAbs) (by omega) e2 h7 0 (q + 1) (by decide) (by omega) y2
    rw [← eL] at z
    rw [dgI_n h1]
    exact zlA_t (zlA_1 (by decide) (by decide) h3) z
  · intro x1 x2 x3 x4 x5 x6 x7 h1 h2 h3 h4 h5 h6 h7
    have e1 : x3.toInt = x.toInt := by rw [h4]; exact Int32.toInt_toInt64 x
    have e2 := abs_tr (by omega) h5
    rw [e1] at e2
    obtain ⟨q, y1, y2, y3, y4⟩ := n22_2 (n := x.toInt.natAbs) (by omega) e2 h6 0 (by decide) (by decide) (by decide) (fun i hi => absurd hi (Nat.not_lt_zero i))
    have eL := dgl_u y1 y3 y4
    have z := n57_4 (n := x.toInt.natAbs) (by omega) e2 h7 0 (q + 1) (by decide) (by omega) y2
    rw [← eL] at z
    rw [dgI_n h1]
    exact zlA_t (zlA_1 (by decide) (by decide) h3) z
theorem adm_tr {bs : List Int32} {x : Int32} (hb : azc bs) (h : tr_Listing_addNamed bs x s f s1 f1) : zlA (bs ++ dgI x.toInt) s f s1 f1 := by
  refine h (fun s1 f1 => zlA (bs ++ dgI x.toInt) s f s1 f1) ?_
  · intro x1 x2 x3 x4 h1 h2 h3 h4
    exact zlA_t (adt_tr hb h2) (adn_tr h4)
theorem as_18 : azc sb_18 := by unfold azc; decide +kernel
theorem as_19 : azc sb_19 := by unfold azc; decide +kernel
theorem as_20 : azc sb_20 := by unfold azc; decide +kernel
theorem as_21 : azc sb_21 := by unfold azc; decide +kernel
theorem as_22 : azc sb_22 := by unfold azc; decide +kernel
theorem as_23 : azc sb_23 := by unfold azc; decide +kernel
theorem as_24 : azc sb_24 := by unfold azc; decide +kernel
theorem as_25 : azc sb_25 := by unfold azc; decide +kernel
theorem as_26 : azc sb_26 := by unfold azc; decide +kernel
theorem as_27 : azc sb_27 := by unfold azc; decide +kernel
theorem as_28 : azc sb_28 := by unfold azc; decide +kernel
theorem as_29 : azc sb_29 := by unfold azc; decide +kernel
theorem as_30 : azc sb_30 := by unfold azc; decide +kernel
theorem ado_tr {x y : Int32} (hx : -1 ≤ x.toInt) (h : tr_Listing_addOperand x y s f s1 f1) : zlA (zlO x.toInt y.toInt) s f s1 f1 := by
  refine h (fun s1 f1 => zlA (zlO x.toInt y.toInt) s f s1 f1) ?_ ?_
  · intro x1 x2 h1 h2 h3
    unfold zlO
    rw [if_pos (by omega)]
    exact adm_tr as_21 h3
  · intro x1 x2 h1 h2 h3
    unfold zlO
    rw [if_neg (by omega)]
    exact adn_tr h3
theorem opS_1 : ∀ o : Nat, o < 14 → chr sb_30 (2 * o + 1) = 32 → zlS (o : Int) = [sb_30.getD (2 * o) 0] := by decide +kernel
theorem opS_2 : ∀ o : Nat, o < 14 → chr sb_30 (2 * o + 1) ≠ 32 → zlS (o : Int) = [sb_30.getD (2 * o) 0, sb_30.getD (2 * o + 1) 0] := by decide +kernel
theorem ch_e {bs : List Int32} {j r : Int32} {p : Nat} (hb : azc bs) (hp : p < bs.length) (hj : j.toInt = (p : Int)) (h : tr_String_charAt bs j r) : r = bs.getD p 0 ∧ 0 ≤ r.toInt ∧ r.toInt ≤ 127 ∧ r.toInt = chr bs p := by
  have q := ch_tr h
  rw [show j.toInt.toNat = p by omega] at q
  obtain ⟨y1, y2⟩ := hb p hp
  have y0 := (chr_lt (bs := bs) (j := p)).1
  exact ⟨Int32.toInt_inj.mp (q.trans y1), by omega, by omega, q⟩
theorem adp_tr {x : Int32} (b0 : 0 ≤ x.toInt) (b13 : x.toInt ≤ 13) (h : tr_Listing_addOp x s f s1 f1) : zlA ([32] ++ zlS x.toInt ++ [32]) s f s1 f1 := by
  obtain ⟨o, ho⟩ : ∃ o : Nat, x.toInt = (o : Int) := ⟨x.toInt.toNat, by omega⟩
  have hl : sb_30.length = 28 := by decide +kernel
  rw [ho]
  refine h (fun s1 f1 => zlA ([32] ++ zlS (o : Int) ++ [32]) s f s1 f1) ?_ ?_
  · intro x1 x2 x3 x4 x5 x6 x7 x8 x9 x10 x11 h1 h2 h3 h4 h5 h6 h7 h8 h9 h10 h11 h12 h13 h14
    obtain ⟨u1, u2, u3, u4⟩ := ch_e (p := 2 * o) as_30 (by omega) (by omega) h5
    obtain ⟨v1, v2, v3, v4⟩ := ch_e (p := 2 * o + 1) as_30 (by omega) (by omega) h11
    have w1 := zlA_1 (by decide) (by decide) h2
    have w2 := zlA_1 u2 u3 h7
    rw [u1] at w2
    have w3 := zlA_1 (by decide) (by decide) h14
    rw [opS_1 o (by omega) (by rw [← v4]; exact h12)]
    exact zlA_t (zlA_t w1 w2) w3
  · intro x1 x2 x3 x4 x5 x6 x7 x8 x9 x10 x11 x12 x13 x14 x15 x16 h1 h2 h3 h4 h5 h6 h7 h8 h9 h10 h11 h12 h13 h14 h15 h16 h17 h18 h19 h20
    obtain ⟨u1, u2, u3, u4⟩ := ch_e (p := 2 * o) as_30 (by omega) (by omega) h5
    obtain ⟨v1, v2, v3, v4⟩ := ch_e (p := 2 * o + 1) as_30 (by omega) (by omega) h11
    have w1 := zlA_1 (by decide) (by decide) h2
    have w2 := zlA_1 u2 u3 h7
    rw [u1] at w2
    obtain ⟨r1, r2, r3, r4⟩ := ch_e (p := 2 * o + 1) as_30 (by omega) (by omega) h16
    have w3 := zlA_1 r2 r3 h18
    rw [r1] at w3
    have w4 := zlA_1 (by decide) (by decide) h20
    rw [opS_2 o (by omega) (by rw [← v4]; exact h12)]
    exact zlA_t (zlA_t w1 (zlA_t w2 w3)) w4
/-- line l lies at I -/
def cdL (I : Nat) (l : Nat → Int) (op st lf ln rt rn : Nat → Int32) : Prop := (op I).toInt = l 0 ∧ (st I).toInt = l 1 ∧ (lf I).toInt = l 2 ∧ (ln I).toInt = l 3 ∧ (rt I).toInt = l 4 ∧ (rn I).toInt = l 5
theorem ads_tr {op st lf ln rt rn : Nat → Int32} {x : Int32} (hi : x.toNatClampNeg = I) (hc : cdL I l op st lf ln rt rn) (hO : rnO l) (h : tr_Listing_addSource x s f op lf ln rt rn s1 f1) : zlA (zlE l) s f s1 f1 := by
  obtain ⟨c0, c1, c2, c3, c4, c5⟩ := hc
  obtain ⟨o0, o2, o4, o1, o5⟩ := hO
  unfold zlE
  refine h (fun s1 f1 => zlA (if l 0 = 15 then [105, 110] else if l 0 = 17 then [115, 108, 111, 116, 32] ++ dgI (l 5) else zlO (l 2) (l 3) ++ (if l 0 ≤ 13 then ([32] ++ zlS (l 0) ++ [32]) ++ zlO (l 4) (l 5) else [])) s f s1 f1) ?_ ?_ ?_ ?_
  · intro x1 x2 x3 x4 x5 h1 h2 h3 h4 h5 h6 h7 h8 h9
    rw [hi] at h1
    rw [← h1] at c0
    rw [if_neg (by omega), if_neg (by omega)]
    have q1 : x2.toInt = l 2 := by rw [h5, hi]; exact c2
    have q2 : x3.toInt = l 3 := by rw [h6, hi]; exact c3
    have w := ado_tr (by omega) h8
    rw [q1, q2] at w
    rw [if_neg (by omega), List.append_nil]
    exact w
  · intro x1 x2 x3 x4 x5 x6 x7 x8 x9 x10 x11 h1 h2 h3 h4 h5 h6 h7 h8 h9 h10 h11 h12 h13 h14 h15
    rw [hi] at h1
    rw [← h1] at c0
    rw [if_neg (by omega), if_neg (by omega)]
    have q1 : x2.toInt = l 2 := by rw [h5, hi]; exact c2
    have q2 : x3.toInt = l 3 := by rw [h6, hi]; exact c3
    have w := ado_tr (by omega) h8
    rw [q1, q2] at w
    have q3 : x8.toInt = l 4 := by rw [h12, hi]; exact c4
    have q4 : x9.toInt = l 5 := by rw [h13, hi]; exact c5
    have w2 := adp_tr (by omega) (by omega) h11
    have w3 := ado_tr (by omega) h15
    rw [q3, q4] at w3
    rw [c0] at w2
    rw [if_pos (by omega)]
    exact zlA_t w (zlA_t w2 w3)
  · intro x1 x2 x3 x4 h1 h2 h3 h4 h5 h6 h7
    rw [hi] at h1
    rw [← h1] at c0
    rw [if_neg (by omega), if_pos (by omega)]
    have w := adm_tr as_26 h7
    rw [h5, hi, c5] at w
    exact w
  · intro x1 x2 x3 h1 h2 h3 h4 h5
    rw [hi] at h1
    rw [← h1] at c0
    rw [if_pos (by omega)]
    exact adt_tr as_29 h5
theorem adr_tr {op st lf ln rt rn : Nat → Int32} {x : Int32} (hi : x.toNatClampNeg = I) (hc : cdL I l op st lf ln rt rn) (hO : rnO l) (h : tr_Listing_addRow x s f op st lf ln rt rn s1 f1) : zlA (zlR l) s f s1 f1 := by
  obtain ⟨c0, c1, c2, c3, c4, c5⟩ := id hc
  obtain ⟨o0, o2, o4, o1, o5⟩ := id hO
  unfold zlR
  refine h (fun s1 f1 => zlA (if l 0 = 16 then [115, 104, 111, 119, 32] ++ zlO (l 2) (l 3) else if l 0 = 18 then ([115, 108, 111, 116, 32] ++ dgI (l 5)) ++ ([32, 61, 32, 118] ++ dgI (l 2)) else (([118] ++ dgI (l 1)) ++ [32, 61, 32]) ++ zlE l) s f s1 f1) ?_ ?_ ?_
  · intro x1 x2 x3 x4 x5 x6 x7 x8 h1 h2 h3 h4 h5 h6 h7 h8 h9 h10 h11
    rw [hi] at h1
    rw [← h1] at c0
    rw [if_neg (by omega), if_neg (by omega)]
    have w1 := adm_tr as_21 h7
    rw [h5, hi, c1] at w1
    exact zlA_t (zlA_t w1 (adt_tr as_28 h9)) (ads_tr hi hc hO h11)
  · intro x1 x2 x3 x4 x5 x6 x7 h1 h2 h3 h4 h5 h6 h7 h8 h9 h10
    rw [hi] at h1
    rw [← h1] at c0
    rw [if_neg (by omega), if_pos (by omega)]
    have w1 := adm_tr as_26 h7
    rw [h5, hi, c5] at w1
    have w2 := adm_tr as_27 h10
    rw [h8, hi, c2] at w2
    exact zlA_t w1 w2
  · intro x1 x2 x3 x4 x5 x6 x7 h1 h2 h3 h4 h5 h6 h7 h8 h9
    rw [hi] at h1
    rw [← h1] at c0
    rw [if_pos (by omega)]
    have q1 : x4.toInt = l 2 := by rw [h6, hi]; exact c2
    have q2 : x5.toInt = l 3 := by rw [h7, hi]; exact c3
    have w := ado_tr (by omega) h9
    rw [q1, q2] at w
    exact zlA_t (adt_tr as_25 h5) w
theorem ade_tr {op st lf ln rt rn : Nat → Int32} {fg sg : Nat → Int32} {x y : Int32} {c : Nat} (hi : x.toNatClampNeg = I) (hy : y.toNatClampNeg = c) (hc : cdL I l op st lf ln rt rn) (hO : edO l) (hG : edG (l 0) (g 0) (g 1)) (g0 : (fg c).toInt = g 0) (g1 : (sg c).toInt = g 1) (h : tr_Listing_addEnd y x s f fg sg op lf ln s1 f1) : zlA (zlF g l) s f s1 f1 := by
  obtain ⟨c0, c1, c2, c3, c4, c5⟩ := hc
  obtain ⟨o1, o2, o4, o5⟩ := hO
  unfold edG at hG
  unfold zlF
  refine h (fun s1 f1 => zlA (if l 0 = 21 then [114, 101, 116, 32] ++ zlO (l 2) (l 3) else if l 0 = 19 then [106, 117, 109, 112, 32, 98] ++ dgI (g 0) else (([105, 102, 32] ++ zlO (l 2) (l 3)) ++ ([32, 98] ++ dgI (g 0))) ++ ([32, 98] ++ dgI (g 1))) s f s1 f1) ?_ ?_ ?_
  · intro x1 x2 x3 x4 x5 x6 x7 x8 x9 x10 x11 x12 x13 h1 h2 h3 h4 h5 h6 h7 h8 h9 h10 h11 h12 h13 h14 h15 h16
    rw [hi] at h1
    rw [← h1] at c0
    rw [if_neg (by omega), if_neg (by omega)]
    have q1 : x4.toInt = l 2 := by rw [h7, hi]; exact c2
    have q2 : x5.toInt = l 3 := by rw [h8, hi]; exact c3
    have w := ado_tr (by omega) h10
    rw [q1, q2] at w
    have w1 := adm_tr as_24 h13
    rw [h11, hy, g0] at w1
    have w2 := adm_tr as_24 h16
    rw [h14, hy, g1] at w2
    exact zlA_t (zlA_t (zlA_t (adt_tr as_23 h6) w) w1) w2
  · intro x1 x2 x3 x4 h1 h2 h3 h4 h5 h6 h7
    rw [hi] at h1
    rw [← h1] at c0
    rw [if_neg (by omega), if_pos (by omega)]
    have w1 := adm_tr as_22 h7
    rw [h5, hy, g0] at w1
    exact w1
  · intro x1 x2 x3 x4 x5 x6 x7 h1 h2 h3 h4 h5 h6 h7 h8 h9
    rw [hi] at h1
    rw [← h1] at c0
    rw [if_pos (by omega)]
    have q1 : x4.toInt = l 2 := by rw [h6, hi]; exact c2
    have q2 : x5.toInt = l 3 := by rw [h7, hi]; exact c3
    have w := ado_tr (by omega) h9
    rw [q1, q2] at w
    exact zlA_t (adt_tr as_20 h5) w
theorem zw35 {l2_1 : Int32} {Code_blocks : Int32} {Code_lines : Int32} {Code_first : Nat → Int32} {Code_op : Nat → Int32} {Code_set : Nat → Int32} {Code_left : Nat → Int32} {Code_leftNumber : Nat → Int32} {Code_right : Nat → Int32} {Code_rightNumber : Nat → Int32} {Code_firstGoal : Nat → Int32} {Code_secondGoal : Nat → Int32} {s1 : Int32} {s2 : Int32} {s3 : Nat → Int32} {k : Nat} {e1 : Int32} {e2 : Nat → Int32} {c : Nat} (hP : rnP Q) (hcd : cdP Code_blocks Code_lines Code_first Code_firstGoal Code_secondGoal Code_op Code_set Code_left Code_leftNumber Code_right Code_rightNumber Q) (hb : l2_1.toInt = (c : Int)) (hcl : c < Q.1) (h : tl_Listing_write_35 l2_1 Code_blocks Code_lines Code_first Code_op Code_set Code_left Code_leftNumber Code_right Code_rightNumber Code_firstGoal Code_secondGoal s1 s2 s3 k e1 e2) : ∀ j m : Nat, s1.toInt = ((fsm Q.2.1 c + j : Nat) : Int) → j + m = Q.2.1 c → zlA (zlK Q c j m) s2 s3 e1 e2 := by
  refine h (fun s1 s2 s3 _ e1 e2 => ∀ j m : Nat, s1.toInt = ((fsm Q.2.1 c + j : Nat) : Int) → j + m = Q.2.1 c → zlA (zlK Q c j m) s2 s3 e1 e2) ?_ ?_ ?_ ?_ ?_ ?_
  · intro l3_2 Listing_size_2 Listing_bytes_2 h1 h2 h3 h4
    intro j m hj hm
    have be := bE_tr hcd hb hcl h3
    have ef : fsm Q.2.1 (c + 1) = fsm Q.2.1 c + Q.2.1 c := rfl
    rw [ef] at be
    have e : m = 0 := by omega
    rw [e]
    exact zlA_0
  · intro l3_2 Listing_size_2 Listing_bytes_2 x1 x2 x3 x4 x5 x6 k e1 e2 h1 h2 h3 h4 h5 h6 h7 h8 h9 h10 h11 h12 ih
    intro j m hj hm
    have be := bE_tr hcd hb hcl h3
    have ef : fsm Q.2.1 (c + 1) = fsm Q.2.1 c + Q.2.1 c := rfl
    rw [ef] at be
    obtain ⟨m1, rfl⟩ : ∃ m1, m = m1 + 1 := ⟨m - 1, by omega⟩
    have hi : l3_2.toNatClampNeg = fsm Q.2.1 c + j := nnE hj
    have cl : cdL (fsm Q.2.1 c + j) (Q.2.2.1 c j) Code_op Code_set Code_left Code_leftNumber Code_right Code_rightNumber := hcd.2.2.2 c j hcl (by omega)
    have eo := cl.1
    rw [← hi, ← h5] at eo
    have w := adr_tr (l := Q.2.2.1 c j) hi cl (rn_r (j := j) hP hcl (by omega) (by omega)).2 h9
    have el : zlN (Q.2.2.2 c) (Q.2.2.1 c j) = zlR (Q.2.2.1 c j) ++ [10] := by unfold zlN; rw [if_pos (by omega)]
    show zlA (zlN (Q.2.2.2 c) (Q.2.2.1 c j) ++ zlK Q c (j + 1) m1) Listing_size_2 Listing_bytes_2 e1 e2
    rw [el]
    exact zlA_t (zlA_t w (zlA_1 (by decide) (by decide) h11)) (ih (j + 1) m1 (by omega) (by omega))
  · intro l3_2 Listing_size_2 Listing_bytes_2 x1 x2 x3 x4 x5 x6 k e1 e2 h1 h2 h3 h4 h5 h6 h7 h8 h9 h10 h11 h12 ih
    intro j m hj hm
    have be := bE_tr hcd hb hcl h3
    have ef : fsm Q.2.1 (c + 1) = fsm Q.2.1 c + Q.2.1 c := rfl
    rw [ef] at be
    obtain ⟨m1, rfl⟩ : ∃ m1, m = m1 + 1 := ⟨m - 1, by omega⟩
    have hi : l3_2.toNatClampNeg = fsm Q.2.1 c + j := nnE hj
    have cl : cdL (fsm Q.2.1 c + j) (Q.2.2.1 c j) Code_op Code_set Code_left Code_leftNumber Code_right Code_rightNumber := hcd.2.2.2 c j hcl (by omega)
    have eo := cl.1
    rw [← hi, ← h5] at eo
    have hg := hcd.2.2.1 c hcl
    obtain ⟨r1, r2⟩ := rn_e hP hcl (show j < Q.2.1 c by omega) (by omega)
    have w := ade_tr (l := Q.2.2.1 c j) (g := Q.2.2.2 c) hi (nnE hb) cl r1 r2 hg.2.1 hg.2.2 h9
    have el : zlN (Q.2.2.2 c) (Q.2.2.1 c j) = zlF (Q.2.2.2 c) (Q.2.2.1 c j) ++ [10] := by unfold zlN; rw [if_neg (by omega)]
    show zlA (zlN (Q.2.2.2 c) (Q.2.2.1 c j) ++ zlK Q c (j + 1) m1) Listing_size_2 Listing_bytes_2 e1 e2
    rw [el]
    exact zlA_t (zlA_t w (zlA_1 (by decide) (by decide) h11)) (ih (j + 1) m1 (by omega) (by omega))
  · intro l3_2 Listing_size_2 Listing_bytes_2 x1 h1 h2 h3 h4
    intro j m hj hm
    have be := bE_tr hcd hb hcl h3
    have ef : fsm Q.2.1 (c + 1) = fsm Q.2.1 c + Q.2.1 c := rfl
    rw [ef] at be
    have e : m = 0 := by omega
    rw [e]
    exact zlA_0
  · intro l3_2 Listing_size_2 Listing_bytes_2 x1 x2 x3 x4 x5 x6 x7 k e1 e2 h1 h2 h3 h4 h5 h6 h7 h8 h9 h10 h11 h12 ih
    intro j m hj hm
    have be := bE_tr hcd hb hcl h3
    have ef : fsm Q.2.1 (c + 1) = fsm Q.2.1 c + Q.2.1 c := rfl
    rw [ef] at be
    obtain ⟨m1, rfl⟩ : ∃ m1, m = m1 + 1 := ⟨m - 1, by omega⟩
    have hi : l3_2.toNatClampNeg = fsm Q.2.1 c + j := nnE hj
    have cl : cdL (fsm Q.2.1 c + j) (Q.2.2.1 c j) Code_op Code_set Code_left Code_leftNumber Code_right Code_rightNumber := hcd.2.2.2 c j hcl (by omega)
    have eo := cl.1
    rw [← hi, ← h5] at eo
    have w := adr_tr (l := Q.2.2.1 c j) hi cl (rn_r (j := j) hP hcl (by omega) (by omega)).2 h9
    have el : zlN (Q.2.2.2 c) (Q.2.2.1 c j) = zlR (Q.2.2.1 c j) ++ [10] := by unfold zlN; rw [if_pos (by omega)]
    show zlA (zlN (Q.2.2.2 c) (Q.2.2.1 c j) ++ zlK Q c (j + 1) m1) Listing_size_2 Listing_bytes_2 e1 e2
    rw [el]
    exact zlA_t (zlA_t w (zlA_1 (by decide) (by decide) h11)) (ih (j + 1) m1 (by omega) (by omega))
  · intro l3_2 Listing_size_2 Listing_bytes_2 x1 x2 x3 x4 x5 x6 x7 k e1 e2 h1 h2 h3 h4 h5 h6 h7 h8 h9 h10 h11 h12 ih
    intro j m hj hm
    have be := bE_tr hcd hb hcl h3
    have ef : fsm Q.2.1 (c + 1) = fsm Q.2.1 c + Q.2.1 c := rfl
    rw [ef] at be
    obtain ⟨m1, rfl⟩ : ∃ m1, m = m1 + 1 := ⟨m - 1, by omega⟩
    have hi : l3_2.toNatClampNeg = fsm Q.2.1 c + j := nnE hj
    have cl : cdL (fsm Q.2.1 c + j) (Q.2.2.1 c j) Code_op Code_set Code_left Code_leftNumber Code_right Code_rightNumber := hcd.2.2.2 c j hcl (by omega)
    have eo := cl.1
    rw [← hi, ← h5] at eo
    have hg := hcd.2.2.1 c hcl
    obtain ⟨r1, r2⟩ := rn_e hP hcl (show j < Q.2.1 c by omega) (by omega)
    have w := ade_tr (l := Q.2.2.1 c j) (g := Q.2.2.2 c) hi (nnE hb) cl r1 r2 hg.2.1 hg.2.2 h9
    have el : zlN (Q.2.2.2 c) (Q.2.2.1 c j) = zlF (Q.2.2.2 c) (Q.2.2.1 c j) ++ [10] := by unfold zlN; rw [if_neg (by omega)]
    show zlA (zlN (Q.2.2.2 c) (Q.2.2.1 c j) ++ zlK Q c (j + 1) m1) Listing_size_2 Listing_bytes_2 e1 e2
    rw [el]
    exact zlA_t (zlA_t w (zlA_1 (by decide) (by decide) h11)) (ih (j + 1) m1 (by omega) (by omega))
theorem zw7 {Code_blocks : Int32} {Code_first : Nat → Int32} {Code_lines : Int32} {Code_op : Nat → Int32} {Code_set : Nat → Int32} {Code_left : Nat → Int32} {Code_leftNumber : Nat → Int32} {Code_right : Nat → Int32} {Code_rightNumber : Nat → Int32} {Code_firstGoal : Nat → Int32} {Code_secondGoal : Nat → Int32} {s1 : Int32} {s2 : Int32} {s3 : Nat → Int32} {k : Nat} {e1 : Int32} {e2 : Nat → Int32} (hP : rnP Q) (hcd : cdP Code_blocks Code_lines Code_first Code_firstGoal Code_secondGoal Code_op Code_set Code_left Code_leftNumber Code_right Code_rightNumber Q) (h : tl_Listing_write_7 Code_blocks Code_first Code_lines Code_op Code_set Code_left Code_leftNumber Code_right Code_rightNumber Code_firstGoal Code_secondGoal s1 s2 s3 k e1 e2) : ∀ c m : Nat, s1.toInt = (c : Int) → c + m = Q.1 → zlA (zlM Q c m) s2 s3 e1 e2 := by
  refine h (fun s1 s2 s3 _ e1 e2 => ∀ c m : Nat, s1.toInt = (c : Int) → c + m = Q.1 → zlA (zlM Q c m) s2 s3 e1 e2) ?_ ?_
  · intro l2_1 Listing_size_1 Listing_bytes_1 h1 h2 h3
    intro c m hc hm
    have e1 := hcd.1
    have e : m = 0 := by omega
    rw [e]
    exact zlA_0
  · intro l2_1 Listing_size_1 Listing_bytes_1 x1 x2 x3 x4 x5 x6 x7 x8 k e1 e2 h1 h2 h3 h4 h5 h6 h7 h8 h9 h10 h11 ih
    intro c m hc hm
    have e1 := hcd.1
    obtain ⟨m1, rfl⟩ : ∃ m1, m = m1 + 1 := ⟨m - 1, by omega⟩
    have hcl : c < Q.1 := by omega
    have w1 := adm_tr as_18 h5
    rw [hc] at w1
    have hx := h8
    rw [nnE hc] at hx
    have w3 := zw35 hP hcd hc hcl h10 0 (Q.2.1 c) (by rw [hx]; exact (hcd.2.2.1 c hcl).1) (Nat.zero_add _)
    rw [zlK_0] at w3
    exact zlA_t (zlA_t (zlA_t w1 (adt_tr as_19 h7)) w3) (ih (c + 1) m1 (by omega) (by omega))
theorem wr_tr {Code_blocks : Int32} {Code_lines : Int32} {Listing_bytes : Nat → Int32} {Code_first : Nat → Int32} {Code_firstGoal : Nat → Int32} {Code_secondGoal : Nat → Int32} {Code_op : Nat → Int32} {Code_set : Nat → Int32} {Code_left : Nat → Int32} {Code_leftNumber : Nat → Int32} {Code_right : Nat → Int32} {Code_rightNumber : Nat → Int32} {o1 : Int32} {o2 : Nat → Int32} (hP : rnP Q) (hcd : cdP Code_blocks Code_lines Code_first Code_firstGoal Code_secondGoal Code_op Code_set Code_left Code_leftNumber Code_right Code_rightNumber Q) (h : tr_Listing_write Code_blocks Code_lines Listing_bytes Code_first Code_firstGoal Code_secondGoal Code_op Code_set Code_left Code_leftNumber Code_right Code_rightNumber o1 o2) : (zlB Q Q.1).length ≤ 16384 → o1.toInt = ((zlB Q Q.1).length : Int) ∧ ∀ i, i < (zlB Q Q.1).length → o2 i = (zlB Q Q.1).getD i 0 := by
  refine h (fun o1 o2 => (zlB Q Q.1).length ≤ 16384 → o1.toInt = ((zlB Q Q.1).length : Int) ∧ ∀ i, i < (zlB Q Q.1).length → o2 i = (zlB Q Q.1).getD i 0) ?_
  · intro x1 x2 h1
    intro hl
    have w := zw7 hP hcd h1 0 Q.1 (by decide) (Nat.zero_add _)
    rw [zlM_0] at w
    obtain ⟨q1, -, q2⟩ := w 0 (by decide) (by omega)
    exact ⟨by omega, fun i hi => by have q := q2 i hi; rw [Nat.zero_add] at q; exact q⟩
theorem ads_tr2 {op st lf ln rt rn : Nat → Int32} {x : Int32} (hi : x.toNatClampNeg = I) (hc : cdL I l op st lf ln rt rn) (hO : rnO l) (h : tr_Listing_addSource2 x s f op lf ln rt rn s1 f1) : zlA (zlE l) s f s1 f1 := by
  obtain ⟨c0, c1, c2, c3, c4, c5⟩ := hc
  obtain ⟨o0, o2, o4, o1, o5⟩ := hO
  unfold zlE
  refine h (fun s1 f1 => zlA (if l 0 = 15 then [105, 110] else if l 0 = 17 then [115, 108, 111, 116, 32] ++ dgI (l 5) else zlO (l 2) (l 3) ++ (if l 0 ≤ 13 then ([32] ++ zlS (l 0) ++ [32]) ++ zlO (l 4) (l 5) else [])) s f s1 f1) ?_ ?_ ?_ ?_
  · intro x1 x2 x3 x4 x5 h1 h2 h3 h4 h5 h6 h7 h8 h9
    rw [hi] at h1
    rw [← h1] at c0
    rw [if_neg (by omega), if_neg (by omega)]
    have q1 : x2.toInt = l 2 := by rw [h5, hi]; exact c2
    have q2 : x3.toInt = l 3 := by rw [h6, hi]; exact c3
    have w := ado_tr (by omega) h8
    rw [q1, q2] at w
    rw [if_neg (by omega), List.append_nil]
    exact w
  · intro x1 x2 x3 x4 x5 x6 x7 x8 x9 x10 x11 h1 h2 h3 h4 h5 h6 h7 h8 h9 h10 h11 h12 h13 h14 h15
    rw [hi] at h1
    rw [← h1] at c0
    rw [if_neg (by omega), if_neg (by omega)]
    have q1 : x2.toInt = l 2 := by rw [h5, hi]; exact c2
    have q2 : x3.toInt = l 3 := by rw [h6, hi]; exact c3
    have w := ado_tr (by omega) h8
    rw [q1, q2] at w
    have q3 : x8.toInt = l 4 := by rw [h12, hi]; exact c4
    have q4 : x9.toInt = l 5 := by rw [h13, hi]; exact c5
    have w2 := adp_tr (by omega) (by omega) h11
    have w3 := ado_tr (by omega) h15
    rw [q3, q4] at w3
    rw [c0] at w2
    rw [if_pos (by omega)]
    exact zlA_t w (zlA_t w2 w3)
  · intro x1 x2 x3 x4 h1 h2 h3 h4 h5 h6 h7
    rw [hi] at h1
    rw [← h1] at c0
    rw [if_neg (by omega), if_pos (by omega)]
    have w := adm_tr as_26 h7
    rw [h5, hi, c5] at w
    exact w
  · intro x1 x2 x3 h1 h2 h3 h4 h5
    rw [hi] at h1
    rw [← h1] at c0
    rw [if_pos (by omega)]
    exact adt_tr as_29 h5
theorem adr_tr2 {op st lf ln rt rn : Nat → Int32} {x : Int32} (hi : x.toNatClampNeg = I) (hc : cdL I l op st lf ln rt rn) (hO : rnO l) (h : tr_Listing_addRow2 x s f op st lf ln rt rn s1 f1) : zlA (zlR l) s f s1 f1 := by
  obtain ⟨c0, c1, c2, c3, c4, c5⟩ := id hc
  obtain ⟨o0, o2, o4, o1, o5⟩ := id hO
  unfold zlR
  refine h (fun s1 f1 => zlA (if l 0 = 16 then [115, 104, 111, 119, 32] ++ zlO (l 2) (l 3) else if l 0 = 18 then ([115, 108, 111, 116, 32] ++ dgI (l 5)) ++ ([32, 61, 32, 118] ++ dgI (l 2)) else (([118] ++ dgI (l 1)) ++ [32, 61, 32]) ++ zlE l) s f s1 f1) ?_ ?_ ?_
  · intro x1 x2 x3 x4 x5 x6 x7 x8 h1 h2 h3 h4 h5 h6 h7 h8 h9 h10 h11
    rw [hi] at h1
    rw [← h1] at c0
    rw [if_neg (by omega), if_neg (by omega)]
    have w1 := adm_tr as_21 h7
    rw [h5, hi, c1] at w1
    exact zlA_t (zlA_t w1 (adt_tr as_28 h9)) (ads_tr2 hi hc hO h11)
  · intro x1 x2 x3 x4 x5 x6 x7 h1 h2 h3 h4 h5 h6 h7 h8 h9 h10
    rw [hi] at h1
    rw [← h1] at c0
    rw [if_neg (by omega), if_pos (by omega)]
    have w1 := adm_tr as_26 h7
    rw [h5, hi, c5] at w1
    have w2 := adm_tr as_27 h10
    rw [h8, hi, c2] at w2
    exact zlA_t w1 w2
  · intro x1 x2 x3 x4 x5 x6 x7 h1 h2 h3 h4 h5 h6 h7 h8 h9
    rw [hi] at h1
    rw [← h1] at c0
    rw [if_pos (by omega)]
    have q1 : x4.toInt = l 2 := by rw [h6, hi]; exact c2
    have q2 : x5.toInt = l 3 := by rw [h7, hi]; exact c3
    have w := ado_tr (by omega) h9
    rw [q1, q2] at w
    exact zlA_t (adt_tr as_25 h5) w
theorem ade_tr2 {op st lf ln rt rn : Nat → Int32} {fg sg : Nat → Int32} {x y : Int32} {c : Nat} (hi : x.toNatClampNeg = I) (hy : y.toNatClampNeg = c) (hc : cdL I l op st lf ln rt rn) (hO : edO l) (hG : edG (l 0) (g 0) (g 1)) (g0 : (fg c).toInt = g 0) (g1 : (sg c).toInt = g 1) (h : tr_Listing_addEnd2 y x s f fg sg op lf ln s1 f1) : zlA (zlF g l) s f s1 f1 := by
  obtain ⟨c0, c1, c2, c3, c4, c5⟩ := hc
  obtain ⟨o1, o2, o4, o5⟩ := hO
  unfold edG at hG
  unfold zlF
  refine h (fun s1 f1 => zlA (if l 0 = 21 then [114, 101, 116, 32] ++ zlO (l 2) (l 3) else if l 0 = 19 then [106, 117, 109, 112, 32, 98] ++ dgI (g 0) else (([105, 102, 32] ++ zlO (l 2) (l 3)) ++ ([32, 98] ++ dgI (g 0))) ++ ([32, 98] ++ dgI (g 1))) s f s1 f1) ?_ ?_ ?_
  · intro x1 x2 x3 x4 x5 x6 x7 x8 x9 x10 x11 x12 x13 h1 h2 h3 h4 h5 h6 h7 h8 h9 h10 h11 h12 h13 h14 h15 h16
    rw [hi] at h1
    rw [← h1] at c0
    rw [if_neg (by omega), if_neg (by omega)]
    have q1 : x4.toInt = l 2 := by rw [h7, hi]; exact c2
    have q2 : x5.toInt = l 3 := by rw [h8, hi]; exact c3
    have w := ado_tr (by omega) h10
    rw [q1, q2] at w
    have w1 := adm_tr as_24 h13
    rw [h11, hy, g0] at w1
    have w2 := adm_tr as_24 h16
    rw [h14, hy, g1] at w2
    exact zlA_t (zlA_t (zlA_t (adt_tr as_23 h6) w) w1) w2
  · intro x1 x2 x3 x4 h1 h2 h3 h4 h5 h6 h7
    rw [hi] at h1
    rw [← h1] at c0
    rw [if_neg (by omega), if_pos (by omega)]
    have w1 := adm_tr as_22 h7
    rw [h5, hy, g0] at w1
    exact w1
  · intro x1 x2 x3 x4 x5 x6 x7 h1 h2 h3 h4 h5 h6 h7 h8 h9
    rw [hi] at h1
    rw [← h1] at c0
    rw [if_pos (by omega)]
    have q1 : x4.toInt = l 2 := by rw [h6, hi]; exact c2
    have q2 : x5.toInt = l 3 := by rw [h7, hi]; exact c3
    have w := ado_tr (by omega) h9
    rw [q1, q2] at w
    exact zlA_t (adt_tr as_20 h5) w
theorem zw352 {l2_1 : Int32} {Code_blocks : Int32} {Code_lines : Int32} {Code_first : Nat → Int32} {Code_op : Nat → Int32} {Code_set : Nat → Int32} {Code_left : Nat → Int32} {Code_leftNumber : Nat → Int32} {Code_right : Nat → Int32} {Code_rightNumber : Nat → Int32} {Code_firstGoal : Nat → Int32} {Code_secondGoal : Nat → Int32} {s1 : Int32} {s2 : Int32} {s3 : Nat → Int32} {k : Nat} {e1 : Int32} {e2 : Nat → Int32} {c : Nat} (hP : rnP Q) (hcd : cdP Code_blocks Code_lines Code_first Code_firstGoal Code_secondGoal Code_op Code_set Code_left Code_leftNumber Code_right Code_rightNumber Q) (hb : l2_1.toInt = (c : Int)) (hcl : c < Q.1) (h : tl_Listing_write2_35 l2_1 Code_blocks Code_lines Code_first Code_op Code_set Code_left Code_leftNumber Code_right Code_rightNumber Code_firstGoal Code_secondGoal s1 s2 s3 k e1 e2) : ∀ j m : Nat, s1.toInt = ((fsm Q.2.1 c + j : Nat) : Int) → j + m = Q.2.1 c → zlA (zlK Q c j m) s2 s3 e1 e2 := by
  refine h (fun s1 s2 s3 _ e1 e2 => ∀ j m : Nat, s1.toInt = ((fsm Q.2.1 c + j : Nat) : Int) → j + m = Q.2.1 c → zlA (zlK Q c j m) s2 s3 e1 e2) ?_ ?_ ?_ ?_ ?_ ?_
  · intro l3_2 Listing_size_2 Listing_bytes_2 h1 h2 h3 h4
    intro j m hj hm
    have be := bE_tr2 hcd hb hcl h3
    have ef : fsm Q.2.1 (c + 1) = fsm Q.2.1 c + Q.2.1 c := rfl
    rw [ef] at be
    have e : m = 0 := by omega
    rw [e]
    exact zlA_0
  · intro l3_2 Listing_size_2 Listing_bytes_2 x1 x2 x3 x4 x5 x6 k e1 e2 h1 h2 h3 h4 h5 h6 h7 h8 h9 h10 h11 h12 ih
    intro j m hj hm
    have be := bE_tr2 hcd hb hcl h3
    have ef : fsm Q.2.1 (c + 1) = fsm Q.2.1 c + Q.2.1 c := rfl
    rw [ef] at be
    obtain ⟨m1, rfl⟩ : ∃ m1, m = m1 + 1 := ⟨m - 1, by omega⟩
    have hi : l3_2.toNatClampNeg = fsm Q.2.1 c + j := nnE hj
    have cl : cdL (fsm Q.2.1 c + j) (Q.2.2.1 c j) Code_op Code_set Code_left Code_leftNumber Code_right Code_rightNumber := hcd.2.2.2 c j hcl (by omega)
    have eo := cl.1
    rw [← hi, ← h5] at eo
    have w := adr_tr2 (l := Q.2.2.1 c j) hi cl (rn_r (j := j) hP hcl (by omega) (by omega)).2 h9
    have el : zlN (Q.2.2.2 c) (Q.2.2.1 c j) = zlR (Q.2.2.1 c j) ++ [10] := by unfold zlN; rw [if_pos (by omega)]
    show zlA (zlN (Q.2.2.2 c) (Q.2.2.1 c j) ++ zlK Q c (j + 1) m1) Listing_size_2 Listing_bytes_2 e1 e2
    rw [el]
    exact zlA_t (zlA_t w (zlA_1 (by decide) (by decide) h11)) (ih (j + 1) m1 (by omega) (by omega))
  · intro l3_2 Listing_size_2 Listing_bytes_2 x1 x2 x3 x4 x5 x6 k e1 e2 h1 h2 h3 h4 h5 h6 h7 h8 h9 h10 h11 h12 ih
    intro j m hj hm
    have be := bE_tr2 hcd hb hcl h3
    have ef : fsm Q.2.1 (c + 1) = fsm Q.2.1 c + Q.2.1 c := rfl
    rw [ef] at be
    obtain ⟨m1, rfl⟩ : ∃ m1, m = m1 + 1 := ⟨m - 1, by omega⟩
    have hi : l3_2.toNatClampNeg = fsm Q.2.1 c + j := nnE hj
    have cl : cdL (fsm Q.2.1 c + j) (Q.2.2.1 c j) Code_op Code_set Code_left Code_leftNumber Code_right Code_rightNumber := hcd.2.2.2 c j hcl (by omega)
    have eo := cl.1
    rw [← hi, ← h5] at eo
    have hg := hcd.2.2.1 c hcl
    obtain ⟨r1, r2⟩ := rn_e hP hcl (show j < Q.2.1 c by omega) (by omega)
    have w := ade_tr2 (l := Q.2.2.1 c j) (g := Q.2.2.2 c) hi (nnE hb) cl r1 r2 hg.2.1 hg.2.2 h9
    have el : zlN (Q.2.2.2 c) (Q.2.2.1 c j) = zlF (Q.2.2.2 c) (Q.2.2.1 c j) ++ [10] := by unfold zlN; rw [if_neg (by omega)]
    show zlA (zlN (Q.2.2.2 c) (Q.2.2.1 c j) ++ zlK Q c (j + 1) m1) Listing_size_2 Listing_bytes_2 e1 e2
    rw [el]
    exact zlA_t (zlA_t w (zlA_1 (by decide) (by decide) h11)) (ih (j + 1) m1 (by omega) (by omega))
  · intro l3_2 Listing_size_2 Listing_bytes_2 x1 h1 h2 h3 h4
    intro j m hj hm
    have be := bE_tr2 hcd hb hcl h3
    have ef : fsm Q.2.1 (c + 1) = fsm Q.2.1 c + Q.2.1 c := rfl
    rw [ef] at be
    have e : m = 0 := by omega
    rw [e]
    exact zlA_0
  · intro l3_2 Listing_size_2 Listing_bytes_2 x1 x2 x3 x4 x5 x6 x7 k e1 e2 h1 h2 h3 h4 h5 h6 h7 h8 h9 h10 h11 h12 ih
    intro j m hj hm
    have be := bE_tr2 hcd hb hcl h3
    have ef : fsm Q.2.1 (c + 1) = fsm Q.2.1 c + Q.2.1 c := rfl
    rw [ef] at be
    obtain ⟨m1, rfl⟩ : ∃ m1, m = m1 + 1 := ⟨m - 1, by omega⟩
    have hi : l3_2.toNatClampNeg = fsm Q.2.1 c + j := nnE hj
    have cl : cdL (fsm Q.2.1 c + j) (Q.2.2.1 c j) Code_op Code_set Code_left Code_leftNumber Code_right Code_rightNumber := hcd.2.2.2 c j hcl (by omega)
    have eo := cl.1
    rw [← hi, ← h5] at eo
    have w := adr_tr2 (l := Q.2.2.1 c j) hi cl (rn_r (j := j) hP hcl (by omega) (by omega)).2 h9
    have el : zlN (Q.2.2.2 c) (Q.2.2.1 c j) = zlR (Q.2.2.1 c j) ++ [10] := by unfold zlN; rw [if_pos (by omega)]
    show zlA (zlN (Q.2.2.2 c) (Q.2.2.1 c j) ++ zlK Q c (j + 1) m1) Listing_size_2 Listing_bytes_2 e1 e2
    rw [el]
    exact zlA_t (zlA_t w (zlA_1 (by decide) (by decide) h11)) (ih (j + 1) m1 (by omega) (by omega))
  · intro l3_2 Listing_size_2 Listing_bytes_2 x1 x2 x3 x4 x5 x6 x7 k e1 e2 h1 h2 h3 h4 h5 h6 h7 h8 h9 h10 h11 h12 ih
    intro j m hj hm
    have be := bE_tr2 hcd hb hcl h3
    have ef : fsm Q.2.1 (c + 1) = fsm Q.2.1 c + Q.2.1 c := rfl
    rw [ef] at be
    obtain ⟨m1, rfl⟩ : ∃ m1, m = m1 + 1 := ⟨m - 1, by omega⟩
    have hi : l3_2.toNatClampNeg = fsm Q.2.1 c + j := nnE hj
    have cl : cdL (fsm Q.2.1 c + j) (Q.2.2.1 c j) Code_op Code_set Code_left Code_leftNumber Code_right Code_rightNumber := hcd.2.2.2 c j hcl (by omega)
    have eo := cl.1
    rw [← hi, ← h5] at eo
    have hg := hcd.2.2.1 c hcl
    obtain ⟨r1, r2⟩ := rn_e hP hcl (show j < Q.2.1 c by omega) (by omega)
    have w := ade_tr2 (l := Q.2.2.1 c j) (g := Q.2.2.2 c) hi (nnE hb) cl r1 r2 hg.2.1 hg.2.2 h9
    have el : zlN (Q.2.2.2 c) (Q.2.2.1 c j) = zlF (Q.2.2.2 c) (Q.2.2.1 c j) ++ [10] := by unfold zlN; rw [if_neg (by omega)]
    show zlA (zlN (Q.2.2.2 c) (Q.2.2.1 c j) ++ zlK Q c (j + 1) m1) Listing_size_2 Listing_bytes_2 e1 e2
    rw [el]
    exact zlA_t (zlA_t w (zlA_1 (by decide) (by decide) h11)) (ih (j + 1) m1 (by omega) (by omega))
theorem zw72 {Code_blocks : Int32} {Code_first : Nat → Int32} {Code_lines : Int32} {Code_op : Nat → Int32} {Code_set : Nat → Int32} {Code_left : Nat → Int32} {Code_leftNumber : Nat → Int32} {Code_right : Nat → Int32} {Code_rightNumber : Nat → Int32} {Code_firstGoal : Nat → Int32} {Code_secondGoal : Nat → Int32} {s1 : Int32} {s2 : Int32} {s3 : Nat → Int32} {k : Nat} {e1 : Int32} {e2 : Nat → Int32} (hP : rnP Q) (hcd : cdP Code_blocks Code_lines Code_first Code_firstGoal Code_secondGoal Code_op Code_set Code_left Code_leftNumber Code_right Code_rightNumber Q) (h : tl_Listing_write2_7 Code_blocks Code_first Code_lines Code_op Code_set Code_left Code_leftNumber Code_right Code_rightNumber Code_firstGoal Code_secondGoal s1 s2 s3 k e1 e2) : ∀ c m : Nat, s1.toInt = (c : Int) → c + m = Q.1 → zlA (zlM Q c m) s2 s3 e1 e2 := by
  refine h (fun s1 s2 s3 _ e1 e2 => ∀ c m : Nat, s1.toInt = (c : Int) → c + m = Q.1 → zlA (zlM Q c m) s2 s3 e1 e2) ?_ ?_
  · intro l2_1 Listing_size_1 Listing_bytes_1 h1 h2 h3
    intro c m hc hm
    have e1 := hcd.1
    have e : m = 0 := by omega
    rw [e]
    exact zlA_0
  · intro l2_1 Listing_size_1 Listing_bytes_1 x1 x2 x3 x4 x5 x6 x7 x8 k e1 e2 h1 h2 h3 h4 h5 h6 h7 h8 h9 h10 h11 ih
    intro c m hc hm
    have e1 := hcd.1
    obtain ⟨m1, rfl⟩ : ∃ m1, m = m1 + 1 := ⟨m - 1, by omega⟩
    have hcl : c < Q.1 := by omega
    have w1 := adm_tr as_18 h5
    rw [hc] at w1
    have hx := h8
    rw [nnE hc] at hx
    have w3 := zw352 hP hcd hc hcl h10 0 (Q.2.1 c) (by rw [hx]; exact (hcd.2.2.1 c hcl).1) (Nat.zero_add _)
    rw [zlK_0] at w3
    exact zlA_t (zlA_t (zlA_t w1 (adt_tr as_19 h7)) w3) (ih (c + 1) m1 (by omega) (by omega))
theorem wr_tr2 {Code_blocks : Int32} {Code_lines : Int32} {Listing_bytes : Nat → Int32} {Code_first : Nat → Int32} {Code_firstGoal : Nat → Int32} {Code_secondGoal : Nat → Int32} {Code_op : Nat → Int32} {Code_set : Nat → Int32} {Code_left : Nat → Int32} {Code_leftNumber : Nat → Int32} {Code_right : Nat → Int32} {Code_rightNumber : Nat → Int32} {o1 : Int32} {o2 : Nat → Int32} (hP : rnP Q) (hcd : cdP Code_blocks Code_lines Code_first Code_firstGoal Code_secondGoal Code_op Code_set Code_left Code_leftNumber Code_right Code_rightNumber Q) (h : tr_Listing_write2 Code_blocks Code_lines Listing_bytes Code_first Code_firstGoal Code_secondGoal Code_op Code_set Code_left Code_leftNumber Code_right Code_rightNumber o1 o2) : (zlB Q Q.1).length ≤ 16384 → o1.toInt = ((zlB Q Q.1).length : Int) ∧ ∀ i, i < (zlB Q Q.1).length → o2 i = (zlB Q Q.1).getD i 0 := by
  refine h (fun o1 o2 => (zlB Q Q.1).length ≤ 16384 → o1.toInt = ((zlB Q Q.1).length : Int) ∧ ∀ i, i < (zlB Q Q.1).length → o2 i = (zlB Q Q.1).getD i 0) ?_
  · intro x1 x2 h1
    intro hl
    have w := zw72 hP hcd h1 0 Q.1 (by decide) (Nat.zero_add _)
    rw [zlM_0] at w
    obtain ⟨q1, -, q2⟩ := w 0 (by decide) (by omega)
    exact ⟨by omega, fun i hi => by have q := q2 i hi; rw [Nat.zero_add] at q; exact q⟩
/-- eight bytes from i on: how many are done -/
def w8 (f : Nat → Int32) (n i : Nat) : Nat → Int64
  | 0 => 0
  | j + 1 => w8 f n i j <<< ((8 : Int32).toInt64 &&& 63) ||| (if i + j < n then (f (i + j) &&& 255).toInt64 else 0)
theorem w8_c {f g : Nat → Int32} {n i : Nat} (h : ∀ j, j < n → f j = g j) : ∀ j, w8 f n i j = w8 g n i j
  | 0 => rfl
  | j + 1 => by
    show w8 f n i j <<< ((8 : Int32).toInt64 &&& 63) ||| (if i + j < n then (f (i + j) &&& 255).toInt64 else 0) = w8 g n i j <<< ((8 : Int32).toInt64 &&& 63) ||| (if i + j < n then (g (i + j) &&& 255).toInt64 else 0)
    rw [w8_c h j]
    by_cases c : i + j < n
    · rw [if_pos c, if_pos c, h _ c]
    · rw [if_neg c, if_neg c]
theorem e8_l {a1 : Int32} {Listing_size : Int32} {Listing_bytes : Nat → Int32} {s1 : Int32} {s2 : Int64} {k : Nat} {e1 : Int64} (h : tl_Listing_eightFrom_5 a1 Listing_size Listing_bytes s1 s2 k e1) : ∀ i j n : Nat, a1.toInt = (i : Int) → Listing_size.toInt = (n : Int) → n ≤ 16384 → i < n → j ≤ 8 → s1.toInt = ((i + j : Nat) : Int) → s2 = w8 Listing_bytes n i j → e1 = w8 Listing_bytes n i 8 := by
  refine h (fun s1 s2 _ e1 => ∀ i j n : Nat, a1.toInt = (i : Int) → Listing_size.toInt = (n : Int) → n ≤ 16384 → i < n → j ≤ 8 → s1.toInt = ((i + j : Nat) : Int) → s2 = w8 Listing_bytes n i j → e1 = w8 Listing_bytes n i 8) ?_ ?_ ?_ ?_
  · intro l4_1 l2_1 x1 h1 h2
    intro i j n hi hn hN hin hj hs hw
    have q1 := px_add h1 (by rw [px_8]; omega) (by rw [px_8]; omega)
    rw [px_8] at q1
    have e : j = 8 := by omega
    rw [e] at hw
    exact hw
  · intro l4_1 l2_1 x1 x2 x3 x4 x5 k e1 h1 h2 h3 h4 h5 h6 h7 ih
    intro i j n hi hn hN hin hj hs hw
    have q1 := px_add h1 (by rw [px_8]; omega) (by rw [px_8]; omega)
    rw [px_8] at q1
    have w := h4
    omega
  · intro l4_1 l2_1 x1 x2 x3 x4 x5 k e1 h1 h2 h3 h4 h5 h6 h7 h8 ih
    intro i j n hi hn hN hin hj hs hw
    have q1 := px_add h1 (by rw [px_8]; omega) (by rw [px_8]; omega)
    rw [px_8] at q1
    refine ih i (j + 1) n hi hn hN hin (by omega) (by omega) ?_
    show _ = w8 Listing_bytes n i j <<< ((8 : Int32).toInt64 &&& 63) ||| (if i + j < n then (Listing_bytes (i + j) &&& 255).toInt64 else 0)
    rw [if_neg (by omega), h7, h3, hw, h6]; rfl
  · intro l4_1 l2_1 x1 x2 x3 x4 x5 x6 x7 k e1 h1 h2 h3 h4 h5 h6 h7 h8 h9 h10 h11 ih
    intro i j n hi hn hN hin hj hs hw
    have q1 := px_add h1 (by rw [px_8]; omega) (by rw [px_8]; omega)
    rw [px_8] at q1
    refine ih i (j + 1) n hi hn hN hin (by omega) (by omega) ?_
    show _ = w8 Listing_bytes n i j <<< ((8 : Int32).toInt64 &&& 63) ||| (if i + j < n then (Listing_bytes (i + j) &&& 255).toInt64 else 0)
    rw [if_pos (by omega), h10, h3, hw, h9, h8, h6, nnE hs]
theorem e8_tr {x : Int32} {z : Int64} {i n : Nat} (hx : x.toInt = (i : Int)) (hn : s.toInt = (n : Int)) (hN : n ≤ 16384) (hin : i < n) (h : tr_Listing_eightFrom x s f z) : z = w8 f n i 8 := by
  refine h (fun z => z = w8 f n i 8) ?_
  · intro x1 h1
    exact e8_l h1 i 0 n hx hn hN hin (by decide) hx rfl
end LSC
end
section
/-! G over worlds with a pool: X ++ va_pl P F, P the addresses, F the cell at each -/
section GPOOL
variable {v : gEnv} {l : Launch} {R : Room} {Qf : gFin} {k : gKey} {pc : Nat} {L : List (Nat × Value)} {st : List Value} {X : va_W} {P : List Nat} {F : Nat → va_E} {cs sl : Nat}
variable {a ci N i : Nat} {fs : List Value} {x : Value} {C : String} {T : u_T} {ty : Nat → FieldType}
theorem G_pget (f : Nat) (ha : a ∈ P) (he : F a = .inr (ci, fs)) (d : decode k.1 pc = .ok (.getfield i, 3)) (hc : gK v ci C T N ty) (hf : f < N) (hl : Cond.fieldLink k.2.2.1 i (T f).1 (T f).2.1 (T f).2.2.1 ∈ v.2.2.2.2) (hx : fs[f]? = some x)
    (n : G v l R Qf k (pc + 3) L (x :: st) (X ++ va_pl P F) cs sl) : G v l R Qf k pc L (.ref a :: st) (X ++ va_pl P F) cs sl := by
  obtain ⟨q, hq⟩ := va_pl_get (X := X) (f := F) ha
  exact G_getf q f d (by rw [hq, he]) hc hf hl hx n
theorem G_pgetN {host : String} (f : Nat) (ha : a ∈ P) (he : F a = .inr (ci, fs)) (d : decode k.1 pc = .ok (.getfield i, 3)) (hc : gK v ci C T N ty) (hf : f < N) (hl : ∀ A s H, v.2.2.2.1 A s H → va_Nw (.fieldLinkNest k.2.2.1 i (T f).1 (T f).2.1 (T f).2.2.1 host) s) (hx : fs[f]? = some x)
    (n : G v l R Qf k (pc + 3) L (x :: st) (X ++ va_pl P F) cs sl) : G v l R Qf k pc L (.ref a :: st) (X ++ va_pl P F) cs sl := by
  obtain ⟨q, hq⟩ := va_pl_get (X := X) (f := F) ha
  exact G_getfN q f d (by rw [hq, he]) hc hf hl hx n
theorem G_pput (f : Nat) (ha : a ∈ P) (he : F a = .inr (ci, fs)) (d : decode k.1 pc = .ok (.putfield i, 3)) (hc : gK v ci C T N ty) (hf : f < N) (hl : Cond.fieldLink k.2.2.1 i (T f).1 (T f).2.1 (T f).2.2.1 ∈ v.2.2.2.2) (hfin : (T f).2.2.2 = false) (hn : narrow (ty f) x = x) (hfit : fits (ty f) x = true) (hlen : f < fs.length)
    (n : G v l R Qf k (pc + 3) L st (X ++ va_pl P (va_up F a (.inr (ci, fs.set f x)))) cs sl) : G v l R Qf k pc L (x :: .ref a :: st) (X ++ va_pl P F) cs sl := fun p e s m args below meth c A H locs ls C hP hD hS h => by
  obtain ⟨q, hq⟩ := va_pl_get (X := X) (f := F) ha
  exact G_putf q f d (by rw [hq, he]) hc hf hl hfin hn hfit hlen (va_pl_set hD ha hq) n p e s m args below meth c A H locs ls C hP hD hS h
theorem G_pputN {host : String} (f : Nat) (ha : a ∈ P) (he : F a = .inr (ci, fs)) (d : decode k.1 pc = .ok (.putfield i, 3)) (hc : gK v ci C T N ty) (hf : f < N) (hl : ∀ A s H, v.2.2.2.1 A s H → va_Nw (.fieldLinkNest k.2.2.1 i (T f).1 (T f).2.1 (T f).2.2.1 host) s) (hfin : (T f).2.2.2 = false) (hn : narrow (ty f) x = x) (hfit : fits (ty f) x = true) (hlen : f < fs.length)
    (n : G v l R Qf k (pc + 3) L st (X ++ va_pl P (va_up F a (.inr (ci, fs.set f x)))) cs sl) : G v l R Qf k pc L (x :: .ref a :: st) (X ++ va_pl P F) cs sl := fun p e s m args below meth c A H locs ls C hP hD hS h => by
  obtain ⟨q, hq⟩ := va_pl_get (X := X) (f := F) ha
  exact G_putfN q f d (by rw [hq, he]) hc hf hl hfin hn hfit hlen (va_pl_set hD ha hq) n p e s m args below meth c A H locs ls C hP hD hS h
/-- a cell made behind the pool goes into it -/
theorem G_pin {q : Nat} {e : va_E} (n : G v l R Qf k pc L st (X ++ va_pl (P ++ [q]) (va_up F q e)) cs sl) : G v l R Qf k pc L st ((X ++ va_pl P F) ++ [(q, e)]) cs sl := fun p e' s m args below meth c A H locs ls C hP hD hS h => by
  have hq : q ∉ P := fun hm => by
    obtain ⟨j, hj⟩ := va_pl_get (X := X) (f := F) hm
    have hlt := (List.getElem?_eq_some_iff.mp hj).1
    have h1 : ((X ++ va_pl P F) ++ [(q, e)])[j]? = some (q, F q) := by rw [List.getElem?_append_left hlt]; exact hj
    have h2 : ((X ++ va_pl P F) ++ [(q, e)])[(X ++ va_pl P F).length]? = some (q, e) := by rw [List.getElem?_append_right (Nat.le_refl _), Nat.sub_self]; rfl
    have h3 := hD.1 j _ _ _ h1 h2 rfl
    omega
  have hw : (X ++ va_pl P F) ++ [(q, e)] = X ++ va_pl (P ++ [q]) (va_up F q e) := by rw [List.append_assoc, va_pl_push hq]
  rw [hw] at hP hD
  exact n p e' s m args below meth c A H locs ls C hP hD hS h
/-- the places of some fixed cells and of the whole pool, for a call -/
theorem r_places {X cx W : va_W} (is : List Nat) (hs : is.map (fun i => X[i]?) = cx.map some) : (is ++ (List.range W.length).map (fun j => X.length + j)).map (fun i => (X ++ W)[i]?) = (cx ++ W).map some := by
  have hlt : ∀ i ∈ is, i < X.length := fun i hi => by
    have h1 : X[i]? ∈ is.map (fun i => X[i]?) := List.mem_map.mpr ⟨i, hi, rfl⟩
    rw [hs] at h1
    obtain ⟨q, -, hq⟩ := List.mem_map.mp h1
    exact (List.getElem?_eq_some_iff.mp hq.symm).1
  rw [List.map_append, List.map_append, ← hs, List.map_map]
  congr 1
  · apply List.map_congr_left
    intro i hi
    exact List.getElem?_append_left (hlt i hi)
  · apply List.ext_getElem?
    intro j
    simp only [List.getElem?_map]
    by_cases h : j < W.length
    · rw [List.getElem?_range h, List.getElem?_eq_getElem h]
      show some ((X ++ W)[X.length + j]?) = some (some W[j])
      rw [List.getElem?_append_right (Nat.le_add_right _ _), Nat.add_sub_cancel_left, List.getElem?_eq_getElem h]
    · rw [List.getElem?_eq_none (by simpa using Nat.le_of_not_lt h), List.getElem?_eq_none (Nat.le_of_not_lt h)]
      rfl
theorem r_nd : ∀ l : List Nat, l.Nodup → va_nd l = true
  | [], _ => rfl
  | a :: l, h => by
    rw [va_nd, Bool.and_eq_true]
    exact ⟨decide_eq_true (List.nodup_cons.mp h).1, r_nd l (List.nodup_cons.mp h).2⟩
end GPOOL
end
section
/-! an address of the pool is none of a literal's -/
section GKNE
variable {v : gEnv} {l : Launch} {R : Room} {Qf : gFin} {k : gKey} {pc : Nat} {L : List (Nat × Value)} {st : List Value} {X : va_W} {P : List Nat} {F : Nat → va_E} {cs sl a b : Nat} {x : Value}
theorem G_pkne {o n0 d0 : String} (ha : a ∈ P) (hE : ∀ A s H, v.2.2.2.1 A s H → va_OF o n0 d0 x b A s H) (n : a ≠ b → G v l R Qf k pc L st (X ++ va_pl P F) cs sl) : G v l R Qf k pc L st (X ++ va_pl P F) cs sl := fun p e s m args below meth c A H locs ls C hP hD hS h => by
  obtain ⟨h1, h2, h3, h4, h5, h6, h7, h8, h9, h10, h11, h12, h13⟩ := id C
  obtain ⟨q, hq⟩ := va_pl_get (X := X) (f := F) ha
  have g1 : A a := hD.2 q _ hq
  obtain ⟨_, _, _, _, _, _, _, _, _, _, g2⟩ := hE _ _ _ h12
  exact n (fun e' => g2 (e' ▸ g1)) p e s m args below meth c A H locs ls C hP hD hS h
end GKNE
end
section
/-! G: contracts that tell how many cells and slots were made -/
def gSl (H : Heap) : Nat := (H.toList.map (fun c => c.slots.size)).sum
def gHz (H H1 : Heap) (dc ds : Nat) : Prop := H1.size ≤ H.size + dc ∧ gSl H1 ≤ gSl H + ds
theorem gSl_eq {s s' : State} {locs : List Loc} {cells slots : Nat} (h : s.sameButNew s' locs cells slots) : gSl s'.heap = gSl s.heap + ((s'.heap.toList.drop s.heap.size).map (fun c => c.slots.size)).sum := by
  obtain ⟨-, h2, -, -, -, h6⟩ := h
  have ht : (s'.heap.toList.take s.heap.size).map (fun c => c.slots.size) = s.heap.toList.map (fun c => c.slots.size) := by
    apply List.ext_getElem?
    intro j
    rw [List.getElem?_map, List.getElem?_map]
    by_cases hj : j < s.heap.size
    · rw [List.getElem?_take_of_lt hj]
      have e0 : s.heap[j]? = some s.heap[j] := Array.getElem?_eq_getElem hj
      obtain ⟨c', e1, -, e3, -⟩ := h6 j _ e0
      have e2 : s'.heap.toList[j]? = some c' := by rw [Array.getElem?_toList]; exact e1
      have e4 : s.heap.toList[j]? = some s.heap[j] := by rw [Array.getElem?_toList]; exact e0
      rw [e2, e4]
      simp [e3]
    · rw [List.getElem?_eq_none (by rw [List.length_take]; omega), List.getElem?_eq_none (by rw [Array.length_toList]; omega)]
  have e : s'.heap.toList = s'.heap.toList.take s.heap.size ++ s'.heap.toList.drop s.heap.size := (List.take_append_drop _ _).symm
  have e2 : (s'.heap.toList.map (fun c => c.slots.size)).sum = ((s'.heap.toList.take s.heap.size ++ s'.heap.toList.drop s.heap.size).map (fun c => c.slots.size)).sum := congrArg (fun z => (List.map (fun c : Cell => c.slots.size) z).sum) e
  unfold gSl
  rw [e2, List.map_append, List.sum_append, ht]
theorem gHz_of {s s' : State} {locs : List Loc} {cells slots : Nat} (h : s.sameButNew s' locs cells slots) : gHz s.heap s'.heap cells slots := by
  refine ⟨h.2.2.1, ?_⟩
  rw [gSl_eq h]
  exact Nat.add_le_add_left h.2.2.2.2.1 _
theorem gHz_trans {H H1 H2 : Heap} {a b c d : Nat} (h : gHz H H1 a b) (g : gHz H1 H2 c d) : gHz H H2 (a + c) (b + d) := ⟨by have := h.1; have := g.1; omega, by have := h.2; have := g.2; omega⟩
section GTI
variable {p : Program} {l : Launch} {e : Env} {R : Room} {s : State} {m : MethodId} {args : Array Value} {below : List Frame} {meth : Method} {c : Code} {T T' : State} {locs locs' : List Loc} {cs sl cs' sl' dc ds : Nat}
theorem gHz_stand (X : Stand p l e R s m args below meth c T locs cs sl) : gHz s.heap T.heap cs sl := by
  have h := gHz_of X.same
  exact h
theorem stand_tight (X : Stand p l e R s m args below meth c T locs cs sl) (X' : Stand p l e R s m args below meth c T' locs' cs' sl') (hz : gHz T.heap T'.heap dc ds) : Stand p l e R s m args below meth c T' locs' (cs + dc) (sl + ds) := by
  have h1 := gHz_trans (gHz_stand X) hz
  have h2 := gSl_eq X'.same
  have h3 : gSl T'.heap = gSl s.heap + ((T'.heap.toList.drop s.heap.size).map (fun c => c.slots.size)).sum := h2
  refine { X' with same := ⟨X'.same.1, X'.same.2.1, h1.1, X'.same.2.2.2.1, ?_, X'.same.2.2.2.2.2⟩ }
  have h4 := h1.2
  show ((T'.heap.toList.drop s.heap.size).map (fun c => c.slots.size)).sum ≤ sl + ds
  omega
end GTI
def gQA (v : gEnv) (Post : Option Value → va_W → Nat → Nat → Prop) (A : Nat → Prop) : Array Value → State → Outcome → State → Prop := fun _ st o t => (∃ (r : Option Value) (w : va_W) (dc ds : Nat), o = .returned r ∧ Post r w dc ds ∧ gHz st.heap t.heap dc ds ∧ va_P v.1 v.2.1 w t.heap ∧ va_D A w) ∧ va_F A st t
def gXA (v : gEnv) (XP : String → Nat → va_W → Nat → Nat → Prop) (A : Nat → Prop) : String → Addr → State → State → Prop := fun E q st t => (∃ (w : va_W) (dc ds : Nat), XP E q w dc ds ∧ gHz st.heap t.heap dc ds ∧ va_P v.1 v.2.1 w t.heap ∧ va_D A w) ∧ va_F A st t
def gMA (v : gEnv) (Post : Option Value → va_W → Nat → Nat → Prop) (XP : String → Nat → va_W → Nat → Nat → Prop) (mc ms : Nat) : gFin := fun below args s A => vx_MQ below (gQA v Post A) (gXA v XP A) args s mc ms A
/-- as Ct; the ends say how much was made -/
def CtA (v : gEnv) (l : Launch) (y : MethodName) (cc : ByteArray) (nL : Nat) (ret : Option FieldType) (fr lo mc ms : Nat) (av : List Value) (ws : va_W) (Post : Option Value → va_W → Nat → Nat → Prop) (XP : String → Nat → va_W → Nat → Nat → Prop) : Prop :=
  ∀ sz : Nat, vx_Met l y (.code y cc nL ret :: v.2.2.2.2) (gRm fr lo mc ms) (gPre v av ws sz) (gQA v Post (va_A ws sz)) (gXA v XP (va_A ws sz)) mc ms (va_A ws sz)
abbrev gNA : String → Nat → va_W → Nat → Nat → Prop := fun _ _ _ _ _ => False
section GEA
variable {v : gEnv} {l : Launch} {y : MethodName} {cc : ByteArray} {nL fr lo mc ms : Nat} {ret : Option FieldType} {av : List Value} {ws : va_W} {Post : Option Value → va_W → Nat → Nat → Prop} {XP : String → Nat → va_W → Nat → Nat → Prop}
set_option maxHeartbeats 1000000 in
theorem CtA_of (hl0 : l.stackTraces = false) (hy : plainName y.cls = true) (hlen : (lg_sl av).length ≤ nL) (h : G v l (gRm fr lo mc ms) (gMA v Post XP mc ms) (cc, nL, y.cls, ret, [], y.name, fun _ _ => True) 0 (lv_args 0 av) [] ws 0 0) :
    CtA v l y cc nL ret fr lo mc ms av ws Post XP := by
  intro sz
  refine vx_ofW (cc := cc) (maxL := nL) (ret := ret) hy rfl ?_
  intro p e s m args below meth c s₁ B hml ht hpre
  obtain ⟨rfl, hsz, hP, hK, hD, hE⟩ := hpre
  subst hsz
  have hts := atoms_spec (ws := .code y cc nL ret :: v.2.2.2.2) B.pre
  have hl := lv_entry av (n := nL) hlen
  rw [lg_entry_eq]
  generalize (lg_sl av ++ List.replicate (nL - (lg_sl av).length) Slot.unset).toArray = ls at hl ⊢
  have ht0 : c.exceptionTable.toList = [] := by
    cases hx : c.exceptionTable.toList with
    | nil => rfl
    | cons x r => exact absurd (by rw [hx]; exact List.mem_cons_self) (fun z => ht x z)
  exact h p e s m av.toArray below meth c (va_A ws s.heap.size) s.heap [] ls ⟨B.exec, B.bytes, hml, findClass_of_methodNamed B.named, B.returns, ht0, (name_of_methodNamed B.named B.method).1, fun w hw => hts w (List.mem_cons_of_mem _ hw), B.notSynchronized, hK, fun q hq => Or.inr hq, hE, hl0, trivial⟩ hP hD.self va_S.rf hl
/-- a contract with fixed numbers is one -/
theorem CtA_ofCt {P0 : Option Value → va_W → Prop} {X0 : String → Nat → va_W → Prop} (h : Ct v l y cc nL ret fr lo mc ms av ws P0 X0) : CtA v l y cc nL ret fr lo mc ms av ws (fun r w dc ds => P0 r w ∧ dc = mc ∧ ds = ms) (fun E q w dc ds => X0 E q w ∧ dc = mc ∧ ds = ms) := by
  intro sz p e h1 h2 h3 s m args below h4 h5 h6 h7
  obtain ⟨n, o, g1, g2, g3, g4⟩ := h sz p e h1 h2 h3 s m args below h4 h5 h6 h7
  refine ⟨n, o, g1, g2, g3, ?_⟩
  rcases g4 with ⟨⟨⟨r, w, e1, e2, e3, e4⟩, e5⟩, L, e6, e7⟩ | ⟨q, e1, E, ce, L, ⟨⟨w, e2, e3, e4⟩, e5⟩, e6, e7, e8, e9, e10, e11⟩
  · exact Or.inl ⟨⟨⟨r, w, mc, ms, e1, ⟨e2, rfl, rfl⟩, (by have z := gHz_of e6.2.2; exact z), e3, e4⟩, e5⟩, L, e6, e7⟩
  · exact Or.inr ⟨q, e1, E, ce, L, ⟨⟨w, mc, ms, ⟨e2, rfl, rfl⟩, (by have z := gHz_of e10; exact z), e3, e4⟩, e5⟩, e6, e7, e8, e9, e10, e11⟩
end GEA
section GRetA
variable {v : gEnv} {l : Launch} {R : Room} {k : gKey} {pc cs sl mc ms : Nat} {L : List (Nat × Value)} {ws : va_W} {Post : Option Value → va_W → Nat → Nat → Prop} {XP : String → Nat → va_W → Nat → Nat → Prop}
theorem G_iretA {x : Int32} (d : decode k.1 pc = .ok (.ireturn, 1)) (hr : k.2.2.2.1 = some .int) (h1 : cs ≤ mc) (h2 : sl ≤ ms) (hp : Post (some (.int x)) ws cs sl) : G v l R (gMA v Post XP mc ms) k pc L [.int x] ws cs sl := fun p e s m args below meth c A H locs ls C hP hD hS h => by
  intro T hT X
  have hz := gHz_stand X
  rw [hT] at hz
  exact W.widen h1 h2 (vx_ret (W.iret C.1 C.2.1 (C.2.2.2.2.1.trans hr) (fun t ht hW => ⟨⟨_, ws, cs, sl, rfl, hp, by rw [ht]; exact hz, by rw [ht]; exact hP, hD⟩, hS.F ht⟩) hS.2.2 d C.2.2.2.2.2.2.2.2.1)) T hT X
theorem G_zretA {x : Int32} (ty : FieldType) (d : decode k.1 pc = .ok (.ireturn, 1)) (hr : k.2.2.2.1 = some ty) (hx : narrow ty (.int x) = .int x) (h1 : cs ≤ mc) (h2 : sl ≤ ms) (hp : Post (some (.int x)) ws cs sl) : G v l R (gMA v Post XP mc ms) k pc L [.int x] ws cs sl := fun p e s m args below meth c A H locs ls C hP hD hS h => by
  intro T hT X
  have hz := gHz_stand X
  rw [hT] at hz
  exact W.widen h1 h2 (vx_ret (W.zret C.1 C.2.1 (C.2.2.2.2.1.trans hr) hx (fun t ht hW => ⟨⟨_, ws, cs, sl, rfl, hp, by rw [ht]; exact hz, by rw [ht]; exact hP, hD⟩, hS.F ht⟩) hS.2.2 d C.2.2.2.2.2.2.2.2.1)) T hT X
theorem G_lretA {x : Int64} (d : decode k.1 pc = .ok (.lreturn, 1)) (hr : k.2.2.2.1 = some .long) (h1 : cs ≤ mc) (h2 : sl ≤ ms) (hp : Post (some (.long x)) ws cs sl) : G v l R (gMA v Post XP mc ms) k pc L [.long x] ws cs sl := fun p e s m args below meth c A H locs ls C hP hD hS h => by
  intro T hT X
  have hz := gHz_stand X
  rw [hT] at hz
  exact W.widen h1 h2 (vx_ret (W.lret C.1 C.2.1 (C.2.2.2.2.1.trans hr) (fun t ht hW => ⟨⟨_, ws, cs, sl, rfl, hp, by rw [ht]; exact hz, by rw [ht]; exact hP, hD⟩, hS.F ht⟩) hS.2.2 d C.2.2.2.2.2.2.2.2.1)) T hT X
theorem G_aretA {x : Value} (rt : FieldType) (d : decode k.1 pc = .ok (.areturn, 1)) (hr : k.2.2.2.1 = some rt) (hrt : (∃ n, rt = .object n) ∨ ∃ t, rt = .array t) (hx : x = .null ∨ ∃ a, x = .ref a) (h1 : cs ≤ mc) (h2 : sl ≤ ms) (hp : Post (some x) ws cs sl) : G v l R (gMA v Post XP mc ms) k pc L [x] ws cs sl := fun p e s m args below meth c A H locs ls C hP hD hS h => by
  intro T hT X
  have hz := gHz_stand X
  rw [hT] at hz
  exact W.widen h1 h2 (vx_ret (W.aret C.1 C.2.1 (C.2.2.2.2.1.trans hr) hrt hx (fun t ht hW => ⟨⟨_, ws, cs, sl, rfl, hp, by rw [ht]; exact hz, by rw [ht]; exact hP, hD⟩, hS.F ht⟩) hS.2.2 d C.2.2.2.2.2.2.2.2.1)) T hT X
theorem G_vretA (d : decode k.1 pc = .ok (.return_, 1)) (hr : k.2.2.2.1 = none) (h1 : cs ≤ mc) (h2 : sl ≤ ms) (hp : Post none ws cs sl) : G v l R (gMA v Post XP mc ms) k pc L [] ws cs sl := fun p e s m args below meth c A H locs ls C hP hD hS h => by
  intro T hT X
  have hz := gHz_stand X
  rw [hT] at hz
  exact W.widen h1 h2 (vx_ret (W.vret C.1 C.2.1 (C.2.2.2.2.1.trans hr) (fun t ht hW => ⟨⟨_, ws, cs, sl, rfl, hp, by rw [ht]; exact hz, by rw [ht]; exact hP, hD⟩, hS.F ht⟩) hS.2.2 d C.2.2.2.2.2.2.2.2.1)) T hT X
theorem GT_outA {st : List Value} {E : String} {q : Nat} (ht : k.2.2.2.2.1 = []) (h1 : cs ≤ mc) (h2 : sl ≤ ms) (hp : XP E q ws cs sl) : GT v l R (gMA v Post XP mc ms) k pc L st E q ws cs sl := fun p e s m args below meth c A H locs ls ce C hP hD hS h hq hv hcl => by
  intro T hT X
  have hz := gHz_stand X
  rw [hT] at hz
  exact vx_out (fun x hx => by rw [C.2.2.2.2.2.1, ht] at hx; cases hx) C.2.2.2.2.2.2.2.2.1 hq hv hcl (fun t ht hW => ⟨⟨ws, cs, sl, hp, by rw [ht]; exact hz, by rw [ht]; exact hP, hD⟩, hS.F ht⟩) hS.2.2 h1 h2 T hT X
end GRetA
section GCallA
variable {v : gEnv} {l : Launch} {R : Room} {Qf : gFin} {k : gKey} {pc cs sl : Nat} {L : List (Nat × Value)} {st : List Value} {ws wc wr : va_W}
variable {y : MethodName} {cc' : ByteArray} {nL' fr' lo' mc' ms' i b : Nat} {ret' : Option FieldType} {As : List Value} {Post' : Option Value → va_W → Nat → Nat → Prop} {XP' : String → Nat → va_W → Nat → Nat → Prop}
theorem g_backA {p : Program} {e : Env} {s : State} {m : MethodId} {args : Array Value} {below : List Frame} {meth : Method} {c : Code} {A : Nat → Prop} {H : Heap} {locs : List Loc} {ls : Array Slot} {a9 : Array Value} {st0 : List Value} (isC isR : List Nat) (hC : isC.map (fun i => ws[i]?) = wc.map some) (hR : isR.map (fun i => ws[i]?) = wr.map some) (hn : va_nd isR = true) (hdis : ∀ i ∈ isR, i ∉ isC)
    (C : gC v k A p l s m args meth c) (hP : va_P v.1 v.2.1 ws H) (hD : va_D A ws) (hS : va_S A s.heap H locs) (h : lv_has ls k.2.1 L)
    (hr : vx_Run p l e R s m args below meth c H locs cs sl mc' ms' (F0 m pc ls st0) st (gQA v Post' (va_A wc H.size) a9) (gXA v XP' (va_A wc H.size)) (va_A wc H.size))
    (kk : ∀ r w dc ds, Post' r w dc ds → G v l R Qf k (pc + 3) L (r.toList ++ st) (wr ++ w) (cs + dc) (sl + ds)) (kx : ∀ E q w dc ds, XP' E q w dc ds → GT v l R Qf k pc L st E q (wr ++ w) (cs + dc) (sl + ds)) :
    W p l e R s m args below meth c H locs cs sl (Qf below args s A) (F0 m pc ls st0) := by
  have hF := va_free hD hS C.2.2.2.2.2.2.2.2.2.2.1 isC hC
  intro T hT X
  rcases hr T hT X with ⟨r, st₀, t, T', L9, h0, X', hL, e1, e2, ⟨⟨r', w, dc, ds, hv, hp, hzz, hPw, hDw⟩, hz⟩, stp⟩ | ⟨q, st₀, t, T', L9, E, ce, h0, X', hL, e1, e2, ⟨⟨w, dc, ds, hp, hzz, hPw, hDw⟩, hz⟩, hce, hcv, hcl, stp⟩
  · cases hv
    have X2 := stand_tight X X' (dc := dc) (ds := ds) (by rw [hT, e1, ← h0]; exact hzz)
    obtain ⟨k1, k2, k3⟩ := vx_keep (A0 := A) h0 e1 hS (fun q _ z => hF q z) hF hL hz
    rw [← e1] at hPw
    obtain ⟨j1, j2⟩ := va_join hP hD isC isR hC hR hn hdis k2 hF hPw hDw
    obtain ⟨t2, a1, b1⟩ := kk r w dc ds hp p e s m args below meth c A T'.heap (locs ++ L9) ls C j1 j2 k3 h T' rfl X2
    exact ⟨t2, stp t2 a1, b1⟩
  · have X2 := stand_tight X X' (dc := dc) (ds := ds) (by rw [hT, e1, ← h0]; exact hzz)
    obtain ⟨k1, k2, k3⟩ := vx_keep (A0 := A) h0 e1 hS (fun q _ z => hF q z) hF hL hz
    rw [← e1] at hPw hce
    obtain ⟨j1, j2⟩ := va_join hP hD isC isR hC hR hn hdis k2 hF hPw hDw
    obtain ⟨t2, a1, b1⟩ := kx E q w dc ds hp p e s m args below meth c A T'.heap (locs ++ L9) ls ce C j1 j2 k3 h hce hcv hcl T' rfl X2
    exact ⟨t2, stp.trans a1, b1⟩
theorem g_backAM {p : Program} {e : Env} {s : State} {m : MethodId} {args : Array Value} {below : List Frame} {meth : Method} {c : Code} {A : Nat → Prop} {H : Heap} {locs : List Loc} {ls : Array Slot} {a9 : Array Value} {st0 : List Value} (isC isR : List Nat) (hC : isC.map (fun i => ws[i]?) = wc.map some) (hR : isR.map (fun i => ws[i]?) = wr.map some) (hn : va_nd isR = true) (hdis : ∀ i ∈ isR, i ∉ isC)
    (C : gC v k A p l s m args meth c) (hP : va_P v.1 v.2.1 ws H) (hD : va_D A ws) (hS : va_S A s.heap H locs) (h : lv_has ls k.2.1 L)
    (hr : va_Run p l e R s m args below meth c H locs cs sl mc' ms' (F0 m pc ls st0) st (gQA v Post' (va_A wc H.size) a9) (va_A wc H.size))
    (kk : ∀ r w dc ds, Post' r w dc ds → G v l R Qf k (pc + 3) L (r.toList ++ st) (wr ++ w) (cs + dc) (sl + ds)) :
    W p l e R s m args below meth c H locs cs sl (Qf below args s A) (F0 m pc ls st0) :=
  g_backA (XP' := gNA) isC isR hC hR hn hdis C hP hD hS h (fun T hT X => Or.inl (hr T hT X)) kk (fun _ _ _ _ _ z => z.elim)
theorem CtA_met (h : CtA v l y cc' nL' ret' fr' lo' mc' ms' As wc Post' gNA) (sz : Nat) :
    Met l y (.code y cc' nL' ret' :: v.2.2.2.2) (gRm fr' lo' mc' ms') (gPre v As wc sz) (gQA v Post' (va_A wc sz)) mc' ms' (va_A wc sz) := by
  intro p e h1 h2 h3 s m args below h4 h5 h6 h7
  obtain ⟨n, o, g1, g2, g3, g4⟩ := h sz p e h1 h2 h3 s m args below h4 h5 h6 h7
  refine ⟨n, o, g1, g2, g3, ?_⟩
  rcases g4 with g4 | ⟨q, -, E, ce, L, ⟨⟨w, dc, ds, hw, -⟩, -⟩, -⟩
  · exact g4
  · exact hw.elim
theorem G_callVA {ci N : Nat} {fs : List Value} {T : u_T} (hv : gOk v) (cp : CtA v l y cc' nL' ret' fr' lo' mc' ms' (.ref b :: As) wc Post' XP') (d : decode k.1 pc = .ok (.invokevirtual i, 3)) (hw : gCw v R k.2.2.1 i y cc' nL' ret' fr' lo' As.length) (w2 : Cond.instanceMethod y ∈ v.2.2.2.2) (w3 : Cond.selects y.cls y y ∈ v.2.2.2.2)
    (q : Nat) (hq : ws[q]? = some (b, .inr (ci, fs))) (hcl : v.2.1[ci]? = some (y.cls, T, N)) (isC isR : List Nat) (hC : isC.map (fun i => ws[i]?) = wc.map some) (hR : isR.map (fun i => ws[i]?) = wr.map some) (hnC : va_nd isC = true) (hn : va_nd isR = true) (hdis : ∀ i ∈ isR, i ∉ isC)
    (hcs : cs + mc' ≤ R.cells) (hsl : sl + ms' ≤ R.slots) (hcat : (st.map fun u => u.category).sum ≤ 8)
    (kk : ∀ r w dc ds, Post' r w dc ds → G v l R Qf k (pc + 3) L (r.toList ++ st) (wr ++ w) (cs + dc) (sl + ds)) (kx : ∀ E q w dc ds, XP' E q w dc ds → GT v l R Qf k pc L st E q (wr ++ w) (cs + dc) (sl + ds)) :
    G v l R Qf k pc L (As.reverse ++ .ref b :: st) ws cs sl := fun p e s m args below meth c A H locs ls C hP hD hS h => by
  obtain ⟨h1, h2, h3, h4, h5, h6, h7, h8, h9, h10, h11, h12, h13⟩ := id C
  refine g_backA isC isR hC hR hn hdis C hP hD hS h (vx_runV (As := As) ⟨h1, h2, h3, h4, h8⟩ (cp H.size) ⟨g_cb hv h8 hw, h8 _ w2, h8 _ w3⟩ ⟨gPre_blind hv _ _ _, ?_, g_pre hv isC hC hnC C hP hD hS⟩ rfl rfl h.1 rfl (by show 2 * 0 + _ ≤ 8; omega) d ⟨hcs, hsl⟩) kk kx
  exact va_recv h10 hP hcl hq
theorem G_callSA (hv : gOk v) (cp : CtA v l y cc' nL' ret' fr' lo' mc' ms' As wc Post' XP') (d : decode k.1 pc = .ok (.invokestatic i, 3)) (hw : gCw v R k.2.2.1 i y cc' nL' ret' fr' lo' As.length) (w2 : Cond.static y ∈ v.2.2.2.2)
    (isC isR : List Nat) (hC : isC.map (fun i => ws[i]?) = wc.map some) (hR : isR.map (fun i => ws[i]?) = wr.map some) (hnC : va_nd isC = true) (hn : va_nd isR = true) (hdis : ∀ i ∈ isR, i ∉ isC)
    (hcs : cs + mc' ≤ R.cells) (hsl : sl + ms' ≤ R.slots) (hcat : (st.map fun u => u.category).sum ≤ 8)
    (kk : ∀ r w dc ds, Post' r w dc ds → G v l R Qf k (pc + 3) L (r.toList ++ st) (wr ++ w) (cs + dc) (sl + ds)) (kx : ∀ E q w dc ds, XP' E q w dc ds → GT v l R Qf k pc L st E q (wr ++ w) (cs + dc) (sl + ds)) :
    G v l R Qf k pc L (As.reverse ++ st) ws cs sl := fun p e s m args below meth c A H locs ls C hP hD hS h => by
  obtain ⟨h1, h2, h3, h4, h5, h6, h7, h8, h9, h10, h11, h12, h13⟩ := id C
  exact g_backA isC isR hC hR hn hdis C hP hD hS h (vx_runS (As := As) ⟨h1, h2, h3, h4, h8⟩ (cp H.size) ⟨g_cb hv h8 hw, h8 _ w2⟩ ⟨gPre_blind hv _ _ _, g_pre hv isC hC hnC C hP hD hS⟩ rfl rfl h.1 rfl (by show 2 * 0 + _ ≤ 8; omega) d ⟨hcs, hsl⟩) kk kx
theorem G_callIA (hv : gOk v) (cp : CtA v l y cc' nL' none fr' lo' mc' ms' (.ref b :: As) wc Post' gNA) (d : decode k.1 pc = .ok (.invokespecial i, 3)) (hw : gCw v R k.2.2.1 i y cc' nL' none fr' lo' As.length) (w2 : Cond.instanceMethod y ∈ v.2.2.2.2) (hin : y.name = "<init>")
    (isC isR : List Nat) (hC : isC.map (fun i => ws[i]?) = wc.map some) (hR : isR.map (fun i => ws[i]?) = wr.map some) (hnC : va_nd isC = true) (hn : va_nd isR = true) (hdis : ∀ i ∈ isR, i ∉ isC)
    (hcs : cs + mc' ≤ R.cells) (hsl : sl + ms' ≤ R.slots) (hcat : (st.map fun u => u.category).sum ≤ 8)
    (kk : ∀ r w dc ds, Post' r w dc ds → G v l R Qf k (pc + 3) L (r.toList ++ st) (wr ++ w) (cs + dc) (sl + ds)) : G v l R Qf k pc L (As.reverse ++ .ref b :: st) ws cs sl := fun p e s m args below meth c A H locs ls C hP hD hS h => by
  obtain ⟨h1, h2, h3, h4, h5, h6, h7, h8, h9, h10, h11, h12, h13⟩ := id C
  exact g_backAM isC isR hC hR hn hdis C hP hD hS h (va_runI (As := As) ⟨h1, h2, h3, h4, h8⟩ (CtA_met cp H.size) ⟨g_cb hv h8 hw, hin, h8 _ w2⟩ ⟨gPre_blind hv _ _ _, g_pre hv isC hC hnC C hP hD hS⟩ rfl rfl h.1 rfl (by show 2 * 0 + _ ≤ 8; omega) d ⟨hcs, hsl⟩) kk
theorem G_callINA {host : String} (hv : gOk v) (cp : CtA v l y cc' nL' none fr' lo' mc' ms' (.ref b :: As) wc Post' gNA) (d : decode k.1 pc = .ok (.invokespecial i, 3)) (hw : gCn v R k.2.2.1 i y host cc' nL' none fr' lo' As.length) (w2 : Cond.instanceMethod y ∈ v.2.2.2.2) (hin : y.name = "<init>")
    (isC isR : List Nat) (hC : isC.map (fun i => ws[i]?) = wc.map some) (hR : isR.map (fun i => ws[i]?) = wr.map some) (hnC : va_nd isC = true) (hn : va_nd isR = true) (hdis : ∀ i ∈ isR, i ∉ isC)
    (hcs : cs + mc' ≤ R.cells) (hsl : sl + ms' ≤ R.slots) (hcat : (st.map fun u => u.category).sum ≤ 8)
    (kk : ∀ r w dc ds, Post' r w dc ds → G v l R Qf k (pc + 3) L (r.toList ++ st) (wr ++ w) (cs + dc) (sl + ds)) : G v l R Qf k pc L (As.reverse ++ .ref b :: st) ws cs sl := fun p e s m args below meth c A H locs ls C hP hD hS h => by
  obtain ⟨h1, h2, h3, h4, h5, h6, h7, h8, h9, h10, h11, h12, h13⟩ := id C
  exact g_backAM isC isR hC hR hn hdis C hP hD hS h (va_runIN (As := As) ⟨h1, h2, h3, h4, h8⟩ (CtA_met cp H.size) ⟨g_cn hv h8 h12 hw, hin, h8 _ w2⟩ ⟨gPre_blind hv _ _ _, g_pre hv isC hC hnC C hP hD hS⟩ rfl rfl h.1 rfl (by show 2 * 0 + _ ≤ 8; omega) d ⟨hcs, hsl⟩) kk
theorem G_callSNA {host : String} (hv : gOk v) (cp : CtA v l y cc' nL' ret' fr' lo' mc' ms' As wc Post' gNA) (d : decode k.1 pc = .ok (.invokestatic i, 3)) (hw : gCn v R k.2.2.1 i y host cc' nL' ret' fr' lo' As.length) (w2 : Cond.static y ∈ v.2.2.2.2)
    (isC isR : List Nat) (hC : isC.map (fun i => ws[i]?) = wc.map some) (hR : isR.map (fun i => ws[i]?) = wr.map some) (hnC : va_nd isC = true) (hn : va_nd isR = true) (hdis : ∀ i ∈ isR, i ∉ isC)
    (hcs : cs + mc' ≤ R.cells) (hsl : sl + ms' ≤ R.slots) (hcat : (st.map fun u => u.category).sum ≤ 8)
    (kk : ∀ r w dc ds, Post' r w dc ds → G v l R Qf k (pc + 3) L (r.toList ++ st) (wr ++ w) (cs + dc) (sl + ds)) : G v l R Qf k pc L (As.reverse ++ st) ws cs sl := fun p e s m args below meth c A H locs ls C hP hD hS h => by
  obtain ⟨h1, h2, h3, h4, h5, h6, h7, h8, h9, h10, h11, h12, h13⟩ := id C
  exact g_backAM isC isR hC hR hn hdis C hP hD hS h (va_runSN (As := As) ⟨h1, h2, h3, h4, h8⟩ (CtA_met cp H.size) ⟨g_cn hv h8 h12 hw, h8 _ w2, trivial⟩ ⟨gPre_blind hv _ _ _, g_pre hv isC hC hnC C hP hD hS⟩ rfl rfl h.1 rfl (by show 2 * 0 + _ ≤ 8; omega) d ⟨hcs, hsl⟩) kk
end GCallA
end
section
/-! G over a pool that is the whole world: va_pl P F; cells taken out of it for a call, and put back -/
theorem rv_plf (P : List Nat) (F : Nat → va_E) : (va_pl P F).map (·.1) = P := by
  unfold va_pl
  rw [List.map_map]
  exact List.map_id' P
theorem rv_plm {P : List Nat} {F : Nat → va_E} {x : Nat × va_E} : x ∈ va_pl P F ↔ x.1 ∈ P ∧ x.2 = F x.1 := by
  unfold va_pl
  constructor
  · intro h
    obtain ⟨a, ha, e⟩ := List.mem_map.mp h
    subst e
    exact ⟨ha, rfl⟩
  · intro h
    exact List.mem_map.mpr ⟨x.1, h.1, by rw [← h.2]⟩
theorem rv_nd {A : Nat → Prop} {ws : va_W} (h : va_D A ws) : (ws.map (·.1)).Nodup := by
  unfold List.Nodup
  rw [List.pairwise_iff_getElem]
  intro i j hi hj hij he
  rw [List.length_map] at hi hj
  rw [List.getElem_map, List.getElem_map] at he
  have := h.1 i j _ _ (List.getElem?_eq_getElem hi) (List.getElem?_eq_getElem hj) he
  omega
theorem rv_D {A : Nat → Prop} {ws : va_W} (h : (ws.map (·.1)).Nodup) (h2 : ∀ x ∈ ws, A x.1) : va_D A ws := by
  refine ⟨fun i j p q hp hq he => ?_, fun k q hk => h2 q (List.mem_of_getElem? hk)⟩
  obtain ⟨hi, ei⟩ := List.getElem?_eq_some_iff.mp hp
  obtain ⟨hj, ej⟩ := List.getElem?_eq_some_iff.mp hq
  unfold List.Nodup at h
  rw [List.pairwise_iff_getElem] at h
  rcases Nat.lt_trichotomy i j with c | c | c
  · exact absurd (by rw [List.getElem_map, List.getElem_map, ei, ej]; exact he) (h i j (by rw [List.length_map]; exact hi) (by rw [List.length_map]; exact hj) c)
  · exact c
  · exact absurd (by rw [List.getElem_map, List.getElem_map, ei, ej]; exact he.symm) (h j i (by rw [List.length_map]; exact hj) (by rw [List.length_map]; exact hi) c)
theorem rv_idx {ws : va_W} : ∀ (xs : va_W), (∀ x ∈ xs, x ∈ ws) → ∃ is : List Nat, is.map (fun i => ws[i]?) = xs.map some
  | [], _ => ⟨[], rfl⟩
  | x :: xs, h => by
    obtain ⟨is, e⟩ := rv_idx xs (fun z hz => h z (List.mem_cons_of_mem _ hz))
    obtain ⟨i, hi⟩ := List.getElem?_of_mem (h x List.mem_cons_self)
    exact ⟨i :: is, by rw [List.map_cons, List.map_cons, e, hi]⟩
theorem rv_ndi {ws : va_W} : ∀ (is : List Nat) (xs : va_W), is.map (fun i => ws[i]?) = xs.map some → xs.Nodup → is.Nodup
  | [], _, _, _ => List.nodup_nil
  | i :: is, [], h, _ => by cases h
  | i :: is, x :: xs, h, hx => by
    have h1 : ws[i]? = some x := (List.cons.inj h).1
    have h2 := (List.cons.inj h).2
    rw [List.nodup_cons] at hx ⊢
    refine ⟨fun hm => hx.1 ?_, rv_ndi is xs h2 hx.2⟩
    have h3 : some x ∈ xs.map some := by
      rw [← h2, ← h1]
      exact List.mem_map.mpr ⟨i, hm, rfl⟩
    obtain ⟨y, hy, e⟩ := List.mem_map.mp h3
    cases e
    exact hy
theorem rv_pln {F : Nat → va_E} : ∀ (P : List Nat), P.Nodup → (va_pl P F).Nodup
  | [], _ => List.nodup_nil
  | a :: P, h => by
    rw [List.nodup_cons] at h
    show ((a, F a) :: va_pl P F).Nodup
    rw [List.nodup_cons]
    exact ⟨fun hm => h.1 (rv_plm.mp hm).1, rv_pln P h.2⟩
def r_up (F : Nat → va_E) (w : va_W) : Nat → va_E := fun b => match w.find? (fun x => x.1 == b) with
  | some x => x.2
  | none => F b
theorem r_up_not {F : Nat → va_E} {w : va_W} {b : Nat} (h : b ∉ w.map (·.1)) : r_up F w b = F b := by
  unfold r_up
  have : w.find? (fun x => x.1 == b) = none := by
    rw [List.find?_eq_none]
    intro x hx e
    exact h (List.mem_map.mpr ⟨x, hx, eq_of_beq e⟩)
  rw [this]
theorem r_up_mem {F : Nat → va_E} : ∀ {w : va_W}, (w.map (·.1)).Nodup → ∀ x ∈ w, r_up F w x.1 = x.2
  | [], _, _, hx => by cases hx
  | y :: w, h, x, hx => by
    rw [List.map_cons, List.nodup_cons] at h
    unfold r_up
    rcases List.mem_cons.mp hx with rfl | hx
    · rw [List.find?_cons_of_pos (by exact beq_self_eq_true _)]
    · have hne : ¬ (y.1 == x.1) = true := fun e => h.1 (by rw [eq_of_beq e]; exact List.mem_map.mpr ⟨x, hx, rfl⟩)
      rw [List.find?_cons_of_neg (p := fun z : Nat × va_E => z.1 == x.1) (a := y) hne]
      exact r_up_mem h.2 x hx
/-- the pool P, F becomes P1, F1: the cells at 'as' and new ones are now as w has them -/
def rN (P P1 : List Nat) (F F1 : Nat → va_E) (as : List Nat) (w : va_W) : Prop :=
  (∀ b, b ∈ P1 ↔ (b ∈ P ∧ b ∉ as) ∨ b ∈ w.map (·.1)) ∧ (∀ b ∈ w.map (·.1), b ∉ as → b ∉ P) ∧ (∀ x ∈ w, F1 x.1 = x.2) ∧ ∀ b, b ∉ w.map (·.1) → F1 b = F b
theorem rp_idx {A : Nat → Prop} {P as : List Nat} {F : Nat → va_E} (hD : va_D A (va_pl P F)) (has : as.Nodup) (hsub : ∀ a ∈ as, a ∈ P) : ∃ isC isR : List Nat, isC.map (fun i => (va_pl P F)[i]?) = (va_pl as F).map some ∧ isR.map (fun i => (va_pl P F)[i]?) = (va_pl (P.filter (fun b => decide (b ∉ as))) F).map some ∧ va_nd isC = true ∧ va_nd isR = true ∧ ∀ i ∈ isR, i ∉ isC := by
  have hP : P.Nodup := by
    have h := rv_nd hD
    rwa [rv_plf] at h
  obtain ⟨isC, hC⟩ := rv_idx (ws := va_pl P F) (va_pl as F) (fun x hx => rv_plm.mpr ⟨hsub _ (rv_plm.mp hx).1, (rv_plm.mp hx).2⟩)
  obtain ⟨isR, hR⟩ := rv_idx (ws := va_pl P F) (va_pl (P.filter (fun b => decide (b ∉ as))) F) (fun x hx => rv_plm.mpr ⟨(List.mem_filter.mp (rv_plm.mp hx).1).1, (rv_plm.mp hx).2⟩)
  refine ⟨isC, isR, hC, hR, r_nd _ (rv_ndi _ _ hC (rv_pln _ has)), r_nd _ (rv_ndi _ _ hR (rv_pln _ (hP.filter _))), ?_⟩
  intro i hi hj
  have h1 : (va_pl P F)[i]? ∈ (va_pl (P.filter (fun b => decide (b ∉ as))) F).map some := hR ▸ List.mem_map.mpr ⟨i, hi, rfl⟩
  have h2 : (va_pl P F)[i]? ∈ (va_pl as F).map some := hC ▸ List.mem_map.mpr ⟨i, hj, rfl⟩
  obtain ⟨x, hx, ex⟩ := List.mem_map.mp h1
  obtain ⟨y, hy, ey⟩ := List.mem_map.mp h2
  have e : x = y := Option.some.inj (ex.trans ey.symm)
  subst e
  exact of_decide_eq_true (List.mem_filter.mp (rv_plm.mp hx).1).2 (rv_plm.mp hy).1
section GP2
variable {v : gEnv} {l : Launch} {R : Room} {Qf : gFin} {k : gKey} {pc : Nat} {L : List (Nat × Value)} {st : List Value} {P : List Nat} {F : Nat → va_E} {cs sl : Nat}
variable {a ci N i : Nat} {fs : List Value} {x : Value} {C : String} {T : u_T} {ty : Nat → FieldType}
theorem Gp_re {as : List Nat} {w : va_W} (n : ∀ (P1 : List Nat) (F1 : Nat → va_E), rN P P1 F F1 as w → G v l R Qf k pc L st (va_pl P1 F1) cs sl) : G v l R Qf k pc L st (va_pl (P.filter (fun b => decide (b ∉ as))) F ++ w) cs sl := fun p e s m args below meth c A H locs ls C hP hD hS h => by
  have hnd := rv_nd hD
  rw [List.map_append, rv_plf, List.nodup_append] at hnd
  obtain ⟨n1, n2, n3⟩ := hnd
  have hdj : ∀ b, b ∈ P.filter (fun b => decide (b ∉ as)) → b ∉ w.map (·.1) := fun b hb hw => n3 b hb b hw rfl
  have hfr : ∀ b ∈ w.map (·.1), b ∉ as → b ∉ P := fun b hb ha hp => hdj b (List.mem_filter.mpr ⟨hp, decide_eq_true ha⟩) hb
  have ew : va_pl (P.filter (fun b => decide (b ∉ as)) ++ w.map (·.1)) (r_up F w) = va_pl (P.filter (fun b => decide (b ∉ as))) F ++ w := by
    unfold va_pl
    rw [List.map_append]
    congr 1
    · apply List.map_congr_left
      intro b hb
      rw [r_up_not (hdj b hb)]
    · rw [List.map_map]
      have : w.map ((fun a => (a, r_up F w a)) ∘ fun x => x.1) = w.map id := by
        apply List.map_congr_left
        intro x hx
        show (x.1, r_up F w x.1) = x
        rw [r_up_mem n2 x hx]
      rw [this, List.map_id]
  refine n (P.filter (fun b => decide (b ∉ as)) ++ w.map (·.1)) (r_up F w) ⟨fun b => ?_, hfr, r_up_mem n2, fun b hb => r_up_not hb⟩ p e s m args below meth c A H locs ls C (by rw [ew]; exact hP) (by rw [ew]; exact hD) hS h
  rw [List.mem_append, List.mem_filter]
  constructor
  · rintro (⟨h1, h2⟩ | h1)
    · exact Or.inl ⟨h1, of_decide_eq_true h2⟩
    · exact Or.inr h1
  · rintro (⟨h1, h2⟩ | h1)
    · exact Or.inl ⟨h1, decide_eq_true h2⟩
    · exact Or.inr h1
theorem Gp_get (f : Nat) (ha : a ∈ P) (he : F a = .inr (ci, fs)) (d : decode k.1 pc = .ok (.getfield i, 3)) (hc : gK v ci C T N ty) (hf : f < N) (hl : Cond.fieldLink k.2.2.1 i (T f).1 (T f).2.1 (T f).2.2.1 ∈ v.2.2.2.2) (hx : fs[f]? = some x)
    (n : G v l R Qf k (pc + 3) L (x :: st) (va_pl P F) cs sl) : G v l R Qf k pc L (.ref a :: st) (va_pl P F) cs sl := G_pget (X := []) f ha he d hc hf hl hx n
theorem Gp_getN {host : String} (f : Nat) (ha : a ∈ P) (he : F a = .inr (ci, fs)) (d : decode k.1 pc = .ok (.getfield i, 3)) (hc : gK v ci C T N ty) (hf : f < N) (hl : ∀ A s H, v.2.2.2.1 A s H → va_Nw (.fieldLinkNest k.2.2.1 i (T f).1 (T f).2.1 (T f).2.2.1 host) s) (hx : fs[f]? = some x)
    (n : G v l R Qf k (pc + 3) L (x :: st) (va_pl P F) cs sl) : G v l R Qf k pc L (.ref a :: st) (va_pl P F) cs sl := G_pgetN (X := []) f ha he d hc hf hl hx n
theorem Gp_put (f : Nat) (ha : a ∈ P) (he : F a = .inr (ci, fs)) (d : decode k.1 pc = .ok (.putfield i, 3)) (hc : gK v ci C T N ty) (hf : f < N) (hl : Cond.fieldLink k.2.2.1 i (T f).1 (T f).2.1 (T f).2.2.1 ∈ v.2.2.2.2) (hfin : (T f).2.2.2 = false) (hn : narrow (ty f) x = x) (hfit : fits (ty f) x = true) (hlen : f < fs.length)
    (n : ∀ F1 : Nat → va_E, F1 a = .inr (ci, fs.set f x) → (∀ b, b ≠ a → F1 b = F b) → G v l R Qf k (pc + 3) L st (va_pl P F1) cs sl) : G v l R Qf k pc L (x :: .ref a :: st) (va_pl P F) cs sl :=
  G_pput (X := []) f ha he d hc hf hl hfin hn hfit hlen (n _ (va_up_self _ _ _) (fun b hb => va_up_ne _ _ hb))
theorem Gp_putN {host : String} (f : Nat) (ha : a ∈ P) (he : F a = .inr (ci, fs)) (d : decode k.1 pc = .ok (.putfield i, 3)) (hc : gK v ci C T N ty) (hf : f < N) (hl : ∀ A s H, v.2.2.2.1 A s H → va_Nw (.fieldLinkNest k.2.2.1 i (T f).1 (T f).2.1 (T f).2.2.1 host) s) (hfin : (T f).2.2.2 = false) (hn : narrow (ty f) x = x) (hfit : fits (ty f) x = true) (hlen : f < fs.length)
    (n : ∀ F1 : Nat → va_E, F1 a = .inr (ci, fs.set f x) → (∀ b, b ≠ a → F1 b = F b) → G v l R Qf k (pc + 3) L st (va_pl P F1) cs sl) : G v l R Qf k pc L (x :: .ref a :: st) (va_pl P F) cs sl :=
  G_pputN (X := []) f ha he d hc hf hl hfin hn hfit hlen (n _ (va_up_self _ _ _) (fun b hb => va_up_ne _ _ hb))
/-- a cell made behind the pool goes into it -/
theorem Gp_in {q : Nat} {e : va_E} (n : ∀ (P1 : List Nat) (F1 : Nat → va_E), q ∉ P → (∀ b, b ∈ P1 ↔ b ∈ P ∨ b = q) → F1 q = e → (∀ b, b ≠ q → F1 b = F b) → G v l R Qf k pc L st (va_pl P1 F1) cs sl) : G v l R Qf k pc L st (va_pl P F ++ [(q, e)]) cs sl := by
  have h0 : P.filter (fun b => decide (b ∉ ([] : List Nat))) = P := by
    rw [List.filter_eq_self]
    intro b _
    exact decide_eq_true (List.not_mem_nil)
  have h1 : G v l R Qf k pc L st (va_pl (P.filter (fun b => decide (b ∉ ([] : List Nat)))) F ++ [(q, e)]) cs sl := by
    refine Gp_re (fun P1 F1 h => n P1 F1 ?_ (fun b => ?_) ?_ (fun b hb => ?_))
    · exact h.2.1 q (List.mem_singleton.mpr rfl) (List.not_mem_nil)
    · rw [h.1 b]
      constructor
      · rintro (⟨g, -⟩ | g)
        · exact Or.inl g
        · exact Or.inr (List.mem_singleton.mp g)
      · rintro (g | g)
        · exact Or.inl ⟨g, List.not_mem_nil⟩
        · exact Or.inr (List.mem_singleton.mpr g)
    · exact h.2.2.1 (q, e) (List.mem_singleton.mpr rfl)
    · exact h.2.2.2 b (fun hm => hb (List.mem_singleton.mp hm))
  rw [h0] at h1
  exact h1
section ARRP
variable {cA : ClassId} {M : Nat} {y z : Int32} {f : Nat → Int32}
theorem Gp_alen {b : vp_A} {fty : FieldType} (w : Int32) (t : Nat) (ha : a ∈ P) (he : F a = .inl (cA, b)) (d : decode k.1 pc = .ok (.arraylength, 1)) (ht : v.2.2.1[t]? = some (cA, fty)) (hy : Int32.ofNat b.1 = w)
    (n : G v l R Qf k (pc + 1) L (.int w :: st) (va_pl P F) cs sl) : G v l R Qf k pc L (.ref a :: st) (va_pl P F) cs sl := by
  obtain ⟨q, hq⟩ := va_pl_get (X := []) (f := F) ha
  exact G_alen w q t d (by rw [← he]; exact hq) ht hy n
theorem Gp_iald (t : Nat) (ha : a ∈ P) (he : F a = .inl (cA, M, .inl f)) (d : decode k.1 pc = .ok (.iaload, 1)) (ht : v.2.2.1[t]? = some (cA, .int)) (hin : vp_in y M) (n : G v l R Qf k (pc + 1) L (.int (f y.toNatClampNeg) :: st) (va_pl P F) cs sl) : G v l R Qf k pc L (.int y :: .ref a :: st) (va_pl P F) cs sl := by
  obtain ⟨q, hq⟩ := va_pl_get (X := []) (f := F) ha
  exact G_iald q t d (by rw [← he]; exact hq) ht hin n
theorem Gp_bald (t : Nat) (ha : a ∈ P) (he : F a = .inl (cA, M, .inl f)) (d : decode k.1 pc = .ok (.baload, 1)) (ht : v.2.2.1[t]? = some (cA, .byte)) (hin : vp_in y M) (n : G v l R Qf k (pc + 1) L (.int (f y.toNatClampNeg) :: st) (va_pl P F) cs sl) : G v l R Qf k pc L (.int y :: .ref a :: st) (va_pl P F) cs sl := by
  obtain ⟨q, hq⟩ := va_pl_get (X := []) (f := F) ha
  exact G_bald q t d (by rw [← he]; exact hq) ht hin n
theorem Gp_zald (t : Nat) (ha : a ∈ P) (he : F a = .inl (cA, M, .inl f)) (d : decode k.1 pc = .ok (.baload, 1)) (ht : v.2.2.1[t]? = some (cA, .boolean)) (hin : vp_in y M) (n : G v l R Qf k (pc + 1) L (.int (f y.toNatClampNeg) :: st) (va_pl P F) cs sl) : G v l R Qf k pc L (.int y :: .ref a :: st) (va_pl P F) cs sl := by
  obtain ⟨q, hq⟩ := va_pl_get (X := []) (f := F) ha
  exact G_zald q t d (by rw [← he]; exact hq) ht hin n
theorem Gp_lald {g : Nat → Int64} (t : Nat) (ha : a ∈ P) (he : F a = .inl (cA, M, .inr (.inl g))) (d : decode k.1 pc = .ok (.laload, 1)) (ht : v.2.2.1[t]? = some (cA, .long)) (hin : vp_in y M) (n : G v l R Qf k (pc + 1) L (.long (g y.toNatClampNeg) :: st) (va_pl P F) cs sl) : G v l R Qf k pc L (.int y :: .ref a :: st) (va_pl P F) cs sl := by
  obtain ⟨q, hq⟩ := va_pl_get (X := []) (f := F) ha
  exact G_lald q t d (by rw [← he]; exact hq) ht hin n
theorem Gp_iast (t : Nat) (ha : a ∈ P) (he : F a = .inl (cA, M, .inl f)) (d : decode k.1 pc = .ok (.iastore, 1)) (ht : v.2.2.1[t]? = some (cA, .int)) (hin : vp_in y M)
    (n : ∀ F1 : Nat → va_E, F1 a = .inl (cA, M, .inl (upd f y.toNatClampNeg z)) → (∀ b, b ≠ a → F1 b = F b) → G v l R Qf k (pc + 1) L st (va_pl P F1) cs sl) : G v l R Qf k pc L (.int z :: .int y :: .ref a :: st) (va_pl P F) cs sl := fun p e s m args below meth c A H locs ls C hP hD hS h => by
  obtain ⟨q, hq⟩ := va_pl_get (X := []) (f := F) ha
  exact G_iast q t d (by rw [← he]; exact hq) ht hin (va_pl_set (X := []) hD ha hq) (n _ (va_up_self _ _ _) (fun b hb => va_up_ne _ _ hb)) p e s m args below meth c A H locs ls C hP hD hS h
theorem Gp_bast (t : Nat) (ha : a ∈ P) (he : F a = .inl (cA, M, .inl f)) (d : decode k.1 pc = .ok (.bastore, 1)) (ht : v.2.2.1[t]? = some (cA, .byte)) (hin : vp_in y M)
    (n : ∀ F1 : Nat → va_E, F1 a = .inl (cA, M, .inl (upd f y.toNatClampNeg (vp_nar .byte z))) → (∀ b, b ≠ a → F1 b = F b) → G v l R Qf k (pc + 1) L st (va_pl P F1) cs sl) : G v l R Qf k pc L (.int z :: .int y :: .ref a :: st) (va_pl P F) cs sl := fun p e s m args below meth c A H locs ls C hP hD hS h => by
  obtain ⟨q, hq⟩ := va_pl_get (X := []) (f := F) ha
  exact G_bast q t d (by rw [← he]; exact hq) ht hin (va_pl_set (X := []) hD ha hq) (n _ (va_up_self _ _ _) (fun b hb => va_up_ne _ _ hb)) p e s m args below meth c A H locs ls C hP hD hS h
theorem Gp_zast (t : Nat) (ha : a ∈ P) (he : F a = .inl (cA, M, .inl f)) (d : decode k.1 pc = .ok (.bastore, 1)) (ht : v.2.2.1[t]? = some (cA, .boolean)) (hin : vp_in y M)
    (n : ∀ F1 : Nat → va_E, F1 a = .inl (cA, M, .inl (upd f y.toNatClampNeg (vp_nar .boolean z))) → (∀ b, b ≠ a → F1 b = F b) → G v l R Qf k (pc + 1) L st (va_pl P F1) cs sl) : G v l R Qf k pc L (.int z :: .int y :: .ref a :: st) (va_pl P F) cs sl := fun p e s m args below meth c A H locs ls C hP hD hS h => by
  obtain ⟨q, hq⟩ := va_pl_get (X := []) (f := F) ha
  exact G_zast q t d (by rw [← he]; exact hq) ht hin (va_pl_set (X := []) hD ha hq) (n _ (va_up_self _ _ _) (fun b hb => va_up_ne _ _ hb)) p e s m args below meth c A H locs ls C hP hD hS h
theorem Gp_last {g : Nat → Int64} {u : Int64} (t : Nat) (ha : a ∈ P) (he : F a = .inl (cA, M, .inr (.inl g))) (d : decode k.1 pc = .ok (.lastore, 1)) (ht : v.2.2.1[t]? = some (cA, .long)) (hin : vp_in y M)
    (n : ∀ F1 : Nat → va_E, F1 a = .inl (cA, M, .inr (.inl (vp_updL g y.toNatClampNeg u))) → (∀ b, b ≠ a → F1 b = F b) → G v l R Qf k (pc + 1) L st (va_pl P F1) cs sl) : G v l R Qf k pc L (.long u :: .int y :: .ref a :: st) (va_pl P F) cs sl := fun p e s m args below meth c A H locs ls C hP hD hS h => by
  obtain ⟨q, hq⟩ := va_pl_get (X := []) (f := F) ha
  exact G_last q t d (by rw [← he]; exact hq) ht hin (va_pl_set (X := []) hD ha hq) (n _ (va_up_self _ _ _) (fun b hb => va_up_ne _ _ hb)) p e s m args below meth c A H locs ls C hP hD hS h
end ARRP
end GP2
theorem gw_all (ws : va_W) : (List.range ws.length).map (fun i => ws[i]?) = ws.map some := by
  have h := r_places (X := []) (cx := []) (W := ws) [] rfl
  rw [List.nil_append, List.nil_append] at h
  simpa using h
section GPC
variable {v : gEnv} {l : Launch} {R : Room} {Qf : gFin} {k : gKey} {pc cs sl : Nat} {L : List (Nat × Value)} {st : List Value} {ws wc : va_W} {P : List Nat} {F : Nat → va_E}
variable {y : MethodName} {cc' : ByteArray} {nL' fr' lo' mc' ms' i b : Nat} {ret' : Option FieldType} {As : List Value} {Post' : Option Value → va_W → Nat → Nat → Prop} {XP' : String → Nat → va_W → Nat → Nat → Prop}
/-- calls with the whole world -/
theorem Gw_callV {ci N : Nat} {fs : List Value} {T : u_T} (hv : gOk v) (cp : CtA v l y cc' nL' ret' fr' lo' mc' ms' (.ref b :: As) (va_pl P F) Post' XP') (d : decode k.1 pc = .ok (.invokevirtual i, 3)) (hw : gCw v R k.2.2.1 i y cc' nL' ret' fr' lo' As.length) (w2 : Cond.instanceMethod y ∈ v.2.2.2.2) (w3 : Cond.selects y.cls y y ∈ v.2.2.2.2)
    (hb : b ∈ P) (he : F b = .inr (ci, fs)) (hcl : v.2.1[ci]? = some (y.cls, T, N)) (hcs : cs + mc' ≤ R.cells) (hsl : sl + ms' ≤ R.slots) (hcat : (st.map fun u => u.category).sum ≤ 8)
    (kk : ∀ r w dc ds, Post' r w dc ds → G v l R Qf k (pc + 3) L (r.toList ++ st) w (cs + dc) (sl + ds)) (kx : ∀ E q w dc ds, XP' E q w dc ds → GT v l R Qf k pc L st E q w (cs + dc) (sl + ds)) :
    G v l R Qf k pc L (As.reverse ++ .ref b :: st) (va_pl P F) cs sl := by
  obtain ⟨q, hq⟩ := va_pl_get (X := []) (f := F) hb
  exact G_callVA (wr := []) hv cp d hw w2 w3 q (by rw [← he]; exact hq) hcl (List.range (va_pl P F).length) [] (gw_all _) rfl (r_nd _ List.nodup_range) rfl (fun i hi => nomatch hi) hcs hsl hcat kk kx
theorem Gw_callS (hv : gOk v) (cp : CtA v l y cc' nL' ret' fr' lo' mc' ms' As (va_pl P F) Post' XP') (d : decode k.1 pc = .ok (.invokestatic i, 3)) (hw : gCw v R k.2.2.1 i y cc' nL' ret' fr' lo' As.length) (w2 : Cond.static y ∈ v.2.2.2.2)
    (hcs : cs + mc' ≤ R.cells) (hsl : sl + ms' ≤ R.slots) (hcat : (st.map fun u => u.category).sum ≤ 8)
    (kk : ∀ r w dc ds, Post' r w dc ds → G v l R Qf k (pc + 3) L (r.toList ++ st) w (cs + dc) (sl + ds)) (kx : ∀ E q w dc ds, XP' E q w dc ds → GT v l R Qf k pc L st E q w (cs + dc) (sl + ds)) :
    G v l R Qf k pc L (As.reverse ++ st) (va_pl P F) cs sl :=
  G_callSA (wr := []) hv cp d hw w2 (List.range (va_pl P F).length) [] (gw_all _) rfl (r_nd _ List.nodup_range) rfl (fun i hi => nomatch hi) hcs hsl hcat kk kx
theorem Gw_callSN {host : String} (hv : gOk v) (cp : CtA v l y cc' nL' ret' fr' lo' mc' ms' As (va_pl P F) Post' gNA) (d : decode k.1 pc = .ok (.invokestatic i, 3)) (hw : gCn v R k.2.2.1 i y host cc' nL' ret' fr' lo' As.length) (w2 : Cond.static y ∈ v.2.2.2.2)
    (hcs : cs + mc' ≤ R.cells) (hsl : sl + ms' ≤ R.slots) (hcat : (st.map fun u => u.category).sum ≤ 8)
    (kk : ∀ r w dc ds, Post' r w dc ds → G v l R Qf k (pc + 3) L (r.toList ++ st) w (cs + dc) (sl + ds)) :
    G v l R Qf k pc L (As.reverse ++ st) (va_pl P F) cs sl :=
  G_callSNA (wr := []) hv cp d hw w2 (List.range (va_pl P F).length) [] (gw_all _) rfl (r_nd _ List.nodup_range) rfl (fun i hi => nomatch hi) hcs hsl hcat kk
/-- calls of methods that see some cells alone -/
theorem Gp_callV {as : List Nat} {ci N : Nat} {fs : List Value} {T : u_T} (hv : gOk v) (cp : CtA v l y cc' nL' ret' fr' lo' mc' ms' (.ref b :: As) wc Post' gNA) (hwc : va_pl as F = wc) (has : as.Nodup) (hsub : ∀ a ∈ as, a ∈ P) (d : decode k.1 pc = .ok (.invokevirtual i, 3)) (hw : gCw v R k.2.2.1 i y cc' nL' ret' fr' lo' As.length) (w2 : Cond.instanceMethod y ∈ v.2.2.2.2) (w3 : Cond.selects y.cls y y ∈ v.2.2.2.2)
    (hb : b ∈ P) (he : F b = .inr (ci, fs)) (hcl : v.2.1[ci]? = some (y.cls, T, N)) (hcs : cs + mc' ≤ R.cells) (hsl : sl + ms' ≤ R.slots) (hcat : (st.map fun u => u.category).sum ≤ 8)
    (kk : ∀ r w dc ds, Post' r w dc ds → ∀ P1 F1, rN P P1 F F1 as w → G v l R Qf k (pc + 3) L (r.toList ++ st) (va_pl P1 F1) (cs + dc) (sl + ds)) :
    G v l R Qf k pc L (As.reverse ++ .ref b :: st) (va_pl P F) cs sl := fun p e s m args below meth c A H locs ls C hP hD hS h => by
  obtain ⟨q, hq⟩ := va_pl_get (X := []) (f := F) hb
  obtain ⟨isC, isR, h1, h2, h3, h4, h5⟩ := rp_idx hD has hsub
  subst hwc
  exact G_callVA hv cp d hw w2 w3 q (by rw [← he]; exact hq) hcl isC isR h1 h2 h3 h4 h5 hcs hsl hcat (fun r w dc ds hp => Gp_re (kk r w dc ds hp)) (fun _ _ _ _ _ z => z.elim) p e s m args below meth c A H locs ls C hP hD hS h
theorem Gp_callS {as : List Nat} (hv : gOk v) (cp : CtA v l y cc' nL' ret' fr' lo' mc' ms' As wc Post' gNA) (hwc : va_pl as F = wc) (has : as.Nodup) (hsub : ∀ a ∈ as, a ∈ P) (d : decode k.1 pc = .ok (.invokestatic i, 3)) (hw : gCw v R k.2.2.1 i y cc' nL' ret' fr' lo' As.length) (w2 : Cond.static y ∈ v.2.2.2.2)
    (hcs : cs + mc' ≤ R.cells) (hsl : sl + ms' ≤ R.slots) (hcat : (st.map fun u => u.category).sum ≤ 8)
    (kk : ∀ r w dc ds, Post' r w dc ds → ∀ P1 F1, rN P P1 F F1 as w → G v l R Qf k (pc + 3) L (r.toList ++ st) (va_pl P1 F1) (cs + dc) (sl + ds)) :
    G v l R Qf k pc L (As.reverse ++ st) (va_pl P F) cs sl := fun p e s m args below meth c A H locs ls C hP hD hS h => by
  obtain ⟨isC, isR, h1, h2, h3, h4, h5⟩ := rp_idx hD has hsub
  subst hwc
  exact G_callSA hv cp d hw w2 isC isR h1 h2 h3 h4 h5 hcs hsl hcat (fun r w dc ds hp => Gp_re (kk r w dc ds hp)) (fun _ _ _ _ _ z => z.elim) p e s m args below meth c A H locs ls C hP hD hS h
theorem Gp_callI {as : List Nat} (hv : gOk v) (cp : CtA v l y cc' nL' none fr' lo' mc' ms' (.ref b :: As) wc Post' gNA) (hwc : va_pl as F = wc) (has : as.Nodup) (hsub : ∀ a ∈ as, a ∈ P) (d : decode k.1 pc = .ok (.invokespecial i, 3)) (hw : gCw v R k.2.2.1 i y cc' nL' none fr' lo' As.length) (w2 : Cond.instanceMethod y ∈ v.2.2.2.2) (hin : y.name = "<init>")
    (hcs : cs + mc' ≤ R.cells) (hsl : sl + ms' ≤ R.slots) (hcat : (st.map fun u => u.category).sum ≤ 8)
    (kk : ∀ r w dc ds, Post' r w dc ds → ∀ P1 F1, rN P P1 F F1 as w → G v l R Qf k (pc + 3) L (r.toList ++ st) (va_pl P1 F1) (cs + dc) (sl + ds)) :
    G v l R Qf k pc L (As.reverse ++ .ref b :: st) (va_pl P F) cs sl := fun p e s m args below meth c A H locs ls C hP hD hS h => by
  obtain ⟨isC, isR, h1, h2, h3, h4, h5⟩ := rp_idx hD has hsub
  subst hwc
  exact G_callIA hv cp d hw w2 hin isC isR h1 h2 h3 h4 h5 hcs hsl hcat (fun r w dc ds hp => Gp_re (kk r w dc ds hp)) p e s m args below meth c A H locs ls C hP hD hS h
theorem Gp_callIN {as : List Nat} {host : String} (hv : gOk v) (cp : CtA v l y cc' nL' none fr' lo' mc' ms' (.ref b :: As) wc Post' gNA) (hwc : va_pl as F = wc) (has : as.Nodup) (hsub : ∀ a ∈ as, a ∈ P) (d : decode k.1 pc = .ok (.invokespecial i, 3)) (hw : gCn v R k.2.2.1 i y host cc' nL' none fr' lo' As.length) (w2 : Cond.instanceMethod y ∈ v.2.2.2.2) (hin : y.name = "<init>")
    (hcs : cs + mc' ≤ R.cells) (hsl : sl + ms' ≤ R.slots) (hcat : (st.map fun u => u.category).sum ≤ 8)
    (kk : ∀ r w dc ds, Post' r w dc ds → ∀ P1 F1, rN P P1 F F1 as w → G v l R Qf k (pc + 3) L (r.toList ++ st) (va_pl P1 F1) (cs + dc) (sl + ds)) :
    G v l R Qf k pc L (As.reverse ++ .ref b :: st) (va_pl P F) cs sl := fun p e s m args below meth c A H locs ls C hP hD hS h => by
  obtain ⟨isC, isR, h1, h2, h3, h4, h5⟩ := rp_idx hD has hsub
  subst hwc
  exact G_callINA hv cp d hw w2 hin isC isR h1 h2 h3 h4 h5 hcs hsl hcat (fun r w dc ds hp => Gp_re (kk r w dc ds hp)) p e s m args below meth c A H locs ls C hP hD hS h
end GPC
end
section
theorem gs_sel {C : String} {x y : MethodName} {s : State} {args : Array Value} {n : Nat} (hy : y.cls ≠ "java/lang/invoke/MethodHandle" ∧ y.cls ≠ "java/lang/invoke/VarHandle") (hins : (Cond.instantiable C n).before args s = true) (hpriv : (Cond.privateMethod y).before args s = true) (hinst : (Cond.instanceMethod y).before args s = true) (hx : (Cond.selects C x x).before args s = true) (hxy : x.cls = y.cls) : (Cond.selects C y y).before args s = true := by
  obtain ⟨c, k, hc, hk, -⟩ := Cond.instantiable_spec hins
  obtain ⟨mk, methM, hnamed, hmethM, -, -⟩ := Cond.instanceMethod_spec hinst
  have hfound : s.methodFound? y.cls y.name y.desc = some mk := State.methodFound?_of_named hnamed hy
  have hsel : selectMethod {} s.vm c mk = .method mk := selectMethod_private hmethM (Cond.privateMethod_at hpriv mk methM hnamed hmethM)
  obtain ⟨c2, r, m, e1, e2, e3, e4, kk, e5, e6⟩ := Cond.selects_spec hx
  have hm : m.cls = mk.cls := by
    have h1 := findClass_of_methodNamed e3
    have h2 := findClass_of_methodNamed hnamed
    rw [hxy] at h1
    exact Option.some.inj (h1.symm.trans h2)
  rw [hm] at e5
  simp only [Cond.before, Cond.holds, Cond.value, hc, hfound, hnamed, hsel, e5]
  simp
  exact e6
theorem G_callVB {l : Launch} {R : Room} {Qf : gFin} {k : gKey} {pc i cs sl b : Nat} {L : List (Nat × Value)} {st As : List Value} {v : gEnv} {y : MethodName} {cc' : ByteArray} {nL' fr' lo' mc' ms' : Nat} {ret' : Option FieldType} {ws wc wr : va_W} {Post' : Option Value → va_W → Nat → Nat → Prop} {XP' : String → Nat → va_W → Nat → Nat → Prop} {C : String} {ci N : Nat} {fs : List Value} {T : u_T} (hv : gOk v) (cp : CtA v l y cc' nL' ret' fr' lo' mc' ms' (.ref b :: As) wc Post' XP') (d : decode k.1 pc = .ok (.invokevirtual i, 3)) (hw : gCw v R k.2.2.1 i y cc' nL' ret' fr' lo' As.length) (w2 : Cond.instanceMethod y ∈ v.2.2.2.2) (w3 : Cond.selects C y y ∈ v.2.2.2.2)
    (q : Nat) (hq : ws[q]? = some (b, .inr (ci, fs))) (hcl : v.2.1[ci]? = some (C, T, N)) (isC isR : List Nat) (hC : isC.map (fun i => ws[i]?) = wc.map some) (hR : isR.map (fun i => ws[i]?) = wr.map some) (hnC : va_nd isC = true) (hn : va_nd isR = true) (hdis : ∀ i ∈ isR, i ∉ isC)
    (hcs : cs + mc' ≤ R.cells) (hsl : sl + ms' ≤ R.slots) (hcat : (st.map fun u => u.category).sum ≤ 8)
    (kk : ∀ r w dc ds, Post' r w dc ds → G v l R Qf k (pc + 3) L (r.toList ++ st) (wr ++ w) (cs + dc) (sl + ds)) (kx : ∀ E q w dc ds, XP' E q w dc ds → GT v l R Qf k pc L st E q (wr ++ w) (cs + dc) (sl + ds)) :
    G v l R Qf k pc L (As.reverse ++ .ref b :: st) ws cs sl := fun p e s m args below meth c A H locs ls C' hP hD hS h => by
  obtain ⟨h1, h2, h3, h4, h5, h6, h7, h8, h9, h10, h11, h12, h13⟩ := id C'
  refine g_backA isC isR hC hR hn hdis C' hP hD hS h (vx_runV (As := As) ⟨h1, h2, h3, h4, h8⟩ (cp H.size) ⟨g_cb hv h8 hw, h8 _ w2, h8 _ w3⟩ ⟨gPre_blind hv _ _ _, ?_, g_pre hv isC hC hnC C' hP hD hS⟩ rfl rfl h.1 rfl (by show 2 * 0 + _ ≤ 8; omega) d ⟨hcs, hsl⟩) kk kx
  exact va_recv h10 hP hcl hq
theorem Gw_callVB {l : Launch} {R : Room} {Qf : gFin} {k : gKey} {pc i cs sl b : Nat} {L : List (Nat × Value)} {st As : List Value} {v : gEnv} {y : MethodName} {cc' : ByteArray} {nL' fr' lo' mc' ms' : Nat} {ret' : Option FieldType} {P : List Nat} {F : Nat → va_E} {Post' : Option Value → va_W → Nat → Nat → Prop} {XP' : String → Nat → va_W → Nat → Nat → Prop} {C : String} {ci N : Nat} {fs : List Value} {T : u_T} (hv : gOk v) (cp : CtA v l y cc' nL' ret' fr' lo' mc' ms' (.ref b :: As) (va_pl P F) Post' XP') (d : decode k.1 pc = .ok (.invokevirtual i, 3)) (hw : gCw v R k.2.2.1 i y cc' nL' ret' fr' lo' As.length) (w2 : Cond.instanceMethod y ∈ v.2.2.2.2) (w3 : Cond.selects C y y ∈ v.2.2.2.2)
    (hb : b ∈ P) (he : F b = .inr (ci, fs)) (hcl : v.2.1[ci]? = some (C, T, N)) (hcs : cs + mc' ≤ R.cells) (hsl : sl + ms' ≤ R.slots) (hcat : (st.map fun u => u.category).sum ≤ 8)
    (kk : ∀ r w dc ds, Post' r w dc ds → G v l R Qf k (pc + 3) L (r.toList ++ st) w (cs + dc) (sl + ds)) (kx : ∀ E q w dc ds, XP' E q w dc ds → GT v l R Qf k pc L st E q w (cs + dc) (sl + ds)) :
    G v l R Qf k pc L (As.reverse ++ .ref b :: st) (va_pl P F) cs sl := by
  obtain ⟨q, hq⟩ := va_pl_get (X := []) (f := F) hb
  exact G_callVB (wr := []) hv cp d hw w2 w3 q (by rw [← he]; exact hq) hcl (List.range (va_pl P F).length) [] (gw_all _) rfl (r_nd _ List.nodup_range) rfl (fun i hi => nomatch hi) hcs hsl hcat kk kx
end
section
/-! G over a pool: references in arrays, casts, class objects; what a method may say of the pool behind it -/
/-- y is an object of the pool that may lie in a row of E -/
def gOb (v : gEnv) (P : List Nat) (F : Nat → va_E) (E : String) (y : Nat) : Prop := y ∈ P ∧ ∃ (ci : Nat) (fs : List Value) (C : String) (T : u_T) (N : Nat), F y = .inr (ci, fs) ∧ v.2.1[ci]? = some (C, T, N) ∧ ∀ A s H, v.2.2.2.1 A s H → va_Nw (.castable C E) s
def rSub (P P1 : List Nat) : Prop := ∀ b, b ∈ P → b ∈ P1
/-- the cells of P are as before, but for those of W -/
def rFr (W P : List Nat) (F F1 : Nat → va_E) : Prop := ∀ b, b ∈ P → b ∉ W → F1 b = F b
theorem rSub_rf {P : List Nat} : rSub P P := fun _ h => h
theorem rSub_tr {P P1 P2 : List Nat} (h : rSub P P1) (g : rSub P1 P2) : rSub P P2 := fun b hb => g b (h b hb)
theorem rSub_new {P P1 P2 : List Nat} {q : Nat} (h : rSub P P1) (g : ∀ b, b ∈ P2 ↔ b ∈ P1 ∨ b = q) : rSub P P2 := fun b hb => (g b).mpr (Or.inl (h b hb))
theorem rFr_rf {W P : List Nat} {F : Nat → va_E} : rFr W P F F := fun _ _ _ => rfl
theorem rFr_put {W P : List Nat} {F F1 F2 : Nat → va_E} {a : Nat} (h : rFr W P F F1) (g : ∀ b, b ≠ a → F2 b = F1 b) : rFr (a :: W) P F F2 := fun b hb hn => (g b (fun e => hn (e ▸ List.mem_cons_self))).trans (h b hb (fun z => hn (List.mem_cons_of_mem _ z)))
theorem rFr_put' {W P : List Nat} {F F1 F2 : Nat → va_E} {a : Nat} (ha : a ∈ W) (h : rFr W P F F1) (g : ∀ b, b ≠ a → F2 b = F1 b) : rFr W P F F2 := fun b hb hn => (g b (fun e => hn (e ▸ ha))).trans (h b hb hn)
theorem rFr_new {W P P1 : List Nat} {F F1 F2 : Nat → va_E} {q : Nat} (hs : rSub P P1) (hq : q ∉ P1) (h : rFr W P F F1) (g : ∀ b, b ≠ q → F2 b = F1 b) : rFr W P F F2 := fun b hb hn => (g b (fun e => hq (e ▸ hs b hb))).trans (h b hb hn)
/-- behind a call that wrote the cells of W1 -/
theorem rFr_call {W W1 W2 P P1 : List Nat} {F F1 F2 : Nat → va_E} (hs : rSub P P1) (h : rFr W P F F1) (g : rFr W1 P1 F1 F2) (hw : ∀ b, b ∈ P → b ∉ W2 → b ∉ W ∧ b ∉ W1) : rFr W2 P F F2 := fun b hb hn => (g b (hs b hb) (hw b hb hn).2).trans (h b hb (hw b hb hn).1)
theorem nm_n {b : Nat} : b ∉ ([] : List Nat) := List.not_mem_nil
theorem nm_c {b a : Nat} {W : List Nat} (h : b ≠ a) (g : b ∉ W) : b ∉ a :: W := fun z => by
  rcases List.mem_cons.mp z with e | z
  · exact h e
  · exact g z
theorem rFr_v {W W2 P : List Nat} {F F1 : Nat → va_E} (h : rFr W P F F1) (hw : ∀ b, b ∉ W2 → b ∉ W) : rFr W2 P F F1 := fun b hb hn => h b hb (hw b hn)
theorem rFr_w {W W2 P : List Nat} {F F1 : Nat → va_E} (h : rFr W P F F1) (hw : ∀ b, b ∈ W → b ∈ W2) : rFr W2 P F F1 := fun b hb hn => h b hb (fun z => hn (hw b z))
section GPR
variable {v : gEnv} {l : Launch} {R : Room} {Qf : gFin} {k : gKey} {pc : Nat} {L : List (Nat × Value)} {st : List Value} {P : List Nat} {F : Nat → va_E} {cs sl : Nat} {ws : va_W}
variable {a ci N i : Nat} {fs : List Value} {x : Value} {C : String} {T : u_T} {ty : Nat → FieldType}
theorem Gp_putF (f : Nat) (ha : a ∈ P) (he : F a = .inr (ci, fs)) (d : decode k.1 pc = .ok (.putfield i, 3)) (hc : gK v ci C T N ty) (hf : f < N) (hl : Cond.fieldLink k.2.2.1 i (T f).1 (T f).2.1 (T f).2.2.1 ∈ v.2.2.2.2) (hfin : (T f).2.2.2 = true) (hin : k.2.2.2.2.2.1 = "<init>") (hdc : (T f).1 = k.2.2.1) (hn : narrow (ty f) x = x) (hfit : fits (ty f) x = true) (hlen : f < fs.length)
    (n : ∀ F1 : Nat → va_E, F1 a = .inr (ci, fs.set f x) → (∀ b, b ≠ a → F1 b = F b) → G v l R Qf k (pc + 3) L st (va_pl P F1) cs sl) : G v l R Qf k pc L (x :: .ref a :: st) (va_pl P F) cs sl := fun p e s m args below meth c A H locs ls C hP hD hS h => by
  obtain ⟨q, hq⟩ := va_pl_get (X := []) (f := F) ha
  exact G_putF q f d (by rw [← he]; exact hq) hc hf hl hfin hin hdc hn hfit hlen (va_pl_set (X := []) hD ha hq) (n _ (va_up_self _ _ _) (fun b hb => va_up_ne _ _ hb)) p e s m args below meth c A H locs ls C hP hD hS h
variable {cA : ClassId} {M : Nat} {y z : Int32} {g : Nat → Option Nat}
theorem Gp_aald {fty : FieldType} (t : Nat) (ha : a ∈ P) (he : F a = .inl (cA, M, .inr (.inr (.inr (.inr g))))) (d : decode k.1 pc = .ok (.aaload, 1)) (ht : v.2.2.1[t]? = some (cA, fty)) (hr : fty.isReference = true) (hin : vp_in y M) (n : G v l R Qf k (pc + 1) L (va_rf (g y.toNatClampNeg) :: st) (va_pl P F) cs sl) : G v l R Qf k pc L (.int y :: .ref a :: st) (va_pl P F) cs sl := fun p e s m args below meth c A H locs ls C hP hD hS h => by
  obtain ⟨h1, h2, h3, h4, h5, h6, h7, h8, h9, h10, h11, h12, h13⟩ := id C
  obtain ⟨q, hq⟩ := va_pl_get (X := []) (f := F) ha
  rw [he] at hq
  have hlt : y.toNatClampNeg < M := Nat.not_le.mp fun q => hin (Or.inr q)
  exact W.aald (v := va_rf (g y.toNatClampNeg)) (ty := fty) h1 h2 (hP q _ hq) ((h10.2 t _ ht).1 M (fun j => va_rf (g j))) hr (fun q => by cases q) (by show ¬ (y < 0 ∨ (arrV _ _ _).slots.size ≤ _); rw [arrV_size]; exact hin) (by show (arrV _ _ _).slots[_]? = _; rw [arrV_read _ _ hlt]) rfl rfl d (n p e s m args below meth c A H locs ls C hP hD hS h)
theorem Gp_aast {E : String} {w : Nat} (t : Nat) (ha : a ∈ P) (he : F a = .inl (cA, M, .inr (.inr (.inr (.inr g))))) (d : decode k.1 pc = .ok (.aastore, 1)) (ht : v.2.2.1[t]? = some (cA, .object E)) (ho : gOb v P F E w) (hin : vp_in y M)
    (n : ∀ F1 : Nat → va_E, F1 a = .inl (cA, M, .inr (.inr (.inr (.inr (va_up g y.toNatClampNeg (some w)))))) → (∀ b, b ≠ a → F1 b = F b) → G v l R Qf k (pc + 1) L st (va_pl P F1) cs sl) : G v l R Qf k pc L (.ref w :: .int y :: .ref a :: st) (va_pl P F) cs sl := fun p e s m args below meth c A H locs ls C hP hD hS h => by
  obtain ⟨h1, h2, h3, h4, h5, h6, h7, h8, h9, h10, h11, h12, h13⟩ := id C
  obtain ⟨q, hq⟩ := va_pl_get (X := []) (f := F) ha
  obtain ⟨hw, ci, vs, C9, T9, N9, e1, e2, e3⟩ := ho
  obtain ⟨qk, hqk⟩ := va_pl_get (X := []) (f := F) hw
  rw [e1] at hqk
  have hset := fun e => va_pl_set (X := []) (e := e) hD ha hq
  rw [he] at hq
  refine va_astqO h1 h2 h10 hP hD hS q t qk ci hq ht (e3 _ _ _ h12) hqk e2 hin d (fun H1 locs1 hP1 hD1 hS1 => ?_)
  have hs := hset (.inl (cA, M, .inr (.inr (.inr (.inr (va_up g y.toNatClampNeg (some w)))))))
  rw [List.nil_append] at hs
  rw [hs] at hP1 hD1
  exact n _ (va_up_self _ _ _) (fun b hb => va_up_ne _ _ hb) p e s m args below meth c A H1 locs1 ls C hP1 hD1 hS1 h
theorem Gp_aastN {E : String} (t : Nat) (ha : a ∈ P) (he : F a = .inl (cA, M, .inr (.inr (.inr (.inr g))))) (d : decode k.1 pc = .ok (.aastore, 1)) (ht : v.2.2.1[t]? = some (cA, .object E)) (hin : vp_in y M)
    (n : ∀ F1 : Nat → va_E, F1 a = .inl (cA, M, .inr (.inr (.inr (.inr (va_up g y.toNatClampNeg none))))) → (∀ b, b ≠ a → F1 b = F b) → G v l R Qf k (pc + 1) L st (va_pl P F1) cs sl) : G v l R Qf k pc L (.null :: .int y :: .ref a :: st) (va_pl P F) cs sl := fun p e s m args below meth c A H locs ls C hP hD hS h => by
  obtain ⟨h1, h2, h3, h4, h5, h6, h7, h8, h9, h10, h11, h12, h13⟩ := id C
  obtain ⟨q, hq⟩ := va_pl_get (X := []) (f := F) ha
  have hset := fun e => va_pl_set (X := []) (e := e) hD ha hq
  rw [he] at hq
  refine va_astqN h1 h2 h10 hP hD hS q t hq ht hin d (fun H1 locs1 hP1 hD1 hS1 => ?_)
  have hs := hset (.inl (cA, M, .inr (.inr (.inr (.inr (va_up g y.toNatClampNeg none))))))
  rw [List.nil_append] at hs
  rw [hs] at hP1 hD1
  exact n _ (va_up_self _ _ _) (fun b hb => va_up_ne _ _ hb) p e s m args below meth c A H1 locs1 ls C hP1 hD1 hS1 h
theorem Gp_newq {E : String} (t : Nat) (d : decode k.1 pc = .ok (.anewarray i, 3)) (w1 : Cond.classLink k.2.2.1 i E ∈ v.2.2.2.2) (w2 : ∀ A s H, v.2.2.2.1 A s H → va_AO E s) (ht : v.2.2.1[t]? = some (cA, .object E)) (hn : ¬ z < 0) (hM : z.toNatClampNeg = M) (hb : M * 4 ≤ 536870912) (hcs : cs + 1 ≤ R.cells) (hsl : sl + M ≤ R.slots)
    (n : ∀ (q : Nat) (P1 : List Nat) (F1 : Nat → va_E), q ∉ P → (∀ b, b ∈ P1 ↔ b ∈ P ∨ b = q) → F1 q = .inl (cA, M, .inr (.inr (.inr (.inr (fun _ => none))))) → (∀ b, b ≠ q → F1 b = F b) → G v l R Qf k (pc + 3) L (.ref q :: st) (va_pl P1 F1) (cs + 1) (sl + M)) : G v l R Qf k pc L (.int z :: st) (va_pl P F) cs sl := fun p e s m args below meth c A H locs ls C hP hD hS h => by
  obtain ⟨h1, h2, h3, h4, h5, h6, h7, h8, h9, h10, h11, h12, h13⟩ := id C
  refine va_newq h1 h2 h4 (h8 _ w1) (w2 _ _ _ h12) h10 hP hD hS h11 hn hM hb hcs hsl d (fun q cB H1 hK1 hP1 hD1 hS1 => ?_)
  obtain ⟨-, -, -, -, -, e1⟩ := (h10.2 t _ ht).2
  have e0 : (v.2.2.1 ++ [(cB, FieldType.object E)])[v.2.2.1.length]? = some (cB, FieldType.object E) := by rw [List.getElem?_append_right (Nat.le_refl _), Nat.sub_self]; rfl
  obtain ⟨-, -, -, -, -, e2⟩ := (hK1.2 _ _ e0).2
  have ec : cB = cA := Option.some.inj (e2.symm.trans e1)
  subst ec
  exact Gp_in (n q) p e s m args below meth c A H1 locs ls C hP1 hD1 hS1 h
theorem gOb_any {E : String} {w : Nat} {s : State} {H : Heap} {A : Nat → Prop} (hK : va_K v.1 v.2.1 v.2.2.1 s) (hP : va_P v.1 v.2.1 (va_pl P F) H) (hE : v.2.2.2.1 A s s.heap) (ho : gOb v P F E w) : va_Any E s H w := by
  obtain ⟨hw, ci, vs, C9, T9, N9, e1, e2, e3⟩ := ho
  obtain ⟨qk, hqk⟩ := va_pl_get (X := []) (f := F) hw
  rw [e1] at hqk
  refine va_rAny (r := (C9, T9, N9)) hK hP hqk e2 (fun comp c0 g1 g2 => ?_)
  obtain ⟨c1, t1, f1, f2, f3⟩ := Cond.castable_spec (va_Nw.use (A := #[]) rfl (e3 _ _ _ hE))
  cases g2.symm.trans f1
  cases g1.symm.trans f2
  exact f3
theorem Gp_copyq {E : String} {a0 n0 n1 : Nat} {f : Nat → Option Nat} {sp dp n : Int32} (t : Nat) (ha0 : a0 ∈ P) (ha : a ∈ P) (he0 : F a0 = .inl (cA, n0, .inr (.inr (.inr (.inr f))))) (he : F a = .inl (cA, n1, .inr (.inr (.inr (.inr g))))) (d : decode k.1 pc = .ok (.invokestatic i, 3))
    (w1 : Cond.methodLink k.2.2.1 i arraycopyName ∈ v.2.2.2.2) (w2 : Cond.native arraycopyName ∈ v.2.2.2.2) (w3 : Cond.static arraycopyName ∈ v.2.2.2.2) (w4 : Cond.initialized "java/lang/System" ∈ v.2.2.2.2) (ht : v.2.2.1[t]? = some (cA, .object E))
    (h1 : 0 ≤ sp.toInt) (h2 : 0 ≤ dp.toInt) (h3 : 0 ≤ n.toInt) (h4 : sp.toInt + n.toInt ≤ n0) (h5 : dp.toInt + n.toInt ≤ n1) (hel : ∀ j : Nat, (j : Int) < sp.toInt + n.toInt → ∀ w, f j = some w → gOb v P F E w) (hf : 1 ≤ R.frames) (hlo : (st.map fun u => u.category).sum + 18 ≤ R.locals)
    (kk : ∀ F1 : Nat → va_E, F1 a = .inl (cA, n1, .inr (.inr (.inr (.inr (va_cpy f g sp.toNatClampNeg dp.toNatClampNeg n.toNatClampNeg))))) → (∀ b, b ≠ a → F1 b = F b) → G v l R Qf k (pc + 3) L st (va_pl P F1) cs sl) : G v l R Qf k pc L (.int n :: .int dp :: .ref a :: .int sp :: .ref a0 :: st) (va_pl P F) cs sl := fun p e s m args below meth c A H locs ls C hP hD hS h => by
  obtain ⟨g1, g2, g3, g4, g5, g6, g7, g8, g9, g10, g11, g12, g13⟩ := id C
  have e1 := g_nn h1
  have e2 := g_nn h2
  have e3 := g_nn h3
  obtain ⟨q0, hq0⟩ := va_pl_get (X := []) (f := F) ha0
  obtain ⟨q, hq⟩ := va_pl_get (X := []) (f := F) ha
  have hset := fun e => va_pl_set (X := []) (e := e) hD ha hq
  rw [he] at hq
  rw [he0] at hq0
  refine va_copyM g1 g2 (by rw [g3]; exact h.1.symm) g4 (g8 _ w1) (g8 _ w2) (g8 _ w3) (g8 _ w4) g10 hP hD hS q0 q t t hq0 hq ht ht (g_n0 h1) (g_n0 h2) (g_n0 h3) (by omega) (by omega) (fun j hj w hw => gOb_any g10 hP g12 (hel _ (by omega) w hw)) hf hlo d (fun H1 locs1 hP1 hD1 hS1 => ?_)
  have hs := hset (.inl (cA, n1, .inr (.inr (.inr (.inr (va_cpy f g sp.toNatClampNeg dp.toNatClampNeg n.toNatClampNeg))))))
  rw [List.nil_append] at hs
  rw [hs] at hP1 hD1
  exact kk _ (va_up_self _ _ _) (fun b hb => va_up_ne _ _ hb) p e s m args below meth c A H1 locs1 ls C hP1 hD1 hS1 h
theorem Gp_copyp {ty : FieldType} {a0 n0 n1 : Nat} {f g : Nat → Int32} {sp dp n : Int32} (t : Nat) (ha0 : a0 ∈ P) (ha : a ∈ P) (he0 : F a0 = .inl (cA, n0, .inl f)) (he : F a = .inl (cA, n1, .inl g)) (d : decode k.1 pc = .ok (.invokestatic i, 3))
    (w1 : Cond.methodLink k.2.2.1 i arraycopyName ∈ v.2.2.2.2) (w2 : Cond.native arraycopyName ∈ v.2.2.2.2) (w3 : Cond.static arraycopyName ∈ v.2.2.2.2) (w4 : Cond.initialized "java/lang/System" ∈ v.2.2.2.2) (ht : v.2.2.1[t]? = some (cA, ty)) (hpr : refKind ty = false) (hfit : ∀ j, fits ty (.int (f j)) = true)
    (h1 : 0 ≤ sp.toInt) (h2 : 0 ≤ dp.toInt) (h3 : 0 ≤ n.toInt) (h4 : sp.toInt + n.toInt ≤ n0) (h5 : dp.toInt + n.toInt ≤ n1) (hf : 1 ≤ R.frames) (hlo : (st.map fun u => u.category).sum + 18 ≤ R.locals)
    (kk : ∀ F1 : Nat → va_E, F1 a = .inl (cA, n1, .inl (va_cpy f g sp.toNatClampNeg dp.toNatClampNeg n.toNatClampNeg)) → (∀ b, b ≠ a → F1 b = F b) → G v l R Qf k (pc + 3) L st (va_pl P F1) cs sl) : G v l R Qf k pc L (.int n :: .int dp :: .ref a :: .int sp :: .ref a0 :: st) (va_pl P F) cs sl := fun p e s m args below meth c A H locs ls C hP hD hS h => by
  obtain ⟨g1, g2, g3, g4, g5, g6, g7, g8, g9, g10, g11, g12, g13⟩ := id C
  have e1 := g_nn h1
  have e2 := g_nn h2
  have e3 := g_nn h3
  obtain ⟨q0, hq0⟩ := va_pl_get (X := []) (f := F) ha0
  obtain ⟨q, hq⟩ := va_pl_get (X := []) (f := F) ha
  have hset := fun e => va_pl_set (X := []) (e := e) hD ha hq
  rw [he] at hq
  rw [he0] at hq0
  refine va_copyi g1 g2 (by rw [g3]; exact h.1.symm) g4 (g8 _ w1) (g8 _ w2) (g8 _ w3) (g8 _ w4) g10 hP hD hS q0 q t t hq0 hq ht ht hpr (g_n0 h1) (g_n0 h2) (g_n0 h3) (by omega) (by omega) (fun j _ => hfit _) hf hlo d (fun H1 locs1 hP1 hD1 hS1 => ?_)
  have hs := hset (.inl (cA, n1, .inl (va_cpy f g sp.toNatClampNeg dp.toNatClampNeg n.toNatClampNeg)))
  rw [List.nil_append] at hs
  rw [hs] at hP1 hD1
  exact kk _ (va_up_self _ _ _) (fun b hb => va_up_ne _ _ hb) p e s m args below meth c A H1 locs1 ls C hP1 hD1 hS1 h
theorem Gp_cast {nm : String} (ha : a ∈ P) (he : F a = .inr (ci, fs)) (hcl : v.2.1[ci]? = some (C, T, N)) (d : decode k.1 pc = .ok (.checkcast i, 3)) (w1 : Cond.classLink k.2.2.1 i nm ∈ v.2.2.2.2) (hca : ∀ A s H, v.2.2.2.1 A s H → va_Nw (.castable C nm) s) (n : G v l R Qf k (pc + 3) L (.ref a :: st) (va_pl P F) cs sl) : G v l R Qf k pc L (.ref a :: st) (va_pl P F) cs sl := fun p e s m args below meth c A H locs ls C hP hD hS h => by
  obtain ⟨h1, h2, h3, h4, h5, h6, h7, h8, h9, h10, h11, h12, h13⟩ := id C
  obtain ⟨q, hq⟩ := va_pl_get (X := []) (f := F) ha
  rw [he] at hq
  exact va_castY h1 h2 h4 (h8 _ w1) (hca _ _ _ h12) (va_recv h10 hP hcl hq) d (n p e s m args below meth c A H locs ls C hP hD hS h)
theorem Gp_getC {E nm : String} {mi : Nat} (t : Nat) (ha : a ∈ P) (he : F a = .inl (cA, M, .inr (.inr (.inr (.inr g))))) (ht : v.2.2.1[t]? = some (cA, .object E)) (hnm : "[" ++ (FieldType.object E).toString = nm) (d : decode k.1 pc = .ok (.invokevirtual i, 3)) (w1 : Cond.methodLink k.2.2.1 i ⟨"java/lang/Object", "getClass", "()Ljava/lang/Class;"⟩ ∈ v.2.2.2.2)
    (w2 : Cond.selects nm ⟨"java/lang/Object", "getClass", "()Ljava/lang/Class;"⟩ ⟨"java/lang/Object", "getClass", "()Ljava/lang/Class;"⟩ ∈ v.2.2.2.2) (w3 : Cond.instanceMethod ⟨"java/lang/Object", "getClass", "()Ljava/lang/Class;"⟩ ∈ v.2.2.2.2) (w4 : Cond.native ⟨"java/lang/Object", "getClass", "()Ljava/lang/Class;"⟩ ∈ v.2.2.2.2)
    (hE : ∀ A s H, v.2.2.2.1 A s H → va_Mi nm mi s ∧ va_Dc s) (hf : 1 ≤ R.frames) (hlo : (st.map fun u => u.category).sum + 14 ≤ R.locals) (n : G v l R Qf k (pc + 3) L (.ref mi :: st) (va_pl P F) cs sl) : G v l R Qf k pc L (.ref a :: st) (va_pl P F) cs sl := fun p e s m args below meth c A H locs ls C hP hD hS h => by
  obtain ⟨h1, h2, h3, h4, h5, h6, h7, h8, h9, h10, h11, h12, h13⟩ := id C
  obtain ⟨q, hq⟩ := va_pl_get (X := []) (f := F) ha
  rw [he] at hq
  obtain ⟨e1, e2⟩ := hE _ _ _ h12
  exact va_getC h1 h2 (by rw [h3]; exact h.1.symm) h4 (h8 _ w1) (va_Dc.use e2) (h8 _ w2) (h8 _ w3) (h8 _ w4) e1 ⟨_, hP q _ hq, rfl, va_nmO (h10.2 t _ ht).2 hnm⟩ hf hlo d (n p e s m args below meth c A H locs ls C hP hD hS h)
theorem G_ldcM {nm : String} {mi : Nat} (d : decode k.1 pc = .ok (.ldc i, 2)) (w1 : Cond.classLink k.2.2.1 i nm ∈ v.2.2.2.2) (hE : ∀ A s H, v.2.2.2.1 A s H → va_Mi nm mi s) (n : G v l R Qf k (pc + 2) L (.ref mi :: st) ws cs sl) : G v l R Qf k pc L st ws cs sl := fun p e s m args below meth c A H locs ls C hP hD hS h => by
  obtain ⟨h1, h2, h3, h4, h5, h6, h7, h8, h9, h10, h11, h12, h13⟩ := id C
  exact va_ldcM h1 h2 h4 (h8 _ w1) (hE _ _ _ h12) d (n p e s m args below meth c A H locs ls C hP hD hS h)
theorem G_acmp_eq {x y : Nat} {o : Int} (tgt : Nat) (d : decode k.1 pc = .ok (.if_acmp .eq o, 3)) (ht : (pc : Int) + o = (tgt : Int)) (kt : x = y → G v l R Qf k tgt L st ws cs sl) (kf : ¬ x = y → G v l R Qf k (pc + 3) L st ws cs sl) : G v l R Qf k pc L (.ref y :: .ref x :: st) ws cs sl := fun p e s m args below meth c A H locs ls C hP hD hS h =>
  lv_acmp_eq (rx := some x) (ry := some y) C.1 C.2.1 d ht (fun e9 => kt (Option.some.inj e9) p e s m args below meth c A H locs ls C hP hD hS h) (fun e9 => kf (fun z => e9 (congrArg some z)) p e s m args below meth c A H locs ls C hP hD hS h)
theorem G_acmp_ne {x y : Nat} {o : Int} (tgt : Nat) (d : decode k.1 pc = .ok (.if_acmp .ne o, 3)) (ht : (pc : Int) + o = (tgt : Int)) (kt : ¬ x = y → G v l R Qf k tgt L st ws cs sl) (kf : x = y → G v l R Qf k (pc + 3) L st ws cs sl) : G v l R Qf k pc L (.ref y :: .ref x :: st) ws cs sl := fun p e s m args below meth c A H locs ls C hP hD hS h =>
  lv_acmp_ne (rx := some x) (ry := some y) C.1 C.2.1 d ht (fun e9 => kt (fun z => e9 (congrArg some z)) p e s m args below meth c A H locs ls C hP hD hS h) (fun e9 => kf (Option.some.inj e9) p e s m args below meth c A H locs ls C hP hD hS h)
end GPR
theorem gr_cast {D : va_G} {a b : String} (i : Nat) (h : gCast[i]? = some (a, b)) : ∀ A s H, gExS D A s H → va_Nw (.castable a b) s := fun _ _ _ hE => hE.2.2.2.1 _ (List.mem_of_getElem? h)
theorem gr_mi {D : va_G} : ∀ A s H, gExS D A s H → va_Mi "[Ljava/lang/Object;" (D.2 1002 0) s ∧ va_Dc s := fun _ _ _ hE => ⟨hE.2.2.2.2.1, hE.2.2.2.2.2.1⟩
theorem gr_de {D : va_G} (A : Nat → Prop) (s : State) (H : Heap) (hE : gExS D A s H) : ∃ x, x = Value.ref (D.2 1002 1) ∧ va_Z "java/util/ArrayList" "DEFAULTCAPACITY_EMPTY_ELEMENTDATA" "[Ljava/lang/Object;" x A s H := ⟨_, rfl, hE.2.2.2.2.2.2.1⟩
theorem gr_dt {D : va_G} : ∀ A s H, gExS D A s H → va_T (.object "java/lang/Object") (D.2 1002 1) 0 (fun _ => .null) A s H := fun _ _ _ hE => hE.2.2.2.2.2.2.2.1
theorem gr_on {D : va_G} (A : Nat → Prop) (s : State) (H : Heap) (hE : gExS D A s H) : ∃ x, x = Value.ref (D.2 1002 2) ∧ va_Z "java/lang/Integer" "DigitOnes" "[B" x A s H := ⟨_, rfl, hE.2.2.2.2.2.2.2.2.1⟩
theorem gr_ont {D : va_G} : ∀ A s H, gExS D A s H → va_T .byte (D.2 1002 2) 100 (fun j => .int (dg_O j)) A s H := fun _ _ _ hE => hE.2.2.2.2.2.2.2.2.2.1
theorem gr_te {D : va_G} (A : Nat → Prop) (s : State) (H : Heap) (hE : gExS D A s H) : ∃ x, x = Value.ref (D.2 1002 3) ∧ va_Z "java/lang/Integer" "DigitTens" "[B" x A s H := ⟨_, rfl, hE.2.2.2.2.2.2.2.2.2.2.1⟩
theorem gr_tet {D : va_G} : ∀ A s H, gExS D A s H → va_T .byte (D.2 1002 3) 100 (fun j => .int (dg_T j)) A s H := fun _ _ _ hE => hE.2.2.2.2.2.2.2.2.2.2.2.1
theorem gr_ao {D : va_G} : ∀ A s H, gExS D A s H → va_AO "java/lang/Object" s := fun _ _ _ hE => hE.2.2.2.2.2.2.2.2.2.2.2.2
end
section
/-! G over a pool: small things for the writer -/
theorem rFr_newp {W P : List Nat} {F F1 F2 : Nat → va_E} {q : Nat} (hq : q ∉ P) (h : rFr W P F F1) (g : ∀ b, b ≠ q → F2 b = F1 b) : rFr W P F F2 := fun b hb hn => (g b (fun e => hq (e ▸ hb))).trans (h b hb hn)
section RN
variable {F : Nat → va_E} {a b : Nat}
theorem rn_oa {x : Nat × List Value} {y : ClassId × vp_A} (hb : F b = .inr x) (ha : F a = .inl y) : b ≠ a := fun h => by rw [h, ha] at hb; cases hb
theorem rn_ao {x : ClassId × vp_A} {y : Nat × List Value} (hb : F b = .inl x) (ha : F a = .inr y) : b ≠ a := fun h => by rw [h, ha] at hb; cases hb
theorem rn_oo {i j : Nat} {x y : List Value} (hb : F b = .inr (i, x)) (ha : F a = .inr (j, y)) (hne : ¬ i = j) : b ≠ a := fun h => by
  rw [h, ha] at hb
  exact hne (congrArg Prod.fst (Sum.inr.inj hb)).symm
theorem rn_len {c d : ClassId} {n m : Nat} {x y : (Nat → Int32) ⊕ (Nat → Int64) ⊕ (Nat → UInt32) ⊕ (Nat → UInt64) ⊕ (Nat → Option Nat)} (hb : F b = .inl (c, n, x)) (ha : F a = .inl (d, m, y)) (hne : ¬ n = m) : b ≠ a := fun h => by
  rw [h, ha] at hb
  exact hne (congrArg (fun z => z.2.1) (Sum.inl.inj hb)).symm
theorem rn_num_long {c d : ClassId} {n m : Nat} {x : Nat → Int32} {y : Nat → Int64} (hb : F b = .inl (c, n, .inl x)) (ha : F a = .inl (d, m, .inr (.inl y))) : b ≠ a := fun h => by rw [h, ha] at hb; cases (congrArg (fun z => z.2.2) (Sum.inl.inj hb))
theorem rn_long_num {c d : ClassId} {n m : Nat} {x : Nat → Int64} {y : Nat → Int32} (hb : F b = .inl (c, n, .inr (.inl x))) (ha : F a = .inl (d, m, .inl y)) : b ≠ a := fun h => by rw [h, ha] at hb; cases (congrArg (fun z => z.2.2) (Sum.inl.inj hb))
theorem rn_num_ref {c d : ClassId} {n m : Nat} {x : Nat → Int32} {y : Nat → Option Nat} (hb : F b = .inl (c, n, .inl x)) (ha : F a = .inl (d, m, .inr (.inr (.inr (.inr y))))) : b ≠ a := fun h => by rw [h, ha] at hb; cases (congrArg (fun z => z.2.2) (Sum.inl.inj hb))
theorem rn_ref_num {c d : ClassId} {n m : Nat} {x : Nat → Option Nat} {y : Nat → Int32} (hb : F b = .inl (c, n, .inr (.inr (.inr (.inr x))))) (ha : F a = .inl (d, m, .inl y)) : b ≠ a := fun h => by rw [h, ha] at hb; cases (congrArg (fun z => z.2.2) (Sum.inl.inj hb))
theorem rn_long_ref {c d : ClassId} {n m : Nat} {x : Nat → Int64} {y : Nat → Option Nat} (hb : F b = .inl (c, n, .inr (.inl x))) (ha : F a = .inl (d, m, .inr (.inr (.inr (.inr y))))) : b ≠ a := fun h => by rw [h, ha] at hb; cases (congrArg (fun z => z.2.2) (Sum.inl.inj hb))
theorem rn_ref_long {c d : ClassId} {n m : Nat} {x : Nat → Option Nat} {y : Nat → Int64} (hb : F b = .inl (c, n, .inr (.inr (.inr (.inr x))))) (ha : F a = .inl (d, m, .inr (.inl y))) : b ≠ a := fun h => by rw [h, ha] at hb; cases (congrArg (fun z => z.2.2) (Sum.inl.inj hb))
end RN
/-- what lies in a row of references: rows and blocks of the reference -/
def rEl (P : List Nat) (F : Nat → va_E) (f : Nat → Option Nat) : Prop := ∀ j w, f j = some w → w ∈ P ∧ ((∃ fs, F w = .inr (17, fs)) ∨ ∃ fs, F w = .inr (20, fs))
def rNo (e : va_E) : Prop := (∃ fs, e = .inr (4, fs)) ∨ ∃ a, e = .inl a
theorem rNo_n {F : Nat → va_E} : ∀ b, b ∈ ([] : List Nat) → rNo (F b) := fun _ h => nomatch h
theorem rNo_c {F : Nat → va_E} {a : Nat} {W : List Nat} (h : rNo (F a)) (g : ∀ b, b ∈ W → rNo (F b)) : ∀ b, b ∈ a :: W → rNo (F b) := fun b hb => by
  rcases List.mem_cons.mp hb with rfl | hb
  · exact h
  · exact g b hb
theorem rEl_fr {P P1 W : List Nat} {F F1 : Nat → va_E} {f : Nat → Option Nat} (h : rEl P F f) (hs : rSub P P1) (hf : rFr W P F F1) (hw : ∀ b, b ∈ W → rNo (F b)) : rEl P1 F1 f := fun j w hj => by
  obtain ⟨h1, h2⟩ := h j w hj
  have hn : w ∉ W := fun z => by
    rcases hw w z with ⟨fs, e⟩ | ⟨a, e⟩
    · rcases h2 with ⟨gs, e2⟩ | ⟨gs, e2⟩
      · rw [e] at e2; exact absurd (show (4 : Nat) = 17 from congrArg Prod.fst (Sum.inr.inj e2)) (by decide)
      · rw [e] at e2; exact absurd (show (4 : Nat) = 20 from congrArg Prod.fst (Sum.inr.inj e2)) (by decide)
    · rcases h2 with ⟨gs, e2⟩ | ⟨gs, e2⟩
      · rw [e] at e2; cases e2
      · rw [e] at e2; cases e2
  refine ⟨hs w h1, ?_⟩
  rw [hf w h1 hn]
  exact h2
theorem rEl_ob {D : va_G} {I : FieldType → ClassId} {P : List Nat} {F : Nat → va_E} {f : Nat → Option Nat} (h : rEl P F f) {j w : Nat} (hj : f j = some w) : gOb (gV D I) P F "java/lang/Object" w := by
  obtain ⟨h1, ⟨fs, e⟩ | ⟨fs, e⟩⟩ := h j w hj
  · exact ⟨h1, 17, fs, _, _, _, e, rfl, gr_cast 2 rfl⟩
  · exact ⟨h1, 20, fs, _, _, _, e, rfl, gr_cast 3 rfl⟩
theorem gT_byte {x : Int32} (h : gB x (-128) 127) : fits .byte (.int x) = true := by
  show (decide (-128 ≤ x) && decide (x ≤ 127)) = true
  have h1 : (-128 : Int32) ≤ x := by rw [Int32.le_iff_toInt_le, show Int32.toInt (-128) = -128 by decide]; exact h.1
  have h2 : x ≤ (127 : Int32) := by rw [Int32.le_iff_toInt_le, show Int32.toInt 127 = 127 by decide]; exact h.2
  rw [decide_eq_true h1, decide_eq_true h2]
  rfl
theorem gI_ofM {z : Int32} {n : Nat} (hz : z = Int32.ofNat n) (h : (n : Int) ≤ 16777216) : z.toInt = n := by
  subst hz
  exact gI_ofNat (x := Int32.ofNat n) (k := n) (by show n % 2 ^ 32 = n; omega) (by omega)
set_option maxHeartbeats 1000000 in
theorem CtA_ofF {v : gEnv} {l : Launch} {y : MethodName} {cc : ByteArray} {nL fr lo mc ms : Nat} {ret : Option FieldType} {av : List Value} {ws : va_W} {Post : Option Value → va_W → Nat → Nat → Prop} {XP : String → Nat → va_W → Nat → Nat → Prop} (hl0 : l.stackTraces = false) (hy : plainFor y = true) (hlen : (lg_sl av).length ≤ nL) (h : G v l (gRm fr lo mc ms) (gMA v Post XP mc ms) (cc, nL, y.cls, ret, [], y.name, fun _ _ => True) 0 (lv_args 0 av) [] ws 0 0) :
    CtA v l y cc nL ret fr lo mc ms av ws Post XP := by
  intro sz
  refine vx_ofWF (cc := cc) (maxL := nL) (ret := ret) hy rfl ?_
  intro p e s m args below meth c s₁ B hml ht hpre
  obtain ⟨rfl, hsz, hP, hK, hD, hE⟩ := hpre
  subst hsz
  have hts := atoms_spec (ws := .code y cc nL ret :: v.2.2.2.2) B.pre
  have hl := lv_entry av (n := nL) hlen
  rw [lg_entry_eq]
  generalize (lg_sl av ++ List.replicate (nL - (lg_sl av).length) Slot.unset).toArray = ls at hl ⊢
  have ht0 : c.exceptionTable.toList = [] := by
    cases hx : c.exceptionTable.toList with
    | nil => rfl
    | cons x r => exact absurd (by rw [hx]; exact List.mem_cons_self) (fun z => ht x z)
  exact h p e s m av.toArray below meth c (va_A ws s.heap.size) s.heap [] ls ⟨B.exec, B.bytes, hml, findClass_of_methodNamed B.named, B.returns, ht0, (name_of_methodNamed B.named B.method).1, fun w hw => hts w (List.mem_cons_of_mem _ hw), B.notSynchronized, hK, fun q hq => Or.inr hq, hE, hl0, trivial⟩ hP hD.self va_S.rf hl
section GWI
variable {v : gEnv} {l : Launch} {R : Room} {Qf : gFin} {k : gKey} {pc cs sl : Nat} {L : List (Nat × Value)} {st : List Value} {P : List Nat} {F : Nat → va_E}
variable {y : MethodName} {cc' : ByteArray} {nL' fr' lo' mc' ms' i b : Nat} {As : List Value} {Post' : Option Value → va_W → Nat → Nat → Prop}
theorem Gw_callI (hv : gOk v) (cp : CtA v l y cc' nL' none fr' lo' mc' ms' (.ref b :: As) (va_pl P F) Post' gNA) (d : decode k.1 pc = .ok (.invokespecial i, 3)) (hw : gCw v R k.2.2.1 i y cc' nL' none fr' lo' As.length) (w2 : Cond.instanceMethod y ∈ v.2.2.2.2) (hin : y.name = "<init>")
    (hcs : cs + mc' ≤ R.cells) (hsl : sl + ms' ≤ R.slots) (hcat : (st.map fun u => u.category).sum ≤ 8)
    (kk : ∀ r w dc ds, Post' r w dc ds → G v l R Qf k (pc + 3) L (r.toList ++ st) w (cs + dc) (sl + ds)) :
    G v l R Qf k pc L (As.reverse ++ .ref b :: st) (va_pl P F) cs sl :=
  G_callIA (wr := []) hv cp d hw w2 hin (List.range (va_pl P F).length) [] (gw_all _) rfl (r_nd _ List.nodup_range) rfl (fun i hi => nomatch hi) hcs hsl hcat kk
theorem Gw_callIN {host : String} (hv : gOk v) (cp : CtA v l y cc' nL' none fr' lo' mc' ms' (.ref b :: As) (va_pl P F) Post' gNA) (d : decode k.1 pc = .ok (.invokespecial i, 3)) (hw : gCn v R k.2.2.1 i y host cc' nL' none fr' lo' As.length) (w2 : Cond.instanceMethod y ∈ v.2.2.2.2) (hin : y.name = "<init>")
    (hcs : cs + mc' ≤ R.cells) (hsl : sl + ms' ≤ R.slots) (hcat : (st.map fun u => u.category).sum ≤ 8)
    (kk : ∀ r w dc ds, Post' r w dc ds → G v l R Qf k (pc + 3) L (r.toList ++ st) w (cs + dc) (sl + ds)) :
    G v l R Qf k pc L (As.reverse ++ .ref b :: st) (va_pl P F) cs sl :=
  G_callINA (wr := []) hv cp d hw w2 hin (List.range (va_pl P F).length) [] (gw_all _) rfl (r_nd _ List.nodup_range) rfl (fun i hi => nomatch hi) hcs hsl hcat kk
end GWI
end
section
/-! fields of a class above, named by the class itself -/
section GSAME
variable {v : gEnv} {l : Launch} {R : Room} {Qf : gFin} {k : gKey} {pc : Nat} {L : List (Nat × Value)} {st : List Value} {P : List Nat} {F : Nat → va_E} {cs sl : Nat}
variable {a ci N i : Nat} {fs : List Value} {x : Value} {C ref : String} {T : u_T} {ty : Nat → FieldType}
theorem Gp_getS (f : Nat) (ha : a ∈ P) (he : F a = .inr (ci, fs)) (d : decode k.1 pc = .ok (.getfield i, 3)) (hc : gK v ci C T N ty) (hf : f < N) (hl : Cond.fieldLink k.2.2.1 i ref (T f).2.1 (T f).2.2.1 ∈ v.2.2.2.2) (hs : Cond.sameField ref (T f).1 (T f).2.1 (T f).2.2.1 ∈ v.2.2.2.2) (hx : fs[f]? = some x)
    (n : G v l R Qf k (pc + 3) L (x :: st) (va_pl P F) cs sl) : G v l R Qf k pc L (.ref a :: st) (va_pl P F) cs sl := fun p e s m args below meth c A H locs ls C hP hD hS h => by
  obtain ⟨h1, h2, h3, h4, h5, h6, h7, h8, h9, h10, h11, h12, h13⟩ := id C
  obtain ⟨q, hq⟩ := va_pl_get (X := []) (f := F) ha
  rw [he] at hq
  exact va_get h1 h2 h8 hc.2.1 h4 h10 hP q hq hc.1 f hf (h8 _ hl) (u_same (h8 _ hs)) hx d (n p e s m args below meth c A H locs ls C hP hD hS h)
theorem Gp_putS (f : Nat) (ha : a ∈ P) (he : F a = .inr (ci, fs)) (d : decode k.1 pc = .ok (.putfield i, 3)) (hc : gK v ci C T N ty) (hf : f < N) (hl : Cond.fieldLink k.2.2.1 i ref (T f).2.1 (T f).2.2.1 ∈ v.2.2.2.2) (hs : Cond.sameField ref (T f).1 (T f).2.1 (T f).2.2.1 ∈ v.2.2.2.2) (hfin : (T f).2.2.2 = false) (hn : narrow (ty f) x = x) (hfit : fits (ty f) x = true) (hlen : f < fs.length)
    (n : ∀ F1 : Nat → va_E, F1 a = .inr (ci, fs.set f x) → (∀ b, b ≠ a → F1 b = F b) → G v l R Qf k (pc + 3) L st (va_pl P F1) cs sl) : G v l R Qf k pc L (x :: .ref a :: st) (va_pl P F) cs sl := fun p e s m args below meth c A H locs ls C hP hD hS h => by
  obtain ⟨h1, h2, h3, h4, h5, h6, h7, h8, h9, h10, h11, h12, h13⟩ := id C
  obtain ⟨q, hq⟩ := va_pl_get (X := []) (f := F) ha
  have hset := va_pl_set (X := []) (e := .inr (ci, fs.set f x)) hD ha hq
  rw [List.nil_append] at hset
  rw [he] at hq
  refine va_put h1 h2 h8 hc.2.1 ty hc.2.2.1 hc.2.2.2 h4 h10 hP hD hS q hq hc.1 f hf (h8 _ hl) (u_same (h8 _ hs)) hfin (hc.2.2.1 f hf) hn hfit hlen d (fun H1 locs1 hP1 hD1 hS1 => ?_)
  rw [hset] at hP1 hD1
  exact n _ (va_up_self _ _ _) (fun b hb => va_up_ne _ _ hb) p e s m args below meth c A H1 locs1 ls C hP1 hD1 hS1 h
end GSAME
end
section
/-! rows of references: where their elements come from, what lies where behind a copy -/
def rSrc (g f : Nat → Option Nat) : Prop := ∀ j w, g j = some w → ∃ i, f i = some w
theorem rSrc_rf {f : Nat → Option Nat} : rSrc f f := fun j _ h => ⟨j, h⟩
theorem rSrc_tr {f g h : Nat → Option Nat} (a : rSrc h g) (b : rSrc g f) : rSrc h f := fun j w e => by
  obtain ⟨i, hi⟩ := a j w e
  exact b i w hi
theorem rSrc_none {f : Nat → Option Nat} : rSrc (fun _ => none) f := fun _ _ h => by cases h
theorem rSrc_cpy {f g h f2 : Nat → Option Nat} {s d n : Nat} (e : f2 = va_cpy f g s d n) (a : rSrc f h) (b : rSrc g h) : rSrc f2 h := fun j w hj => by
  rw [e] at hj
  unfold va_cpy at hj
  split at hj
  · exact a _ w hj
  · exact b _ w hj
theorem rSrc_upN {f g f2 : Nat → Option Nat} {k : Nat} (e : f2 = va_up f k none) (a : rSrc f g) : rSrc f2 g := fun j w hj => by
  rw [e] at hj
  unfold va_up at hj
  split at hj
  · cases hj
  · exact a _ w hj
theorem rEl_src {P : List Nat} {F : Nat → va_E} {f g : Nat → Option Nat} (h : rEl P F f) (a : rSrc g f) : rEl P F g := fun j w hj => by
  obtain ⟨i, hi⟩ := a j w hj
  exact h i w hi
theorem rC_cpy0 {f g f2 : Nat → Option Nat} {z : Int32} {m : Int} (e : f2 = va_cpy f g (0 : Int32).toNatClampNeg (0 : Int32).toNatClampNeg z.toNatClampNeg) (hz : m ≤ z.toInt) : ∀ j : Nat, (j : Int) < m → f2 j = f j := fun j hj => by
  have h0 : (0 : Int32).toNatClampNeg = 0 := by decide
  have h1 : (z.toNatClampNeg : Int) = z.toInt := g_nn (by omega)
  rw [e, h0]
  unfold va_cpy
  rw [if_pos (by omega)]
  congr 1
  omega
/-- an element put in at k -/
theorem rI_ins {f f1 f2 f3 : Nat → Option Nat} {k p n : Int32} {x : Nat} {m : Int} (h : ∀ j : Nat, (j : Int) < m → f1 j = f j) (e2 : f2 = va_cpy f1 f1 k.toNatClampNeg p.toNatClampNeg n.toNatClampNeg) (e3 : f3 = va_up f2 k.toNatClampNeg (some x)) (hk : 0 ≤ k.toInt) (hp : p.toInt = k.toInt + 1) (hn : n.toInt = m - k.toInt) (hm : k.toInt ≤ m) :
    (∀ j : Nat, (j : Int) < k.toInt → f3 j = f j) ∧ f3 k.toInt.toNat = some x ∧ ∀ j : Nat, k.toInt ≤ (j : Int) → (j : Int) < m → f3 (j + 1) = f j := by
  have h1 : (k.toNatClampNeg : Int) = k.toInt := g_nn hk
  have h2 : (p.toNatClampNeg : Int) = p.toInt := g_nn (by omega)
  have h3 : (n.toNatClampNeg : Int) = n.toInt := g_nn (by omega)
  refine ⟨fun j hj => ?_, ?_, fun j hj hj2 => ?_⟩
  · rw [e3, va_up_ne _ _ (by omega), e2]
    unfold va_cpy
    rw [if_neg (by omega)]
    exact h j (by omega)
  · rw [e3, show k.toInt.toNat = k.toNatClampNeg from rfl, va_up_self]
  · rw [e3, va_up_ne _ _ (by omega), e2]
    unfold va_cpy
    rw [if_pos (by omega), ← h j hj2]
    congr 1
    omega
/-- an element taken out at k: the rest moves down -/
theorem rI_del {f f2 f3 : Nat → Option Nat} {k p n q : Int32} {m : Int} (e2 : f2 = va_cpy f f p.toNatClampNeg k.toNatClampNeg n.toNatClampNeg) (e3 : f3 = va_up f2 q.toNatClampNeg none) (hk : 0 ≤ k.toInt) (hp : p.toInt = k.toInt + 1) (hn : n.toInt = m - 1 - k.toInt) (hq : q.toInt = m - 1) (hm : k.toInt < m) :
    (∀ j : Nat, (j : Int) < k.toInt → f3 j = f j) ∧ ∀ j : Nat, k.toInt ≤ (j : Int) → (j : Int) < m - 1 → f3 j = f (j + 1) := by
  have h1 : (k.toNatClampNeg : Int) = k.toInt := g_nn hk
  have h2 : (p.toNatClampNeg : Int) = p.toInt := g_nn (by omega)
  have h3 : (n.toNatClampNeg : Int) = n.toInt := g_nn (by omega)
  have h4 : (q.toNatClampNeg : Int) = q.toInt := g_nn (by omega)
  refine ⟨fun j hj => ?_, fun j hj hj2 => ?_⟩
  · rw [e3, va_up_ne _ _ (by omega), e2]
    unfold va_cpy
    rw [if_neg (by omega)]
  · rw [e3, va_up_ne _ _ (by omega), e2]
    unfold va_cpy
    rw [if_pos (by omega)]
    congr 1
    omega
theorem rI_del0 {f f3 : Nat → Option Nat} {k q : Int32} {m : Int} (e3 : f3 = va_up f q.toNatClampNeg none) (hk : 0 ≤ k.toInt) (hq : q.toInt = m - 1) (hm : k.toInt = m - 1) :
    (∀ j : Nat, (j : Int) < k.toInt → f3 j = f j) ∧ ∀ j : Nat, k.toInt ≤ (j : Int) → (j : Int) < m - 1 → f3 j = f (j + 1) := by
  have h4 : (q.toNatClampNeg : Int) = q.toInt := g_nn (by omega)
  refine ⟨fun j hj => ?_, fun j hj hj2 => by omega⟩
  rw [e3, va_up_ne _ _ (by omega)]
/-- one more at the end -/
theorem rI_add {f f1 f2 : Nat → Option Nat} {k : Int32} {x : Nat} {m : Int} (h : ∀ j : Nat, (j : Int) < m → f1 j = f j) (e : f2 = va_up f1 k.toNatClampNeg (some x)) (hk : k.toInt = m) (h0 : 0 ≤ m) : (∀ j : Nat, (j : Int) < m → f2 j = f j) ∧ f2 k.toInt.toNat = some x := by
  have h1 : (k.toNatClampNeg : Int) = k.toInt := g_nn (by omega)
  refine ⟨fun j hj => ?_, ?_⟩
  · rw [e, va_up_ne _ _ (by omega)]
    exact h j hj
  · rw [e, show k.toInt.toNat = k.toNatClampNeg from rfl, va_up_self]
def rSrcX (g f : Nat → Option Nat) (x : Nat) : Prop := ∀ j w, g j = some w → w = x ∨ ∃ i, f i = some w
theorem rSrcX_up {f g f2 : Nat → Option Nat} {k x : Nat} (e : f2 = va_up f k (some x)) (a : rSrc f g) : rSrcX f2 g x := fun j w hj => by
  rw [e] at hj
  unfold va_up at hj
  split at hj
  · exact Or.inl (Option.some.inj hj).symm
  · exact Or.inr (a _ w hj)
theorem rX_none {g : Nat → Option Nat} {x : Nat} (h : rSrcX g (fun _ => none) x) : ∀ j w, g j = some w → w = x := fun j w e => by
  rcases h j w e with h | ⟨i, h⟩
  · exact h
  · cases h
end
section
/-! cells that no row of references holds -/
def rNg (e : va_E) : Prop := (∃ ci fs, e = .inr (ci, fs) ∧ ci ≠ 17 ∧ ci ≠ 20) ∨ ∃ a, e = .inl a
theorem rNg_o {e : va_E} {ci : Nat} {fs : List Value} (h : e = .inr (ci, fs)) (h1 : ci ≠ 17) (h2 : ci ≠ 20) : rNg e := Or.inl ⟨ci, fs, h, h1, h2⟩
theorem rNg_a {e : va_E} {a : ClassId × vp_A} (h : e = .inl a) : rNg e := Or.inr ⟨a, h⟩
theorem rNg_n {F : Nat → va_E} : ∀ b, b ∈ ([] : List Nat) → rNg (F b) := fun _ h => nomatch h
theorem rNg_c {F : Nat → va_E} {a : Nat} {W : List Nat} (h : rNg (F a)) (g : ∀ b, b ∈ W → rNg (F b)) : ∀ b, b ∈ a :: W → rNg (F b) := fun b hb => by
  rcases List.mem_cons.mp hb with rfl | hb
  · exact h
  · exact g b hb
theorem rEl_frG {P P1 W : List Nat} {F F1 : Nat → va_E} {f : Nat → Option Nat} (h : rEl P F f) (hs : rSub P P1) (hf : rFr W P F F1) (hw : ∀ b, b ∈ W → rNg (F b)) : rEl P1 F1 f := fun j w hj => by
  obtain ⟨h1, h2⟩ := h j w hj
  have hn : w ∉ W := fun z => by
    rcases hw w z with ⟨ci, fs, e, n1, n2⟩ | ⟨a, e⟩
    · rcases h2 with ⟨gs, e2⟩ | ⟨gs, e2⟩
      · rw [e] at e2; exact n1 (show ci = 17 from congrArg Prod.fst (Sum.inr.inj e2))
      · rw [e] at e2; exact n2 (show ci = 20 from congrArg Prod.fst (Sum.inr.inj e2))
    · rcases h2 with ⟨gs, e2⟩ | ⟨gs, e2⟩
      · rw [e] at e2; cases e2
      · rw [e] at e2; cases e2
  refine ⟨hs w h1, ?_⟩
  rw [hf w h1 hn]
  exact h2
end
section
/-! the state of the reference: every cell of the pool has a kind (γ 0), and fits it. γ 1: family; γ 2: size of a list; γ 3: the list that an array belongs to; γ 4, γ 5: where a row lies; γ 6: blocks of a valid program; γ 7: bound of slots; γ 8: place in the store; γ 9: the cells of the model; γ 10, γ 11, γ 12: rows of live and joined, and the length of result and letters; γ 13: capacity of a list; γ 14: list of a block, blocks of a program; γ 15: end of a block, rows of a program; γ 16: rows in use of a family; γ 17: largest size of a list so far; γ 18: loose rows of a family; γ 19: bound of goals; γ 20: block of a list; γ 21: program of a family; γ 22: 1 for ends -/
def rsum (f : Nat → Nat) : Nat → Nat
  | 0 => 0
  | n + 1 => rsum f n + f n
def rKd (γ : Nat → Nat → Nat) (a k : Nat) : Prop := γ 0 a = k
def rFm (γ : Nat → Nat → Nat) (a b : Nat) : Prop := γ 1 a = γ 1 b
def rOw (γ : Nat → Nat → Nat) (a b : Nat) : Prop := γ 4 a = b ∧ γ 22 a = 1
def rOl (γ : Nat → Nat → Nat) (a b : Nat) : Prop := γ 3 a = b ∧ γ 1 a = γ 1 b
def rF1 (γ : Nat → Nat → Nat) (a j : Nat) : Prop := γ 1 a = j
def rGl (γ : Nat → Nat → Nat) (x l n : Nat) : Prop := γ 14 x = l ∧ γ 15 x = n ∧ γ 20 l = x
def rGc (γ : Nat → Nat → Nat) (x lb lr : Nat) : Prop := γ 14 x = lb ∧ γ 15 x = lr ∧ γ 21 (γ 1 x) = x
def rCp (γ : Nat → Nat → Nat) (x : Nat) : Prop := γ 2 x ≤ γ 17 x ∧ 2 * γ 13 x ≤ 3 * γ 17 x + 20 ∧ (γ 13 x = 0 ∨ 10 ≤ γ 13 x)
def rCd (γ el : Nat → Nat → Nat) (x lb : Nat) (rn md : Int) : Prop := rn = γ 16 (γ 1 x) ∧ rsum (fun i => γ 2 (γ 14 (el lb i))) md.toNat + γ 18 (γ 1 x) ≤ γ 16 (γ 1 x)
def rkR (e : va_E) : Prop := ∃ op t a b s ra rb : Int32, e = .inr (20, [.int op, .int t, .int a, .int b, .int s, .int ra, .int rb]) ∧ gB op 0 32 ∧ gB t 0 1999 ∧ gB s 0 1999 ∧ gB ra 0 1 ∧ gB rb 0 1 ∧ (op.toInt ≤ 14 ∨ 20 ≤ op.toInt) ∧ (ra.toInt = 0 ∨ (0 ≤ a.toInt ∧ a.toInt ≤ 1999)) ∧ (rb.toInt = 0 ∨ (0 ≤ b.toInt ∧ b.toInt ≤ 1999))
def rk_11 (I : FieldType → ClassId) (e : va_E) : Prop := ∃ f : Nat → Int64, e = .inl (I .long, 32, .inr (.inl f)) ∧ lb_W f (32) (32) (2000)
def rk_35 (I : FieldType → ClassId) (e : va_E) : Prop := ∃ f : Nat → Int64, e = .inl (I .long, 32, .inr (.inl f)) ∧ lb_W f (32) (32) (2000)
def rk_36 (I : FieldType → ClassId) (e : va_E) : Prop := ∃ f : Nat → Int64, e = .inl (I .long, 32, .inr (.inl f)) ∧ lb_W f (32) (32) (2000)
def rk_14 (I : FieldType → ClassId) (e : va_E) : Prop := ∃ f : Nat → Int32, e = .inl (I .boolean, 2000, .inl f) ∧ gF f 0 1
def rk_15 (I : FieldType → ClassId) (e : va_E) : Prop := ∃ f : Nat → Int32, e = .inl (I .boolean, 2000, .inl f) ∧ gF f 0 1
def rk_16 (I : FieldType → ClassId) (e : va_E) : Prop := ∃ f : Nat → Int32, e = .inl (I .int, 40, .inl f)
def rk_17 (I : FieldType → ClassId) (e : va_E) : Prop := ∃ f : Nat → Int32, e = .inl (I .int, 2000, .inl f)
def rk_18 (I : FieldType → ClassId) (e : va_E) : Prop := ∃ f : Nat → Int32, e = .inl (I .int, 2000, .inl f) ∧ gF f 0 1999
def rk_19 (I : FieldType → ClassId) (e : va_E) : Prop := ∃ f : Nat → Int32, e = .inl (I .int, 2000, .inl f)
def rk_20 (I : FieldType → ClassId) (e : va_E) : Prop := ∃ f : Nat → Int32, e = .inl (I .int, 2000, .inl f) ∧ gF f (-1) 31
def rk_21 (I : FieldType → ClassId) (e : va_E) : Prop := ∃ f : Nat → Int32, e = .inl (I .int, 2000, .inl f) ∧ gF f (-1) 1999
def rk_22 (I : FieldType → ClassId) (e : va_E) : Prop := ∃ f : Nat → Int32, e = .inl (I .int, 2000, .inl f)
def rk_23 (I : FieldType → ClassId) (e : va_E) : Prop := ∃ f : Nat → Int32, e = .inl (I .int, 2000, .inl f)
def rk_97 (I : FieldType → ClassId) (e : va_E) : Prop := ∃ f : Nat → Int32, e = .inl (I .int, 512, .inl f)
def rk_99 (I : FieldType → ClassId) (e : va_E) : Prop := ∃ f : Nat → Int32, e = .inl (I .byte, 8192, .inl f) ∧ gF f (-128) 127
def rk_98 (I : FieldType → ClassId) (e : va_E) : Prop := ∃ (n : Nat) (f : Nat → Int32), e = .inl (I .int, n, .inl f) ∧ (n : Int) ≤ 2048
def rk_96 (I : FieldType → ClassId) (γ : Nat → Nat → Nat) (x : Nat) (e : va_E) : Prop := ∃ (n : Nat) (f : Nat → Int32), e = .inl (I .byte, n, .inl f) ∧ gF f (-128) 127 ∧ (n : Int) ≤ 16777216 ∧ n = γ 12 x
def rk_29 (I : FieldType → ClassId) (γ : Nat → Nat → Nat) (x : Nat) (e : va_E) : Prop := ∃ (n : Nat) (f : Nat → Int32), e = .inl (I .byte, n, .inl f) ∧ gF f (-128) 127 ∧ (n : Int) ≤ 16777216 ∧ n = γ 12 x
def rk_1 (γ : Nat → Nat → Nat) (x : Nat) (e : va_E) : Prop := ∃ op t a b s ra rb : Int32, e = .inr (20, [.int op, .int t, .int a, .int b, .int s, .int ra, .int rb]) ∧ gB op 0 32 ∧ gB t 0 1999 ∧ gB s 0 1999 ∧ gB ra 0 1 ∧ gB rb 0 1 ∧ (op.toInt ≤ 14 ∨ 20 ≤ op.toInt) ∧ (ra.toInt = 0 ∨ (0 ≤ a.toInt ∧ a.toInt ≤ 1999)) ∧ (rb.toInt = 0 ∨ (0 ≤ b.toInt ∧ b.toInt ≤ 1999)) ∧ ((op.toInt ≠ 21 ∧ op.toInt ≠ 23) ∨ s.toInt < γ 7 (γ 1 x)) ∧ (γ 22 x = 0 ∨ 30 ≤ op.toInt)
def rk_2 (γ : Nat → Nat → Nat) (x : Nat) (e : va_E) : Prop := ∃ (l n : Nat) (f s : Int32), e = .inr (17, [.ref l, .ref n, .int f, .int s]) ∧ rGl γ x l n ∧ rKd γ l 3 ∧ rFm γ l x ∧ rKd γ n 1 ∧ rFm γ n x ∧ rOw γ n x ∧ gB f 0 39 ∧ gB s 0 39 ∧ (γ 6 (γ 1 x) = 0 ∨ (f.toInt < γ 6 (γ 1 x) ∧ s.toInt < γ 6 (γ 1 x))) ∧ f.toInt < γ 19 (γ 1 x) ∧ s.toInt < γ 19 (γ 1 x)
def rk_202 (γ : Nat → Nat → Nat) (x : Nat) (e : va_E) : Prop := ∃ (l n : Nat) (f s : Int32), e = .inr (17, [.ref l, .ref n, .int f, .int s]) ∧ rGl γ x l n ∧ rKd γ l 3 ∧ rFm γ l x ∧ rKd γ n 101 ∧ rFm γ n x ∧ rOw γ n x ∧ gB f 0 39 ∧ gB s 0 39
def rk_102 (γ : Nat → Nat → Nat) (x : Nat) (e : va_E) : Prop := ∃ (l n : Nat) (f s : Int32), e = .inr (17, [.ref l, .ref n, .int f, .int s]) ∧ rGl γ x l n ∧ rKd γ l 103 ∧ rFm γ l x ∧ rKd γ n 101 ∧ rFm γ n x ∧ rOw γ n x ∧ gB f 0 39 ∧ gB s 0 39
/-- a list: its array, if it has one, and what lies there -/
def rLK (γ : Nat → Nat → Nat) (w : Nat) : Prop := γ 0 w = 1 ∨ γ 0 w = 2 ∨ γ 0 w = 101 ∨ γ 0 w = 102 ∨ γ 0 w = 202
def rLN (I : FieldType → ClassId) (γ el : Nat → Nat → Nat) (F : Nat → va_E) (ka x e : Nat) : Prop := rKd γ e ka ∧ rOl γ e x ∧ ∃ (n : Nat) (f : Nat → Option Nat), F e = .inl (I (.object "java/lang/Object"), n, .inr (.inr (.inr (.inr f)))) ∧ γ 2 x ≤ n ∧ (n : Int) ≤ 1000000 ∧ (n = γ 13 x ∧ 10 ≤ n) ∧ (∀ i, i < γ 2 x → f i = some (el x i)) ∧ ∀ j w, f j = some w → rLK γ w
def rLC (D : va_G) (I : FieldType → ClassId) (γ el : Nat → Nat → Nat) (F : Nat → va_E) (ka x e : Nat) : Prop := (e = D.2 1002 1 ∧ γ 2 x = 0 ∧ γ 13 x = 0) ∨ rLN I γ el F ka x e
def rkL (D : va_G) (I : FieldType → ClassId) (γ el : Nat → Nat → Nat) (F : Nat → va_E) (ka x : Nat) : Prop := ∃ (m z : Int32) (e : Nat), F x = .inr (4, [.int m, .ref e, .int z]) ∧ z.toInt = γ 2 x ∧ (γ 2 x : Int) ≤ 1000000 ∧ rLC D I γ el F ka x e ∧ rCp γ x
theorem rLC_n {D : va_G} {I : FieldType → ClassId} {γ el : Nat → Nat → Nat} {F : Nat → va_E} {ka x e : Nat} (h : rLC D I γ el F ka x e) (h0 : γ 2 x ≠ 0) : rLN I γ el F ka x e := h.resolve_left (fun z => h0 z.2.1)
def rk_3 (D : va_G) (I : FieldType → ClassId) (γ el : Nat → Nat → Nat) (F : Nat → va_E) (x : Nat) : Prop := rkL D I γ el F 6 x ∧ ∀ i, i < γ 2 x → γ 0 (el x i) = 1 ∧ γ 1 (el x i) = γ 1 x ∧ γ 4 (el x i) = x ∧ γ 5 (el x i) = i ∧ γ 22 (el x i) = 0
def rk_4 (D : va_G) (I : FieldType → ClassId) (γ el : Nat → Nat → Nat) (F : Nat → va_E) (x : Nat) : Prop := rkL D I γ el F 7 x ∧ ∀ i, i < γ 2 x → (γ 0 (el x i) = 2 ∨ γ 0 (el x i) = 202 ∨ γ 0 (el x i) = 102) ∧ γ 1 (el x i) = γ 1 x ∧ γ 8 (el x i) = i
def rk_5 (D : va_G) (I : FieldType → ClassId) (γ el : Nat → Nat → Nat) (F : Nat → va_E) (x : Nat) : Prop := rkL D I γ el F 8 x ∧ ∀ i, i < γ 2 x → (γ 0 (el x i) = 1 ∨ γ 0 (el x i) = 101) ∧ γ 1 (el x i) = γ 1 x ∧ γ 8 (el x i) = i ∧ γ 22 (el x i) = 0
def rk_9 (γ el : Nat → Nat → Nat) (x : Nat) (e : va_E) : Prop := ∃ (lb lr : Nat) (rn md : Int32), e = .inr (18, [.ref lb, .ref lr, .int rn, .int md]) ∧ rGc γ x lb lr ∧ rKd γ lb 4 ∧ rFm γ lb x ∧ rKd γ lr 5 ∧ rFm γ lr x ∧ 0 ≤ rn.toInt ∧ rn.toInt ≤ γ 2 lr ∧ 0 ≤ md.toInt ∧ md.toInt ≤ γ 2 lb ∧ (γ 2 lr : Int) ≤ 1000000 ∧ (γ 2 lb : Int) ≤ 1000000 ∧ (γ 6 (γ 1 x) = 0 ∨ (md.toInt = γ 6 (γ 1 x) ∧ md.toInt ≤ 40 ∧ γ 19 (γ 1 x) ≤ γ 6 (γ 1 x))) ∧ (∀ i : Nat, (i : Int) < md.toInt → γ 0 (el lb i) = 2 ∨ (γ 6 (γ 1 x) = 0 ∧ γ 0 (el lb i) = 202)) ∧ (∀ i : Nat, md.toInt ≤ i → i < γ 2 lb → γ 0 (el lb i) = 102) ∧ (∀ i : Nat, rn.toInt ≤ i → i < γ 2 lr → γ 0 (el lr i) = 101) ∧ rCd γ el x lb rn.toInt md.toInt
def rk_12 (I : FieldType → ClassId) (γ : Nat → Nat → Nat) (e : va_E) : Prop := ∃ g : Nat → Option Nat, e = .inl (I (.array .long), 40, .inr (.inr (.inr (.inr g)))) ∧ ∀ i, i < 40 → g i = some (γ 10 i) ∧ γ 0 (γ 10 i) = 11 ∧ γ 12 (γ 10 i) = i
def rk_13 (I : FieldType → ClassId) (γ : Nat → Nat → Nat) (e : va_E) : Prop := ∃ g : Nat → Option Nat, e = .inl (I (.array .long), 2000, .inr (.inr (.inr (.inr g)))) ∧ ∀ i, i < 2000 → g i = some (γ 11 i) ∧ γ 0 (γ 11 i) = 36 ∧ γ 12 (γ 11 i) = i
def rM1 (v9 v10 v11 v14 v25 v26 v27 v32 v34 : Int32) : Prop := gB v9 0 1 ∧ gB v10 0 1 ∧ gB v11 0 100 ∧ gB v14 0 2000 ∧ gB v25 0 512 ∧ gB v26 0 100000 ∧ gB v27 0 2048 ∧ gB v32 0 8192 ∧ gB v34 0 16777216
def rM2 (γ : Nat → Nat → Nat) (v9 v10 v34 : Int32) (r35 : Nat) : Prop := (v9.toInt = 0 ∨ 0 < γ 6 0 ∨ 0 < γ 23 0) ∧ (v10.toInt = 0 ∨ 0 < γ 6 1 ∨ 0 < γ 23 1) ∧ v34.toInt ≤ γ 12 r35
def rk_10 (γ : Nat → Nat → Nat) (e : va_E) : Prop := ∃ (r28 r35 : Nat) (v9 v10 v11 v12 v13 v14 v23 v24 v25 v26 v27 v30 v32 v33 v34 : Int32), e = .inr (22, [.ref (γ 9 0), .ref (γ 9 1), .ref (γ 9 2), .ref (γ 9 3), .ref (γ 9 4), .ref (γ 9 5), .ref (γ 9 6), .ref (γ 9 7), .ref (γ 9 8), .int v9, .int v10, .int v11, .int v12, .int v13, .int v14, .ref (γ 9 15), .ref (γ 9 16), .ref (γ 9 17), .ref (γ 9 18), .ref (γ 9 19), .ref (γ 9 20), .ref (γ 9 21), .ref (γ 9 22), .int v23, .int v24, .int v25, .int v26, .int v27, .ref r28, .ref (γ 9 29), .int v30, .ref (γ 9 31), .int v32, .int v33, .int v34, .ref r35]) ∧ rM1 v9 v10 v11 v14 v25 v26 v27 v32 v34 ∧ rKd γ r28 98 ∧ rKd γ r35 96 ∧ rKd γ (γ 9 0) 12 ∧ rKd γ (γ 9 1) 13 ∧ rKd γ (γ 9 2) 35 ∧ rKd γ (γ 9 3) 14 ∧ rKd γ (γ 9 4) 16 ∧ rKd γ (γ 9 5) 17 ∧ rKd γ (γ 9 6) 9 ∧ rKd γ (γ 9 7) 9 ∧ rKd γ (γ 9 8) 9 ∧ rKd γ (γ 9 15) 18 ∧ rKd γ (γ 9 16) 19 ∧ rKd γ (γ 9 17) 20 ∧ rKd γ (γ 9 18) 15 ∧ rKd γ (γ 9 19) 21 ∧ rKd γ (γ 9 20) 22 ∧ rKd γ (γ 9 21) 23 ∧ rKd γ (γ 9 22) 97 ∧ rKd γ (γ 9 29) 28 ∧ rKd γ (γ 9 31) 99 ∧ rF1 γ (γ 9 6) 0 ∧ rF1 γ (γ 9 7) 1 ∧ rF1 γ (γ 9 8) 2 ∧ rM2 γ v9 v10 v34 r35
theorem rk10_t {γ γ1 : Nat → Nat → Nat} {e : va_E} (h9 : γ1 9 = γ 9) (hk : ∀ b, 4 ≤ γ 0 b → γ 0 b < 100 → γ1 0 b = γ 0 b) (h1 : ∀ b, γ 0 b ≠ 0 → γ1 1 b = γ 1 b) (hM : ∀ v9 v10 v34 r35, rM2 γ v9 v10 v34 r35 → rM2 γ1 v9 v10 v34 r35) (z : rk_10 γ e) : rk_10 γ1 e := by
  obtain ⟨r28, r35, v9, v10, v11, v12, v13, v14, v23, v24, v25, v26, v27, v30, v32, v33, v34, c0, c1, t28, t35, u0, u1, u2, u3, u4, u5, u6, u7, u8, u15, u16, u17, u18, u19, u20, u21, u22, u29, u31, m6, m7, m8, mm⟩ := z
  unfold rKd at t28 t35 u0 u1 u2 u3 u4 u5 u6 u7 u8 u15 u16 u17 u18 u19 u20 u21 u22 u29 u31
  unfold rk_10 rKd rF1
  rw [h9]
  exact ⟨r28, r35, v9, v10, v11, v12, v13, v14, v23, v24, v25, v26, v27, v30, v32, v33, v34, c0, c1, (hk _ (by omega) (by omega)).trans t28, (hk _ (by omega) (by omega)).trans t35, (hk _ (by omega) (by omega)).trans u0, (hk _ (by omega) (by omega)).trans u1, (hk _ (by omega) (by omega)).trans u2, (hk _ (by omega) (by omega)).trans u3, (hk _ (by omega) (by omega)).trans u4, (hk _ (by omega) (by omega)).trans u5, (hk _ (by omega) (by omega)).trans u6, (hk _ (by omega) (by omega)).trans u7, (hk _ (by omega) (by omega)).trans u8, (hk _ (by omega) (by omega)).trans u15, (hk _ (by omega) (by omega)).trans u16, (hk _ (by omega) (by omega)).trans u17, (hk _ (by omega) (by omega)).trans u18, (hk _ (by omega) (by omega)).trans u19, (hk _ (by omega) (by omega)).trans u20, (hk _ (by omega) (by omega)).trans u21, (hk _ (by omega) (by omega)).trans u22, (hk _ (by omega) (by omega)).trans u29, (hk _ (by omega) (by omega)).trans u31, (h1 _ (by omega)).trans m6, (h1 _ (by omega)).trans m7, (h1 _ (by omega)).trans m8, hM _ _ _ _ mm⟩
def rk_28 (γ : Nat → Nat → Nat) (e : va_E) : Prop := ∃ (r : Nat) (mb c : Int32), e = .inr (1, [.ref r, .int 0, .int mb, .int c]) ∧ gB mb 0 1 ∧ 0 ≤ c.toInt ∧ rKd γ r 29 ∧ c.toInt ≤ γ 12 r
def rFit (D : va_G) (I : FieldType → ClassId) (γ el : Nat → Nat → Nat) (F : Nat → va_E) (x : Nat) : Nat → Prop
  | 1 => rk_1 γ x (F x)
  | 2 => rk_2 γ x (F x)
  | 102 => rk_102 γ x (F x)
  | 202 => rk_202 γ x (F x)
  | 101 => rkR (F x)
  | 3 => rk_3 D I γ el F x
  | 4 => rk_4 D I γ el F x
  | 5 => rk_5 D I γ el F x
  | 103 => rkL D I γ el F 6 x
  | 9 => rk_9 γ el x (F x)
  | 10 => rk_10 γ (F x)
  | 28 => rk_28 γ (F x)
  | 12 => rk_12 I γ (F x)
  | 13 => rk_13 I γ (F x)
  | 11 => rk_11 I (F x)
  | 35 => rk_35 I (F x)
  | 36 => rk_36 I (F x)
  | 14 => rk_14 I (F x)
  | 15 => rk_15 I (F x)
  | 16 => rk_16 I (F x)
  | 17 => rk_17 I (F x)
  | 18 => rk_18 I (F x)
  | 19 => rk_19 I (F x)
  | 20 => rk_20 I (F x)
  | 21 => rk_21 I (F x)
  | 22 => rk_22 I (F x)
  | 23 => rk_23 I (F x)
  | 97 => rk_97 I (F x)
  | 99 => rk_99 I (F x)
  | 98 => rk_98 I (F x)
  | 96 => rk_96 I γ x (F x)
  | 29 => rk_29 I γ x (F x)
  | _ => True
def RS (D : va_G) (I : FieldType → ClassId) (P : List Nat) (F : Nat → va_E) (γ el : Nat → Nat → Nat) : Prop := (∀ a, γ 0 a ≠ 0 → a ∈ P) ∧ ∀ a, rFit D I γ el F a (γ 0 a)
/-- the cells of the programs are as before -/
def rStr (γ : Nat → Nat → Nat) (W : List Nat) (F F1 : Nat → va_E) : Prop := ∀ a, γ 0 a ≠ 0 → (γ 0 a ≤ 9 ∨ 96 ≤ γ 0 a) → γ 0 a ∉ W → F1 a = F a
section RS
variable {D : va_G} {I : FieldType → ClassId} {P : List Nat} {F F1 F2 : Nat → va_E} {γ el : Nat → Nat → Nat} {a k : Nat}
theorem RS_m (h : RS D I P F γ el) (hk : rKd γ a k) (h0 : k ≠ 0) : a ∈ P := h.1 a (by unfold rKd at hk; omega)
theorem RS_o (h : RS D I P F γ el) (hk : rKd γ a k) : rFit D I γ el F a k := by
  have e : γ 0 a = k := hk
  exact e ▸ h.2 a
theorem rkL_c {ka x : Nat} (h : F1 x = F x) (g : ∀ e, rKd γ e ka → F1 e = F e) (z : rkL D I γ el F ka x) : rkL D I γ el F1 ka x := by
  obtain ⟨m, s, e, h1, h2, h3, h4, hc⟩ := z
  refine ⟨m, s, e, h.trans h1, h2, h3, ?_, hc⟩
  rcases h4 with h4 | ⟨h4, h5, n, f, h6, h7⟩
  · exact Or.inl h4
  · exact Or.inr ⟨h4, h5, n, f, (g e h4).trans h6, h7⟩
theorem rFit_c {x : Nat} (k : Nat) (h : F1 x = F x) (g : ∀ e, (γ 0 e = 6 ∨ γ 0 e = 7 ∨ γ 0 e = 8) → F1 e = F e) (z : rFit D I γ el F x k) : rFit D I γ el F1 x k := by
  unfold rFit at z ⊢
  split at z <;> first
    | exact trivial
    | exact rkL_c h (fun e he => g e (Or.inl he)) z
    | exact ⟨rkL_c h (fun e he => g e (Or.inl he)) z.1, z.2⟩
    | exact ⟨rkL_c h (fun e he => g e (Or.inr (Or.inl he))) z.1, z.2⟩
    | exact ⟨rkL_c h (fun e he => g e (Or.inr (Or.inr he))) z.1, z.2⟩
    | (rw [h]; exact z)
/-- one cell that is no array of a list has changed -/
theorem RS_set (h : RS D I P F γ el) (n : ∀ b, b ≠ a → F1 b = F b) (hk0 : rKd γ a k) (h6 : k ≠ 6 ∧ k ≠ 7 ∧ k ≠ 8) (hf : rFit D I γ el F1 a k) : RS D I P F1 γ el := by
  have hk : γ 0 a = k := hk0
  refine ⟨h.1, fun b => ?_⟩
  by_cases e : b = a
  · subst e
    rw [hk]
    exact hf
  · exact rFit_c _ (n b e) (fun c hc => n c (fun e2 => by subst e2; omega)) (h.2 b)
theorem RS_fr (h : RS D I P F γ el) (n : rFr [a] P F F1) (hk0 : rKd γ a k) (h6 : k ≠ 6 ∧ k ≠ 7 ∧ k ≠ 8) (hf : rFit D I γ el F1 a k) : RS D I P F1 γ el := by
  have hk : γ 0 a = k := hk0
  refine ⟨h.1, fun b => ?_⟩
  have hn : ∀ c, γ 0 c ≠ 0 → c ≠ a → F1 c = F c := fun c hc e => n c (h.1 c hc) (nm_c e nm_n)
  by_cases e : b = a
  · subst e
    rw [hk]
    exact hf
  · by_cases h0 : γ 0 b = 0
    · rw [h0]
      exact trivial
    · exact rFit_c _ (hn b h0 e) (fun c hc => hn c (by omega) (fun e2 => by subst e2; omega)) (h.2 b)
theorem rStr_rf {W : List Nat} : rStr γ W F F := fun _ _ _ _ => rfl
theorem rStr_tr {W : List Nat} (h : rStr γ W F F1) (g : rStr γ W F1 F2) : rStr γ W F F2 := fun b h0 hb hw => (g b h0 hb hw).trans (h b h0 hb hw)
theorem rStr_w {W W2 : List Nat} (h : rStr γ W F F1) (hw : ∀ k, k ∈ W → k ∈ W2) : rStr γ W2 F F1 := fun b h0 hb hn => h b h0 hb (fun z => hn (hw _ z))
theorem rStr_put {W : List Nat} (h : rStr γ W F F1) (n : ∀ b, b ≠ a → F2 b = F1 b) (hk : rKd γ a k) (hr : 9 < k ∧ k < 96) : rStr γ W F F2 := fun b h0 hb hw => (n b (fun e => by unfold rKd at hk; subst e; omega)).trans (h b h0 hb hw)
theorem rStr_pu2 {W : List Nat} (h : rStr γ W F F1) (n : ∀ b, b ≠ a → F2 b = F1 b) (hk : rKd γ a k) (hr : k ∈ W) : rStr γ W F F2 := fun b h0 hb hw => (n b (fun e => by have h1 : γ 0 a = k := hk; subst e; exact hw (h1 ▸ hr))).trans (h b h0 hb hw)
theorem rStr_fr {W : List Nat} (hT : RS D I P F1 γ el) (h : rStr γ W F F1) (n : rFr [a] P F1 F2) (hk : rKd γ a k) (hr : 9 < k ∧ k < 96) : rStr γ W F F2 := fun b h0 hb hw => (n b (hT.1 b h0) (nm_c (fun e => by unfold rKd at hk; subst e; omega) nm_n)).trans (h b h0 hb hw)
theorem rT2 {W : List Nat} (h : rKd γ a k) (hk : k ∉ W) : γ 0 a ∉ W := fun z => by
  have h1 : γ 0 a = k := h
  rw [h1] at z
  exact hk z
theorem rn_ty {b c j : Nat} (hb : rKd γ b j) (ha : rKd γ c k) (hne : ¬ j = k) : b ≠ c := fun e => by unfold rKd at hb ha; subst e; omega
theorem rT0 (h : rKd γ a k) (hk : k ≠ 0) : γ 0 a ≠ 0 := by unfold rKd at h; omega
theorem rT1 (h : rKd γ a k) (hk : k ≤ 9 ∨ 96 ≤ k) : γ 0 a ≤ 9 ∨ 96 ≤ γ 0 a := by unfold rKd at h; omega
end RS
end
section
/-! how many bits are set -/
def rpopN (x : BitVec 64) : Nat → Nat
  | 0 => 0
  | n + 1 => rpopN x n + (if x.getLsbD n then 1 else 0)
def rpop (x : Int64) : Nat := rpopN x.toBitVec 64
theorem rpopN_le (x : BitVec 64) : ∀ n, rpopN x n ≤ n
  | 0 => Nat.le_refl _
  | n + 1 => by
    have h := rpopN_le x n
    show rpopN x n + (if x.getLsbD n then 1 else 0) ≤ n + 1
    split <;> omega
theorem rpop_le (x : Int64) : rpop x ≤ 64 := rpopN_le _ _
theorem rpopN_mono {x y : BitVec 64} (h : ∀ i, x.getLsbD i = true → y.getLsbD i = true) : ∀ n, rpopN x n ≤ rpopN y n
  | 0 => Nat.le_refl _
  | n + 1 => by
    have h1 := rpopN_mono h n
    show rpopN x n + (if x.getLsbD n then 1 else 0) ≤ rpopN y n + (if y.getLsbD n then 1 else 0)
    by_cases hx : x.getLsbD n = true
    · rw [if_pos hx, if_pos (h n hx)]; omega
    · rw [if_neg hx]; omega
theorem rpopN_lt {x y : BitVec 64} (h : ∀ i, x.getLsbD i = true → y.getLsbD i = true) {j : Nat} (hx : x.getLsbD j = false) (hy : y.getLsbD j = true) : ∀ n, j < n → rpopN x n + 1 ≤ rpopN y n
  | 0, hn => by omega
  | n + 1, hn => by
    show rpopN x n + (if x.getLsbD n then 1 else 0) + 1 ≤ rpopN y n + (if y.getLsbD n then 1 else 0)
    by_cases e : j = n
    · subst e
      have h1 := rpopN_mono h j
      rw [hx, hy]
      simp
      omega
    · have h1 := rpopN_lt h hx hy n (by omega)
      by_cases hx : x.getLsbD n = true
      · rw [if_pos hx, if_pos (h n hx)]; omega
      · rw [if_neg hx]; omega
theorem rpop_or {x y z : Int64} (hz : z = x ||| y) : rpop x ≤ rpop z := by
  subst hz
  refine rpopN_mono (fun i hi => ?_) 64
  rw [Int64.toBitVec_or, BitVec.getLsbD_or, hi]
  rfl
theorem rshl_bit {i : Int32} {y : Int64} (hy : y = 1 <<< (i.toInt64 &&& 63)) (h0 : 0 ≤ i.toInt) (h1 : i.toInt < 64) : y.toBitVec.getLsbD i.toInt.toNat = true := by
  rw [hy, lb_Qcnt i h0]
  have h2 : ∀ j : Fin 64, ((1 : Int64) <<< (Int64.ofNat (j.val % 64))).toBitVec.getLsbD j.val = true := by decide +kernel
  exact h2 ⟨i.toInt.toNat, by omega⟩
theorem rpop_new {x y z : Int64} {i : Int32} (hz : z = x ||| y) (hy : y = 1 <<< (i.toInt64 &&& 63)) (h0 : 0 ≤ i.toInt) (h1 : i.toInt < 64) (hx : x.toBitVec.getLsbD i.toInt.toNat = false) : rpop x + 1 ≤ rpop z := by
  subst hz
  refine rpopN_lt (fun i hi => ?_) hx ?_ 64 (by omega)
  · rw [Int64.toBitVec_or, BitVec.getLsbD_or, hi]
    rfl
  · rw [Int64.toBitVec_or, BitVec.getLsbD_or, rshl_bit hy h0 h1]
    simp
theorem rbit_0 {x u v : Int64} {i : Int32} (hu : u = (x.toUInt64 >>> (i.toInt64.toUInt64 &&& Int64.toUInt64 63)).toInt64) (hv : v = u &&& 1) (h : v = 0) (h0 : 0 ≤ i.toInt) (h1 : i.toInt < 64) : x.toBitVec.getLsbD i.toInt.toNat = false := by
  have e1 : (i.toInt64.toUInt64 &&& Int64.toUInt64 63) = (i.toInt64 &&& 63).toUInt64 := rfl
  rw [e1, lb_Qcnt i h0] at hu
  have h2 : (v.toBitVec).getLsbD 0 = false := by rw [h]; rfl
  rw [hv, Int64.toBitVec_and, BitVec.getLsbD_and] at h2
  have h3 : (1 : Int64).toBitVec.getLsbD 0 = true := by decide
  rw [h3, Bool.and_true, hu] at h2
  have h4 : ∀ j : Nat, j < 64 → ((x.toUInt64 >>> (Int64.ofNat (j % 64)).toUInt64).toInt64).toBitVec.getLsbD 0 = x.toBitVec.getLsbD j := fun j hj => by
    show (x.toBitVec >>> ((Int64.ofNat (j % 64)).toBitVec % 64#64)).getLsbD 0 = _
    have h5 : ((Int64.ofNat (j % 64)).toBitVec % 64#64).toNat = j := by
      show ((j % 64) % 2 ^ 64) % 64 = j
      omega
    show (x.toBitVec >>> ((Int64.ofNat (j % 64)).toBitVec % 64#64).toNat).getLsbD 0 = _
    rw [BitVec.getLsbD_ushiftRight, h5, Nat.add_zero]
  rw [h4 _ (by omega)] at h2
  exact h2
end
section
/-! sets of registers by their bits; what a row does to them, backwards: it is monotone -/
def rbt (f : Nat → Int64) (k : Nat) : Bool := (f (k / 64)).toBitVec.getLsbD (k % 64)
def cL (e : va_E) : Nat → Int64 := match e with
  | .inl (_, _, .inr (.inl f)) => f
  | _ => fun _ => 0
theorem cL_of {F : Nat → va_E} {a n : Nat} {c : ClassId} {f : Nat → Int64} (h : F a = .inl (c, n, .inr (.inl f))) : cL (F a) = f := by rw [h]; rfl
def fI (e : va_E) (k : Nat) : Int32 := match e with
  | .inr (_, fs) => match fs[k]? with
    | some (.int x) => x
    | _ => 0
  | _ => 0
def bkV (sl : Bool) (op t a b s ra rb : Int) (S : Nat → Bool) (k : Nat) : Bool :=
  if sl then (S k && !(decide (op = 23) && decide ((k : Int) = s))) || (decide (op = 21) && decide ((k : Int) = s))
  else ((S k && !(decide (op ≤ 21) && decide ((k : Int) = t))) || (decide (op ≠ 20 ∧ op ≠ 21 ∧ op ≠ 30 ∧ ra = 1) && decide ((k : Int) = a))) || (decide (0 < op ∧ op < 20 ∧ rb = 1) && decide ((k : Int) = b))
theorem bkV_mono {sl : Bool} {op t a b s ra rb : Int} {S S' : Nat → Bool} (h : ∀ k, S k = true → S' k = true) (k : Nat) : bkV sl op t a b s ra rb S k = true → bkV sl op t a b s ra rb S' k = true := by
  unfold bkV
  split
  · simp only [Bool.or_eq_true, Bool.and_eq_true]
    exact fun z => z.imp (fun z => ⟨h k z.1, z.2⟩) id
  · simp only [Bool.or_eq_true, Bool.and_eq_true]
    exact fun z => z.imp (fun z => z.imp (fun z => ⟨h k z.1, z.2⟩) id) id
def bkS (e : va_E) (sl : Bool) (S : Nat → Bool) : Nat → Bool := bkV sl (fI e 0).toInt (fI e 1).toInt (fI e 2).toInt (fI e 3).toInt (fI e 4).toInt (fI e 5).toInt (fI e 6).toInt S
theorem bkS_mono {e : va_E} {sl : Bool} {S S' : Nat → Bool} (h : ∀ k, S k = true → S' k = true) (k : Nat) : bkS e sl S k = true → bkS e sl S' k = true := bkV_mono h k
/-- the last d of n rows, backwards -/
def rfo (c : Nat → va_E) (sl : Bool) (n : Nat) (S : Nat → Bool) : Nat → Nat → Bool
  | 0 => S
  | d + 1 => bkS (c (n - 1 - d)) sl (rfo c sl n S d)
theorem rfo_mono {c : Nat → va_E} {sl : Bool} {n : Nat} {S S' : Nat → Bool} (h : ∀ k, S k = true → S' k = true) : ∀ d k, rfo c sl n S d k = true → rfo c sl n S' d k = true
  | 0, k => h k
  | d + 1, k => bkS_mono (rfo_mono h d) k
theorem rbt_updL {f f2 : Nat → Int64} {z : Nat} {w : Int64} (hf : f2 = vp_updL f z w) (k : Nat) : rbt f2 k = if k / 64 = z then w.toBitVec.getLsbD (k % 64) else rbt f k := by
  subst hf
  unfold rbt vp_updL
  split <;> rfl
theorem r1_bit : ∀ j : Fin 64, ∀ n : Fin 64, ((1 : Int64) <<< (Int64.ofNat (j.val % 64))).toBitVec.getLsbD n.val = decide (n.val = j.val) := by decide +kernel
theorem rbt_set {f f2 : Nat → Int64} {i z : Int32} {u v w : Int64} (hz : z.toInt = i.toInt / 64) (hu : u = f z.toNatClampNeg) (hv : v = 1 <<< (i.toInt64 &&& 63)) (hw : w = u ||| v) (hf : f2 = vp_updL f z.toNatClampNeg w) (h0 : 0 ≤ i.toInt) : ∀ k : Nat, rbt f2 k = (rbt f k || decide ((k : Int) = i.toInt)) := fun k => by
  have hzn : (z.toNatClampNeg : Int) = z.toInt := g_nn (by omega)
  rw [rbt_updL hf]
  split
  · next e =>
    rw [hw, Int64.toBitVec_or, BitVec.getLsbD_or, hu, ← e]
    show (rbt f k || _) = _
    congr 1
    rw [hv, lb_Qcnt i h0]
    have h2 : ((1 : Int64) <<< (Int64.ofNat (i.toInt.toNat % 64 % 64))).toBitVec.getLsbD (k % 64) = decide (k % 64 = i.toInt.toNat % 64) := r1_bit ⟨i.toInt.toNat % 64, by omega⟩ ⟨k % 64, by omega⟩
    rw [Nat.mod_mod] at h2
    rw [h2]
    apply decide_eq_decide.mpr
    omega
  · next e =>
    have hne : ¬ (k : Int) = i.toInt := fun c => e (by omega)
    rw [decide_eq_false hne, Bool.or_false]
end
section
/-! the state behind a change of ghosts -/
def rKc (k k1 : Nat) : Prop := k1 = k ∨ (k = 101 ∧ k1 = 1) ∨ (k = 102 ∧ k1 = 202) ∨ (k = 202 ∧ k1 = 2) ∨ (k = 103 ∧ k1 = 3)
theorem rsum_c {f g : Nat → Nat} : ∀ n, (∀ i, i < n → f i = g i) → rsum f n = rsum g n
  | 0, _ => rfl
  | n + 1, h => by
    show rsum f n + f n = rsum g n + g n
    rw [rsum_c n (fun i hi => h i (by omega)), h n (by omega)]
theorem rsum_le {f g : Nat → Nat} : ∀ n, (∀ i, i < n → f i ≤ g i) → rsum f n ≤ rsum g n
  | 0, _ => Nat.le_refl _
  | n + 1, h => by
    show rsum f n + f n ≤ rsum g n + g n
    have h1 := rsum_le n (fun i hi => h i (by omega))
    have h2 := h n (by omega)
    omega
theorem rsum_m {f : Nat → Nat} {n : Nat} : ∀ m, n ≤ m → rsum f n ≤ rsum f m
  | 0, h => by
    have e : n = 0 := by omega
    subst e
    exact Nat.le_refl _
  | m + 1, h => by
    by_cases e : n = m + 1
    · subst e; exact Nat.le_refl _
    · have h1 := rsum_m (f := f) m (show n ≤ m by omega)
      show rsum f n ≤ rsum f m + f m
      omega
/-- one term changes -/
theorem rsum_u {f g : Nat → Nat} {k : Nat} : ∀ n, k < n → (∀ i, i < n → i ≠ k → g i = f i) → rsum g n + f k = rsum f n + g k
  | 0, hk, _ => by omega
  | n + 1, hk, h => by
    show rsum g n + g n + f k = rsum f n + f n + g k
    by_cases e : k = n
    · subst e
      rw [rsum_c k (fun i hi => h i (by omega) (by omega))]
      omega
    · have h1 := rsum_u n (by omega) (fun i hi hn => h i (by omega) hn)
      have h2 := h n (by omega) (by omega)
      omega
theorem rsum_t {f : Nat → Nat} {k n : Nat} (h : k < n) : f k ≤ rsum f n := by
  have h1 : rsum f (k + 1) ≤ rsum f n := rsum_m _ h
  have h2 : rsum f (k + 1) = rsum f k + f k := rfl
  omega
theorem rsum_b {f : Nat → Nat} {B : Nat} : ∀ n, (∀ i, i < n → f i ≤ B) → rsum f n ≤ n * B
  | 0, _ => by rw [Nat.zero_mul]; exact Nat.le_refl _
  | n + 1, h => by
    have h1 := rsum_b n (fun i hi => h i (by omega))
    have h2 := h n (by omega)
    show rsum f n + f n ≤ (n + 1) * B
    rw [Nat.succ_mul]
    omega
section RGEN
variable {D : va_G} {I : FieldType → ClassId} {P P1 : List Nat} {F F1 : Nat → va_E} {γ el γ1 el1 : Nat → Nat → Nat} {T : Nat → Prop} {f : Nat}
theorem rkL_t {ka x : Nat} (h : F1 x = F x) (h2 : γ1 2 x = γ 2 x ∧ γ1 13 x = γ 13 x ∧ γ1 17 x = γ 17 x ∧ el1 x = el x) (ge : ∀ e, γ 0 e = ka → γ 3 e = x → F1 e = F e ∧ γ1 0 e = γ 0 e ∧ γ1 3 e = γ 3 e ∧ γ1 1 e = γ 1 e) (hx : γ1 1 x = γ 1 x) (hlk : ∀ w, rLK γ w → rLK γ1 w) (z : rkL D I γ el F ka x) : rkL D I γ1 el1 F1 ka x := by
  obtain ⟨a1, a2, a3, a4⟩ := h2
  obtain ⟨m, s, e, h1, h2, h3, h4, hc⟩ := z
  refine ⟨m, s, e, h.trans h1, by rw [a1]; exact h2, by rw [a1]; exact h3, ?_, by unfold rCp at hc ⊢; rw [a1, a2, a3]; exact hc⟩
  rcases h4 with h4 | ⟨h4, h5, n, g, h6, h7, h8, h9, h10, h11⟩
  · exact Or.inl (by rw [a1, a2]; exact h4)
  · obtain ⟨g1, g2, g3, g4⟩ := ge e h4 h5.1
    refine Or.inr ⟨g2.trans h4, ⟨g3.trans h5.1, by rw [g4, hx]; exact h5.2⟩, n, g, g1.trans h6, by rw [a1]; exact h7, h8, by rw [a2]; exact h9, by rw [a1, a4]; exact h10, fun j w hj => hlk w (h11 j w hj)⟩
theorem RS_gen (f : Nat) (hT : RS D I P F γ el) (hP : ∀ a, γ1 0 a ≠ 0 → a ∈ P1)
    (hTf : ∀ a, γ1 0 a ≠ 0 → T a → rFit D I γ1 el1 F1 a (γ1 0 a))
    (hU : ∀ a, γ1 0 a ≠ 0 → ¬ T a → γ 0 a ≠ 0 ∧ γ1 0 a = γ 0 a ∧ F1 a = F a)
    (hTm : ∀ b, γ 0 b ≠ 0 → T b → γ 1 b = f)
    (hk : ∀ b, 4 ≤ γ 0 b → γ 0 b < 100 → γ1 0 b = γ 0 b)
    (hf : ∀ b, γ 0 b ≠ 0 → γ 1 b ≠ f → γ1 0 b = γ 0 b)
    (hlk : ∀ w, rLK γ w → rLK γ1 w)
    (hs : ∀ j b, γ 0 b ≠ 0 → j = 1 ∨ j = 3 ∨ j = 8 ∨ j = 14 ∨ j = 15 ∨ j = 20 ∨ j = 22 → γ1 j b = γ j b)
    (hg : ∀ j, j = 9 ∨ j = 10 ∨ j = 11 ∨ j = 12 ∨ j = 21 → γ1 j = γ j)
    (hn : ∀ j g, g ≠ f → j = 6 ∨ j = 7 ∨ j = 16 ∨ j = 18 ∨ j = 19 → γ1 j g = γ j g)
    (h7 : γ 7 f ≤ γ1 7 f ∨ ∀ a, γ 0 a = 1 → γ 1 a = f → T a)
    (h19 : (γ 19 f ≤ γ1 19 f ∧ (γ1 6 f = γ 6 f ∨ γ1 6 f = 0 ∨ γ 19 f ≤ γ1 6 f)) ∨ ∀ a, γ 0 a = 2 → γ 1 a = f → T a)
    (hM : ∀ g, g < 2 → 0 < γ 6 g ∨ 0 < γ 23 g → 0 < γ1 6 g ∨ 0 < γ1 23 g)
    (hl : ∀ b, γ 0 b ≠ 0 → ¬ T b → γ1 2 b = γ 2 b ∧ γ1 13 b = γ 13 b ∧ γ1 17 b = γ 17 b ∧ el1 b = el b)
    (ha : ∀ e, γ 0 e = 6 ∨ γ 0 e = 7 ∨ γ 0 e = 8 → ¬ T (γ 3 e) → F1 e = F e)
    (h45 : ∀ b, γ 0 b ≠ 0 → ¬ T (γ 4 b) → (γ 0 b = 1 ∨ γ 22 b = 1) → γ1 4 b = γ 4 b ∧ γ1 5 b = γ 5 b)
    (hc : ∀ a, γ 0 a = 9 → γ 1 a = f → T a)
    (hall : (∀ a, γ 0 a ≠ 0 → γ 1 a = f → γ 0 a < 10 ∨ 100 ≤ γ 0 a → T a) ∨ ((∀ b, γ 0 b ≠ 0 → rKc (γ 0 b) (γ1 0 b)) ∧ (∀ b, γ 0 b = 103 → γ1 0 b ≠ 103 → T (γ 20 b)) ∧ (∀ b, γ 0 b = 101 → γ1 0 b ≠ 101 → γ 22 b = 1 → T (γ 4 b)))) :
    RS D I P1 F1 γ1 el1 := by
  refine ⟨hP, fun a => ?_⟩
  by_cases h0 : γ1 0 a = 0
  · rw [h0]; exact trivial
  by_cases hTa : T a
  · exact hTf a h0 hTa
  obtain ⟨h1, h2, h3⟩ := hU a h0 hTa
  rw [h2]
  have z := hT.2 a
  have hlst : ∀ ka, ka = 6 ∨ ka = 7 ∨ ka = 8 → rkL D I γ el F ka a → rkL D I γ1 el1 F1 ka a := fun ka hka z => by
    refine rkL_t h3 (hl a h1 hTa) (fun e he he3 => ?_) (hs 1 a h1 (by omega)) hlk z
    have e0 : γ 0 e ≠ 0 := by omega
    exact ⟨ha e (by omega) (by rw [he3]; exact hTa), hk e (by omega) (by omega), hs 3 e e0 (by omega), hs 1 e e0 (by omega)⟩
  -- kinds of what belongs to an untouched cell of the same family
  have hsm : ∀ b, γ 0 b ≠ 0 → γ 1 b = γ 1 a → (γ 0 a < 10 ∨ 100 ≤ γ 0 a) → γ1 0 b = γ 0 b ∨ (rKc (γ 0 b) (γ1 0 b) ∧ (γ 0 b = 103 → γ1 0 b ≠ 103 → T (γ 20 b)) ∧ (γ 0 b = 101 → γ1 0 b ≠ 101 → γ 22 b = 1 → T (γ 4 b))) := fun b hb hbf hka => by
    by_cases hff : γ 1 a = f
    · rcases hall with hall | ⟨g1, g2, g3⟩
      · exact absurd (hall a h1 hff hka) hTa
      · exact Or.inr ⟨g1 b hb, g2 b, g3 b⟩
    · exact Or.inl (hf b hb (by omega))
  have hblk : ∀ l n, (γ 0 a = 2 ∨ γ 0 a = 102 ∨ γ 0 a = 202) → rGl γ a l n → (γ 0 l = 3 ∨ γ 0 l = 103) → rFm γ l a → (γ 0 n = 1 ∨ γ 0 n = 101) → rFm γ n a → rOw γ n a → rGl γ1 a l n ∧ γ1 0 l = γ 0 l ∧ rFm γ1 l a ∧ γ1 0 n = γ 0 n ∧ rFm γ1 n a ∧ rOw γ1 n a := fun l n hka g1 g2 g3 g4 g5 g6 => by
    have l0 : γ 0 l ≠ 0 := by omega
    have n0 : γ 0 n ≠ 0 := by omega
    have kl : γ1 0 l = γ 0 l := by
      rcases hsm l l0 g3 (by omega) with h | ⟨h, h', -⟩
      · exact h
      · by_cases e : γ1 0 l = γ 0 l
        · exact e
        · rcases g2 with g2 | g2
          · unfold rKc at h; omega
          · have := h' g2 (by omega)
            rw [g1.2.2] at this
            exact absurd this hTa
    have kn : γ1 0 n = γ 0 n := by
      rcases hsm n n0 g5 (by omega) with h | ⟨h, -, h'⟩
      · exact h
      · by_cases e : γ1 0 n = γ 0 n
        · exact e
        · rcases g4 with g4 | g4
          · unfold rKc at h; omega
          · have := h' g4 (by omega) g6.2
            rw [g6.1] at this
            exact absurd this hTa
    have h4 := h45 n n0 (by rw [g6.1]; exact hTa) (Or.inr g6.2)
    refine ⟨⟨(hs 14 a h1 (by omega)).trans g1.1, (hs 15 a h1 (by omega)).trans g1.2.1, (hs 20 l l0 (by omega)).trans g1.2.2⟩, kl, ?_, kn, ?_, ⟨h4.1.trans g6.1, (hs 22 n n0 (by omega)).trans g6.2⟩⟩
    · unfold rFm at g3 ⊢; rw [hs 1 l l0 (by omega), hs 1 a h1 (by omega)]; exact g3
    · unfold rFm at g5 ⊢; rw [hs 1 n n0 (by omega), hs 1 a h1 (by omega)]; exact g5
  have hR : γ 0 a = 1 → γ 7 (γ 1 a) ≤ γ1 7 (γ1 1 a) := fun e => by
    rw [hs 1 a h1 (by omega)]
    by_cases hff : γ 1 a = f
    · rw [hff]
      exact h7.resolve_right (fun g => hTa (g a e hff))
    · rw [hn 7 _ hff (by omega)]; exact Nat.le_refl _
  obtain ⟨k, hk0⟩ : ∃ k, k = γ 0 a := ⟨_, rfl⟩
  rw [← hk0] at z ⊢
  have hkk : γ 0 a = k := hk0.symm
  clear hk0
  unfold rFit at z ⊢
  split at z
  · -- 1
    obtain ⟨op, t, x, y, s, ra, rb, c1, c2, c3, c4, c5, c6, c7, c8, c9, c10, c11⟩ := z
    exact ⟨op, t, x, y, s, ra, rb, h3.trans c1, c2, c3, c4, c5, c6, c7, c8, c9, by have := hR hkk; rcases c10 with c | c; exact Or.inl c; exact Or.inr (by omega), by rw [hs 22 a h1 (by omega)]; exact c11⟩
  · -- 2
    obtain ⟨l, n, p, s, c1, c2, c3, c4, c5, c6, c7, c8, c9, c10, c11, c12⟩ := z
    obtain ⟨d1, d2, d3, d4, d5, d6⟩ := hblk l n (Or.inl hkk) c2 (Or.inl c3) c4 (Or.inl c5) c6 c7
    have e6 : (γ1 6 (γ1 1 a) = 0 ∨ (p.toInt < γ1 6 (γ1 1 a) ∧ s.toInt < γ1 6 (γ1 1 a))) ∧ p.toInt < γ1 19 (γ1 1 a) ∧ s.toInt < γ1 19 (γ1 1 a) := by
      rw [hs 1 a h1 (by omega)]
      by_cases hff : γ 1 a = f
      · rw [hff] at c10 c11 c12 ⊢
        obtain ⟨g1, g2⟩ := h19.resolve_right (fun g => hTa (g a hkk hff))
        omega
      · rw [hn 6 _ hff (by omega), hn 19 _ hff (by omega)]
        exact ⟨c10, c11, c12⟩
    exact ⟨l, n, p, s, h3.trans c1, d1, d2.trans c3, d3, d4.trans c5, d5, d6, c8, c9, e6.1, e6.2⟩
  · -- 102
    obtain ⟨l, n, p, s, c1, c2, c3, c4, c5, c6, c7, c8, c9⟩ := z
    obtain ⟨d1, d2, d3, d4, d5, d6⟩ := hblk l n (Or.inr (Or.inl hkk)) c2 (Or.inr c3) c4 (Or.inr c5) c6 c7
    exact ⟨l, n, p, s, h3.trans c1, d1, d2.trans c3, d3, d4.trans c5, d5, d6, c8, c9⟩
  · -- 202
    obtain ⟨l, n, p, s, c1, c2, c3, c4, c5, c6, c7, c8, c9⟩ := z
    obtain ⟨d1, d2, d3, d4, d5, d6⟩ := hblk l n (Or.inr (Or.inr hkk)) c2 (Or.inl c3) c4 (Or.inr c5) c6 c7
    exact ⟨l, n, p, s, h3.trans c1, d1, d2.trans c3, d3, d4.trans c5, d5, d6, c8, c9⟩
  · -- 101
    rw [h3]; exact z
  · -- 3
    obtain ⟨z1, z2⟩ := z
    obtain ⟨a1, a2, a3, a4⟩ := hl a h1 hTa
    refine ⟨hlst 6 (by omega) z1, fun i hi => ?_⟩
    rw [a1] at hi
    obtain ⟨e1, e2, e3, e4, e5⟩ := z2 i hi
    have t0 : γ 0 (el a i) ≠ 0 := by omega
    have e6 := h45 (el a i) t0 (by rw [e3]; exact hTa) (Or.inl e1)
    rw [a4]
    refine ⟨?_, by rw [hs 1 _ t0 (by omega), hs 1 a h1 (by omega)]; exact e2, e6.1.trans e3, e6.2.trans e4, (hs 22 _ t0 (by omega)).trans e5⟩
    rcases hsm _ t0 e2 (by omega) with h | ⟨h, -⟩
    · omega
    · unfold rKc at h; omega
  · -- 4
    obtain ⟨z1, z2⟩ := z
    obtain ⟨a1, a2, a3, a4⟩ := hl a h1 hTa
    refine ⟨hlst 7 (by omega) z1, fun i hi => ?_⟩
    rw [a1] at hi
    obtain ⟨e1, e2, e3⟩ := z2 i hi
    have t0 : γ 0 (el a i) ≠ 0 := by omega
    rw [a4]
    refine ⟨?_, by rw [hs 1 _ t0 (by omega), hs 1 a h1 (by omega)]; exact e2, (hs 8 _ t0 (by omega)).trans e3⟩
    rcases hsm _ t0 e2 (by omega) with h | ⟨h, -⟩
    · omega
    · unfold rKc at h; omega
  · -- 5
    obtain ⟨z1, z2⟩ := z
    obtain ⟨a1, a2, a3, a4⟩ := hl a h1 hTa
    refine ⟨hlst 8 (by omega) z1, fun i hi => ?_⟩
    rw [a1] at hi
    obtain ⟨e1, e2, e3, e4⟩ := z2 i hi
    have t0 : γ 0 (el a i) ≠ 0 := by omega
    rw [a4]
    refine ⟨?_, by rw [hs 1 _ t0 (by omega), hs 1 a h1 (by omega)]; exact e2, (hs 8 _ t0 (by omega)).trans e3, (hs 22 _ t0 (by omega)).trans e4⟩
    rcases hsm _ t0 e2 (by omega) with h | ⟨h, -⟩
    · omega
    · unfold rKc at h; omega
  · -- 103
    exact hlst 6 (by omega) z
  · -- 9
    have hff : γ 1 a ≠ f := fun e => hTa (hc a hkk e)
    obtain ⟨lb, lr, rn, md, c1, c2, c3, c4, c5, c6, c7, c8, c9, c10, c11, c12, c13, c14, c15, c16, c17⟩ := z
    have lb0 : γ 0 lb ≠ 0 := by unfold rKd at c3; omega
    have lr0 : γ 0 lr ≠ 0 := by unfold rKd at c5; omega
    have lbT : ¬ T lb := fun t => hff (by rw [← c4]; exact hTm lb lb0 t)
    have lrT : ¬ T lr := fun t => hff (by rw [← c6]; exact hTm lr lr0 t)
    obtain ⟨b1, -, -, b4⟩ := hl lb lb0 lbT
    obtain ⟨r1, -, -, r4⟩ := hl lr lr0 lrT
    have hlb : rk_4 D I γ el F lb := RS_o hT c3
    have hlr : rk_5 D I γ el F lr := RS_o hT c5
    have kb : ∀ i, i < γ 2 lb → γ1 0 (el lb i) = γ 0 (el lb i) := fun i hi => by
      obtain ⟨e1, e2, -⟩ := hlb.2 i hi
      exact hf _ (by omega) (by rw [e2, c4]; exact hff)
    have kr : ∀ i, i < γ 2 lr → γ1 0 (el lr i) = γ 0 (el lr i) := fun i hi => by
      obtain ⟨e1, e2, -⟩ := hlr.2 i hi
      exact hf _ (by omega) (by rw [e2, c6]; exact hff)
    have hfa : γ1 1 a = γ 1 a := hs 1 a h1 (by omega)
    have hsum : rsum (fun i => γ1 2 (γ1 14 (el lb i))) md.toInt.toNat = rsum (fun i => γ 2 (γ 14 (el lb i))) md.toInt.toNat := rsum_c _ (fun i hi => by
      have hi2 : i < γ 2 lb := by omega
      obtain ⟨e1, e2, -⟩ := hlb.2 i hi2
      have i0 : γ 0 (el lb i) ≠ 0 := by omega
      show γ1 2 (γ1 14 (el lb i)) = γ 2 (γ 14 (el lb i))
      rw [hs 14 _ i0 (by omega)]
      have hx : γ 0 (γ 14 (el lb i)) ≠ 0 ∧ γ 1 (γ 14 (el lb i)) = γ 1 (el lb i) := by
        rcases c14 i (by omega) with q | ⟨-, q⟩
        · obtain ⟨l', n', p', s', w1, w2, w3, w4, -⟩ := show rk_2 γ (el lb i) (F (el lb i)) from RS_o hT q
          rw [w2.1]
          exact ⟨by unfold rKd at w3; omega, w4⟩
        · obtain ⟨l', n', p', s', w1, w2, w3, w4, -⟩ := show rk_202 γ (el lb i) (F (el lb i)) from RS_o hT q
          rw [w2.1]
          exact ⟨by unfold rKd at w3; omega, w4⟩
      exact (hl _ hx.1 (fun t => hff (by rw [← c4, ← e2, ← hx.2]; exact hTm _ hx.1 t))).1)
    refine ⟨lb, lr, rn, md, h3.trans c1, ⟨(hs 14 a h1 (by omega)).trans c2.1, (hs 15 a h1 (by omega)).trans c2.2.1, by rw [hfa, hg 21 (by omega)]; exact c2.2.2⟩, (hk lb (by unfold rKd at c3; omega) (by unfold rKd at c3; omega)).trans c3, ?_, (hk lr (by unfold rKd at c5; omega) (by unfold rKd at c5; omega)).trans c5, ?_, c7, by rw [r1]; exact c8, c9, by rw [b1]; exact c10, by rw [r1]; exact c11, by rw [b1]; exact c12, ?_, fun i hi => ?_, fun i hi hi2 => ?_, fun i hi hi2 => ?_, ?_⟩
    · unfold rFm at c4 ⊢; rw [hs 1 lb lb0 (by omega), hfa]; exact c4
    · unfold rFm at c6 ⊢; rw [hs 1 lr lr0 (by omega), hfa]; exact c6
    · rw [hfa, hn 6 _ hff (by omega), hn 19 _ hff (by omega)]; exact c13
    · rw [b4, kb i (by omega), hfa, hn 6 _ hff (by omega)]; exact c14 i hi
    · rw [b4, kb i (by omega)]; exact c15 i hi (by omega)
    · rw [r4, kr i (by omega)]; exact c16 i hi (by omega)
    · unfold rCd at c17 ⊢
      rw [hfa, hn 16 _ hff (by omega), hn 18 _ hff (by omega), b4, hsum]
      exact c17
  · -- 10
    rw [h3]
    refine rk10_t (hg 9 (by omega)) hk (fun b hb => hs 1 b hb (by omega)) (fun v9 v10 v34 r35 q => ?_) z
    have q0 := hM 0 (by omega)
    have q1 := hM 1 (by omega)
    unfold rM2 at q ⊢
    rw [hg 12 (by omega)]
    omega
  · -- 28
    rw [h3]
    obtain ⟨r, mb, c, g1, g2, g3, g4, g5⟩ := z
    unfold rKd at g4
    exact ⟨r, mb, c, g1, g2, g3, (hk r (by omega) (by omega)).trans g4, by rw [hg 12 (by omega)]; exact g5⟩
  · -- 12
    rw [h3]
    obtain ⟨g, g1, g2⟩ := z
    refine ⟨g, g1, fun i hi => ?_⟩
    rw [hg 10 (by omega), hg 12 (by omega)]
    obtain ⟨q1, q2, q3⟩ := g2 i hi
    exact ⟨q1, (hk _ (by omega) (by omega)).trans q2, q3⟩
  · -- 13
    rw [h3]
    obtain ⟨g, g1, g2⟩ := z
    refine ⟨g, g1, fun i hi => ?_⟩
    rw [hg 11 (by omega), hg 12 (by omega)]
    obtain ⟨q1, q2, q3⟩ := g2 i hi
    exact ⟨q1, (hk _ (by omega) (by omega)).trans q2, q3⟩
  all_goals first
    | exact trivial
    | (rw [h3]; exact z)
    | (rw [h3]; obtain ⟨n, g, z1, z2, z3, z4⟩ := z; exact ⟨n, g, z1, z2, z3, by rw [hg 12 (by omega)]; exact z4⟩)
end RGEN
end
section
/-! list operations on the programs: the state behind each -/
theorem rsum_one {f g : Nat → Nat} {p : Nat → Prop} : ∀ n, (∀ i j, i < n → j < n → p i → p j → i = j) → (∀ i, i < n → ¬ p i → g i = f i) → (∀ i, i < n → p i → g i ≤ f i + 1) → rsum g n ≤ rsum f n + 1
  | 0, _, _, _ => by show 0 ≤ 0 + 1; omega
  | n + 1, h1, h2, h3 => by
    show rsum g n + g n ≤ rsum f n + f n + 1
    by_cases hp : p n
    · have e : rsum g n = rsum f n := rsum_c n (fun i hi => h2 i (by omega) (fun q => by have := h1 i n (by omega) (by omega) q hp; omega))
      have := h3 n (by omega) hp
      omega
    · have e := rsum_one n (fun i j hi hj => h1 i j (by omega) (by omega)) (fun i hi => h2 i (by omega)) (fun i hi => h3 i (by omega))
      have := h2 n (by omega) hp
      omega
def gIns (γ : Nat → Nat → Nat) (l x e1 n1 k f : Nat) : Nat → Nat → Nat
  | 0 => fun b => if b = x then 1 else if b = e1 then 6 else γ 0 b
  | 1 => fun b => if b = e1 then γ 1 l else γ 1 b
  | 2 => fun b => if b = l then γ 2 l + 1 else γ 2 b
  | 3 => fun b => if b = e1 then l else γ 3 b
  | 4 => fun b => if b = x then l else γ 4 b
  | 5 => fun b => if b = x then k else if γ 4 b = l ∧ k ≤ γ 5 b then γ 5 b + 1 else γ 5 b
  | 13 => fun b => if b = l then n1 else γ 13 b
  | 17 => fun b => if b = l then max (γ 17 l) (γ 2 l + 1) else γ 17 b
  | 18 => fun g => if g = f then γ 18 f - 1 else γ 18 g
  | j => γ j
def eIns (el : Nat → Nat → Nat) (l k x : Nat) : Nat → Nat → Nat := fun a i => if a = l then (if i < k then el l i else if i = k then x else el l (i - 1)) else el a i
theorem eIns_ne {el : Nat → Nat → Nat} {l k x a : Nat} (h : a ≠ l) : eIns el l k x a = el a := by funext i; unfold eIns; rw [if_neg h]
section ROP
variable {D : va_G} {I : FieldType → ClassId} {P P1 : List Nat} {F F1 : Nat → va_E} {γ el : Nat → Nat → Nat} {l x c e1 n1 k : Nat}
theorem RS_code {a : Nat} (hT : RS D I P F γ el) (h : γ 0 a = 9) : γ 21 (γ 1 a) = a := by
  obtain ⟨lb, lr, rn, md, -, h2, -⟩ := show rk_9 γ el a (F a) from RS_o hT h
  exact h2.2.2
/-- the lists of different blocks are different -/
theorem RS_inj {lb i j : Nat} (hT : RS D I P F γ el) (h : γ 0 lb = 4) (hi : i < γ 2 lb) (hj : j < γ 2 lb) (e : γ 14 (el lb i) = γ 14 (el lb j)) : i = j := by
  have h4 : rk_4 D I γ el F lb := RS_o hT h
  have hb : ∀ i, i < γ 2 lb → γ 20 (γ 14 (el lb i)) = el lb i := fun i hi => by
    obtain ⟨q, -, -⟩ := h4.2 i hi
    rcases q with q | q | q
    · obtain ⟨l', n', p', s', w1, w2, -⟩ := show rk_2 γ (el lb i) (F (el lb i)) from RS_o hT q
      rw [w2.1]; exact w2.2.2
    · obtain ⟨l', n', p', s', w1, w2, -⟩ := show rk_202 γ (el lb i) (F (el lb i)) from RS_o hT q
      rw [w2.1]; exact w2.2.2
    · obtain ⟨l', n', p', s', w1, w2, -⟩ := show rk_102 γ (el lb i) (F (el lb i)) from RS_o hT q
      rw [w2.1]; exact w2.2.2
  have e2 : el lb i = el lb j := by rw [← hb i hi, ← hb j hj, e]
  rw [← (h4.2 i hi).2.2, ← (h4.2 j hj).2.2, e2]
theorem RS_ins3 {m1 z1 : Int32} {f1 : Nat → Option Nat} (hT : RS D I P F γ el) (hs : rSub P P1) (hl : γ 0 l = 3) (hx : γ 0 x = 101) (hxf : γ 1 x = γ 1 l) (hx22 : γ 22 x = 0) (hx8 : γ 8 x < γ 16 (γ 1 l)) (h18 : 0 < γ 18 (γ 1 l)) (hk : k ≤ γ 2 l)
    (hc : γ 0 c = 9) (hcf : γ 1 c = γ 1 l) (hx1 : rk_1 γ x (F x)) (he1 : (γ 0 e1 = 6 ∧ γ 3 e1 = l ∧ γ 1 e1 = γ 1 l) ∨ γ 0 e1 = 0) (heP : e1 ∈ P1)
    (hfr : ∀ b, γ 0 b ≠ 0 → b ≠ l → b ≠ e1 → F1 b = F b) (c1 : F1 l = .inr (4, [.int m1, .ref e1, .int z1])) (c2 : z1.toInt = γ 2 l + 1) (c3 : F1 e1 = .inl (I (.object "java/lang/Object"), n1, .inr (.inr (.inr (.inr f1)))))
    (d1 : γ 2 l + 1 ≤ n1) (d2 : (n1 : Int) ≤ 1000000) (d3 : 2 * n1 ≤ 3 * max (γ 17 l) (γ 2 l + 1) + 20) (d4 : 10 ≤ n1)
    (g1 : ∀ j, j < k → f1 j = some (el l j)) (g2 : f1 k = some x) (g3 : ∀ j, k ≤ j → j < γ 2 l → f1 (j + 1) = some (el l j)) (g4 : ∀ j w, f1 j = some w → rLK γ w ∨ w = x) :
    RS D I P1 F1 (gIns γ l x e1 n1 k (γ 1 l)) (eIns el l k x) := by
  have hle : l ≠ e1 := fun e => by rw [← e] at he1; omega
  have hxe : x ≠ e1 := fun e => by rw [← e] at he1; omega
  have hce : c ≠ e1 := fun e => by rw [← e] at he1; omega
  have hlx : l ≠ x := fun e => by rw [e] at hl; omega
  have hcx : c ≠ x := fun e => by rw [e] at hc; omega
  have hcl : c ≠ l := fun e => by rw [e] at hc; omega
  have h3 : rk_3 D I γ el F l := RS_o hT hl
  have h9 : rk_9 γ el c (F c) := RS_o hT hc
  have hrow : ∀ i, i < γ 2 l → el l i ≠ x := fun i hi e => by have := (h3.2 i hi).1; rw [e] at this; omega
  have hlk : ∀ w, rLK γ w → rLK (gIns γ l x e1 n1 k (γ 1 l)) w := fun w hw => by
    show (if w = x then 1 else if w = e1 then 6 else γ 0 w) = 1 ∨ _
    by_cases e : w = x
    · exact Or.inl (if_pos e)
    · have e2 : w ≠ e1 := fun e2 => by subst e2; unfold rLK at hw; omega
      unfold rLK at hw
      show (if w = x then 1 else if w = e1 then 6 else γ 0 w) = 1 ∨ (if w = x then 1 else if w = e1 then 6 else γ 0 w) = 2 ∨ (if w = x then 1 else if w = e1 then 6 else γ 0 w) = 101 ∨ (if w = x then 1 else if w = e1 then 6 else γ 0 w) = 102 ∨ (if w = x then 1 else if w = e1 then 6 else γ 0 w) = 202
      rw [if_neg e, if_neg e2]
      exact hw
  have k0 : ∀ b, b ≠ x → γ 0 b ≠ 0 → (gIns γ l x e1 n1 k (γ 1 l)) 0 b = γ 0 b := fun b hb h0 => by
    show (if b = x then 1 else if b = e1 then 6 else γ 0 b) = _
    rw [if_neg hb]
    split
    · next e => subst e; omega
    · rfl
  have k1 : ∀ b, γ 0 b ≠ 0 → (gIns γ l x e1 n1 k (γ 1 l)) 1 b = γ 1 b := fun b h0 => by
    show (if b = e1 then γ 1 l else γ 1 b) = _
    split
    · next e => subst e; omega
    · rfl
  have k3 : ∀ b, γ 0 b ≠ 0 → (gIns γ l x e1 n1 k (γ 1 l)) 3 b = γ 3 b := fun b h0 => by
    show (if b = e1 then l else γ 3 b) = _
    split
    · next e => subst e; omega
    · rfl
  refine RS_gen (T := fun a => a = l ∨ a = x ∨ a = e1 ∨ a = c) (γ 1 l) hT (fun a ha => ?_) (fun a ha hTa => ?_) (fun a ha hTa => ?_) (fun b hb hTb => ?_) (fun b h4 h100 => k0 b (fun e => by subst e; omega) (by omega)) (fun b h0 hb => k0 b (fun e => hb (by rw [e]; exact hxf)) h0) hlk (fun j b h0 hj => ?_) (fun j hj => ?_) (fun j g hg hj => ?_) (Or.inl (Nat.le_refl _)) (Or.inl ⟨Nat.le_refl _, Or.inl rfl⟩) (fun g _ h => h) (fun b h0 hTb => ?_) (fun e he hTe => ?_) (fun b h0 hTb hb => ?_) (fun a ha haf => ?_) (Or.inr ⟨fun b h0 => ?_, fun b hb hne => ?_, fun b hb hne h22 => ?_⟩)
  · -- P1
    by_cases e : a = e1
    · rw [e]; exact heP
    · refine hs a (hT.1 a ?_)
      by_cases ex : a = x
      · rw [ex]; omega
      · change (if a = x then 1 else if a = e1 then 6 else γ 0 a) ≠ 0 at ha
        rw [if_neg ex, if_neg e] at ha
        exact ha
  · -- fits
    rcases hTa with rfl | rfl | rfl | rfl
    · rw [k0 a hlx (by omega), hl]
      have z2 : (gIns γ a x e1 n1 k (γ 1 a)) 2 a = γ 2 a + 1 := if_pos rfl
      have z13 : (gIns γ a x e1 n1 k (γ 1 a)) 13 a = n1 := if_pos rfl
      have z17 : (gIns γ a x e1 n1 k (γ 1 a)) 17 a = max (γ 17 a) (γ 2 a + 1) := if_pos rfl
      have ze : ∀ i, eIns el a k x a i = if i < k then el a i else if i = k then x else el a (i - 1) := fun i => if_pos rfl
      refine ⟨⟨m1, z1, e1, c1, by rw [z2]; omega, by rw [z2]; omega, Or.inr ⟨?_, ⟨if_pos rfl, ?_⟩, n1, f1, c3, by rw [z2]; exact d1, d2, ⟨z13.symm, d4⟩, fun i hi => ?_, fun j w hj => ?_⟩, ?_⟩, fun i hi => ?_⟩
      · show (if e1 = x then 1 else if e1 = e1 then 6 else γ 0 e1) = 6
        rw [if_neg (Ne.symm hxe), if_pos rfl]
      · show (if e1 = e1 then γ 1 a else γ 1 e1) = (if a = e1 then γ 1 a else γ 1 a)
        rw [if_pos rfl, if_neg hle]
      · rw [z2] at hi
        rw [ze]
        split
        · next q => exact g1 i q
        · next q =>
          split
          · next q2 => rw [q2]; exact g2
          · next q2 =>
            have := g3 (i - 1) (by omega) (by omega)
            rw [Nat.sub_add_cancel (by omega)] at this
            exact this
      · rcases g4 j w hj with h | h
        · exact hlk w h
        · exact Or.inl (if_pos h)
      · unfold rCp
        rw [z2, z13, z17]
        omega
      · rw [z2] at hi
        have hold : ∀ i', i' < γ 2 a → (i < k → i' = i) → (k < i → i' + 1 = i) → i ≠ k → (gIns γ a x e1 n1 k (γ 1 a)) 0 (el a i') = 1 ∧ (gIns γ a x e1 n1 k (γ 1 a)) 1 (el a i') = (gIns γ a x e1 n1 k (γ 1 a)) 1 a ∧ (gIns γ a x e1 n1 k (γ 1 a)) 4 (el a i') = a ∧ (gIns γ a x e1 n1 k (γ 1 a)) 5 (el a i') = i ∧ (gIns γ a x e1 n1 k (γ 1 a)) 22 (el a i') = 0 := fun i' hi' q1 q2 q3 => by
          obtain ⟨w1, w2, w3, w4, w5⟩ := h3.2 i' hi'
          refine ⟨(k0 _ (hrow i' hi') (by omega)).trans w1, by rw [k1 _ (by omega), k1 a (by omega)]; exact w2, (if_neg (hrow i' hi')).trans w3, ?_, w5⟩
          show (if el a i' = x then k else if γ 4 (el a i') = a ∧ k ≤ γ 5 (el a i') then γ 5 (el a i') + 1 else γ 5 (el a i')) = i
          rw [if_neg (hrow i' hi'), w3, w4]
          split <;> omega
        rw [ze]
        split
        · next q => exact hold i (by omega) (fun _ => rfl) (by omega) (by omega)
        · next q =>
          split
          · next q2 =>
            subst q2
            exact ⟨if_pos rfl, by rw [k1 x (by omega), k1 a (by omega)]; exact hxf, if_pos rfl, if_pos rfl, hx22⟩
          · next q2 => exact hold (i - 1) (by omega) (by omega) (by omega) (by omega)
    · have e0 : (gIns γ l a e1 n1 k (γ 1 l)) 0 a = 1 := if_pos rfl
      rw [e0]
      obtain ⟨op, t, p, y, s, ra, rb, w1, w⟩ := hx1
      refine ⟨op, t, p, y, s, ra, rb, (hfr a (by omega) (Ne.symm hlx) hxe).trans w1, ?_⟩
      rw [k1 a (by omega)]
      exact w
    · have e0 : (gIns γ l x a n1 k (γ 1 l)) 0 a = 6 := (if_neg (Ne.symm hxe)).trans (if_pos rfl)
      rw [e0]
      exact trivial
    · rw [k0 a hcx (by omega), hc]
      obtain ⟨lb, lr, rn, md, w1, w2, w3, w4, w5, w6, w7, w8, w9, w10, w11, w12, w13, w14, w15, w16, w17⟩ := h9
      unfold rKd at w3 w5
      have lb0 : γ 0 lb ≠ 0 := by omega
      have lr0 : γ 0 lr ≠ 0 := by omega
      have lbl : lb ≠ l := fun e => by rw [e] at w3; omega
      have lrl : lr ≠ l := fun e => by rw [e] at w5; omega
      have hlb : rk_4 D I γ el F lb := RS_o hT w3
      have hlr : rk_5 D I γ el F lr := RS_o hT w5
      have b2 : (gIns γ l x e1 n1 k (γ 1 l)) 2 lb = γ 2 lb := if_neg lbl
      have r2 : (gIns γ l x e1 n1 k (γ 1 l)) 2 lr = γ 2 lr := if_neg lrl
      have kb : ∀ i, i < γ 2 lb → (gIns γ l x e1 n1 k (γ 1 l)) 0 (el lb i) = γ 0 (el lb i) := fun i hi => by
        have q := (hlb.2 i hi).1
        exact k0 _ (fun e => by rw [e] at q; omega) (by omega)
      have hsum : rsum (fun i => (gIns γ l x e1 n1 k (γ 1 l)) 2 (γ 14 (el lb i))) md.toInt.toNat ≤ rsum (fun i => γ 2 (γ 14 (el lb i))) md.toInt.toNat + 1 := by
        refine rsum_one (p := fun i => γ 14 (el lb i) = l) _ (fun i j hi hj q1 q2 => RS_inj hT w3 (by omega) (by omega) (q1.trans q2.symm)) (fun i hi q => if_neg q) (fun i hi q => ?_)
        show (if γ 14 (el lb i) = l then γ 2 l + 1 else γ 2 (γ 14 (el lb i))) ≤ _
        rw [if_pos q, q]
        exact Nat.le_refl _
      refine ⟨lb, lr, rn, md, (hfr a (by omega) hcl hce).trans w1, ⟨w2.1, w2.2.1, ?_⟩, (k0 lb (fun e => by rw [e] at w3; omega) lb0).trans w3, ?_, (k0 lr (fun e => by rw [e] at w5; omega) lr0).trans w5, ?_, w7, by rw [r2]; exact w8, w9, by rw [b2]; exact w10, by rw [r2]; exact w11, by rw [b2]; exact w12, ?_, fun i hi => ?_, fun i hi hi2 => ?_, fun i hi hi2 => ?_, ?_⟩
      · rw [k1 a (by omega)]; exact w2.2.2
      · unfold rFm at w4 ⊢; rw [k1 lb lb0, k1 a (by omega)]; exact w4
      · unfold rFm at w6 ⊢; rw [k1 lr lr0, k1 a (by omega)]; exact w6
      · rw [k1 a (by omega)]; exact w13
      · rw [eIns_ne lbl, kb i (by omega), k1 a (by omega)]; exact w14 i hi
      · rw [b2] at hi2; rw [eIns_ne lbl, kb i hi2]; exact w15 i hi hi2
      · rw [r2] at hi2
        rw [eIns_ne lrl]
        have q := w16 i hi hi2
        have q8 := (hlr.2 i hi2).2.2.1
        refine (k0 _ (fun e => ?_) (by omega)).trans q
        rw [e] at q8
        have := w17.1
        rw [hcf] at this
        omega
      · obtain ⟨q1, q2⟩ := w17
        unfold rCd
        rw [k1 a (by omega), hcf, eIns_ne lbl]
        rw [hcf] at q1 q2
        refine ⟨q1, ?_⟩
        have e18 : (gIns γ l x e1 n1 k (γ 1 l)) 18 (γ 1 l) = γ 18 (γ 1 l) - 1 := if_pos rfl
        have e16 : (gIns γ l x e1 n1 k (γ 1 l)) 16 (γ 1 l) = γ 16 (γ 1 l) := rfl
        rw [e18, e16]
        have hs2 : rsum (fun i => (gIns γ l x e1 n1 k (γ 1 l)) 2 ((gIns γ l x e1 n1 k (γ 1 l)) 14 (el lb i))) md.toInt.toNat ≤ rsum (fun i => γ 2 (γ 14 (el lb i))) md.toInt.toNat + 1 := hsum
        omega
  · -- untouched
    have hx' : a ≠ x := fun e => hTa (Or.inr (Or.inl e))
    have he' : a ≠ e1 := fun e => hTa (Or.inr (Or.inr (Or.inl e)))
    have hl' : a ≠ l := fun e => hTa (Or.inl e)
    change (if a = x then 1 else if a = e1 then 6 else γ 0 a) ≠ 0 at ha
    rw [if_neg hx', if_neg he'] at ha
    exact ⟨ha, k0 a hx' ha, hfr a ha hl' he'⟩
  · rcases hTb with rfl | rfl | rfl | rfl
    · rfl
    · exact hxf
    · omega
    · exact hcf
  · rcases hj with rfl | rfl | rfl | rfl | rfl | rfl | rfl
    · exact k1 b h0
    · exact k3 b h0
    · rfl
    · rfl
    · rfl
    · rfl
    · rfl
  · rcases hj with rfl | rfl | rfl | rfl | rfl <;> rfl
  · rcases hj with rfl | rfl | rfl | rfl | rfl
    · rfl
    · rfl
    · rfl
    · exact if_neg hg
    · rfl
  · have hl' : b ≠ l := fun e => hTb (Or.inl e)
    exact ⟨if_neg hl', if_neg hl', if_neg hl', eIns_ne hl'⟩
  · refine hfr e (by omega) (fun q => by subst q; omega) (fun q => hTe (Or.inl ?_))
    subst q
    omega
  · have hx' : b ≠ x := fun e => by subst e; omega
    have h4' : γ 4 b ≠ l := fun e => hTb (Or.inl e)
    refine ⟨if_neg hx', (if_neg hx').trans (if_neg (fun q => h4' q.1))⟩
  · have := RS_code hT ha
    have h2 := RS_code hT hc
    rw [haf] at this
    rw [hcf] at h2
    exact Or.inr (Or.inr (Or.inr (this.symm.trans h2)))
  · by_cases e : b = x
    · subst e
      have e0 : (gIns γ l b e1 n1 k (γ 1 l)) 0 b = 1 := if_pos rfl
      rw [e0]
      exact Or.inr (Or.inl ⟨hx, rfl⟩)
    · exact Or.inl (k0 b e h0)
  · exact absurd ((k0 b (fun e => by subst e; omega) (by omega)).trans hb) hne
  · by_cases e : b = x
    · subst e; omega
    · exact absurd ((k0 b e (by omega)).trans hb) hne
end ROP
end
section
/-! an element taken out; a row of the store -/
def gDel (γ : Nat → Nat → Nat) (l k : Nat) : Nat → Nat → Nat
  | 2 => fun b => if b = l then γ 2 l - 1 else γ 2 b
  | 5 => fun b => if γ 4 b = l ∧ k < γ 5 b then γ 5 b - 1 else γ 5 b
  | j => γ j
def eDel (el : Nat → Nat → Nat) (l k : Nat) : Nat → Nat → Nat := fun a i => if a = l then (if i < k then el l i else el l (i + 1)) else el a i
theorem eDel_ne {el : Nat → Nat → Nat} {l k a : Nat} (h : a ≠ l) : eDel el l k a = el a := by funext i; unfold eDel; rw [if_neg h]
def gRow (γ : Nat → Nat → Nat) (f : Nat) : Nat → Nat → Nat
  | 16 => fun g => if g = f then γ 16 f + 1 else γ 16 g
  | 18 => fun g => if g = f then γ 18 f + 1 else γ 18 g
  | j => γ j
def gRwn (γ : Nat → Nat → Nat) (lr x e1 n1 f : Nat) : Nat → Nat → Nat
  | 0 => fun b => if b = x then 101 else if b = e1 then 8 else γ 0 b
  | 1 => fun b => if b = x then f else if b = e1 then f else γ 1 b
  | 2 => fun b => if b = lr then γ 2 lr + 1 else γ 2 b
  | 3 => fun b => if b = e1 then lr else γ 3 b
  | 8 => fun b => if b = x then γ 2 lr else γ 8 b
  | 13 => fun b => if b = lr then n1 else γ 13 b
  | 17 => fun b => if b = lr then max (γ 17 lr) (γ 2 lr + 1) else γ 17 b
  | 16 => fun g => if g = f then γ 16 f + 1 else γ 16 g
  | 18 => fun g => if g = f then γ 18 f + 1 else γ 18 g
  | 22 => fun b => if b = x then 0 else γ 22 b
  | j => γ j
section ROP2
variable {D : va_G} {I : FieldType → ClassId} {P P1 : List Nat} {F F1 : Nat → va_E} {γ el : Nat → Nat → Nat} {l x c e e1 n1 k lb lr : Nat} {rn md rn1 : Int32}
theorem RS_same_c {a c : Nat} (hT : RS D I P F γ el) (hc : γ 0 c = 9) (ha : γ 0 a = 9) (hf : γ 1 a = γ 1 c) : a = c := by
  have h1 := RS_code hT ha
  rw [hf] at h1
  exact h1.symm.trans (RS_code hT hc)
theorem RS_del3 {m1 z1 : Int32} {f1 : Nat → Option Nat} (hT : RS D I P F γ el) (hl : γ 0 l = 3) (hk : k < γ 2 l) (hc : γ 0 c = 9) (hcf : γ 1 c = γ 1 l)
    (he : γ 0 e = 6) (he3 : γ 3 e = l) (he1 : γ 1 e = γ 1 l) (hn : n1 = γ 13 l ∧ 10 ≤ n1) (d1 : γ 2 l ≤ n1) (d2 : (n1 : Int) ≤ 1000000)
    (hfr : ∀ b, γ 0 b ≠ 0 → b ≠ l → b ≠ e → F1 b = F b) (c1 : F1 l = .inr (4, [.int m1, .ref e, .int z1])) (c2 : z1.toInt = γ 2 l - 1) (c3 : F1 e = .inl (I (.object "java/lang/Object"), n1, .inr (.inr (.inr (.inr f1)))))
    (g1 : ∀ j, j < k → f1 j = some (el l j)) (g3 : ∀ j, k ≤ j → j + 1 < γ 2 l → f1 j = some (el l (j + 1))) (g4 : ∀ j w, f1 j = some w → rLK γ w) :
    RS D I P F1 (gDel γ l k) (eDel el l k) := by
  have hcl : c ≠ l := fun e => by rw [e] at hc; omega
  have hce : c ≠ e := fun q => by rw [← q] at he; omega
  have h3 : rk_3 D I γ el F l := RS_o hT hl
  have h9 : rk_9 γ el c (F c) := RS_o hT hc
  refine RS_gen (T := fun a => a = l ∨ a = e ∨ a = c) (γ 1 l) hT (fun a ha => hT.1 a ha) (fun a ha hTa => ?_) (fun a ha hTa => ⟨ha, rfl, hfr a ha (fun q => hTa (Or.inl q)) (fun q => hTa (Or.inr (Or.inl q)))⟩) (fun b hb hTb => ?_) (fun b _ _ => rfl) (fun b _ _ => rfl) (fun w h => h) (fun j b h0 hj => ?_) (fun j hj => ?_) (fun j g hg hj => ?_) (Or.inl (Nat.le_refl _)) (Or.inl ⟨Nat.le_refl _, Or.inl rfl⟩) (fun g _ h => h) (fun b h0 hTb => ?_) (fun e' he' hTe => ?_) (fun b h0 hTb hb => ?_) (fun a ha haf => ?_) (Or.inr ⟨fun b h0 => Or.inl rfl, fun b hb hne => absurd hb hne, fun b hb hne h22 => absurd hb hne⟩)
  · rcases hTa with rfl | rfl | rfl
    · have z2 : (gDel γ a k) 2 a = γ 2 a - 1 := if_pos rfl
      have ze : ∀ i, eDel el a k a i = if i < k then el a i else el a (i + 1) := fun i => if_pos rfl
      show rFit D I (gDel γ a k) (eDel el a k) F1 a (γ 0 a)
      rw [hl]
      obtain ⟨⟨m, z, e', q1, q2, q3, q4, q5⟩, q6⟩ := h3
      refine ⟨⟨m1, z1, e, c1, by rw [z2]; omega, by rw [z2]; omega, Or.inr ⟨he, ⟨he3, he1⟩, n1, f1, c3, by rw [z2]; omega, d2, hn, fun i hi => ?_, fun j w hj => g4 j w hj⟩, ?_⟩, fun i hi => ?_⟩
      · rw [z2] at hi
        rw [ze]
        split
        · next q => exact g1 i q
        · next q => exact g3 i (by omega) (by omega)
      · unfold rCp at q5 ⊢
        have z17 : (gDel γ a k) 17 a = γ 17 a := rfl
        have z13 : (gDel γ a k) 13 a = γ 13 a := rfl
        rw [z2, z17, z13]
        omega
      · rw [z2] at hi
        have hold : ∀ i', i' < γ 2 a → (i < k → i' = i) → (k ≤ i → i' = i + 1) → (gDel γ a k) 0 (el a i') = 1 ∧ (gDel γ a k) 1 (el a i') = (gDel γ a k) 1 a ∧ (gDel γ a k) 4 (el a i') = a ∧ (gDel γ a k) 5 (el a i') = i ∧ (gDel γ a k) 22 (el a i') = 0 := fun i' hi' r1 r2 => by
          obtain ⟨w1, w2, w3, w4, w5⟩ := q6 i' hi'
          refine ⟨w1, w2, w3, ?_, w5⟩
          show (if γ 4 (el a i') = a ∧ k < γ 5 (el a i') then γ 5 (el a i') - 1 else γ 5 (el a i')) = i
          rw [w3, w4]
          split <;> omega
        rw [ze]
        split
        · next q => exact hold i (by omega) (fun _ => rfl) (by omega)
        · next q => exact hold (i + 1) (by omega) (by omega) (fun _ => rfl)
    · show rFit D I (gDel γ l k) (eDel el l k) F1 a (γ 0 a)
      rw [he]
      exact trivial
    · show rFit D I (gDel γ l k) (eDel el l k) F1 a (γ 0 a)
      rw [hc]
      obtain ⟨lb, lr, rn, md, w1, w2, w3, w4, w5, w6, w7, w8, w9, w10, w11, w12, w13, w14, w15, w16, w17⟩ := h9
      unfold rKd at w3 w5
      have lbl : lb ≠ l := fun e => by rw [e] at w3; omega
      have lrl : lr ≠ l := fun e => by rw [e] at w5; omega
      have b2 : (gDel γ l k) 2 lb = γ 2 lb := if_neg lbl
      have r2 : (gDel γ l k) 2 lr = γ 2 lr := if_neg lrl
      refine ⟨lb, lr, rn, md, (hfr a (by omega) hcl hce).trans w1, w2, w3, w4, w5, w6, w7, by rw [r2]; exact w8, w9, by rw [b2]; exact w10, by rw [r2]; exact w11, by rw [b2]; exact w12, w13, by rw [eDel_ne lbl]; exact w14, by rw [eDel_ne lbl, b2]; exact w15, by rw [eDel_ne lrl, r2]; exact w16, w17.1, ?_⟩
      have hs : rsum (fun i => (gDel γ l k) 2 ((gDel γ l k) 14 (eDel el l k lb i))) md.toInt.toNat ≤ rsum (fun i => γ 2 (γ 14 (el lb i))) md.toInt.toNat := rsum_le _ (fun i hi => by
        rw [eDel_ne lbl]
        show (if γ 14 (el lb i) = l then γ 2 l - 1 else γ 2 (γ 14 (el lb i))) ≤ _
        split
        · next q => rw [q]; omega
        · exact Nat.le_refl _)
      have := w17.2
      have e16 : (gDel γ l k) 16 ((gDel γ l k) 1 a) = γ 16 (γ 1 a) := rfl
      have e18 : (gDel γ l k) 18 ((gDel γ l k) 1 a) = γ 18 (γ 1 a) := rfl
      rw [e16, e18]
      omega
  · rcases hTb with rfl | rfl | rfl
    · rfl
    · exact he1
    · exact hcf
  · rcases hj with rfl | rfl | rfl | rfl | rfl | rfl | rfl <;> rfl
  · rcases hj with rfl | rfl | rfl | rfl | rfl <;> rfl
  · rcases hj with rfl | rfl | rfl | rfl | rfl <;> rfl
  · have hl' : b ≠ l := fun e => hTb (Or.inl e)
    exact ⟨if_neg hl', rfl, rfl, eDel_ne hl'⟩
  · exact hfr e' (by omega) (fun q => by subst q; omega) (fun q => hTe (Or.inl (by rw [q]; exact he3)))
  · have h4' : γ 4 b ≠ l := fun e => hTb (Or.inl e)
    exact ⟨rfl, if_neg (fun q => h4' q.1)⟩
  · exact Or.inr (Or.inr (RS_same_c hT hc ha (by rw [haf, hcf])))
theorem RS_rowo (hT : RS D I P F γ el) (hc : γ 0 c = 9) (hF : F c = .inr (18, [.ref lb, .ref lr, .int rn, .int md])) (hlr : γ 15 c = lr) (hlt : rn.toInt < γ 2 lr) (hx : x = el lr rn.toInt.toNat)
    (hfr : ∀ b, γ 0 b ≠ 0 → b ≠ c → b ≠ x → F1 b = F b) (c1 : F1 c = .inr (18, [.ref lb, .ref lr, .int rn1, .int md])) (c2 : rn1.toInt = rn.toInt + 1) (c3 : rkR (F1 x)) :
    RS D I P F1 (gRow γ (γ 1 c)) el ∧ γ 0 x = 101 ∧ γ 1 x = γ 1 c ∧ γ 22 x = 0 ∧ γ 8 x = rn.toInt.toNat ∧ γ 16 (γ 1 c) = rn.toInt.toNat := by
  have h9 : rk_9 γ el c (F c) := RS_o hT hc
  obtain ⟨lb', lr', rn', md', w1, w2, w3, w4, w5, w6, w7, w8, w9, w10, w11, w12, w13, w14, w15, w16, w17⟩ := h9
  rw [hF] at w1
  injection w1 with w1
  injection w1 with _ w1
  injection w1 with a1 w1
  injection w1 with a2 w1
  injection w1 with a3 w1
  injection w1 with a4 _
  injection a1 with a1
  injection a2 with a2
  injection a3 with a3
  injection a4 with a4
  subst a1 a2 a3 a4
  unfold rKd at w3 w5
  have hlr5 : rk_5 D I γ el F lr := RS_o hT w5
  have hi : rn.toInt.toNat < γ 2 lr := by omega
  have hx0 : γ 0 x = 101 := by rw [hx]; exact w16 _ (by omega) hi
  obtain ⟨-, x1, x8, x22⟩ := hlr5.2 _ hi
  rw [← hx] at x1 x8 x22
  have x1c : γ 1 x = γ 1 c := x1.trans w6
  have hcx : c ≠ x := fun e => by rw [e] at hc; omega
  refine ⟨?_, hx0, x1c, x22, x8, by have := w17.1; omega⟩
  refine RS_gen (T := fun a => a = c ∨ a = x) (γ 1 c) hT (fun a ha => hT.1 a ha) (fun a ha hTa => ?_) (fun a ha hTa => ⟨ha, rfl, hfr a ha (fun q => hTa (Or.inl q)) (fun q => hTa (Or.inr q))⟩) (fun b hb hTb => ?_) (fun b _ _ => rfl) (fun b _ _ => rfl) (fun w h => h) (fun j b h0 hj => ?_) (fun j hj => ?_) (fun j g hg hj => ?_) (Or.inl (Nat.le_refl _)) (Or.inl ⟨Nat.le_refl _, Or.inl rfl⟩) (fun g _ h => h) (fun b h0 hTb => ⟨rfl, rfl, rfl, rfl⟩) (fun e' he' hTe => ?_) (fun b h0 hTb hb => ⟨rfl, rfl⟩) (fun a ha haf => Or.inl (RS_same_c hT hc ha haf)) (Or.inr ⟨fun b h0 => Or.inl rfl, fun b hb hne => absurd hb hne, fun b hb hne h22 => absurd hb hne⟩)
  · rcases hTa with rfl | rfl
    · show rFit D I (gRow γ (γ 1 a)) el F1 a (γ 0 a)
      rw [hc]
      have e16 : (gRow γ (γ 1 a)) 16 (γ 1 a) = γ 16 (γ 1 a) + 1 := if_pos rfl
      have e18 : (gRow γ (γ 1 a)) 18 (γ 1 a) = γ 18 (γ 1 a) + 1 := if_pos rfl
      refine ⟨lb, lr, rn1, md, c1, w2, w3, w4, w5, w6, by omega, by show rn1.toInt ≤ γ 2 lr; omega, w9, w10, w11, w12, w13, w14, w15, fun i hi hi2 => w16 i (by omega) hi2, ?_, ?_⟩
      · show rn1.toInt = ((gRow γ (γ 1 a)) 16 (γ 1 a) : Nat)
        rw [e16]
        have := w17.1
        omega
      · show rsum (fun i => γ 2 (γ 14 (el lb i))) md.toInt.toNat + (gRow γ (γ 1 a)) 18 (γ 1 a) ≤ (gRow γ (γ 1 a)) 16 (γ 1 a)
        rw [e16, e18]
        have := w17.2
        omega
    · show rFit D I (gRow γ (γ 1 c)) el F1 a (γ 0 a)
      rw [hx0]
      exact c3
  · rcases hTb with rfl | rfl
    · rfl
    · exact x1c
  · rcases hj with rfl | rfl | rfl | rfl | rfl | rfl | rfl <;> rfl
  · rcases hj with rfl | rfl | rfl | rfl | rfl <;> rfl
  · rcases hj with rfl | rfl | rfl | rfl | rfl
    · rfl
    · rfl
    · exact if_neg hg
    · exact if_neg hg
    · rfl
  · exact hfr e' (by omega) (fun q => by subst q; omega) (fun q => by subst q; omega)
end ROP2
end
section
/-! a new row of the store; a block of the store -/
/-- what the cell of a program says, opened at its address -/
theorem rk9_at {γ el : Nat → Nat → Nat} {c lb lr : Nat} {e : va_E} {rn md : Int32} (hF : e = .inr (18, [.ref lb, .ref lr, .int rn, .int md])) (h : rk_9 γ el c e) :
    rGc γ c lb lr ∧ γ 0 lb = 4 ∧ γ 1 lb = γ 1 c ∧ γ 0 lr = 5 ∧ γ 1 lr = γ 1 c ∧ 0 ≤ rn.toInt ∧ rn.toInt ≤ γ 2 lr ∧ 0 ≤ md.toInt ∧ md.toInt ≤ γ 2 lb ∧ (γ 2 lr : Int) ≤ 1000000 ∧ (γ 2 lb : Int) ≤ 1000000 ∧ (γ 6 (γ 1 c) = 0 ∨ (md.toInt = γ 6 (γ 1 c) ∧ md.toInt ≤ 40 ∧ γ 19 (γ 1 c) ≤ γ 6 (γ 1 c))) ∧ (∀ i : Nat, (i : Int) < md.toInt → γ 0 (el lb i) = 2 ∨ (γ 6 (γ 1 c) = 0 ∧ γ 0 (el lb i) = 202)) ∧ (∀ i : Nat, md.toInt ≤ i → i < γ 2 lb → γ 0 (el lb i) = 102) ∧ (∀ i : Nat, rn.toInt ≤ i → i < γ 2 lr → γ 0 (el lr i) = 101) ∧ rCd γ el c lb rn.toInt md.toInt := by
  obtain ⟨lb', lr', rn', md', w1, w⟩ := h
  rw [hF] at w1
  injection w1 with w1
  injection w1 with _ w1
  injection w1 with a1 w1
  injection w1 with a2 w1
  injection w1 with a3 w1
  injection w1 with a4 _
  injection a1 with a1
  injection a2 with a2
  injection a3 with a3
  injection a4 with a4
  subst a1 a2 a3 a4
  exact w
section ROP3
variable {D : va_G} {I : FieldType → ClassId} {P P1 : List Nat} {F F1 : Nat → va_E} {γ el : Nat → Nat → Nat} {l x c e e1 n1 k lb lr b n : Nat} {rn md rn1 md1 : Int32}
theorem RS_rown {m1 z1 : Int32} {f1 : Nat → Option Nat} (hT : RS D I P F γ el) (hs : rSub P P1) (hc : γ 0 c = 9) (hF : F c = .inr (18, [.ref lb, .ref lr, .int rn, .int md])) (heq : rn.toInt = γ 2 lr) (hx : γ 0 x = 0) (hxP : x ∈ P1) (he1 : (γ 0 e1 = 8 ∧ γ 3 e1 = lr ∧ γ 1 e1 = γ 1 lr) ∨ γ 0 e1 = 0) (heP : e1 ∈ P1) (hxe : x ≠ e1)
    (hfr : ∀ b, γ 0 b ≠ 0 → b ≠ c → b ≠ lr → b ≠ e1 → F1 b = F b) (c1 : F1 c = .inr (18, [.ref lb, .ref lr, .int rn1, .int md])) (c2 : rn1.toInt = rn.toInt + 1) (c3 : rkR (F1 x))
    (q1 : F1 lr = .inr (4, [.int m1, .ref e1, .int z1])) (q2 : z1.toInt = γ 2 lr + 1) (q3 : F1 e1 = .inl (I (.object "java/lang/Object"), n1, .inr (.inr (.inr (.inr f1)))))
    (d1 : γ 2 lr + 1 ≤ n1) (d2 : (n1 : Int) ≤ 1000000) (d3 : 2 * n1 ≤ 3 * max (γ 17 lr) (γ 2 lr + 1) + 20) (d4 : 10 ≤ n1)
    (g1 : ∀ j, j < γ 2 lr → f1 j = some (el lr j)) (g2 : f1 (γ 2 lr) = some x) (g4 : ∀ j w, f1 j = some w → rLK γ w ∨ w = x) :
    RS D I P1 F1 (gRwn γ lr x e1 n1 (γ 1 c)) (eIns el lr (γ 2 lr) x) ∧ γ 16 (γ 1 c) = rn.toInt.toNat := by
  obtain ⟨w2, w3, w4, w5, w6, w7, w8, w9, w10, w11, w12, w13, w14, w15, w16, w17⟩ := rk9_at hF (show rk_9 γ el c (F c) from RS_o hT hc)
  refine ⟨?_, by have := w17.1; omega⟩
  have h5 : rk_5 D I γ el F lr := RS_o hT w5
  have h4 : rk_4 D I γ el F lb := RS_o hT w3
  have hcx : c ≠ x := fun q => by rw [q] at hc; omega
  have hlrx : lr ≠ x := fun q => by rw [q] at w5; omega
  have hlbx : lb ≠ x := fun q => by rw [q] at w3; omega
  have hce : c ≠ e1 := fun q => by rw [← q] at he1; omega
  have hlre : lr ≠ e1 := fun q => by rw [← q] at he1; omega
  have hclr : c ≠ lr := fun q => by rw [q] at hc; omega
  have hlblr : lb ≠ lr := fun q => by rw [q] at w3; omega
  have k0 : ∀ b, γ 0 b ≠ 0 → (gRwn γ lr x e1 n1 (γ 1 c)) 0 b = γ 0 b := fun b h0 => by
    show (if b = x then 101 else if b = e1 then 8 else γ 0 b) = _
    rw [if_neg (fun q => by subst q; omega)]
    split
    · next q => subst q; omega
    · rfl
  have k1 : ∀ b, γ 0 b ≠ 0 → (gRwn γ lr x e1 n1 (γ 1 c)) 1 b = γ 1 b := fun b h0 => by
    show (if b = x then γ 1 c else if b = e1 then γ 1 c else γ 1 b) = _
    rw [if_neg (fun q => by subst q; omega)]
    split
    · next q => subst q; omega
    · rfl
  have k3 : ∀ b, γ 0 b ≠ 0 → (gRwn γ lr x e1 n1 (γ 1 c)) 3 b = γ 3 b := fun b h0 => by
    show (if b = e1 then lr else γ 3 b) = _
    split
    · next q => subst q; omega
    · rfl
  have k8 : ∀ b, γ 0 b ≠ 0 → (gRwn γ lr x e1 n1 (γ 1 c)) 8 b = γ 8 b := fun b h0 => if_neg (fun q => by subst q; omega)
  have k22 : ∀ b, γ 0 b ≠ 0 → (gRwn γ lr x e1 n1 (γ 1 c)) 22 b = γ 22 b := fun b h0 => if_neg (fun q => by subst q; omega)
  have hlk : ∀ w, rLK γ w → rLK (gRwn γ lr x e1 n1 (γ 1 c)) w := fun w hw => by
    have := k0 w (by unfold rLK at hw; omega)
    unfold rLK at hw ⊢
    rw [this]
    exact hw
  have z2 : (gRwn γ lr x e1 n1 (γ 1 c)) 2 lr = γ 2 lr + 1 := if_pos rfl
  have z13 : (gRwn γ lr x e1 n1 (γ 1 c)) 13 lr = n1 := if_pos rfl
  have z17 : (gRwn γ lr x e1 n1 (γ 1 c)) 17 lr = max (γ 17 lr) (γ 2 lr + 1) := if_pos rfl
  have b2 : (gRwn γ lr x e1 n1 (γ 1 c)) 2 lb = γ 2 lb := if_neg hlblr
  have x0 : (gRwn γ lr x e1 n1 (γ 1 c)) 0 x = 101 := if_pos rfl
  have e16 : (gRwn γ lr x e1 n1 (γ 1 c)) 16 (γ 1 c) = γ 16 (γ 1 c) + 1 := if_pos rfl
  have e18 : (gRwn γ lr x e1 n1 (γ 1 c)) 18 (γ 1 c) = γ 18 (γ 1 c) + 1 := if_pos rfl
  have ze : ∀ i, eIns el lr (γ 2 lr) x lr i = if i < γ 2 lr then el lr i else if i = γ 2 lr then x else el lr (i - 1) := fun i => if_pos rfl
  refine RS_gen (T := fun a => a = c ∨ a = lr ∨ a = x ∨ a = e1) (γ 1 c) hT (fun a ha => ?_) (fun a ha hTa => ?_) (fun a ha hTa => ?_) (fun b hb hTb => ?_) (fun b h4 _ => k0 b (by omega)) (fun b h0 _ => k0 b h0) hlk (fun j b h0 hj => ?_) (fun j hj => ?_) (fun j g hg hj => ?_) (Or.inl (Nat.le_refl _)) (Or.inl ⟨Nat.le_refl _, Or.inl rfl⟩) (fun g _ h => h) (fun b h0 hTb => ?_) (fun e' he' hTe => ?_) (fun b h0 hTb hb => ⟨rfl, rfl⟩) (fun a ha haf => Or.inl (RS_same_c hT hc ha haf)) (Or.inr ⟨fun b h0 => Or.inl (k0 b h0), fun b hb hne => absurd ((k0 b (by omega)).trans hb) hne, fun b hb hne h22 => absurd ((k0 b (by omega)).trans hb) hne⟩)
  · by_cases q : a = x
    · rw [q]; exact hxP
    · by_cases q2 : a = e1
      · rw [q2]; exact heP
      · change (if a = x then 101 else if a = e1 then 8 else γ 0 a) ≠ 0 at ha
        rw [if_neg q, if_neg q2] at ha
        exact hs a (hT.1 a ha)
  · by_cases ec : a = c
    · subst ec
      rw [k0 a (by omega), hc]
      refine ⟨lb, lr, rn1, md, c1, ⟨w2.1, w2.2.1, by rw [k1 a (by omega)]; exact w2.2.2⟩, (k0 lb (by omega)).trans w3, ?_, (k0 lr (by omega)).trans w5, ?_, by omega, by rw [z2]; omega, w9, by rw [b2]; exact w10, by rw [z2]; omega, by rw [b2]; exact w12, by rw [k1 a (by omega)]; exact w13, fun i hi => ?_, fun i hi hi2 => ?_, fun i hi hi2 => ?_, ?_⟩
      · unfold rFm; rw [k1 lb (by omega), k1 a (by omega)]; exact w4
      · unfold rFm; rw [k1 lr (by omega), k1 a (by omega)]; exact w6
      · rw [eIns_ne hlblr, k1 a (by omega)]
        have q := w14 i hi
        rw [k0 (el lb i) (by omega)]
        exact q
      · rw [b2] at hi2
        rw [eIns_ne hlblr]
        have q := w15 i hi hi2
        rw [k0 (el lb i) (by omega)]
        exact q
      · rw [z2] at hi2
        have := w16
        omega
      · unfold rCd
        rw [k1 a (by omega), e16, e18, eIns_ne hlblr]
        have r := w17.1
        refine ⟨by omega, ?_⟩
        have hs2 : rsum (fun i => (gRwn γ lr x e1 n1 (γ 1 a)) 2 ((gRwn γ lr x e1 n1 (γ 1 a)) 14 (el lb i))) md.toInt.toNat = rsum (fun i => γ 2 (γ 14 (el lb i))) md.toInt.toNat := rsum_c _ (fun i hi => by
          show (if γ 14 (el lb i) = lr then γ 2 lr + 1 else γ 2 (γ 14 (el lb i))) = _
          rw [if_neg]
          intro q
          have r2 : γ 0 (γ 14 (el lb i)) = 3 := by
            rcases w14 i (by omega) with r | ⟨-, r⟩
            · obtain ⟨l', n', p', s', v1, v2, v3, -⟩ := show rk_2 γ (el lb i) (F (el lb i)) from RS_o hT r
              rw [v2.1]; exact v3
            · obtain ⟨l', n', p', s', v1, v2, v3, -⟩ := show rk_202 γ (el lb i) (F (el lb i)) from RS_o hT r
              rw [v2.1]; exact v3
          rw [q] at r2
          omega)
        rw [hs2]
        have := w17.2
        omega
    by_cases el' : a = lr
    · subst el'
      rw [k0 a (by omega), w5]
      refine ⟨⟨m1, z1, e1, q1, by rw [z2]; omega, by rw [z2]; omega, Or.inr ⟨?_, ⟨if_pos rfl, ?_⟩, n1, f1, q3, by rw [z2]; exact d1, d2, ⟨z13.symm, d4⟩, fun i hi => ?_, fun j w hj => ?_⟩, ?_⟩, fun i hi => ?_⟩
      · show (if e1 = x then 101 else if e1 = e1 then 8 else γ 0 e1) = 8
        rw [if_neg (Ne.symm hxe), if_pos rfl]
      · rw [k1 a (by omega)]
        show (if e1 = x then γ 1 c else if e1 = e1 then γ 1 c else γ 1 e1) = _
        rw [if_neg (Ne.symm hxe), if_pos rfl]
        exact w6.symm
      · rw [z2] at hi
        rw [ze]
        split
        · next q => exact g1 i q
        · next q =>
          have e3 : i = γ 2 a := by omega
          rw [if_pos e3, e3]
          exact g2
      · rcases g4 j w hj with h | h
        · exact hlk w h
        · rw [h]; exact Or.inr (Or.inr (Or.inl x0))
      · unfold rCp
        rw [z2, z13, z17]
        omega
      · rw [z2] at hi
        rw [ze]
        split
        · next q =>
          obtain ⟨v1, v2, v3, v4⟩ := h5.2 i q
          rw [k0 _ (by omega), k1 _ (by omega), k1 a (by omega), k8 _ (by omega), k22 _ (by omega)]
          exact ⟨v1, v2, v3, v4⟩
        · next q =>
          have e3 : i = γ 2 a := by omega
          rw [if_pos e3, k1 a (by omega)]
          exact ⟨Or.inr x0, (if_pos rfl : (gRwn γ a x e1 n1 (γ 1 c)) 1 x = γ 1 c).trans w6.symm, (if_pos rfl : (gRwn γ a x e1 n1 (γ 1 c)) 8 x = γ 2 a).trans e3.symm, if_pos rfl⟩
    by_cases ex : a = x
    · subst ex
      rw [x0]
      exact c3
    · have ee : a = e1 := by rcases hTa with h | h | h | h; exact absurd h ec; exact absurd h el'; exact absurd h ex; exact h
      subst ee
      have e0 : (gRwn γ lr x a n1 (γ 1 c)) 0 a = 8 := (if_neg ex).trans (if_pos rfl)
      rw [e0]
      exact trivial
  · have hx' : a ≠ x := fun q => hTa (Or.inr (Or.inr (Or.inl q)))
    have he' : a ≠ e1 := fun q => hTa (Or.inr (Or.inr (Or.inr q)))
    change (if a = x then 101 else if a = e1 then 8 else γ 0 a) ≠ 0 at ha
    rw [if_neg hx', if_neg he'] at ha
    exact ⟨ha, k0 a ha, hfr a ha (fun q => hTa (Or.inl q)) (fun q => hTa (Or.inr (Or.inl q))) he'⟩
  · rcases hTb with rfl | rfl | rfl | rfl
    · rfl
    · exact w6
    · omega
    · omega
  · rcases hj with rfl | rfl | rfl | rfl | rfl | rfl | rfl
    · exact k1 b h0
    · exact k3 b h0
    · exact k8 b h0
    · rfl
    · rfl
    · rfl
    · exact k22 b h0
  · rcases hj with rfl | rfl | rfl | rfl | rfl <;> rfl
  · rcases hj with rfl | rfl | rfl | rfl | rfl
    · rfl
    · rfl
    · exact if_neg hg
    · exact if_neg hg
    · rfl
  · have hl' : b ≠ lr := fun q => hTb (Or.inr (Or.inl q))
    exact ⟨if_neg hl', if_neg hl', if_neg hl', eIns_ne hl'⟩
  · refine hfr e' (by omega) (fun q => by subst q; omega) (fun q => by subst q; omega) (fun q => hTe (Or.inr (Or.inl ?_)))
    subst q
    omega
end ROP3
end
section
/-! blocks of the store, ends, beginnings -/
def gBlo (γ : Nat → Nat → Nat) (b l : Nat) : Nat → Nat → Nat
  | 0 => fun a => if a = b then 202 else if a = l then 3 else γ 0 a
  | 2 => fun a => if a = l then 0 else γ 2 a
  | j => γ j
def gBln (γ : Nat → Nat → Nat) (lb b l n e1 n1 f : Nat) : Nat → Nat → Nat
  | 0 => fun a => if a = b then 202 else if a = l then 3 else if a = n then 101 else if a = e1 then 7 else γ 0 a
  | 1 => fun a => if a = b ∨ a = l ∨ a = n ∨ a = e1 then f else γ 1 a
  | 2 => fun a => if a = l then 0 else if a = lb then γ 2 lb + 1 else γ 2 a
  | 3 => fun a => if a = e1 then lb else γ 3 a
  | 4 => fun a => if a = n then b else γ 4 a
  | 8 => fun a => if a = b then γ 2 lb else γ 8 a
  | 13 => fun a => if a = l then 0 else if a = lb then n1 else γ 13 a
  | 14 => fun a => if a = b then l else γ 14 a
  | 15 => fun a => if a = b then n else γ 15 a
  | 17 => fun a => if a = l then 0 else if a = lb then max (γ 17 lb) (γ 2 lb + 1) else γ 17 a
  | 20 => fun a => if a = l then b else γ 20 a
  | 22 => fun a => if a = n then 1 else γ 22 a
  | j => γ j
def gSea (γ : Nat → Nat → Nat) (b n : Nat) : Nat → Nat → Nat
  | 0 => fun a => if a = b then 2 else if a = n then 1 else γ 0 a
  | j => γ j
/-- the array of an empty list -/
def rEc (D : va_G) (I : FieldType → ClassId) (γ : Nat → Nat → Nat) (F1 : Nat → va_E) (l e E : Nat) : Prop := (E = D.2 1002 1 ∧ γ 13 l = 0) ∨ (E = e ∧ γ 0 e = 6 ∧ γ 3 e = l ∧ γ 1 e = γ 1 l ∧ ∃ (n1 : Nat) (f1 : Nat → Option Nat), F1 e = .inl (I (.object "java/lang/Object"), n1, .inr (.inr (.inr (.inr f1)))) ∧ (n1 : Int) ≤ 1000000 ∧ (n1 = γ 13 l ∧ 10 ≤ n1) ∧ ∀ j w, f1 j = some w → rLK γ w)
section ROP4
variable {D : va_G} {I : FieldType → ClassId} {P P1 : List Nat} {F F1 : Nat → va_E} {γ el : Nat → Nat → Nat} {l x c e e1 n1 k lb lr b n : Nat} {rn md rn1 md1 : Int32}
theorem rk102_at {p s : Int32} {q : va_E} (hF : q = .inr (17, [.ref l, .ref n, .int p, .int s])) (h : rk_102 γ b q) : rGl γ b l n ∧ γ 0 l = 103 ∧ γ 1 l = γ 1 b ∧ γ 0 n = 101 ∧ γ 1 n = γ 1 b ∧ rOw γ n b ∧ gB p 0 39 ∧ gB s 0 39 := by
  obtain ⟨l', n', p', s', w1, w⟩ := h
  rw [hF] at w1
  injection w1 with w1
  injection w1 with _ w1
  injection w1 with a1 w1
  injection w1 with a2 w1
  injection w1 with a3 w1
  injection w1 with a4 _
  injection a1 with a1
  injection a2 with a2
  injection a3 with a3
  injection a4 with a4
  subst a1 a2 a3 a4
  exact w
theorem rk202_at {p s : Int32} {q : va_E} (hF : q = .inr (17, [.ref l, .ref n, .int p, .int s])) (h : rk_202 γ b q) : rGl γ b l n ∧ γ 0 l = 3 ∧ γ 1 l = γ 1 b ∧ γ 0 n = 101 ∧ γ 1 n = γ 1 b ∧ rOw γ n b ∧ gB p 0 39 ∧ gB s 0 39 := by
  obtain ⟨l', n', p', s', w1, w⟩ := h
  rw [hF] at w1
  injection w1 with w1
  injection w1 with _ w1
  injection w1 with a1 w1
  injection w1 with a2 w1
  injection w1 with a3 w1
  injection w1 with a4 _
  injection a1 with a1
  injection a2 with a2
  injection a3 with a3
  injection a4 with a4
  subst a1 a2 a3 a4
  exact w
/-- the block behind the last one in use is taken, its list empty then -/
theorem RS_blko {m1 p s : Int32} {E : Nat} (hT : RS D I P F γ el) (hc : γ 0 c = 9) (hF : F c = .inr (18, [.ref lb, .ref lr, .int rn, .int md])) (hv : γ 6 (γ 1 c) = 0) (hlt : md.toInt < γ 2 lb) (hb : b = el lb md.toInt.toNat) (hFb : F b = .inr (17, [.ref l, .ref n, .int p, .int s]))
    (he : e = l ∨ (γ 0 e = 6 ∧ γ 3 e = l ∧ γ 1 e = γ 1 l)) (hfr : ∀ a, γ 0 a ≠ 0 → a ≠ c → a ≠ l → a ≠ e → F1 a = F a) (c1 : F1 c = .inr (18, [.ref lb, .ref lr, .int rn, .int md1])) (c2 : md1.toInt = md.toInt + 1)
    (q1 : F1 l = .inr (4, [.int m1, .ref E, .int 0])) (q2 : rEc D I γ F1 l e E) :
    RS D I P F1 (gBlo γ b l) el ∧ γ 0 b = 102 ∧ γ 1 b = γ 1 c ∧ γ 14 b = l ∧ γ 15 b = n ∧ γ 8 b = md.toInt.toNat := by
  obtain ⟨w2, w3, w4, w5, w6, w7, w8, w9, w10, w11, w12, w13, w14, w15, w16, w17⟩ := rk9_at hF (show rk_9 γ el c (F c) from RS_o hT hc)
  have h4 : rk_4 D I γ el F lb := RS_o hT w3
  have hi : md.toInt.toNat < γ 2 lb := by omega
  have hb0 : γ 0 b = 102 := by rw [hb]; exact w15 _ (by omega) hi
  obtain ⟨-, b1, b8⟩ := h4.2 _ hi
  rw [← hb] at b1 b8
  obtain ⟨u1, u2, u3, u4, u5, u6, u7, u8⟩ := rk102_at hFb (show rk_102 γ b (F b) from RS_o hT hb0)
  have hbc : γ 1 b = γ 1 c := b1.trans w4
  refine ⟨?_, hb0, hbc, u1.1, u1.2.1, b8⟩
  have hlL : rkL D I γ el F 6 l := RS_o hT u2
  have hbl : b ≠ l := fun q => by rw [q] at hb0; omega
  have hcb : c ≠ b := fun q => by rw [q] at hc; omega
  have hcl : c ≠ l := fun q => by rw [q] at hc; omega
  have hlbl : lb ≠ l := fun q => by rw [q] at w3; omega
  have hlrl : lr ≠ l := fun q => by rw [q] at w5; omega
  have k0 : ∀ a, a ≠ b → a ≠ l → (gBlo γ b l) 0 a = γ 0 a := fun a h1 h2 => (if_neg h1).trans (if_neg h2)
  have kb : (gBlo γ b l) 0 b = 202 := if_pos rfl
  have kl : (gBlo γ b l) 0 l = 3 := (if_neg (Ne.symm hbl)).trans (if_pos rfl)
  have hlk : ∀ w, rLK γ w → rLK (gBlo γ b l) w := fun w hw => by
    by_cases q : w = b
    · rw [q]; exact Or.inr (Or.inr (Or.inr (Or.inr kb)))
    · have q2 : w ≠ l := fun q2 => by subst q2; unfold rLK at hw; omega
      unfold rLK at hw ⊢
      rw [k0 w q q2]
      exact hw
  have z2 : (gBlo γ b l) 2 l = 0 := if_pos rfl
  have kE : γ 0 e = 6 → (gBlo γ b l) 0 e = 6 := fun h => (k0 e (fun q => by rw [q] at h; omega) (fun q => by rw [q] at h; omega)).trans h
  have hce : c ≠ e := fun q => by subst q; omega
  have hbe : b ≠ e := fun q => by subst q; omega
  refine RS_gen (T := fun a => a = c ∨ a = b ∨ a = l ∨ a = e) (γ 1 c) hT (fun a ha => ?_) (fun a ha hTa => ?_) (fun a ha hTa => ?_) (fun a h0 hTa => ?_) (fun a h4 h100 => k0 a (fun q => by subst q; omega) (fun q => by subst q; omega)) (fun a h0 hf => k0 a (fun q => by subst q; exact hf hbc) (fun q => by subst q; exact hf (u3.trans hbc))) hlk (fun j a h0 hj => ?_) (fun j hj => ?_) (fun j g hg hj => ?_) (Or.inl (Nat.le_refl _)) (Or.inl ⟨Nat.le_refl _, Or.inl rfl⟩) (fun g _ h => h) (fun a h0 hTa => ?_) (fun e' he' hTe => ?_) (fun a h0 hTa ha => ⟨rfl, rfl⟩) (fun a ha haf => Or.inl (RS_same_c hT hc ha haf)) (Or.inr ⟨fun a h0 => ?_, fun a ha hne => ?_, fun a ha hne h22 => ?_⟩)
  · by_cases qb : a = b
    · rw [qb]; exact hT.1 b (by omega)
    · by_cases ql : a = l
      · rw [ql]; exact hT.1 l (by omega)
      · rw [k0 a qb ql] at ha; exact hT.1 a ha
  · by_cases ec : a = c
    · subst ec
      rw [k0 a hcb hcl, hc]
      have b2 : (gBlo γ b l) 2 lb = γ 2 lb := if_neg hlbl
      have r2 : (gBlo γ b l) 2 lr = γ 2 lr := if_neg hlrl
      have kbi : ∀ i, i < γ 2 lb → i ≠ md.toInt.toNat → (gBlo γ b l) 0 (el lb i) = γ 0 (el lb i) := fun i hi1 hne => by
        obtain ⟨v1, v2, v3⟩ := h4.2 i hi1
        exact k0 _ (fun q => by rw [q] at v3; omega) (fun q => by rw [q] at v1; omega)
      refine ⟨lb, lr, rn, md1, c1, w2, (k0 lb (fun q => by rw [q] at w3; omega) hlbl).trans w3, w4, (k0 lr (fun q => by rw [q] at w5; omega) hlrl).trans w5, w6, w7, by rw [r2]; exact w8, by omega, by rw [b2]; omega, by rw [r2]; exact w11, by rw [b2]; exact w12, Or.inl hv, fun i hi1 => ?_, fun i hi1 hi2 => ?_, fun i hi1 hi2 => ?_, w17.1, ?_⟩
      · by_cases q : i = md.toInt.toNat
        · rw [q, ← hb]
          exact Or.inr ⟨hv, kb⟩
        · rw [kbi i (by omega) q]
          exact w14 i (by omega)
      · rw [b2] at hi2
        rw [kbi i hi2 (by omega)]
        exact w15 i (by omega) hi2
      · rw [r2] at hi2
        have v := w16 i hi1 hi2
        rw [k0 _ (fun q => by rw [q] at v; omega) (fun q => by rw [q] at v; omega)]
        exact v
      · have e1 : md1.toInt.toNat = md.toInt.toNat + 1 := by omega
        rw [e1]
        show rsum (fun i => (gBlo γ b l) 2 (γ 14 (el lb i))) md.toInt.toNat + (gBlo γ b l) 2 (γ 14 (el lb md.toInt.toNat)) + γ 18 (γ 1 a) ≤ γ 16 (γ 1 a)
        rw [← hb, u1.1, z2]
        have hsum : rsum (fun i => (gBlo γ b l) 2 (γ 14 (el lb i))) md.toInt.toNat = rsum (fun i => γ 2 (γ 14 (el lb i))) md.toInt.toNat := rsum_c _ (fun i hi1 => if_neg (fun q => by
          have : i = md.toInt.toNat := RS_inj hT w3 (by omega) hi (by rw [q, ← hb, u1.1])
          omega))
        have := w17.2
        omega
    by_cases eb : a = b
    · subst eb
      rw [kb]
      exact ⟨l, n, p, s, (hfr a (by omega) (Ne.symm hcb) hbl hbe).trans hFb, u1, kl, u3, (k0 n (fun q => by rw [q] at u4; omega) (fun q => by rw [q] at u4; omega)).trans u4, u5, u6, u7, u8⟩
    by_cases el' : a = l
    · subst el'
      rw [kl]
      obtain ⟨m, z, e', v1, v2, v3, v4, v5⟩ := hlL
      refine ⟨⟨m1, 0, E, q1, by rw [z2]; rfl, by rw [z2]; omega, ?_, ?_⟩, fun i hi1 => by rw [z2] at hi1; omega⟩
      · rcases q2 with ⟨q2, q3⟩ | ⟨q0, q2, q3, q4, n1, f1, q5, q6, q7, q8⟩
        · exact Or.inl ⟨q2, z2, q3⟩
        · rw [q0]
          exact Or.inr ⟨kE q2, ⟨q3, q4⟩, n1, f1, q5, by rw [z2]; omega, q6, q7, fun i hi1 => by rw [z2] at hi1; omega, fun j w hj => hlk w (q8 j w hj)⟩
      · unfold rCp at v5 ⊢
        have z17 : (gBlo γ b a) 17 a = γ 17 a := rfl
        have z13 : (gBlo γ b a) 13 a = γ 13 a := rfl
        rw [z2, z17, z13]
        omega
    · have ee : a = e := by rcases hTa with h | h | h | h; exact absurd h ec; exact absurd h eb; exact absurd h el'; exact h
      have e6 : γ 0 e = 6 := by omega
      rw [ee, kE e6]
      exact trivial
  · have hb' : a ≠ b := fun q => hTa (Or.inr (Or.inl q))
    have hl' : a ≠ l := fun q => hTa (Or.inr (Or.inr (Or.inl q)))
    rw [k0 a hb' hl'] at ha
    exact ⟨ha, k0 a hb' hl', hfr a ha (fun q => hTa (Or.inl q)) hl' (fun q => hTa (Or.inr (Or.inr (Or.inr q))))⟩
  · rcases hTa with rfl | rfl | rfl | rfl
    · rfl
    · exact hbc
    · exact u3.trans hbc
    · rcases he with rfl | he
      · exact u3.trans hbc
      · exact he.2.2.trans (u3.trans hbc)
  · rcases hj with rfl | rfl | rfl | rfl | rfl | rfl | rfl <;> rfl
  · rcases hj with rfl | rfl | rfl | rfl | rfl <;> rfl
  · rcases hj with rfl | rfl | rfl | rfl | rfl <;> rfl
  · exact ⟨if_neg (fun q => hTa (Or.inr (Or.inr (Or.inl q)))), rfl, rfl, rfl⟩
  · refine hfr e' (by omega) (fun q => by subst q; omega) (fun q => by subst q; omega) (fun q => hTe (Or.inr (Or.inr (Or.inl ?_))))
    rw [q]
    rcases he with h | h
    · rw [q, h] at he'; omega
    · exact h.2.1
  · by_cases qb : a = b
    · rw [qb, kb]; exact Or.inr (Or.inr (Or.inl ⟨hb0, rfl⟩))
    · by_cases ql : a = l
      · rw [ql, kl]; exact Or.inr (Or.inr (Or.inr (Or.inr ⟨u2, rfl⟩)))
      · exact Or.inl (k0 a qb ql)
  · by_cases ql : a = l
    · rw [ql, u1.2.2]; exact Or.inr (Or.inl rfl)
    · exact absurd ((k0 a (fun q => by subst q; omega) ql).trans ha) hne
  · exact absurd ((k0 a (fun q => by subst q; omega) (fun q => by subst q; omega)).trans ha) hne
end ROP4
end
