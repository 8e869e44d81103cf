section DPQ
variable {D : va_G} {I : FieldType → ClassId} {P : List Nat} {F F1 : Nat → va_E} {γ el : Nat → Nat → Nat} {q0 c : Nat} {Q : gPg}
theorem d75 {c1 s2 e1 : Int64} {l4 s1 : Int32} {kx : Nat} (hT : RS D I P F γ el) (hc9 : γ 0 c = 9) (hB2 : ∀ i, i < Q.1 → γ 0 (el (γ 14 c) i) = 2) (hq : rfW γ el F c Q) (hO : qOk Q) (h40 : Q.1 ≤ 40) (hl4 : 0 ≤ l4.toInt) (h : tl_RModel_findDepth2_75 D I γ el F c c1 l4 s1 s2 kx e1) : 0 ≤ s1.toInt → ∀ b, b < 64 → (bt e1 b = true ↔ bt s2 b = true ∨ (s1.toInt ≤ (b : Int) ∧ b < Q.1 ∧ bt c1 b = true ∧ Ed Q b l4.toInt.toNat)) := by
  refine h (fun s1 s2 _ e1 => 0 ≤ s1.toInt → ∀ b, b < 64 → (bt e1 b = true ↔ bt s2 b = true ∨ (s1.toInt ≤ (b : Int) ∧ b < Q.1 ∧ bt c1 b = true ∧ Ed Q b l4.toInt.toNat))) ?_ ?_ ?_ ?_
  · intro l9_2 l7_2 x1 h1 h2 h3
    intro h0
    have ex : x1.toInt = (Q.1 : Int) := by rw [← h2]; exact hq.1
    exact fun b hb => ⟨Or.inl, fun z => z.elim id (fun w => absurd w.2.1 (by have := h3; omega))⟩
  · intro l9_2 l7_2 x1 x2 x3 x4 k e1 h1 h2 h3 h4 h5 h6 h7 ih
    intro h0
    have ex : x1.toInt = (Q.1 : Int) := by rw [← h2]; exact hq.1
    have hlt := h3
    have hi : l9_2.toInt.toNat < Q.1 := by omega
    have i1 := ih (by omega)
    have hb0 := (bt_sh h4 h5 h0 (by omega)).1 h6
    intro b hb
    rw [i1 b hb]
    by_cases e : (b : Int) = l9_2.toInt
    · have e2 : b = l9_2.toInt.toNat := by omega
      rw [e2]
      refine or_congr_right ⟨fun z => absurd z.1 (by omega), fun z => ?_⟩
      rw [hb0] at z
      exact absurd z.2.2.1 (by decide)
    · constructor
      · rintro (z | z)
        · exact Or.inl z
        · exact Or.inr ⟨by omega, z.2⟩
      · rintro (z | z)
        · exact Or.inl z
        · exact Or.inr ⟨by omega, z.2⟩
  · intro l9_2 l7_2 x1 x2 x3 x4 x5 x6 x7 x8 k e1 h1 h2 h3 h4 h5 h6 h7 h8 h9 h10 h11 h12 h13 h14 ih
    intro h0
    have ex : x1.toInt = (Q.1 : Int) := by rw [← h2]; exact hq.1
    have hlt := h3
    have hi : l9_2.toInt.toNat < Q.1 := by omega
    have i1 := ih (by omega)
    have hb1 := (bt_sh h4 h5 h0 (by omega)).2 h6
    obtain ⟨e5, -⟩ := blk_c (x4 := 0) (x5 := 0) (x6 := 0) (x7 := 0) (x8 := 0) (l := l9_2) hT hc9 hB2 hi h7 h8
    have hl := h12
    rw [e5] at hl
    have hl2 := lea_tr hT (hB2 _ hi) hq hO hi hl4 hl
    have hne : ¬ Ed Q l9_2.toInt.toNat l4.toInt.toNat := by rcases hl2 with z | z; exact z.2; exact absurd z.1 (by have := h13; omega)
    intro b hb
    rw [i1 b hb]
    by_cases e : (b : Int) = l9_2.toInt
    · have e2 : b = l9_2.toInt.toNat := by omega
      rw [e2]
      exact or_congr_right ⟨fun z => absurd z.1 (by omega), fun z => absurd z.2.2.2 hne⟩
    · constructor
      · rintro (z | z)
        · exact Or.inl z
        · exact Or.inr ⟨by omega, z.2⟩
      · rintro (z | z)
        · exact Or.inl z
        · exact Or.inr ⟨by omega, z.2⟩
  · intro l9_2 l7_2 x1 x2 x3 x4 x5 x6 x7 x8 x9 x10 k e1 h1 h2 h3 h4 h5 h6 h7 h8 h9 h10 h11 h12 h13 h14 h15 h16 ih
    intro h0
    have ex : x1.toInt = (Q.1 : Int) := by rw [← h2]; exact hq.1
    have hlt := h3
    have hi : l9_2.toInt.toNat < Q.1 := by omega
    have i1 := ih (by omega)
    have hb1 := (bt_sh h4 h5 h0 (by omega)).2 h6
    obtain ⟨e5, -⟩ := blk_c (x4 := 0) (x5 := 0) (x6 := 0) (x7 := 0) (x8 := 0) (l := l9_2) hT hc9 hB2 hi h7 h8
    have hl := h12
    rw [e5] at hl
    have hl2 := lea_tr hT (hB2 _ hi) hq hO hi hl4 hl
    have hE : Ed Q l9_2.toInt.toNat l4.toInt.toNat := by rcases hl2 with z | z; exact absurd z.1 h13; exact z.2
    have hor : ∀ b, b < 64 → bt x9 b = (bt l7_2 b || decide (b = l9_2.toInt.toNat)) := fun b hb => bt_or h14 h15 h0 (by omega) hb
    intro b hb
    rw [i1 b hb, hor b hb, Bool.or_eq_true, decide_eq_true_eq]
    by_cases e : (b : Int) = l9_2.toInt
    · have e2 : b = l9_2.toInt.toNat := by omega
      rw [e2]
      exact ⟨fun _ => Or.inr ⟨by omega, hi, hb1, hE⟩, fun _ => Or.inl (Or.inr rfl)⟩
    · constructor
      · rintro (z | z)
        · exact z.elim Or.inl (fun w => absurd w (by omega))
        · exact Or.inr ⟨by omega, z.2⟩
      · rintro (z | z)
        · exact Or.inl (Or.inl z)
        · exact Or.inr ⟨by omega, z.2⟩
theorem d199 {l7 : Int64} {l10 l4 s1 s2 e1 : Int32} {kx : Nat} (hT : RS D I P F γ el) (hc9 : γ 0 c = 9) (hB2 : ∀ i, i < Q.1 → γ 0 (el (γ 14 c) i) = 2) (hq : rfW γ el F c Q) (hO : qOk Q) (h40 : Q.1 ≤ 40) (hi : l10.toInt.toNat < Q.1) (h : tl_RModel_findDepth2_199 D I γ el F c l10 l4 l7 s1 s2 kx e1) : 0 ≤ s1.toInt → (e1.toInt ≠ 0 ↔ s2.toInt ≠ 0 ∨ ∃ j : Int, s1.toInt ≤ j ∧ j < bW F γ el c l10.toInt.toNat ∧ wv (bF F γ el c l10.toInt.toNat) (bS F γ el c l10.toInt.toNat) j ≠ l4.toInt ∧ bt l7 (wv (bF F γ el c l10.toInt.toNat) (bS F γ el c l10.toInt.toNat) j).toNat = true) := by
  refine h (fun s1 s2 _ e1 => 0 ≤ s1.toInt → (e1.toInt ≠ 0 ↔ s2.toInt ≠ 0 ∨ ∃ j : Int, s1.toInt ≤ j ∧ j < bW F γ el c l10.toInt.toNat ∧ wv (bF F γ el c l10.toInt.toNat) (bS F γ el c l10.toInt.toNat) j ≠ l4.toInt ∧ bt l7 (wv (bF F γ el c l10.toInt.toNat) (bS F γ el c l10.toInt.toNat) j).toNat = true)) ?_ ?_ ?_ ?_ ?_
  · intro l12_4 l11_4 x1 x2 x3 x4 x5 x6 x7 x8 h1 h2 h3 h4 h5 h6 h7 h8 h9 h10 h11 h12 h13
    intro h0
    obtain ⟨e2, eB⟩ := blk_c (l := l10) hT hc9 hB2 hi h3 h4
    obtain ⟨e4, e5, e8⟩ := eB h7 h8 h9 h10 h12
    exact ⟨Or.inl, fun z => z.elim id (fun ⟨j, w1, w2, _⟩ => absurd w2 (by have := h13; omega))⟩
  · intro l12_4 l11_4 x1 x2 x3 x4 x5 x6 x7 x8 x9 k e1 h1 h2 h3 h4 h5 h6 h7 h8 h9 h10 h11 h12 h13 h14 h15 ih
    intro h0
    obtain ⟨e2, eB⟩ := blk_c (l := l10) hT hc9 hB2 hi h3 h4
    obtain ⟨e4, e5, e8⟩ := eB h7 h8 h9 h10 h12
    have hlt := h13
    have i1 := ih (by omega)
    have z := i1.mpr (Or.inl (by decide))
    exact ⟨fun _ => Or.inl h14, fun _ => z⟩
  · intro l12_4 l11_4 x1 x2 x3 x4 x5 x6 x7 x8 x9 x10 k e1 h1 h2 h3 h4 h5 h6 h7 h8 h9 h10 h11 h12 h13 h14 h15 h16 h17 h18 h19 ih
    intro h0
    obtain ⟨e2, eB⟩ := blk_c (l := l10) hT hc9 hB2 hi h3 h4
    obtain ⟨e4, e5, e8⟩ := eB h7 h8 h9 h10 h12
    have hlt := h13
    have i1 := ih (by omega)
    have hl0 := h14
    have ey := wy_v h17
    rw [e4, e5] at ey
    have yb := wy_b hT (hB2 _ hi) l12_4.toInt
    rw [← ey] at yb
    rw [i1]
    constructor
    · rintro (z | ⟨j, w1, w2⟩)
      · exact absurd z (by decide)
      · exact Or.inr ⟨j, by omega, w2⟩
    · rintro (z | ⟨j, w1, w2⟩)
      · exact absurd hl0 z
      · refine Or.inr ⟨j, ?_, w2⟩
        refine Classical.byContradiction fun hn => ?_
        have e : j = l12_4.toInt := by omega
        rw [e, ← ey] at w2
        exact w2.2.1 h18
  · intro l12_4 l11_4 x1 x2 x3 x4 x5 x6 x7 x8 x9 x10 x11 x12 x13 k e1 h1 h2 h3 h4 h5 h6 h7 h8 h9 h10 h11 h12 h13 h14 h15 h16 h17 h18 h19 h20 h21 h22 h23 h24 h25 ih
    intro h0
    obtain ⟨e2, eB⟩ := blk_c (l := l10) hT hc9 hB2 hi h3 h4
    obtain ⟨e4, e5, e8⟩ := eB h7 h8 h9 h10 h12
    have hlt := h13
    have i1 := ih (by omega)
    have hl0 := h14
    have ey := wy_v h17
    rw [e4, e5] at ey
    have yb := wy_b hT (hB2 _ hi) l12_4.toInt
    rw [← ey] at yb
    have ey2 := wy_v h21
    rw [e4, e5, ← ey] at ey2
    have hb := (bt_sh h22 h23 (by omega) (by omega)).1 h24
    rw [i1]
    constructor
    · rintro (z | ⟨j, w1, w2⟩)
      · exact absurd z (by decide)
      · exact Or.inr ⟨j, by omega, w2⟩
    · rintro (z | ⟨j, w1, w2⟩)
      · exact absurd hl0 z
      · refine Or.inr ⟨j, ?_, w2⟩
        refine Classical.byContradiction fun hn => ?_
        have e : j = l12_4.toInt := by omega
        rw [e, ← ey] at w2
        rw [← ey2, hb] at w2
        exact absurd w2.2.2 (by decide)
  · intro l12_4 l11_4 x1 x2 x3 x4 x5 x6 x7 x8 x9 x10 x11 x12 x13 k e1 h1 h2 h3 h4 h5 h6 h7 h8 h9 h10 h11 h12 h13 h14 h15 h16 h17 h18 h19 h20 h21 h22 h23 h24 h25 ih
    intro h0
    obtain ⟨e2, eB⟩ := blk_c (l := l10) hT hc9 hB2 hi h3 h4
    obtain ⟨e4, e5, e8⟩ := eB h7 h8 h9 h10 h12
    have hlt := h13
    have i1 := ih (by omega)
    have hl0 := h14
    have ey := wy_v h17
    rw [e4, e5] at ey
    have yb := wy_b hT (hB2 _ hi) l12_4.toInt
    rw [← ey] at yb
    have ey2 := wy_v h21
    rw [e4, e5, ← ey] at ey2
    have hb := (bt_sh h22 h23 (by omega) (by omega)).2 h24
    have z := i1.mpr (Or.inl (by decide))
    refine ⟨fun _ => Or.inr ⟨l12_4.toInt, Int.le_refl _, by omega, ?_, ?_⟩, fun _ => z⟩
    · rw [← ey]; exact h18
    · rw [← ey, ← ey2]; exact hb
abbrev WkB (Q : gPg) (h b : Nat) : Prop := Wk (fun a b => Ed Q b a) (clo Q h) (fun b => b = h ∨ ¬ rAll Q b) b
def sdB (Q : gPg) (h : Nat) (x : Int64) : Prop := (∀ b, b < 64 → bt x b = true → b = h ∨ WkB Q h b) ∧ bt x h = true
theorem d158 {l72 c1 s3 e2 : Int64} {l4 s1 s2 e1 : Int32} {kx : Nat} (hT : RS D I P F γ el) (hc9 : γ 0 c = 9) (hB2 : ∀ i, i < Q.1 → γ 0 (el (γ 14 c) i) = 2) (hq : rfW γ el F c Q) (hO : qOk Q) (h40 : Q.1 ≤ 40) (hl4 : 0 ≤ l4.toInt ∧ l4.toInt < 40) (hc1 : ∀ b, b < 64 → (bt c1 b = true ↔ rAll Q b)) (h : tl_RModel_findDepth2_158 D I γ el l72 F c c1 l4 s1 s2 s3 kx e1 e2) : 0 ≤ s1.toInt → sdB Q l4.toInt.toNat s3 → sdB Q l4.toInt.toNat e2 ∧ (∀ b, b < 64 → bt s3 b = true → bt e2 b = true) ∧ (e1.toInt = 0 → s2.toInt = 0 ∧ e2 = s3 ∧ ∀ b y : Nat, s1.toInt ≤ (b : Int) → b < Q.1 → rAll Q b → Ed Q b y → y ≠ l4.toInt.toNat → bt s3 y = true → bt s3 b = true) := by
  refine h (fun s1 s2 s3 _ e1 e2 => 0 ≤ s1.toInt → sdB Q l4.toInt.toNat s3 → sdB Q l4.toInt.toNat e2 ∧ (∀ b, b < 64 → bt s3 b = true → bt e2 b = true) ∧ (e1.toInt = 0 → s2.toInt = 0 ∧ e2 = s3 ∧ ∀ b y : Nat, s1.toInt ≤ (b : Int) → b < Q.1 → rAll Q b → Ed Q b y → y ≠ l4.toInt.toNat → bt s3 y = true → bt s3 b = true)) ?_ ?_ ?_ ?_ ?_
  · intro l10_3 l9_3 l7_3 x1 h1 h2 h3 h4 h5 h6
    intro h0 hS
    have ex : x1.toInt = (Q.1 : Int) := by rw [← h5]; exact hq.1
    exact ⟨hS, fun _ _ z => z, fun z => ⟨z, rfl, fun b y h1 h2 => absurd h2 (by have := h6; omega)⟩⟩
  · intro l10_3 l9_3 l7_3 x1 x2 x3 x4 k e1 e2 h1 h2 h3 h4 h5 h6 h7 h8 h9 h10 ih
    intro h0 hS
    have ex : x1.toInt = (Q.1 : Int) := by rw [← h5]; exact hq.1
    have hlt := h6
    have hi : l10_3.toInt.toNat < Q.1 := by omega
    have hb := (bt_sh h7 h8 h0 (by omega)).2 h9
    obtain ⟨i1, i2, i3⟩ := ih (by omega) hS
    refine ⟨i1, i2, fun z => ?_⟩
    obtain ⟨j1, j2, j3⟩ := i3 z
    refine ⟨j1, j2, fun b y q1 q2 q3 q4 q5 q6 => ?_⟩
    by_cases e : (b : Int) = l10_3.toInt
    · have e2 : b = l10_3.toInt.toNat := by omega
      rw [e2]; exact hb
    · exact j3 b y (by omega) q2 q3 q4 q5 q6
  · intro l10_3 l9_3 l7_3 x1 x2 x3 x4 x5 x6 x7 x8 x9 k e1 e2 h1 h2 h3 h4 h5 h6 h7 h8 h9 h10 h11 h12 h13 h14 h15 h16 h17 ih
    intro h0 hS
    have ex : x1.toInt = (Q.1 : Int) := by rw [← h5]; exact hq.1
    have hlt := h6
    have hi : l10_3.toInt.toNat < Q.1 := by omega
    have hb := (bt_sh h7 h8 h0 (by omega)).1 h9
    have hc := (bt_sh h10 h11 h0 (by omega)).2 h12
    have w9 := d199 hT hc9 hB2 hq hO h40 hi h13 (by decide)
    have hor : ∀ b, b < 64 → bt x8 b = (bt l7_3 b || decide (b = l10_3.toInt.toNat)) := fun b hb => bt_or h15 h16 h0 (by omega) hb
    obtain ⟨j, u1, u2, u3, u4⟩ := (w9.mp h14).resolve_left (fun z => z (by decide))
    rw [show Int32.toInt 0 = 0 from by decide] at u1
    have yb := wy_b hT (hB2 _ hi) j
    have hy := (wy_ed hq hO hi _).mp ⟨j, u1, u2, rfl⟩
    have hne : l10_3.toInt.toNat ≠ l4.toInt.toNat := fun e => by rw [e, hS.2] at hb; cases hb
    have hWy := (hS.1 _ (by omega) u4).resolve_left (fun e => u3 (by omega))
    obtain ⟨i1, i2, i3⟩ := ih (by omega) ⟨fun b hb z => by
      rw [hor b hb, Bool.or_eq_true, decide_eq_true_eq] at z
      rcases z with z | z
      · exact hS.1 b hb z
      · rw [z]
        exact Or.inr (Wk_s hWy hy (fun w => w.elim hne (fun w => w ((hc1 _ (by omega)).mp hc)))), by rw [hor _ (by omega), hS.2]; rfl⟩
    exact ⟨i1, fun b hb z => i2 b hb (by rw [hor b hb, z]; rfl), fun z => absurd (i3 z).1 (by decide)⟩
  · intro l10_3 l9_3 l7_3 x1 x2 x3 x4 x5 x6 x7 k e1 e2 h1 h2 h3 h4 h5 h6 h7 h8 h9 h10 h11 h12 h13 h14 h15 ih
    intro h0 hS
    have ex : x1.toInt = (Q.1 : Int) := by rw [← h5]; exact hq.1
    have hlt := h6
    have hi : l10_3.toInt.toNat < Q.1 := by omega
    have hb := (bt_sh h7 h8 h0 (by omega)).1 h9
    have hc := (bt_sh h10 h11 h0 (by omega)).2 h12
    have x60 := h14
    have w9 : ∀ j : Int, 0 ≤ j → j < bW F γ el c l10_3.toInt.toNat → wv (bF F γ el c l10_3.toInt.toNat) (bS F γ el c l10_3.toInt.toNat) j ≠ l4.toInt → bt l7_3 (wv (bF F γ el c l10_3.toInt.toNat) (bS F γ el c l10_3.toInt.toNat) j).toNat = true → False := fun j a1 a2 a3 a4 => (d199 hT hc9 hB2 hq hO h40 hi h13 (by decide)).mpr (Or.inr ⟨j, by rw [show Int32.toInt 0 = 0 from by decide]; exact a1, a2, a3, a4⟩) x60
    obtain ⟨i1, i2, i3⟩ := ih (by omega) hS
    refine ⟨i1, i2, fun z => ?_⟩
    obtain ⟨j1, j2, j3⟩ := i3 z
    refine ⟨j1, j2, fun b y q1 q2 q3 q4 q5 q6 => ?_⟩
    by_cases e : (b : Int) = l10_3.toInt
    · have e2 : b = l10_3.toInt.toNat := by omega
      rw [e2] at q4
      obtain ⟨j, u1, u2, u3⟩ := (wy_ed hq hO hi y).mpr q4
      have yb := wy_b hT (hB2 _ hi) j
      exfalso
      exact w9 j u1 u2 (fun e => q5 (by rw [← u3, e])) (by rw [u3]; exact q6)
    · exact j3 b y (by omega) q2 q3 q4 q5 q6
  · intro l10_3 l9_3 l7_3 x1 x2 x3 x4 x5 x6 k e1 e2 h1 h2 h3 h4 h5 h6 h7 h8 h9 h10 h11 h12 h13 ih
    intro h0 hS
    have ex : x1.toInt = (Q.1 : Int) := by rw [← h5]; exact hq.1
    have hlt := h6
    have hi : l10_3.toInt.toNat < Q.1 := by omega
    have hb := (bt_sh h7 h8 h0 (by omega)).1 h9
    have hc := (bt_sh h10 h11 h0 (by omega)).1 h12
    obtain ⟨i1, i2, i3⟩ := ih (by omega) hS
    refine ⟨i1, i2, fun z => ?_⟩
    obtain ⟨j1, j2, j3⟩ := i3 z
    refine ⟨j1, j2, fun b y q1 q2 q3 q4 q5 q6 => ?_⟩
    by_cases e : (b : Int) = l10_3.toInt
    · have e2 : b = l10_3.toInt.toNat := by omega
      rw [e2] at q3
      have w := (hc1 _ (by omega)).mpr q3
      rw [hc] at w
      cases w
    · exact j3 b y (by omega) q2 q3 q4 q5 q6
def clB (Q : gPg) (h : Nat) (x : Int64) : Prop := ∀ b y : Nat, b < Q.1 → rAll Q b → Ed Q b y → y ≠ h → bt x y = true → bt x b = true
theorem d147 {c1 s2 e1 : Int64} {l4 s1 : Int32} {kx : Nat} (hT : RS D I P F γ el) (hc9 : γ 0 c = 9) (hB2 : ∀ i, i < Q.1 → γ 0 (el (γ 14 c) i) = 2) (hq : rfW γ el F c Q) (hO : qOk Q) (h40 : Q.1 ≤ 40) (hl4 : 0 ≤ l4.toInt ∧ l4.toInt < 40) (hc1 : ∀ b, b < 64 → (bt c1 b = true ↔ rAll Q b)) (h : tl_RModel_findDepth2_147 D I γ el F c c1 l4 s1 s2 kx e1) : sdB Q l4.toInt.toNat s2 → (s1.toInt = 0 → clB Q l4.toInt.toNat s2) → sdB Q l4.toInt.toNat e1 ∧ (∀ b, b < 64 → bt s2 b = true → bt e1 b = true) ∧ clB Q l4.toInt.toNat e1 := by
  refine h (fun s1 s2 _ e1 => sdB Q l4.toInt.toNat s2 → (s1.toInt = 0 → clB Q l4.toInt.toNat s2) → sdB Q l4.toInt.toNat e1 ∧ (∀ b, b < 64 → bt s2 b = true → bt e1 b = true) ∧ clB Q l4.toInt.toNat e1) ?_ ?_
  · intro l9_2 l7_2 h1 h2 h3
    intro hS hC
    exact ⟨hS, fun _ _ z => z, hC h3⟩
  · intro l9_2 l7_2 x1 x2 k e1 h1 h2 h3 h4 ih
    intro hS hC
    obtain ⟨y1, y2, y3⟩ := d158 hT hc9 hB2 hq hO h40 hl4 hc1 h4 (by decide) hS
    obtain ⟨i1, i2, i3⟩ := ih y1 (fun z => by
      obtain ⟨w1, w2, w3⟩ := y3 z
      rw [w2]
      exact fun b y hb q1 q2 q3 q4 => w3 b y (by rw [show Int32.toInt 0 = 0 from by decide]; omega) hb q1 q2 q3 q4)
    exact ⟨i1, fun b hb z => i2 b hb (y2 b hb z), i3⟩
def dv (γ : Nat → Nat → Nat) (F : Nat → va_E) (b : Nat) : Int := (cB (F (γ 9 4)) b).toInt
def dbn (x : Int64) (b : Nat) : Int := if bt x b = true then 1 else 0
theorem d300 {l7 : Int64} {s1 e1 : Nat → va_E} {s2 : Int32} {kx : Nat} (h40 : Q.1 ≤ 40) (hF : ∀ F1, rStr γ [] F F1 → F1 c = F c) (hq : rfW γ el F c Q) (h : tl_RModel_findDepth2_300 D I γ el P F q0 c l7 s1 s2 kx e1) : 0 ≤ s2.toInt → (∀ b : Nat, b < Q.1 → 0 ≤ dv γ s1 b ∧ dv γ s1 b ≤ (if s2.toInt ≤ (b : Int) then 1000 else 1001)) → (∀ b : Nat, b < Q.1 → dv γ e1 b = dv γ s1 b + (if s2.toInt ≤ (b : Int) then dbn l7 b else 0)) ∧ ∀ b, b ≠ γ 9 4 → e1 b = s1 b := by
  refine h (fun s1 s2 _ e1 => 0 ≤ s2.toInt → (∀ b : Nat, b < Q.1 → 0 ≤ dv γ s1 b ∧ dv γ s1 b ≤ (if s2.toInt ≤ (b : Int) then 1000 else 1001)) → (∀ b : Nat, b < Q.1 → dv γ e1 b = dv γ s1 b + (if s2.toInt ≤ (b : Int) then dbn l7 b else 0)) ∧ ∀ b, b ≠ γ 9 4 → e1 b = s1 b) ?_ ?_
  · intro F_2 l10_2 x1 h1 h2 h3 h4 h5 h6 h7
    intro h0 hv
    have ex : x1.toInt = (Q.1 : Int) := by rw [← h6, hF _ h3]; exact hq.1
    exact ⟨fun b hb => by rw [if_neg (by have := h7; omega)]; omega, fun _ _ => rfl⟩
  · intro F_2 l10_2 x1 x2 x3 x4 x5 x6 x7 x8 x9 x10 k e1 h1 h2 h3 h4 h5 h6 h7 h8 h9 h10 h11 h12 h13 h14 h15 h16 h17 h18 ih
    intro h0 hv
    have ex : x1.toInt = (Q.1 : Int) := by rw [← h6, hF _ h3]; exact hq.1
    have hlt := h7
    have hz : (l10_2.toNatClampNeg : Int) = l10_2.toInt := g_nn h0
    have p1 := cB_of h9
    have p2 := cB_of h17
    have hbt := bt_sh h11 h12 h0 (by omega)
    have h6 : x6.toInt = dbn l7 l10_2.toInt.toNat := by
      unfold dbn
      by_cases e : x5 = 0
      · rw [h13, e, if_neg (by rw [hbt.1 e]; decide)]
        decide
      · rw [h13, bt_one h12 e, if_pos (hbt.2 e)]
        decide
    have hd6 : 0 ≤ dbn l7 l10_2.toInt.toNat ∧ dbn l7 l10_2.toInt.toNat ≤ 1 := by unfold dbn; split <;> decide
    have h3 : x3.toInt = dv γ F_2 l10_2.toInt.toNat := by unfold dv; rw [p1, h10, show l10_2.toNatClampNeg = l10_2.toInt.toNat from rfl]
    have hv0 := hv l10_2.toInt.toNat (by omega)
    rw [if_pos (by omega)] at hv0
    have h7 : x7.toInt = x3.toInt + x6.toInt := by
      rw [h14, Int32.toInt_add]
      exact Int.bmod_eq_of_le (by omega) (by omega)
    have hst : ∀ b : Nat, b < Q.1 → dv γ x9 b = dv γ F_2 b + (if b = l10_2.toInt.toNat then dbn l7 b else 0) := fun b hb => by
      by_cases e : b = l10_2.toInt.toNat
      · rw [if_pos e, e]
        show (cB (x9 (γ 9 4)) l10_2.toInt.toNat).toInt = _
        rw [p2, h15, show l10_2.toNatClampNeg = l10_2.toInt.toNat from rfl]
        unfold upd
        rw [if_pos rfl, h7, h6, h3]
      · rw [if_neg e]
        show (cB (x9 (γ 9 4)) b).toInt = (cB (F_2 (γ 9 4)) b).toInt + 0
        rw [p2, p1, h15]
        unfold upd
        rw [if_neg (by omega)]
        omega
    obtain ⟨i1, i2⟩ := ih (by omega) (fun b hb => by
      rw [hst b hb]
      have := hv b hb
      by_cases e : b = l10_2.toInt.toNat
      · rw [if_pos e, e]
        rw [e] at this
        rw [if_pos (by omega)] at this
        rw [if_neg (by omega)]
        omega
      · rw [if_neg e]
        by_cases e2 : x10.toInt ≤ (b : Int)
        · rw [if_pos e2]; rw [if_pos (by omega)] at this; omega
        · rw [if_neg e2]; rw [if_neg (by omega)] at this; omega)
    refine ⟨fun b hb => ?_, fun b hb => (i2 b hb).trans (h16 b hb)⟩
    rw [i1 b hb, hst b hb]
    by_cases e : b = l10_2.toInt.toNat
    · rw [if_pos e, if_neg (by omega), if_pos (by omega)]
      omega
    · rw [if_neg e]
      by_cases e2 : x10.toInt ≤ (b : Int)
      · rw [if_pos e2, if_pos (by omega)]; omega
      · rw [if_neg e2, if_neg (by omega)]; omega
theorem cnt_s {T : Nat → Prop} {n : Nat} : ((cntP T (n + 1) : Nat) : Int) = (cntP T n : Int) + @ite Int (T n) (Classical.propDecidable (T n)) 1 0 := by
  show ((cntP T n + @ite Nat (T n) (Classical.propDecidable (T n)) 1 0 : Nat) : Int) = _
  by_cases h : T n
  · rw [if_pos h, if_pos h]; rfl
  · rw [if_neg h, if_neg h]; rfl
theorem d32 {c1 : Int64} {s1 e1 : Nat → va_E} {s2 : Int32} {kx : Nat} (hT : RS D I P F γ el) (hm : γ 0 q0 = 10) (hc9 : γ 0 c = 9) (hB2 : ∀ i, i < Q.1 → γ 0 (el (γ 14 c) i) = 2) (hq : rfW γ el F c Q) (hO : qOk Q) (h40 : Q.1 ≤ 40) (hP0 : 0 < Q.1) (hc1 : ∀ b, b < 64 → (bt c1 b = true ↔ rAll Q b)) (h : tl_RModel_findDepth2_32 D I γ el P F q0 c c1 s1 s2 kx e1) : ∀ m : Nat, s2.toInt = (m : Int) → m ≤ Q.1 → (∀ b, b < Q.1 → dv γ s1 b = (cntP (fun h => InL Q h b) m : Int)) → (∀ b, b < Q.1 → dv γ e1 b = (cntP (fun h => InL Q h b) Q.1 : Int)) ∧ ∀ b, b ≠ γ 9 4 → e1 b = s1 b := by
  refine h (fun s1 s2 _ e1 => ∀ m : Nat, s2.toInt = (m : Int) → m ≤ Q.1 → (∀ b, b < Q.1 → dv γ s1 b = (cntP (fun h => InL Q h b) m : Int)) → (∀ b, b < Q.1 → dv γ e1 b = (cntP (fun h => InL Q h b) Q.1 : Int)) ∧ ∀ b, b ≠ γ 9 4 → e1 b = s1 b) ?_ ?_ ?_ ?_
  · intro F_1 l4_1 x1 h1 h2 h3 h4 h5 h6 h7
    intro m em hm2 hv
    have hs := h3
    have ex : x1.toInt = (Q.1 : Int) := by rw [← h6, rs0 hs hc9 (by decide)]; exact hq.1
    have e : m = Q.1 := by have := h7; omega
    rw [e] at hv
    exact ⟨hv, fun _ _ => rfl⟩
  · intro F_1 l4_1 x1 x2 x3 x4 x5 x6 x7 x8 x9 x10 x11 x12 k e1 h1 h2 h3 h4 h5 h6 h7 h8 h9 h10 h11 h12 h13 h14 h15 h16 h17 h18 h19 h20 ih
    intro m em hm2 hv
    have hs := h3
    have ex : x1.toInt = (Q.1 : Int) := by rw [← h6, rs0 hs hc9 (by decide)]; exact hq.1
    have hlt := h7
    have h0 : 0 ≤ l4_1.toInt := by omega
    have e4 : l4_1.toInt.toNat = m := by omega
    have hlm : m < Q.1 := by omega
    have hb := (bt_sh h8 h9 h0 (by omega)).2 h10
    have hT1 := h2
    have hq1 := rfW_rs hT hq hc9 hB2 hs
    have hre := re_tr hT1 hc9 hB2 hq1 hO h40 hP0 h11
    have h75 := d75 hT1 hc9 hB2 hq1 hO h40 h0 h14 (by decide)
    have hcl : ∀ b, b < 64 → (bt x7 b = true ↔ clo Q m b) := fun b hb => by
      rw [h75 b hb, bt_z, bt_andn h12 h13 hb, Bool.and_eq_true, Bool.not_eq_true', hc1 b hb, show Int32.toInt 0 = 0 from by decide, e4]
      have e5 : (bt x4 b = false ↔ ¬ Wk (Ed Q) (fun b => b = 0) (fun b => b = m) b) := by
        rw [← Bool.not_eq_true, hre b hb]
        refine not_congr ⟨fun z => Wk_c (fun _ _ z => z) (fun _ z => z) (fun b z => by omega) z, fun z => Wk_c (fun _ _ z => z) (fun _ z => z) (fun b z => by omega) z⟩
      rw [e5]
      constructor
      · rintro (z | ⟨_, z1, z2, z3⟩)
        · cases z
        · exact ⟨z3, z2.1, z2.2⟩
      · rintro ⟨z1, z2, z3⟩
        exact Or.inr ⟨by omega, z1.1, ⟨z2, z3⟩, z1⟩
    have hor : ∀ b, b < 64 → bt x9 b = (bt x7 b || decide (b = l4_1.toInt.toNat)) := fun b hb => bt_or h16 h17 h0 (by omega) hb
    rw [e4] at hor
    have hrm : rAll Q m := (hc1 m (by omega)).mp (by rw [← e4]; exact hb)
    have hS0 : sdB Q l4_1.toInt.toNat x9 := by
      rw [e4]
      refine ⟨fun b hb z => ?_, by rw [hor m (by omega), decide_eq_true rfl, Bool.or_true]⟩
      rw [hor b hb, Bool.or_eq_true, decide_eq_true_eq] at z
      by_cases e : b = m
      · exact Or.inl e
      · have w := (hcl b hb).mp (z.resolve_right e)
        exact Or.inr (Wk_i w (fun q => q.elim e (fun q => q w.2.1)))
    obtain ⟨y1, y2, y3⟩ := d147 hT1 hc9 hB2 hq1 hO h40 ⟨h0, by omega⟩ hc1 h18 hS0 (fun z => absurd z (by decide))
    rw [e4] at y1 y3
    have hne : ∃ d, clo Q m d := by
      refine Classical.byContradiction fun hn => h15 ?_
      apply Int64.toBitVec_inj.mp
      apply BitVec.eq_of_getLsbD_eq
      intro j hj
      have hz : (0 : Int64).toBitVec.getLsbD j = false := by show (0#64).getLsbD j = false; exact BitVec.getLsbD_zero
      rw [hz]
      refine Bool.eq_false_iff.mpr (fun z => hn ⟨j, (hcl j hj).mp z⟩)
    have hIn : ∀ b, b < Q.1 → (bt x10 b = true ↔ InL Q m b) := fun b hb => by
      constructor
      · intro z
        exact ⟨hne, y1.1 b (by omega) z⟩
      · rintro ⟨-, z | z⟩
        · rw [z]; exact y1.2
        · refine (z (fun b => b < Q.1 ∧ b ≠ m ∧ bt x10 b = true) (fun b w1 w2 => ⟨w1.1.1, fun e => w2 (Or.inl e), y2 b (by have := w1.1.1; omega) (by rw [hor b (by have := w1.1.1; omega), (hcl b (by have := w1.1.1; omega)).mpr w1]; rfl)⟩) (fun a b w1 w2 w3 => ?_)).2.2
          refine ⟨w2.1, fun e => w3 (Or.inl e), y3 b a w2.1 (Classical.byContradiction fun e => w3 (Or.inr e)) w2 w1.2.1 w1.2.2⟩
    obtain ⟨v1, v2⟩ := d300 h40 (fun F1 hF => rs0 hF hc9 (by decide)) hq h19 (by decide) (fun b hb => by
      rw [hv b hb, if_pos (by rw [show Int32.toInt 0 = 0 from by decide]; omega)]
      have := cntP_le (T := fun h => InL Q h b) m
      omega)
    obtain ⟨i1, i2⟩ := ih (m + 1) (by omega) (by omega) (fun b hb => by
      rw [v1 b hb, hv b hb, cnt_s, if_pos (by rw [show Int32.toInt 0 = 0 from by decide]; omega)]
      unfold dbn
      by_cases e : InL Q m b
      · rw [if_pos ((hIn b hb).mpr e), if_pos e]
      · rw [if_neg (fun z => e ((hIn b hb).mp z)), if_neg e])
    exact ⟨i1, fun b hb => (i2 b hb).trans (v2 b hb)⟩
  · intro F_1 l4_1 x1 x2 x3 x4 x5 x6 x7 x8 k e1 h1 h2 h3 h4 h5 h6 h7 h8 h9 h10 h11 h12 h13 h14 h15 h16 ih
    intro m em hm2 hv
    have hs := h3
    have ex : x1.toInt = (Q.1 : Int) := by rw [← h6, rs0 hs hc9 (by decide)]; exact hq.1
    have hlt := h7
    have h0 : 0 ≤ l4_1.toInt := by omega
    have e4 : l4_1.toInt.toNat = m := by omega
    have hlm : m < Q.1 := by omega
    have hb := (bt_sh h8 h9 h0 (by omega)).2 h10
    have hT1 := h2
    have hq1 := rfW_rs hT hq hc9 hB2 hs
    have hre := re_tr hT1 hc9 hB2 hq1 hO h40 hP0 h11
    have h75 := d75 hT1 hc9 hB2 hq1 hO h40 h0 h14 (by decide)
    have hcl : ∀ b, b < 64 → (bt x7 b = true ↔ clo Q m b) := fun b hb => by
      rw [h75 b hb, bt_z, bt_andn h12 h13 hb, Bool.and_eq_true, Bool.not_eq_true', hc1 b hb, show Int32.toInt 0 = 0 from by decide, e4]
      have e5 : (bt x4 b = false ↔ ¬ Wk (Ed Q) (fun b => b = 0) (fun b => b = m) b) := by
        rw [← Bool.not_eq_true, hre b hb]
        refine not_congr ⟨fun z => Wk_c (fun _ _ z => z) (fun _ z => z) (fun b z => by omega) z, fun z => Wk_c (fun _ _ z => z) (fun _ z => z) (fun b z => by omega) z⟩
      rw [e5]
      constructor
      · rintro (z | ⟨_, z1, z2, z3⟩)
        · cases z
        · exact ⟨z3, z2.1, z2.2⟩
      · rintro ⟨z1, z2, z3⟩
        exact Or.inr ⟨by omega, z1.1, ⟨z2, z3⟩, z1⟩
    have hno : ∀ b, ¬ InL Q m b := fun b z => by
      obtain ⟨⟨d, w1⟩, -⟩ := z
      have hd := w1.1.1
      have w := (hcl d (by omega)).mpr w1
      rw [h15, bt_z] at w
      cases w
    obtain ⟨i1, i2⟩ := ih (m + 1) (by omega) (by omega) (fun b hb => by
      rw [cnt_s, if_neg (hno b), hv b hb]
      omega)
    exact ⟨i1, i2⟩
  · intro F_1 l4_1 x1 x2 x3 x4 k e1 h1 h2 h3 h4 h5 h6 h7 h8 h9 h10 h11 ih
    intro m em hm2 hv
    have hs := h3
    have ex : x1.toInt = (Q.1 : Int) := by rw [← h6, rs0 hs hc9 (by decide)]; exact hq.1
    have hlt := h7
    have h0 : 0 ≤ l4_1.toInt := by omega
    have e4 : l4_1.toInt.toNat = m := by omega
    have hlm : m < Q.1 := by omega
    have hb := (bt_sh h8 h9 h0 (by omega)).1 h10
    rw [e4] at hb
    have hno : ∀ b, ¬ InL Q m b := fun b z => by
      obtain ⟨⟨d, w1, w2, w3⟩, -⟩ := z
      have w : rAll Q m := Wk_s w2 w1 (fun z => z)
      have w4 := (hc1 m (by omega)).mpr w
      rw [hb] at w4
      cases w4
    obtain ⟨i1, i2⟩ := ih (m + 1) (by omega) (by omega) (fun b hb => by
      rw [cnt_s, if_neg (hno b), hv b hb]
      omega)
    exact ⟨i1, i2⟩
theorem d2 {s1 e1 : Nat → va_E} {s2 : Int32} {kx : Nat} (hc9 : γ 0 c = 9) (hq : rfW γ el F c Q) (h : tl_RModel_findDepth2_2 D I γ el P F q0 c s1 s2 kx e1) : 0 ≤ s2.toInt → (∀ b : Nat, (b : Int) < s2.toInt → b < Q.1 → dv γ s1 b = 0) → (∀ b, b < Q.1 → dv γ e1 b = 0) ∧ (∀ b, b ≠ γ 9 4 → e1 b = s1 b) ∧ RS D I P e1 γ el := by
  refine h (fun s1 s2 _ e1 => 0 ≤ s2.toInt → (∀ b : Nat, (b : Int) < s2.toInt → b < Q.1 → dv γ s1 b = 0) → (∀ b, b < Q.1 → dv γ e1 b = 0) ∧ (∀ b, b ≠ γ 9 4 → e1 b = s1 b) ∧ RS D I P e1 γ el) ?_ ?_
  · intro F_1 l2_1 x1 h1 h2 h3 h4 h5 h6 h7
    intro h0 hv
    have ex : x1.toInt = (Q.1 : Int) := by rw [← h6, rs0 h3 hc9 (by decide)]; exact hq.1
    exact ⟨fun b hb => hv b (by have := h7; omega) hb, fun _ _ => rfl, h2⟩
  · intro F_1 l2_1 x1 x2 x3 x4 x5 k e1 h1 h2 h3 h4 h5 h6 h7 h8 h9 h10 h11 h12 h13 ih
    intro h0 hv
    have p1 := cB_of h9
    have p2 := cB_of h12
    obtain ⟨i1, i2, i3⟩ := ih (by omega) (fun b hb hb2 => by
      show (cB (x4 (γ 9 4)) b).toInt = 0
      rw [p2, h10]
      unfold upd
      have hz : (l2_1.toNatClampNeg : Int) = l2_1.toInt := g_nn h0
      by_cases e : b = l2_1.toNatClampNeg
      · rw [if_pos e]; decide
      · rw [if_neg e]
        have w := hv b (by omega) hb2
        unfold dv at w
        rw [p1] at w
        exact w)
    exact ⟨i1, fun b hb => (i2 b hb).trans (h11 b hb), i3⟩
theorem d342 {s1 e1 : Nat → va_E} {s2 : Int32} {kx : Nat} (hc9 : γ 0 c = 9) (hq : rfW γ el F c Q) (h : tl_RModel_findDepth2_342 D I γ el P F q0 c s1 s2 kx e1) : 0 ≤ s2.toInt → (∀ b : Nat, b < Q.1 → dv γ e1 b = if s2.toInt ≤ (b : Int) then min 4 (dv γ s1 b) else dv γ s1 b) ∧ ∀ b, b ≠ γ 9 4 → e1 b = s1 b := by
  refine h (fun s1 s2 _ e1 => 0 ≤ s2.toInt → (∀ b : Nat, b < Q.1 → dv γ e1 b = if s2.toInt ≤ (b : Int) then min 4 (dv γ s1 b) else dv γ s1 b) ∧ ∀ b, b ≠ γ 9 4 → e1 b = s1 b) ?_ ?_
  · intro F_1 l4_1 x1 h1 h2 h3 h4 h5 h6 h7
    intro h0
    have ex : x1.toInt = (Q.1 : Int) := by rw [← h6, rs0 h3 hc9 (by decide)]; exact hq.1
    exact ⟨fun b hb => by rw [if_neg (by have := h7; omega)], fun _ _ => rfl⟩
  · intro F_1 l4_1 x1 x2 x3 x4 x5 x6 x7 k e1 h1 h2 h3 h4 h5 h6 h7 h8 h9 h10 h11 h12 h13 h14 h15 ih
    intro h0
    have p1 := cB_of h9
    have p2 := cB_of h14
    have hz : (l4_1.toNatClampNeg : Int) = l4_1.toInt := g_nn h0
    have hmn := h11
    have hst : ∀ b : Nat, dv γ x6 b = if b = l4_1.toInt.toNat then min 4 (dv γ F_1 b) else dv γ F_1 b := fun b => by
      unfold dv
      rw [p2, p1, h12]
      unfold upd
      by_cases e : b = l4_1.toInt.toNat
      · rw [if_pos (by omega), if_pos e, show b = l4_1.toNatClampNeg by omega, ← h10]
        omega
      · rw [if_neg (by omega), if_neg e]
    obtain ⟨i1, i2⟩ := ih (by omega)
    refine ⟨fun b hb => ?_, fun b hb => (i2 b hb).trans (h13 b hb)⟩
    rw [i1 b hb, hst b]
    by_cases e : b = l4_1.toInt.toNat
    · rw [if_neg (by omega), if_pos e, if_pos (by omega)]
    · rw [if_neg e]
      by_cases e2 : x7.toInt ≤ (b : Int)
      · rw [if_pos e2, if_pos (by omega)]
      · rw [if_neg e2, if_neg (by omega)]
theorem dp_tr (hT : RS D I P F γ el) (hm : γ 0 q0 = 10) (hc9 : γ 0 c = 9) (hB2 : ∀ i, i < Q.1 → γ 0 (el (γ 14 c) i) = 2) (hq : rfW γ el F c Q) (hO : qOk Q) (h40 : Q.1 ≤ 40) (hP0 : 0 < Q.1) (h : tr_RModel_findDepth2 D I γ el P F q0 c F1) : (∀ b, b < Q.1 → dv γ F1 b = (dpt Q b : Int)) ∧ ∀ b, b ≠ γ 9 4 → F1 b = F b := by
  have k94 : γ 0 (γ 9 4) = 16 := by
    obtain ⟨r28, r35, v9, v10, v11, v12, v13, v14, v23, v24, v25, v26, v27, v30, v32, v33, v34, he, hM1, hK, hM2⟩ := rk10_m (show rk_10 γ (F q0) from RS_o hT hm)
    exact hK.2.2.2.2.2.2.1
  refine h (fun F1 => (∀ b, b < Q.1 → dv γ F1 b = (dpt Q b : Int)) ∧ ∀ b, b ≠ γ 9 4 → F1 b = F b) ?_
  · intro x1 x2 x3 x4 h1 h2 h3 h4
    obtain ⟨a1, a2, a3⟩ := d2 hc9 hq h1 (by decide) (fun b hb => by rw [show Int32.toInt 0 = 0 from by decide] at hb; omega)
    have hs1 : rStr γ [] F x1 := fun a _ ha _ => a2 a (fun e => by rw [e, k94] at ha; omega)
    have hq1 := rfW_rs hT hq hc9 hB2 hs1
    have hre := re_tr a3 hc9 hB2 hq1 hO h40 hP0 h2
    have hc1 : ∀ b, b < 64 → (bt x2 b = true ↔ rAll Q b) := fun b hb => by
      rw [hre b hb]
      exact ⟨fun z => Wk_c (fun _ _ z => z) (fun _ z => z) (fun b z => z.elim) z, fun z => Wk_c (fun _ _ z => z) (fun _ z => z) (fun b z => by rw [show Int32.toInt (-1) = -1 from by decide] at z; omega) z⟩
    obtain ⟨b1, b2⟩ := d32 hT hm hc9 hB2 hq hO h40 hP0 hc1 h3 0 (by decide) (Nat.zero_le _) (fun b hb => a1 b hb)
    obtain ⟨c1, c2⟩ := d342 hc9 hq h4 (by decide)
    refine ⟨fun b hb => ?_, fun b hb => (c2 b hb).trans ((b2 b hb).trans (a2 b hb))⟩
    rw [c1 b hb, if_pos (by rw [show Int32.toInt 0 = 0 from by decide]; omega), b1 b hb]
    unfold dpt
    omega
end DPQ
