section RSW
theorem wl_186 {a0_n : Int32} {a0_t_v : Nat → Int32} {s1 : Int32} {s2 : Int32} {s3 : Nat} {s4 : Nat → Int32} {k : Nat} {e1 : Int32} {e2 : Int32} {e3 : Nat} {e4 : Nat → Int32} (h : tl_RReader_word_186 a0_n a0_t_v s1 s2 s3 s4 k e1 e2 e3 e4) : 0 ≤ s1.toInt → ∀ c0 : Nat, s2.toInt = (c0 : Int) → c0 ≤ s3 → e1.toInt = ltr (bA a0_t_v a0_n.toInt) a0_n.toInt s1.toInt ∧ s1.toInt ≤ e1.toInt ∧ ∃ m : Nat, e2.toInt = ((c0 + m : Nat) : Int) ∧ (m : Int) = e1.toInt - s1.toInt ∧ c0 + m ≤ e3 ∧ (∀ j, j < c0 → e4 j = s4 j) ∧ ∀ j, j < m → (e4 (c0 + j)).toInt = bA a0_t_v a0_n.toInt (s1.toInt + (j : Int)) ∧ 97 ≤ (e4 (c0 + j)).toInt ∧ (e4 (c0 + j)).toInt ≤ 122 := by
  refine h (fun s1 s2 s3 s4 _ e1 e2 e3 e4 => 0 ≤ s1.toInt → ∀ c0 : Nat, s2.toInt = (c0 : Int) → c0 ≤ s3 → e1.toInt = ltr (bA a0_t_v a0_n.toInt) a0_n.toInt s1.toInt ∧ s1.toInt ≤ e1.toInt ∧ ∃ m : Nat, e2.toInt = ((c0 + m : Nat) : Int) ∧ (m : Int) = e1.toInt - s1.toInt ∧ c0 + m ≤ e3 ∧ (∀ j, j < c0 → e4 j = s4 j) ∧ ∀ j, j < m → (e4 (c0 + j)).toInt = bA a0_t_v a0_n.toInt (s1.toInt + (j : Int)) ∧ 97 ≤ (e4 (c0 + j)).toInt ∧ (e4 (c0 + j)).toInt ≤ 122) ?_ ?_ ?_
  · intro a0_at_1 a3_count_1 a3_value_n_1 a3_value_v_1 h1 h2 h3
    intro h0 c0 hc hn
    exact ⟨by rw [ltr, if_neg (by omega)], Int.le_refl _, 0, by rw [Nat.add_zero]; exact hc, by omega, by omega, fun _ _ => rfl, fun j hj => absurd hj (Nat.not_lt_zero j)⟩
  · intro a0_at_1 a3_count_1 a3_value_n_1 a3_value_v_1 x1 x2 h1 h2 h3 h4 h5 h6 h7 h8
    intro h0 c0 hc hn
    have q1 := rbe (n := a0_n) h4 h5 h0 h3
    have q2 := rlt_tr h7
    have q3 := q1.2 97 122 (by decide) (by decide)
    exact ⟨by rw [ltr, if_neg (by omega)], Int.le_refl _, 0, by rw [Nat.add_zero]; exact hc, by omega, by omega, fun _ _ => rfl, fun j hj => absurd hj (Nat.not_lt_zero j)⟩
  · intro a0_at_1 a3_count_1 a3_value_n_1 a3_value_v_1 x1 x2 x3 x4 x5 x6 x7 k e1 e2 e3 e4 h1 h2 h3 h4 h5 h6 h7 h8 h9 h10 h11 h12 ih
    revert ih
    intro ih
    intro h0 c0 hc hn
    have q1 := rbe (n := a0_n) h4 h5 h0 h3
    have q2 := rlt_tr h7
    have q3 := q1.2 97 122 (by decide) (by decide)
    have hlt : 97 ≤ x1.toInt ∧ x1.toInt ≤ 122 := by omega
    have qb := rb (n := a0_n) h4 h5 h0 h3
    rw [if_pos (by omega)] at qb
    have ec := px_i2c h9 (by omega) (by omega)
    obtain ⟨p1, p2, p3, p4⟩ := apg h11 hc hn (by omega) (by omega)
    obtain ⟨r1, r2, m, r3, r4, r5, r6, r7⟩ := ih (by omega) (c0 + 1) p1 p4
    refine ⟨?_, by omega, m + 1, by omega, by omega, by omega, fun j hj => by rw [r6 j (by omega), p2 j hj], fun j hj => ?_⟩
    · rw [ltr, if_pos ⟨h3, by omega, by omega⟩, ← h12]; exact r1
    · by_cases e : j = 0
      · rw [e, Nat.add_zero, r6 c0 (by omega), p3, ec]
        refine ⟨?_, hlt⟩
        rw [← qb]
        congr 1
        show a0_at_1.toInt = a0_at_1.toInt + ((0 : Nat) : Int)
        omega
      · obtain ⟨k, ek⟩ : ∃ k, j = k + 1 := ⟨j - 1, by omega⟩
        have s := r7 k (by omega)
        rw [show c0 + 1 + k = c0 + j by omega, h12, show a0_at_1.toInt + 1 + (k : Int) = a0_at_1.toInt + (j : Int) by omega] at s
        exact s
/-- a word that is one of the five is found -/
theorem w5 {g y : Nat → Int32} {l p : Nat} {bs : List Int32} (hb : bbT g l y) (hl : l = bs.length) (hg : ∀ j, j < l → (g j).toInt = (bs.getD j 0).toInt) (h0 : (sb_34.getD p 0).toInt = 32) (h1 : ∀ j, j < l → (sb_34.getD (p + 1 + j) 0).toInt = (bs.getD j 0).toInt) (h2 : (sb_34.getD (p + 1 + l) 0).toInt = 32) (hp : p + (l + 2) ≤ sb_34.length) : mtc sb_34 (l + 2) y p := by
  obtain ⟨b0, b1, b2⟩ := hb
  refine ⟨hp, fun j hj => ?_⟩
  by_cases e : j = 0
  · rw [e, Nat.add_zero, h0, b0]
  · by_cases e2 : j = l + 1
    · rw [e2, show p + (l + 1) = p + 1 + l by omega, h2, show l + 1 = 1 + l by omega, b2]
    · obtain ⟨k, ek⟩ : ∃ k, j = 1 + k := ⟨j - 1, by omega⟩
      rw [ek, show p + (1 + k) = p + 1 + k by omega, h1 k (by omega), b1 k (by omega), hg k (by omega)]
def isF (xt : gTx) : Prop := txE xt sb_41 ∨ txE xt sb_39 ∨ txE xt sb_45 ∨ txE xt sb_44 ∨ txE xt sb_46
theorem tb_41 : (sb_41.length = 2) ∧ (sb_34.getD 0 0).toInt = 32 ∧ (∀ j : Fin 2, (sb_34.getD (0 + 1 + j.val) 0).toInt = (sb_41.getD j.val 0).toInt) ∧ (sb_34.getD (0 + 1 + 2) 0).toInt = 32 ∧ sb_34.length = 25 := by decide +kernel
theorem tb_39 : (sb_39.length = 4) ∧ (sb_34.getD 3 0).toInt = 32 ∧ (∀ j : Fin 4, (sb_34.getD (3 + 1 + j.val) 0).toInt = (sb_39.getD j.val 0).toInt) ∧ (sb_34.getD (3 + 1 + 4) 0).toInt = 32 ∧ sb_34.length = 25 := by decide +kernel
theorem tb_45 : (sb_45.length = 2) ∧ (sb_34.getD 8 0).toInt = 32 ∧ (∀ j : Fin 2, (sb_34.getD (8 + 1 + j.val) 0).toInt = (sb_45.getD j.val 0).toInt) ∧ (sb_34.getD (8 + 1 + 2) 0).toInt = 32 ∧ sb_34.length = 25 := by decide +kernel
theorem tb_44 : (sb_44.length = 4) ∧ (sb_34.getD 11 0).toInt = 32 ∧ (∀ j : Fin 4, (sb_34.getD (11 + 1 + j.val) 0).toInt = (sb_44.getD j.val 0).toInt) ∧ (sb_34.getD (11 + 1 + 4) 0).toInt = 32 ∧ sb_34.length = 25 := by decide +kernel
theorem tb_46 : (sb_46.length = 3) ∧ (sb_34.getD 16 0).toInt = 32 ∧ (∀ j : Fin 3, (sb_34.getD (16 + 1 + j.val) 0).toInt = (sb_46.getD j.val 0).toInt) ∧ (sb_34.getD (16 + 1 + 3) 0).toInt = 32 ∧ sb_34.length = 25 := by decide +kernel
/-- what a word is: a name, or letters -/
def wdR (B : Int → Int) (n : Int) (at0 : Int) (at' kd va : Int32) (xt : gTx) : Prop :=
  (((B at0 = 118 ∨ B at0 = 98) ∧ 48 ≤ B (at0 + 1) ∧ B (at0 + 1) ≤ 57) ∧ at'.toInt = (dgs B n (at0 + 1) 0).2 ∧ (((if B at0 = 118 then 100 else 40) ≤ (dgs B n (at0 + 1) 0).1 ∧ kd.toInt = 6) ∨ ((dgs B n (at0 + 1) 0).1 < (if B at0 = 118 then 100 else 40) ∧ kd.toInt = (if B at0 = 118 then 2 else 3) ∧ va.toInt = (dgs B n (at0 + 1) 0).1))) ∨
  (¬ ((B at0 = 118 ∨ B at0 = 98) ∧ 48 ≤ B (at0 + 1) ∧ B (at0 + 1) ≤ 57) ∧ at'.toInt = ltr B n at0 ∧ ∃ g : Nat → Int32, ∃ m : Nat, (m : Int) = ltr B n at0 - at0 ∧ (∀ j, j < m → (g j).toInt = B (at0 + (j : Int)) ∧ 97 ≤ (g j).toInt ∧ (g j).toInt ≤ 122) ∧ ((kd.toInt = 1 ∧ xt = (m, g)) ∨ (kd.toInt = 6 ∧ ¬ isF (m, g))))
theorem word_tr {a0_n : Int32} {a0_at : Int32} {a0_value : Int32} {a0_t_v : Nat → Int32} {o1 : Int32} {o2 : Int32} {o3 : Int32} {o4 : gTx} (h0 : 0 ≤ a0_at.toInt) (hl : a0_at.toInt < a0_n.toInt) (hn : a0_n.toInt ≤ 8192) (h : tr_RReader_word a0_n a0_at a0_value a0_t_v o1 o2 o3 o4) : wdR (bA a0_t_v a0_n.toInt) a0_n.toInt a0_at.toInt o1 o2 o3 o4 := by
  have L : sb_35.length = 1 := by decide
  have e32 : (sb_35.getD 0 0).toInt = 32 := by decide
  have L4 : sb_34.length = 25 := by decide
  refine h (fun o1 o2 o3 o4 => wdR (bA a0_t_v a0_n.toInt) a0_n.toInt a0_at.toInt o1 o2 o3 o4) ?_ ?_ ?_ ?_ ?_ ?_
  · intro x1 x2 x3 x4 x5 x6 x7 x8 x9 x10 x11 x12 x13 x14 x15 x16 x17 x18 h1 h2 h3 h4 h5 h6 h7 h8 h9 h10 h11 h12 h13 h14 h15
    have q := rbe (n := a0_n) h1 h2 h0 hl
    have q118 := q.1 118 (by decide) (by decide)
    have q98 := q.1 98 (by decide) (by decide)
    have nn : ¬ ((bA a0_t_v a0_n.toInt a0_at.toInt = 118 ∨ bA a0_t_v a0_n.toInt a0_at.toInt = 98) ∧ 48 ≤ bA a0_t_v a0_n.toInt (a0_at.toInt + 1) ∧ bA a0_t_v a0_n.toInt (a0_at.toInt + 1) ≤ 57) := by
      have o1 : ∀ y1 : Int32, y1.toInt = a0_at.toInt + 1 → a0_n.toInt ≤ y1.toInt → bA a0_t_v a0_n.toInt (a0_at.toInt + 1) = -1 := fun y1 z1 z2 => bA_out (by omega)
      have o2 : ∀ y1 y2 y3 : Int32, y1.toInt = a0_at.toInt + 1 → y1.toInt < a0_n.toInt → y2 = a0_t_v y1.toNatClampNeg → gB y2 (-128) 127 → tr_RReader_isDigit2 y2 y3 → y3.toInt = 0 → ¬ (48 ≤ bA a0_t_v a0_n.toInt (a0_at.toInt + 1) ∧ bA a0_t_v a0_n.toInt (a0_at.toInt + 1) ≤ 57) := fun y1 y2 y3 z1 z2 z3 z4 z5 z6 z7 => by
        have r := (rbe (n := a0_n) z3 z4 (by omega) z2).2 48 57 (by decide) (by decide)
        rw [z1] at r
        have s := rdg_tr z5
        have u := r.mpr z7
        omega
      rcases h3 with ⟨y1, z1, z2, z3⟩ | ⟨y1, y2, y3, z1, z2, z3, z4, z5, z6, z7, z8⟩ | ⟨z1, z2⟩ | ⟨y1, z1, z2, z3, z4⟩ | ⟨y1, y2, y3, z1, z2, z3, z4, z5, z6, z7, z8, z9⟩
      · exact fun w => by have := o1 _ z2 z3; omega
      · exact fun w => o2 _ _ _ z2 z3 z4 z5 z7 z8 w.2
      · exact fun w => by omega
      · exact fun w => by have := o1 _ z3 z4; omega
      · exact fun w => o2 _ _ _ z3 z4 z5 z6 z8 z9 w.2
    obtain ⟨r1, r2, m, r3, r4, r5, r6, r7⟩ := wl_186 h4 h0 0 (by decide) (by decide)
    rw [Nat.zero_add] at r3 r5
    obtain ⟨t1, t2⟩ := tos_tr h5 r3 r5
    have gl : ∀ j, j < m → (x7 j).toInt = bA a0_t_v a0_n.toInt (a0_at.toInt + (j : Int)) ∧ 97 ≤ (x7 j).toInt ∧ (x7 j).toInt ≤ 122 := fun j hj => by
      have s := r7 j hj
      rw [Nat.zero_add] at s
      rw [t2 j hj]; exact s
    refine Or.inr ⟨nn, r1, x7, m, by omega, gl, ?_⟩
    refine Or.inr ⟨px_6, fun hf => ?_⟩
    obtain ⟨a1, a2, a3, a4⟩ := apl h7 (c := 0) (by decide) (by decide)
    rw [L] at a1 a3
    rw [t1] at h9
    obtain ⟨b1, b2, b3, b4⟩ := aps h9 (c := 1) a1 (by decide)
    obtain ⟨c1, c2, c3, c4⟩ := aplg h11 (c := 1 + m) b1 b4
    rw [L] at c1 c3 c4
    obtain ⟨d1, d2⟩ := tos_tr h12 (c := 1 + m + 1) c1 c4
    have yb : bbT x7 m x17 := by
      refine ⟨?_, fun j hj => ?_, ?_⟩
      · rw [d2 0 (by omega), c2 0 (by omega), b2 0 (by decide)]
        have := a3 0 (by decide)
        rw [Nat.zero_add] at this
        rw [this]; exact e32
      · rw [d2 _ (by omega), c2 _ (by omega)]; exact b3 j hj
      · rw [d2 _ (by omega)]
        have := c3 0 (by decide)
        rw [Nat.add_zero] at this
        rw [this]; exact e32
    rw [show x16 = m + 2 by omega] at h14
    have io := iof_tr (m := m + 2) (by omega) (by rw [L4]; decide) (by rw [L4]; decide) h14
    have no : ∀ p, ¬ mtc sb_34 (m + 2) x17 p := by
      rcases io with ⟨-, k⟩ | ⟨q', k, -⟩
      · exact k
      · omega
    rcases hf with hf | hf | hf | hf | hf
    · obtain ⟨u1, u2, u3, u4, u5⟩ := tb_41
      have lm : m = 2 := by rw [← u1]; exact hf.1
      exact no 0 (w5 (p := 0) (bs := sb_41) yb hf.1 (fun j hj => hf.2 j (by have := hf.1; omega)) u2 (fun j hj => u3 ⟨j, by omega⟩) (by rw [lm]; exact u4) (by rw [u5, lm]; decide))
    · obtain ⟨u1, u2, u3, u4, u5⟩ := tb_39
      have lm : m = 4 := by rw [← u1]; exact hf.1
      exact no 3 (w5 (p := 3) (bs := sb_39) yb hf.1 (fun j hj => hf.2 j (by have := hf.1; omega)) u2 (fun j hj => u3 ⟨j, by omega⟩) (by rw [lm]; exact u4) (by rw [u5, lm]; decide))
    · obtain ⟨u1, u2, u3, u4, u5⟩ := tb_45
      have lm : m = 2 := by rw [← u1]; exact hf.1
      exact no 8 (w5 (p := 8) (bs := sb_45) yb hf.1 (fun j hj => hf.2 j (by have := hf.1; omega)) u2 (fun j hj => u3 ⟨j, by omega⟩) (by rw [lm]; exact u4) (by rw [u5, lm]; decide))
    · obtain ⟨u1, u2, u3, u4, u5⟩ := tb_44
      have lm : m = 4 := by rw [← u1]; exact hf.1
      exact no 11 (w5 (p := 11) (bs := sb_44) yb hf.1 (fun j hj => hf.2 j (by have := hf.1; omega)) u2 (fun j hj => u3 ⟨j, by omega⟩) (by rw [lm]; exact u4) (by rw [u5, lm]; decide))
    · obtain ⟨u1, u2, u3, u4, u5⟩ := tb_46
      have lm : m = 3 := by rw [← u1]; exact hf.1
      exact no 16 (w5 (p := 16) (bs := sb_46) yb hf.1 (fun j hj => hf.2 j (by have := hf.1; omega)) u2 (fun j hj => u3 ⟨j, by omega⟩) (by rw [lm]; exact u4) (by rw [u5, lm]; decide))
  · intro x1 x2 x3 x4 x5 x6 x7 x8 x9 x10 x11 x12 x13 x14 x15 x16 x17 x18 h1 h2 h3 h4 h5 h6 h7 h8 h9 h10 h11 h12 h13 h14 h15
    have q := rbe (n := a0_n) h1 h2 h0 hl
    have q118 := q.1 118 (by decide) (by decide)
    have q98 := q.1 98 (by decide) (by decide)
    have nn : ¬ ((bA a0_t_v a0_n.toInt a0_at.toInt = 118 ∨ bA a0_t_v a0_n.toInt a0_at.toInt = 98) ∧ 48 ≤ bA a0_t_v a0_n.toInt (a0_at.toInt + 1) ∧ bA a0_t_v a0_n.toInt (a0_at.toInt + 1) ≤ 57) := by
      have o1 : ∀ y1 : Int32, y1.toInt = a0_at.toInt + 1 → a0_n.toInt ≤ y1.toInt → bA a0_t_v a0_n.toInt (a0_at.toInt + 1) = -1 := fun y1 z1 z2 => bA_out (by omega)
      have o2 : ∀ y1 y2 y3 : Int32, y1.toInt = a0_at.toInt + 1 → y1.toInt < a0_n.toInt → y2 = a0_t_v y1.toNatClampNeg → gB y2 (-128) 127 → tr_RReader_isDigit2 y2 y3 → y3.toInt = 0 → ¬ (48 ≤ bA a0_t_v a0_n.toInt (a0_at.toInt + 1) ∧ bA a0_t_v a0_n.toInt (a0_at.toInt + 1) ≤ 57) := fun y1 y2 y3 z1 z2 z3 z4 z5 z6 z7 => by
        have r := (rbe (n := a0_n) z3 z4 (by omega) z2).2 48 57 (by decide) (by decide)
        rw [z1] at r
        have s := rdg_tr z5
        have u := r.mpr z7
        omega
      rcases h3 with ⟨y1, z1, z2, z3⟩ | ⟨y1, y2, y3, z1, z2, z3, z4, z5, z6, z7, z8⟩ | ⟨z1, z2⟩ | ⟨y1, z1, z2, z3, z4⟩ | ⟨y1, y2, y3, z1, z2, z3, z4, z5, z6, z7, z8, z9⟩
      · exact fun w => by have := o1 _ z2 z3; omega
      · exact fun w => o2 _ _ _ z2 z3 z4 z5 z7 z8 w.2
      · exact fun w => by omega
      · exact fun w => by have := o1 _ z3 z4; omega
      · exact fun w => o2 _ _ _ z3 z4 z5 z6 z8 z9 w.2
    obtain ⟨r1, r2, m, r3, r4, r5, r6, r7⟩ := wl_186 h4 h0 0 (by decide) (by decide)
    rw [Nat.zero_add] at r3 r5
    obtain ⟨t1, t2⟩ := tos_tr h5 r3 r5
    have gl : ∀ j, j < m → (x7 j).toInt = bA a0_t_v a0_n.toInt (a0_at.toInt + (j : Int)) ∧ 97 ≤ (x7 j).toInt ∧ (x7 j).toInt ≤ 122 := fun j hj => by
      have s := r7 j hj
      rw [Nat.zero_add] at s
      rw [t2 j hj]; exact s
    refine Or.inr ⟨nn, r1, x7, m, by omega, gl, ?_⟩
    exact Or.inl ⟨px_1, by rw [t1]⟩
  · intro x1 x2 x3 x4 x5 x6 x7 x8 h1 h2 h3 h4 h5 h6 h7 h8 h9 h10 h11 h12 h13 h14
    have q := rbe (n := a0_n) h1 h2 h0 hl
    have q118 := q.1 118 (by decide) (by decide)
    have q98 := q.1 98 (by decide) (by decide)
    have r := (rbe (n := a0_n) h6 h7 (by omega) h5).2 48 57 (by decide) (by decide)
    rw [h4] at r
    have s := rdg_tr h9
    have dg := r.mp (by omega)
    obtain ⟨w1, w2⟩ := rw_tl h11 (by omega) 0 (by decide) (by decide) (by decide)
    rw [h4] at w1 w2
    refine Or.inl ⟨⟨by omega, dg⟩, w1.symm, ?_⟩
    have cl : (99 : Int64).toInt = 99 := by decide
    have g := px_cgt h13 h14
    rw [cl] at g
    refine Or.inl ⟨?_, px_6⟩
    rw [if_pos (by omega)]
    split at w2 <;> omega
  · intro x1 x2 x3 x4 x5 x6 x7 x8 h1 h2 h3 h4 h5 h6 h7 h8 h9 h10 h11 h12 h13 h14
    have q := rbe (n := a0_n) h1 h2 h0 hl
    have q118 := q.1 118 (by decide) (by decide)
    have q98 := q.1 98 (by decide) (by decide)
    have r := (rbe (n := a0_n) h6 h7 (by omega) h5).2 48 57 (by decide) (by decide)
    rw [h4] at r
    have s := rdg_tr h9
    have dg := r.mp (by omega)
    obtain ⟨w1, w2⟩ := rw_tl h11 (by omega) 0 (by decide) (by decide) (by decide)
    rw [h4] at w1 w2
    refine Or.inl ⟨⟨by omega, dg⟩, w1.symm, ?_⟩
    have cl : (99 : Int64).toInt = 99 := by decide
    have g := px_cle h13 h14
    rw [cl] at g
    have e5 : x5.toInt = (dgs (bA a0_t_v a0_n.toInt) a0_n.toInt (a0_at.toInt + 1) 0).1 := by split at w2 <;> omega
    have pos := (dgs_b (B := bA a0_t_v a0_n.toInt) (n := a0_n.toInt) _ (a0_at.toInt + 1) 0 rfl (by omega) (by decide)).2.2.1
    refine Or.inr ⟨?_, ?_, ?_⟩
    · rw [if_pos (by omega)]; omega
    · rw [if_pos (by omega)]; decide
    · rw [h12, Int64.toInt_toInt32, ← e5]; exact gM_of (by omega) (by omega)
  · intro x1 x2 x3 x4 x5 x6 x7 x8 h1 h2 h3 h4 h5 h6 h7 h8 h9 h10 h11 h12 h13 h14 h15
    have q := rbe (n := a0_n) h1 h2 h0 hl
    have q118 := q.1 118 (by decide) (by decide)
    have q98 := q.1 98 (by decide) (by decide)
    have r := (rbe (n := a0_n) h7 h8 (by omega) h6).2 48 57 (by decide) (by decide)
    rw [h5] at r
    have s := rdg_tr h10
    have dg := r.mp (by omega)
    obtain ⟨w1, w2⟩ := rw_tl2 h12 (by omega) 0 (by decide) (by decide) (by decide)
    rw [h5] at w1 w2
    refine Or.inl ⟨⟨by omega, dg⟩, w1.symm, ?_⟩
    have cl : (39 : Int64).toInt = 39 := by decide
    have g := px_cgt h14 h15
    rw [cl] at g
    refine Or.inl ⟨?_, px_6⟩
    rw [if_neg (by omega)]
    split at w2 <;> omega
  · intro x1 x2 x3 x4 x5 x6 x7 x8 h1 h2 h3 h4 h5 h6 h7 h8 h9 h10 h11 h12 h13 h14 h15
    have q := rbe (n := a0_n) h1 h2 h0 hl
    have q118 := q.1 118 (by decide) (by decide)
    have q98 := q.1 98 (by decide) (by decide)
    have r := (rbe (n := a0_n) h7 h8 (by omega) h6).2 48 57 (by decide) (by decide)
    rw [h5] at r
    have s := rdg_tr h10
    have dg := r.mp (by omega)
    obtain ⟨w1, w2⟩ := rw_tl2 h12 (by omega) 0 (by decide) (by decide) (by decide)
    rw [h5] at w1 w2
    refine Or.inl ⟨⟨by omega, dg⟩, w1.symm, ?_⟩
    have cl : (39 : Int64).toInt = 39 := by decide
    have g := px_cle h14 h15
    rw [cl] at g
    have e5 : x5.toInt = (dgs (bA a0_t_v a0_n.toInt) a0_n.toInt (a0_at.toInt + 1) 0).1 := by split at w2 <;> omega
    have pos := (dgs_b (B := bA a0_t_v a0_n.toInt) (n := a0_n.toInt) _ (a0_at.toInt + 1) 0 rfl (by omega) (by decide)).2.2.1
    refine Or.inr ⟨?_, ?_, ?_⟩
    · rw [if_neg (by omega)]; omega
    · rw [if_neg (by omega)]; decide
    · rw [h13, Int64.toInt_toInt32, ← e5]; exact gM_of (by omega) (by omega)
end RSW
