section RSY
variable {c d : Int} {f g x : Nat → Int32} {n m l : Nat} {r a : Int32} {bs : List Int32}
theorem opF_14 : opF 14 c d = -1 := by rw [opF, if_neg (by decide)]
theorem opF_13 : opF 13 c d = if 33 = c ∧ 61 = d then 13 else opF 14 c d := by
  rw [opF, if_pos (by decide), show chr sb_5 (2 * (13 : Int)).toNat = 33 from by decide, show chr sb_5 (2 * (13 : Int) + 1).toNat = 61 from by decide, show ((13 : Int) + 1) = 14 from by decide]
theorem opF_12 : opF 12 c d = if 61 = c ∧ 61 = d then 12 else opF 13 c d := by
  rw [opF, if_pos (by decide), show chr sb_5 (2 * (12 : Int)).toNat = 61 from by decide, show chr sb_5 (2 * (12 : Int) + 1).toNat = 61 from by decide, show ((12 : Int) + 1) = 13 from by decide]
theorem opF_11 : opF 11 c d = if 60 = c ∧ 61 = d then 11 else opF 12 c d := by
  rw [opF, if_pos (by decide), show chr sb_5 (2 * (11 : Int)).toNat = 60 from by decide, show chr sb_5 (2 * (11 : Int) + 1).toNat = 61 from by decide, show ((11 : Int) + 1) = 12 from by decide]
theorem opF_10 : opF 10 c d = if 60 = c ∧ 32 = d then 10 else opF 11 c d := by
  rw [opF, if_pos (by decide), show chr sb_5 (2 * (10 : Int)).toNat = 60 from by decide, show chr sb_5 (2 * (10 : Int) + 1).toNat = 32 from by decide, show ((10 : Int) + 1) = 11 from by decide]
theorem opF_9 : opF 9 c d = if 62 = c ∧ 62 = d then 9 else opF 10 c d := by
  rw [opF, if_pos (by decide), show chr sb_5 (2 * (9 : Int)).toNat = 62 from by decide, show chr sb_5 (2 * (9 : Int) + 1).toNat = 62 from by decide, show ((9 : Int) + 1) = 10 from by decide]
theorem opF_8 : opF 8 c d = if 60 = c ∧ 60 = d then 8 else opF 9 c d := by
  rw [opF, if_pos (by decide), show chr sb_5 (2 * (8 : Int)).toNat = 60 from by decide, show chr sb_5 (2 * (8 : Int) + 1).toNat = 60 from by decide, show ((8 : Int) + 1) = 9 from by decide]
theorem opF_7 : opF 7 c d = if 94 = c ∧ 32 = d then 7 else opF 8 c d := by
  rw [opF, if_pos (by decide), show chr sb_5 (2 * (7 : Int)).toNat = 94 from by decide, show chr sb_5 (2 * (7 : Int) + 1).toNat = 32 from by decide, show ((7 : Int) + 1) = 8 from by decide]
theorem opF_6 : opF 6 c d = if 124 = c ∧ 32 = d then 6 else opF 7 c d := by
  rw [opF, if_pos (by decide), show chr sb_5 (2 * (6 : Int)).toNat = 124 from by decide, show chr sb_5 (2 * (6 : Int) + 1).toNat = 32 from by decide, show ((6 : Int) + 1) = 7 from by decide]
theorem opF_5 : opF 5 c d = if 38 = c ∧ 32 = d then 5 else opF 6 c d := by
  rw [opF, if_pos (by decide), show chr sb_5 (2 * (5 : Int)).toNat = 38 from by decide, show chr sb_5 (2 * (5 : Int) + 1).toNat = 32 from by decide, show ((5 : Int) + 1) = 6 from by decide]
theorem opF_4 : opF 4 c d = if 37 = c ∧ 32 = d then 4 else opF 5 c d := by
  rw [opF, if_pos (by decide), show chr sb_5 (2 * (4 : Int)).toNat = 37 from by decide, show chr sb_5 (2 * (4 : Int) + 1).toNat = 32 from by decide, show ((4 : Int) + 1) = 5 from by decide]
theorem opF_3 : opF 3 c d = if 47 = c ∧ 32 = d then 3 else opF 4 c d := by
  rw [opF, if_pos (by decide), show chr sb_5 (2 * (3 : Int)).toNat = 47 from by decide, show chr sb_5 (2 * (3 : Int) + 1).toNat = 32 from by decide, show ((3 : Int) + 1) = 4 from by decide]
theorem opF_2 : opF 2 c d = if 42 = c ∧ 32 = d then 2 else opF 3 c d := by
  rw [opF, if_pos (by decide), show chr sb_5 (2 * (2 : Int)).toNat = 42 from by decide, show chr sb_5 (2 * (2 : Int) + 1).toNat = 32 from by decide, show ((2 : Int) + 1) = 3 from by decide]
theorem opF_1 : opF 1 c d = if 45 = c ∧ 32 = d then 1 else opF 2 c d := by
  rw [opF, if_pos (by decide), show chr sb_5 (2 * (1 : Int)).toNat = 45 from by decide, show chr sb_5 (2 * (1 : Int) + 1).toNat = 32 from by decide, show ((1 : Int) + 1) = 2 from by decide]
theorem opF_0 : opF 0 c d = if 43 = c ∧ 32 = d then 0 else opF 1 c d := by
  rw [opF, if_pos (by decide), show chr sb_5 (2 * (0 : Int)).toNat = 43 from by decide, show chr sb_5 (2 * (0 : Int) + 1).toNat = 32 from by decide, show ((0 : Int) + 1) = 1 from by decide]
theorem opF_v : opF 0 c d = if 43 = c ∧ 32 = d then 0 else if 45 = c ∧ 32 = d then 1 else if 42 = c ∧ 32 = d then 2 else if 47 = c ∧ 32 = d then 3 else if 37 = c ∧ 32 = d then 4 else if 38 = c ∧ 32 = d then 5 else if 124 = c ∧ 32 = d then 6 else if 94 = c ∧ 32 = d then 7 else if 60 = c ∧ 60 = d then 8 else if 62 = c ∧ 62 = d then 9 else if 60 = c ∧ 32 = d then 10 else if 60 = c ∧ 61 = d then 11 else if 61 = c ∧ 61 = d then 12 else if 33 = c ∧ 61 = d then 13 else -1 := by rw [opF_0, opF_1, opF_2, opF_3, opF_4, opF_5, opF_6, opF_7, opF_8, opF_9, opF_10, opF_11, opF_12, opF_13, opF_14]
/-- blanks in front of place n -/
def spN (bs : List Int32) : Nat → Nat
  | 0 => 0
  | n + 1 => spN bs n + (if bs.getD n 0 = 32 then 1 else 0)
theorem ch2_tr {j : Int32} (h : tr_RStringLatin1_charAt2 bs j r) : r.toInt = chr bs j.toInt.toNat := by
  refine h (fun r => r.toInt = chr bs j.toInt.toNat) ?_
  · intro x1 x2 x3 x4 h1 h2 h3 h4 h5
    show x4.toInt = _
    have b := chr_lt (bs := bs) (j := j.toInt.toNat)
    have e3 : x3.toInt = chr bs j.toInt.toNat := by rw [h4, h3]; rfl
    rw [px_i2c h5 (by omega) (by omega), e3]
theorem cha2_tr {j : Int32} (h : tr_RString_charAt2 bs j r) : r.toInt = chr bs j.toInt.toNat := by
  refine h (fun r => r.toInt = chr bs j.toInt.toNat) ?_
  · intro x1 h1 h2
    exact ch2_tr h2
theorem ops_tl {c1 : Int32} {s1 : Int32} {s2 : Int32} {k : Nat} {e1 : Int32} {q : Nat} (hc : c1.toInt = (q : Int)) (hq : q ≤ 34) (h : tl_RModel_operation_40 c1 s1 s2 k e1) : ∀ i : Nat, s1.toInt = (i : Int) → i ≤ q → e1.toInt + (spN sb_42 i : Int) = s2.toInt + (spN sb_42 q : Int) := by
  have sp : ∀ i : Fin 34, (chr sb_42 i.val = 32 ↔ sb_42.getD i.val 0 = 32) := by decide
  refine h (fun s1 s2 _ e1 => ∀ i : Nat, s1.toInt = (i : Int) → i ≤ q → e1.toInt + (spN sb_42 i : Int) = s2.toInt + (spN sb_42 q : Int)) ?_ ?_ ?_
  · intro l3_1 l2_1 h1 h2
    intro i hi hiq
    have e : i = q := by omega
    rw [e]
  · intro l3_1 l2_1 x1 x2 x3 k e1 h1 h2 h3 h4 h5 h6 h7 ih
    intro i hi hiq
    have q1 := cha2_tr h4
    have ei : l3_1.toInt.toNat = i := by omega
    rw [ei] at q1
    have q2 := sp ⟨i, by omega⟩
    have q3 := ih (i + 1) (by omega) (by omega)
    have q4 : spN sb_42 (i + 1) = spN sb_42 i + (if sb_42.getD i 0 = 32 then 1 else 0) := rfl
    rw [if_neg (fun z => h5 (by rw [q1]; exact q2.mpr z))] at q4
    omega
  · intro l3_1 l2_1 x1 x2 x3 k e1 h1 h2 h3 h4 h5 h6 h7 ih
    intro i hi hiq
    have q1 := cha2_tr h4
    have ei : l3_1.toInt.toNat = i := by omega
    rw [ei] at q1
    have q2 := sp ⟨i, by omega⟩
    have q3 := ih (i + 1) (by omega) (by omega)
    have q4 : spN sb_42 (i + 1) = spN sb_42 i + (if sb_42.getD i 0 = 32 then 1 else 0) := rfl
    rw [if_pos (q2.mp (by rw [← q1]; exact h5))] at q4
    omega
theorem ap31 {cnt o : Int32} {c0 : Nat} (h : tr_RAbstractStringBuilder_append3 cnt f n g l o x) (hc : cnt.toInt = (c0 : Int)) : o.toInt = ((c0 + l : Nat) : Int) ∧ (∀ j, j < c0 → x j = f j) ∧ (∀ j, j < l → x (c0 + j) = g j) ∧ c0 + l ≤ n := by
  refine h (fun o x => o.toInt = ((c0 + l : Nat) : Int) ∧ (∀ j, j < c0 → x j = f j) ∧ (∀ j, j < l → x (c0 + j) = g j) ∧ c0 + l ≤ n) ?_
  · intro x1 x2 x3 x4 h1 h2 h3 h4 h5 h6
    have q1 := sl_tr h2
    have q2 := ecm_tr h4
    obtain ⟨p1, p2⟩ := ps1_tr h5 hc
    exact ⟨by omega, p1, p2, by omega⟩
/-- a text between two blanks -/
theorem ap3 {cnt o : Int32} {c0 : Nat} (h : tr_RStringBuilder_append3 cnt f n g l o x) (hc : cnt.toInt = (c0 : Int)) : o.toInt = ((c0 + l : Nat) : Int) ∧ (∀ j, j < c0 → x j = f j) ∧ (∀ j, j < l → x (c0 + j) = g j) ∧ c0 + l ≤ n := by
  refine h (fun o x => o.toInt = ((c0 + l : Nat) : Int) ∧ (∀ j, j < c0 → x j = f j) ∧ (∀ j, j < l → x (c0 + j) = g j) ∧ c0 + l ≤ n) ?_
  · intro x1 x2 h1 h2
    exact ap31 h2 hc
/-- the letters of a sign: blank, the text, blank -/
def bbT (g : Nat → Int32) (l : Nat) (y : Nat → Int32) : Prop := (y 0).toInt = 32 ∧ (∀ j, j < l → y (1 + j) = g j) ∧ (y (1 + l)).toInt = 32
theorem one_b : ([32] : List Int32).getD 0 0 = 32 := rfl
theorem rop_tr {o : Int32} (h : tr_RModel_operation g l o) : ∃ y : Nat → Int32, bbT g l y ∧ ((o.toInt = 0 ∧ ∀ p, ¬ mtc sb_42 (l + 2) y p) ∨ ∃ q : Nat, mtc sb_42 (l + 2) y q ∧ (∀ p, p < q → ¬ mtc sb_42 (l + 2) y p) ∧ o.toInt = 1 + (spN sb_42 q : Int)) := by
  have l1 : sb_43.length = 1 := by decide
  have e0 : (sb_43.getD 0 0).toInt = 32 := by decide
  have l2 : sb_42.length = 34 := by decide
  refine h (fun o => ∃ y : Nat → Int32, bbT g l y ∧ ((o.toInt = 0 ∧ ∀ p, ¬ mtc sb_42 (l + 2) y p) ∨ ∃ q : Nat, mtc sb_42 (l + 2) y q ∧ (∀ p, p < q → ¬ mtc sb_42 (l + 2) y p) ∧ o.toInt = 1 + (spN sb_42 q : Int))) ?_ ?_
  · intro x1 x2 x3 x4 x5 x6 x7 x8 x9 x10 h1 h2 h3 h4 h5 h6 h7 h8 h9 h10 h11
    obtain ⟨a1, a2, a3, a4⟩ := apl h2 (c := 0) (by decide) (by decide)
    rw [l1] at a1 a3
    obtain ⟨b1, b2, b3, b4⟩ := ap3 h4 (c0 := 1) a1
    obtain ⟨c1, c2, c3, c4⟩ := apl h6 (c := 1 + l) b1 b4
    rw [l1] at c1 c3 c4
    obtain ⟨d1, d2⟩ := tos_tr h7 (c := 1 + l + 1) c1 c4
    have yb : bbT g l x8 := by
      refine ⟨?_, fun j hj => ?_, ?_⟩
      · rw [d2 0 (by omega), c2 0 (by omega), b2 0 (by decide)]
        have := a3 0 (by decide)
        rw [Nat.zero_add] at this
        rw [this]; exact e0
      · rw [d2 _ (by omega), c2 _ (by omega)]; exact b3 j hj
      · rw [d2 _ (by omega)]
        have := c3 0 (by decide)
        rw [Nat.add_zero] at this
        rw [this]; exact e0
    have em : x7 = l + 2 := by omega
    rw [em] at h9
    refine ⟨x8, yb, ?_⟩
    rcases iof_tr (by omega) (by rw [l2]; decide) (by rw [l2]; decide) h9 with ⟨k1, -⟩ | ⟨q, k1, k2, k3⟩
    · omega
    · have q33 := k2.1
      rw [l2] at q33
      have s := ops_tl k1 (by omega) h11 0 (by decide) (Nat.zero_le _)
      have z : spN sb_42 0 = 0 := rfl
      rw [z, px_1] at s
      exact Or.inr ⟨q, k2, k3, by omega⟩
  · intro x1 x2 x3 x4 x5 x6 x7 x8 x9 h1 h2 h3 h4 h5 h6 h7 h8 h9 h10
    obtain ⟨a1, a2, a3, a4⟩ := apl h2 (c := 0) (by decide) (by decide)
    rw [l1] at a1 a3
    obtain ⟨b1, b2, b3, b4⟩ := ap3 h4 (c0 := 1) a1
    obtain ⟨c1, c2, c3, c4⟩ := apl h6 (c := 1 + l) b1 b4
    rw [l1] at c1 c3 c4
    obtain ⟨d1, d2⟩ := tos_tr h7 (c := 1 + l + 1) c1 c4
    have yb : bbT g l x8 := by
      refine ⟨?_, fun j hj => ?_, ?_⟩
      · rw [d2 0 (by omega), c2 0 (by omega), b2 0 (by decide)]
        have := a3 0 (by decide)
        rw [Nat.zero_add] at this
        rw [this]; exact e0
      · rw [d2 _ (by omega), c2 _ (by omega)]; exact b3 j hj
      · rw [d2 _ (by omega)]
        have := c3 0 (by decide)
        rw [Nat.add_zero] at this
        rw [this]; exact e0
    have em : x7 = l + 2 := by omega
    rw [em] at h9
    refine ⟨x8, yb, ?_⟩
    rcases iof_tr (by omega) (by rw [l2]; decide) (by rw [l2]; decide) h9 with ⟨k1, k2⟩ | ⟨q, k1, -⟩
    · exact Or.inl ⟨px_0, k2⟩
    · omega
end RSY
