section
section RRS
variable {n i x : Int32} {f : Nat → Int32}
theorem px_255 (hb : gB x (-128) 127) : (x &&& 255).toInt = if 0 ≤ x.toInt then x.toInt else x.toInt + 256 := by
  have h1 : (x &&& 255).toBitVec.toNat = x.toBitVec.toNat % 256 := by
    have e : (x &&& 255).toBitVec.toNat = x.toBitVec.toNat &&& 255 := rfl
    rw [e, show (255 : Nat) = 2 ^ 8 - 1 by decide, Nat.and_two_pow_sub_one_eq_mod]
  have h3 : x.toInt = if 2 * x.toBitVec.toNat < 2 ^ 32 then (x.toBitVec.toNat : Int) else (x.toBitVec.toNat : Int) - (2 ^ 32 : Nat) := BitVec.toInt_eq_toNat_cond x.toBitVec
  have h5 := x.toBitVec.isLt
  have h6 := gI_ofNat h1 (by omega)
  have b1 := hb.1
  have b2 := hb.2
  rw [h6]
  split at h3 <;> split <;> omega
theorem rb (hx : x = f i.toNatClampNeg) (hb : gB x (-128) 127) (h0 : 0 ≤ i.toInt) (h1 : i.toInt < n.toInt) : bA f n.toInt i.toInt = if 0 ≤ x.toInt then x.toInt else x.toInt + 256 := by
  unfold bA
  rw [if_pos ⟨h0, h1⟩]
  have e : i.toInt.toNat = i.toNatClampNeg := rfl
  rw [e, ← hx]
  exact px_255 hb
theorem rbe (hx : x = f i.toNatClampNeg) (hb : gB x (-128) 127) (h0 : 0 ≤ i.toInt) (h1 : i.toInt < n.toInt) : (∀ c : Int, 0 ≤ c → c ≤ 127 → (x.toInt = c ↔ bA f n.toInt i.toInt = c)) ∧ (∀ c d : Int, 0 ≤ c → d ≤ 127 → ((c ≤ x.toInt ∧ x.toInt ≤ d) ↔ (c ≤ bA f n.toInt i.toInt ∧ bA f n.toInt i.toInt ≤ d))) := by
  have q := rb hx hb h0 h1
  have b1 := hb.1
  have b2 := hb.2
  constructor
  · intro c c1 c2
    split at q <;> omega
  · intro c d c1 c2
    split at q <;> omega
theorem rdg_tr {c r : Int32} (h : tr_RReader_isDigit2 c r) : (r.toInt = 1 ∧ 48 ≤ c.toInt ∧ c.toInt ≤ 57) ∨ (r.toInt = 0 ∧ ¬ (48 ≤ c.toInt ∧ c.toInt ≤ 57)) := by
  refine h (fun r => (r.toInt = 1 ∧ 48 ≤ c.toInt ∧ c.toInt ≤ 57) ∨ (r.toInt = 0 ∧ ¬ (48 ≤ c.toInt ∧ c.toInt ≤ 57))) ?_ ?_ ?_
  · intro h1
    exact Or.inr ⟨px_0, by omega⟩
  · intro h1 h2
    exact Or.inr ⟨px_0, by omega⟩
  · intro h1 h2
    exact Or.inl ⟨px_1, h1, h2⟩
theorem rlt_tr {c r : Int32} (h : tr_RReader_isLetter2 c r) : (r.toInt = 1 ∧ 97 ≤ c.toInt ∧ c.toInt ≤ 122) ∨ (r.toInt = 0 ∧ ¬ (97 ≤ c.toInt ∧ c.toInt ≤ 122)) := by
  refine h (fun r => (r.toInt = 1 ∧ 97 ≤ c.toInt ∧ c.toInt ≤ 122) ∨ (r.toInt = 0 ∧ ¬ (97 ≤ c.toInt ∧ c.toInt ≤ 122))) ?_ ?_ ?_
  · intro h1
    exact Or.inr ⟨px_0, by omega⟩
  · intro h1 h2
    exact Or.inr ⟨px_0, by omega⟩
  · intro h1 h2
    exact Or.inl ⟨px_1, h1, h2⟩
theorem rmn_tr {a b r : Int64} (h : tr_RMath_min a b r) : r.toInt = if a.toInt ≤ b.toInt then a.toInt else b.toInt := by
  refine h (fun r => r.toInt = if a.toInt ≤ b.toInt then a.toInt else b.toInt) ?_ ?_
  · intro x1 h1 h2
    have q := px_cgt h1 h2
    show b.toInt = _
    rw [if_neg (by omega)]
  · intro x1 h1 h2
    have q := px_cle h1 h2
    show a.toInt = _
    rw [if_pos q]
theorem rn_tl {a0_n : Int32} {a0_t_v : Nat → Int32} {s1 : Int64} {s2 : Int32} {k : Nat} {e1 : Int64} {e2 : Int32} (h : tl_RReader_number_16 a0_n a0_t_v s1 s2 k e1 e2) : 0 ≤ s2.toInt → 0 ≤ s1.toInt → s1.toInt ≤ 1099511627776 → dgs (bA a0_t_v a0_n.toInt) a0_n.toInt s2.toInt s1.toInt = (e1.toInt, e2.toInt) ∧ 0 ≤ e1.toInt ∧ e1.toInt ≤ 1099511627776 := by
  refine h (fun s1 s2 _ e1 e2 => 0 ≤ s2.toInt → 0 ≤ s1.toInt → s1.toInt ≤ 1099511627776 → dgs (bA a0_t_v a0_n.toInt) a0_n.toInt s2.toInt s1.toInt = (e1.toInt, e2.toInt) ∧ 0 ≤ e1.toInt ∧ e1.toInt ≤ 1099511627776) ?_ ?_ ?_
  · intro l2_1 a0_at_1 h1 h2
    try dsimp only at *
    intro h0 v0 v1
    refine ⟨?_, v0, v1⟩
    rw [dgs, if_neg (by omega)]
  · intro l2_1 a0_at_1 x1 x2 h1 h2 h3 h4 h5 h6 h7
    try dsimp only at *
    intro h0 v0 v1
    have q1 := rbe (n := a0_n) h3 h4 h0 h2
    have q2 := rdg_tr h6
    have q3 := q1.2 48 57 (by decide) (by decide)
    refine ⟨?_, v0, v1⟩
    rw [dgs, if_neg (by omega)]
  · intro l2_1 a0_at_1 x1 x2 x3 x4 x5 x6 x7 x8 k e1 e2 h1 h2 h3 h4 h5 h6 h7 h8 h9 h10 h11 h12 h13 ih
    try dsimp only at *
    intro h0 v0 v1
    have q1 := rbe (n := a0_n) h3 h4 h0 h2
    have q2 := rdg_tr h6
    have q3 := q1.2 48 57 (by decide) (by decide)
    have hd : 48 ≤ x1.toInt ∧ x1.toInt ≤ 57 := by omega
    have q4 := rb (n := a0_n) h3 h4 h0 h2
    rw [if_pos (by omega)] at q4
    have c10 : (10 : Int64).toInt = 10 := by decide
    have c48 : (48 : Int64).toInt = 48 := by decide
    have cM : (1099511627776 : Int64).toInt = 1099511627776 := by decide
    have lb : 0 ≤ l2_1.toInt ∧ l2_1.toInt ≤ 1099511627776 := by exact ⟨v0, v1⟩
    have p1 : x3.toInt = l2_1.toInt * 10 := by rw [h8, Int64.toInt_mul, c10]; exact px_64 (by omega) (by omega)
    have p2 : x4.toInt = x1.toInt := by rw [h9]; exact Int32.toInt_toInt64 x1
    have p3 : x5.toInt = x3.toInt + x4.toInt := by rw [h10, Int64.toInt_add]; exact px_64 (by omega) (by omega)
    have p4 : x6.toInt = x5.toInt - 48 := by rw [h11, Int64.toInt_sub, c48]; exact px_64 (by omega) (by omega)
    have q5 := rmn_tr h12
    rw [cM] at q5
    have cc : a0_at_1.toInt < a0_n.toInt ∧ 48 ≤ bA a0_t_v a0_n.toInt a0_at_1.toInt ∧ bA a0_t_v a0_n.toInt a0_at_1.toInt ≤ 57 := by omega
    have p5 : x7.toInt = if l2_1.toInt * 10 + bA a0_t_v a0_n.toInt a0_at_1.toInt - 48 ≤ 1099511627776 then l2_1.toInt * 10 + bA a0_t_v a0_n.toInt a0_at_1.toInt - 48 else 1099511627776 := by
      rw [q5, p4, p3, p2, p1, q4]
    have p6 : 0 ≤ x7.toInt ∧ x7.toInt ≤ 1099511627776 := by rw [q5]; split <;> omega
    obtain ⟨r1, r2, r3⟩ := ih (by omega) p6.1 p6.2
    refine ⟨?_, r2, r3⟩
    rw [dgs, if_pos cc, ← p5, ← h13]
    exact r1
theorem rn_tl2 {a0_n : Int32} {a0_t_v : Nat → Int32} {s1 : Int64} {s2 : Int32} {k : Nat} {e1 : Int64} {e2 : Int32} (h : tl_RReader_number_16_2 a0_n a0_t_v s1 s2 k e1 e2) : 0 ≤ s2.toInt → 0 ≤ s1.toInt → s1.toInt ≤ 1099511627776 → dgs (bA a0_t_v a0_n.toInt) a0_n.toInt s2.toInt s1.toInt = (e1.toInt, e2.toInt) ∧ 0 ≤ e1.toInt ∧ e1.toInt ≤ 1099511627776 := by
  refine h (fun s1 s2 _ e1 e2 => 0 ≤ s2.toInt → 0 ≤ s1.toInt → s1.toInt ≤ 1099511627776 → dgs (bA a0_t_v a0_n.toInt) a0_n.toInt s2.toInt s1.toInt = (e1.toInt, e2.toInt) ∧ 0 ≤ e1.toInt ∧ e1.toInt ≤ 1099511627776) ?_ ?_ ?_
  · intro l2_1 a0_at_1 h1 h2
    try dsimp only at *
    intro h0 v0 v1
    refine ⟨?_, v0, v1⟩
    rw [dgs, if_neg (by omega)]
  · intro l2_1 a0_at_1 x1 x2 h1 h2 h3 h4 h5 h6 h7
    try dsimp only at *
    intro h0 v0 v1
    have q1 := rbe (n := a0_n) h3 h4 h0 h2
    have q2 := rdg_tr h6
    have q3 := q1.2 48 57 (by decide) (by decide)
    refine ⟨?_, v0, v1⟩
    rw [dgs, if_neg (by omega)]
  · intro l2_1 a0_at_1 x1 x2 x3 x4 x5 x6 x7 x8 k e1 e2 h1 h2 h3 h4 h5 h6 h7 h8 h9 h10 h11 h12 h13 ih
    try dsimp only at *
    intro h0 v0 v1
    have q1 := rbe (n := a0_n) h3 h4 h0 h2
    have q2 := rdg_tr h6
    have q3 := q1.2 48 57 (by decide) (by decide)
    have hd : 48 ≤ x1.toInt ∧ x1.toInt ≤ 57 := by omega
    have q4 := rb (n := a0_n) h3 h4 h0 h2
    rw [if_pos (by omega)] at q4
    have c10 : (10 : Int64).toInt = 10 := by decide
    have c48 : (48 : Int64).toInt = 48 := by decide
    have cM : (1099511627776 : Int64).toInt = 1099511627776 := by decide
    have lb : 0 ≤ l2_1.toInt ∧ l2_1.toInt ≤ 1099511627776 := by exact ⟨v0, v1⟩
    have p1 : x3.toInt = l2_1.toInt * 10 := by rw [h8, Int64.toInt_mul, c10]; exact px_64 (by omega) (by omega)
    have p2 : x4.toInt = x1.toInt := by rw [h9]; exact Int32.toInt_toInt64 x1
    have p3 : x5.toInt = x3.toInt + x4.toInt := by rw [h10, Int64.toInt_add]; exact px_64 (by omega) (by omega)
    have p4 : x6.toInt = x5.toInt - 48 := by rw [h11, Int64.toInt_sub, c48]; exact px_64 (by omega) (by omega)
    have q5 := rmn_tr h12
    rw [cM] at q5
    have cc : a0_at_1.toInt < a0_n.toInt ∧ 48 ≤ bA a0_t_v a0_n.toInt a0_at_1.toInt ∧ bA a0_t_v a0_n.toInt a0_at_1.toInt ≤ 57 := by omega
    have p5 : x7.toInt = if l2_1.toInt * 10 + bA a0_t_v a0_n.toInt a0_at_1.toInt - 48 ≤ 1099511627776 then l2_1.toInt * 10 + bA a0_t_v a0_n.toInt a0_at_1.toInt - 48 else 1099511627776 := by
      rw [q5, p4, p3, p2, p1, q4]
    have p6 : 0 ≤ x7.toInt ∧ x7.toInt ≤ 1099511627776 := by rw [q5]; split <;> omega
    obtain ⟨r1, r2, r3⟩ := ih (by omega) p6.1 p6.2
    refine ⟨?_, r2, r3⟩
    rw [dgs, if_pos cc, ← p5, ← h13]
    exact r1
theorem rw_tl {a0_n : Int32} {a0_t_v : Nat → Int32} {s1 : Int64} {s2 : Int32} {k : Nat} {e1 : Int64} {e2 : Int32} (h : tl_RReader_word_70 a0_n a0_t_v s1 s2 k e1 e2) : 0 ≤ s2.toInt → ∀ w : Int, 0 ≤ w → w ≤ 1099511627776 → s1.toInt = (if w ≤ 1000000 then w else 1000000) → (dgs (bA a0_t_v a0_n.toInt) a0_n.toInt s2.toInt w).2 = e2.toInt ∧ e1.toInt = (if (dgs (bA a0_t_v a0_n.toInt) a0_n.toInt s2.toInt w).1 ≤ 1000000 then (dgs (bA a0_t_v a0_n.toInt) a0_n.toInt s2.toInt w).1 else 1000000) := by
  refine h (fun s1 s2 _ e1 e2 => 0 ≤ s2.toInt → ∀ w : Int, 0 ≤ w → w ≤ 1099511627776 → s1.toInt = (if w ≤ 1000000 then w else 1000000) → (dgs (bA a0_t_v a0_n.toInt) a0_n.toInt s2.toInt w).2 = e2.toInt ∧ e1.toInt = (if (dgs (bA a0_t_v a0_n.toInt) a0_n.toInt s2.toInt w).1 ≤ 1000000 then (dgs (bA a0_t_v a0_n.toInt) a0_n.toInt s2.toInt w).1 else 1000000)) ?_ ?_ ?_
  · intro l2_1 a0_at_1 h1 h2
    try dsimp only at *
    intro h0 w w0 w1 hw
    rw [dgs, if_neg (by omega)]
    exact ⟨rfl, hw⟩
  · intro l2_1 a0_at_1 x1 x2 h1 h2 h3 h4 h5 h6 h7
    try dsimp only at *
    intro h0 w w0 w1 hw
    have q1 := rbe (n := a0_n) h3 h4 h0 h2
    have q2 := rdg_tr h6
    have q3 := q1.2 48 57 (by decide) (by decide)
    rw [dgs, if_neg (by omega)]
    exact ⟨rfl, hw⟩
  · intro l2_1 a0_at_1 x1 x2 x3 x4 x5 x6 x7 x8 k e1 e2 h1 h2 h3 h4 h5 h6 h7 h8 h9 h10 h11 h12 h13 ih
    try dsimp only at *
    intro h0 w w0 w1 hw
    have q1 := rbe (n := a0_n) h3 h4 h0 h2
    have q2 := rdg_tr h6
    have q3 := q1.2 48 57 (by decide) (by decide)
    have hd : 48 ≤ x1.toInt ∧ x1.toInt ≤ 57 := by omega
    have q4 := rb (n := a0_n) h3 h4 h0 h2
    rw [if_pos (by omega)] at q4
    have c10 : (10 : Int64).toInt = 10 := by decide
    have c48 : (48 : Int64).toInt = 48 := by decide
    have cM : (1000000 : Int64).toInt = 1000000 := by decide
    have lb : 0 ≤ l2_1.toInt ∧ l2_1.toInt ≤ 1099511627776 := by rw [hw]; split <;> omega
    have p1 : x3.toInt = l2_1.toInt * 10 := by rw [h8, Int64.toInt_mul, c10]; exact px_64 (by omega) (by omega)
    have p2 : x4.toInt = x1.toInt := by rw [h9]; exact Int32.toInt_toInt64 x1
    have p3 : x5.toInt = x3.toInt + x4.toInt := by rw [h10, Int64.toInt_add]; exact px_64 (by omega) (by omega)
    have p4 : x6.toInt = x5.toInt - 48 := by rw [h11, Int64.toInt_sub, c48]; exact px_64 (by omega) (by omega)
    have q5 := rmn_tr h12
    rw [cM] at q5
    have cc : a0_at_1.toInt < a0_n.toInt ∧ 48 ≤ bA a0_t_v a0_n.toInt a0_at_1.toInt ∧ bA a0_t_v a0_n.toInt a0_at_1.toInt ≤ 57 := by omega
    rw [dgs, if_pos cc, ← h13]
    refine ih (by omega) _ (by split <;> omega) (by split <;> omega) ?_
    rw [q5, p4, p3, p2, p1, hw, q4]
    split <;> split <;> split <;> (try split) <;> omega
theorem rw_tl2 {a0_n : Int32} {a0_t_v : Nat → Int32} {s1 : Int64} {s2 : Int32} {k : Nat} {e1 : Int64} {e2 : Int32} (h : tl_RReader_word_70_2 a0_n a0_t_v s1 s2 k e1 e2) : 0 ≤ s2.toInt → ∀ w : Int, 0 ≤ w → w ≤ 1099511627776 → s1.toInt = (if w ≤ 1000000 then w else 1000000) → (dgs (bA a0_t_v a0_n.toInt) a0_n.toInt s2.toInt w).2 = e2.toInt ∧ e1.toInt = (if (dgs (bA a0_t_v a0_n.toInt) a0_n.toInt s2.toInt w).1 ≤ 1000000 then (dgs (bA a0_t_v a0_n.toInt) a0_n.toInt s2.toInt w).1 else 1000000) := by
  refine h (fun s1 s2 _ e1 e2 => 0 ≤ s2.toInt → ∀ w : Int, 0 ≤ w → w ≤ 1099511627776 → s1.toInt = (if w ≤ 1000000 then w else 1000000) → (dgs (bA a0_t_v a0_n.toInt) a0_n.toInt s2.toInt w).2 = e2.toInt ∧ e1.toInt = (if (dgs (bA a0_t_v a0_n.toInt) a0_n.toInt s2.toInt w).1 ≤ 1000000 then (dgs (bA a0_t_v a0_n.toInt) a0_n.toInt s2.toInt w).1 else 1000000)) ?_ ?_ ?_
  · intro l2_1 a0_at_1 h1 h2
    try dsimp only at *
    intro h0 w w0 w1 hw
    rw [dgs, if_neg (by omega)]
    exact ⟨rfl, hw⟩
  · intro l2_1 a0_at_1 x1 x2 h1 h2 h3 h4 h5 h6 h7
    try dsimp only at *
    intro h0 w w0 w1 hw
    have q1 := rbe (n := a0_n) h3 h4 h0 h2
    have q2 := rdg_tr h6
    have q3 := q1.2 48 57 (by decide) (by decide)
    rw [dgs, if_neg (by omega)]
    exact ⟨rfl, hw⟩
  · intro l2_1 a0_at_1 x1 x2 x3 x4 x5 x6 x7 x8 k e1 e2 h1 h2 h3 h4 h5 h6 h7 h8 h9 h10 h11 h12 h13 ih
    try dsimp only at *
    intro h0 w w0 w1 hw
    have q1 := rbe (n := a0_n) h3 h4 h0 h2
    have q2 := rdg_tr h6
    have q3 := q1.2 48 57 (by decide) (by decide)
    have hd : 48 ≤ x1.toInt ∧ x1.toInt ≤ 57 := by omega
    have q4 := rb (n := a0_n) h3 h4 h0 h2
    rw [if_pos (by omega)] at q4
    have c10 : (10 : Int64).toInt = 10 := by decide
    have c48 : (48 : Int64).toInt = 48 := by decide
    have cM : (1000000 : Int64).toInt = 1000000 := by decide
    have lb : 0 ≤ l2_1.toInt ∧ l2_1.toInt ≤ 1099511627776 := by rw [hw]; split <;> omega
    have p1 : x3.toInt = l2_1.toInt * 10 := by rw [h8, Int64.toInt_mul, c10]; exact px_64 (by omega) (by omega)
    have p2 : x4.toInt = x1.toInt := by rw [h9]; exact Int32.toInt_toInt64 x1
    have p3 : x5.toInt = x3.toInt + x4.toInt := by rw [h10, Int64.toInt_add]; exact px_64 (by omega) (by omega)
    have p4 : x6.toInt = x5.toInt - 48 := by rw [h11, Int64.toInt_sub, c48]; exact px_64 (by omega) (by omega)
    have q5 := rmn_tr h12
    rw [cM] at q5
    have cc : a0_at_1.toInt < a0_n.toInt ∧ 48 ≤ bA a0_t_v a0_n.toInt a0_at_1.toInt ∧ bA a0_t_v a0_n.toInt a0_at_1.toInt ≤ 57 := by omega
    rw [dgs, if_pos cc, ← h13]
    refine ih (by omega) _ (by split <;> omega) (by split <;> omega) ?_
    rw [q5, p4, p3, p2, p1, hw, q4]
    split <;> split <;> split <;> (try split) <;> omega
/-- kinds of signs: the reference's and the machine's, of numbers and names -/
def rkN (kd va : Int32) (s : Int × Int × Int) (at' : Int32) : Prop := at'.toInt = s.2.2 ∧ ((s.1 = 0 ∧ kd.toInt = 6) ∨ (2 ≤ s.1 ∧ s.1 ≤ 4 ∧ kd.toInt = s.1 ∧ va.toInt = s.2.1))
theorem rnum_tr {a1 : Int32} {a0_n : Int32} {a0_at : Int32} {a0_t_v : Nat → Int32} {o1 : Int32} {o2 : Int32} {o3 : Int32} {o4 : gTx} (hp : 0 ≤ a0_at.toInt) (h : tr_RReader_number a1 a0_n a0_at a0_t_v o1 o2 o3 o4) : rkN o2 o3 (nuS (decide (a1.toInt ≠ 0)) (dgs (bA a0_t_v a0_n.toInt) a0_n.toInt (if a1.toInt ≠ 0 then a0_at.toInt + 1 else a0_at.toInt) 0)) o1 := by
  refine h (fun o1 o2 o3 _ => rkN o2 o3 (nuS (decide (a1.toInt ≠ 0)) (dgs (bA a0_t_v a0_n.toInt) a0_n.toInt (if a1.toInt ≠ 0 then a0_at.toInt + 1 else a0_at.toInt) 0)) o1) ?_ ?_ ?_ ?_
  · intro x1 x2 x3 x4 x5 h1 h2 h3 h4 h5 h6
    try dsimp only at *
    obtain ⟨d1, d2, d3⟩ := rn_tl h2 hp (by decide) (by decide)
    rw [show Int64.toInt 0 = 0 by decide] at d1
    have t1 := px_rt h3 (show x5 = x3.toInt64 by rw [h5, h4, h3])
    rw [if_neg (by omega), decide_eq_false (by omega), d1]
    unfold rkN nuS
    rw [if_neg (fun z => h6 (Int64.toInt_inj.mp ?_))]
    · exact ⟨rfl, Or.inl ⟨rfl, by decide⟩⟩
    · rw [t1.2, t1.1]
      simp only [if_true, if_false, Bool.false_eq_true, reduceIte] at z
      exact (gM_of z.1 z.2).symm
  · intro x1 x2 x3 x4 x5 h1 h2 h3 h4 h5 h6
    try dsimp only at *
    obtain ⟨d1, d2, d3⟩ := rn_tl h2 hp (by decide) (by decide)
    rw [show Int64.toInt 0 = 0 by decide] at d1
    have t1 := px_rt h3 (show x5 = x3.toInt64 by rw [h5, h4, h3])
    rw [if_neg (by omega), decide_eq_false (by omega), d1]
    unfold rkN nuS
    have e5 : x3.toInt = x1.toInt := by rw [← t1.2, ← h6]
    have b1 := Int32.le_toInt x3
    have b2 := Int32.toInt_lt x3
    rw [if_pos (by simp only [if_true, if_false, Bool.false_eq_true, reduceIte]; omega)]
    exact ⟨rfl, Or.inr ⟨by show (2 : Int) ≤ 4; decide, by show (4 : Int) ≤ 4; decide, by show Int32.toInt 4 = 4; decide, by rw [e5]; rfl⟩⟩
  · intro x1 x2 x3 x4 x5 x6 x7 h1 h2 h3 h4 h5 h6 h7 h8
    try dsimp only at *
    obtain ⟨d1, d2, d3⟩ := rn_tl2 h3 (by omega) (by decide) (by decide)
    rw [show Int64.toInt 0 = 0 by decide, h2] at d1
    have t1 := px_rt h5 (show x7 = x5.toInt64 by rw [h7, h6, h5])
    have e4 : x4.toInt = -x2.toInt := by rw [h4, Int64.toInt_neg]; exact px_64 (by omega) (by omega)
    rw [if_pos (by omega), decide_eq_true (by omega), d1]
    unfold rkN nuS
    rw [if_neg (fun z => h8 (Int64.toInt_inj.mp ?_))]
    · exact ⟨rfl, Or.inl ⟨rfl, by decide⟩⟩
    · rw [t1.2, t1.1, e4]
      simp only [if_true, if_false, Bool.false_eq_true, reduceIte] at z
      exact (gM_of z.1 z.2).symm
  · intro x1 x2 x3 x4 x5 x6 x7 h1 h2 h3 h4 h5 h6 h7 h8
    try dsimp only at *
    obtain ⟨d1, d2, d3⟩ := rn_tl2 h3 (by omega) (by decide) (by decide)
    rw [show Int64.toInt 0 = 0 by decide, h2] at d1
    have t1 := px_rt h5 (show x7 = x5.toInt64 by rw [h7, h6, h5])
    have e4 : x4.toInt = -x2.toInt := by rw [h4, Int64.toInt_neg]; exact px_64 (by omega) (by omega)
    rw [if_pos (by omega), decide_eq_true (by omega), d1]
    unfold rkN nuS
    have e5 : x5.toInt = -x2.toInt := by rw [← t1.2, ← h8]; exact e4
    have b1 := Int32.le_toInt x5
    have b2 := Int32.toInt_lt x5
    rw [if_pos (by simp only [if_true, if_false, Bool.false_eq_true, reduceIte]; omega)]
    exact ⟨rfl, Or.inr ⟨by show (2 : Int) ≤ 4; decide, by show (4 : Int) ≤ 4; decide, by show Int32.toInt 4 = 4; decide, by rw [e5]; rfl⟩⟩
theorem rs1_tl {a0_n : Int32} {a0_t_v : Nat → Int32} {s1 : Int32} {k : Nat} {e1 : Int32} (h : tl_RReader_next_35 a0_n a0_t_v s1 k e1) : 0 ≤ s1.toInt → s1.toInt ≤ a0_n.toInt → skp (bA a0_t_v a0_n.toInt) a0_n.toInt s1.toInt 1 = skp (bA a0_t_v a0_n.toInt) a0_n.toInt e1.toInt 0 ∧ s1.toInt ≤ e1.toInt ∧ e1.toInt ≤ a0_n.toInt := by
  refine h (fun s1 _ e1 => 0 ≤ s1.toInt → s1.toInt ≤ a0_n.toInt → skp (bA a0_t_v a0_n.toInt) a0_n.toInt s1.toInt 1 = skp (bA a0_t_v a0_n.toInt) a0_n.toInt e1.toInt 0 ∧ s1.toInt ≤ e1.toInt ∧ e1.toInt ≤ a0_n.toInt) ?_ ?_ ?_
  · intro a0_at_2 h1 h2
    try dsimp only at *
    intro h0 h0n
    refine ⟨?_, Int.le_refl _, h0n⟩
    rw [skp, if_neg (by omega), skp, if_neg (by omega)]
  · intro a0_at_2 x1 h1 h2 h3 h4 h5
    try dsimp only at *
    intro h0 h0n
    have q1 := (rbe (n := a0_n) h3 h4 h0 h2).1 10 (by decide) (by decide)
    refine ⟨?_, Int.le_refl _, h0n⟩
    have e1 : skp (bA a0_t_v a0_n.toInt) a0_n.toInt a0_at_2.toInt 1 = skp (bA a0_t_v a0_n.toInt) a0_n.toInt (a0_at_2.toInt + 1) 0 := by rw [skp, if_pos h2, if_pos (by omega)]
    have e2 : skp (bA a0_t_v a0_n.toInt) a0_n.toInt a0_at_2.toInt 0 = skp (bA a0_t_v a0_n.toInt) a0_n.toInt (a0_at_2.toInt + 1) 0 := by rw [skp, if_pos h2, if_pos (by omega)]
    exact e1.trans e2.symm
  · intro a0_at_2 x1 x2 k e1 h1 h2 h3 h4 h5 h6 ih
    try dsimp only at *
    intro h0 h0n
    have q1 := (rbe (n := a0_n) h3 h4 h0 h2).1 10 (by decide) (by decide)
    obtain ⟨r1, r2, r3⟩ := ih (by omega) (by omega)
    refine ⟨?_, by omega, r3⟩
    rw [skp, if_pos h2, if_neg (by omega), if_pos (Or.inl (by decide)), ← h6]
    exact r1
theorem rs_tl {a0_n : Int32} {a0_t_v : Nat → Int32} {s1 : Int32} {k : Nat} {e1 : Int32} (h : tl_RReader_next_8 a0_n a0_t_v s1 k e1) : 0 ≤ s1.toInt → s1.toInt ≤ a0_n.toInt → skp (bA a0_t_v a0_n.toInt) a0_n.toInt s1.toInt 0 = e1.toInt := by
  refine h (fun s1 _ e1 => 0 ≤ s1.toInt → s1.toInt ≤ a0_n.toInt → skp (bA a0_t_v a0_n.toInt) a0_n.toInt s1.toInt 0 = e1.toInt) ?_ ?_ ?_ ?_ ?_ ?_ ?_
  · intro a0_at_1 h1 h2
    try dsimp only at *
    intro h0 h0n
    rw [skp, if_neg (by omega)]; omega
  · intro a0_at_1 x1 x2 k e1 h1 h2 h3 h4 h5 h6 h7 ih
    try dsimp only at *
    intro h0 h0n
    have q := (rbe (n := a0_n) h3 h4 h0 h2).1
    have q59 := q 59 (by decide) (by decide)
    have q9 := q 9 (by decide) (by decide)
    have q10 := q 10 (by decide) (by decide)
    have q13 := q 13 (by decide) (by decide)
    have q32 := q 32 (by decide) (by decide)
    rw [skp, if_pos h2, if_neg (by omega), if_neg (by omega), if_pos (by omega), ← h7]
    exact ih (by omega) (by omega)
  · intro a0_at_1 x1 x2 k e1 h1 h2 h3 h4 h5 h6 h7 h8 ih
    try dsimp only at *
    intro h0 h0n
    have q := (rbe (n := a0_n) h3 h4 h0 h2).1
    have q59 := q 59 (by decide) (by decide)
    have q9 := q 9 (by decide) (by decide)
    have q10 := q 10 (by decide) (by decide)
    have q13 := q 13 (by decide) (by decide)
    have q32 := q 32 (by decide) (by decide)
    rw [skp, if_pos h2, if_pos (by omega), ← h8]
    exact ih (by omega) (by omega)
  · intro a0_at_1 x1 x2 k e1 h1 h2 h3 h4 h5 h6 h7 h8 h9 ih
    try dsimp only at *
    intro h0 h0n
    have q := (rbe (n := a0_n) h3 h4 h0 h2).1
    have q59 := q 59 (by decide) (by decide)
    have q9 := q 9 (by decide) (by decide)
    have q10 := q 10 (by decide) (by decide)
    have q13 := q 13 (by decide) (by decide)
    have q32 := q 32 (by decide) (by decide)
    rw [skp, if_pos h2, if_neg (by omega), if_neg (by omega), if_pos (by omega), ← h9]
    exact ih (by omega) (by omega)
  · intro a0_at_1 x1 h1 h2 h3 h4 h5 h6 h7 h8 h9
    try dsimp only at *
    intro h0 h0n
    have q := (rbe (n := a0_n) h3 h4 h0 h2).1
    have q59 := q 59 (by decide) (by decide)
    have q9 := q 9 (by decide) (by decide)
    have q10 := q 10 (by decide) (by decide)
    have q13 := q 13 (by decide) (by decide)
    have q32 := q 32 (by decide) (by decide)
    rw [skp, if_pos h2, if_neg (by omega), if_neg (by omega), if_neg (by omega)]
  · intro a0_at_1 x1 x2 k e1 h1 h2 h3 h4 h5 h6 h7 h8 h9 h10 ih
    try dsimp only at *
    intro h0 h0n
    have q := (rbe (n := a0_n) h3 h4 h0 h2).1
    have q59 := q 59 (by decide) (by decide)
    have q9 := q 9 (by decide) (by decide)
    have q10 := q 10 (by decide) (by decide)
    have q13 := q 13 (by decide) (by decide)
    have q32 := q 32 (by decide) (by decide)
    rw [skp, if_pos h2, if_neg (by omega), if_neg (by omega), if_pos (by omega), ← h10]
    exact ih (by omega) (by omega)
  · intro a0_at_1 x1 x2 k e1 h1 h2 h3 h4 h5 h6 ih
    try dsimp only at *
    intro h0 h0n
    have q := (rbe (n := a0_n) h3 h4 h0 h2).1
    have q59 := q 59 (by decide) (by decide)
    have q9 := q 9 (by decide) (by decide)
    have q10 := q 10 (by decide) (by decide)
    have q13 := q 13 (by decide) (by decide)
    have q32 := q 32 (by decide) (by decide)
    obtain ⟨r1, r2, r3⟩ := rs1_tl h6 h0 h0n
    rw [← ih (by omega) r3, ← r1]
    rw [skp, if_pos h2, if_neg (by omega), if_pos (Or.inr (by omega))]
    conv => rhs; rw [skp, if_pos h2, if_neg (by omega), if_pos (Or.inl (by decide))]
end RRS
end
section
section RST
/-- the letters of bs from p on are the first m of g -/
def mtc (bs : List Int32) (m : Nat) (g : Nat → Int32) (p : Nat) : Prop := p + m ≤ bs.length ∧ ∀ j, j < m → (bs.getD (p + j) 0).toInt = (g j).toInt
theorem ie_tl {c1 : Int32} {bs : List Int32} {a2_v : Nat → Int32} {s1 : Int32} {s2 : Int32} {k : Nat} {e1 : Int32} (h : tl_RStringLatin1_indexOf2_76 c1 bs a2_v s1 s2 k e1) : ∀ p k0 : Nat, s1.toInt = (k0 : Int) → s2.toInt = ((p + k0 : Nat) : Int) → s2.toInt ≤ c1.toInt → (e1.toInt = c1.toInt ↔ ∀ i, k0 ≤ i → ((p + i : Nat) : Int) < c1.toInt → (bs.getD (p + i) 0).toInt = (a2_v i).toInt) := by
  refine h (fun s1 s2 _ e1 => ∀ p k0 : Nat, s1.toInt = (k0 : Int) → s2.toInt = ((p + k0 : Nat) : Int) → s2.toInt ≤ c1.toInt → (e1.toInt = c1.toInt ↔ ∀ i, k0 ≤ i → ((p + i : Nat) : Int) < c1.toInt → (bs.getD (p + i) 0).toInt = (a2_v i).toInt)) ?_ ?_ ?_
  · intro l10_2 l8_2 h1 h2 h3
    intro p k0 h1 h2 h3
    exact ⟨fun _ i hi hl => by omega, fun _ => by omega⟩
  · intro l10_2 l8_2 x1 x2 h1 h2 h3 h4 h5 h6 h7
    intro p k0 a1 a2 a3
    have e1 := nnE a1
    have e2 := nnE a2
    rw [e2] at h4
    rw [e1] at h5
    refine ⟨fun z => by omega, fun z => ?_⟩
    have q := z k0 (Nat.le_refl _) (by omega)
    rw [← h4, ← h5] at q
    exact absurd q h7
  · intro l10_2 l8_2 x1 x2 x3 x4 k e1 h1 h2 h3 h4 h5 h6 h7 h8 h9 ih
    intro p k0 a1 a2 a3
    have e1 := nnE a1
    have e2 := nnE a2
    rw [e2] at h4
    rw [e1] at h5
    rw [ih p (k0 + 1) (by omega) (by omega) (by omega)]
    constructor
    · intro z i hi hl
      by_cases c : i = k0
      · rw [c, ← h4, ← h5]; exact h7
      · exact z i (by omega) hl
    · exact fun z i hi hl => z i (by omega) hl
theorem ie_tl_2 {c1 : Int32} {bs : List Int32} {a2_v : Nat → Int32} {s1 : Int32} {s2 : Int32} {k : Nat} {e1 : Int32} (h : tl_RStringLatin1_indexOf2_76_2 c1 bs a2_v s1 s2 k e1) : ∀ p k0 : Nat, s1.toInt = (k0 : Int) → s2.toInt = ((p + k0 : Nat) : Int) → s2.toInt ≤ c1.toInt → (e1.toInt = c1.toInt ↔ ∀ i, k0 ≤ i → ((p + i : Nat) : Int) < c1.toInt → (bs.getD (p + i) 0).toInt = (a2_v i).toInt) := by
  refine h (fun s1 s2 _ e1 => ∀ p k0 : Nat, s1.toInt = (k0 : Int) → s2.toInt = ((p + k0 : Nat) : Int) → s2.toInt ≤ c1.toInt → (e1.toInt = c1.toInt ↔ ∀ i, k0 ≤ i → ((p + i : Nat) : Int) < c1.toInt → (bs.getD (p + i) 0).toInt = (a2_v i).toInt)) ?_ ?_ ?_
  · intro l10_2 l8_2 h1 h2 h3
    intro p k0 h1 h2 h3
    exact ⟨fun _ i hi hl => by omega, fun _ => by omega⟩
  · intro l10_2 l8_2 x1 x2 h1 h2 h3 h4 h5 h6 h7
    intro p k0 a1 a2 a3
    have e1 := nnE a1
    have e2 := nnE a2
    rw [e2] at h4
    rw [e1] at h5
    refine ⟨fun z => by omega, fun z => ?_⟩
    have q := z k0 (Nat.le_refl _) (by omega)
    rw [← h4, ← h5] at q
    exact absurd q h7
  · intro l10_2 l8_2 x1 x2 x3 x4 k e1 h1 h2 h3 h4 h5 h6 h7 h8 h9 ih
    intro p k0 a1 a2 a3
    have e1 := nnE a1
    have e2 := nnE a2
    rw [e2] at h4
    rw [e1] at h5
    rw [ih p (k0 + 1) (by omega) (by omega) (by omega)]
    constructor
    · intro z i hi hl
      by_cases c : i = k0
      · rw [c, ← h4, ← h5]; exact h7
      · exact z i (by omega) hl
    · exact fun z i hi hl => z i (by omega) hl
theorem ie_tl_3 {c1 : Int32} {bs : List Int32} {a2_v : Nat → Int32} {s1 : Int32} {s2 : Int32} {k : Nat} {e1 : Int32} (h : tl_RStringLatin1_indexOf2_76_3 c1 bs a2_v s1 s2 k e1) : ∀ p k0 : Nat, s1.toInt = (k0 : Int) → s2.toInt = ((p + k0 : Nat) : Int) → s2.toInt ≤ c1.toInt → (e1.toInt = c1.toInt ↔ ∀ i, k0 ≤ i → ((p + i : Nat) : Int) < c1.toInt → (bs.getD (p + i) 0).toInt = (a2_v i).toInt) := by
  refine h (fun s1 s2 _ e1 => ∀ p k0 : Nat, s1.toInt = (k0 : Int) → s2.toInt = ((p + k0 : Nat) : Int) → s2.toInt ≤ c1.toInt → (e1.toInt = c1.toInt ↔ ∀ i, k0 ≤ i → ((p + i : Nat) : Int) < c1.toInt → (bs.getD (p + i) 0).toInt = (a2_v i).toInt)) ?_ ?_ ?_
  · intro l10_2 l8_2 h1 h2 h3
    intro p k0 h1 h2 h3
    exact ⟨fun _ i hi hl => by omega, fun _ => by omega⟩
  · intro l10_2 l8_2 x1 x2 h1 h2 h3 h4 h5 h6 h7
    intro p k0 a1 a2 a3
    have e1 := nnE a1
    have e2 := nnE a2
    rw [e2] at h4
    rw [e1] at h5
    refine ⟨fun z => by omega, fun z => ?_⟩
    have q := z k0 (Nat.le_refl _) (by omega)
    rw [← h4, ← h5] at q
    exact absurd q h7
  · intro l10_2 l8_2 x1 x2 x3 x4 k e1 h1 h2 h3 h4 h5 h6 h7 h8 h9 ih
    intro p k0 a1 a2 a3
    have e1 := nnE a1
    have e2 := nnE a2
    rw [e2] at h4
    rw [e1] at h5
    rw [ih p (k0 + 1) (by omega) (by omega) (by omega)]
    constructor
    · intro z i hi hl
      by_cases c : i = k0
      · rw [c, ← h4, ← h5]; exact h7
      · exact z i (by omega) hl
    · exact fun z i hi hl => z i (by omega) hl
theorem io3_tl {c1 : Int32} {bs : List Int32} {c2 : Int32} {s1 : Int32} {k : Nat} {e1 : Int32} (h : tl_RStringLatin1_indexOf2_30 c1 bs c2 s1 k e1) : ∀ i : Nat, s1.toInt = (i : Int) → s1.toInt ≤ c1.toInt → ∃ j : Nat, e1.toInt = (j : Int) ∧ i < j ∧ (∀ q : Nat, i < q → q < j → (bs.getD q 0).toInt ≠ c2.toInt) ∧ ((j : Int) ≤ c1.toInt → (bs.getD j 0).toInt = c2.toInt) ∧ (j : Int) ≤ c1.toInt + 1 := by
  refine h (fun s1 _ e1 => ∀ i : Nat, s1.toInt = (i : Int) → s1.toInt ≤ c1.toInt → ∃ j : Nat, e1.toInt = (j : Int) ∧ i < j ∧ (∀ q : Nat, i < q → q < j → (bs.getD q 0).toInt ≠ c2.toInt) ∧ ((j : Int) ≤ c1.toInt → (bs.getD j 0).toInt = c2.toInt) ∧ (j : Int) ≤ c1.toInt + 1) ?_ ?_ ?_
  · intro l7_2 x1 h1 h2 h3
    intro i hi hc
    exact ⟨i + 1, by omega, by omega, fun q a b => by omega, fun z => by omega, by omega⟩
  · intro l7_2 x1 x2 h1 h2 h3 h4 h5
    intro i hi hc
    rw [nnE (show x1.toInt = ((i + 1 : Nat) : Int) by omega)] at h4
    exact ⟨i + 1, by omega, by omega, fun q a b => by omega, fun _ => by rw [← h4]; exact h5, by omega⟩
  · intro l7_2 x1 x2 k e1 h1 h2 h3 h4 h5 ih
    intro i hi hc
    rw [nnE (show x1.toInt = ((i + 1 : Nat) : Int) by omega)] at h4
    obtain ⟨j, k1, k2, k3, k4, k5⟩ := ih (i + 1) (by omega) (by omega)
    refine ⟨j, k1, by omega, fun q a b => ?_, k4, k5⟩
    by_cases e : q = i + 1
    · rw [e, ← h4]; exact h5
    · exact k3 q (by omega) b
theorem io_tl {c1 : Int32} {bs : List Int32} {c2 : Int32} {a3 : Int32} {a2_v : Nat → Int32} {s1 : Int32} {k : Nat} {e1 : Int32} {m : Nat} (hm : a3.toInt = (m : Int)) (hm0 : 0 < m) (hc : c1.toInt = (bs.length : Int) - (m : Int)) (hl : (bs.length : Int) ≤ 65535) (h2 : c2.toInt = (a2_v 0).toInt) (h : tl_RStringLatin1_indexOf2_14 c1 bs c2 a3 a2_v s1 k e1) : ∀ i : Nat, s1.toInt = (i : Int) → (k = 119 ∧ ∀ p, i ≤ p → ¬ mtc bs m a2_v p) ∨ (k = 110 ∧ ∃ r : Nat, e1.toInt = (r : Int) ∧ i ≤ r ∧ mtc bs m a2_v r ∧ ∀ p, i ≤ p → p < r → ¬ mtc bs m a2_v p) := by
  have first : ∀ p, mtc bs m a2_v p → (bs.getD p 0).toInt = c2.toInt := fun p hp => by
    have q := hp.2 0 hm0
    rw [h2]; exact q
  have full : ∀ {p : Nat} {e x : Int32}, ((p : Int) ≤ c1.toInt) → (bs.getD p 0).toInt = c2.toInt → e.toInt = (p : Int) + (m : Int) → ((x.toInt = e.toInt) ↔ ∀ i, 1 ≤ i → ((p + i : Nat) : Int) < e.toInt → (bs.getD (p + i) 0).toInt = (a2_v i).toInt) → (x.toInt = e.toInt ↔ mtc bs m a2_v p) := fun {p e x} hp hf he hx => by
    rw [hx]
    constructor
    · intro z
      refine ⟨by omega, fun j hj => ?_⟩
      by_cases c : j = 0
      · rw [c, Nat.add_zero, hf, h2]
      · exact z j (by omega) (by omega)
    · intro z i hi hl
      exact z.2 i (by omega)
  have far : ∀ p : Nat, c1.toInt < (p : Int) → ¬ mtc bs m a2_v p := fun p hp z => by have := z.1; omega
  refine h (fun s1 k e1 => ∀ i : Nat, s1.toInt = (i : Int) → (k = 119 ∧ ∀ p, i ≤ p → ¬ mtc bs m a2_v p) ∨ (k = 110 ∧ ∃ r : Nat, e1.toInt = (r : Int) ∧ i ≤ r ∧ mtc bs m a2_v r ∧ ∀ p, i ≤ p → p < r → ¬ mtc bs m a2_v p)) ?_ ?_ ?_ ?_ ?_ ?_ ?_ ?_ ?_
  · intro l7_1 h1 h2
    intro i hi
    exact Or.inl ⟨rfl, fun p hp => far p (by omega)⟩
  · intro l7_1 x1 x2 k e1 h1 h2 h3 h4 h5 h6 ih
    intro i hi
    rw [nnE hi] at h3
    omega
  · intro l7_1 x1 x2 x3 x4 x5 x6 k e1 h1 h2 h3 h4 h5 h6 h7 h8 h9 h10 h11 ih
    intro i hi
    rw [nnE hi] at h3
    have ie := ie_tl h9 i 1 (by decide) (by omega) (by omega)
    have fu := full (p := i) (e := x4) (x := x5) (by omega) (by rw [← h3]; exact h4) (by omega) ie
    rcases ih (i + 1) (by omega) with ⟨k1, k2⟩ | ⟨k1, r, k2, k3, k4, k5⟩
    · refine Or.inl ⟨k1, fun p hp => ?_⟩
      by_cases c : (i + 1) ≤ p
      · exact k2 p c
      · have e : p = i := by omega
        rw [e]; exact fun z => h10 (fu.mpr z)
    · refine Or.inr ⟨k1, r, k2, by omega, k4, fun p hp hr => ?_⟩
      by_cases c : (i + 1) ≤ p
      · exact k5 p c hr
      · have e : p = i := by omega
        rw [e]; exact fun z => h10 (fu.mpr z)
  · intro l7_1 x1 x2 x3 x4 x5 h1 h2 h3 h4 h5 h6 h7 h8 h9 h10
    intro i hi
    rw [nnE hi] at h3
    have ie := ie_tl h9 i 1 (by decide) (by omega) (by omega)
    have fu := full (p := i) (e := x4) (x := x5) (by omega) (by rw [← h3]; exact h4) (by omega) ie
    exact Or.inr ⟨rfl, i, hi, Nat.le_refl _, fu.mp h10, fun p a b => by omega⟩
  · intro l7_1 x1 x2 x3 k e1 h1 h2 h3 h4 h5 h6 h7 ih
    intro i hi
    rw [nnE hi] at h3
    obtain ⟨j, q1, q2, q3, q4, q5⟩ := io3_tl h5 i hi (by omega)
    have no : ∀ p, i ≤ p → p < j → ¬ mtc bs m a2_v p := fun p hp hj z => by
      have f := first p z
      by_cases c : p = i
      · rw [c, ← h3] at f; exact h4 f
      · exact q3 p (by omega) hj f
    rcases ih (j + 1) (by omega) with ⟨k1, k2⟩ | ⟨k1, r, k2, k3, k4, k5⟩
    · refine Or.inl ⟨k1, fun p hp => ?_⟩
      by_cases c : (j + 1) ≤ p
      · exact k2 p c
      · by_cases d : p = j
        · exact far p (by omega)
        · exact no p hp (by omega)
    · refine Or.inr ⟨k1, r, k2, by omega, k4, fun p hp hr => ?_⟩
      by_cases c : (j + 1) ≤ p
      · exact k5 p c hr
      · by_cases d : p = j
        · exact far p (by omega)
        · exact no p hp (by omega)
  · intro l7_1 x1 x2 x3 x4 x5 x6 x7 k e1 h1 h2 h3 h4 h5 h6 h7 h8 h9 h10 h11 h12 ih
    intro i hi
    rw [nnE hi] at h3
    obtain ⟨j, q1, q2, q3, q4, q5⟩ := io3_tl h5 i hi (by omega)
    have no : ∀ p, i ≤ p → p < j → ¬ mtc bs m a2_v p := fun p hp hj z => by
      have f := first p z
      by_cases c : p = i
      · rw [c, ← h3] at f; exact h4 f
      · exact q3 p (by omega) hj f
    have ie := ie_tl_2 h10 j 1 (by decide) (by omega) (by omega)
    have fu := full (p := j) (e := x5) (x := x6) (by omega) (q4 (by omega)) (by omega) ie
    rcases ih (j + 1) (by omega) with ⟨k1, k2⟩ | ⟨k1, r, k2, k3, k4, k5⟩
    · refine Or.inl ⟨k1, fun p hp => ?_⟩
      by_cases c : (j + 1) ≤ p
      · exact k2 p c
      · by_cases d : p = j
        · rw [d]; exact fun z => h11 (fu.mpr z)
        · exact no p hp (by omega)
    · refine Or.inr ⟨k1, r, k2, by omega, k4, fun p hp hr => ?_⟩
      by_cases c : (j + 1) ≤ p
      · exact k5 p c hr
      · by_cases d : p = j
        · rw [d]; exact fun z => h11 (fu.mpr z)
        · exact no p hp (by omega)
  · intro l7_1 x1 x2 x3 x4 x5 x6 h1 h2 h3 h4 h5 h6 h7 h8 h9 h10 h11
    intro i hi
    rw [nnE hi] at h3
    obtain ⟨j, q1, q2, q3, q4, q5⟩ := io3_tl h5 i hi (by omega)
    have no : ∀ p, i ≤ p → p < j → ¬ mtc bs m a2_v p := fun p hp hj z => by
      have f := first p z
      by_cases c : p = i
      · rw [c, ← h3] at f; exact h4 f
      · exact q3 p (by omega) hj f
    have ie := ie_tl_2 h10 j 1 (by decide) (by omega) (by omega)
    have fu := full (p := j) (e := x5) (x := x6) (by omega) (q4 (by omega)) (by omega) ie
    exact Or.inr ⟨rfl, j, q1, by omega, fu.mp h11, no⟩
  · intro l7_1 x1 x2 x3 x4 x5 x6 x7 k e1 h1 h2 h3 h4 h5 h6 h7 h8 h9 h10 h11 h12 ih
    intro i hi
    rw [nnE hi] at h3
    obtain ⟨j, q1, q2, q3, q4, q5⟩ := io3_tl h5 i hi (by omega)
    have no : ∀ p, i ≤ p → p < j → ¬ mtc bs m a2_v p := fun p hp hj z => by
      have f := first p z
      by_cases c : p = i
      · rw [c, ← h3] at f; exact h4 f
      · exact q3 p (by omega) hj f
    have ie := ie_tl_3 h10 j 1 (by decide) (by omega) (by omega)
    have fu := full (p := j) (e := x5) (x := x6) (by omega) (q4 (by omega)) (by omega) ie
    rcases ih (j + 1) (by omega) with ⟨k1, k2⟩ | ⟨k1, r, k2, k3, k4, k5⟩
    · refine Or.inl ⟨k1, fun p hp => ?_⟩
      by_cases c : (j + 1) ≤ p
      · exact k2 p c
      · by_cases d : p = j
        · rw [d]; exact fun z => h11 (fu.mpr z)
        · exact no p hp (by omega)
    · refine Or.inr ⟨k1, r, k2, by omega, k4, fun p hp hr => ?_⟩
      by_cases c : (j + 1) ≤ p
      · exact k5 p c hr
      · by_cases d : p = j
        · rw [d]; exact fun z => h11 (fu.mpr z)
        · exact no p hp (by omega)
  · intro l7_1 x1 x2 x3 x4 x5 x6 h1 h2 h3 h4 h5 h6 h7 h8 h9 h10 h11
    intro i hi
    rw [nnE hi] at h3
    obtain ⟨j, q1, q2, q3, q4, q5⟩ := io3_tl h5 i hi (by omega)
    have no : ∀ p, i ≤ p → p < j → ¬ mtc bs m a2_v p := fun p hp hj z => by
      have f := first p z
      by_cases c : p = i
      · rw [c, ← h3] at f; exact h4 f
      · exact q3 p (by omega) hj f
    have ie := ie_tl_3 h10 j 1 (by decide) (by omega) (by omega)
    have fu := full (p := j) (e := x5) (x := x6) (by omega) (q4 (by omega)) (by omega) ie
    exact Or.inr ⟨rfl, j, q1, by omega, fu.mp h11, no⟩
theorem io2_tr {bs : List Int32} {a1 a3 r : Int32} {g : Nat → Int32} {m : Nat} (hm : a3.toInt = (m : Int)) (hm0 : 0 < m) (hl0 : a1.toInt = (bs.length : Int)) (hl : (bs.length : Int) ≤ 65535) (h : tr_RStringLatin1_indexOf2 bs a1 a3 g r) : (r.toInt = -1 ∧ ∀ p, ¬ mtc bs m g p) ∨ (∃ q : Nat, r.toInt = (q : Int) ∧ mtc bs m g q ∧ ∀ p, p < q → ¬ mtc bs m g p) := by
  refine h (fun r => (r.toInt = -1 ∧ ∀ p, ¬ mtc bs m g p) ∨ (∃ q : Nat, r.toInt = (q : Int) ∧ mtc bs m g q ∧ ∀ p, p < q → ¬ mtc bs m g p)) ?_ ?_
  · intro x1 x2 h1 h2 h3 h4
    have q := io_tl (m := m) hm hm0 (by omega) hl (by rw [h1]; rfl) h4 0 (by decide)
    rcases q with ⟨-, q⟩ | ⟨q, -⟩
    · exact Or.inl ⟨px_m1, fun p => q p (Nat.zero_le _)⟩
    · exact absurd q (by decide)
  · intro x1 x2 x3 h1 h2 h3 h4
    have q := io_tl (m := m) hm hm0 (by omega) hl (by rw [h1]; rfl) h4 0 (by decide)
    rcases q with ⟨q, -⟩ | ⟨-, r, q1, q2, q3, q4⟩
    · exact absurd q (by decide)
    · exact Or.inr ⟨r, q1, q3, fun p hp => q4 p (Nat.zero_le _) hp⟩
theorem io1_tr {bs : List Int32} {r : Int32} {g : Nat → Int32} {m : Nat} (hm0 : 0 < m) (hb : 0 < bs.length) (hl : (bs.length : Int) ≤ 65535) (h : tr_RStringLatin1_indexOf bs g m r) : (r.toInt = -1 ∧ ∀ p, ¬ mtc bs m g p) ∨ (∃ q : Nat, r.toInt = (q : Int) ∧ mtc bs m g q ∧ ∀ p, p < q → ¬ mtc bs m g p) := by
  refine h (fun r => (r.toInt = -1 ∧ ∀ p, ¬ mtc bs m g p) ∨ (∃ q : Nat, r.toInt = (q : Int) ∧ mtc bs m g q ∧ ∀ p, p < q → ¬ mtc bs m g p)) ?_ ?_
  · intro x1 x2 x3 x4 x5 h1 h2 h3 h4 h5 h6 h7 h8
    exact io2_tr h6 hm0 h5 hl h8
  · intro x1 x2 h1 h2 h3 h4
    omega
theorem iof_tr {bs : List Int32} {r : Int32} {g : Nat → Int32} {m : Nat} (hm0 : 0 < m) (hb : 0 < bs.length) (hl : (bs.length : Int) ≤ 65535) (h : tr_RString_indexOf bs g m r) : (r.toInt = -1 ∧ ∀ p, ¬ mtc bs m g p) ∨ (∃ q : Nat, r.toInt = (q : Int) ∧ mtc bs m g q ∧ ∀ p, p < q → ¬ mtc bs m g p) := by
  refine h (fun r => (r.toInt = -1 ∧ ∀ p, ¬ mtc bs m g p) ∨ (∃ q : Nat, r.toInt = (q : Int) ∧ mtc bs m g q ∧ ∀ p, p < q → ¬ mtc bs m g p)) ?_
  · intro x1 h1 h2
    exact io1_tr hm0 hb hl h2
theorem va_cpE {f g : Nat → Int32} {s d n j : Nat} (h1 : d ≤ j) (h2 : j < d + n) : va_cpy f g s d n j = f (s + (j - d)) := by unfold va_cpy; rw [if_pos ⟨h1, h2⟩]
theorem va_cpN {f g : Nat → Int32} {s d n j : Nat} (h : ¬ (d ≤ j ∧ j < d + n)) : va_cpy f g s d n j = g j := by unfold va_cpy; rw [if_neg h]
theorem cpf_tr {a1 : Int32} {f x : Nat → Int32} {n : Nat} (h : tr_RArrays_copyOf3 a1 f n x) (h0 : 0 ≤ a1.toInt) (hn : (n : Int) ≤ a1.toInt) : ∀ j, j < n → x j = f j := by
  refine h (fun x => ∀ j, j < n → x j = f j) ?_
  · intro x1 x2 x3 x4 h1 h2 h3 h4 h5
    intro j hj
    have e : x3.toNatClampNeg = n := nnE (by omega)
    have z : (0 : Int32).toNatClampNeg = 0 := by decide
    rw [h5, z, e, va_cpE (Nat.zero_le _) (by omega)]
    congr 1
    omega
theorem nl_tr {a b c r : Int32} (h : tr_RArraysSupport_newLength a b c r) : a.toInt + c.toInt ≤ r.toInt := by
  refine h (fun r => a.toInt + c.toInt ≤ r.toInt) ?_
  · intro x1 x2 h1 h2
    omega
theorem nc_tr {a r : Int32} {n : Nat} (h : tr_RAbstractStringBuilder_newCapacity a n r) : (n : Int) ≤ r.toInt := by
  refine h (fun r => (n : Int) ≤ r.toInt) ?_
  · intro x1 x2 x3 x4 x5 x6 x7 h1 h2 h3 h4 h5 h6 h7 h8
    have q := nl_tr h7
    omega
theorem eci_tr {a1 : Int32} {f x : Nat → Int32} {n m c : Nat} (hc : c ≤ n) (h : tr_RAbstractStringBuilder_ensureCapacityInternal2 a1 f n m x) : ∀ j, j < c → x j = f j := by
  refine h (fun _ x => ∀ j, j < c → x j = f j) ?_ ?_
  · intro x1 x2 x3 h1 h2 h3 h4
    exact fun j _ => rfl
  · intro x1 x2 x3 x4 x5 x6 h1 h2 h3 h4 h5 h6 h7 h8
    have q := nc_tr h6
    exact fun j hj => cpf_tr h8 (by omega) (by omega) j (by omega)
end RST
end
section
section RSU
variable {f g x : Nat → Int32} {n m c : Nat} {cnt a o : Int32} {bs : List Int32}
theorem cn0 : (0 : Int32).toNatClampNeg = 0 := by decide
theorem crb_tr (h : tr_RArrays_copyOfRangeByte cnt f n m x) (hc : cnt.toInt = (c : Int)) (hn : c ≤ n) : m = c ∧ ∀ j, j < c → x j = f j := by
  refine h (fun m x => m = c ∧ ∀ j, j < c → x j = f j) ?_
  · intro x1 x2 x3 x4 x5 h1 h2 h3 h4 h5
    have e : x4.toNatClampNeg = c := nnE (by omega)
    refine ⟨by omega, fun j hj => ?_⟩
    rw [h5, cn0, e, va_cpE (Nat.zero_le _) (by omega)]
    congr 1
    omega
theorem cor_tr (h : tr_RArrays_copyOfRange cnt f n m x) (hc : cnt.toInt = (c : Int)) (hn : c ≤ n) : m = c ∧ ∀ j, j < c → x j = f j := by
  refine h (fun m x => m = c ∧ ∀ j, j < c → x j = f j) ?_ ?_
  · intro x1 h1 h2
    exact ⟨by omega, fun _ _ => rfl⟩
  · intro x1 x2 x3 h1 h2 h3
    exact crb_tr h3 hc hn
theorem si2_tr (h : tr_RString_init2 cnt f n m x) (hc : cnt.toInt = (c : Int)) (hn : c ≤ n) : m = c ∧ ∀ j, j < c → x j = f j := by
  refine h (fun m x => m = c ∧ ∀ j, j < c → x j = f j) ?_
  · intro x1 x2 h1
    exact cor_tr h1 hc hn
theorem si1_tr (h : tr_RString_init cnt f n m x) (hc : cnt.toInt = (c : Int)) (hn : c ≤ n) : m = c ∧ ∀ j, j < c → x j = f j := by
  refine h (fun m x => m = c ∧ ∀ j, j < c → x j = f j) ?_
  · intro x1 x2 h1
    exact si2_tr h1 hc hn
theorem tos_tr (h : tr_RStringBuilder_toString cnt f n m x) (hc : cnt.toInt = (c : Int)) (hn : c ≤ n) : m = c ∧ ∀ j, j < c → x j = f j := by
  refine h (fun m x => m = c ∧ ∀ j, j < c → x j = f j) ?_
  · intro x1 x2 h1
    exact si1_tr h1 hc hn
theorem nar_b (h0 : 0 ≤ a.toInt) (h1 : a.toInt ≤ 127) {y : Int32} (hy : y = a.toInt8.toInt32) : (vp_nar .byte y).toInt = a.toInt := by
  have e : a.toInt8.toInt32.toInt = a.toInt := by
    rw [Int8.toInt_toInt32, Int32.toInt_toInt8]
    rw [Int.bmod_def]; split <;> omega
  have e2 : vp_nar .byte y = y.toInt8.toInt32 := rfl
  rw [e2, hy, Int8.toInt_toInt32, Int32.toInt_toInt8, e, Int.bmod_def]
  split <;> omega
theorem nll_tr {a b c r : Int32} (h : tr_RArraysSupport_newLength a b c r) : a.toInt + b.toInt ≤ r.toInt := by
  refine h (fun r => a.toInt + b.toInt ≤ r.toInt) ?_
  · intro x1 x2 h1 h2
    omega
theorem ncl_tr {a r : Int32} {n : Nat} (h : tr_RAbstractStringBuilder_newCapacity a n r) : a.toInt ≤ r.toInt := by
  refine h (fun r => a.toInt ≤ r.toInt) ?_
  · intro x1 x2 x3 x4 x5 x6 x7 h1 h2 h3 h4 h5 h6 h7 h8
    have q := nll_tr h7
    omega
theorem ecl_tr {a1 : Int32} (h : tr_RAbstractStringBuilder_ensureCapacityInternal2 a1 f n m x) : a1.toInt ≤ (m : Int) := by
  refine h (fun m _ => a1.toInt ≤ (m : Int)) ?_ ?_
  · intro x1 x2 x3 h1 h2 h3 h4
    omega
  · intro x1 x2 x3 x4 x5 x6 h1 h2 h3 h4 h5 h6 h7 h8
    have q := ncl_tr h6
    omega
theorem apg1 (h : tr_RAbstractStringBuilder_append8 a cnt f n o m x) (hc : cnt.toInt = (c : Int)) (hn : c ≤ n) (b0 : 0 ≤ a.toInt) (b1 : a.toInt ≤ 127) : o.toInt = ((c + 1 : Nat) : Int) ∧ (∀ j, j < c → x j = f j) ∧ (x c).toInt = a.toInt ∧ c + 1 ≤ m := by
  refine h (fun o m x => o.toInt = ((c + 1 : Nat) : Int) ∧ (∀ j, j < c → x j = f j) ∧ (x c).toInt = a.toInt ∧ c + 1 ≤ m) ?_
  · intro x1 x2 x3 x4 x5 x6 h1 h2 h3 h4 h5 h6
    have q := eci_tr (c := c) hn h2
    have q2 := ecl_tr h2
    rw [nnE hc] at h6
    refine ⟨by omega, fun j hj => ?_, ?_, by omega⟩
    · rw [h6, updN (by omega), q j hj]
    · rw [h6, updE]; exact nar_b b0 b1 h5
theorem apg (h : tr_RStringBuilder_append8 a cnt f n o m x) (hc : cnt.toInt = (c : Int)) (hn : c ≤ n) (b0 : 0 ≤ a.toInt) (b1 : a.toInt ≤ 127) : o.toInt = ((c + 1 : Nat) : Int) ∧ (∀ j, j < c → x j = f j) ∧ (x c).toInt = a.toInt ∧ c + 1 ≤ m := by
  refine h (fun o m x => o.toInt = ((c + 1 : Nat) : Int) ∧ (∀ j, j < c → x j = f j) ∧ (x c).toInt = a.toInt ∧ c + 1 ≤ m) ?_
  · intro x1 x2 x3 h1 h2
    exact apg1 h2 hc hn b0 b1
theorem ecm_tr {a1 : Int32} (h : tr_RAbstractStringBuilder_ensureCapacityInternal a1 n) : a1.toInt ≤ (n : Int) := by
  refine h (a1.toInt ≤ (n : Int)) ?_
  · intro x1 x2 x3 h1 h2 h3 h4
    omega
theorem apn1 (h : tr_RAbstractStringBuilder_append a cnt f n o x) (hc : cnt.toInt = (c : Int)) (hn : c ≤ n) (b0 : 0 ≤ a.toInt) (b1 : a.toInt ≤ 127) : o.toInt = ((c + 1 : Nat) : Int) ∧ (∀ j, j < c → x j = f j) ∧ (x c).toInt = a.toInt ∧ c + 1 ≤ n := by
  refine h (fun o x => o.toInt = ((c + 1 : Nat) : Int) ∧ (∀ j, j < c → x j = f j) ∧ (x c).toInt = a.toInt ∧ c + 1 ≤ n) ?_
  · intro x1 x2 x3 x4 h1 h2 h3 h4 h5 h6
    have q2 := ecm_tr h2
    rw [nnE hc] at h6
    refine ⟨by omega, fun j hj => ?_, ?_, by omega⟩
    · rw [h6, updN (by omega)]
    · rw [h6, updE]; exact nar_b b0 b1 h5
theorem apn (h : tr_RStringBuilder_append a cnt f n o x) (hc : cnt.toInt = (c : Int)) (hn : c ≤ n) (b0 : 0 ≤ a.toInt) (b1 : a.toInt ≤ 127) : o.toInt = ((c + 1 : Nat) : Int) ∧ (∀ j, j < c → x j = f j) ∧ (x c).toInt = a.toInt ∧ c + 1 ≤ n := by
  refine h (fun o x => o.toInt = ((c + 1 : Nat) : Int) ∧ (∀ j, j < c → x j = f j) ∧ (x c).toInt = a.toInt ∧ c + 1 ≤ n) ?_
  · intro x1 x2 h1 h2
    exact apn1 h2 hc hn b0 b1
theorem sl2_tr (h : tr_RString_length2 bs o) : o.toInt = (bs.length : Int) := by
  refine h (fun o => o.toInt = (bs.length : Int)) ?_
  · intro x1 x2 h1 h2
    omega
theorem sl_tr (h : tr_RString_length n o) : o.toInt = (n : Int) := by
  refine h (fun o => o.toInt = (n : Int)) ?_
  · intro x1 x2 h1 h2
    omega
theorem gb2_tr (h : tr_RString_getBytes2 bs cnt f x) (hc : cnt.toInt = (c : Int)) : (∀ j, j < c → x j = f j) ∧ ∀ j, j < bs.length → x (c + j) = bs.getD j 0 := by
  refine h (fun x => (∀ j, j < c → x j = f j) ∧ ∀ j, j < bs.length → x (c + j) = bs.getD j 0) ?_
  · intro x1 x2 x3 h1 h2 h3
    have e1 : x1.toNatClampNeg = c := nnE (by omega)
    have e2 : x2.toNatClampNeg = bs.length := nnE h2
    rw [h3, cn0, e1, e2]
    refine ⟨fun j hj => va_cpN (by omega), fun j hj => ?_⟩
    rw [va_cpE (by omega) (by omega)]
    show bs.getD (0 + (c + j - c)) 0 = _
    congr 1
    omega
theorem gb1_tr (h : tr_RString_getBytes cnt f g m x) (hc : cnt.toInt = (c : Int)) : (∀ j, j < c → x j = f j) ∧ ∀ j, j < m → x (c + j) = g j := by
  refine h (fun x => (∀ j, j < c → x j = f j) ∧ ∀ j, j < m → x (c + j) = g j) ?_
  · intro x1 x2 x3 h1 h2 h3
    have e1 : x1.toNatClampNeg = c := nnE (by omega)
    have e2 : x2.toNatClampNeg = m := nnE h2
    rw [h3, cn0, e1, e2]
    refine ⟨fun j hj => va_cpN (by omega), fun j hj => ?_⟩
    rw [va_cpE (by omega) (by omega)]
    congr 1
    omega
theorem ps2_tr (h : tr_RAbstractStringBuilder_putStringAt2 cnt bs f x) (hc : cnt.toInt = (c : Int)) : (∀ j, j < c → x j = f j) ∧ ∀ j, j < bs.length → x (c + j) = bs.getD j 0 := by
  refine h (fun x => (∀ j, j < c → x j = f j) ∧ ∀ j, j < bs.length → x (c + j) = bs.getD j 0) ?_
  · intro x1 h1
    exact gb2_tr h1 hc
theorem ps1_tr (h : tr_RAbstractStringBuilder_putStringAt cnt f g m x) (hc : cnt.toInt = (c : Int)) : (∀ j, j < c → x j = f j) ∧ ∀ j, j < m → x (c + j) = g j := by
  refine h (fun x => (∀ j, j < c → x j = f j) ∧ ∀ j, j < m → x (c + j) = g j) ?_
  · intro x1 h1
    exact gb1_tr h1 hc
theorem apl1 (h : tr_RAbstractStringBuilder_append4 bs cnt f n o x) (hc : cnt.toInt = (c : Int)) (hn : c ≤ n) : o.toInt = ((c + bs.length : Nat) : Int) ∧ (∀ j, j < c → x j = f j) ∧ (∀ j, j < bs.length → x (c + j) = bs.getD j 0) ∧ c + bs.length ≤ n := by
  refine h (fun o x => o.toInt = ((c + bs.length : Nat) : Int) ∧ (∀ j, j < c → x j = f j) ∧ (∀ j, j < bs.length → x (c + j) = bs.getD j 0) ∧ c + bs.length ≤ n) ?_
  · intro x1 x2 x3 x4 h1 h2 h3 h4 h5 h6
    have q1 := sl2_tr h2
    have q2 := ecm_tr h4
    obtain ⟨p1, p2⟩ := ps2_tr h5 hc
    exact ⟨by omega, fun j hj => p1 j hj, p2, by omega⟩
theorem apl (h : tr_RStringBuilder_append4 bs cnt f n o x) (hc : cnt.toInt = (c : Int)) (hn : c ≤ n) : o.toInt = ((c + bs.length : Nat) : Int) ∧ (∀ j, j < c → x j = f j) ∧ (∀ j, j < bs.length → x (c + j) = bs.getD j 0) ∧ c + bs.length ≤ n := by
  refine h (fun o x => o.toInt = ((c + bs.length : Nat) : Int) ∧ (∀ j, j < c → x j = f j) ∧ (∀ j, j < bs.length → x (c + j) = bs.getD j 0) ∧ c + bs.length ≤ n) ?_
  · intro x1 x2 h1 h2
    exact apl1 h2 hc hn
theorem aplg1 (h : tr_RAbstractStringBuilder_append6 bs cnt f n o m x) (hc : cnt.toInt = (c : Int)) (hn : c ≤ n) : o.toInt = ((c + bs.length : Nat) : Int) ∧ (∀ j, j < c → x j = f j) ∧ (∀ j, j < bs.length → x (c + j) = bs.getD j 0) ∧ c + bs.length ≤ m := by
  refine h (fun o m x => o.toInt = ((c + bs.length : Nat) : Int) ∧ (∀ j, j < c → x j = f j) ∧ (∀ j, j < bs.length → x (c + j) = bs.getD j 0) ∧ c + bs.length ≤ m) ?_
  · intro x1 x2 x3 x4 x5 x6 h1 h2 h3 h4 h5 h6
    have q1 := sl2_tr h2
    have q := eci_tr (c := c) hn h4
    have q2 := ecl_tr h4
    obtain ⟨p1, p2⟩ := ps2_tr h5 hc
    exact ⟨by omega, fun j hj => (p1 j hj).trans (q j hj), p2, by omega⟩
theorem aplg (h : tr_RStringBuilder_append6 bs cnt f n o m x) (hc : cnt.toInt = (c : Int)) (hn : c ≤ n) : o.toInt = ((c + bs.length : Nat) : Int) ∧ (∀ j, j < c → x j = f j) ∧ (∀ j, j < bs.length → x (c + j) = bs.getD j 0) ∧ c + bs.length ≤ m := by
  refine h (fun o m x => o.toInt = ((c + bs.length : Nat) : Int) ∧ (∀ j, j < c → x j = f j) ∧ (∀ j, j < bs.length → x (c + j) = bs.getD j 0) ∧ c + bs.length ≤ m) ?_
  · intro x1 x2 x3 h1 h2
    exact aplg1 h2 hc hn
theorem aps1 {l : Nat} (h : tr_RAbstractStringBuilder_append5 cnt f n g l o m x) (hc : cnt.toInt = (c : Int)) (hn : c ≤ n) : o.toInt = ((c + l : Nat) : Int) ∧ (∀ j, j < c → x j = f j) ∧ (∀ j, j < l → x (c + j) = g j) ∧ c + l ≤ m := by
  refine h (fun o m x => o.toInt = ((c + l : Nat) : Int) ∧ (∀ j, j < c → x j = f j) ∧ (∀ j, j < l → x (c + j) = g j) ∧ c + l ≤ m) ?_
  · intro x1 x2 x3 x4 x5 x6 h1 h2 h3 h4 h5 h6
    have q1 := sl_tr h2
    have q := eci_tr (c := c) hn h4
    have q2 := ecl_tr h4
    obtain ⟨p1, p2⟩ := ps1_tr h5 hc
    exact ⟨by omega, fun j hj => (p1 j hj).trans (q j hj), p2, by omega⟩
theorem aps {l : Nat} (h : tr_RStringBuilder_append5 cnt f n g l o m x) (hc : cnt.toInt = (c : Int)) (hn : c ≤ n) : o.toInt = ((c + l : Nat) : Int) ∧ (∀ j, j < c → x j = f j) ∧ (∀ j, j < l → x (c + j) = g j) ∧ c + l ≤ m := by
  refine h (fun o m x => o.toInt = ((c + l : Nat) : Int) ∧ (∀ j, j < c → x j = f j) ∧ (∀ j, j < l → x (c + j) = g j) ∧ c + l ≤ m) ?_
  · intro x1 x2 x3 h1 h2
    exact aps1 h2 hc hn
end RSU
end
section
section RSY
variable {c d : Int} {f g x : Nat → Int32} {n m l : Nat} {r a : Int32} {bs : List Int32}
theorem opF_14 : opF 14 c d = -1 := by rw [opF, if_neg (by decide)]
theorem opF_13 : opF 13 c d = if 33 = c ∧ 61 = d then 13 else opF 14 c d := by
  rw [opF, if_pos (by decide), show chr sb_5 (2 * (13 : Int)).toNat = 33 from by decide, show chr sb_5 (2 * (13 : Int) + 1).toNat = 61 from by decide, show ((13 : Int) + 1) = 14 from by decide]
theorem opF_12 : opF 12 c d = if 61 = c ∧ 61 = d then 12 else opF 13 c d := by
  rw [opF, if_pos (by decide), show chr sb_5 (2 * (12 : Int)).toNat = 61 from by decide, show chr sb_5 (2 * (12 : Int) + 1).toNat = 61 from by decide, show ((12 : Int) + 1) = 13 from by decide]
theorem opF_11 : opF 11 c d = if 60 = c ∧ 61 = d then 11 else opF 12 c d := by
  rw [opF, if_pos (by decide), show chr sb_5 (2 * (11 : Int)).toNat = 60 from by decide, show chr sb_5 (2 * (11 : Int) + 1).toNat = 61 from by decide, show ((11 : Int) + 1) = 12 from by decide]
theorem opF_10 : opF 10 c d = if 60 = c ∧ 32 = d then 10 else opF 11 c d := by
  rw [opF, if_pos (by decide), show chr sb_5 (2 * (10 : Int)).toNat = 60 from by decide, show chr sb_5 (2 * (10 : Int) + 1).toNat = 32 from by decide, show ((10 : Int) + 1) = 11 from by decide]
theorem opF_9 : opF 9 c d = if 62 = c ∧ 62 = d then 9 else opF 10 c d := by
  rw [opF, if_pos (by decide), show chr sb_5 (2 * (9 : Int)).toNat = 62 from by decide, show chr sb_5 (2 * (9 : Int) + 1).toNat = 62 from by decide, show ((9 : Int) + 1) = 10 from by decide]
theorem opF_8 : opF 8 c d = if 60 = c ∧ 60 = d then 8 else opF 9 c d := by
  rw [opF, if_pos (by decide), show chr sb_5 (2 * (8 : Int)).toNat = 60 from by decide, show chr sb_5 (2 * (8 : Int) + 1).toNat = 60 from by decide, show ((8 : Int) + 1) = 9 from by decide]
theorem opF_7 : opF 7 c d = if 94 = c ∧ 32 = d then 7 else opF 8 c d := by
  rw [opF, if_pos (by decide), show chr sb_5 (2 * (7 : Int)).toNat = 94 from by decide, show chr sb_5 (2 * (7 : Int) + 1).toNat = 32 from by decide, show ((7 : Int) + 1) = 8 from by decide]
theorem opF_6 : opF 6 c d = if 124 = c ∧ 32 = d then 6 else opF 7 c d := by
  rw [opF, if_pos (by decide), show chr sb_5 (2 * (6 : Int)).toNat = 124 from by decide, show chr sb_5 (2 * (6 : Int) + 1).toNat = 32 from by decide, show ((6 : Int) + 1) = 7 from by decide]
theorem opF_5 : opF 5 c d = if 38 = c ∧ 32 = d then 5 else opF 6 c d := by
  rw [opF, if_pos (by decide), show chr sb_5 (2 * (5 : Int)).toNat = 38 from by decide, show chr sb_5 (2 * (5 : Int) + 1).toNat = 32 from by decide, show ((5 : Int) + 1) = 6 from by decide]
theorem opF_4 : opF 4 c d = if 37 = c ∧ 32 = d then 4 else opF 5 c d := by
  rw [opF, if_pos (by decide), show chr sb_5 (2 * (4 : Int)).toNat = 37 from by decide, show chr sb_5 (2 * (4 : Int) + 1).toNat = 32 from by decide, show ((4 : Int) + 1) = 5 from by decide]
theorem opF_3 : opF 3 c d = if 47 = c ∧ 32 = d then 3 else opF 4 c d := by
  rw [opF, if_pos (by decide), show chr sb_5 (2 * (3 : Int)).toNat = 47 from by decide, show chr sb_5 (2 * (3 : Int) + 1).toNat = 32 from by decide, show ((3 : Int) + 1) = 4 from by decide]
theorem opF_2 : opF 2 c d = if 42 = c ∧ 32 = d then 2 else opF 3 c d := by
  rw [opF, if_pos (by decide), show chr sb_5 (2 * (2 : Int)).toNat = 42 from by decide, show chr sb_5 (2 * (2 : Int) + 1).toNat = 32 from by decide, show ((2 : Int) + 1) = 3 from by decide]
theorem opF_1 : opF 1 c d = if 45 = c ∧ 32 = d then 1 else opF 2 c d := by
  rw [opF, if_pos (by decide), show chr sb_5 (2 * (1 : Int)).toNat = 45 from by decide, show chr sb_5 (2 * (1 : Int) + 1).toNat = 32 from by decide, show ((1 : Int) + 1) = 2 from by decide]
theorem opF_0 : opF 0 c d = if 43 = c ∧ 32 = d then 0 else opF 1 c d := by
  rw [opF, if_pos (by decide), show chr sb_5 (2 * (0 : Int)).toNat = 43 from by decide, show chr sb_5 (2 * (0 : Int) + 1).toNat = 32 from by decide, show ((0 : Int) + 1) = 1 from by decide]
theorem opF_v : opF 0 c d = if 43 = c ∧ 32 = d then 0 else if 45 = c ∧ 32 = d then 1 else if 42 = c ∧ 32 = d then 2 else if 47 = c ∧ 32 = d then 3 else if 37 = c ∧ 32 = d then 4 else if 38 = c ∧ 32 = d then 5 else if 124 = c ∧ 32 = d then 6 else if 94 = c ∧ 32 = d then 7 else if 60 = c ∧ 60 = d then 8 else if 62 = c ∧ 62 = d then 9 else if 60 = c ∧ 32 = d then 10 else if 60 = c ∧ 61 = d then 11 else if 61 = c ∧ 61 = d then 12 else if 33 = c ∧ 61 = d then 13 else -1 := by rw [opF_0, opF_1, opF_2, opF_3, opF_4, opF_5, opF_6, opF_7, opF_8, opF_9, opF_10, opF_11, opF_12, opF_13, opF_14]
/-- blanks in front of place n -/
def spN (bs : List Int32) : Nat → Nat
  | 0 => 0
  | n + 1 => spN bs n + (if bs.getD n 0 = 32 then 1 else 0)
theorem ch2_tr {j : Int32} (h : tr_RStringLatin1_charAt2 bs j r) : r.toInt = chr bs j.toInt.toNat := by
  refine h (fun r => r.toInt = chr bs j.toInt.toNat) ?_
  · intro x1 x2 x3 x4 h1 h2 h3 h4 h5
    show x4.toInt = _
    have b := chr_lt (bs := bs) (j := j.toInt.toNat)
    have e3 : x3.toInt = chr bs j.toInt.toNat := by rw [h4, h3]; rfl
    rw [px_i2c h5 (by omega) (by omega), e3]
theorem cha2_tr {j : Int32} (h : tr_RString_charAt2 bs j r) : r.toInt = chr bs j.toInt.toNat := by
  refine h (fun r => r.toInt = chr bs j.toInt.toNat) ?_
  · intro x1 h1 h2
    exact ch2_tr h2
theorem ops_tl {c1 : Int32} {s1 : Int32} {s2 : Int32} {k : Nat} {e1 : Int32} {q : Nat} (hc : c1.toInt = (q : Int)) (hq : q ≤ 34) (h : tl_RModel_operation_40 c1 s1 s2 k e1) : ∀ i : Nat, s1.toInt = (i : Int) → i ≤ q → e1.toInt + (spN sb_42 i : Int) = s2.toInt + (spN sb_42 q : Int) := by
  have sp : ∀ i : Fin 34, (chr sb_42 i.val = 32 ↔ sb_42.getD i.val 0 = 32) := by decide
  refine h (fun s1 s2 _ e1 => ∀ i : Nat, s1.toInt = (i : Int) → i ≤ q → e1.toInt + (spN sb_42 i : Int) = s2.toInt + (spN sb_42 q : Int)) ?_ ?_ ?_
  · intro l3_1 l2_1 h1 h2
    intro i hi hiq
    have e : i = q := by omega
    rw [e]
  · intro l3_1 l2_1 x1 x2 x3 k e1 h1 h2 h3 h4 h5 h6 h7 ih
    intro i hi hiq
    have q1 := cha2_tr h4
    have ei : l3_1.toInt.toNat = i := by omega
    rw [ei] at q1
    have q2 := sp ⟨i, by omega⟩
    have q3 := ih (i + 1) (by omega) (by omega)
    have q4 : spN sb_42 (i + 1) = spN sb_42 i + (if sb_42.getD i 0 = 32 then 1 else 0) := rfl
    rw [if_neg (fun z => h5 (by rw [q1]; exact q2.mpr z))] at q4
    omega
  · intro l3_1 l2_1 x1 x2 x3 k e1 h1 h2 h3 h4 h5 h6 h7 ih
    intro i hi hiq
    have q1 := cha2_tr h4
    have ei : l3_1.toInt.toNat = i := by omega
    rw [ei] at q1
    have q2 := sp ⟨i, by omega⟩
    have q3 := ih (i + 1) (by omega) (by omega)
    have q4 : spN sb_42 (i + 1) = spN sb_42 i + (if sb_42.getD i 0 = 32 then 1 else 0) := rfl
    rw [if_pos (q2.mp (by rw [← q1]; exact h5))] at q4
    omega
theorem ap31 {cnt o : Int32} {c0 : Nat} (h : tr_RAbstractStringBuilder_append3 cnt f n g l o x) (hc : cnt.toInt = (c0 : Int)) : o.toInt = ((c0 + l : Nat) : Int) ∧ (∀ j, j < c0 → x j = f j) ∧ (∀ j, j < l → x (c0 + j) = g j) ∧ c0 + l ≤ n := by
  refine h (fun o x => o.toInt = ((c0 + l : Nat) : Int) ∧ (∀ j, j < c0 → x j = f j) ∧ (∀ j, j < l → x (c0 + j) = g j) ∧ c0 + l ≤ n) ?_
  · intro x1 x2 x3 x4 h1 h2 h3 h4 h5 h6
    have q1 := sl_tr h2
    have q2 := ecm_tr h4
    obtain ⟨p1, p2⟩ := ps1_tr h5 hc
    exact ⟨by omega, p1, p2, by omega⟩
/-- a text between two blanks -/
theorem ap3 {cnt o : Int32} {c0 : Nat} (h : tr_RStringBuilder_append3 cnt f n g l o x) (hc : cnt.toInt = (c0 : Int)) : o.toInt = ((c0 + l : Nat) : Int) ∧ (∀ j, j < c0 → x j = f j) ∧ (∀ j, j < l → x (c0 + j) = g j) ∧ c0 + l ≤ n := by
  refine h (fun o x => o.toInt = ((c0 + l : Nat) : Int) ∧ (∀ j, j < c0 → x j = f j) ∧ (∀ j, j < l → x (c0 + j) = g j) ∧ c0 + l ≤ n) ?_
  · intro x1 x2 h1 h2
    exact ap31 h2 hc
/-- the letters of a sign: blank, the text, blank -/
def bbT (g : Nat → Int32) (l : Nat) (y : Nat → Int32) : Prop := (y 0).toInt = 32 ∧ (∀ j, j < l → y (1 + j) = g j) ∧ (y (1 + l)).toInt = 32
theorem one_b : ([32] : List Int32).getD 0 0 = 32 := rfl
theorem rop_tr {o : Int32} (h : tr_RModel_operation g l o) : ∃ y : Nat → Int32, bbT g l y ∧ ((o.toInt = 0 ∧ ∀ p, ¬ mtc sb_42 (l + 2) y p) ∨ ∃ q : Nat, mtc sb_42 (l + 2) y q ∧ (∀ p, p < q → ¬ mtc sb_42 (l + 2) y p) ∧ o.toInt = 1 + (spN sb_42 q : Int)) := by
  have l1 : sb_43.length = 1 := by decide
  have e0 : (sb_43.getD 0 0).toInt = 32 := by decide
  have l2 : sb_42.length = 34 := by decide
  refine h (fun o => ∃ y : Nat → Int32, bbT g l y ∧ ((o.toInt = 0 ∧ ∀ p, ¬ mtc sb_42 (l + 2) y p) ∨ ∃ q : Nat, mtc sb_42 (l + 2) y q ∧ (∀ p, p < q → ¬ mtc sb_42 (l + 2) y p) ∧ o.toInt = 1 + (spN sb_42 q : Int))) ?_ ?_
  · intro x1 x2 x3 x4 x5 x6 x7 x8 x9 x10 h1 h2 h3 h4 h5 h6 h7 h8 h9 h10 h11
    obtain ⟨a1, a2, a3, a4⟩ := apl h2 (c := 0) (by decide) (by decide)
    rw [l1] at a1 a3
    obtain ⟨b1, b2, b3, b4⟩ := ap3 h4 (c0 := 1) a1
    obtain ⟨c1, c2, c3, c4⟩ := apl h6 (c := 1 + l) b1 b4
    rw [l1] at c1 c3 c4
    obtain ⟨d1, d2⟩ := tos_tr h7 (c := 1 + l + 1) c1 c4
    have yb : bbT g l x8 := by
      refine ⟨?_, fun j hj => ?_, ?_⟩
      · rw [d2 0 (by omega), c2 0 (by omega), b2 0 (by decide)]
        have := a3 0 (by decide)
        rw [Nat.zero_add] at this
        rw [this]; exact e0
      · rw [d2 _ (by omega), c2 _ (by omega)]; exact b3 j hj
      · rw [d2 _ (by omega)]
        have := c3 0 (by decide)
        rw [Nat.add_zero] at this
        rw [this]; exact e0
    have em : x7 = l + 2 := by omega
    rw [em] at h9
    refine ⟨x8, yb, ?_⟩
    rcases iof_tr (by omega) (by rw [l2]; decide) (by rw [l2]; decide) h9 with ⟨k1, -⟩ | ⟨q, k1, k2, k3⟩
    · omega
    · have q33 := k2.1
      rw [l2] at q33
      have s := ops_tl k1 (by omega) h11 0 (by decide) (Nat.zero_le _)
      have z : spN sb_42 0 = 0 := rfl
      rw [z, px_1] at s
      exact Or.inr ⟨q, k2, k3, by omega⟩
  · intro x1 x2 x3 x4 x5 x6 x7 x8 x9 h1 h2 h3 h4 h5 h6 h7 h8 h9 h10
    obtain ⟨a1, a2, a3, a4⟩ := apl h2 (c := 0) (by decide) (by decide)
    rw [l1] at a1 a3
    obtain ⟨b1, b2, b3, b4⟩ := ap3 h4 (c0 := 1) a1
    obtain ⟨c1, c2, c3, c4⟩ := apl h6 (c := 1 + l) b1 b4
    rw [l1] at c1 c3 c4
    obtain ⟨d1, d2⟩ := tos_tr h7 (c := 1 + l + 1) c1 c4
    have yb : bbT g l x8 := by
      refine ⟨?_, fun j hj => ?_, ?_⟩
      · rw [d2 0 (by omega), c2 0 (by omega), b2 0 (by decide)]
        have := a3 0 (by decide)
        rw [Nat.zero_add] at this
        rw [this]; exact e0
      · rw [d2 _ (by omega), c2 _ (by omega)]; exact b3 j hj
      · rw [d2 _ (by omega)]
        have := c3 0 (by decide)
        rw [Nat.add_zero] at this
        rw [this]; exact e0
    have em : x7 = l + 2 := by omega
    rw [em] at h9
    refine ⟨x8, yb, ?_⟩
    rcases iof_tr (by omega) (by rw [l2]; decide) (by rw [l2]; decide) h9 with ⟨k1, k2⟩ | ⟨q, k1, -⟩
    · exact Or.inl ⟨px_0, k2⟩
    · omega
end RSY
end
section
section RSZ
/-- a text is bs -/
def txE (xt : gTx) (bs : List Int32) : Prop := xt.1 = bs.length ∧ ∀ j, j < bs.length → (xt.2 j).toInt = (bs.getD j 0).toInt
variable {f g y : Nat → Int32} {n l k0 : Nat} {r kd i : Int32} {bs : List Int32} {c d : Int} {xt : gTx}
theorem eq1_tl {k : Nat} (h : tl_RStringLatin1_equals_9 n f bs i k) (hl : n = bs.length) : ∀ k0 : Nat, i.toInt = (k0 : Int) → (k = 32 ∧ ∀ j, k0 ≤ j → j < n → (f j).toInt = (bs.getD j 0).toInt) ∨ (k = 24 ∧ ¬ ∀ j, k0 ≤ j → j < n → (f j).toInt = (bs.getD j 0).toInt) := by
  refine h (fun i k => ∀ k0 : Nat, i.toInt = (k0 : Int) → (k = 32 ∧ ∀ j, k0 ≤ j → j < n → (f j).toInt = (bs.getD j 0).toInt) ∨ (k = 24 ∧ ¬ ∀ j, k0 ≤ j → j < n → (f j).toInt = (bs.getD j 0).toInt)) ?_ ?_ ?_
  · intro l2_1 x1 h1 h2 h3
    intro k0 hk
    exact Or.inl ⟨rfl, fun j a b => by omega⟩
  · intro l2_1 x1 x2 x3 x4 k h1 h2 h3 h4 h5 h6 h7 h8 ih
    revert ih
    intro ih k0 hk
    rw [nnE hk] at h4 h6
    rcases ih (k0 + 1) (by omega) with ⟨q1, q2⟩ | ⟨q1, q2⟩
    · refine Or.inl ⟨q1, fun j a b => ?_⟩
      by_cases e : j = k0
      · rw [e, ← h4, ← h6]; exact h7
      · exact q2 j (by omega) b
    · exact Or.inr ⟨q1, fun z => q2 (fun j a b => z j (by omega) b)⟩
  · intro l2_1 x1 x2 x3 h1 h2 h3 h4 h5 h6 h7
    intro k0 hk
    rw [nnE hk] at h4 h6
    refine Or.inr ⟨rfl, fun z => h7 ?_⟩
    have := z k0 (Nat.le_refl _) (by omega)
    rw [← h4, ← h6] at this
    exact this
theorem eq2_tr (h : tr_RStringLatin1_equals bs f n r) : (r.toInt = 1 ∧ txE (n, f) bs) ∨ (r.toInt = 0 ∧ ¬ txE (n, f) bs) := by
  refine h (fun r => (r.toInt = 1 ∧ txE (n, f) bs) ∨ (r.toInt = 0 ∧ ¬ txE (n, f) bs)) ?_ ?_ ?_
  · intro x1 x2 h1 h2 h3
    refine Or.inr ⟨px_0, fun z => ?_⟩
    have := z.1
    omega
  · intro x1 x2 h1 h2 h3 h4
    have e : n = bs.length := by omega
    rcases eq1_tl h4 e 0 (by decide) with ⟨q1, q2⟩ | ⟨q1, q2⟩
    · exact Or.inl ⟨px_1, e, fun j hj => q2 j (Nat.zero_le _) (by omega)⟩
    · exact absurd q1 (by decide)
  · intro x1 x2 h1 h2 h3 h4
    have e : n = bs.length := by omega
    rcases eq1_tl h4 e 0 (by decide) with ⟨q1, q2⟩ | ⟨q1, q2⟩
    · exact absurd q1 (by decide)
    · exact Or.inr ⟨px_0, fun z => q2 (fun j _ hj => z.2 j (by omega))⟩
theorem eq3_tr (h : tr_RString_equals bs f n r) : (r.toInt = 1 ∧ txE (n, f) bs) ∨ (r.toInt = 0 ∧ ¬ txE (n, f) bs) := by
  refine h (fun r => (r.toInt = 1 ∧ txE (n, f) bs) ∨ (r.toInt = 0 ∧ ¬ txE (n, f) bs)) ?_ ?_
  · intro x1 h1 h2 h3
    rcases eq2_tr h2 with ⟨q1, q2⟩ | ⟨q1, q2⟩
    · omega
    · exact Or.inr ⟨px_0, q2⟩
  · intro x1 h1 h2 h3
    rcases eq2_tr h2 with ⟨q1, q2⟩ | ⟨q1, q2⟩
    · exact Or.inl ⟨px_1, q2⟩
    · omega
theorem is_tr (h : tr_RReader_is bs kd xt r) : (r.toInt = 1 ∧ (kd.toInt = 5 ∨ kd.toInt = 1) ∧ txE xt bs) ∨ (r.toInt = 0 ∧ ¬ ((kd.toInt = 5 ∨ kd.toInt = 1) ∧ txE xt bs)) := by
  refine h (fun r => (r.toInt = 1 ∧ (kd.toInt = 5 ∨ kd.toInt = 1) ∧ txE xt bs) ∨ (r.toInt = 0 ∧ ¬ ((kd.toInt = 5 ∨ kd.toInt = 1) ∧ txE xt bs))) ?_ ?_ ?_ ?_ ?_
  · intro h1 h2
    rcases eq3_tr h2 with ⟨q1, q2⟩ | ⟨q1, q2⟩
    · exact absurd q1 (by decide)
    · exact Or.inr ⟨px_0, fun z => q2 z.2⟩
  · intro h1 h2
    rcases eq3_tr h2 with ⟨q1, q2⟩ | ⟨q1, q2⟩
    · exact Or.inl ⟨px_1, by omega, q2⟩
    · exact absurd q1 (by decide)
  · intro h1 h2
    exact Or.inr ⟨px_0, fun z => by omega⟩
  · intro h1 h2 h3
    rcases eq3_tr h3 with ⟨q1, q2⟩ | ⟨q1, q2⟩
    · exact absurd q1 (by decide)
    · exact Or.inr ⟨px_0, fun z => q2 z.2⟩
  · intro h1 h2 h3
    rcases eq3_tr h3 with ⟨q1, q2⟩ | ⟨q1, q2⟩
    · exact Or.inl ⟨px_1, by omega, q2⟩
    · exact absurd q1 (by decide)
def v1 (c : Int) : Int := if c = 43 then 1 else if c = 45 then 2 else if c = 42 then 3 else if c = 47 then 4 else if c = 37 then 5 else if c = 38 then 6 else if c = 124 then 7 else if c = 94 then 8 else if c = 60 then 11 else 0
def tw (c d : Int) : Prop := (c = 60 ∧ d = 60) ∨ (c = 62 ∧ d = 62) ∨ (c = 60 ∧ d = 61) ∨ (c = 61 ∧ d = 61) ∨ (c = 33 ∧ d = 61)
def v2 (c d : Int) : Int := if c = 60 ∧ d = 60 then 9 else if c = 62 ∧ d = 62 then 10 else if c = 60 ∧ d = 61 then 12 else if c = 61 ∧ d = 61 then 13 else if c = 33 ∧ d = 61 then 14 else 0
def sgC (c : Int) : Prop := c = 43 ∨ c = 45 ∨ c = 42 ∨ c = 47 ∨ c = 37 ∨ c = 38 ∨ c = 124 ∨ c = 94 ∨ c = 60 ∨ c = 40 ∨ c = 41 ∨ c = 44 ∨ c = 58 ∨ c = 61
theorem tab1 : ∀ q : Fin 32, (sb_42.getD q.val 0).toInt = 32 → (sb_42.getD (q.val + 2) 0).toInt = 32 → (sb_42.getD (q.val + 1) 0).toInt ≠ 32 → v1 (sb_42.getD (q.val + 1) 0).toInt = 1 + (spN sb_42 q.val : Int) := by decide +kernel
theorem tab2 : ∀ q : Fin 31, (sb_42.getD q.val 0).toInt = 32 → (sb_42.getD (q.val + 3) 0).toInt = 32 → (sb_42.getD (q.val + 1) 0).toInt ≠ 32 → (sb_42.getD (q.val + 2) 0).toInt ≠ 32 → v2 (sb_42.getD (q.val + 1) 0).toInt (sb_42.getD (q.val + 2) 0).toInt = 1 + (spN sb_42 q.val : Int) := by decide +kernel
theorem tab3 : ∀ q : Fin 13, (sb_36.getD q.val 0).toInt = 32 → (sb_36.getD (q.val + 3) 0).toInt = 32 → (sb_36.getD (q.val + 1) 0).toInt ≠ 32 → (sb_36.getD (q.val + 2) 0).toInt ≠ 32 → v2 (sb_36.getD (q.val + 1) 0).toInt (sb_36.getD (q.val + 2) 0).toInt ≠ 0 := by decide +kernel
theorem v2_tw : v2 c d ≠ 0 ↔ tw c d := by
  unfold v2 tw
  constructor
  · intro h
    by_cases a : c = 60 ∧ d = 60
    · exact Or.inl a
    rw [if_neg a] at h
    by_cases b : c = 62 ∧ d = 62
    · exact Or.inr (Or.inl b)
    rw [if_neg b] at h
    by_cases e : c = 60 ∧ d = 61
    · exact Or.inr (Or.inr (Or.inl e))
    rw [if_neg e] at h
    by_cases f : c = 61 ∧ d = 61
    · exact Or.inr (Or.inr (Or.inr (Or.inl f)))
    rw [if_neg f] at h
    by_cases g : c = 33 ∧ d = 61
    · exact Or.inr (Or.inr (Or.inr (Or.inr g)))
    rw [if_neg g] at h
    exact absurd rfl h
  · rintro (⟨a, b⟩ | ⟨a, b⟩ | ⟨a, b⟩ | ⟨a, b⟩ | ⟨a, b⟩) <;> (rw [a, b]; decide)
theorem mt3 {p : Nat} (hb : bbT g 1 y) (hc : (g 0).toInt = c) (h0 : (sb_42.getD p 0).toInt = 32) (h1 : (sb_42.getD (p + 1) 0).toInt = c) (h2 : (sb_42.getD (p + 2) 0).toInt = 32) (hp : p + 3 ≤ sb_42.length) : mtc sb_42 (1 + 2) y p := by
  obtain ⟨b0, b1, b2⟩ := hb
  have e1 := b1 0 (by decide)
  refine ⟨hp, fun j hj => ?_⟩
  have hj3 : j = 0 ∨ j = 1 ∨ j = 2 := by omega
  rcases hj3 with e | e | e
  · rw [e, Nat.add_zero, h0, b0]
  · rw [e, h1, show (1 : Nat) = 1 + 0 from rfl, e1, hc]
  · rw [e, h2, show (2 : Nat) = 1 + 1 from rfl, b2]
theorem mt3e {p : Nat} (hb : bbT g 1 y) (hc : (g 0).toInt = c) (h : mtc bs (1 + 2) y p) : p + 3 ≤ bs.length ∧ (bs.getD p 0).toInt = 32 ∧ (bs.getD (p + 1) 0).toInt = c ∧ (bs.getD (p + 2) 0).toInt = 32 := by
  obtain ⟨b0, b1, b2⟩ := hb
  obtain ⟨h1, h2⟩ := h
  have e1 := b1 0 (by decide)
  refine ⟨h1, ?_, ?_, ?_⟩
  · have := h2 0 (by decide); rw [Nat.add_zero] at this; rw [this, b0]
  · rw [h2 1 (by decide), show (1 : Nat) = 1 + 0 from rfl, e1, hc]
  · rw [h2 2 (by decide), show (2 : Nat) = 1 + 1 from rfl, b2]
theorem mt4 {p : Nat} (hb : bbT g 2 y) (hc : (g 0).toInt = c) (hd : (g 1).toInt = d) (h0 : (bs.getD p 0).toInt = 32) (h1 : (bs.getD (p + 1) 0).toInt = c) (h2 : (bs.getD (p + 2) 0).toInt = d) (h3 : (bs.getD (p + 3) 0).toInt = 32) (hp : p + 4 ≤ bs.length) : mtc bs (2 + 2) y p := by
  obtain ⟨b0, b1, b2⟩ := hb
  have e1 := b1 0 (by decide)
  have e2 := b1 1 (by decide)
  refine ⟨hp, fun j hj => ?_⟩
  have hj3 : j = 0 ∨ j = 1 ∨ j = 2 ∨ j = 3 := by omega
  rcases hj3 with e | e | e | e
  · rw [e, Nat.add_zero, h0, b0]
  · rw [e, h1, show (1 : Nat) = 1 + 0 from rfl, e1, hc]
  · rw [e, h2, show (2 : Nat) = 1 + 1 from rfl, e2, hd]
  · rw [e, h3, show (3 : Nat) = 1 + 2 from rfl, b2]
theorem mt4e {p : Nat} (hb : bbT g 2 y) (hc : (g 0).toInt = c) (hd : (g 1).toInt = d) (h : mtc bs (2 + 2) y p) : p + 4 ≤ bs.length ∧ (bs.getD p 0).toInt = 32 ∧ (bs.getD (p + 1) 0).toInt = c ∧ (bs.getD (p + 2) 0).toInt = d ∧ (bs.getD (p + 3) 0).toInt = 32 := by
  obtain ⟨b0, b1, b2⟩ := hb
  obtain ⟨h1, h2⟩ := h
  have e1 := b1 0 (by decide)
  have e2 := b1 1 (by decide)
  refine ⟨h1, ?_, ?_, ?_, ?_⟩
  · have := h2 0 (by decide); rw [Nat.add_zero] at this; rw [this, b0]
  · rw [h2 1 (by decide), show (1 : Nat) = 1 + 0 from rfl, e1, hc]
  · rw [h2 2 (by decide), show (2 : Nat) = 1 + 1 from rfl, e2, hd]
  · rw [h2 3 (by decide), show (3 : Nat) = 1 + 2 from rfl, b2]
theorem opv1 {o : Int32} (h : tr_RModel_operation g 1 o) (hc : (g 0).toInt = c) (h32 : 32 < c) : o.toInt = v1 c := by
  have L : sb_42.length = 34 := by decide
  obtain ⟨y, yb, ⟨k1, k2⟩ | ⟨q, k1, -, k2⟩⟩ := rop_tr h
  · rw [k1]
    unfold v1
    by_cases c43 : c = 43
    · exact absurd (mt3 (p := 0) yb hc (by decide) (by rw [c43]; decide) (by decide) (by rw [L]; decide)) (k2 0)
    rw [if_neg c43]
    by_cases c45 : c = 45
    · exact absurd (mt3 (p := 2) yb hc (by decide) (by rw [c45]; decide) (by decide) (by rw [L]; decide)) (k2 2)
    rw [if_neg c45]
    by_cases c42 : c = 42
    · exact absurd (mt3 (p := 4) yb hc (by decide) (by rw [c42]; decide) (by decide) (by rw [L]; decide)) (k2 4)
    rw [if_neg c42]
    by_cases c47 : c = 47
    · exact absurd (mt3 (p := 6) yb hc (by decide) (by rw [c47]; decide) (by decide) (by rw [L]; decide)) (k2 6)
    rw [if_neg c47]
    by_cases c37 : c = 37
    · exact absurd (mt3 (p := 8) yb hc (by decide) (by rw [c37]; decide) (by decide) (by rw [L]; decide)) (k2 8)
    rw [if_neg c37]
    by_cases c38 : c = 38
    · exact absurd (mt3 (p := 10) yb hc (by decide) (by rw [c38]; decide) (by decide) (by rw [L]; decide)) (k2 10)
    rw [if_neg c38]
    by_cases c124 : c = 124
    · exact absurd (mt3 (p := 12) yb hc (by decide) (by rw [c124]; decide) (by decide) (by rw [L]; decide)) (k2 12)
    rw [if_neg c124]
    by_cases c94 : c = 94
    · exact absurd (mt3 (p := 14) yb hc (by decide) (by rw [c94]; decide) (by decide) (by rw [L]; decide)) (k2 14)
    rw [if_neg c94]
    by_cases c60 : c = 60
    · exact absurd (mt3 (p := 22) yb hc (by decide) (by rw [c60]; decide) (by decide) (by rw [L]; decide)) (k2 22)
    rw [if_neg c60]
  · obtain ⟨m1, m2, m3, m4⟩ := mt3e yb hc k1
    rw [L] at m1
    have t := tab1 ⟨q, by omega⟩ m2 m4 (by rw [m3]; omega)
    rw [m3] at t
    rw [t, k2]
theorem opv2 {o : Int32} (h : tr_RModel_operation g 2 o) (hc : (g 0).toInt = c) (hd : (g 1).toInt = d) (h32 : 32 < c) (d32 : 32 < d) : o.toInt = v2 c d := by
  have L : sb_42.length = 34 := by decide
  obtain ⟨y, yb, ⟨k1, k2⟩ | ⟨q, k1, -, k2⟩⟩ := rop_tr h
  · rw [k1]
    unfold v2
    by_cases c0 : c = 60 ∧ d = 60
    · exact absurd (mt4 (p := 16) yb hc hd (by decide) (by rw [c0.1]; decide) (by rw [c0.2]; decide) (by decide) (by rw [L]; decide)) (k2 16)
    rw [if_neg c0]
    by_cases c1 : c = 62 ∧ d = 62
    · exact absurd (mt4 (p := 19) yb hc hd (by decide) (by rw [c1.1]; decide) (by rw [c1.2]; decide) (by decide) (by rw [L]; decide)) (k2 19)
    rw [if_neg c1]
    by_cases c2 : c = 60 ∧ d = 61
    · exact absurd (mt4 (p := 24) yb hc hd (by decide) (by rw [c2.1]; decide) (by rw [c2.2]; decide) (by decide) (by rw [L]; decide)) (k2 24)
    rw [if_neg c2]
    by_cases c3 : c = 61 ∧ d = 61
    · exact absurd (mt4 (p := 27) yb hc hd (by decide) (by rw [c3.1]; decide) (by rw [c3.2]; decide) (by decide) (by rw [L]; decide)) (k2 27)
    rw [if_neg c3]
    by_cases c4 : c = 33 ∧ d = 61
    · exact absurd (mt4 (p := 30) yb hc hd (by decide) (by rw [c4.1]; decide) (by rw [c4.2]; decide) (by decide) (by rw [L]; decide)) (k2 30)
    rw [if_neg c4]
  · obtain ⟨m1, m2, m3, m4, m5⟩ := mt4e yb hc hd k1
    rw [L] at m1
    have t := tab2 ⟨q, by omega⟩ m2 m5 (by rw [m3]; omega) (by rw [m4]; omega)
    rw [m3, m4] at t
    rw [t, k2]
theorem ic_tl {a3 : Int32} {bs : List Int32} {c1 : Int32} {s1 : Int32} {k : Nat} {e1 : Int32} (h : tl_RStringLatin1_indexOfChar_7 a3 bs c1 s1 k e1) : ∀ i : Nat, s1.toInt = (i : Int) → (k = 31 ∧ ∀ j : Nat, i ≤ j → (j : Int) < a3.toInt → (bs.getD j 0).toInt ≠ c1.toInt) ∨ (k = 22 ∧ ∃ j : Nat, e1.toInt = (j : Int) ∧ (j : Int) < a3.toInt ∧ (bs.getD j 0).toInt = c1.toInt) := by
  refine h (fun s1 k e1 => ∀ i : Nat, s1.toInt = (i : Int) → (k = 31 ∧ ∀ j : Nat, i ≤ j → (j : Int) < a3.toInt → (bs.getD j 0).toInt ≠ c1.toInt) ∨ (k = 22 ∧ ∃ j : Nat, e1.toInt = (j : Int) ∧ (j : Int) < a3.toInt ∧ (bs.getD j 0).toInt = c1.toInt)) ?_ ?_ ?_
  · intro l5_1 h1 h2
    intro i hi
    exact Or.inl ⟨rfl, fun j a b => by omega⟩
  · intro l5_1 x1 x2 k e1 h1 h2 h3 h4 h5 ih
    revert ih
    intro ih i hi
    rw [nnE hi] at h3
    rcases ih (i + 1) (by omega) with ⟨q1, q2⟩ | q
    · refine Or.inl ⟨q1, fun j a b => ?_⟩
      by_cases e : j = i
      · rw [e, ← h3]; exact h4
      · exact q2 j (by omega) b
    · exact Or.inr q
  · intro l5_1 x1 h1 h2 h3 h4
    intro i hi
    rw [nnE hi] at h3
    exact Or.inr ⟨rfl, i, hi, by omega, by rw [← h3]; exact h4⟩
end RSZ
end
section
section RSN
variable {bs : List Int32} {r a : Int32} {c d : Int}
theorem n8 (h0 : 0 ≤ a.toInt) (h1 : a.toInt ≤ 127) {y : Int32} (hy : y = a.toInt8.toInt32) : y.toInt = a.toInt := by
  rw [hy, Int8.toInt_toInt32, Int32.toInt_toInt8, Int.bmod_def]
  split <;> omega
theorem icr {a2 a3 : Int32} (h : tr_RStringLatin1_indexOfChar bs a a2 a3 r) (hz : a2.toInt = 0) (hl : a3.toInt = (bs.length : Int)) (b0 : 0 ≤ a.toInt) (b1 : a.toInt ≤ 127) : (0 ≤ r.toInt ∧ ∃ j : Nat, j < bs.length ∧ (bs.getD j 0).toInt = a.toInt) ∨ (r.toInt = -1 ∧ ∀ j : Nat, j < bs.length → (bs.getD j 0).toInt ≠ a.toInt) := by
  refine h (fun r => (0 ≤ r.toInt ∧ ∃ j : Nat, j < bs.length ∧ (bs.getD j 0).toInt = a.toInt) ∨ (r.toInt = -1 ∧ ∀ j : Nat, j < bs.length → (bs.getD j 0).toInt ≠ a.toInt)) ?_ ?_
  · intro x1 h1 h2
    have e := n8 b0 b1 h1
    rcases ic_tl h2 0 hz with ⟨q1, q2⟩ | ⟨q1, j, q2, q3, q4⟩
    · exact Or.inr ⟨px_m1, fun j hj => by rw [← e]; exact q2 j (Nat.zero_le _) (by omega)⟩
    · exact absurd q1 (by decide)
  · intro x1 x2 h1 h2
    have e := n8 b0 b1 h1
    rcases ic_tl h2 0 hz with ⟨q1, q2⟩ | ⟨q1, j, q2, q3, q4⟩
    · exact absurd q1 (by decide)
    · exact Or.inl ⟨by omega, j, by omega, by rw [← e]; exact q4⟩
theorem ce2 (h : tr_RStringLatin1_canEncode2 a 0) : ¬ (0 ≤ a.toInt ∧ a.toInt ≤ 255) := by
  have q : (0 : Int32).toInt = 0 → ¬ (0 ≤ a.toInt ∧ a.toInt ≤ 255) := by
    refine h (fun r => r.toInt = 0 → ¬ (0 ≤ a.toInt ∧ a.toInt ≤ 255)) ?_ ?_ ?_
    · intro h1
      intro _; omega
    · intro h1 h2
      intro _; omega
    · intro h1 h2
      exact fun z => absurd z (by decide)
  exact q (by decide)
theorem ic3 {a2 a3 : Int32} (h : tr_RStringLatin1_indexOf3 bs a a2 a3 r) (hz : a2.toInt = 0) (hl : a3.toInt = (bs.length : Int)) (hb : 0 < bs.length) (b0 : 0 ≤ a.toInt) (b1 : a.toInt ≤ 127) : (0 ≤ r.toInt ∧ ∃ j : Nat, j < bs.length ∧ (bs.getD j 0).toInt = a.toInt) ∨ (r.toInt = -1 ∧ ∀ j : Nat, j < bs.length → (bs.getD j 0).toInt ≠ a.toInt) := by
  refine h (fun r => (0 ≤ r.toInt ∧ ∃ j : Nat, j < bs.length ∧ (bs.getD j 0).toInt = a.toInt) ∨ (r.toInt = -1 ∧ ∀ j : Nat, j < bs.length → (bs.getD j 0).toInt ≠ a.toInt)) ?_ ?_ ?_
  · intro h1
    exact absurd (ce2 h1) (by omega)
  · intro x1 x2 x3 x4 h1 h2 h3 h4 h5 h6 h7
    exact icr h7 (by omega) (by omega) b0 b1
  · intro x1 x2 x3 h1 h2 h3 h4 h5
    omega
theorem ic2 (h : tr_RString_indexOf3 bs a 0 r) (hb : 0 < bs.length) (b0 : 0 ≤ a.toInt) (b1 : a.toInt ≤ 127) : (0 ≤ r.toInt ∧ ∃ j : Nat, j < bs.length ∧ (bs.getD j 0).toInt = a.toInt) ∨ (r.toInt = -1 ∧ ∀ j : Nat, j < bs.length → (bs.getD j 0).toInt ≠ a.toInt) := by
  refine h (fun r => (0 ≤ r.toInt ∧ ∃ j : Nat, j < bs.length ∧ (bs.getD j 0).toInt = a.toInt) ∨ (r.toInt = -1 ∧ ∀ j : Nat, j < bs.length → (bs.getD j 0).toInt ≠ a.toInt)) ?_
  · intro x1 x2 h1 h2 h3 h4
    exact ic3 h4 (by decide) (sl2_tr h2) hb b0 b1
theorem ic1 (h : tr_RString_indexOf2 bs a r) (hb : 0 < bs.length) (b0 : 0 ≤ a.toInt) (b1 : a.toInt ≤ 127) : (0 ≤ r.toInt ∧ ∃ j : Nat, j < bs.length ∧ (bs.getD j 0).toInt = a.toInt) ∨ (r.toInt = -1 ∧ ∀ j : Nat, j < bs.length → (bs.getD j 0).toInt ≠ a.toInt) := by
  refine h (fun r => (0 ≤ r.toInt ∧ ∃ j : Nat, j < bs.length ∧ (bs.getD j 0).toInt = a.toInt) ∨ (r.toInt = -1 ∧ ∀ j : Nat, j < bs.length → (bs.getD j 0).toInt ≠ a.toInt)) ?_
  · intro x1 h1 h2
    exact ic2 h2 hb b0 b1
theorem sgC_37 : (∃ j : Nat, j < sb_37.length ∧ (sb_37.getD j 0).toInt = c) ↔ sgC c := by
  have L : sb_37.length = 14 := by decide
  have T : ∀ j : Fin 14, sgC (sb_37.getD j.val 0).toInt := by unfold sgC; decide +kernel
  constructor
  · rintro ⟨j, h1, h2⟩
    rw [← h2]
    exact T ⟨j, by omega⟩
  · unfold sgC
    rintro (h | h | h | h | h | h | h | h | h | h | h | h | h | h)
    · exact ⟨0, by rw [L]; decide, by rw [h]; decide⟩
    · exact ⟨1, by rw [L]; decide, by rw [h]; decide⟩
    · exact ⟨2, by rw [L]; decide, by rw [h]; decide⟩
    · exact ⟨3, by rw [L]; decide, by rw [h]; decide⟩
    · exact ⟨4, by rw [L]; decide, by rw [h]; decide⟩
    · exact ⟨5, by rw [L]; decide, by rw [h]; decide⟩
    · exact ⟨6, by rw [L]; decide, by rw [h]; decide⟩
    · exact ⟨7, by rw [L]; decide, by rw [h]; decide⟩
    · exact ⟨8, by rw [L]; decide, by rw [h]; decide⟩
    · exact ⟨9, by rw [L]; decide, by rw [h]; decide⟩
    · exact ⟨10, by rw [L]; decide, by rw [h]; decide⟩
    · exact ⟨11, by rw [L]; decide, by rw [h]; decide⟩
    · exact ⟨12, by rw [L]; decide, by rw [h]; decide⟩
    · exact ⟨13, by rw [L]; decide, by rw [h]; decide⟩
/-- what a symbol is -/
def syR (c d : Int) (at0 : Int) (at' kd : Int32) (xt : gTx) : Prop := (kd.toInt = 6 ∧ ¬ sgC c ∧ ¬ tw c d ∧ at'.toInt = at0 + 1) ∨ (kd.toInt = 5 ∧ xt.1 = 2 ∧ (xt.2 0).toInt = c ∧ (xt.2 1).toInt = d ∧ tw c d ∧ at'.toInt = at0 + 2) ∨ (kd.toInt = 5 ∧ xt.1 = 1 ∧ (xt.2 0).toInt = c ∧ sgC c ∧ ¬ tw c d ∧ at'.toInt = at0 + 1)
theorem s1b {x1 x2 x3 : Int32} {f1 f2 f3 : Nat → Int32} {m : Nat} (h1 : tr_RStringBuilder_append4 sb_32 0 (fun _ => 0) 16 x1 f1) (h2 : x2 = (a.toUInt32 % 65536).toInt32) (h3 : tr_RStringBuilder_append x2 x1 f1 16 x3 f2) (h4 : tr_RStringBuilder_toString x3 f2 16 m f3) (b0 : 0 ≤ a.toInt) (b1 : a.toInt ≤ 127) : m = 1 ∧ (f3 0).toInt = a.toInt := by
  have L : sb_32.length = 0 := by decide
  obtain ⟨a1, a2, a3, a4⟩ := apl h1 (c := 0) (by decide) (by decide)
  rw [L] at a1
  have e := px_i2c h2 b0 (by omega)
  obtain ⟨c1, c2, c3, c4⟩ := apn h3 (c := 0) a1 (by decide) (by omega) (by omega)
  obtain ⟨d1, d2⟩ := tos_tr h4 (c := 0 + 1) c1 c4
  exact ⟨d1, by rw [d2 0 (by decide), c3, e]⟩
theorem sym_tr {a1 : Int32} {a0_n : Int32} {a0_at : Int32} {a0_t_v : Nat → Int32} {o1 : Int32} {o2 : Int32} {o3 : gTx} (hx : a1 = a0_t_v a0_at.toNatClampNeg) (hb : gB a1 (-128) 127) (h0 : 0 ≤ a0_at.toInt) (hl : a0_at.toInt < a0_n.toInt) (hn : a0_n.toInt ≤ 8192) (h : tr_RReader_symbol a1 a0_n a0_at a0_t_v o1 o2 o3) : syR (bA a0_t_v a0_n.toInt a0_at.toInt) (bA a0_t_v a0_n.toInt (a0_at.toInt + 1)) a0_at.toInt o1 o2 o3 := by
  have qc := rb (n := a0_n) hx hb h0 hl
  have b1 := hb.1
  have b2 := hb.2
  have out : ∀ {e : Int}, a1.toInt ≤ 32 → ¬ sgC (bA a0_t_v a0_n.toInt a0_at.toInt) ∧ ¬ tw (bA a0_t_v a0_n.toInt a0_at.toInt) e := fun {e} z => by
    unfold sgC tw
    split at qc <;> omega
  have L7 : sb_37.length = 14 := by decide
  have L6 : sb_36.length = 16 := by decide
  have L5 : sb_35.length = 1 := by decide
  have L2 : sb_32.length = 0 := by decide
  refine h (fun o1 o2 o3 => syR (bA a0_t_v a0_n.toInt a0_at.toInt) (bA a0_t_v a0_n.toInt (a0_at.toInt + 1)) a0_at.toInt o1 o2 o3) ?_ ?_ ?_ ?_ ?_ ?_
  · intro x1 x2 h1 h2 h3 h4 h5
    have nt : ¬ tw (bA a0_t_v a0_n.toInt a0_at.toInt) (bA a0_t_v a0_n.toInt (a0_at.toInt + 1)) := by
      rcases h1 with ⟨y1, e1, e2⟩ | ⟨y1, y2, e1, e2, e3, e4, e5⟩ | ⟨y1, y2, e1, e2, e3, e4, e5, e6⟩
      · have q := bA_out (f := a0_t_v) (n := a0_n.toInt) (i := a0_at.toInt + 1) (by omega)
        rw [q]; unfold tw; omega
      · have q := rb (n := a0_n) e3 e4 (by omega) e2
        have q1 := e4.1
        rw [e1] at q
        unfold tw
        split at q <;> omega
      · exact (out e6).2
    exact Or.inl ⟨px_6, (out (e := 0) h4).1, nt, h5⟩
  · intro x1 x2 x3 x4 x5 x6 x7 x8 x9 x10 x11 h1 h2 h3 h4 h5 h6 h7 h8 h9 h10 h11 h12 h13 h14 h15
    have nt : ¬ tw (bA a0_t_v a0_n.toInt a0_at.toInt) (bA a0_t_v a0_n.toInt (a0_at.toInt + 1)) := by
      rcases h1 with ⟨y1, e1, e2⟩ | ⟨y1, y2, e1, e2, e3, e4, e5⟩ | ⟨y1, y2, e1, e2, e3, e4, e5, e6⟩
      · have q := bA_out (f := a0_t_v) (n := a0_n.toInt) (i := a0_at.toInt + 1) (by omega)
        rw [q]; unfold tw; omega
      · have q := rb (n := a0_n) e3 e4 (by omega) e2
        have q1 := e4.1
        rw [e1] at q
        unfold tw
        split at q <;> omega
      · exact (out e6).2
    rw [if_pos (by omega)] at qc
    have ec := px_i2c h5 (by omega) (by omega)
    have ix := ic1 h7 (by rw [L7]; decide) (by omega) (by omega)
    rw [ec, ← qc] at ix
    rcases ix with ⟨q, -⟩ | ⟨-, q⟩
    · omega
    · exact Or.inl ⟨px_6, fun z => (by obtain ⟨j, j1, j2⟩ := sgC_37.mpr z; exact q j j1 j2), nt, h15⟩
  · intro x1 x2 x3 x4 x5 x6 x7 x8 x9 x10 x11 h1 h2 h3 h4 h5 h6 h7 h8 h9 h10 h11 h12 h13 h14 h15
    have nt : ¬ tw (bA a0_t_v a0_n.toInt a0_at.toInt) (bA a0_t_v a0_n.toInt (a0_at.toInt + 1)) := by
      rcases h1 with ⟨y1, e1, e2⟩ | ⟨y1, y2, e1, e2, e3, e4, e5⟩ | ⟨y1, y2, e1, e2, e3, e4, e5, e6⟩
      · have q := bA_out (f := a0_t_v) (n := a0_n.toInt) (i := a0_at.toInt + 1) (by omega)
        rw [q]; unfold tw; omega
      · have q := rb (n := a0_n) e3 e4 (by omega) e2
        have q1 := e4.1
        rw [e1] at q
        unfold tw
        split at q <;> omega
      · exact (out e6).2
    rw [if_pos (by omega)] at qc
    have ec := px_i2c h5 (by omega) (by omega)
    have ix := ic1 h7 (by rw [L7]; decide) (by omega) (by omega)
    rw [ec, ← qc] at ix
    rcases ix with ⟨-, q⟩ | ⟨q, -⟩
    · obtain ⟨s1, s2⟩ := s1b h10 h11 h13 h14 (by omega) (by omega)
      exact Or.inr (Or.inr ⟨px_5, s1, by rw [qc]; exact s2, sgC_37.mp q, nt, h15⟩)
    · omega
  · intro x1 x2 x3 x4 x5 x6 x7 x8 x9 x10 x11 x12 x13 x14 x15 x16 x17 x18 x19 x20 x21 x22 x23 x24 x25 x26 x27 x28 x29 x30 x31 h1 h2 h3 h4 h5 h6 h7 h8 h9 h10 h11 h12 h13 h14 h15 h16 h17 h18 h19 h20 h21 h22 h23 h24 h25 h26 h27 h28 h29 h30 h31 h32 h33 h34 h35 h36 h37
    have qd := rb (n := a0_n) h3 h4 (by omega) h2
    have g1 := h4.1
    have g2 := h4.2
    rw [if_pos (by omega)] at qc qd
    rw [h1] at qd
    have ec := px_i2c h9 (by omega) (by omega)
    have ed := px_i2c h12 (by omega) (by omega)
    obtain ⟨a1', a2', a3', a4'⟩ := apl h8 (c := 0) (by decide) (by decide)
    rw [L2] at a1'
    obtain ⟨c1, c2, c3, c4⟩ := apn h11 (c := 0) a1' (by decide) (by omega) (by omega)
    obtain ⟨d1, d2, d3, d4⟩ := apn h14 (c := 0 + 1) c1 c4 (by omega) (by omega)
    obtain ⟨t1, t2⟩ := tos_tr h15 (c := 0 + 1 + 1) d1 d4
    have tx0 : (x12 0).toInt = bA a0_t_v a0_n.toInt a0_at.toInt := by rw [t2 0 (by decide), d2 0 (by decide), c3, ec, qc]
    have tx1 : (x12 1).toInt = bA a0_t_v a0_n.toInt (a0_at.toInt + 1) := by rw [t2 1 (by decide), d3, ed, qd]
    obtain ⟨e1, e2, e3, e4⟩ := apl h19 (c := 0) (by decide) (by decide)
    rw [L5] at e1 e3
    rw [t1] at h21
    obtain ⟨f1, f2, f3, f4⟩ := ap3 h21 (c0 := 1) e1
    obtain ⟨k1, k2, k3, k4⟩ := apl h23 (c := 1 + (0 + 1 + 1)) f1 f4
    rw [L5] at k1 k3 k4
    obtain ⟨m1, m2⟩ := tos_tr h24 (c := 1 + (0 + 1 + 1) + 1) k1 k4
    have e32 : (sb_35.getD 0 0).toInt = 32 := by decide
    have yb : bbT x12 2 x21 := by
      refine ⟨?_, fun j hj => ?_, ?_⟩
      · rw [m2 0 (by decide), k2 0 (by decide), f2 0 (by decide)]
        have := e3 0 (by decide)
        rw [Nat.zero_add] at this
        rw [this]; exact e32
      · rw [m2 _ (by omega), k2 _ (by omega)]; exact f3 j (by omega)
      · rw [m2 _ (by decide)]
        have := k3 0 (by decide)
        rw [this]; exact e32
    rw [m1] at h26
    have io := iof_tr (m := 2 + 2) (by decide) (by rw [L6]; decide) (by rw [L6]; decide) h26
    have two : (∃ q, mtc sb_36 (2 + 2) x21 q) ↔ tw (bA a0_t_v a0_n.toInt a0_at.toInt) (bA a0_t_v a0_n.toInt (a0_at.toInt + 1)) := by
      constructor
      · rintro ⟨q, hq⟩
        obtain ⟨p1, p2, p3, p4, p5⟩ := mt4e yb tx0 tx1 hq
        rw [L6] at p1
        have tb := tab3 ⟨q, by omega⟩ p2 p5 (by rw [p3]; omega) (by rw [p4]; omega)
        rw [p3, p4] at tb
        exact v2_tw.mp tb
      · unfold tw
        rintro (⟨p, q⟩ | ⟨p, q⟩ | ⟨p, q⟩ | ⟨p, q⟩ | ⟨p, q⟩)
        · exact ⟨0, mt4 yb tx0 tx1 (by decide) (by rw [p]; decide) (by rw [q]; decide) (by decide) (by rw [L6]; decide)⟩
        · exact ⟨3, mt4 yb tx0 tx1 (by decide) (by rw [p]; decide) (by rw [q]; decide) (by decide) (by rw [L6]; decide)⟩
        · exact ⟨6, mt4 yb tx0 tx1 (by decide) (by rw [p]; decide) (by rw [q]; decide) (by decide) (by rw [L6]; decide)⟩
        · exact ⟨9, mt4 yb tx0 tx1 (by decide) (by rw [p]; decide) (by rw [q]; decide) (by decide) (by rw [L6]; decide)⟩
        · exact ⟨12, mt4 yb tx0 tx1 (by decide) (by rw [p]; decide) (by rw [q]; decide) (by decide) (by rw [L6]; decide)⟩
    have nt : ¬ tw (bA a0_t_v a0_n.toInt a0_at.toInt) (bA a0_t_v a0_n.toInt (a0_at.toInt + 1)) := fun z => by
      obtain ⟨q, hq⟩ := two.mpr z
      rcases io with ⟨-, k⟩ | ⟨q', k, -⟩
      · exact k q hq
      · omega
    have e23 := px_i2c h28 (by omega) (by omega)
    have ix := ic1 h30 (by rw [L7]; decide) (by omega) (by omega)
    rw [e23, ← qc] at ix
    rcases ix with ⟨q, -⟩ | ⟨-, q⟩
    · omega
    · exact Or.inl ⟨px_6, fun z => (by obtain ⟨j, j1, j2⟩ := sgC_37.mpr z; exact q j j1 j2), nt, h1⟩
  · intro x1 x2 x3 x4 x5 x6 x7 x8 x9 x10 x11 x12 x13 x14 x15 x16 x17 x18 x19 x20 x21 x22 x23 x24 x25 x26 x27 x28 x29 x30 x31 h1 h2 h3 h4 h5 h6 h7 h8 h9 h10 h11 h12 h13 h14 h15 h16 h17 h18 h19 h20 h21 h22 h23 h24 h25 h26 h27 h28 h29 h30 h31 h32 h33 h34 h35 h36 h37
    have qd := rb (n := a0_n) h3 h4 (by omega) h2
    have g1 := h4.1
    have g2 := h4.2
    rw [if_pos (by omega)] at qc qd
    rw [h1] at qd
    have ec := px_i2c h9 (by omega) (by omega)
    have ed := px_i2c h12 (by omega) (by omega)
    obtain ⟨a1', a2', a3', a4'⟩ := apl h8 (c := 0) (by decide) (by decide)
    rw [L2] at a1'
    obtain ⟨c1, c2, c3, c4⟩ := apn h11 (c := 0) a1' (by decide) (by omega) (by omega)
    obtain ⟨d1, d2, d3, d4⟩ := apn h14 (c := 0 + 1) c1 c4 (by omega) (by omega)
    obtain ⟨t1, t2⟩ := tos_tr h15 (c := 0 + 1 + 1) d1 d4
    have tx0 : (x12 0).toInt = bA a0_t_v a0_n.toInt a0_at.toInt := by rw [t2 0 (by decide), d2 0 (by decide), c3, ec, qc]
    have tx1 : (x12 1).toInt = bA a0_t_v a0_n.toInt (a0_at.toInt + 1) := by rw [t2 1 (by decide), d3, ed, qd]
    obtain ⟨e1, e2, e3, e4⟩ := apl h19 (c := 0) (by decide) (by decide)
    rw [L5] at e1 e3
    rw [t1] at h21
    obtain ⟨f1, f2, f3, f4⟩ := ap3 h21 (c0 := 1) e1
    obtain ⟨k1, k2, k3, k4⟩ := apl h23 (c := 1 + (0 + 1 + 1)) f1 f4
    rw [L5] at k1 k3 k4
    obtain ⟨m1, m2⟩ := tos_tr h24 (c := 1 + (0 + 1 + 1) + 1) k1 k4
    have e32 : (sb_35.getD 0 0).toInt = 32 := by decide
    have yb : bbT x12 2 x21 := by
      refine ⟨?_, fun j hj => ?_, ?_⟩
      · rw [m2 0 (by decide), k2 0 (by decide), f2 0 (by decide)]
        have := e3 0 (by decide)
        rw [Nat.zero_add] at this
        rw [this]; exact e32
      · rw [m2 _ (by omega), k2 _ (by omega)]; exact f3 j (by omega)
      · rw [m2 _ (by decide)]
        have := k3 0 (by decide)
        rw [this]; exact e32
    rw [m1] at h26
    have io := iof_tr (m := 2 + 2) (by decide) (by rw [L6]; decide) (by rw [L6]; decide) h26
    have two : (∃ q, mtc sb_36 (2 + 2) x21 q) ↔ tw (bA a0_t_v a0_n.toInt a0_at.toInt) (bA a0_t_v a0_n.toInt (a0_at.toInt + 1)) := by
      constructor
      · rintro ⟨q, hq⟩
        obtain ⟨p1, p2, p3, p4, p5⟩ := mt4e yb tx0 tx1 hq
        rw [L6] at p1
        have tb := tab3 ⟨q, by omega⟩ p2 p5 (by rw [p3]; omega) (by rw [p4]; omega)
        rw [p3, p4] at tb
        exact v2_tw.mp tb
      · unfold tw
        rintro (⟨p, q⟩ | ⟨p, q⟩ | ⟨p, q⟩ | ⟨p, q⟩ | ⟨p, q⟩)
        · exact ⟨0, mt4 yb tx0 tx1 (by decide) (by rw [p]; decide) (by rw [q]; decide) (by decide) (by rw [L6]; decide)⟩
        · exact ⟨3, mt4 yb tx0 tx1 (by decide) (by rw [p]; decide) (by rw [q]; decide) (by decide) (by rw [L6]; decide)⟩
        · exact ⟨6, mt4 yb tx0 tx1 (by decide) (by rw [p]; decide) (by rw [q]; decide) (by decide) (by rw [L6]; decide)⟩
        · exact ⟨9, mt4 yb tx0 tx1 (by decide) (by rw [p]; decide) (by rw [q]; decide) (by decide) (by rw [L6]; decide)⟩
        · exact ⟨12, mt4 yb tx0 tx1 (by decide) (by rw [p]; decide) (by rw [q]; decide) (by decide) (by rw [L6]; decide)⟩
    have nt : ¬ tw (bA a0_t_v a0_n.toInt a0_at.toInt) (bA a0_t_v a0_n.toInt (a0_at.toInt + 1)) := fun z => by
      obtain ⟨q, hq⟩ := two.mpr z
      rcases io with ⟨-, k⟩ | ⟨q', k, -⟩
      · exact k q hq
      · omega
    have e23 := px_i2c h28 (by omega) (by omega)
    have ix := ic1 h30 (by rw [L7]; decide) (by omega) (by omega)
    rw [e23, ← qc] at ix
    rcases ix with ⟨-, q⟩ | ⟨q, -⟩
    · obtain ⟨s1, s2⟩ := s1b h33 h34 h36 h37 (by omega) (by omega)
      exact Or.inr (Or.inr ⟨px_5, s1, by rw [qc]; exact s2, sgC_37.mp q, nt, h1⟩)
    · omega
  · intro x1 x2 x3 x4 x5 x6 x7 x8 x9 x10 x11 x12 x13 x14 x15 x16 x17 x18 x19 x20 x21 x22 x23 h1 h2 h3 h4 h5 h6 h7 h8 h9 h10 h11 h12 h13 h14 h15 h16 h17 h18 h19 h20 h21 h22 h23 h24 h25 h26 h27 h28
    have qd := rb (n := a0_n) h3 h4 (by omega) h2
    have g1 := h4.1
    have g2 := h4.2
    rw [if_pos (by omega)] at qc qd
    rw [h1] at qd
    have ec := px_i2c h9 (by omega) (by omega)
    have ed := px_i2c h12 (by omega) (by omega)
    obtain ⟨a1', a2', a3', a4'⟩ := apl h8 (c := 0) (by decide) (by decide)
    rw [L2] at a1'
    obtain ⟨c1, c2, c3, c4⟩ := apn h11 (c := 0) a1' (by decide) (by omega) (by omega)
    obtain ⟨d1, d2, d3, d4⟩ := apn h14 (c := 0 + 1) c1 c4 (by omega) (by omega)
    obtain ⟨t1, t2⟩ := tos_tr h15 (c := 0 + 1 + 1) d1 d4
    have tx0 : (x12 0).toInt = bA a0_t_v a0_n.toInt a0_at.toInt := by rw [t2 0 (by decide), d2 0 (by decide), c3, ec, qc]
    have tx1 : (x12 1).toInt = bA a0_t_v a0_n.toInt (a0_at.toInt + 1) := by rw [t2 1 (by decide), d3, ed, qd]
    obtain ⟨e1, e2, e3, e4⟩ := apl h19 (c := 0) (by decide) (by decide)
    rw [L5] at e1 e3
    rw [t1] at h21
    obtain ⟨f1, f2, f3, f4⟩ := ap3 h21 (c0 := 1) e1
    obtain ⟨k1, k2, k3, k4⟩ := apl h23 (c := 1 + (0 + 1 + 1)) f1 f4
    rw [L5] at k1 k3 k4
    obtain ⟨m1, m2⟩ := tos_tr h24 (c := 1 + (0 + 1 + 1) + 1) k1 k4
    have e32 : (sb_35.getD 0 0).toInt = 32 := by decide
    have yb : bbT x12 2 x21 := by
      refine ⟨?_, fun j hj => ?_, ?_⟩
      · rw [m2 0 (by decide), k2 0 (by decide), f2 0 (by decide)]
        have := e3 0 (by decide)
        rw [Nat.zero_add] at this
        rw [this]; exact e32
      · rw [m2 _ (by omega), k2 _ (by omega)]; exact f3 j (by omega)
      · rw [m2 _ (by decide)]
        have := k3 0 (by decide)
        rw [this]; exact e32
    rw [m1] at h26
    have io := iof_tr (m := 2 + 2) (by decide) (by rw [L6]; decide) (by rw [L6]; decide) h26
    have two : (∃ q, mtc sb_36 (2 + 2) x21 q) ↔ tw (bA a0_t_v a0_n.toInt a0_at.toInt) (bA a0_t_v a0_n.toInt (a0_at.toInt + 1)) := by
      constructor
      · rintro ⟨q, hq⟩
        obtain ⟨p1, p2, p3, p4, p5⟩ := mt4e yb tx0 tx1 hq
        rw [L6] at p1
        have tb := tab3 ⟨q, by omega⟩ p2 p5 (by rw [p3]; omega) (by rw [p4]; omega)
        rw [p3, p4] at tb
        exact v2_tw.mp tb
      · unfold tw
        rintro (⟨p, q⟩ | ⟨p, q⟩ | ⟨p, q⟩ | ⟨p, q⟩ | ⟨p, q⟩)
        · exact ⟨0, mt4 yb tx0 tx1 (by decide) (by rw [p]; decide) (by rw [q]; decide) (by decide) (by rw [L6]; decide)⟩
        · exact ⟨3, mt4 yb tx0 tx1 (by decide) (by rw [p]; decide) (by rw [q]; decide) (by decide) (by rw [L6]; decide)⟩
        · exact ⟨6, mt4 yb tx0 tx1 (by decide) (by rw [p]; decide) (by rw [q]; decide) (by decide) (by rw [L6]; decide)⟩
        · exact ⟨9, mt4 yb tx0 tx1 (by decide) (by rw [p]; decide) (by rw [q]; decide) (by decide) (by rw [L6]; decide)⟩
        · exact ⟨12, mt4 yb tx0 tx1 (by decide) (by rw [p]; decide) (by rw [q]; decide) (by decide) (by rw [L6]; decide)⟩
    rcases io with ⟨q, -⟩ | ⟨q, -, q2, -⟩
    · omega
    · exact Or.inr (Or.inl ⟨px_5, t1, tx0, tx1, two.mp ⟨q, q2⟩, h28⟩)
end RSN
end
section
section RSW
theorem wl_186 {a0_n : Int32} {a0_t_v : Nat → Int32} {s1 : Int32} {s2 : Int32} {s3 : Nat} {s4 : Nat → Int32} {k : Nat} {e1 : Int32} {e2 : Int32} {e3 : Nat} {e4 : Nat → Int32} (h : tl_RReader_word_186 a0_n a0_t_v s1 s2 s3 s4 k e1 e2 e3 e4) : 0 ≤ s1.toInt → ∀ c0 : Nat, s2.toInt = (c0 : Int) → c0 ≤ s3 → e1.toInt = ltr (bA a0_t_v a0_n.toInt) a0_n.toInt s1.toInt ∧ s1.toInt ≤ e1.toInt ∧ ∃ m : Nat, e2.toInt = ((c0 + m : Nat) : Int) ∧ (m : Int) = e1.toInt - s1.toInt ∧ c0 + m ≤ e3 ∧ (∀ j, j < c0 → e4 j = s4 j) ∧ ∀ j, j < m → (e4 (c0 + j)).toInt = bA a0_t_v a0_n.toInt (s1.toInt + (j : Int)) ∧ 97 ≤ (e4 (c0 + j)).toInt ∧ (e4 (c0 + j)).toInt ≤ 122 := by
  refine h (fun s1 s2 s3 s4 _ e1 e2 e3 e4 => 0 ≤ s1.toInt → ∀ c0 : Nat, s2.toInt = (c0 : Int) → c0 ≤ s3 → e1.toInt = ltr (bA a0_t_v a0_n.toInt) a0_n.toInt s1.toInt ∧ s1.toInt ≤ e1.toInt ∧ ∃ m : Nat, e2.toInt = ((c0 + m : Nat) : Int) ∧ (m : Int) = e1.toInt - s1.toInt ∧ c0 + m ≤ e3 ∧ (∀ j, j < c0 → e4 j = s4 j) ∧ ∀ j, j < m → (e4 (c0 + j)).toInt = bA a0_t_v a0_n.toInt (s1.toInt + (j : Int)) ∧ 97 ≤ (e4 (c0 + j)).toInt ∧ (e4 (c0 + j)).toInt ≤ 122) ?_ ?_ ?_
  · intro a0_at_1 a3_count_1 a3_value_n_1 a3_value_v_1 h1 h2 h3
    intro h0 c0 hc hn
    exact ⟨by rw [ltr, if_neg (by omega)], Int.le_refl _, 0, by rw [Nat.add_zero]; exact hc, by omega, by omega, fun _ _ => rfl, fun j hj => absurd hj (Nat.not_lt_zero j)⟩
  · intro a0_at_1 a3_count_1 a3_value_n_1 a3_value_v_1 x1 x2 h1 h2 h3 h4 h5 h6 h7 h8
    intro h0 c0 hc hn
    have q1 := rbe (n := a0_n) h4 h5 h0 h3
    have q2 := rlt_tr h7
    have q3 := q1.2 97 122 (by decide) (by decide)
    exact ⟨by rw [ltr, if_neg (by omega)], Int.le_refl _, 0, by rw [Nat.add_zero]; exact hc, by omega, by omega, fun _ _ => rfl, fun j hj => absurd hj (Nat.not_lt_zero j)⟩
  · intro a0_at_1 a3_count_1 a3_value_n_1 a3_value_v_1 x1 x2 x3 x4 x5 x6 x7 k e1 e2 e3 e4 h1 h2 h3 h4 h5 h6 h7 h8 h9 h10 h11 h12 ih
    revert ih
    intro ih
    intro h0 c0 hc hn
    have q1 := rbe (n := a0_n) h4 h5 h0 h3
    have q2 := rlt_tr h7
    have q3 := q1.2 97 122 (by decide) (by decide)
    have hlt : 97 ≤ x1.toInt ∧ x1.toInt ≤ 122 := by omega
    have qb := rb (n := a0_n) h4 h5 h0 h3
    rw [if_pos (by omega)] at qb
    have ec := px_i2c h9 (by omega) (by omega)
    obtain ⟨p1, p2, p3, p4⟩ := apg h11 hc hn (by omega) (by omega)
    obtain ⟨r1, r2, m, r3, r4, r5, r6, r7⟩ := ih (by omega) (c0 + 1) p1 p4
    refine ⟨?_, by omega, m + 1, by omega, by omega, by omega, fun j hj => by rw [r6 j (by omega), p2 j hj], fun j hj => ?_⟩
    · rw [ltr, if_pos ⟨h3, by omega, by omega⟩, ← h12]; exact r1
    · by_cases e : j = 0
      · rw [e, Nat.add_zero, r6 c0 (by omega), p3, ec]
        refine ⟨?_, hlt⟩
        rw [← qb]
        congr 1
        show a0_at_1.toInt = a0_at_1.toInt + ((0 : Nat) : Int)
        omega
      · obtain ⟨k, ek⟩ : ∃ k, j = k + 1 := ⟨j - 1, by omega⟩
        have s := r7 k (by omega)
        rw [show c0 + 1 + k = c0 + j by omega, h12, show a0_at_1.toInt + 1 + (k : Int) = a0_at_1.toInt + (j : Int) by omega] at s
        exact s
/-- a word that is one of the five is found -/
theorem w5 {g y : Nat → Int32} {l p : Nat} {bs : List Int32} (hb : bbT g l y) (hl : l = bs.length) (hg : ∀ j, j < l → (g j).toInt = (bs.getD j 0).toInt) (h0 : (sb_34.getD p 0).toInt = 32) (h1 : ∀ j, j < l → (sb_34.getD (p + 1 + j) 0).toInt = (bs.getD j 0).toInt) (h2 : (sb_34.getD (p + 1 + l) 0).toInt = 32) (hp : p + (l + 2) ≤ sb_34.length) : mtc sb_34 (l + 2) y p := by
  obtain ⟨b0, b1, b2⟩ := hb
  refine ⟨hp, fun j hj => ?_⟩
  by_cases e : j = 0
  · rw [e, Nat.add_zero, h0, b0]
  · by_cases e2 : j = l + 1
    · rw [e2, show p + (l + 1) = p + 1 + l by omega, h2, show l + 1 = 1 + l by omega, b2]
    · obtain ⟨k, ek⟩ : ∃ k, j = 1 + k := ⟨j - 1, by omega⟩
      rw [ek, show p + (1 + k) = p + 1 + k by omega, h1 k (by omega), b1 k (by omega), hg k (by omega)]
def isF (xt : gTx) : Prop := txE xt sb_41 ∨ txE xt sb_39 ∨ txE xt sb_45 ∨ txE xt sb_44 ∨ txE xt sb_46
theorem tb_41 : (sb_41.length = 2) ∧ (sb_34.getD 0 0).toInt = 32 ∧ (∀ j : Fin 2, (sb_34.getD (0 + 1 + j.val) 0).toInt = (sb_41.getD j.val 0).toInt) ∧ (sb_34.getD (0 + 1 + 2) 0).toInt = 32 ∧ sb_34.length = 25 := by decide +kernel
theorem tb_39 : (sb_39.length = 4) ∧ (sb_34.getD 3 0).toInt = 32 ∧ (∀ j : Fin 4, (sb_34.getD (3 + 1 + j.val) 0).toInt = (sb_39.getD j.val 0).toInt) ∧ (sb_34.getD (3 + 1 + 4) 0).toInt = 32 ∧ sb_34.length = 25 := by decide +kernel
theorem tb_45 : (sb_45.length = 2) ∧ (sb_34.getD 8 0).toInt = 32 ∧ (∀ j : Fin 2, (sb_34.getD (8 + 1 + j.val) 0).toInt = (sb_45.getD j.val 0).toInt) ∧ (sb_34.getD (8 + 1 + 2) 0).toInt = 32 ∧ sb_34.length = 25 := by decide +kernel
theorem tb_44 : (sb_44.length = 4) ∧ (sb_34.getD 11 0).toInt = 32 ∧ (∀ j : Fin 4, (sb_34.getD (11 + 1 + j.val) 0).toInt = (sb_44.getD j.val 0).toInt) ∧ (sb_34.getD (11 + 1 + 4) 0).toInt = 32 ∧ sb_34.length = 25 := by decide +kernel
theorem tb_46 : (sb_46.length = 3) ∧ (sb_34.getD 16 0).toInt = 32 ∧ (∀ j : Fin 3, (sb_34.getD (16 + 1 + j.val) 0).toInt = (sb_46.getD j.val 0).toInt) ∧ (sb_34.getD (16 + 1 + 3) 0).toInt = 32 ∧ sb_34.length = 25 := by decide +kernel
/-- what a word is: a name, or letters -/
def wdR (B : Int → Int) (n : Int) (at0 : Int) (at' kd va : Int32) (xt : gTx) : Prop :=
  (((B at0 = 118 ∨ B at0 = 98) ∧ 48 ≤ B (at0 + 1) ∧ B (at0 + 1) ≤ 57) ∧ at'.toInt = (dgs B n (at0 + 1) 0).2 ∧ (((if B at0 = 118 then 100 else 40) ≤ (dgs B n (at0 + 1) 0).1 ∧ kd.toInt = 6) ∨ ((dgs B n (at0 + 1) 0).1 < (if B at0 = 118 then 100 else 40) ∧ kd.toInt = (if B at0 = 118 then 2 else 3) ∧ va.toInt = (dgs B n (at0 + 1) 0).1))) ∨
  (¬ ((B at0 = 118 ∨ B at0 = 98) ∧ 48 ≤ B (at0 + 1) ∧ B (at0 + 1) ≤ 57) ∧ at'.toInt = ltr B n at0 ∧ ∃ g : Nat → Int32, ∃ m : Nat, (m : Int) = ltr B n at0 - at0 ∧ (∀ j, j < m → (g j).toInt = B (at0 + (j : Int)) ∧ 97 ≤ (g j).toInt ∧ (g j).toInt ≤ 122) ∧ ((kd.toInt = 1 ∧ xt = (m, g)) ∨ (kd.toInt = 6 ∧ ¬ isF (m, g))))
theorem word_tr {a0_n : Int32} {a0_at : Int32} {a0_value : Int32} {a0_t_v : Nat → Int32} {o1 : Int32} {o2 : Int32} {o3 : Int32} {o4 : gTx} (h0 : 0 ≤ a0_at.toInt) (hl : a0_at.toInt < a0_n.toInt) (hn : a0_n.toInt ≤ 8192) (h : tr_RReader_word a0_n a0_at a0_value a0_t_v o1 o2 o3 o4) : wdR (bA a0_t_v a0_n.toInt) a0_n.toInt a0_at.toInt o1 o2 o3 o4 := by
  have L : sb_35.length = 1 := by decide
  have e32 : (sb_35.getD 0 0).toInt = 32 := by decide
  have L4 : sb_34.length = 25 := by decide
  refine h (fun o1 o2 o3 o4 => wdR (bA a0_t_v a0_n.toInt) a0_n.toInt a0_at.toInt o1 o2 o3 o4) ?_ ?_ ?_ ?_ ?_ ?_
  · intro x1 x2 x3 x4 x5 x6 x7 x8 x9 x10 x11 x12 x13 x14 x15 x16 x17 x18 h1 h2 h3 h4 h5 h6 h7 h8 h9 h10 h11 h12 h13 h14 h15
    have q := rbe (n := a0_n) h1 h2 h0 hl
    have q118 := q.1 118 (by decide) (by decide)
    have q98 := q.1 98 (by decide) (by decide)
    have nn : ¬ ((bA a0_t_v a0_n.toInt a0_at.toInt = 118 ∨ bA a0_t_v a0_n.toInt a0_at.toInt = 98) ∧ 48 ≤ bA a0_t_v a0_n.toInt (a0_at.toInt + 1) ∧ bA a0_t_v a0_n.toInt (a0_at.toInt + 1) ≤ 57) := by
      have o1 : ∀ y1 : Int32, y1.toInt = a0_at.toInt + 1 → a0_n.toInt ≤ y1.toInt → bA a0_t_v a0_n.toInt (a0_at.toInt + 1) = -1 := fun y1 z1 z2 => bA_out (by omega)
      have o2 : ∀ y1 y2 y3 : Int32, y1.toInt = a0_at.toInt + 1 → y1.toInt < a0_n.toInt → y2 = a0_t_v y1.toNatClampNeg → gB y2 (-128) 127 → tr_RReader_isDigit2 y2 y3 → y3.toInt = 0 → ¬ (48 ≤ bA a0_t_v a0_n.toInt (a0_at.toInt + 1) ∧ bA a0_t_v a0_n.toInt (a0_at.toInt + 1) ≤ 57) := fun y1 y2 y3 z1 z2 z3 z4 z5 z6 z7 => by
        have r := (rbe (n := a0_n) z3 z4 (by omega) z2).2 48 57 (by decide) (by decide)
        rw [z1] at r
        have s := rdg_tr z5
        have u := r.mpr z7
        omega
      rcases h3 with ⟨y1, z1, z2, z3⟩ | ⟨y1, y2, y3, z1, z2, z3, z4, z5, z6, z7, z8⟩ | ⟨z1, z2⟩ | ⟨y1, z1, z2, z3, z4⟩ | ⟨y1, y2, y3, z1, z2, z3, z4, z5, z6, z7, z8, z9⟩
      · exact fun w => by have := o1 _ z2 z3; omega
      · exact fun w => o2 _ _ _ z2 z3 z4 z5 z7 z8 w.2
      · exact fun w => by omega
      · exact fun w => by have := o1 _ z3 z4; omega
      · exact fun w => o2 _ _ _ z3 z4 z5 z6 z8 z9 w.2
    obtain ⟨r1, r2, m, r3, r4, r5, r6, r7⟩ := wl_186 h4 h0 0 (by decide) (by decide)
    rw [Nat.zero_add] at r3 r5
    obtain ⟨t1, t2⟩ := tos_tr h5 r3 r5
    have gl : ∀ j, j < m → (x7 j).toInt = bA a0_t_v a0_n.toInt (a0_at.toInt + (j : Int)) ∧ 97 ≤ (x7 j).toInt ∧ (x7 j).toInt ≤ 122 := fun j hj => by
      have s := r7 j hj
      rw [Nat.zero_add] at s
      rw [t2 j hj]; exact s
    refine Or.inr ⟨nn, r1, x7, m, by omega, gl, ?_⟩
    refine Or.inr ⟨px_6, fun hf => ?_⟩
    obtain ⟨a1, a2, a3, a4⟩ := apl h7 (c := 0) (by decide) (by decide)
    rw [L] at a1 a3
    rw [t1] at h9
    obtain ⟨b1, b2, b3, b4⟩ := aps h9 (c := 1) a1 (by decide)
    obtain ⟨c1, c2, c3, c4⟩ := aplg h11 (c := 1 + m) b1 b4
    rw [L] at c1 c3 c4
    obtain ⟨d1, d2⟩ := tos_tr h12 (c := 1 + m + 1) c1 c4
    have yb : bbT x7 m x17 := by
      refine ⟨?_, fun j hj => ?_, ?_⟩
      · rw [d2 0 (by omega), c2 0 (by omega), b2 0 (by decide)]
        have := a3 0 (by decide)
        rw [Nat.zero_add] at this
        rw [this]; exact e32
      · rw [d2 _ (by omega), c2 _ (by omega)]; exact b3 j hj
      · rw [d2 _ (by omega)]
        have := c3 0 (by decide)
        rw [Nat.add_zero] at this
        rw [this]; exact e32
    rw [show x16 = m + 2 by omega] at h14
    have io := iof_tr (m := m + 2) (by omega) (by rw [L4]; decide) (by rw [L4]; decide) h14
    have no : ∀ p, ¬ mtc sb_34 (m + 2) x17 p := by
      rcases io with ⟨-, k⟩ | ⟨q', k, -⟩
      · exact k
      · omega
    rcases hf with hf | hf | hf | hf | hf
    · obtain ⟨u1, u2, u3, u4, u5⟩ := tb_41
      have lm : m = 2 := by rw [← u1]; exact hf.1
      exact no 0 (w5 (p := 0) (bs := sb_41) yb hf.1 (fun j hj => hf.2 j (by have := hf.1; omega)) u2 (fun j hj => u3 ⟨j, by omega⟩) (by rw [lm]; exact u4) (by rw [u5, lm]; decide))
    · obtain ⟨u1, u2, u3, u4, u5⟩ := tb_39
      have lm : m = 4 := by rw [← u1]; exact hf.1
      exact no 3 (w5 (p := 3) (bs := sb_39) yb hf.1 (fun j hj => hf.2 j (by have := hf.1; omega)) u2 (fun j hj => u3 ⟨j, by omega⟩) (by rw [lm]; exact u4) (by rw [u5, lm]; decide))
    · obtain ⟨u1, u2, u3, u4, u5⟩ := tb_45
      have lm : m = 2 := by rw [← u1]; exact hf.1
      exact no 8 (w5 (p := 8) (bs := sb_45) yb hf.1 (fun j hj => hf.2 j (by have := hf.1; omega)) u2 (fun j hj => u3 ⟨j, by omega⟩) (by rw [lm]; exact u4) (by rw [u5, lm]; decide))
    · obtain ⟨u1, u2, u3, u4, u5⟩ := tb_44
      have lm : m = 4 := by rw [← u1]; exact hf.1
      exact no 11 (w5 (p := 11) (bs := sb_44) yb hf.1 (fun j hj => hf.2 j (by have := hf.1; omega)) u2 (fun j hj => u3 ⟨j, by omega⟩) (by rw [lm]; exact u4) (by rw [u5, lm]; decide))
    · obtain ⟨u1, u2, u3, u4, u5⟩ := tb_46
      have lm : m = 3 := by rw [← u1]; exact hf.1
      exact no 16 (w5 (p := 16) (bs := sb_46) yb hf.1 (fun j hj => hf.2 j (by have := hf.1; omega)) u2 (fun j hj => u3 ⟨j, by omega⟩) (by rw [lm]; exact u4) (by rw [u5, lm]; decide))
  · intro x1 x2 x3 x4 x5 x6 x7 x8 x9 x10 x11 x12 x13 x14 x15 x16 x17 x18 h1 h2 h3 h4 h5 h6 h7 h8 h9 h10 h11 h12 h13 h14 h15
    have q := rbe (n := a0_n) h1 h2 h0 hl
    have q118 := q.1 118 (by decide) (by decide)
    have q98 := q.1 98 (by decide) (by decide)
    have nn : ¬ ((bA a0_t_v a0_n.toInt a0_at.toInt = 118 ∨ bA a0_t_v a0_n.toInt a0_at.toInt = 98) ∧ 48 ≤ bA a0_t_v a0_n.toInt (a0_at.toInt + 1) ∧ bA a0_t_v a0_n.toInt (a0_at.toInt + 1) ≤ 57) := by
      have o1 : ∀ y1 : Int32, y1.toInt = a0_at.toInt + 1 → a0_n.toInt ≤ y1.toInt → bA a0_t_v a0_n.toInt (a0_at.toInt + 1) = -1 := fun y1 z1 z2 => bA_out (by omega)
      have o2 : ∀ y1 y2 y3 : Int32, y1.toInt = a0_at.toInt + 1 → y1.toInt < a0_n.toInt → y2 = a0_t_v y1.toNatClampNeg → gB y2 (-128) 127 → tr_RReader_isDigit2 y2 y3 → y3.toInt = 0 → ¬ (48 ≤ bA a0_t_v a0_n.toInt (a0_at.toInt + 1) ∧ bA a0_t_v a0_n.toInt (a0_at.toInt + 1) ≤ 57) := fun y1 y2 y3 z1 z2 z3 z4 z5 z6 z7 => by
        have r := (rbe (n := a0_n) z3 z4 (by omega) z2).2 48 57 (by decide) (by decide)
        rw [z1] at r
        have s := rdg_tr z5
        have u := r.mpr z7
        omega
      rcases h3 with ⟨y1, z1, z2, z3⟩ | ⟨y1, y2, y3, z1, z2, z3, z4, z5, z6, z7, z8⟩ | ⟨z1, z2⟩ | ⟨y1, z1, z2, z3, z4⟩ | ⟨y1, y2, y3, z1, z2, z3, z4, z5, z6, z7, z8, z9⟩
      · exact fun w => by have := o1 _ z2 z3; omega
      · exact fun w => o2 _ _ _ z2 z3 z4 z5 z7 z8 w.2
      · exact fun w => by omega
      · exact fun w => by have := o1 _ z3 z4; omega
      · exact fun w => o2 _ _ _ z3 z4 z5 z6 z8 z9 w.2
    obtain ⟨r1, r2, m, r3, r4, r5, r6, r7⟩ := wl_186 h4 h0 0 (by decide) (by decide)
    rw [Nat.zero_add] at r3 r5
    obtain ⟨t1, t2⟩ := tos_tr h5 r3 r5
    have gl : ∀ j, j < m → (x7 j).toInt = bA a0_t_v a0_n.toInt (a0_at.toInt + (j : Int)) ∧ 97 ≤ (x7 j).toInt ∧ (x7 j).toInt ≤ 122 := fun j hj => by
      have s := r7 j hj
      rw [Nat.zero_add] at s
      rw [t2 j hj]; exact s
    refine Or.inr ⟨nn, r1, x7, m, by omega, gl, ?_⟩
    exact Or.inl ⟨px_1, by rw [t1]⟩
  · intro x1 x2 x3 x4 x5 x6 x7 x8 h1 h2 h3 h4 h5 h6 h7 h8 h9 h10 h11 h12 h13 h14
    have q := rbe (n := a0_n) h1 h2 h0 hl
    have q118 := q.1 118 (by decide) (by decide)
    have q98 := q.1 98 (by decide) (by decide)
    have r := (rbe (n := a0_n) h6 h7 (by omega) h5).2 48 57 (by decide) (by decide)
    rw [h4] at r
    have s := rdg_tr h9
    have dg := r.mp (by omega)
    obtain ⟨w1, w2⟩ := rw_tl h11 (by omega) 0 (by decide) (by decide) (by decide)
    rw [h4] at w1 w2
    refine Or.inl ⟨⟨by omega, dg⟩, w1.symm, ?_⟩
    have cl : (99 : Int64).toInt = 99 := by decide
    have g := px_cgt h13 h14
    rw [cl] at g
    refine Or.inl ⟨?_, px_6⟩
    rw [if_pos (by omega)]
    split at w2 <;> omega
  · intro x1 x2 x3 x4 x5 x6 x7 x8 h1 h2 h3 h4 h5 h6 h7 h8 h9 h10 h11 h12 h13 h14
    have q := rbe (n := a0_n) h1 h2 h0 hl
    have q118 := q.1 118 (by decide) (by decide)
    have q98 := q.1 98 (by decide) (by decide)
    have r := (rbe (n := a0_n) h6 h7 (by omega) h5).2 48 57 (by decide) (by decide)
    rw [h4] at r
    have s := rdg_tr h9
    have dg := r.mp (by omega)
    obtain ⟨w1, w2⟩ := rw_tl h11 (by omega) 0 (by decide) (by decide) (by decide)
    rw [h4] at w1 w2
    refine Or.inl ⟨⟨by omega, dg⟩, w1.symm, ?_⟩
    have cl : (99 : Int64).toInt = 99 := by decide
    have g := px_cle h13 h14
    rw [cl] at g
    have e5 : x5.toInt = (dgs (bA a0_t_v a0_n.toInt) a0_n.toInt (a0_at.toInt + 1) 0).1 := by split at w2 <;> omega
    have pos := (dgs_b (B := bA a0_t_v a0_n.toInt) (n := a0_n.toInt) _ (a0_at.toInt + 1) 0 rfl (by omega) (by decide)).2.2.1
    refine Or.inr ⟨?_, ?_, ?_⟩
    · rw [if_pos (by omega)]; omega
    · rw [if_pos (by omega)]; decide
    · rw [h12, Int64.toInt_toInt32, ← e5]; exact gM_of (by omega) (by omega)
  · intro x1 x2 x3 x4 x5 x6 x7 x8 h1 h2 h3 h4 h5 h6 h7 h8 h9 h10 h11 h12 h13 h14 h15
    have q := rbe (n := a0_n) h1 h2 h0 hl
    have q118 := q.1 118 (by decide) (by decide)
    have q98 := q.1 98 (by decide) (by decide)
    have r := (rbe (n := a0_n) h7 h8 (by omega) h6).2 48 57 (by decide) (by decide)
    rw [h5] at r
    have s := rdg_tr h10
    have dg := r.mp (by omega)
    obtain ⟨w1, w2⟩ := rw_tl2 h12 (by omega) 0 (by decide) (by decide) (by decide)
    rw [h5] at w1 w2
    refine Or.inl ⟨⟨by omega, dg⟩, w1.symm, ?_⟩
    have cl : (39 : Int64).toInt = 39 := by decide
    have g := px_cgt h14 h15
    rw [cl] at g
    refine Or.inl ⟨?_, px_6⟩
    rw [if_neg (by omega)]
    split at w2 <;> omega
  · intro x1 x2 x3 x4 x5 x6 x7 x8 h1 h2 h3 h4 h5 h6 h7 h8 h9 h10 h11 h12 h13 h14 h15
    have q := rbe (n := a0_n) h1 h2 h0 hl
    have q118 := q.1 118 (by decide) (by decide)
    have q98 := q.1 98 (by decide) (by decide)
    have r := (rbe (n := a0_n) h7 h8 (by omega) h6).2 48 57 (by decide) (by decide)
    rw [h5] at r
    have s := rdg_tr h10
    have dg := r.mp (by omega)
    obtain ⟨w1, w2⟩ := rw_tl2 h12 (by omega) 0 (by decide) (by decide) (by decide)
    rw [h5] at w1 w2
    refine Or.inl ⟨⟨by omega, dg⟩, w1.symm, ?_⟩
    have cl : (39 : Int64).toInt = 39 := by decide
    have g := px_cle h14 h15
    rw [cl] at g
    have e5 : x5.toInt = (dgs (bA a0_t_v a0_n.toInt) a0_n.toInt (a0_at.toInt + 1) 0).1 := by split at w2 <;> omega
    have pos := (dgs_b (B := bA a0_t_v a0_n.toInt) (n := a0_n.toInt) _ (a0_at.toInt + 1) 0 rfl (by omega) (by decide)).2.2.1
    refine Or.inr ⟨?_, ?_, ?_⟩
    · rw [if_neg (by omega)]; omega
    · rw [if_neg (by omega)]; decide
    · rw [h13, Int64.toInt_toInt32, ← e5]; exact gM_of (by omega) (by omega)
end RSW
end
section
section RSX
variable {kd va : Int32} {xt : gTx} {K V : Int} {B : Int → Int} {n p : Int}
def isX (kd : Int32) (xt : gTx) (bs : List Int32) (q : Prop) : Prop := ((kd.toInt = 5 ∨ kd.toInt = 1) ∧ txE xt bs) ↔ q
/-- a sign of the reference is the sign K, V of the machine -/
def tkR (kd va : Int32) (xt : gTx) (K V : Int) : Prop := (kd.toInt = 0 ↔ K = 1) ∧ (kd.toInt = 2 ↔ K = 2) ∧ (kd.toInt = 3 ↔ K = 3) ∧ (kd.toInt = 4 ↔ K = 4) ∧ (2 ≤ K → K ≤ 4 → va.toInt = V) ∧ (K = 5 → kd.toInt = 5) ∧ (kd.toInt = 5 → ∀ o, tr_RModel_operation xt.2 xt.1 o → o.toInt = if K = 5 then V + 1 else 0) ∧
  isX kd xt sb_38 (K = 6) ∧ isX kd xt sb_40 (K = 7) ∧ isX kd xt sb_41 (K = 8) ∧ isX kd xt sb_39 (K = 9) ∧ isX kd xt sb_45 (K = 10) ∧ isX kd xt sb_44 (K = 11) ∧ isX kd xt sb_46 (K = 12)
theorem isX_n {bs : List Int32} {q : Prop} (h1 : kd.toInt ≠ 5) (h2 : kd.toInt ≠ 1) (hq : ¬ q) : isX kd xt bs q := ⟨fun z => by omega, fun z => absurd z hq⟩
theorem tkR_o (h1 : kd.toInt ≠ 5) (h2 : kd.toInt ≠ 1) (hk : (kd.toInt = 6 ∧ K = 0) ∨ (kd.toInt = 0 ∧ K = 1) ∨ (2 ≤ K ∧ K ≤ 4 ∧ kd.toInt = K ∧ va.toInt = V)) : tkR kd va xt K V :=
  ⟨by omega, by omega, by omega, by omega, fun a b => by omega, fun z => by omega, fun z => absurd z h1, isX_n h1 h2 (by omega), isX_n h1 h2 (by omega), isX_n h1 h2 (by omega), isX_n h1 h2 (by omega), isX_n h1 h2 (by omega), isX_n h1 h2 (by omega), isX_n h1 h2 (by omega)⟩
theorem tx1 {bs : List Int32} {c : Int} (h1 : xt.1 = 1) (hc : (xt.2 0).toInt = c) (hl : bs.length = 1) : txE xt bs ↔ (bs.getD 0 0).toInt = c := by
  constructor
  · intro z; rw [← z.2 0 (by omega), hc]
  · intro z
    refine ⟨by omega, fun j hj => ?_⟩
    have e : j = 0 := by omega
    rw [e, hc, z]
theorem txl {bs : List Int32} (h : xt.1 ≠ bs.length) : ¬ txE xt bs := fun z => h z.1
theorem lns : sb_38.length = 1 ∧ sb_40.length = 1 ∧ sb_41.length = 2 ∧ sb_39.length = 4 ∧ sb_45.length = 2 ∧ sb_44.length = 4 ∧ sb_46.length = 3 := by decide
theorem mkS_v {c d : Int} : mkS p c d = @ite _ (tw c d) (Classical.propDecidable _) (5, v2 c d - 1, p + 2) (if v1 c ≠ 0 then (5, v1 c - 1, p + 1) else if c = 58 then (6, 0, p + 1) else if c = 61 then (7, 0, p + 1) else (0, 0, p + 1)) := by
  have a2 : (opF 0 c d ≠ -1 ∧ d ≠ 32) ↔ tw c d := by
    rw [opF_v]
    unfold tw
    constructor
    · rintro ⟨h1, h2⟩
      by_cases e1 : 60 = c ∧ 60 = d
      · exact Or.inl ⟨e1.1.symm, e1.2.symm⟩
      by_cases e2 : 62 = c ∧ 62 = d
      · exact Or.inr (Or.inl ⟨e2.1.symm, e2.2.symm⟩)
      by_cases e3 : 60 = c ∧ 61 = d
      · exact Or.inr (Or.inr (Or.inl ⟨e3.1.symm, e3.2.symm⟩))
      by_cases e4 : 61 = c ∧ 61 = d
      · exact Or.inr (Or.inr (Or.inr (Or.inl ⟨e4.1.symm, e4.2.symm⟩)))
      by_cases e5 : 33 = c ∧ 61 = d
      · exact Or.inr (Or.inr (Or.inr (Or.inr ⟨e5.1.symm, e5.2.symm⟩)))
      exfalso
      refine h1 ?_
      rw [if_neg (by omega), if_neg (by omega), if_neg (by omega), if_neg (by omega), if_neg (by omega), if_neg (by omega), if_neg (by omega), if_neg (by omega), if_neg e1, if_neg e2, if_neg (by omega), if_neg e3, if_neg e4, if_neg e5]
    · rintro (⟨a, b⟩ | ⟨a, b⟩ | ⟨a, b⟩ | ⟨a, b⟩ | ⟨a, b⟩) <;> (rw [a, b]; decide)
  have a3 : tw c d → opF 0 c d = v2 c d - 1 := by
    rw [opF_v]
    unfold tw
    rintro (⟨a, b⟩ | ⟨a, b⟩ | ⟨a, b⟩ | ⟨a, b⟩ | ⟨a, b⟩) <;> (rw [a, b]; decide)
  have a4 : opF 0 c 32 = v1 c - 1 := by
    rw [opF_v]
    unfold v1
    by_cases c1 : c = 43
    · rw [c1]; decide
    by_cases c2 : c = 45
    · rw [c2]; decide
    by_cases c3 : c = 42
    · rw [c3]; decide
    by_cases c4 : c = 47
    · rw [c4]; decide
    by_cases c5 : c = 37
    · rw [c5]; decide
    by_cases c6 : c = 38
    · rw [c6]; decide
    by_cases c7 : c = 124
    · rw [c7]; decide
    by_cases c8 : c = 94
    · rw [c8]; decide
    by_cases c9 : c = 60
    · rw [c9]; decide
    rw [if_neg c1, if_neg c2, if_neg c3, if_neg c4, if_neg c5, if_neg c6, if_neg c7, if_neg c8, if_neg c9]
    rw [if_neg (by omega), if_neg (by omega), if_neg (by omega), if_neg (by omega), if_neg (by omega), if_neg (by omega), if_neg (by omega), if_neg (by omega), if_neg (by omega), if_neg (by omega), if_neg (by omega), if_neg (by omega), if_neg (by omega), if_neg (by omega)]
    decide
  unfold mkS
  by_cases t : tw c d
  · rw [if_pos (a2.mpr t), a3 t, if_pos t]
  · rw [if_neg (fun z => t (a2.mp z)), if_neg t, a4]
    by_cases z : v1 c ≠ 0
    · rw [if_pos (by omega), if_pos z]
    · rw [if_neg (by omega), if_neg z]
theorem v1_s {c : Int} : v1 c ≠ 0 → sgC c ∧ c ≠ 58 ∧ c ≠ 61 := by
  unfold v1 sgC
  intro h
  by_cases c1 : c = 43
  · omega
  rw [if_neg c1] at h
  by_cases c2 : c = 45
  · omega
  rw [if_neg c2] at h
  by_cases c3 : c = 42
  · omega
  rw [if_neg c3] at h
  by_cases c4 : c = 47
  · omega
  rw [if_neg c4] at h
  by_cases c5 : c = 37
  · omega
  rw [if_neg c5] at h
  by_cases c6 : c = 38
  · omega
  rw [if_neg c6] at h
  by_cases c7 : c = 124
  · omega
  rw [if_neg c7] at h
  by_cases c8 : c = 94
  · omega
  rw [if_neg c8] at h
  by_cases c9 : c = 60
  · omega
  rw [if_neg c9] at h
  exact absurd rfl h
theorem sgC_g {c : Int} (h : sgC c) : 32 < c ∧ c < 97 ∨ c = 124 := by unfold sgC at h; omega
/-- a symbol -/
theorem sy_tk {c d : Int} {at' : Int32} (h : syR c d p at' kd xt) : tkR kd va xt (mkS p c d).1 (mkS p c d).2.1 ∧ ((mkS p c d).1 ≠ 0 → at'.toInt = (mkS p c d).2.2) := by
  obtain ⟨l1, l2, l3, l4, l5, l6, l7⟩ := lns
  have c38 : (sb_38.getD 0 0).toInt = 58 := by decide
  have c40 : (sb_40.getD 0 0).toInt = 61 := by decide
  have c41 : (sb_41.getD 0 0).toInt = 105 := by decide
  have c45 : (sb_45.getD 0 0).toInt = 105 := by decide
  rw [mkS_v]
  rcases h with ⟨h1, h2, h3, h4⟩ | ⟨h1, h2, h3, h4, h5, h6⟩ | ⟨h1, h2, h3, h4, h5, h6⟩
  · have z : ¬ v1 c ≠ 0 := fun z => h2 (v1_s z).1
    have z1 : c ≠ 58 := fun e => h2 (by unfold sgC; omega)
    have z2 : c ≠ 61 := fun e => h2 (by unfold sgC; omega)
    rw [if_neg h3, if_neg z, if_neg z1, if_neg z2]
    exact ⟨tkR_o (by omega) (by omega) (Or.inl ⟨h1, rfl⟩), fun q => absurd rfl q⟩
  · rw [if_pos h5]
    show tkR kd va xt 5 (v2 c d - 1) ∧ ((5 : Int) ≠ 0 → at'.toInt = p + 2)
    have gt : 32 < c ∧ 32 < d ∧ c < 97 := by unfold tw at h5; omega
    have nx : ∀ {bs : List Int32} {q : Prop}, ¬ q → (bs.length ≠ 2 ∨ (bs.getD 0 0).toInt = 105 ∧ bs.length = 2) → isX kd xt bs q := fun {bs q} hq hb => by
      refine ⟨fun z => ?_, fun z => absurd z hq⟩
      have z1 := z.2.1
      rcases hb with hb | hb
      · omega
      · have z2 := z.2.2 0 (by omega)
        omega
    refine ⟨⟨?_, ?_, ?_, ?_, ?_, fun _ => h1, fun _ o ho => ?_, nx (by decide) (by omega), nx (by decide) (by omega), nx (by decide) (Or.inr ⟨c41, l3⟩), nx (by decide) (by omega), nx (by decide) (Or.inr ⟨c45, l5⟩), nx (by decide) (by omega), nx (by decide) (by omega)⟩, fun _ => h6⟩
    · exact ⟨fun z => by omega, fun z => absurd z (by decide)⟩
    · exact ⟨fun z => by omega, fun z => absurd z (by decide)⟩
    · exact ⟨fun z => by omega, fun z => absurd z (by decide)⟩
    · exact ⟨fun z => by omega, fun z => absurd z (by decide)⟩
    · exact fun _ z => absurd z (by decide)
    · rw [h2] at ho
      rw [opv2 ho h3 h4 gt.1 gt.2.1, if_pos rfl]
      show v2 c d = v2 c d - 1 + 1
      omega
  · rw [if_neg h5]
    have gt := sgC_g h4
    have x38 : ∀ {q : Prop}, (c = 58 ↔ q) → isX kd xt sb_38 q := fun {q} hq => by
      unfold isX
      rw [tx1 h2 h3 l1, c38, ← hq]
      exact ⟨fun z => z.2.symm, fun z => ⟨Or.inl h1, z.symm⟩⟩
    have x40 : ∀ {q : Prop}, (c = 61 ↔ q) → isX kd xt sb_40 q := fun {q} hq => by
      unfold isX
      rw [tx1 h2 h3 l2, c40, ← hq]
      exact ⟨fun z => z.2.symm, fun z => ⟨Or.inl h1, z.symm⟩⟩
    have nx : ∀ {bs : List Int32} {q : Prop}, ¬ q → bs.length ≠ 1 → isX kd xt bs q := fun {bs q} hq hb => ⟨fun z => absurd z.2 (txl (by omega)), fun z => absurd z hq⟩
    have op : ∀ o, tr_RModel_operation xt.2 xt.1 o → o.toInt = v1 c := fun o ho => by
      rw [h2] at ho
      exact opv1 ho h3 (by omega)
    by_cases z : v1 c ≠ 0
    · rw [if_pos z]
      show tkR kd va xt 5 (v1 c - 1) ∧ ((5 : Int) ≠ 0 → at'.toInt = p + 1)
      obtain ⟨-, z1, z2⟩ := v1_s z
      refine ⟨⟨⟨fun y => by omega, fun y => absurd y (by decide)⟩, ⟨fun y => by omega, fun y => absurd y (by decide)⟩, ⟨fun y => by omega, fun y => absurd y (by decide)⟩, ⟨fun y => by omega, fun y => absurd y (by decide)⟩, fun _ y => absurd y (by decide), fun _ => h1, fun _ o ho => ?_, x38 ⟨fun y => absurd y z1, fun y => absurd y (by decide)⟩, x40 ⟨fun y => absurd y z2, fun y => absurd y (by decide)⟩, nx (by decide) (by omega), nx (by decide) (by omega), nx (by decide) (by omega), nx (by decide) (by omega), nx (by decide) (by omega)⟩, fun _ => h6⟩
      rw [op o ho, if_pos rfl]
      show v1 c = v1 c - 1 + 1
      omega
    · rw [if_neg z]
      have z0 : v1 c = 0 := Decidable.not_not.mp z
      by_cases e1 : c = 58
      · rw [if_pos e1]
        show tkR kd va xt 6 0 ∧ ((6 : Int) ≠ 0 → at'.toInt = p + 1)
        refine ⟨⟨⟨fun y => by omega, fun y => absurd y (by decide)⟩, ⟨fun y => by omega, fun y => absurd y (by decide)⟩, ⟨fun y => by omega, fun y => absurd y (by decide)⟩, ⟨fun y => by omega, fun y => absurd y (by decide)⟩, fun _ y => absurd y (by decide), fun y => absurd y (by decide), fun _ o ho => ?_, x38 ⟨fun _ => rfl, fun _ => e1⟩, x40 ⟨fun y => by omega, fun y => absurd y (by decide)⟩, nx (by decide) (by omega), nx (by decide) (by omega), nx (by decide) (by omega), nx (by decide) (by omega), nx (by decide) (by omega)⟩, fun _ => h6⟩
        rw [op o ho, z0]; rfl
      · rw [if_neg e1]
        by_cases e2 : c = 61
        · rw [if_pos e2]
          show tkR kd va xt 7 0 ∧ ((7 : Int) ≠ 0 → at'.toInt = p + 1)
          refine ⟨⟨⟨fun y => by omega, fun y => absurd y (by decide)⟩, ⟨fun y => by omega, fun y => absurd y (by decide)⟩, ⟨fun y => by omega, fun y => absurd y (by decide)⟩, ⟨fun y => by omega, fun y => absurd y (by decide)⟩, fun _ y => absurd y (by decide), fun y => absurd y (by decide), fun _ o ho => ?_, x38 ⟨fun y => by omega, fun y => absurd y (by decide)⟩, x40 ⟨fun _ => rfl, fun _ => e2⟩, nx (by decide) (by omega), nx (by decide) (by omega), nx (by decide) (by omega), nx (by decide) (by omega), nx (by decide) (by omega)⟩, fun _ => h6⟩
          rw [op o ho, z0]; rfl
        · rw [if_neg e2]
          show tkR kd va xt 0 0 ∧ ((0 : Int) ≠ 0 → at'.toInt = p + 1)
          refine ⟨⟨⟨fun y => by omega, fun y => absurd y (by decide)⟩, ⟨fun y => by omega, fun y => absurd y (by decide)⟩, ⟨fun y => by omega, fun y => absurd y (by decide)⟩, ⟨fun y => by omega, fun y => absurd y (by decide)⟩, fun y => absurd y (by decide), fun y => absurd y (by decide), fun _ o ho => ?_, x38 ⟨fun y => absurd y e1, fun y => absurd y (by decide)⟩, x40 ⟨fun y => absurd y e2, fun y => absurd y (by decide)⟩, nx (by decide) (by omega), nx (by decide) (by omega), nx (by decide) (by omega), nx (by decide) (by omega), nx (by decide) (by omega)⟩, fun q => absurd rfl q⟩
          rw [op o ho, z0]; rfl
/-- letters -/
theorem isW_tx {bs : List Int32} {m : Nat} {g : Nat → Int32} {e : Int} (hm : (m : Int) = e - p) (hg : ∀ j, j < m → (g j).toInt = B (p + (j : Int)) ∧ 97 ≤ (g j).toInt ∧ (g j).toInt ≤ 122) (hb : ∀ j, j < bs.length → chr bs j = (bs.getD j 0).toInt) : txE (m, g) bs ↔ isW bs B n p e = true := by
  rw [isW_iff]
  constructor
  · rintro ⟨h1, h2⟩
    have h1' : m = bs.length := h1
    refine ⟨by omega, fun j hj => ?_⟩
    rw [hb j hj, ← h2 j hj]
    exact (hg j (by omega)).1.symm
  · rintro ⟨h1, h2⟩
    refine ⟨show m = bs.length by omega, fun j hj => ?_⟩
    rw [← hb j hj, ← h2 j hj]
    exact (hg j (by omega)).1
theorem eq_41 : sb_41 = sb_0 := by decide
theorem ch_41 : ∀ j, j < sb_41.length → chr sb_41 j = (sb_41.getD j 0).toInt := fun j hj => by
  have T : ∀ j : Fin 2, chr sb_41 j.val = (sb_41.getD j.val 0).toInt := by decide +kernel
  have L : sb_41.length = 2 := by decide
  exact T ⟨j, by omega⟩
theorem eq_39 : sb_39 = sb_1 := by decide
theorem ch_39 : ∀ j, j < sb_39.length → chr sb_39 j = (sb_39.getD j 0).toInt := fun j hj => by
  have T : ∀ j : Fin 4, chr sb_39 j.val = (sb_39.getD j.val 0).toInt := by decide +kernel
  have L : sb_39.length = 4 := by decide
  exact T ⟨j, by omega⟩
theorem eq_45 : sb_45 = sb_2 := by decide
theorem ch_45 : ∀ j, j < sb_45.length → chr sb_45 j = (sb_45.getD j 0).toInt := fun j hj => by
  have T : ∀ j : Fin 2, chr sb_45 j.val = (sb_45.getD j.val 0).toInt := by decide +kernel
  have L : sb_45.length = 2 := by decide
  exact T ⟨j, by omega⟩
theorem eq_44 : sb_44 = sb_3 := by decide
theorem ch_44 : ∀ j, j < sb_44.length → chr sb_44 j = (sb_44.getD j 0).toInt := fun j hj => by
  have T : ∀ j : Fin 4, chr sb_44 j.val = (sb_44.getD j.val 0).toInt := by decide +kernel
  have L : sb_44.length = 4 := by decide
  exact T ⟨j, by omega⟩
theorem eq_46 : sb_46 = sb_4 := by decide
theorem ch_46 : ∀ j, j < sb_46.length → chr sb_46 j = (sb_46.getD j 0).toInt := fun j hj => by
  have T : ∀ j : Fin 3, chr sb_46 j.val = (sb_46.getD j.val 0).toInt := by decide +kernel
  have L : sb_46.length = 3 := by decide
  exact T ⟨j, by omega⟩
/-- two words at one place are one -/
theorem isW_u {a b : List Int32} {e : Int} {j : Nat} (h1 : isW a B n p e = true) (h2 : isW b B n p e = true) : a.length = b.length ∧ (j < a.length → chr a j = chr b j) := by
  obtain ⟨a1, a2⟩ := isW_iff.mp h1
  obtain ⟨b1, b2⟩ := isW_iff.mp h2
  exact ⟨by omega, fun hj => by rw [← a2 j hj, ← b2 j (by omega)]⟩
theorem wdK_v {e : Int} : (wdK B n p e = 8 ↔ isW sb_0 B n p e = true) ∧ (wdK B n p e = 9 ↔ isW sb_1 B n p e = true) ∧ (wdK B n p e = 10 ↔ isW sb_2 B n p e = true) ∧ (wdK B n p e = 11 ↔ isW sb_3 B n p e = true) ∧ (wdK B n p e = 12 ↔ isW sb_4 B n p e = true) := by
  have l0 : sb_0.length = 2 := by decide
  have l1 : sb_1.length = 4 := by decide
  have l2 : sb_2.length = 2 := by decide
  have l3 : sb_3.length = 4 := by decide
  have l4 : sb_4.length = 3 := by decide
  have k0 : chr sb_0 1 = 110 := by decide
  have k2 : chr sb_2 1 = 102 := by decide
  have k1 : chr sb_1 0 = 115 := by decide
  have k3 : chr sb_3 0 = 106 := by decide
  have n01 : isW sb_0 B n p e = true → isW sb_1 B n p e = true → False := fun a b => by have := (isW_u (j := 0) a b).1; omega
  have n02 : isW sb_0 B n p e = true → isW sb_2 B n p e = true → False := fun a b => by have := (isW_u (j := 1) a b).2 (by omega); omega
  have n03 : isW sb_0 B n p e = true → isW sb_3 B n p e = true → False := fun a b => by have := (isW_u (j := 0) a b).1; omega
  have n04 : isW sb_0 B n p e = true → isW sb_4 B n p e = true → False := fun a b => by have := (isW_u (j := 0) a b).1; omega
  have n12 : isW sb_1 B n p e = true → isW sb_2 B n p e = true → False := fun a b => by have := (isW_u (j := 0) a b).1; omega
  have n13 : isW sb_1 B n p e = true → isW sb_3 B n p e = true → False := fun a b => by have := (isW_u (j := 0) a b).2 (by omega); omega
  have n14 : isW sb_1 B n p e = true → isW sb_4 B n p e = true → False := fun a b => by have := (isW_u (j := 0) a b).1; omega
  have n23 : isW sb_2 B n p e = true → isW sb_3 B n p e = true → False := fun a b => by have := (isW_u (j := 0) a b).1; omega
  have n24 : isW sb_2 B n p e = true → isW sb_4 B n p e = true → False := fun a b => by have := (isW_u (j := 0) a b).1; omega
  have n34 : isW sb_3 B n p e = true → isW sb_4 B n p e = true → False := fun a b => by have := (isW_u (j := 0) a b).1; omega
  unfold wdK
  by_cases h0 : isW sb_0 B n p e = true
  · rw [if_pos h0]
    exact ⟨⟨fun _ => h0, fun _ => rfl⟩, ⟨fun z => absurd z (by decide), fun z => (n01 h0 z).elim⟩, ⟨fun z => absurd z (by decide), fun z => (n02 h0 z).elim⟩, ⟨fun z => absurd z (by decide), fun z => (n03 h0 z).elim⟩, ⟨fun z => absurd z (by decide), fun z => (n04 h0 z).elim⟩⟩
  rw [if_neg h0]
  by_cases h1 : isW sb_1 B n p e = true
  · rw [if_pos h1]
    exact ⟨⟨fun z => absurd z (by decide), fun z => absurd z h0⟩, ⟨fun _ => h1, fun _ => rfl⟩, ⟨fun z => absurd z (by decide), fun z => (n12 h1 z).elim⟩, ⟨fun z => absurd z (by decide), fun z => (n13 h1 z).elim⟩, ⟨fun z => absurd z (by decide), fun z => (n14 h1 z).elim⟩⟩
  rw [if_neg h1]
  by_cases h2 : isW sb_2 B n p e = true
  · rw [if_pos h2]
    exact ⟨⟨fun z => absurd z (by decide), fun z => absurd z h0⟩, ⟨fun z => absurd z (by decide), fun z => absurd z h1⟩, ⟨fun _ => h2, fun _ => rfl⟩, ⟨fun z => absurd z (by decide), fun z => (n23 h2 z).elim⟩, ⟨fun z => absurd z (by decide), fun z => (n24 h2 z).elim⟩⟩
  rw [if_neg h2]
  by_cases h3 : isW sb_3 B n p e = true
  · rw [if_pos h3]
    exact ⟨⟨fun z => absurd z (by decide), fun z => absurd z h0⟩, ⟨fun z => absurd z (by decide), fun z => absurd z h1⟩, ⟨fun z => absurd z (by decide), fun z => absurd z h2⟩, ⟨fun _ => h3, fun _ => rfl⟩, ⟨fun z => absurd z (by decide), fun z => (n34 h3 z).elim⟩⟩
  rw [if_neg h3]
  by_cases h4 : isW sb_4 B n p e = true
  · rw [if_pos h4]
    exact ⟨⟨fun z => absurd z (by decide), fun z => absurd z h0⟩, ⟨fun z => absurd z (by decide), fun z => absurd z h1⟩, ⟨fun z => absurd z (by decide), fun z => absurd z h2⟩, ⟨fun z => absurd z (by decide), fun z => absurd z h3⟩, ⟨fun _ => h4, fun _ => rfl⟩⟩
  rw [if_neg h4]
  exact ⟨⟨fun z => absurd z (by decide), fun z => absurd z h0⟩, ⟨fun z => absurd z (by decide), fun z => absurd z h1⟩, ⟨fun z => absurd z (by decide), fun z => absurd z h2⟩, ⟨fun z => absurd z (by decide), fun z => absurd z h3⟩, ⟨fun z => absurd z (by decide), fun z => absurd z h4⟩⟩
/-- a word of letters -/
theorem wd_tk {e : Int} {m : Nat} {g : Nat → Int32} (hm : (m : Int) = e - p) (hg : ∀ j, j < m → (g j).toInt = B (p + (j : Int)) ∧ 97 ≤ (g j).toInt ∧ (g j).toInt ≤ 122) (h : (kd.toInt = 1 ∧ xt = (m, g)) ∨ (kd.toInt = 6 ∧ ¬ isF (m, g))) : tkR kd va xt (wdK B n p e) 0 := by
  obtain ⟨w8, w9, w10, w11, w12⟩ := wdK_v (B := B) (n := n) (p := p) (e := e)
  have t41 := isW_tx (n := n) hm hg ch_41
  have t39 := isW_tx (n := n) hm hg ch_39
  have t45 := isW_tx (n := n) hm hg ch_45
  have t44 := isW_tx (n := n) hm hg ch_44
  have t46 := isW_tx (n := n) hm hg ch_46
  rw [eq_41, ← w8] at t41
  rw [eq_39, ← w9] at t39
  rw [eq_45, ← w10] at t45
  rw [eq_44, ← w11] at t44
  rw [eq_46, ← w12] at t46
  rw [← eq_41] at t41
  rw [← eq_39] at t39
  rw [← eq_45] at t45
  rw [← eq_44] at t44
  rw [← eq_46] at t46
  have w0 := wdK_no B n p e
  rcases h with ⟨h1, h2⟩ | ⟨h1, h2⟩
  · have nx : ∀ {bs : List Int32} {q : Prop}, ¬ q → bs.length = 1 → (bs.getD 0 0).toInt < 97 → isX kd xt bs q := fun {bs q} hq hb hc => by
      refine ⟨fun z => ?_, fun z => absurd z hq⟩
      have z1 := z.2.1
      have z2 := z.2.2 0 (by omega)
      rw [h2] at z1 z2
      have z3 : m = bs.length := z1
      have z4 := (hg 0 (by omega)).2.1
      have z5 : (g 0).toInt = (bs.getD 0 0).toInt := z2
      omega
    have yx : ∀ {bs : List Int32} {q : Prop}, (txE (m, g) bs ↔ q) → isX kd xt bs q := fun {bs q} hq => by
      unfold isX
      rw [h2, hq]
      exact ⟨fun z => z.2, fun z => ⟨Or.inr h1, z⟩⟩
    exact ⟨by omega, by omega, by omega, by omega, fun a b => by omega, fun z => by omega, fun z => by omega, nx (by omega) (by decide) (by decide), nx (by omega) (by decide) (by decide), yx t41, yx t39, yx t45, yx t44, yx t46⟩
  · have k0 : wdK B n p e = 0 := by
      have a1 : ¬ wdK B n p e = 8 := fun z => h2 (Or.inl (t41.mpr z))
      have a2 : ¬ wdK B n p e = 9 := fun z => h2 (Or.inr (Or.inl (t39.mpr z)))
      have a3 : ¬ wdK B n p e = 10 := fun z => h2 (Or.inr (Or.inr (Or.inl (t45.mpr z))))
      have a4 : ¬ wdK B n p e = 11 := fun z => h2 (Or.inr (Or.inr (Or.inr (Or.inl (t44.mpr z)))))
      have a5 : ¬ wdK B n p e = 12 := fun z => h2 (Or.inr (Or.inr (Or.inr (Or.inr (t46.mpr z)))))
      have b : wdK B n p e ≤ 12 := by
        unfold wdK
        split
        · omega
        · split
          · omega
          · split
            · omega
            · split
              · omega
              · split <;> omega
      omega
    rw [k0]
    exact tkR_o (by omega) (by omega) (Or.inl ⟨h1, rfl⟩)
theorem rkN_tk {s : Int × Int × Int} {at' : Int32} (h : rkN kd va s at') : tkR kd va xt s.1 s.2.1 ∧ (s.1 ≠ 0 → at'.toInt = s.2.2) := by
  obtain ⟨h1, h2⟩ := h
  refine ⟨?_, fun _ => h1⟩
  rcases h2 with ⟨a, b⟩ | ⟨a, b, c, d⟩
  · rw [a]; exact tkR_o (by omega) (by omega) (Or.inl ⟨b, rfl⟩)
  · exact tkR_o (by omega) (by omega) (Or.inr (Or.inr ⟨a, b, c, d⟩))
theorem nx_tr {a0_n : Int32} {a0_at : Int32} {a0_kind : Int32} {a0_value : Int32} {a0_t_v : Nat → Int32} {o1 : Int32} {o2 : Int32} {o3 : Int32} {o4 : Int32} {o5 : gTx} (hF : ∀ k, gB (a0_t_v k) (-128) 127) (h0 : 0 ≤ a0_at.toInt) (h1' : a0_at.toInt ≤ a0_n.toInt) (hn : a0_n.toInt ≤ 8192) (h : tr_RReader_next a0_n a0_at a0_kind a0_value a0_t_v o1 o2 o3 o4 o5) : o3.toInt = (skp (bA a0_t_v a0_n.toInt) a0_n.toInt a0_at.toInt 0) ∧ tkR o2 o4 o5 (sgn (bA a0_t_v a0_n.toInt) a0_n.toInt (skp (bA a0_t_v a0_n.toInt) a0_n.toInt a0_at.toInt 0) (decide (a0_kind.toInt = 2 ∨ a0_kind.toInt = 4))).1 (sgn (bA a0_t_v a0_n.toInt) a0_n.toInt (skp (bA a0_t_v a0_n.toInt) a0_n.toInt a0_at.toInt 0) (decide (a0_kind.toInt = 2 ∨ a0_kind.toInt = 4))).2.1 ∧ ((sgn (bA a0_t_v a0_n.toInt) a0_n.toInt (skp (bA a0_t_v a0_n.toInt) a0_n.toInt a0_at.toInt 0) (decide (a0_kind.toInt = 2 ∨ a0_kind.toInt = 4))).1 ≠ 0 → o1.toInt = (sgn (bA a0_t_v a0_n.toInt) a0_n.toInt (skp (bA a0_t_v a0_n.toInt) a0_n.toInt a0_at.toInt 0) (decide (a0_kind.toInt = 2 ∨ a0_kind.toInt = 4))).2.2) := by
  have hsk := skp_le (B := bA a0_t_v a0_n.toInt) (r := 0) h1'
  refine h (fun o1 o2 o3 o4 o5 => o3.toInt = (skp (bA a0_t_v a0_n.toInt) a0_n.toInt a0_at.toInt 0) ∧ tkR o2 o4 o5 (sgn (bA a0_t_v a0_n.toInt) a0_n.toInt (skp (bA a0_t_v a0_n.toInt) a0_n.toInt a0_at.toInt 0) (decide (a0_kind.toInt = 2 ∨ a0_kind.toInt = 4))).1 (sgn (bA a0_t_v a0_n.toInt) a0_n.toInt (skp (bA a0_t_v a0_n.toInt) a0_n.toInt a0_at.toInt 0) (decide (a0_kind.toInt = 2 ∨ a0_kind.toInt = 4))).2.1 ∧ ((sgn (bA a0_t_v a0_n.toInt) a0_n.toInt (skp (bA a0_t_v a0_n.toInt) a0_n.toInt a0_at.toInt 0) (decide (a0_kind.toInt = 2 ∨ a0_kind.toInt = 4))).1 ≠ 0 → o1.toInt = (sgn (bA a0_t_v a0_n.toInt) a0_n.toInt (skp (bA a0_t_v a0_n.toInt) a0_n.toInt a0_at.toInt 0) (decide (a0_kind.toInt = 2 ∨ a0_kind.toInt = 4))).2.2)) ?_ ?_ ?_ ?_ ?_ ?_ ?_ ?_ ?_ ?_ ?_ ?_ ?_
  · intro x1 x2 x3 x4 x5 x6 x7 x8 h1 h2 h3 h4 h5 h6 h7 h8 h9 h10 h11 h12 h13 h14
    have e1 := rs_tl h1 h0 h1'
    rw [e1]
    rw [e1] at hsk
    refine ⟨rfl, ?_⟩
    have hlt : x1.toInt < a0_n.toInt := by omega
    have q := rbe (n := a0_n) h3 h4 (by omega) hlt
    have q45 := q.1 45 (by decide) (by decide)
    have q118 := q.1 118 (by decide) (by decide)
    have q98 := q.1 98 (by decide) (by decide)
    have qd := q.2 48 57 (by decide) (by decide)
    have ql := q.2 97 122 (by decide) (by decide)
    have nm := bA_in (f := a0_t_v) (n := a0_n.toInt) (i := x1.toInt) (by omega) hlt
    have l7 := rlt_tr h7
    have d10 := rdg_tr h10
    have nomin : ¬ (bA a0_t_v a0_n.toInt x1.toInt = 45 ∧ (48 ≤ bA a0_t_v a0_n.toInt (x1.toInt + 1) ∧ bA a0_t_v a0_n.toInt (x1.toInt + 1) ≤ 57) ∧ ¬ (a0_kind.toInt = 2 ∨ a0_kind.toInt = 4)) := by
      rcases h5 with z1 | ⟨y1, z1, z2, z3⟩ | ⟨y1, y2, y3, z1, z2, z3, z4, z5, z6, z7, z8⟩ | ⟨y1, y2, y3, z1, z2, z3, z4, z5, z6, z7, z8, z9⟩ | ⟨y1, y2, y3, z1, z2, z3, z4, z5, z6, z7, z8, z9, z10⟩
      · omega
      · have ob := bA_out (f := a0_t_v) (n := a0_n.toInt) (i := x1.toInt + 1) (by omega)
        omega
      · have r := (rbe (n := a0_n) z4 z5 (by omega) z3).2 48 57 (by decide) (by decide)
        rw [z2] at r
        have dd := rdg_tr z7
        omega
      · have r := (rbe (n := a0_n) z4 z5 (by omega) z3).2 48 57 (by decide) (by decide)
        rw [z2] at r
        have dd := rdg_tr z7
        omega
      · have r := (rbe (n := a0_n) z4 z5 (by omega) z3).2 48 57 (by decide) (by decide)
        rw [z2] at r
        have dd := rdg_tr z7
        omega
    unfold sgn
    rw [if_neg (by omega), if_pos (by omega)]
    have k := rnum_tr (by omega) h14
    rw [px_0, if_neg (by decide), decide_eq_false (by decide)] at k
    exact rkN_tk k
  · intro x1 x2 x3 x4 x5 x6 x7 h1 h2 h3 h4 h5 h6 h7 h8 h9 h10 h11 h12 h13 h14
    have e1 := rs_tl h1 h0 h1'
    rw [e1]
    rw [e1] at hsk
    refine ⟨rfl, ?_⟩
    have hlt : x1.toInt < a0_n.toInt := by omega
    have q := rbe (n := a0_n) h3 h4 (by omega) hlt
    have q45 := q.1 45 (by decide) (by decide)
    have q118 := q.1 118 (by decide) (by decide)
    have q98 := q.1 98 (by decide) (by decide)
    have qd := q.2 48 57 (by decide) (by decide)
    have ql := q.2 97 122 (by decide) (by decide)
    have nm := bA_in (f := a0_t_v) (n := a0_n.toInt) (i := x1.toInt) (by omega) hlt
    have l7 := rlt_tr h7
    have d10 := rdg_tr h10
    have nomin : ¬ (bA a0_t_v a0_n.toInt x1.toInt = 45 ∧ (48 ≤ bA a0_t_v a0_n.toInt (x1.toInt + 1) ∧ bA a0_t_v a0_n.toInt (x1.toInt + 1) ≤ 57) ∧ ¬ (a0_kind.toInt = 2 ∨ a0_kind.toInt = 4)) := by
      rcases h5 with z1 | ⟨y1, z1, z2, z3⟩ | ⟨y1, y2, y3, z1, z2, z3, z4, z5, z6, z7, z8⟩ | ⟨y1, y2, y3, z1, z2, z3, z4, z5, z6, z7, z8, z9⟩ | ⟨y1, y2, y3, z1, z2, z3, z4, z5, z6, z7, z8, z9, z10⟩
      · omega
      · have ob := bA_out (f := a0_t_v) (n := a0_n.toInt) (i := x1.toInt + 1) (by omega)
        omega
      · have r := (rbe (n := a0_n) z4 z5 (by omega) z3).2 48 57 (by decide) (by decide)
        rw [z2] at r
        have dd := rdg_tr z7
        omega
      · have r := (rbe (n := a0_n) z4 z5 (by omega) z3).2 48 57 (by decide) (by decide)
        rw [z2] at r
        have dd := rdg_tr z7
        omega
      · have r := (rbe (n := a0_n) z4 z5 (by omega) z3).2 48 57 (by decide) (by decide)
        rw [z2] at r
        have dd := rdg_tr z7
        omega
    unfold sgn
    have w := sym_tr h3 h4 (by omega) hlt hn h14
    rw [if_neg (by omega), if_neg (by omega), if_neg (fun z => nomin ⟨z.1, z.2.1, of_decide_eq_false z.2.2⟩), if_neg (by omega), if_neg (by omega), if_neg (by omega)]
    exact sy_tk w
  · intro x1 x2 x3 x4 x5 x6 x7 h1 h2 h3 h4 h5 h6 h7 h8 h9 h10 h11
    have e1 := rs_tl h1 h0 h1'
    rw [e1]
    rw [e1] at hsk
    refine ⟨rfl, ?_⟩
    have hlt : x1.toInt < a0_n.toInt := by omega
    have q := rbe (n := a0_n) h3 h4 (by omega) hlt
    have q45 := q.1 45 (by decide) (by decide)
    have q118 := q.1 118 (by decide) (by decide)
    have q98 := q.1 98 (by decide) (by decide)
    have qd := q.2 48 57 (by decide) (by decide)
    have ql := q.2 97 122 (by decide) (by decide)
    have nm := bA_in (f := a0_t_v) (n := a0_n.toInt) (i := x1.toInt) (by omega) hlt
    have l7 := rlt_tr h7
    have nomin : ¬ (bA a0_t_v a0_n.toInt x1.toInt = 45 ∧ (48 ≤ bA a0_t_v a0_n.toInt (x1.toInt + 1) ∧ bA a0_t_v a0_n.toInt (x1.toInt + 1) ≤ 57) ∧ ¬ (a0_kind.toInt = 2 ∨ a0_kind.toInt = 4)) := by
      rcases h5 with z1 | ⟨y1, z1, z2, z3⟩ | ⟨y1, y2, y3, z1, z2, z3, z4, z5, z6, z7, z8⟩ | ⟨y1, y2, y3, z1, z2, z3, z4, z5, z6, z7, z8, z9⟩ | ⟨y1, y2, y3, z1, z2, z3, z4, z5, z6, z7, z8, z9, z10⟩
      · omega
      · have ob := bA_out (f := a0_t_v) (n := a0_n.toInt) (i := x1.toInt + 1) (by omega)
        omega
      · have r := (rbe (n := a0_n) z4 z5 (by omega) z3).2 48 57 (by decide) (by decide)
        rw [z2] at r
        have dd := rdg_tr z7
        omega
      · have r := (rbe (n := a0_n) z4 z5 (by omega) z3).2 48 57 (by decide) (by decide)
        rw [z2] at r
        have dd := rdg_tr z7
        omega
      · have r := (rbe (n := a0_n) z4 z5 (by omega) z3).2 48 57 (by decide) (by decide)
        rw [z2] at r
        have dd := rdg_tr z7
        omega
    unfold sgn
    have w := word_tr (by omega) hlt hn h11
    rw [if_neg (by omega), if_neg (by omega), if_neg (by omega)]
    rcases w with ⟨w1, w2, w3⟩ | ⟨w1, w2, g, m, w3, w4, w5⟩
    · by_cases v : bA a0_t_v a0_n.toInt x1.toInt = 118
      · rw [if_pos ⟨v, w1.2⟩]
        rw [if_pos v, if_pos v] at w3
        unfold naS
        rcases w3 with ⟨w3, w4⟩ | ⟨w3, w4, w5⟩
        · rw [if_neg (by omega)]
          exact ⟨tkR_o (by omega) (by omega) (Or.inl ⟨w4, rfl⟩), fun z => absurd rfl z⟩
        · rw [if_pos w3]
          exact ⟨tkR_o (by omega) (by omega) (Or.inr (Or.inr ⟨(show (2 : Int) ≤ 2 from by decide), (show (2 : Int) ≤ 4 from by decide), w4, w5⟩)), fun _ => w2⟩
      · rw [if_neg (fun z => v z.1), if_pos ⟨by omega, w1.2⟩]
        rw [if_neg v, if_neg v] at w3
        unfold naS
        rcases w3 with ⟨w3, w4⟩ | ⟨w3, w4, w5⟩
        · rw [if_neg (by omega)]
          exact ⟨tkR_o (by omega) (by omega) (Or.inl ⟨w4, rfl⟩), fun z => absurd rfl z⟩
        · rw [if_pos w3]
          exact ⟨tkR_o (by omega) (by omega) (Or.inr (Or.inr ⟨(show (2 : Int) ≤ 3 from by decide), (show (3 : Int) ≤ 4 from by decide), w4, w5⟩)), fun _ => w2⟩
    · rw [if_neg (fun z => w1 ⟨Or.inl z.1, z.2⟩), if_neg (fun z => w1 ⟨Or.inr z.1, z.2⟩), if_pos (by omega)]
      exact ⟨wd_tk w3 w4 w5, fun _ => w2⟩
  · intro x1 x2 x3 x4 x5 x6 x7 x8 x9 x10 x11 h1 h2 h3 h4 h5 h6 h7 h8 h9 h10 h11 h12 h13 h14 h15 h16 h17 h18 h19 h20 h21 h22 h23
    have e1 := rs_tl h1 h0 h1'
    rw [e1]
    rw [e1] at hsk
    refine ⟨rfl, ?_⟩
    have hlt : x1.toInt < a0_n.toInt := by omega
    have q := rbe (n := a0_n) h3 h4 (by omega) hlt
    have q45 := q.1 45 (by decide) (by decide)
    have q118 := q.1 118 (by decide) (by decide)
    have q98 := q.1 98 (by decide) (by decide)
    have qd := q.2 48 57 (by decide) (by decide)
    have ql := q.2 97 122 (by decide) (by decide)
    have nm := bA_in (f := a0_t_v) (n := a0_n.toInt) (i := x1.toInt) (by omega) hlt
    have l16 := rlt_tr h16
    have d11 := rdg_tr h11
    have d19 := rdg_tr h19
    have r := (rbe (n := a0_n) h8 h9 (by omega) h7).2 48 57 (by decide) (by decide)
    rw [h6] at r
    exfalso; omega
  · intro x1 x2 x3 x4 x5 x6 x7 x8 x9 x10 x11 h1 h2 h3 h4 h5 h6 h7 h8 h9 h10 h11 h12 h13 h14 h15 h16 h17 h18 h19 h20 h21 h22 h23
    have e1 := rs_tl h1 h0 h1'
    rw [e1]
    rw [e1] at hsk
    refine ⟨rfl, ?_⟩
    have hlt : x1.toInt < a0_n.toInt := by omega
    have q := rbe (n := a0_n) h3 h4 (by omega) hlt
    have q45 := q.1 45 (by decide) (by decide)
    have q118 := q.1 118 (by decide) (by decide)
    have q98 := q.1 98 (by decide) (by decide)
    have qd := q.2 48 57 (by decide) (by decide)
    have ql := q.2 97 122 (by decide) (by decide)
    have nm := bA_in (f := a0_t_v) (n := a0_n.toInt) (i := x1.toInt) (by omega) hlt
    have l16 := rlt_tr h16
    have d11 := rdg_tr h11
    have d19 := rdg_tr h19
    have r := (rbe (n := a0_n) h8 h9 (by omega) h7).2 48 57 (by decide) (by decide)
    rw [h6] at r
    unfold sgn
    rw [if_neg (by omega), if_neg (by omega), if_pos ⟨by omega, by omega, decide_eq_false (by omega)⟩]
    have k := rnum_tr (by omega) h23
    rw [px_1, if_pos (by decide), decide_eq_true (by decide)] at k
    exact rkN_tk k
  · intro x1 x2 x3 x4 x5 x6 x7 x8 x9 x10 h1 h2 h3 h4 h5 h6 h7 h8 h9 h10 h11 h12 h13 h14 h15 h16 h17 h18 h19 h20
    have e1 := rs_tl h1 h0 h1'
    rw [e1]
    rw [e1] at hsk
    refine ⟨rfl, ?_⟩
    have hlt : x1.toInt < a0_n.toInt := by omega
    have q := rbe (n := a0_n) h3 h4 (by omega) hlt
    have q45 := q.1 45 (by decide) (by decide)
    have q118 := q.1 118 (by decide) (by decide)
    have q98 := q.1 98 (by decide) (by decide)
    have qd := q.2 48 57 (by decide) (by decide)
    have ql := q.2 97 122 (by decide) (by decide)
    have nm := bA_in (f := a0_t_v) (n := a0_n.toInt) (i := x1.toInt) (by omega) hlt
    have l16 := rlt_tr h16
    have d11 := rdg_tr h11
    have r := (rbe (n := a0_n) h8 h9 (by omega) h7).2 48 57 (by decide) (by decide)
    rw [h6] at r
    exfalso; omega
  · intro x1 h1 h2
    have e1 := rs_tl h1 h0 h1'
    rw [e1]
    rw [e1] at hsk
    refine ⟨rfl, ?_⟩
    have q := bA_out (f := a0_t_v) (n := a0_n.toInt) (i := x1.toInt) (by omega)
    unfold sgn
    rw [if_pos q]
    exact ⟨tkR_o (by rw [px_0]; decide) (by rw [px_0]; decide) (Or.inr (Or.inl ⟨px_0, rfl⟩)), fun _ => rfl⟩
  · intro x1 x2 x3 x4 x5 x6 x7 x8 h1 h2 h3 h4 h5 h6 h7 h8 h9 h10 h11 h12 h13
    have e1 := rs_tl h1 h0 h1'
    rw [e1]
    rw [e1] at hsk
    refine ⟨rfl, ?_⟩
    have hlt : x1.toInt < a0_n.toInt := by omega
    have gx : gB x2 (-128) 127 := by rw [h3]; exact hF _
    have q := rbe (n := a0_n) h3 gx (by omega) hlt
    have q45 := q.1 45 (by decide) (by decide)
    have q118 := q.1 118 (by decide) (by decide)
    have q98 := q.1 98 (by decide) (by decide)
    have qd := q.2 48 57 (by decide) (by decide)
    have ql := q.2 97 122 (by decide) (by decide)
    have nm := bA_in (f := a0_t_v) (n := a0_n.toInt) (i := x1.toInt) (by omega) hlt
    have l6 := rlt_tr h6
    have d9 := rdg_tr h9
    have nomin : ¬ (bA a0_t_v a0_n.toInt x1.toInt = 45 ∧ (48 ≤ bA a0_t_v a0_n.toInt (x1.toInt + 1) ∧ bA a0_t_v a0_n.toInt (x1.toInt + 1) ≤ 57) ∧ ¬ (a0_kind.toInt = 2 ∨ a0_kind.toInt = 4)) := by
      rcases h4 with z1 | ⟨y1, z1, z2, z3⟩ | ⟨y1, y2, y3, z1, z2, z3, z4, z5, z6, z7, z8⟩ | ⟨y1, y2, y3, z1, z2, z3, z4, z5, z6, z7, z8, z9⟩ | ⟨y1, y2, y3, z1, z2, z3, z4, z5, z6, z7, z8, z9, z10⟩
      · omega
      · have ob := bA_out (f := a0_t_v) (n := a0_n.toInt) (i := x1.toInt + 1) (by omega)
        omega
      · have r := (rbe (n := a0_n) z4 z5 (by omega) z3).2 48 57 (by decide) (by decide)
        rw [z2] at r
        have dd := rdg_tr z7
        omega
      · have r := (rbe (n := a0_n) z4 z5 (by omega) z3).2 48 57 (by decide) (by decide)
        rw [z2] at r
        have dd := rdg_tr z7
        omega
      · have r := (rbe (n := a0_n) z4 z5 (by omega) z3).2 48 57 (by decide) (by decide)
        rw [z2] at r
        have dd := rdg_tr z7
        omega
    unfold sgn
    rw [if_neg (by omega), if_pos (by omega)]
    have k := rnum_tr (by omega) h13
    rw [px_0, if_neg (by decide), decide_eq_false (by decide)] at k
    exact rkN_tk k
  · intro x1 x2 x3 x4 x5 x6 x7 h1 h2 h3 h4 h5 h6 h7 h8 h9 h10 h11 h12 h13
    have e1 := rs_tl h1 h0 h1'
    rw [e1]
    rw [e1] at hsk
    refine ⟨rfl, ?_⟩
    have hlt : x1.toInt < a0_n.toInt := by omega
    have gx : gB x2 (-128) 127 := by rw [h3]; exact hF _
    have q := rbe (n := a0_n) h3 gx (by omega) hlt
    have q45 := q.1 45 (by decide) (by decide)
    have q118 := q.1 118 (by decide) (by decide)
    have q98 := q.1 98 (by decide) (by decide)
    have qd := q.2 48 57 (by decide) (by decide)
    have ql := q.2 97 122 (by decide) (by decide)
    have nm := bA_in (f := a0_t_v) (n := a0_n.toInt) (i := x1.toInt) (by omega) hlt
    have l6 := rlt_tr h6
    have d9 := rdg_tr h9
    have nomin : ¬ (bA a0_t_v a0_n.toInt x1.toInt = 45 ∧ (48 ≤ bA a0_t_v a0_n.toInt (x1.toInt + 1) ∧ bA a0_t_v a0_n.toInt (x1.toInt + 1) ≤ 57) ∧ ¬ (a0_kind.toInt = 2 ∨ a0_kind.toInt = 4)) := by
      rcases h4 with z1 | ⟨y1, z1, z2, z3⟩ | ⟨y1, y2, y3, z1, z2, z3, z4, z5, z6, z7, z8⟩ | ⟨y1, y2, y3, z1, z2, z3, z4, z5, z6, z7, z8, z9⟩ | ⟨y1, y2, y3, z1, z2, z3, z4, z5, z6, z7, z8, z9, z10⟩
      · omega
      · have ob := bA_out (f := a0_t_v) (n := a0_n.toInt) (i := x1.toInt + 1) (by omega)
        omega
      · have r := (rbe (n := a0_n) z4 z5 (by omega) z3).2 48 57 (by decide) (by decide)
        rw [z2] at r
        have dd := rdg_tr z7
        omega
      · have r := (rbe (n := a0_n) z4 z5 (by omega) z3).2 48 57 (by decide) (by decide)
        rw [z2] at r
        have dd := rdg_tr z7
        omega
      · have r := (rbe (n := a0_n) z4 z5 (by omega) z3).2 48 57 (by decide) (by decide)
        rw [z2] at r
        have dd := rdg_tr z7
        omega
    unfold sgn
    have w := sym_tr h3 gx (by omega) hlt hn h13
    rw [if_neg (by omega), if_neg (by omega), if_neg (fun z => nomin ⟨z.1, z.2.1, of_decide_eq_false z.2.2⟩), if_neg (by omega), if_neg (by omega), if_neg (by omega)]
    exact sy_tk w
  · intro x1 x2 x3 x4 x5 x6 x7 h1 h2 h3 h4 h5 h6 h7 h8 h9 h10
    have e1 := rs_tl h1 h0 h1'
    rw [e1]
    rw [e1] at hsk
    refine ⟨rfl, ?_⟩
    have hlt : x1.toInt < a0_n.toInt := by omega
    have gx : gB x2 (-128) 127 := by rw [h3]; exact hF _
    have q := rbe (n := a0_n) h3 gx (by omega) hlt
    have q45 := q.1 45 (by decide) (by decide)
    have q118 := q.1 118 (by decide) (by decide)
    have q98 := q.1 98 (by decide) (by decide)
    have qd := q.2 48 57 (by decide) (by decide)
    have ql := q.2 97 122 (by decide) (by decide)
    have nm := bA_in (f := a0_t_v) (n := a0_n.toInt) (i := x1.toInt) (by omega) hlt
    have l6 := rlt_tr h6
    have nomin : ¬ (bA a0_t_v a0_n.toInt x1.toInt = 45 ∧ (48 ≤ bA a0_t_v a0_n.toInt (x1.toInt + 1) ∧ bA a0_t_v a0_n.toInt (x1.toInt + 1) ≤ 57) ∧ ¬ (a0_kind.toInt = 2 ∨ a0_kind.toInt = 4)) := by
      rcases h4 with z1 | ⟨y1, z1, z2, z3⟩ | ⟨y1, y2, y3, z1, z2, z3, z4, z5, z6, z7, z8⟩ | ⟨y1, y2, y3, z1, z2, z3, z4, z5, z6, z7, z8, z9⟩ | ⟨y1, y2, y3, z1, z2, z3, z4, z5, z6, z7, z8, z9, z10⟩
      · omega
      · have ob := bA_out (f := a0_t_v) (n := a0_n.toInt) (i := x1.toInt + 1) (by omega)
        omega
      · have r := (rbe (n := a0_n) z4 z5 (by omega) z3).2 48 57 (by decide) (by decide)
        rw [z2] at r
        have dd := rdg_tr z7
        omega
      · have r := (rbe (n := a0_n) z4 z5 (by omega) z3).2 48 57 (by decide) (by decide)
        rw [z2] at r
        have dd := rdg_tr z7
        omega
      · have r := (rbe (n := a0_n) z4 z5 (by omega) z3).2 48 57 (by decide) (by decide)
        rw [z2] at r
        have dd := rdg_tr z7
        omega
    unfold sgn
    have w := word_tr (by omega) hlt hn h10
    rw [if_neg (by omega), if_neg (by omega), if_neg (by omega)]
    rcases w with ⟨w1, w2, w3⟩ | ⟨w1, w2, g, m, w3, w4, w5⟩
    · by_cases v : bA a0_t_v a0_n.toInt x1.toInt = 118
      · rw [if_pos ⟨v, w1.2⟩]
        rw [if_pos v, if_pos v] at w3
        unfold naS
        rcases w3 with ⟨w3, w4⟩ | ⟨w3, w4, w5⟩
        · rw [if_neg (by omega)]
          exact ⟨tkR_o (by omega) (by omega) (Or.inl ⟨w4, rfl⟩), fun z => absurd rfl z⟩
        · rw [if_pos w3]
          exact ⟨tkR_o (by omega) (by omega) (Or.inr (Or.inr ⟨(show (2 : Int) ≤ 2 from by decide), (show (2 : Int) ≤ 4 from by decide), w4, w5⟩)), fun _ => w2⟩
      · rw [if_neg (fun z => v z.1), if_pos ⟨by omega, w1.2⟩]
        rw [if_neg v, if_neg v] at w3
        unfold naS
        rcases w3 with ⟨w3, w4⟩ | ⟨w3, w4, w5⟩
        · rw [if_neg (by omega)]
          exact ⟨tkR_o (by omega) (by omega) (Or.inl ⟨w4, rfl⟩), fun z => absurd rfl z⟩
        · rw [if_pos w3]
          exact ⟨tkR_o (by omega) (by omega) (Or.inr (Or.inr ⟨(show (2 : Int) ≤ 3 from by decide), (show (3 : Int) ≤ 4 from by decide), w4, w5⟩)), fun _ => w2⟩
    · rw [if_neg (fun z => w1 ⟨Or.inl z.1, z.2⟩), if_neg (fun z => w1 ⟨Or.inr z.1, z.2⟩), if_pos (by omega)]
      exact ⟨wd_tk w3 w4 w5, fun _ => w2⟩
  · intro x1 x2 x3 x4 x5 x6 x7 x8 x9 x10 x11 h1 h2 h3 h4 h5 h6 h7 h8 h9 h10 h11 h12 h13 h14 h15 h16 h17 h18 h19 h20 h21 h22
    have e1 := rs_tl h1 h0 h1'
    rw [e1]
    rw [e1] at hsk
    refine ⟨rfl, ?_⟩
    have hlt : x1.toInt < a0_n.toInt := by omega
    have gx : gB x2 (-128) 127 := by rw [h3]; exact hF _
    have q := rbe (n := a0_n) h3 gx (by omega) hlt
    have q45 := q.1 45 (by decide) (by decide)
    have q118 := q.1 118 (by decide) (by decide)
    have q98 := q.1 98 (by decide) (by decide)
    have qd := q.2 48 57 (by decide) (by decide)
    have ql := q.2 97 122 (by decide) (by decide)
    have nm := bA_in (f := a0_t_v) (n := a0_n.toInt) (i := x1.toInt) (by omega) hlt
    have l15 := rlt_tr h15
    have d10 := rdg_tr h10
    have d18 := rdg_tr h18
    have r := (rbe (n := a0_n) h7 h8 (by omega) h6).2 48 57 (by decide) (by decide)
    rw [h5] at r
    exfalso; omega
  · intro x1 x2 x3 x4 x5 x6 x7 x8 x9 x10 x11 h1 h2 h3 h4 h5 h6 h7 h8 h9 h10 h11 h12 h13 h14 h15 h16 h17 h18 h19 h20 h21 h22
    have e1 := rs_tl h1 h0 h1'
    rw [e1]
    rw [e1] at hsk
    refine ⟨rfl, ?_⟩
    have hlt : x1.toInt < a0_n.toInt := by omega
    have gx : gB x2 (-128) 127 := by rw [h3]; exact hF _
    have q := rbe (n := a0_n) h3 gx (by omega) hlt
    have q45 := q.1 45 (by decide) (by decide)
    have q118 := q.1 118 (by decide) (by decide)
    have q98 := q.1 98 (by decide) (by decide)
    have qd := q.2 48 57 (by decide) (by decide)
    have ql := q.2 97 122 (by decide) (by decide)
    have nm := bA_in (f := a0_t_v) (n := a0_n.toInt) (i := x1.toInt) (by omega) hlt
    have l15 := rlt_tr h15
    have d10 := rdg_tr h10
    have d18 := rdg_tr h18
    have r := (rbe (n := a0_n) h7 h8 (by omega) h6).2 48 57 (by decide) (by decide)
    rw [h5] at r
    unfold sgn
    rw [if_neg (by omega), if_neg (by omega), if_pos ⟨by omega, by omega, decide_eq_false (by omega)⟩]
    have k := rnum_tr (by omega) h22
    rw [px_1, if_pos (by decide), decide_eq_true (by decide)] at k
    exact rkN_tk k
  · intro x1 x2 x3 x4 x5 x6 x7 x8 x9 x10 h1 h2 h3 h4 h5 h6 h7 h8 h9 h10 h11 h12 h13 h14 h15 h16 h17 h18 h19
    have e1 := rs_tl h1 h0 h1'
    rw [e1]
    rw [e1] at hsk
    refine ⟨rfl, ?_⟩
    have hlt : x1.toInt < a0_n.toInt := by omega
    have gx : gB x2 (-128) 127 := by rw [h3]; exact hF _
    have q := rbe (n := a0_n) h3 gx (by omega) hlt
    have q45 := q.1 45 (by decide) (by decide)
    have q118 := q.1 118 (by decide) (by decide)
    have q98 := q.1 98 (by decide) (by decide)
    have qd := q.2 48 57 (by decide) (by decide)
    have ql := q.2 97 122 (by decide) (by decide)
    have nm := bA_in (f := a0_t_v) (n := a0_n.toInt) (i := x1.toInt) (by omega) hlt
    have l15 := rlt_tr h15
    have d10 := rdg_tr h10
    have r := (rbe (n := a0_n) h7 h8 (by omega) h6).2 48 57 (by decide) (by decide)
    rw [h5] at r
    exfalso; omega
end RSX
end
