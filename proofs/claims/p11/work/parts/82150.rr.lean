section RRS
variable {n i x : Int32} {f : Nat → Int32}
theorem px_255 (hb : gB x (-128) 127) : (x &&& 255).toInt = if 0 ≤ x.toInt then x.toInt else x.toInt + 256 := by
  have h1 : (x &&& 255).toBitVec.toNat = x.toBitVec.toNat % 256 := by
    have e : (x &&& 255).toBitVec.toNat = x.toBitVec.toNat &&& 255 := rfl
    rw [e, show (255 : Nat) = 2 ^ 8 - 1 by decide, Nat.and_two_pow_sub_one_eq_mod]
  have h3 : x.toInt = if 2 * x.toBitVec.toNat < 2 ^ 32 then (x.toBitVec.toNat : Int) else (x.toBitVec.toNat : Int) - (2 ^ 32 : Nat) := BitVec.toInt_eq_toNat_cond x.toBitVec
  have h5 := x.toBitVec.isLt
  have h6 := gI_ofNat h1 (by omega)
  have b1 := hb.1
  have b2 := hb.2
  rw [h6]
  split at h3 <;> split <;> omega
theorem rb (hx : x = f i.toNatClampNeg) (hb : gB x (-128) 127) (h0 : 0 ≤ i.toInt) (h1 : i.toInt < n.toInt) : bA f n.toInt i.toInt = if 0 ≤ x.toInt then x.toInt else x.toInt + 256 := by
  unfold bA
  rw [if_pos ⟨h0, h1⟩]
  have e : i.toInt.toNat = i.toNatClampNeg := rfl
  rw [e, ← hx]
  exact px_255 hb
theorem rbe (hx : x = f i.toNatClampNeg) (hb : gB x (-128) 127) (h0 : 0 ≤ i.toInt) (h1 : i.toInt < n.toInt) : (∀ c : Int, 0 ≤ c → c ≤ 127 → (x.toInt = c ↔ bA f n.toInt i.toInt = c)) ∧ (∀ c d : Int, 0 ≤ c → d ≤ 127 → ((c ≤ x.toInt ∧ x.toInt ≤ d) ↔ (c ≤ bA f n.toInt i.toInt ∧ bA f n.toInt i.toInt ≤ d))) := by
  have q := rb hx hb h0 h1
  have b1 := hb.1
  have b2 := hb.2
  constructor
  · intro c c1 c2
    split at q <;> omega
  · intro c d c1 c2
    split at q <;> omega
theorem rdg_tr {c r : Int32} (h : tr_RReader_isDigit2 c r) : (r.toInt = 1 ∧ 48 ≤ c.toInt ∧ c.toInt ≤ 57) ∨ (r.toInt = 0 ∧ ¬ (48 ≤ c.toInt ∧ c.toInt ≤ 57)) := by
  refine h (fun r => (r.toInt = 1 ∧ 48 ≤ c.toInt ∧ c.toInt ≤ 57) ∨ (r.toInt = 0 ∧ ¬ (48 ≤ c.toInt ∧ c.toInt ≤ 57))) ?_ ?_ ?_
  · intro h1
    exact Or.inr ⟨px_0, by omega⟩
  · intro h1 h2
    exact Or.inr ⟨px_0, by omega⟩
  · intro h1 h2
    exact Or.inl ⟨px_1, h1, h2⟩
theorem rlt_tr {c r : Int32} (h : tr_RReader_isLetter2 c r) : (r.toInt = 1 ∧ 97 ≤ c.toInt ∧ c.toInt ≤ 122) ∨ (r.toInt = 0 ∧ ¬ (97 ≤ c.toInt ∧ c.toInt ≤ 122)) := by
  refine h (fun r => (r.toInt = 1 ∧ 97 ≤ c.toInt ∧ c.toInt ≤ 122) ∨ (r.toInt = 0 ∧ ¬ (97 ≤ c.toInt ∧ c.toInt ≤ 122))) ?_ ?_ ?_
  · intro h1
    exact Or.inr ⟨px_0, by omega⟩
  · intro h1 h2
    exact Or.inr ⟨px_0, by omega⟩
  · intro h1 h2
    exact Or.inl ⟨px_1, h1, h2⟩
theorem rmn_tr {a b r : Int64} (h : tr_RMath_min a b r) : r.toInt = if a.toInt ≤ b.toInt then a.toInt else b.toInt := by
  refine h (fun r => r.toInt = if a.toInt ≤ b.toInt then a.toInt else b.toInt) ?_ ?_
  · intro x1 h1 h2
    have q := px_cgt h1 h2
    show b.toInt = _
    rw [if_neg (by omega)]
  · intro x1 h1 h2
    have q := px_cle h1 h2
    show a.toInt = _
    rw [if_pos q]
theorem rn_tl {a0_n : Int32} {a0_t_v : Nat → Int32} {s1 : Int64} {s2 : Int32} {k : Nat} {e1 : Int64} {e2 : Int32} (h : tl_RReader_number_16 a0_n a0_t_v s1 s2 k e1 e2) : 0 ≤ s2.toInt → 0 ≤ s1.toInt → s1.toInt ≤ 1099511627776 → dgs (bA a0_t_v a0_n.toInt) a0_n.toInt s2.toInt s1.toInt = (e1.toInt, e2.toInt) ∧ 0 ≤ e1.toInt ∧ e1.toInt ≤ 1099511627776 := by
  refine h (fun s1 s2 _ e1 e2 => 0 ≤ s2.toInt → 0 ≤ s1.toInt → s1.toInt ≤ 1099511627776 → dgs (bA a0_t_v a0_n.toInt) a0_n.toInt s2.toInt s1.toInt = (e1.toInt, e2.toInt) ∧ 0 ≤ e1.toInt ∧ e1.toInt ≤ 1099511627776) ?_ ?_ ?_
  · intro l2_1 a0_at_1 h1 h2
    try dsimp only at *
    intro h0 v0 v1
    refine ⟨?_, v0, v1⟩
    rw [dgs, if_neg (by omega)]
  · intro l2_1 a0_at_1 x1 x2 h1 h2 h3 h4 h5 h6 h7
    try dsimp only at *
    intro h0 v0 v1
    have q1 := rbe (n := a0_n) h3 h4 h0 h2
    have q2 := rdg_tr h6
    have q3 := q1.2 48 57 (by decide) (by decide)
    refine ⟨?_, v0, v1⟩
    rw [dgs, if_neg (by omega)]
  · intro l2_1 a0_at_1 x1 x2 x3 x4 x5 x6 x7 x8 k e1 e2 h1 h2 h3 h4 h5 h6 h7 h8 h9 h10 h11 h12 h13 ih
    try dsimp only at *
    intro h0 v0 v1
    have q1 := rbe (n := a0_n) h3 h4 h0 h2
    have q2 := rdg_tr h6
    have q3 := q1.2 48 57 (by decide) (by decide)
    have hd : 48 ≤ x1.toInt ∧ x1.toInt ≤ 57 := by omega
    have q4 := rb (n := a0_n) h3 h4 h0 h2
    rw [if_pos (by omega)] at q4
    have c10 : (10 : Int64).toInt = 10 := by decide
    have c48 : (48 : Int64).toInt = 48 := by decide
    have cM : (1099511627776 : Int64).toInt = 1099511627776 := by decide
    have lb : 0 ≤ l2_1.toInt ∧ l2_1.toInt ≤ 1099511627776 := by exact ⟨v0, v1⟩
    have p1 : x3.toInt = l2_1.toInt * 10 := by rw [h8, Int64.toInt_mul, c10]; exact px_64 (by omega) (by omega)
    have p2 : x4.toInt = x1.toInt := by rw [h9]; exact Int32.toInt_toInt64 x1
    have p3 : x5.toInt = x3.toInt + x4.toInt := by rw [h10, Int64.toInt_add]; exact px_64 (by omega) (by omega)
    have p4 : x6.toInt = x5.toInt - 48 := by rw [h11, Int64.toInt_sub, c48]; exact px_64 (by omega) (by omega)
    have q5 := rmn_tr h12
    rw [cM] at q5
    have cc : a0_at_1.toInt < a0_n.toInt ∧ 48 ≤ bA a0_t_v a0_n.toInt a0_at_1.toInt ∧ bA a0_t_v a0_n.toInt a0_at_1.toInt ≤ 57 := by omega
    have p5 : x7.toInt = if l2_1.toInt * 10 + bA a0_t_v a0_n.toInt a0_at_1.toInt - 48 ≤ 1099511627776 then l2_1.toInt * 10 + bA a0_t_v a0_n.toInt a0_at_1.toInt - 48 else 1099511627776 := by
      rw [q5, p4, p3, p2, p1, q4]
    have p6 : 0 ≤ x7.toInt ∧ x7.toInt ≤ 1099511627776 := by rw [q5]; split <;> omega
    obtain ⟨r1, r2, r3⟩ := ih (by omega) p6.1 p6.2
    refine ⟨?_, r2, r3⟩
    rw [dgs, if_pos cc, ← p5, ← h13]
    exact r1
theorem rn_tl2 {a0_n : Int32} {a0_t_v : Nat → Int32} {s1 : Int64} {s2 : Int32} {k : Nat} {e1 : Int64} {e2 : Int32} (h : tl_RReader_number_16_2 a0_n a0_t_v s1 s2 k e1 e2) : 0 ≤ s2.toInt → 0 ≤ s1.toInt → s1.toInt ≤ 1099511627776 → dgs (bA a0_t_v a0_n.toInt) a0_n.toInt s2.toInt s1.toInt = (e1.toInt, e2.toInt) ∧ 0 ≤ e1.toInt ∧ e1.toInt ≤ 1099511627776 := by
  refine h (fun s1 s2 _ e1 e2 => 0 ≤ s2.toInt → 0 ≤ s1.toInt → s1.toInt ≤ 1099511627776 → dgs (bA a0_t_v a0_n.toInt) a0_n.toInt s2.toInt s1.toInt = (e1.toInt, e2.toInt) ∧ 0 ≤ e1.toInt ∧ e1.toInt ≤ 1099511627776) ?_ ?_ ?_
  · intro l2_1 a0_at_1 h1 h2
    try dsimp only at *
    intro h0 v0 v1
    refine ⟨?_, v0, v1⟩
    rw [dgs, if_neg (by omega)]
  · intro l2_1 a0_at_1 x1 x2 h1 h2 h3 h4 h5 h6 h7
    try dsimp only at *
    intro h0 v0 v1
    have q1 := rbe (n := a0_n) h3 h4 h0 h2
    have q2 := rdg_tr h6
    have q3 := q1.2 48 57 (by decide) (by decide)
    refine ⟨?_, v0, v1⟩
    rw [dgs, if_neg (by omega)]
  · intro l2_1 a0_at_1 x1 x2 x3 x4 x5 x6 x7 x8 k e1 e2 h1 h2 h3 h4 h5 h6 h7 h8 h9 h10 h11 h12 h13 ih
    try dsimp only at *
    intro h0 v0 v1
    have q1 := rbe (n := a0_n) h3 h4 h0 h2
    have q2 := rdg_tr h6
    have q3 := q1.2 48 57 (by decide) (by decide)
    have hd : 48 ≤ x1.toInt ∧ x1.toInt ≤ 57 := by omega
    have q4 := rb (n := a0_n) h3 h4 h0 h2
    rw [if_pos (by omega)] at q4
    have c10 : (10 : Int64).toInt = 10 := by decide
    have c48 : (48 : Int64).toInt = 48 := by decide
    have cM : (1099511627776 : Int64).toInt = 1099511627776 := by decide
    have lb : 0 ≤ l2_1.toInt ∧ l2_1.toInt ≤ 1099511627776 := by exact ⟨v0, v1⟩
    have p1 : x3.toInt = l2_1.toInt * 10 := by rw [h8, Int64.toInt_mul, c10]; exact px_64 (by omega) (by omega)
    have p2 : x4.toInt = x1.toInt := by rw [h9]; exact Int32.toInt_toInt64 x1
    have p3 : x5.toInt = x3.toInt + x4.toInt := by rw [h10, Int64.toInt_add]; exact px_64 (by omega) (by omega)
    have p4 : x6.toInt = x5.toInt - 48 := by rw [h11, Int64.toInt_sub, c48]; exact px_64 (by omega) (by omega)
    have q5 := rmn_tr h12
    rw [cM] at q5
    have cc : a0_at_1.toInt < a0_n.toInt ∧ 48 ≤ bA a0_t_v a0_n.toInt a0_at_1.toInt ∧ bA a0_t_v a0_n.toInt a0_at_1.toInt ≤ 57 := by omega
    have p5 : x7.toInt = if l2_1.toInt * 10 + bA a0_t_v a0_n.toInt a0_at_1.toInt - 48 ≤ 1099511627776 then l2_1.toInt * 10 + bA a0_t_v a0_n.toInt a0_at_1.toInt - 48 else 1099511627776 := by
      rw [q5, p4, p3, p2, p1, q4]
    have p6 : 0 ≤ x7.toInt ∧ x7.toInt ≤ 1099511627776 := by rw [q5]; split <;> omega
    obtain ⟨r1, r2, r3⟩ := ih (by omega) p6.1 p6.2
    refine ⟨?_, r2, r3⟩
    rw [dgs, if_pos cc, ← p5, ← h13]
    exact r1
theorem rw_tl {a0_n : Int32} {a0_t_v : Nat → Int32} {s1 : Int64} {s2 : Int32} {k : Nat} {e1 : Int64} {e2 : Int32} (h : tl_RReader_word_70 a0_n a0_t_v s1 s2 k e1 e2) : 0 ≤ s2.toInt → ∀ w : Int, 0 ≤ w → w ≤ 1099511627776 → s1.toInt = (if w ≤ 1000000 then w else 1000000) → (dgs (bA a0_t_v a0_n.toInt) a0_n.toInt s2.toInt w).2 = e2.toInt ∧ e1.toInt = (if (dgs (bA a0_t_v a0_n.toInt) a0_n.toInt s2.toInt w).1 ≤ 1000000 then (dgs (bA a0_t_v a0_n.toInt) a0_n.toInt s2.toInt w).1 else 1000000) := by
  refine h (fun s1 s2 _ e1 e2 => 0 ≤ s2.toInt → ∀ w : Int, 0 ≤ w → w ≤ 1099511627776 → s1.toInt = (if w ≤ 1000000 then w else 1000000) → (dgs (bA a0_t_v a0_n.toInt) a0_n.toInt s2.toInt w).2 = e2.toInt ∧ e1.toInt = (if (dgs (bA a0_t_v a0_n.toInt) a0_n.toInt s2.toInt w).1 ≤ 1000000 then (dgs (bA a0_t_v a0_n.toInt) a0_n.toInt s2.toInt w).1 else 1000000)) ?_ ?_ ?_
  · intro l2_1 a0_at_1 h1 h2
    try dsimp only at *
    intro h0 w w0 w1 hw
    rw [dgs, if_neg (by omega)]
    exact ⟨rfl, hw⟩
  · intro l2_1 a0_at_1 x1 x2 h1 h2 h3 h4 h5 h6 h7
    try dsimp only at *
    intro h0 w w0 w1 hw
    have q1 := rbe (n := a0_n) h3 h4 h0 h2
    have q2 := rdg_tr h6
    have q3 := q1.2 48 57 (by decide) (by decide)
    rw [dgs, if_neg (by omega)]
    exact ⟨rfl, hw⟩
  · intro l2_1 a0_at_1 x1 x2 x3 x4 x5 x6 x7 x8 k e1 e2 h1 h2 h3 h4 h5 h6 h7 h8 h9 h10 h11 h12 h13 ih
    try dsimp only at *
    intro h0 w w0 w1 hw
    have q1 := rbe (n := a0_n) h3 h4 h0 h2
    have q2 := rdg_tr h6
    have q3 := q1.2 48 57 (by decide) (by decide)
    have hd : 48 ≤ x1.toInt ∧ x1.toInt ≤ 57 := by omega
    have q4 := rb (n := a0_n) h3 h4 h0 h2
    rw [if_pos (by omega)] at q4
    have c10 : (10 : Int64).toInt = 10 := by decide
    have c48 : (48 : Int64).toInt = 48 := by decide
    have cM : (1000000 : Int64).toInt = 1000000 := by decide
    have lb : 0 ≤ l2_1.toInt ∧ l2_1.toInt ≤ 1099511627776 := by rw [hw]; split <;> omega
    have p1 : x3.toInt = l2_1.toInt * 10 := by rw [h8, Int64.toInt_mul, c10]; exact px_64 (by omega) (by omega)
    have p2 : x4.toInt = x1.toInt := by rw [h9]; exact Int32.toInt_toInt64 x1
    have p3 : x5.toInt = x3.toInt + x4.toInt := by rw [h10, Int64.toInt_add]; exact px_64 (by omega) (by omega)
    have p4 : x6.toInt = x5.toInt - 48 := by rw [h11, Int64.toInt_sub, c48]; exact px_64 (by omega) (by omega)
    have q5 := rmn_tr h12
    rw [cM] at q5
    have cc : a0_at_1.toInt < a0_n.toInt ∧ 48 ≤ bA a0_t_v a0_n.toInt a0_at_1.toInt ∧ bA a0_t_v a0_n.toInt a0_at_1.toInt ≤ 57 := by omega
    rw [dgs, if_pos cc, ← h13]
    refine ih (by omega) _ (by split <;> omega) (by split <;> omega) ?_
    rw [q5, p4, p3, p2, p1, hw, q4]
    split <;> split <;> split <;> (try split) <;> omega
theorem rw_tl2 {a0_n : Int32} {a0_t_v : Nat → Int32} {s1 : Int64} {s2 : Int32} {k : Nat} {e1 : Int64} {e2 : Int32} (h : tl_RReader_word_70_2 a0_n a0_t_v s1 s2 k e1 e2) : 0 ≤ s2.toInt → ∀ w : Int, 0 ≤ w → w ≤ 1099511627776 → s1.toInt = (if w ≤ 1000000 then w else 1000000) → (dgs (bA a0_t_v a0_n.toInt) a0_n.toInt s2.toInt w).2 = e2.toInt ∧ e1.toInt = (if (dgs (bA a0_t_v a0_n.toInt) a0_n.toInt s2.toInt w).1 ≤ 1000000 then (dgs (bA a0_t_v a0_n.toInt) a0_n.toInt s2.toInt w).1 else 1000000) := by
  refine h (fun s1 s2 _ e1 e2 => 0 ≤ s2.toInt → ∀ w : Int, 0 ≤ w → w ≤ 1099511627776 → s1.toInt = (if w ≤ 1000000 then w else 1000000) → (dgs (bA a0_t_v a0_n.toInt) a0_n.toInt s2.toInt w).2 = e2.toInt ∧ e1.toInt = (if (dgs (bA a0_t_v a0_n.toInt) a0_n.toInt s2.toInt w).1 ≤ 1000000 then (dgs (bA a0_t_v a0_n.toInt) a0_n.toInt s2.toInt w).1 else 1000000)) ?_ ?_ ?_
  · intro l2_1 a0_at_1 h1 h2
    try dsimp only at *
    intro h0 w w0 w1 hw
    rw [dgs, if_neg (by omega)]
    exact ⟨rfl, hw⟩
  · intro l2_1 a0_at_1 x1 x2 h1 h2 h3 h4 h5 h6 h7
    try dsimp only at *
    intro h0 w w0 w1 hw
    have q1 := rbe (n := a0_n) h3 h4 h0 h2
    have q2 := rdg_tr h6
    have q3 := q1.2 48 57 (by decide) (by decide)
    rw [dgs, if_neg (by omega)]
    exact ⟨rfl, hw⟩
  · intro l2_1 a0_at_1 x1 x2 x3 x4 x5 x6 x7 x8 k e1 e2 h1 h2 h3 h4 h5 h6 h7 h8 h9 h10 h11 h12 h13 ih
    try dsimp only at *
    intro h0 w w0 w1 hw
    have q1 := rbe (n := a0_n) h3 h4 h0 h2
    have q2 := rdg_tr h6
    have q3 := q1.2 48 57 (by decide) (by decide)
    have hd : 48 ≤ x1.toInt ∧ x1.toInt ≤ 57 := by omega
    have q4 := rb (n := a0_n) h3 h4 h0 h2
    rw [if_pos (by omega)] at q4
    have c10 : (10 : Int64).toInt = 10 := by decide
    have c48 : (48 : Int64).toInt = 48 := by decide
    have cM : (1000000 : Int64).toInt = 1000000 := by decide
    have lb : 0 ≤ l2_1.toInt ∧ l2_1.toInt ≤ 1099511627776 := by rw [hw]; split <;> omega
    have p1 : x3.toInt = l2_1.toInt * 10 := by rw [h8, Int64.toInt_mul, c10]; exact px_64 (by omega) (by omega)
    have p2 : x4.toInt = x1.toInt := by rw [h9]; exact Int32.toInt_toInt64 x1
    have p3 : x5.toInt = x3.toInt + x4.toInt := by rw [h10, Int64.toInt_add]; exact px_64 (by omega) (by omega)
    have p4 : x6.toInt = x5.toInt - 48 := by rw [h11, Int64.toInt_sub, c48]; exact px_64 (by omega) (by omega)
    have q5 := rmn_tr h12
    rw [cM] at q5
    have cc : a0_at_1.toInt < a0_n.toInt ∧ 48 ≤ bA a0_t_v a0_n.toInt a0_at_1.toInt ∧ bA a0_t_v a0_n.toInt a0_at_1.toInt ≤ 57 := by omega
    rw [dgs, if_pos cc, ← h13]
    refine ih (by omega) _ (by split <;> omega) (by split <;> omega) ?_
    rw [q5, p4, p3, p2, p1, hw, q4]
    split <;> split <;> split <;> (try split) <;> omega
/-- kinds of signs: the reference's and the machine's, of numbers and names -/
def rkN (kd va : Int32) (s : Int × Int × Int) (at' : Int32) : Prop := at'.toInt = s.2.2 ∧ ((s.1 = 0 ∧ kd.toInt = 6) ∨ (2 ≤ s.1 ∧ s.1 ≤ 4 ∧ kd.toInt = s.1 ∧ va.toInt = s.2.1))
theorem rnum_tr {a1 : Int32} {a0_n : Int32} {a0_at : Int32} {a0_t_v : Nat → Int32} {o1 : Int32} {o2 : Int32} {o3 : Int32} {o4 : gTx} (hp : 0 ≤ a0_at.toInt) (h : tr_RReader_number a1 a0_n a0_at a0_t_v o1 o2 o3 o4) : rkN o2 o3 (nuS (decide (a1.toInt ≠ 0)) (dgs (bA a0_t_v a0_n.toInt) a0_n.toInt (if a1.toInt ≠ 0 then a0_at.toInt + 1 else a0_at.toInt) 0)) o1 := by
  refine h (fun o1 o2 o3 _ => rkN o2 o3 (nuS (decide (a1.toInt ≠ 0)) (dgs (bA a0_t_v a0_n.toInt) a0_n.toInt (if a1.toInt ≠ 0 then a0_at.toInt + 1 else a0_at.toInt) 0)) o1) ?_ ?_ ?_ ?_
  · intro x1 x2 x3 x4 x5 h1 h2 h3 h4 h5 h6
    try dsimp only at *
    obtain ⟨d1, d2, d3⟩ := rn_tl h2 hp (by decide) (by decide)
    rw [show Int64.toInt 0 = 0 by decide] at d1
    have t1 := px_rt h3 (show x5 = x3.toInt64 by rw [h5, h4, h3])
    rw [if_neg (by omega), decide_eq_false (by omega), d1]
    unfold rkN nuS
    rw [if_neg (fun z => h6 (Int64.toInt_inj.mp ?_))]
    · exact ⟨rfl, Or.inl ⟨rfl, by decide⟩⟩
    · rw [t1.2, t1.1]
      simp only [if_true, if_false, Bool.false_eq_true, reduceIte] at z
      exact (gM_of z.1 z.2).symm
  · intro x1 x2 x3 x4 x5 h1 h2 h3 h4 h5 h6
    try dsimp only at *
    obtain ⟨d1, d2, d3⟩ := rn_tl h2 hp (by decide) (by decide)
    rw [show Int64.toInt 0 = 0 by decide] at d1
    have t1 := px_rt h3 (show x5 = x3.toInt64 by rw [h5, h4, h3])
    rw [if_neg (by omega), decide_eq_false (by omega), d1]
    unfold rkN nuS
    have e5 : x3.toInt = x1.toInt := by rw [← t1.2, ← h6]
    have b1 := Int32.le_toInt x3
    have b2 := Int32.toInt_lt x3
    rw [if_pos (by simp only [if_true, if_false, Bool.false_eq_true, reduceIte]; omega)]
    exact ⟨rfl, Or.inr ⟨by show (2 : Int) ≤ 4; decide, by show (4 : Int) ≤ 4; decide, by show Int32.toInt 4 = 4; decide, by rw [e5]; rfl⟩⟩
  · intro x1 x2 x3 x4 x5 x6 x7 h1 h2 h3 h4 h5 h6 h7 h8
    try dsimp only at *
    obtain ⟨d1, d2, d3⟩ := rn_tl2 h3 (by omega) (by decide) (by decide)
    rw [show Int64.toInt 0 = 0 by decide, h2] at d1
    have t1 := px_rt h5 (show x7 = x5.toInt64 by rw [h7, h6, h5])
    have e4 : x4.toInt = -x2.toInt := by rw [h4, Int64.toInt_neg]; exact px_64 (by omega) (by omega)
    rw [if_pos (by omega), decide_eq_true (by omega), d1]
    unfold rkN nuS
    rw [if_neg (fun z => h8 (Int64.toInt_inj.mp ?_))]
    · exact ⟨rfl, Or.inl ⟨rfl, by decide⟩⟩
    · rw [t1.2, t1.1, e4]
      simp only [if_true, if_false, Bool.false_eq_true, reduceIte] at z
      exact (gM_of z.1 z.2).symm
  · intro x1 x2 x3 x4 x5 x6 x7 h1 h2 h3 h4 h5 h6 h7 h8
    try dsimp only at *
    obtain ⟨d1, d2, d3⟩ := rn_tl2 h3 (by omega) (by decide) (by decide)
    rw [show Int64.toInt 0 = 0 by decide, h2] at d1
    have t1 := px_rt h5 (show x7 = x5.toInt64 by rw [h7, h6, h5])
    have e4 : x4.toInt = -x2.toInt := by rw [h4, Int64.toInt_neg]; exact px_64 (by omega) (by omega)
    rw [if_pos (by omega), decide_eq_true (by omega), d1]
    unfold rkN nuS
    have e5 : x5.toInt = -x2.toInt := by rw [← t1.2, ← h8]; exact e4
    have b1 := Int32.le_toInt x5
    have b2 := Int32.toInt_lt x5
    rw [if_pos (by simp only [if_true, if_false, Bool.false_eq_true, reduceIte]; omega)]
    exact ⟨rfl, Or.inr ⟨by show (2 : Int) ≤ 4; decide, by show (4 : Int) ≤ 4; decide, by show Int32.toInt 4 = 4; decide, by rw [e5]; rfl⟩⟩
theorem rs1_tl {a0_n : Int32} {a0_t_v : Nat → Int32} {s1 : Int32} {k : Nat} {e1 : Int32} (h : tl_RReader_next_35 a0_n a0_t_v s1 k e1) : 0 ≤ s1.toInt → s1.toInt ≤ a0_n.toInt → skp (bA a0_t_v a0_n.toInt) a0_n.toInt s1.toInt 1 = skp (bA a0_t_v a0_n.toInt) a0_n.toInt e1.toInt 0 ∧ s1.toInt ≤ e1.toInt ∧ e1.toInt ≤ a0_n.toInt := by
  refine h (fun s1 _ e1 => 0 ≤ s1.toInt → s1.toInt ≤ a0_n.toInt → skp (bA a0_t_v a0_n.toInt) a0_n.toInt s1.toInt 1 = skp (bA a0_t_v a0_n.toInt) a0_n.toInt e1.toInt 0 ∧ s1.toInt ≤ e1.toInt ∧ e1.toInt ≤ a0_n.toInt) ?_ ?_ ?_
  · intro a0_at_2 h1 h2
    try dsimp only at *
    intro h0 h0n
    refine ⟨?_, Int.le_refl _, h0n⟩
    rw [skp, if_neg (by omega), skp, if_neg (by omega)]
  · intro a0_at_2 x1 h1 h2 h3 h4 h5
    try dsimp only at *
    intro h0 h0n
    have q1 := (rbe (n := a0_n) h3 h4 h0 h2).1 10 (by decide) (by decide)
    refine ⟨?_, Int.le_refl _, h0n⟩
    have e1 : skp (bA a0_t_v a0_n.toInt) a0_n.toInt a0_at_2.toInt 1 = skp (bA a0_t_v a0_n.toInt) a0_n.toInt (a0_at_2.toInt + 1) 0 := by rw [skp, if_pos h2, if_pos (by omega)]
    have e2 : skp (bA a0_t_v a0_n.toInt) a0_n.toInt a0_at_2.toInt 0 = skp (bA a0_t_v a0_n.toInt) a0_n.toInt (a0_at_2.toInt + 1) 0 := by rw [skp, if_pos h2, if_pos (by omega)]
    exact e1.trans e2.symm
  · intro a0_at_2 x1 x2 k e1 h1 h2 h3 h4 h5 h6 ih
    try dsimp only at *
    intro h0 h0n
    have q1 := (rbe (n := a0_n) h3 h4 h0 h2).1 10 (by decide) (by decide)
    obtain ⟨r1, r2, r3⟩ := ih (by omega) (by omega)
    refine ⟨?_, by omega, r3⟩
    rw [skp, if_pos h2, if_neg (by omega), if_pos (Or.inl (by decide)), ← h6]
    exact r1
theorem rs_tl {a0_n : Int32} {a0_t_v : Nat → Int32} {s1 : Int32} {k : Nat} {e1 : Int32} (h : tl_RReader_next_8 a0_n a0_t_v s1 k e1) : 0 ≤ s1.toInt → s1.toInt ≤ a0_n.toInt → skp (bA a0_t_v a0_n.toInt) a0_n.toInt s1.toInt 0 = e1.toInt := by
  refine h (fun s1 _ e1 => 0 ≤ s1.toInt → s1.toInt ≤ a0_n.toInt → skp (bA a0_t_v a0_n.toInt) a0_n.toInt s1.toInt 0 = e1.toInt) ?_ ?_ ?_ ?_ ?_ ?_ ?_
  · intro a0_at_1 h1 h2
    try dsimp only at *
    intro h0 h0n
    rw [skp, if_neg (by omega)]; omega
  · intro a0_at_1 x1 x2 k e1 h1 h2 h3 h4 h5 h6 h7 ih
    try dsimp only at *
    intro h0 h0n
    have q := (rbe (n := a0_n) h3 h4 h0 h2).1
    have q59 := q 59 (by decide) (by decide)
    have q9 := q 9 (by decide) (by decide)
    have q10 := q 10 (by decide) (by decide)
    have q13 := q 13 (by decide) (by decide)
    have q32 := q 32 (by decide) (by decide)
    rw [skp, if_pos h2, if_neg (by omega), if_neg (by omega), if_pos (by omega), ← h7]
    exact ih (by omega) (by omega)
  · intro a0_at_1 x1 x2 k e1 h1 h2 h3 h4 h5 h6 h7 h8 ih
    try dsimp only at *
    intro h0 h0n
    have q := (rbe (n := a0_n) h3 h4 h0 h2).1
    have q59 := q 59 (by decide) (by decide)
    have q9 := q 9 (by decide) (by decide)
    have q10 := q 10 (by decide) (by decide)
    have q13 := q 13 (by decide) (by decide)
    have q32 := q 32 (by decide) (by decide)
    rw [skp, if_pos h2, if_pos (by omega), ← h8]
    exact ih (by omega) (by omega)
  · intro a0_at_1 x1 x2 k e1 h1 h2 h3 h4 h5 h6 h7 h8 h9 ih
    try dsimp only at *
    intro h0 h0n
    have q := (rbe (n := a0_n) h3 h4 h0 h2).1
    have q59 := q 59 (by decide) (by decide)
    have q9 := q 9 (by decide) (by decide)
    have q10 := q 10 (by decide) (by decide)
    have q13 := q 13 (by decide) (by decide)
    have q32 := q 32 (by decide) (by decide)
    rw [skp, if_pos h2, if_neg (by omega), if_neg (by omega), if_pos (by omega), ← h9]
    exact ih (by omega) (by omega)
  · intro a0_at_1 x1 h1 h2 h3 h4 h5 h6 h7 h8 h9
    try dsimp only at *
    intro h0 h0n
    have q := (rbe (n := a0_n) h3 h4 h0 h2).1
    have q59 := q 59 (by decide) (by decide)
    have q9 := q 9 (by decide) (by decide)
    have q10 := q 10 (by decide) (by decide)
    have q13 := q 13 (by decide) (by decide)
    have q32 := q 32 (by decide) (by decide)
    rw [skp, if_pos h2, if_neg (by omega), if_neg (by omega), if_neg (by omega)]
  · intro a0_at_1 x1 x2 k e1 h1 h2 h3 h4 h5 h6 h7 h8 h9 h10 ih
    try dsimp only at *
    intro h0 h0n
    have q := (rbe (n := a0_n) h3 h4 h0 h2).1
    have q59 := q 59 (by decide) (by decide)
    have q9 := q 9 (by decide) (by decide)
    have q10 := q 10 (by decide) (by decide)
    have q13 := q 13 (by decide) (by decide)
    have q32 := q 32 (by decide) (by decide)
    rw [skp, if_pos h2, if_neg (by omega), if_neg (by omega), if_pos (by omega), ← h10]
    exact ih (by omega) (by omega)
  · intro a0_at_1 x1 x2 k e1 h1 h2 h3 h4 h5 h6 ih
    try dsimp only at *
    intro h0 h0n
    have q := (rbe (n := a0_n) h3 h4 h0 h2).1
    have q59 := q 59 (by decide) (by decide)
    have q9 := q 9 (by decide) (by decide)
    have q10 := q 10 (by decide) (by decide)
    have q13 := q 13 (by decide) (by decide)
    have q32 := q 32 (by decide) (by decide)
    obtain ⟨r1, r2, r3⟩ := rs1_tl h6 h0 h0n
    rw [← ih (by omega) r3, ← r1]
    rw [skp, if_pos h2, if_neg (by omega), if_pos (Or.inr (by omega))]
    conv => rhs; rw [skp, if_pos h2, if_neg (by omega), if_pos (Or.inl (by decide))]
end RRS
