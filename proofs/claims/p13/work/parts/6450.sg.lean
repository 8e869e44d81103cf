/-- the byte at i, or -1 -/
def bA (f : Nat → Int32) (n i : Int) : Int := if 0 ≤ i ∧ i < n then ((f i.toNat) &&& 255).toInt else -1
theorem bA_in {f : Nat → Int32} {n i : Int} (h0 : 0 ≤ i) (h1 : i < n) : 0 ≤ bA f n i ∧ bA f n i ≤ 255 := by
  unfold bA; rw [if_pos ⟨h0, h1⟩]
  exact gB_and (z := (f i.toNat) &&& 255) rfl (gBl (show Int32.toInt 255 = 255 by decide)) (by decide)
theorem bA_out {f : Nat → Int32} {n i : Int} (h : ¬ (0 ≤ i ∧ i < n)) : bA f n i = -1 := by unfold bA; rw [if_neg h]
theorem bA_m1 {f : Nat → Int32} {n i : Int} (h : bA f n i = -1) : ¬ (0 ≤ i ∧ i < n) := fun z => by have := bA_in (f := f) z.1 z.2; omega
theorem px_0 : Int32.toInt 0 = 0 := by decide
theorem px_1 : Int32.toInt 1 = 1 := by decide
theorem px_m1 : Int32.toInt (-1) = -1 := by decide
theorem px_2 : Int32.toInt 2 = 2 := by decide
theorem px_3 : Int32.toInt 3 = 3 := by decide
theorem px_4 : Int32.toInt 4 = 4 := by decide
theorem px_5 : Int32.toInt 5 = 5 := by decide
theorem px_6 : Int32.toInt 6 = 6 := by decide
theorem px_7 : Int32.toInt 7 = 7 := by decide
theorem px_8 : Int32.toInt 8 = 8 := by decide
theorem px_9 : Int32.toInt 9 = 9 := by decide
theorem px_10 : Int32.toInt 10 = 10 := by decide
theorem px_11 : Int32.toInt 11 = 11 := by decide
theorem px_12 : Int32.toInt 12 = 12 := by decide
theorem px_13 : Int32.toInt 13 = 13 := by decide
theorem px_14 : Int32.toInt 14 = 14 := by decide
theorem px_15 : Int32.toInt 15 = 15 := by decide
theorem px_16 : Int32.toInt 16 = 16 := by decide
theorem px_17 : Int32.toInt 17 = 17 := by decide
theorem px_18 : Int32.toInt 18 = 18 := by decide
theorem px_19 : Int32.toInt 19 = 19 := by decide
theorem px_20 : Int32.toInt 20 = 20 := by decide
theorem px_21 : Int32.toInt 21 = 21 := by decide
theorem px_add {x y z : Int32} (h : z = x + y) (h1 : -2147483648 ≤ x.toInt + y.toInt) (h2 : x.toInt + y.toInt ≤ 2147483647) : z.toInt = x.toInt + y.toInt := by
  rw [h, Int32.toInt_add]; exact gM_of h1 h2
theorem px_sub {x y z : Int32} (h : z = x - y) (h1 : -2147483648 ≤ x.toInt - y.toInt) (h2 : x.toInt - y.toInt ≤ 2147483647) : z.toInt = x.toInt - y.toInt := by
  rw [h, Int32.toInt_sub]; exact gM_of h1 h2
theorem px_64 {x : Int} (h1 : -9223372036854775808 ≤ x) (h2 : x ≤ 9223372036854775807) : x.bmod (2 ^ 64) = x := by
  rw [Int.bmod_def]; split <;> omega
theorem px_cle {a b : Int64} {z : Int32} (h : z = lg_cmp a b) (hz : z.toInt ≤ 0) : a.toInt ≤ b.toInt := by
  unfold lg_cmp at h
  by_cases hg : a > b
  · rw [if_pos hg] at h; subst h; exact absurd hz (by decide)
  · have : ¬ b.toInt < a.toInt := fun e => hg (Int64.lt_iff_toInt_lt.mpr e)
    omega
theorem px_cgt {a b : Int64} {z : Int32} (h : z = lg_cmp a b) (hz : 0 < z.toInt) : b.toInt < a.toInt := by
  unfold lg_cmp at h
  by_cases hg : a > b
  · exact Int64.lt_iff_toInt_lt.mp hg
  · rw [if_neg hg] at h
    by_cases he : a = b
    · rw [if_pos he] at h; subst h; exact absurd hz (by decide)
    · rw [if_neg he] at h; subst h; exact absurd hz (by decide)
theorem px_clt {a b : Int64} {z : Int32} (h : z = lg_cmp a b) (hz : z.toInt < 0) : a.toInt < b.toInt := by
  have h1 := px_cle h (by omega)
  have h2 : ¬ a.toInt = b.toInt := fun e => by
    have e2 := Int64.toInt_inj.mp e
    subst e2
    unfold lg_cmp at h
    rw [if_neg (fun q => by have := Int64.lt_iff_toInt_lt.mp q; omega), if_pos rfl] at h
    subst h; exact absurd hz (by decide)
  omega
theorem px_cge {a b : Int64} {z : Int32} (h : z = lg_cmp a b) (hz : 0 ≤ z.toInt) : b.toInt ≤ a.toInt := by
  unfold lg_cmp at h
  by_cases hg : a > b
  · have := Int64.lt_iff_toInt_lt.mp hg; omega
  · rw [if_neg hg] at h
    by_cases he : a = b
    · rw [he]; omega
    · rw [if_neg he] at h; subst h; exact absurd hz (by decide)
theorem bA_tr {a n r : Int32} {f : Nat → Int32} (h : tr_Tape_byteAt a n f r) : r.toInt = bA f n.toInt a.toInt := by
  refine h (fun r => r.toInt = bA f n.toInt a.toInt) ?_ ?_ ?_
  · intro h1
    exact px_m1.trans (bA_out (by omega)).symm
  · intro h1 h2
    exact px_m1.trans (bA_out (by omega)).symm
  · intro x1 x2 h1 h2 h3 h4 h5
    show x2.toInt = _
    unfold bA; rw [if_pos ⟨h1, h2⟩, h5, h3]; rfl
theorem dg_tr {c r : Int32} (h : tr_Signs_isDigit c r) : (r.toInt = 1 ∧ 48 ≤ c.toInt ∧ c.toInt ≤ 57) ∨ (r.toInt = 0 ∧ ¬ (48 ≤ c.toInt ∧ c.toInt ≤ 57)) := by
  refine h (fun r => (r.toInt = 1 ∧ 48 ≤ c.toInt ∧ c.toInt ≤ 57) ∨ (r.toInt = 0 ∧ ¬ (48 ≤ c.toInt ∧ c.toInt ≤ 57))) ?_ ?_ ?_
  · intro h1
    exact Or.inr ⟨px_0, by omega⟩
  · intro h1 h2
    exact Or.inr ⟨px_0, by omega⟩
  · intro h1 h2
    exact Or.inl ⟨px_1, h1, h2⟩
theorem lt_tr {c r : Int32} (h : tr_Signs_isLetter c r) : (r.toInt = 1 ∧ 97 ≤ c.toInt ∧ c.toInt ≤ 122) ∨ (r.toInt = 0 ∧ ¬ (97 ≤ c.toInt ∧ c.toInt ≤ 122)) := by
  refine h (fun r => (r.toInt = 1 ∧ 97 ≤ c.toInt ∧ c.toInt ≤ 122) ∨ (r.toInt = 0 ∧ ¬ (97 ≤ c.toInt ∧ c.toInt ≤ 122))) ?_ ?_ ?_
  · intro h1
    exact Or.inr ⟨px_0, by omega⟩
  · intro h1 h2
    exact Or.inr ⟨px_0, by omega⟩
  · intro h1 h2
    exact Or.inl ⟨px_1, h1, h2⟩
/-- the first place from i on that is no blank and in no remark -/
def skp (B : Int → Int) (n i r : Int) : Int :=
  if i < n then
    if B i = 10 then skp B n (i + 1) 0
    else if r ≠ 0 ∨ B i = 59 then skp B n (i + 1) 1
    else if B i = 9 ∨ B i = 13 ∨ B i = 32 then skp B n (i + 1) 0
    else i
  else n
termination_by (n - i).toNat
decreasing_by all_goals omega
theorem skp_tl {n : Int32} {f : Nat → Int32} {i l e : Int32} {k : Nat} (h : tl_Signs_skipBlanks_4 n f i l k e) : skp (bA f n.toInt) n.toInt i.toInt l.toInt = if k = 81 then e.toInt else n.toInt := by
  refine h (fun i l k e => skp (bA f n.toInt) n.toInt i.toInt l.toInt = if k = 81 then e.toInt else n.toInt) ?_ ?_ ?_ ?_ ?_ ?_ ?_ ?_ ?_
  · intro l3_1 l2_1 h1 h2
    try dsimp only at *
    rw [skp, if_neg (by omega)]; rfl
  · intro l3_1 l2_1 x1 x2 k e1 h1 h2 h3 h4 h5 h6 ih
    try dsimp only at *
    have q4 := bA_tr h4
    rw [px_0] at ih
    rw [skp, if_pos h2, ← q4, if_pos h5, ← h6]
    exact ih
  · intro l3_1 l2_1 x1 x2 k e1 h1 h2 h3 h4 h5 h6 h7 ih
    try dsimp only at *
    have q4 := bA_tr h4
    rw [px_1] at ih
    rw [skp, if_pos h2, ← q4, if_neg h5, if_pos (Or.inl h6), ← h7]
    exact ih
  · intro l3_1 l2_1 x1 x2 k e1 h1 h2 h3 h4 h5 h6 h7 h8 h9 ih
    try dsimp only at *
    have q4 := bA_tr h4
    rw [px_0] at ih
    rw [skp, if_pos h2, ← q4, if_neg h5, if_neg (by omega), if_pos (Or.inl h8), ← h9]
    exact ih
  · intro l3_1 l2_1 x1 x2 k e1 h1 h2 h3 h4 h5 h6 h7 h8 h9 h10 ih
    try dsimp only at *
    have q4 := bA_tr h4
    exact absurd h9 h5
  · intro l3_1 l2_1 x1 x2 k e1 h1 h2 h3 h4 h5 h6 h7 h8 h9 h10 h11 ih
    try dsimp only at *
    have q4 := bA_tr h4
    rw [px_0] at ih
    rw [skp, if_pos h2, ← q4, if_neg h5, if_neg (by omega), if_pos (Or.inr (Or.inl h10)), ← h11]
    exact ih
  · intro l3_1 l2_1 x1 x2 k e1 h1 h2 h3 h4 h5 h6 h7 h8 h9 h10 h11 h12 ih
    try dsimp only at *
    have q4 := bA_tr h4
    rw [px_0] at ih
    rw [skp, if_pos h2, ← q4, if_neg h5, if_neg (by omega), if_pos (Or.inr (Or.inr h11)), ← h12]
    exact ih
  · intro l3_1 l2_1 x1 h1 h2 h3 h4 h5 h6 h7 h8 h9 h10 h11
    try dsimp only at *
    have q4 := bA_tr h4
    rw [skp, if_pos h2, ← q4, if_neg h5, if_neg (by omega), if_neg (by omega)]; rfl
  · intro l3_1 l2_1 x1 x2 k e1 h1 h2 h3 h4 h5 h6 h7 h8 ih
    try dsimp only at *
    have q4 := bA_tr h4
    rw [px_1] at ih
    rw [skp, if_pos h2, ← q4, if_neg h5, if_pos (Or.inr h7), ← h8]
    exact ih
theorem skp_tr {a n r : Int32} {f : Nat → Int32} (h : tr_Signs_skipBlanks a n f r) : r.toInt = skp (bA f n.toInt) n.toInt a.toInt 0 := by
  refine h (fun r => r.toInt = skp (bA f n.toInt) n.toInt a.toInt 0) ?_ ?_
  · intro h1
    have q1 := skp_tl h1
    rw [px_0] at q1
    exact q1.symm
  · intro x1 h1
    have q1 := skp_tl h1
    rw [px_0] at q1
    exact q1.symm
/-- digits from i on: their value (at most 2 ^ 40), the place behind them -/
def dgs (B : Int → Int) (n i v : Int) : Int × Int :=
  if i < n ∧ 48 ≤ B i ∧ B i ≤ 57 then dgs B n (i + 1) (if v * 10 + B i - 48 ≤ 1099511627776 then v * 10 + B i - 48 else 1099511627776) else (v, i)
termination_by (n - i).toNat
decreasing_by omega
theorem mn_tr {a b r : Int64} (h : tr_Math_min a b r) : r.toInt = if a.toInt ≤ b.toInt then a.toInt else b.toInt := by
  refine h (fun r => r.toInt = if a.toInt ≤ b.toInt then a.toInt else b.toInt) ?_ ?_
  · intro x1 h1 h2
    have q := px_cgt h1 h2
    show b.toInt = _
    rw [if_neg (by omega)]
  · intro x1 h1 h2
    have q := px_cle h1 h2
    show a.toInt = _
    rw [if_pos q]
theorem dgs_tl {n : Int32} {f : Nat → Int32} {i : Int32} {v : Int64} {k : Nat} {e : Int32} {w : Int64} (h : tl_Signs_takeDigits_5 n f i v k e w) : 0 ≤ v.toInt → v.toInt ≤ 1099511627776 → dgs (bA f n.toInt) n.toInt i.toInt v.toInt = (w.toInt, e.toInt) ∧ 0 ≤ w.toInt ∧ w.toInt ≤ 1099511627776 ∧ i.toInt ≤ e.toInt := by
  refine h (fun i v k e w => 0 ≤ v.toInt → v.toInt ≤ 1099511627776 → dgs (bA f n.toInt) n.toInt i.toInt v.toInt = (w.toInt, e.toInt) ∧ 0 ≤ w.toInt ∧ w.toInt ≤ 1099511627776 ∧ i.toInt ≤ e.toInt) ?_ ?_ ?_
  · intro l4_1 l2_1 h1
    try dsimp only at *
    intro v0 v1
    refine ⟨?_, v0, v1, Int.le_refl _⟩
    rw [dgs, if_neg (by omega)]
  · intro l4_1 l2_1 x1 x2 h1 h2 h3 h4 h5 h6
    try dsimp only at *
    have q3 := bA_tr h3
    have q5 := dg_tr h5
    intro v0 v1
    refine ⟨?_, v0, v1, Int.le_refl _⟩
    rw [dgs, if_neg (by rw [← q3]; omega)]
  · intro l4_1 l2_1 x1 x2 x3 x4 x5 x6 x7 x8 x9 k e1 e2 h1 h2 h3 h4 h5 h6 h7 h8 h9 h10 h11 h12 h13 h14 ih
    try dsimp only at *
    have q3 := bA_tr h3
    have q5 := dg_tr h5
    have q9 := bA_tr h9
    have q13 := mn_tr h13
    intro v0 v1
    have c10 : (10 : Int64).toInt = 10 := by decide
    have c48 : (48 : Int64).toInt = 48 := by decide
    have cM : (1099511627776 : Int64).toInt = 1099511627776 := by decide
    have p1 : x3.toInt = l2_1.toInt * 10 := by rw [h7, Int64.toInt_mul, c10]; exact px_64 (by omega) (by omega)
    have p2 : x5.toInt = x4.toInt := by rw [h10]; exact Int32.toInt_toInt64 x4
    have b4 := h8.1
    have b5 := h8.2
    have p3 : x6.toInt = x3.toInt + x5.toInt := by rw [h11, Int64.toInt_add]; exact px_64 (by omega) (by omega)
    have p4 : x7.toInt = x6.toInt - 48 := by rw [h12, Int64.toInt_sub, c48]; exact px_64 (by omega) (by omega)
    rw [cM] at q13
    have hd : 48 ≤ x1.toInt ∧ x1.toInt ≤ 57 := by omega
    have e14 : x4.toInt = x1.toInt := q9.trans q3.symm
    have p5 : x8.toInt = if l2_1.toInt * 10 + bA f n.toInt l4_1.toInt - 48 ≤ 1099511627776 then l2_1.toInt * 10 + bA f n.toInt l4_1.toInt - 48 else 1099511627776 := by
      rw [q13, p4, p3, p2, p1, ← q9]
    have p6 : 0 ≤ x8.toInt ∧ x8.toInt ≤ 1099511627776 := by rw [q13]; split <;> omega
    obtain ⟨r1, r2, r3, r4⟩ := ih p6.1 p6.2
    refine ⟨?_, r2, r3, by omega⟩
    rw [dgs, if_pos ⟨h1, by rw [← q3]; exact hd.1, by rw [← q3]; exact hd.2⟩, ← p5, ← h14]
    exact r1
theorem dgs_tr {a n e : Int32} {f : Nat → Int32} {w : Int64} (h : tr_Signs_takeDigits a n f w e) : dgs (bA f n.toInt) n.toInt a.toInt 0 = (w.toInt, e.toInt) ∧ 0 ≤ w.toInt ∧ w.toInt ≤ 1099511627776 ∧ a.toInt ≤ e.toInt := by
  refine h (fun w e => dgs (bA f n.toInt) n.toInt a.toInt 0 = (w.toInt, e.toInt) ∧ 0 ≤ w.toInt ∧ w.toInt ≤ 1099511627776 ∧ a.toInt ≤ e.toInt) ?_
  · intro x1 x2 h1
    have q1 := dgs_tl h1
    exact q1 (by decide) (by decide)
/-- a number's digits: kind, value, place behind -/
def nuS (m : Bool) (d : Int × Int) : Int × Int × Int := if -2147483648 ≤ (if m then -d.1 else d.1) ∧ (if m then -d.1 else d.1) ≤ 2147483647 then (4, if m then -d.1 else d.1, d.2) else (0, 0, d.2)
def naS (k lim : Int) (d : Int × Int) : Int × Int × Int := if d.1 < lim then (k, d.1, d.2) else (0, 0, d.2)
theorem px_rt {x y : Int64} {z : Int32} (h1 : z = x.toInt32) (h2 : y = z.toInt64) : z.toInt = x.toInt.bmod (2 ^ 32) ∧ y.toInt = z.toInt := ⟨by rw [h1, Int64.toInt_toInt32], by rw [h2]; exact Int32.toInt_toInt64 z⟩
/-- what a sign tells: kind, place behind, and the value of an operand or operation -/
def sgE (k v e : Int32) (s : Int × Int × Int) : Prop := k.toInt = s.1 ∧ e.toInt = s.2.2 ∧ (2 ≤ k.toInt → k.toInt ≤ 5 → v.toInt = s.2.1)
theorem nuS_in {m : Bool} {w : Int64} {k v e : Int32} {d : Int × Int} {x : Int} (hd : d = (w.toInt, e.toInt)) (hx : x = if m then -d.1 else d.1) (hv : v.toInt = x) (hk : k.toInt = 4) : sgE k v e (nuS m d) := by
  have b1 := Int32.le_toInt v
  have b2 := Int32.toInt_lt v
  unfold nuS sgE
  rw [← hx, if_pos ⟨by omega, by omega⟩]
  exact ⟨hk, by rw [hd], fun _ _ => hv⟩
theorem nuS_out {m : Bool} {w : Int64} {k v e : Int32} {d : Int × Int} {x : Int} (hd : d = (w.toInt, e.toInt)) (hx : x = if m then -d.1 else d.1) (ho : ¬ (-2147483648 ≤ x ∧ x ≤ 2147483647)) (hk : k.toInt = 0) : sgE k v e (nuS m d) := by
  unfold nuS sgE
  rw [← hx, if_neg ho]
  exact ⟨hk, by rw [hd], fun z _ => by omega⟩
theorem num_tr {m p n k v e : Int32} {f : Nat → Int32} (hp : 0 ≤ p.toInt) (hp2 : p.toInt ≤ 8192) (h : tr_Signs_takeNumber m p n f k v e) : sgE k v e (nuS (decide (m.toInt ≠ 0)) (dgs (bA f n.toInt) n.toInt (if m.toInt ≠ 0 then p.toInt + 1 else p.toInt) 0)) := by
  refine h (fun k v e => sgE k v e (nuS (decide (m.toInt ≠ 0)) (dgs (bA f n.toInt) n.toInt (if m.toInt ≠ 0 then p.toInt + 1 else p.toInt) 0))) ?_ ?_ ?_ ?_
  · intro x1 x2 x3 x4 h1 h2 h3 h4 h5
    try dsimp only at *
    have q2 := dgs_tr h2
    obtain ⟨d1, d2, d3, d4⟩ := q2
    obtain ⟨t1, t2⟩ := px_rt h3 h4
    rw [if_neg (by omega), decide_eq_false (by omega)]
    refine nuS_out d1 (x := x1.toInt) (by rw [d1]; rfl) (fun z => h5 (Int64.toInt_inj.mp ?_)) px_0
    rw [t2, t1]; exact gM_of z.1 z.2
  · intro x1 x2 x3 x4 h1 h2 h3 h4 h5
    try dsimp only at *
    have q2 := dgs_tr h2
    obtain ⟨d1, d2, d3, d4⟩ := q2
    obtain ⟨t1, t2⟩ := px_rt h3 h4
    rw [if_neg (by omega), decide_eq_false (by omega)]
    refine nuS_in d1 (x := x1.toInt) (by rw [d1]; rfl) ?_ (by decide)
    rw [← t2, h5]
  · intro x1 x2 x3 x4 x5 x6 h1 h2 h3 h4 h5 h6 h7
    try dsimp only at *
    have q3 := dgs_tr h3
    have ep : x1.toInt = p.toInt + 1 := by have q := px_add h2 (by rw [px_1]; omega) (by rw [px_1]; omega); rw [px_1] at q; exact q
    rw [ep] at q3
    obtain ⟨d1, d2, d3, d4⟩ := q3
    obtain ⟨t1, t2⟩ := px_rt h5 h6
    have e4 : x4.toInt = -x2.toInt := by rw [h4, Int64.toInt_neg]; exact px_64 (by omega) (by omega)
    rw [if_pos h1, decide_eq_true h1]
    refine nuS_out d1 (x := x4.toInt) (by rw [d1, e4]; rfl) (fun z => h7 (Int64.toInt_inj.mp ?_)) px_0
    rw [t2, t1]; exact gM_of z.1 z.2
  · intro x1 x2 x3 x4 x5 x6 h1 h2 h3 h4 h5 h6 h7
    try dsimp only at *
    have q3 := dgs_tr h3
    have ep : x1.toInt = p.toInt + 1 := by have q := px_add h2 (by rw [px_1]; omega) (by rw [px_1]; omega); rw [px_1] at q; exact q
    rw [ep] at q3
    obtain ⟨d1, d2, d3, d4⟩ := q3
    obtain ⟨t1, t2⟩ := px_rt h5 h6
    have e4 : x4.toInt = -x2.toInt := by rw [h4, Int64.toInt_neg]; exact px_64 (by omega) (by omega)
    rw [if_pos h1, decide_eq_true h1]
    refine nuS_in d1 (x := x4.toInt) (by rw [d1, e4]; rfl) ?_ (by decide)
    rw [← t2, h7]
theorem nam_tr {a lim p n k v e : Int32} {f : Nat → Int32} (hl : 0 ≤ lim.toInt) (ha : a.toInt ≠ 0) (hp : 0 ≤ p.toInt) (hp2 : p.toInt ≤ 8192) (h : tr_Signs_takeNamed a lim p n f k v e) : sgE k v e (naS a.toInt lim.toInt (dgs (bA f n.toInt) n.toInt (p.toInt + 1) 0)) := by
  refine h (fun k v e => sgE k v e (naS a.toInt lim.toInt (dgs (bA f n.toInt) n.toInt (p.toInt + 1) 0))) ?_ ?_
  · intro x1 x2 x3 x4 x5 x6 h1 h2 h3 h4 h5 h6
    try dsimp only at *
    have q2 := dgs_tr h2
    have ep : x1.toInt = p.toInt + 1 := by have q := px_add h1 (by rw [px_1]; omega) (by rw [px_1]; omega); rw [px_1] at q; exact q
    rw [ep] at q2
    obtain ⟨d1, d2, d3, d4⟩ := q2
    have e5 : x5.toInt = lim.toInt := by rw [h4]; exact Int32.toInt_toInt64 lim
    rw [d1]
    unfold naS sgE
    have c := px_cge h5 h6
    rw [if_neg (by show ¬ x2.toInt < lim.toInt; omega)]
    exact ⟨px_0, rfl, fun z _ => by rw [px_0] at z; omega⟩
  · intro x1 x2 x3 x4 x5 x6 h1 h2 h3 h4 h5 h6
    try dsimp only at *
    have q2 := dgs_tr h2
    have ep : x1.toInt = p.toInt + 1 := by have q := px_add h1 (by rw [px_1]; omega) (by rw [px_1]; omega); rw [px_1] at q; exact q
    rw [ep] at q2
    obtain ⟨d1, d2, d3, d4⟩ := q2
    have e5 : x5.toInt = lim.toInt := by rw [h4]; exact Int32.toInt_toInt64 lim
    rw [d1]
    unfold naS sgE
    have c := px_clt h5 h6
    have bl := Int32.toInt_lt lim
    have t1 : x4.toInt = x2.toInt := by rw [h3, Int64.toInt_toInt32]; exact gM_of (by omega) (by omega)
    rw [if_pos (by show x2.toInt < lim.toInt; omega)]
    exact ⟨rfl, rfl, fun _ _ => t1⟩
