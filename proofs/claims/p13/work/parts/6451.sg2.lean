section
/-- letter j of a literal -/
def chr (bs : List Int32) (j : Nat) : Int := ((bs.getD j 0) &&& 255).toInt
theorem px_i2c {x z : Int32} (hz : z = (x.toUInt32 % 65536).toInt32) (h0 : 0 ≤ x.toInt) (h1 : x.toInt ≤ 65535) : z.toInt = x.toInt := by
  have h : z.toBitVec.toNat = x.toUInt32.toNat % 65536 := by rw [hz]; rfl
  have h2 := gI_ofNat h (by omega)
  have h3 : x.toInt = if 2 * x.toBitVec.toNat < 2 ^ 32 then (x.toBitVec.toNat : Int) else (x.toBitVec.toNat : Int) - (2 ^ 32 : Nat) := BitVec.toInt_eq_toNat_cond x.toBitVec
  have h4 : x.toUInt32.toNat = x.toBitVec.toNat := rfl
  have h5 := x.toBitVec.isLt
  split at h3 <;> omega
theorem chr_lt {bs : List Int32} {j : Nat} : 0 ≤ chr bs j ∧ chr bs j ≤ 255 := gB_and (z := (bs.getD j 0) &&& 255) rfl (gBl (show Int32.toInt 255 = 255 by decide)) (by decide)
theorem ch1_tr {bs : List Int32} {j r : Int32} (h : tr_StringLatin1_charAt bs j r) : r.toInt = chr bs j.toInt.toNat := by
  refine h (fun r => r.toInt = chr bs j.toInt.toNat) ?_
  · intro x1 x2 x3 x4 h1 h2 h3 h4 h5
    show x4.toInt = _
    have b := chr_lt (bs := bs) (j := j.toInt.toNat)
    have e3 : x3.toInt = chr bs j.toInt.toNat := by rw [h4, h3]; rfl
    rw [px_i2c h5 (by omega) (by omega), e3]
theorem ch_tr {bs : List Int32} {j r : Int32} (h : tr_String_charAt bs j r) : r.toInt = chr bs j.toInt.toNat := by
  refine h (fun r => r.toInt = chr bs j.toInt.toNat) ?_
  · intro x1 h1 h2
    exact ch1_tr h2
theorem ln_tr {bs : List Int32} {r : Int32} (h : tr_String_length bs r) : r.toInt = (bs.length : Int) := by
  refine h (fun r => r.toInt = (bs.length : Int)) ?_
  · intro x1 x2 h1 h2
    show x2.toInt = _
    omega
/-- the letters from p to e are those of bs -/
def isW (bs : List Int32) (B : Int → Int) (n p e : Int) : Bool := decide (e - p = (bs.length : Int)) && (List.range bs.length).all (fun j => decide (B (p + (j : Int)) = chr bs j))
theorem isW_iff {bs : List Int32} {B : Int → Int} {n p e : Int} : isW bs B n p e = true ↔ (e - p = (bs.length : Int) ∧ ∀ j : Nat, j < bs.length → B (p + (j : Int)) = chr bs j) := by
  unfold isW
  simp only [Bool.and_eq_true, decide_eq_true_eq, List.all_eq_true, List.mem_range]
theorem isW_tl {bs : List Int32} {p n : Int32} {f : Nat → Int32} {i : Int32} {k : Nat} (hp : 0 ≤ p.toInt) (hp2 : p.toInt ≤ 8192) (h : tl_Signs_isWord_20 bs p n f i k) : 0 ≤ i.toInt → (k = 57 ∧ ∀ j : Nat, i.toInt ≤ j → j < bs.length → bA f n.toInt (p.toInt + (j : Int)) = chr bs j) ∨ (k = 49 ∧ ∃ j : Nat, j < bs.length ∧ bA f n.toInt (p.toInt + (j : Int)) ≠ chr bs j) := by
  refine h (fun i k => 0 ≤ i.toInt → (k = 57 ∧ ∀ j : Nat, i.toInt ≤ j → j < bs.length → bA f n.toInt (p.toInt + (j : Int)) = chr bs j) ∨ (k = 49 ∧ ∃ j : Nat, j < bs.length ∧ bA f n.toInt (p.toInt + (j : Int)) ≠ chr bs j)) ?_ ?_ ?_
  · intro l2_1 x1 h1 h2 h3 h4
    try dsimp only at *
    have q3 := ln_tr h3
    intro i0
    exact Or.inl ⟨rfl, fun j a b => by omega⟩
  · intro l2_1 x1 x2 x3 x4 x5 k h1 h2 h3 h4 h5 h6 h7 h8 h9 h10 h11 ih
    try dsimp only at *
    have q3 := ln_tr h3
    have q7 := bA_tr h7
    have q9 := ch_tr h9
    intro i0
    have b2 := h1.2
    have e2 : x2.toInt = p.toInt + l2_1.toInt := px_add h5 (by omega) (by omega)
    rw [e2] at q7
    have ej : ((l2_1.toInt.toNat : Nat) : Int) = l2_1.toInt := Int.toNat_of_nonneg i0
    rcases ih (by omega) with ⟨hk, hj⟩ | hn
    · refine Or.inl ⟨hk, fun j a b => ?_⟩
      by_cases e : (j : Int) = l2_1.toInt
      · have ejj : j = l2_1.toInt.toNat := by omega
        rw [e, ← q7, h10, q9, ejj]
      · exact hj j (by omega) b
    · exact Or.inr hn
  · intro l2_1 x1 x2 x3 x4 h1 h2 h3 h4 h5 h6 h7 h8 h9 h10
    try dsimp only at *
    have q3 := ln_tr h3
    have q7 := bA_tr h7
    have q9 := ch_tr h9
    intro i0
    have b2 := h1.2
    have e2 : x2.toInt = p.toInt + l2_1.toInt := px_add h5 (by omega) (by omega)
    rw [e2] at q7
    have ej : ((l2_1.toInt.toNat : Nat) : Int) = l2_1.toInt := Int.toNat_of_nonneg i0
    exact Or.inr ⟨rfl, l2_1.toInt.toNat, by omega, by rw [ej, ← q7, ← q9]; exact h10⟩
theorem isW_tr {bs : List Int32} {p e n r : Int32} {f : Nat → Int32} (hp : 0 ≤ p.toInt) (hp2 : p.toInt ≤ 8192) (he : p.toInt ≤ e.toInt) (h : tr_Signs_isWord bs p e n f r) : isW bs (bA f n.toInt) n.toInt p.toInt e.toInt = decide (r.toInt ≠ 0) := by
  have bE := Int32.toInt_lt e
  refine h (fun r => isW bs (bA f n.toInt) n.toInt p.toInt e.toInt = decide (r.toInt ≠ 0)) ?_ ?_ ?_
  · intro x1 x2 h1 h2 h3 h4 h5
    try dsimp only at *
    have q3 := ln_tr h3
    have q5 := isW_tl hp hp2 h5 (by decide)
    have e1 : x1.toInt = e.toInt - p.toInt := px_sub h1 (by omega) (by omega)
    rw [decide_eq_true (by decide), isW_iff]
    rcases q5 with ⟨-, hj⟩ | ⟨hk, -⟩
    · exact ⟨by omega, fun j b => hj j (by rw [px_0]; omega) b⟩
    · exact absurd hk (by decide)
  · intro x1 x2 h1 h2 h3 h4 h5
    try dsimp only at *
    have q3 := ln_tr h3
    have q5 := isW_tl hp hp2 h5 (by decide)
    have e1 : x1.toInt = e.toInt - p.toInt := px_sub h1 (by omega) (by omega)
    rw [decide_eq_false (by decide)]
    rcases q5 with ⟨hk, -⟩ | ⟨-, j, b, hj⟩
    · exact absurd hk (by decide)
    · exact Bool.eq_false_iff.mpr (fun z => hj ((isW_iff.mp z).2 j b))
  · intro x1 x2 h1 h2 h3 h4
    try dsimp only at *
    have q3 := ln_tr h3
    have e1 : x1.toInt = e.toInt - p.toInt := px_sub h1 (by omega) (by omega)
    rw [decide_eq_false (by decide)]
    exact Bool.eq_false_iff.mpr (fun z => h4 (by have := (isW_iff.mp z).1; omega))
/-- the place behind the letters from i on -/
def ltr (B : Int → Int) (n i : Int) : Int := if i < n ∧ 97 ≤ B i ∧ B i ≤ 122 then ltr B n (i + 1) else i
termination_by (n - i).toNat
decreasing_by omega
theorem ltr_tl {n i e : Int32} {f : Nat → Int32} {k : Nat} (h : tl_Signs_takeWord_5 n f i k e) : e.toInt = ltr (bA f n.toInt) n.toInt i.toInt ∧ i.toInt ≤ e.toInt := by
  refine h (fun i k e => e.toInt = ltr (bA f n.toInt) n.toInt i.toInt ∧ i.toInt ≤ e.toInt) ?_ ?_ ?_
  · intro l1_1 h1
    try dsimp only at *
    refine ⟨?_, Int.le_refl _⟩
    rw [ltr, if_neg (by omega)]
  · intro l1_1 x1 x2 h1 h2 h3 h4 h5 h6
    try dsimp only at *
    have q3 := bA_tr h3
    have q5 := lt_tr h5
    refine ⟨?_, Int.le_refl _⟩
    rw [ltr, if_neg (by rw [← q3]; omega)]
  · intro l1_1 x1 x2 x3 k e1 h1 h2 h3 h4 h5 h6 h7 ih
    try dsimp only at *
    have q3 := bA_tr h3
    have q5 := lt_tr h5
    refine ⟨?_, by omega⟩
    rw [ltr, if_pos ⟨h1, by rw [← q3]; omega, by rw [← q3]; omega⟩, ← h7]
    exact ih.1
def wdK (B : Int → Int) (n p e : Int) : Int := if isW sb_0 B n p e then 8 else if isW sb_1 B n p e then 9 else if isW sb_2 B n p e then 10 else if isW sb_3 B n p e then 11 else if isW sb_4 B n p e then 12 else 0
theorem wd_tr {p n k e : Int32} {f : Nat → Int32} (hp : 0 ≤ p.toInt) (hp2 : p.toInt ≤ 8192) (h : tr_Signs_takeWord p n f k e) : k.toInt = wdK (bA f n.toInt) n.toInt p.toInt (ltr (bA f n.toInt) n.toInt p.toInt) ∧ e.toInt = ltr (bA f n.toInt) n.toInt p.toInt := by
  refine h (fun k e => k.toInt = wdK (bA f n.toInt) n.toInt p.toInt (ltr (bA f n.toInt) n.toInt p.toInt) ∧ e.toInt = ltr (bA f n.toInt) n.toInt p.toInt) ?_ ?_ ?_ ?_ ?_ ?_
  · intro x1 x2 x3 x4 x5 x6 h1 h2 h3 h4 h5 h6 h7 h8 h9 h10 h11 h12 h13 h14 h15 h16
    try dsimp only at *
    have q1 := ltr_tl h1
    obtain ⟨e1, e2⟩ := q1
    refine ⟨?_, e1⟩
    rw [← e1]
    unfold wdK
    have w3 := isW_tr hp hp2 e2 h3
    have w6 := isW_tr hp hp2 e2 h6
    have w9 := isW_tr hp hp2 e2 h9
    have w12 := isW_tr hp hp2 e2 h12
    have w15 := isW_tr hp hp2 e2 h15
    simp only [w3, w6, w9, w12, w15, h4, h7, h10, h13, h16, ne_eq, not_true_eq_false, not_false_eq_true, decide_true, decide_false, Bool.false_eq_true, if_true, if_false, ↓reduceIte]
    decide
  · intro x1 x2 x3 x4 x5 x6 h1 h2 h3 h4 h5 h6 h7 h8 h9 h10 h11 h12 h13 h14 h15 h16
    try dsimp only at *
    have q1 := ltr_tl h1
    obtain ⟨e1, e2⟩ := q1
    refine ⟨?_, e1⟩
    rw [← e1]
    unfold wdK
    have w3 := isW_tr hp hp2 e2 h3
    have w6 := isW_tr hp hp2 e2 h6
    have w9 := isW_tr hp hp2 e2 h9
    have w12 := isW_tr hp hp2 e2 h12
    have w15 := isW_tr hp hp2 e2 h15
    simp only [w3, w6, w9, w12, w15, h4, h7, h10, h13, h16, ne_eq, not_true_eq_false, not_false_eq_true, decide_true, decide_false, Bool.false_eq_true, if_true, if_false, ↓reduceIte]
    decide
  · intro x1 x2 x3 x4 x5 h1 h2 h3 h4 h5 h6 h7 h8 h9 h10 h11 h12 h13
    try dsimp only at *
    have q1 := ltr_tl h1
    obtain ⟨e1, e2⟩ := q1
    refine ⟨?_, e1⟩
    rw [← e1]
    unfold wdK
    have w3 := isW_tr hp hp2 e2 h3
    have w6 := isW_tr hp hp2 e2 h6
    have w9 := isW_tr hp hp2 e2 h9
    have w12 := isW_tr hp hp2 e2 h12
    simp only [w3, w6, w9, w12, h4, h7, h10, h13, ne_eq, not_true_eq_false, not_false_eq_true, decide_true, decide_false, Bool.false_eq_true, if_true, if_false, ↓reduceIte]
    decide
  · intro x1 x2 x3 x4 h1 h2 h3 h4 h5 h6 h7 h8 h9 h10
    try dsimp only at *
    have q1 := ltr_tl h1
    obtain ⟨e1, e2⟩ := q1
    refine ⟨?_, e1⟩
    rw [← e1]
    unfold wdK
    have w3 := isW_tr hp hp2 e2 h3
    have w6 := isW_tr hp hp2 e2 h6
    have w9 := isW_tr hp hp2 e2 h9
    simp only [w3, w6, w9, h4, h7, h10, ne_eq, not_true_eq_false, not_false_eq_true, decide_true, decide_false, Bool.false_eq_true, if_true, if_false, ↓reduceIte]
    decide
  · intro x1 x2 x3 h1 h2 h3 h4 h5 h6 h7
    try dsimp only at *
    have q1 := ltr_tl h1
    obtain ⟨e1, e2⟩ := q1
    refine ⟨?_, e1⟩
    rw [← e1]
    unfold wdK
    have w3 := isW_tr hp hp2 e2 h3
    have w6 := isW_tr hp hp2 e2 h6
    simp only [w3, w6, h4, h7, ne_eq, not_true_eq_false, not_false_eq_true, decide_true, decide_false, Bool.false_eq_true, if_true, if_false, ↓reduceIte]
    decide
  · intro x1 x2 h1 h2 h3 h4
    try dsimp only at *
    have q1 := ltr_tl h1
    obtain ⟨e1, e2⟩ := q1
    refine ⟨?_, e1⟩
    rw [← e1]
    unfold wdK
    have w3 := isW_tr hp hp2 e2 h3
    simp only [w3, h4, ne_eq, not_true_eq_false, not_false_eq_true, decide_true, decide_false, Bool.false_eq_true, if_true, if_false, ↓reduceIte]
    decide
/-- the operation of c and d, from the i-th on -/
def opF (i c d : Int) : Int := if i < 14 then (if chr sb_5 (2 * i).toNat = c ∧ chr sb_5 (2 * i + 1).toNat = d then i else opF (i + 1) c d) else -1
termination_by (14 - i).toNat
decreasing_by omega
theorem op_tl {c d i e : Int32} {k : Nat} (h : tl_Signs_opOf_2 c d i k e) : opF i.toInt c.toInt d.toInt = if k = 34 then e.toInt else -1 := by
  refine h (fun i k e => opF i.toInt c.toInt d.toInt = if k = 34 then e.toInt else -1) ?_ ?_ ?_ ?_
  · intro l2_1 h1 h2
    try dsimp only at *
    rw [opF, if_neg (by omega)]; rfl
  · intro l2_1 x1 x2 x3 k e1 h1 h2 h3 h4 h5 h6 h7 ih
    try dsimp only at *
    have q5 := ch_tr h5
    rw [h3] at q5
    rw [opF, if_pos h2, if_neg (fun z => h6 (q5.trans z.1)), ← h7]
    exact ih
  · intro l2_1 x1 x2 x3 x4 x5 x6 k e1 h1 h2 h3 h4 h5 h6 h7 h8 h9 h10 h11 h12 ih
    try dsimp only at *
    have q5 := ch_tr h5
    have q10 := ch_tr h10
    rw [h8, h7] at q10
    rw [opF, if_pos h2, if_neg (fun z => h11 (q10.trans z.2)), ← h12]
    exact ih
  · intro l2_1 x1 x2 x3 x4 x5 h1 h2 h3 h4 h5 h6 h7 h8 h9 h10 h11
    try dsimp only at *
    have q5 := ch_tr h5
    have q10 := ch_tr h10
    rw [h3] at q5
    rw [h8, h7] at q10
    rw [opF, if_pos h2, if_pos ⟨q5.symm.trans h6, q10.symm.trans h11⟩]; rfl
theorem op_tr {c d r : Int32} (h : tr_Signs_opOf c d r) : r.toInt = opF 0 c.toInt d.toInt := by
  refine h (fun r => r.toInt = opF 0 c.toInt d.toInt) ?_ ?_
  · intro h1
    try dsimp only at *
    have q1 := op_tl h1
    rw [px_0] at q1
    rw [q1]; decide
  · intro x1 h1
    try dsimp only at *
    have q1 := op_tl h1
    rw [px_0] at q1
    rw [q1]; rfl
def mkS (p c d : Int) : Int × Int × Int := if opF 0 c d ≠ -1 ∧ d ≠ 32 then (5, opF 0 c d, p + 2) else if opF 0 c 32 ≠ -1 then (5, opF 0 c 32, p + 1) else if c = 58 then (6, 0, p + 1) else if c = 61 then (7, 0, p + 1) else (0, 0, p + 1)
theorem mk_tr {c d p k v e : Int32} (hp : 0 ≤ p.toInt) (hp2 : p.toInt ≤ 8192) (h : tr_Signs_takeMark c d p k v e) : sgE k v e (mkS p.toInt c.toInt d.toInt) := by
  have z32 : Int32.toInt 32 = 32 := by decide
  have z2 : Int32.toInt 2 = 2 := by decide
  refine h (fun k v e => sgE k v e (mkS p.toInt c.toInt d.toInt)) ?_ ?_ ?_ ?_ ?_ ?_ ?_ ?_ ?_
  · intro x1 x2 x3 h1 h2 h3 h4 h5 h6 h7 h8 h9
    try dsimp only at *
    have q2 := op_tr h2
    have q5 := op_tr h5
    rw [z32] at q5
    have ea := px_add h6 (by rw [px_1]; omega) (by rw [px_1]; omega)
    rw [px_1] at ea
    unfold mkS sgE
    rw [if_neg (by omega)]
    rw [if_neg (by omega), if_neg (by omega), if_neg (by omega)]
    exact ⟨px_0, ea, fun a b => by have z : Int32.toInt 0 = 0 := (by decide); omega⟩
  · intro x1 x2 x3 h1 h2 h3 h4 h5 h6 h7 h8 h9
    try dsimp only at *
    have q2 := op_tr h2
    have q5 := op_tr h5
    rw [z32] at q5
    have ea := px_add h6 (by rw [px_1]; omega) (by rw [px_1]; omega)
    rw [px_1] at ea
    unfold mkS sgE
    rw [if_neg (by omega)]
    rw [if_neg (by omega), if_neg (by omega), if_pos (by omega)]
    exact ⟨px_7, ea, fun a b => by have z : Int32.toInt 7 = 7 := (by decide); omega⟩
  · intro x1 x2 x3 h1 h2 h3 h4 h5 h6 h7 h8
    try dsimp only at *
    have q2 := op_tr h2
    have q5 := op_tr h5
    rw [z32] at q5
    have ea := px_add h6 (by rw [px_1]; omega) (by rw [px_1]; omega)
    rw [px_1] at ea
    unfold mkS sgE
    rw [if_neg (by omega)]
    rw [if_neg (by omega), if_pos (by omega)]
    exact ⟨px_6, ea, fun a b => by have z : Int32.toInt 6 = 6 := (by decide); omega⟩
  · intro x1 x2 x3 h1 h2 h3 h4 h5 h6 h7
    try dsimp only at *
    have q2 := op_tr h2
    have q5 := op_tr h5
    rw [z32] at q5
    have ea := px_add h6 (by rw [px_1]; omega) (by rw [px_1]; omega)
    rw [px_1] at ea
    unfold mkS sgE
    rw [if_neg (by omega)]
    rw [if_pos (by omega)]
    exact ⟨px_5, ea, fun _ _ => q5⟩
  · intro x1 x2 h1 h2 h3 h4 h5
    try dsimp only at *
    have q2 := op_tr h2
    have ea := px_add h3 (by rw [z2]; omega) (by rw [z2]; omega)
    rw [z2] at ea
    unfold mkS sgE
    rw [if_pos ⟨by omega, by omega⟩]
    exact ⟨px_5, ea, fun _ _ => q2⟩
  · intro x1 x2 x3 h1 h2 h3 h4 h5 h6 h7 h8 h9 h10
    try dsimp only at *
    have q2 := op_tr h2
    have q6 := op_tr h6
    rw [z32] at q6
    have ea := px_add h7 (by rw [px_1]; omega) (by rw [px_1]; omega)
    rw [px_1] at ea
    unfold mkS sgE
    rw [if_neg (by omega)]
    rw [if_neg (by omega), if_neg (by omega), if_neg (by omega)]
    exact ⟨px_0, ea, fun a b => by have z : Int32.toInt 0 = 0 := (by decide); omega⟩
  · intro x1 x2 x3 h1 h2 h3 h4 h5 h6 h7 h8 h9 h10
    try dsimp only at *
    have q2 := op_tr h2
    have q6 := op_tr h6
    rw [z32] at q6
    have ea := px_add h7 (by rw [px_1]; omega) (by rw [px_1]; omega)
    rw [px_1] at ea
    unfold mkS sgE
    rw [if_neg (by omega)]
    rw [if_neg (by omega), if_neg (by omega), if_pos (by omega)]
    exact ⟨px_7, ea, fun a b => by have z : Int32.toInt 7 = 7 := (by decide); omega⟩
  · intro x1 x2 x3 h1 h2 h3 h4 h5 h6 h7 h8 h9
    try dsimp only at *
    have q2 := op_tr h2
    have q6 := op_tr h6
    rw [z32] at q6
    have ea := px_add h7 (by rw [px_1]; omega) (by rw [px_1]; omega)
    rw [px_1] at ea
    unfold mkS sgE
    rw [if_neg (by omega)]
    rw [if_neg (by omega), if_pos (by omega)]
    exact ⟨px_6, ea, fun a b => by have z : Int32.toInt 6 = 6 := (by decide); omega⟩
  · intro x1 x2 x3 h1 h2 h3 h4 h5 h6 h7 h8
    try dsimp only at *
    have q2 := op_tr h2
    have q6 := op_tr h6
    rw [z32] at q6
    have ea := px_add h7 (by rw [px_1]; omega) (by rw [px_1]; omega)
    rw [px_1] at ea
    unfold mkS sgE
    rw [if_neg (by omega)]
    rw [if_pos (by omega)]
    exact ⟨px_5, ea, fun _ _ => q6⟩
/-- the sign at p: kind, value, place behind -/
def sgn (B : Int → Int) (n p : Int) (aft : Bool) : Int × Int × Int :=
  if B p = -1 then (1, 0, p)
  else if 48 ≤ B p ∧ B p ≤ 57 then nuS false (dgs B n p 0)
  else if B p = 45 ∧ (48 ≤ B (p + 1) ∧ B (p + 1) ≤ 57) ∧ aft = false then nuS true (dgs B n (p + 1) 0)
  else if B p = 118 ∧ 48 ≤ B (p + 1) ∧ B (p + 1) ≤ 57 then naS 2 100 (dgs B n (p + 1) 0)
  else if B p = 98 ∧ 48 ≤ B (p + 1) ∧ B (p + 1) ≤ 57 then naS 3 40 (dgs B n (p + 1) 0)
  else if 97 ≤ B p ∧ B p ≤ 122 then (wdK B n p (ltr B n p), 0, ltr B n p)
  else mkS p (B p) (B (p + 1))
theorem skp_le {B : Int → Int} {n i r : Int} (h : i ≤ n) : i ≤ skp B n i r ∧ skp B n i r ≤ n := by
  induction i, r using skp.induct (B := B) (n := n) with
  | case1 i r h1 h2 ih => rw [skp, if_pos h1, if_pos h2]; have := ih (by omega); omega
  | case2 i r h1 h2 h3 ih => rw [skp, if_pos h1, if_neg h2, if_pos h3]; have := ih (by omega); omega
  | case3 i r h1 h2 h3 h4 ih => rw [skp, if_pos h1, if_neg h2, if_neg h3, if_pos h4]; have := ih (by omega); omega
  | case4 i r h1 h2 h3 h4 => rw [skp, if_pos h1, if_neg h2, if_neg h3, if_neg h4]; omega
  | case5 i r h1 => rw [skp, if_neg h1]; omega
theorem wdK_no (B : Int → Int) (n p e : Int) : wdK B n p e = 0 ∨ 8 ≤ wdK B n p e := by
  unfold wdK
  split
  · omega
  · split
    · omega
    · split
      · omega
      · split
        · omega
        · split <;> omega
theorem adv_tr {k0 b n k v p e : Int32} {f : Nat → Int32} (hb0 : 0 ≤ b.toInt) (hb : b.toInt ≤ n.toInt) (hn : n.toInt ≤ 8192) (h : tr_Signs_advance k0 b n f k v p e) : p.toInt = skp (bA f n.toInt) n.toInt b.toInt 0 ∧ sgE k v e (sgn (bA f n.toInt) n.toInt p.toInt (decide (k0.toInt = 2 ∨ k0.toInt = 4))) := by
  have hsk := skp_le (B := bA f n.toInt) (r := 0) hb
  refine h (fun k v p e => p.toInt = skp (bA f n.toInt) n.toInt b.toInt 0 ∧ sgE k v e (sgn (bA f n.toInt) n.toInt p.toInt (decide (k0.toInt = 2 ∨ k0.toInt = 4)))) ?_ ?_ ?_ ?_ ?_ ?_ ?_ ?_ ?_ ?_ ?_ ?_ ?_ ?_ ?_ ?_ ?_ ?_ ?_ ?_ ?_ ?_ ?_ ?_ ?_ ?_ ?_ ?_ ?_ ?_ ?_ ?_ ?_ ?_ ?_ ?_ ?_ ?_ ?_ ?_ ?_ ?_ ?_ ?_
  · intro x1 x2 x3 x4 x5 x6 x7 x8 h1 h2 h3 h4 h5 h6 h7 h8 h9 h10 h11 h12 h13 h14 h15
    try dsimp only at *
    have qs := skp_tr h3
    have qb1 := bA_tr h5
    have qb2 := bA_tr h8
    have q11 := dg_tr h11
    rw [h6] at qb2
    rw [decide_eq_true (by omega)]
    refine ⟨qs, ?_⟩
    unfold sgn
    rw [← qb1, ← qb2]
    rw [if_neg (by omega), if_pos (by omega)]
    have r := num_tr (by omega) (by omega) h15
    rw [px_0] at r
    simpa using r
  · intro x1 x2 x3 x4 x5 x6 x7 x8 h1 h2 h3 h4 h5 h6 h7 h8 h9 h10 h11 h12 h13 h14 h15
    try dsimp only at *
    have qs := skp_tr h3
    have qb1 := bA_tr h5
    have qb2 := bA_tr h8
    have q11 := dg_tr h11
    rw [h6] at qb2
    rw [decide_eq_true (by omega)]
    refine ⟨qs, ?_⟩
    unfold sgn
    rw [← qb1, ← qb2]
    first
    | (exfalso; omega)
    | (rw [if_neg (by omega), if_neg (by omega), if_pos ⟨by omega, by omega, rfl⟩]; have r := num_tr (by omega) (by omega) h15; rw [px_1] at r; simpa using r)
  · intro x1 x2 x3 x4 x5 x6 x7 x8 x9 h1 h2 h3 h4 h5 h6 h7 h8 h9 h10 h11 h12 h13 h14 h15 h16 h17 h18 h19 h20 h21
    try dsimp only at *
    have qs := skp_tr h3
    have qb1 := bA_tr h5
    have qb2 := bA_tr h8
    have q11 := dg_tr h11
    have q17 := lt_tr h17
    rw [h6] at qb2
    rw [decide_eq_true (by omega)]
    refine ⟨qs, ?_⟩
    unfold sgn
    rw [← qb1, ← qb2]
    first
    | (exfalso; omega)
    | (rw [if_neg (by omega), if_neg (by omega), if_neg (fun z => by cases z.2.2), if_neg (by omega), if_neg (by omega), if_neg (by omega)]; have r := mk_tr (by omega) (by omega) h21; exact r)
  · intro x1 x2 x3 x4 x5 x6 x7 x8 h1 h2 h3 h4 h5 h6 h7 h8 h9 h10 h11 h12 h13 h14 h15 h16 h17 h18 h19 h20
    try dsimp only at *
    have qs := skp_tr h3
    have qb1 := bA_tr h5
    have qb2 := bA_tr h8
    have q11 := dg_tr h11
    have q17 := lt_tr h17
    rw [h6] at qb2
    rw [decide_eq_true (by omega)]
    refine ⟨qs, ?_⟩
    unfold sgn
    rw [← qb1, ← qb2]
    first
    | (exfalso; omega)
    | (rw [if_neg (by omega), if_neg (by omega), if_neg (fun z => by cases z.2.2), if_neg (by omega), if_neg (by omega), if_pos (by omega)]; obtain ⟨r1, r2⟩ := wd_tr (by omega) (by omega) h20; exact ⟨r1, r2, fun a b => by have w := wdK_no (bA f n.toInt) n.toInt x1.toInt (ltr (bA f n.toInt) n.toInt x1.toInt); omega⟩)
  · intro x1 x2 x3 x4 x5 x6 x7 x8 x9 x10 h1 h2 h3 h4 h5 h6 h7 h8 h9 h10 h11 h12 h13 h14 h15 h16 h17 h18 h19 h20 h21 h22 h23 h24
    try dsimp only at *
    have qs := skp_tr h3
    have qb1 := bA_tr h5
    have qb2 := bA_tr h8
    have q11 := dg_tr h11
    have q17 := dg_tr h17
    have q20 := lt_tr h20
    rw [h6] at qb2
    rw [decide_eq_true (by omega)]
    refine ⟨qs, ?_⟩
    unfold sgn
    rw [← qb1, ← qb2]
    first
    | (exfalso; omega)
    | (rw [if_neg (by omega), if_neg (by omega), if_neg (fun z => by cases z.2.2), if_neg (by omega), if_neg (by omega), if_neg (by omega)]; have r := mk_tr (by omega) (by omega) h24; exact r)
  · intro x1 x2 x3 x4 x5 x6 x7 x8 x9 h1 h2 h3 h4 h5 h6 h7 h8 h9 h10 h11 h12 h13 h14 h15 h16 h17 h18 h19 h20 h21 h22 h23
    try dsimp only at *
    have qs := skp_tr h3
    have qb1 := bA_tr h5
    have qb2 := bA_tr h8
    have q11 := dg_tr h11
    have q17 := dg_tr h17
    have q20 := lt_tr h20
    rw [h6] at qb2
    rw [decide_eq_true (by omega)]
    refine ⟨qs, ?_⟩
    unfold sgn
    rw [← qb1, ← qb2]
    first
    | (exfalso; omega)
    | (rw [if_neg (by omega), if_neg (by omega), if_neg (fun z => by cases z.2.2), if_neg (by omega), if_neg (by omega), if_pos (by omega)]; obtain ⟨r1, r2⟩ := wd_tr (by omega) (by omega) h23; exact ⟨r1, r2, fun a b => by have w := wdK_no (bA f n.toInt) n.toInt x1.toInt (ltr (bA f n.toInt) n.toInt x1.toInt); omega⟩)
  · intro x1 x2 x3 x4 x5 x6 x7 x8 x9 h1 h2 h3 h4 h5 h6 h7 h8 h9 h10 h11 h12 h13 h14 h15 h16 h17 h18 h19 h20
    try dsimp only at *
    have qs := skp_tr h3
    have qb1 := bA_tr h5
    have qb2 := bA_tr h8
    have q11 := dg_tr h11
    have q17 := dg_tr h17
    rw [h6] at qb2
    rw [decide_eq_true (by omega)]
    refine ⟨qs, ?_⟩
    unfold sgn
    rw [← qb1, ← qb2]
    rw [if_neg (by omega), if_neg (by omega), if_neg (fun z => by cases z.2.2), if_neg (by omega), if_pos (by omega)]
    have r := nam_tr (by decide) (by decide) (by omega) (by omega) h20
    rw [show Int32.toInt 3 = 3 from by decide, show Int32.toInt 40 = 40 from by decide] at r
    exact r
  · intro x1 x2 x3 x4 x5 x6 x7 x8 x9 x10 h1 h2 h3 h4 h5 h6 h7 h8 h9 h10 h11 h12 h13 h14 h15 h16 h17 h18 h19 h20 h21 h22 h23
    try dsimp only at *
    have qs := skp_tr h3
    have qb1 := bA_tr h5
    have qb2 := bA_tr h8
    have q11 := dg_tr h11
    have q16 := dg_tr h16
    have q19 := lt_tr h19
    rw [h6] at qb2
    rw [decide_eq_true (by omega)]
    refine ⟨qs, ?_⟩
    unfold sgn
    rw [← qb1, ← qb2]
    first
    | (exfalso; omega)
    | (rw [if_neg (by omega), if_neg (by omega), if_neg (fun z => by cases z.2.2), if_neg (by omega), if_neg (by omega), if_neg (by omega)]; have r := mk_tr (by omega) (by omega) h23; exact r)
  · intro x1 x2 x3 x4 x5 x6 x7 x8 x9 h1 h2 h3 h4 h5 h6 h7 h8 h9 h10 h11 h12 h13 h14 h15 h16 h17 h18 h19 h20 h21 h22
    try dsimp only at *
    have qs := skp_tr h3
    have qb1 := bA_tr h5
    have qb2 := bA_tr h8
    have q11 := dg_tr h11
    have q16 := dg_tr h16
    have q19 := lt_tr h19
    rw [h6] at qb2
    rw [decide_eq_true (by omega)]
    refine ⟨qs, ?_⟩
    unfold sgn
    rw [← qb1, ← qb2]
    first
    | (exfalso; omega)
    | (rw [if_neg (by omega), if_neg (by omega), if_neg (fun z => by cases z.2.2), if_neg (by omega), if_neg (by omega), if_pos (by omega)]; obtain ⟨r1, r2⟩ := wd_tr (by omega) (by omega) h22; exact ⟨r1, r2, fun a b => by have w := wdK_no (bA f n.toInt) n.toInt x1.toInt (ltr (bA f n.toInt) n.toInt x1.toInt); omega⟩)
  · intro x1 x2 x3 x4 x5 x6 x7 x8 x9 h1 h2 h3 h4 h5 h6 h7 h8 h9 h10 h11 h12 h13 h14 h15 h16 h17 h18 h19
    try dsimp only at *
    have qs := skp_tr h3
    have qb1 := bA_tr h5
    have qb2 := bA_tr h8
    have q11 := dg_tr h11
    have q16 := dg_tr h16
    rw [h6] at qb2
    rw [decide_eq_true (by omega)]
    refine ⟨qs, ?_⟩
    unfold sgn
    rw [← qb1, ← qb2]
    rw [if_neg (by omega), if_neg (by omega), if_neg (fun z => by cases z.2.2), if_pos (by omega)]
    have r := nam_tr (by decide) (by decide) (by omega) (by omega) h19
    rw [show Int32.toInt 2 = 2 from by decide, show Int32.toInt 100 = 100 from by decide] at r
    exact r
  · intro x1 x2 x3 x4 x5 x6 x7 x8 x9 x10 h1 h2 h3 h4 h5 h6 h7 h8 h9 h10 h11 h12 h13 h14 h15 h16 h17 h18 h19 h20 h21 h22
    try dsimp only at *
    have qs := skp_tr h3
    have qb1 := bA_tr h5
    have qb2 := bA_tr h8
    have q11 := dg_tr h11
    have q15 := dg_tr h15
    have q18 := lt_tr h18
    rw [h6] at qb2
    rw [decide_eq_true (by omega)]
    refine ⟨qs, ?_⟩
    unfold sgn
    rw [← qb1, ← qb2]
    first
    | (exfalso; omega)
    | (rw [if_neg (by omega), if_neg (by omega), if_neg (fun z => by cases z.2.2), if_neg (by omega), if_neg (by omega), if_neg (by omega)]; have r := mk_tr (by omega) (by omega) h22; exact r)
  · intro x1 x2 x3 x4 x5 x6 x7 x8 x9 h1 h2 h3 h4 h5 h6 h7 h8 h9 h10 h11 h12 h13 h14 h15 h16 h17 h18 h19 h20 h21
    try dsimp only at *
    have qs := skp_tr h3
    have qb1 := bA_tr h5
    have qb2 := bA_tr h8
    have q11 := dg_tr h11
    have q15 := dg_tr h15
    have q18 := lt_tr h18
    rw [h6] at qb2
    rw [decide_eq_true (by omega)]
    refine ⟨qs, ?_⟩
    unfold sgn
    rw [← qb1, ← qb2]
    first
    | (exfalso; omega)
    | (rw [if_neg (by omega), if_neg (by omega), if_neg (fun z => by cases z.2.2), if_neg (by omega), if_neg (by omega), if_pos (by omega)]; obtain ⟨r1, r2⟩ := wd_tr (by omega) (by omega) h21; exact ⟨r1, r2, fun a b => by have w := wdK_no (bA f n.toInt) n.toInt x1.toInt (ltr (bA f n.toInt) n.toInt x1.toInt); omega⟩)
  · intro x1 x2 x3 x4 x5 x6 x7 x8 x9 x10 h1 h2 h3 h4 h5 h6 h7 h8 h9 h10 h11 h12 h13 h14 h15 h16 h17 h18 h19 h20 h21 h22
    try dsimp only at *
    have qs := skp_tr h3
    have qb1 := bA_tr h5
    have qb2 := bA_tr h8
    have q11 := dg_tr h11
    have q15 := dg_tr h15
    have q18 := lt_tr h18
    rw [h6] at qb2
    rw [decide_eq_true (by omega)]
    refine ⟨qs, ?_⟩
    unfold sgn
    rw [← qb1, ← qb2]
    first
    | (exfalso; omega)
    | (rw [if_neg (by omega), if_neg (by omega), if_neg (fun z => by cases z.2.2), if_neg (by omega), if_neg (by omega), if_neg (by omega)]; have r := mk_tr (by omega) (by omega) h22; exact r)
  · intro x1 x2 x3 x4 x5 x6 x7 x8 x9 h1 h2 h3 h4 h5 h6 h7 h8 h9 h10 h11 h12 h13 h14 h15 h16 h17 h18 h19 h20 h21
    try dsimp only at *
    have qs := skp_tr h3
    have qb1 := bA_tr h5
    have qb2 := bA_tr h8
    have q11 := dg_tr h11
    have q15 := dg_tr h15
    have q18 := lt_tr h18
    rw [h6] at qb2
    rw [decide_eq_true (by omega)]
    refine ⟨qs, ?_⟩
    unfold sgn
    rw [← qb1, ← qb2]
    first
    | (exfalso; omega)
    | (rw [if_neg (by omega), if_neg (by omega), if_neg (fun z => by cases z.2.2), if_neg (by omega), if_neg (by omega), if_pos (by omega)]; obtain ⟨r1, r2⟩ := wd_tr (by omega) (by omega) h21; exact ⟨r1, r2, fun a b => by have w := wdK_no (bA f n.toInt) n.toInt x1.toInt (ltr (bA f n.toInt) n.toInt x1.toInt); omega⟩)
  · intro x1 x2 x3 x4 h1 h2 h3 h4 h5 h6 h7 h8 h9
    try dsimp only at *
    have qs := skp_tr h3
    have qb1 := bA_tr h5
    have qb2 := bA_tr h8
    rw [h6] at qb2
    rw [decide_eq_true (by omega)]
    refine ⟨qs, ?_⟩
    unfold sgn
    rw [← qb1, ← qb2]
    rw [if_pos (by omega)]
    exact ⟨px_1, rfl, fun a b => by rw [px_1] at a; omega⟩
  · intro x1 x2 x3 x4 x5 x6 x7 x8 h1 h2 h3 h4 h5 h6 h7 h8 h9 h10 h11 h12 h13 h14 h15 h16
    try dsimp only at *
    have qs := skp_tr h4
    have qb1 := bA_tr h6
    have qb2 := bA_tr h9
    have q12 := dg_tr h12
    rw [h7] at qb2
    rw [decide_eq_false (by omega)]
    refine ⟨qs, ?_⟩
    unfold sgn
    rw [← qb1, ← qb2]
    rw [if_neg (by omega), if_pos (by omega)]
    have r := num_tr (by omega) (by omega) h16
    rw [px_0] at r
    simpa using r
  · intro x1 x2 x3 x4 x5 x6 x7 x8 h1 h2 h3 h4 h5 h6 h7 h8 h9 h10 h11 h12 h13 h14 h15 h16
    try dsimp only at *
    have qs := skp_tr h4
    have qb1 := bA_tr h6
    have qb2 := bA_tr h9
    have q12 := dg_tr h12
    rw [h7] at qb2
    rw [decide_eq_false (by omega)]
    refine ⟨qs, ?_⟩
    unfold sgn
    rw [← qb1, ← qb2]
    first
    | (exfalso; omega)
    | (rw [if_neg (by omega), if_neg (by omega), if_pos ⟨by omega, by omega, rfl⟩]; have r := num_tr (by omega) (by omega) h16; rw [px_1] at r; simpa using r)
  · intro x1 x2 x3 x4 x5 x6 x7 x8 x9 h1 h2 h3 h4 h5 h6 h7 h8 h9 h10 h11 h12 h13 h14 h15 h16 h17 h18 h19 h20 h21 h22
    try dsimp only at *
    have qs := skp_tr h4
    have qb1 := bA_tr h6
    have qb2 := bA_tr h9
    have q12 := dg_tr h12
    have q18 := lt_tr h18
    rw [h7] at qb2
    rw [decide_eq_false (by omega)]
    refine ⟨qs, ?_⟩
    unfold sgn
    rw [← qb1, ← qb2]
    first
    | (exfalso; omega)
    | (rw [if_neg (by omega), if_neg (by omega), if_neg (by omega), if_neg (by omega), if_neg (by omega), if_neg (by omega)]; have r := mk_tr (by omega) (by omega) h22; exact r)
  · intro x1 x2 x3 x4 x5 x6 x7 x8 h1 h2 h3 h4 h5 h6 h7 h8 h9 h10 h11 h12 h13 h14 h15 h16 h17 h18 h19 h20 h21
    try dsimp only at *
    have qs := skp_tr h4
    have qb1 := bA_tr h6
    have qb2 := bA_tr h9
    have q12 := dg_tr h12
    have q18 := lt_tr h18
    rw [h7] at qb2
    rw [decide_eq_false (by omega)]
    refine ⟨qs, ?_⟩
    unfold sgn
    rw [← qb1, ← qb2]
    first
    | (exfalso; omega)
    | (rw [if_neg (by omega), if_neg (by omega), if_neg (by omega), if_neg (by omega), if_neg (by omega), if_pos (by omega)]; obtain ⟨r1, r2⟩ := wd_tr (by omega) (by omega) h21; exact ⟨r1, r2, fun a b => by have w := wdK_no (bA f n.toInt) n.toInt x1.toInt (ltr (bA f n.toInt) n.toInt x1.toInt); omega⟩)
  · intro x1 x2 x3 x4 x5 x6 x7 x8 x9 x10 h1 h2 h3 h4 h5 h6 h7 h8 h9 h10 h11 h12 h13 h14 h15 h16 h17 h18 h19 h20 h21 h22 h23 h24 h25
    try dsimp only at *
    have qs := skp_tr h4
    have qb1 := bA_tr h6
    have qb2 := bA_tr h9
    have q12 := dg_tr h12
    have q18 := dg_tr h18
    have q21 := lt_tr h21
    rw [h7] at qb2
    rw [decide_eq_false (by omega)]
    refine ⟨qs, ?_⟩
    unfold sgn
    rw [← qb1, ← qb2]
    first
    | (exfalso; omega)
    | (rw [if_neg (by omega), if_neg (by omega), if_neg (by omega), if_neg (by omega), if_neg (by omega), if_neg (by omega)]; have r := mk_tr (by omega) (by omega) h25; exact r)
  · intro x1 x2 x3 x4 x5 x6 x7 x8 x9 h1 h2 h3 h4 h5 h6 h7 h8 h9 h10 h11 h12 h13 h14 h15 h16 h17 h18 h19 h20 h21 h22 h23 h24
    try dsimp only at *
    have qs := skp_tr h4
    have qb1 := bA_tr h6
    have qb2 := bA_tr h9
    have q12 := dg_tr h12
    have q18 := dg_tr h18
    have q21 := lt_tr h21
    rw [h7] at qb2
    rw [decide_eq_false (by omega)]
    refine ⟨qs, ?_⟩
    unfold sgn
    rw [← qb1, ← qb2]
    first
    | (exfalso; omega)
    | (rw [if_neg (by omega), if_neg (by omega), if_neg (by omega), if_neg (by omega), if_neg (by omega), if_pos (by omega)]; obtain ⟨r1, r2⟩ := wd_tr (by omega) (by omega) h24; exact ⟨r1, r2, fun a b => by have w := wdK_no (bA f n.toInt) n.toInt x1.toInt (ltr (bA f n.toInt) n.toInt x1.toInt); omega⟩)
  · intro x1 x2 x3 x4 x5 x6 x7 x8 x9 h1 h2 h3 h4 h5 h6 h7 h8 h9 h10 h11 h12 h13 h14 h15 h16 h17 h18 h19 h20 h21
    try dsimp only at *
    have qs := skp_tr h4
    have qb1 := bA_tr h6
    have qb2 := bA_tr h9
    have q12 := dg_tr h12
    have q18 := dg_tr h18
    rw [h7] at qb2
    rw [decide_eq_false (by omega)]
    refine ⟨qs, ?_⟩
    unfold sgn
    rw [← qb1, ← qb2]
    rw [if_neg (by omega), if_neg (by omega), if_neg (by omega), if_neg (by omega), if_pos (by omega)]
    have r := nam_tr (by decide) (by decide) (by omega) (by omega) h21
    rw [show Int32.toInt 3 = 3 from by decide, show Int32.toInt 40 = 40 from by decide] at r
    exact r
  · intro x1 x2 x3 x4 x5 x6 x7 x8 x9 x10 h1 h2 h3 h4 h5 h6 h7 h8 h9 h10 h11 h12 h13 h14 h15 h16 h17 h18 h19 h20 h21 h22 h23 h24
    try dsimp only at *
    have qs := skp_tr h4
    have qb1 := bA_tr h6
    have qb2 := bA_tr h9
    have q12 := dg_tr h12
    have q17 := dg_tr h17
    have q20 := lt_tr h20
    rw [h7] at qb2
    rw [decide_eq_false (by omega)]
    refine ⟨qs, ?_⟩
    unfold sgn
    rw [← qb1, ← qb2]
    first
    | (exfalso; omega)
    | (rw [if_neg (by omega), if_neg (by omega), if_neg (by omega), if_neg (by omega), if_neg (by omega), if_neg (by omega)]; have r := mk_tr (by omega) (by omega) h24; exact r)
  · intro x1 x2 x3 x4 x5 x6 x7 x8 x9 h1 h2 h3 h4 h5 h6 h7 h8 h9 h10 h11 h12 h13 h14 h15 h16 h17 h18 h19 h20 h21 h22 h23
    try dsimp only at *
    have qs := skp_tr h4
    have qb1 := bA_tr h6
    have qb2 := bA_tr h9
    have q12 := dg_tr h12
    have q17 := dg_tr h17
    have q20 := lt_tr h20
    rw [h7] at qb2
    rw [decide_eq_false (by omega)]
    refine ⟨qs, ?_⟩
    unfold sgn
    rw [← qb1, ← qb2]
    first
    | (exfalso; omega)
    | (rw [if_neg (by omega), if_neg (by omega), if_neg (by omega), if_neg (by omega), if_neg (by omega), if_pos (by omega)]; obtain ⟨r1, r2⟩ := wd_tr (by omega) (by omega) h23; exact ⟨r1, r2, fun a b => by have w := wdK_no (bA f n.toInt) n.toInt x1.toInt (ltr (bA f n.toInt) n.toInt x1.toInt); omega⟩)
  · intro x1 x2 x3 x4 x5 x6 x7 x8 x9 h1 h2 h3 h4 h5 h6 h7 h8 h9 h10 h11 h12 h13 h14 h15 h16 h17 h18 h19 h20
    try dsimp only at *
    have qs := skp_tr h4
    have qb1 := bA_tr h6
    have qb2 := bA_tr h9
    have q12 := dg_tr h12
    have q17 := dg_tr h17
    rw [h7] at qb2
    rw [decide_eq_false (by omega)]
    refine ⟨qs, ?_⟩
    unfold sgn
    rw [← qb1, ← qb2]
    rw [if_neg (by omega), if_neg (by omega), if_neg (by omega), if_pos (by omega)]
    have r := nam_tr (by decide) (by decide) (by omega) (by omega) h20
    rw [show Int32.toInt 2 = 2 from by decide, show Int32.toInt 100 = 100 from by decide] at r
    exact r
  · intro x1 x2 x3 x4 x5 x6 x7 x8 x9 x10 h1 h2 h3 h4 h5 h6 h7 h8 h9 h10 h11 h12 h13 h14 h15 h16 h17 h18 h19 h20 h21 h22 h23
    try dsimp only at *
    have qs := skp_tr h4
    have qb1 := bA_tr h6
    have qb2 := bA_tr h9
    have q12 := dg_tr h12
    have q16 := dg_tr h16
    have q19 := lt_tr h19
    rw [h7] at qb2
    rw [decide_eq_false (by omega)]
    refine ⟨qs, ?_⟩
    unfold sgn
    rw [← qb1, ← qb2]
    first
    | (exfalso; omega)
    | (rw [if_neg (by omega), if_neg (by omega), if_neg (by omega), if_neg (by omega), if_neg (by omega), if_neg (by omega)]; have r := mk_tr (by omega) (by omega) h23; exact r)
  · intro x1 x2 x3 x4 x5 x6 x7 x8 x9 h1 h2 h3 h4 h5 h6 h7 h8 h9 h10 h11 h12 h13 h14 h15 h16 h17 h18 h19 h20 h21 h22
    try dsimp only at *
    have qs := skp_tr h4
    have qb1 := bA_tr h6
    have qb2 := bA_tr h9
    have q12 := dg_tr h12
    have q16 := dg_tr h16
    have q19 := lt_tr h19
    rw [h7] at qb2
    rw [decide_eq_false (by omega)]
    refine ⟨qs, ?_⟩
    unfold sgn
    rw [← qb1, ← qb2]
    first
    | (exfalso; omega)
    | (rw [if_neg (by omega), if_neg (by omega), if_neg (by omega), if_neg (by omega), if_neg (by omega), if_pos (by omega)]; obtain ⟨r1, r2⟩ := wd_tr (by omega) (by omega) h22; exact ⟨r1, r2, fun a b => by have w := wdK_no (bA f n.toInt) n.toInt x1.toInt (ltr (bA f n.toInt) n.toInt x1.toInt); omega⟩)
  · intro x1 x2 x3 x4 x5 x6 x7 x8 x9 h1 h2 h3 h4 h5 h6 h7 h8 h9 h10 h11 h12 h13 h14 h15 h16 h17 h18 h19
    try dsimp only at *
    have qs := skp_tr h4
    have qb1 := bA_tr h6
    have qb2 := bA_tr h9
    have q12 := dg_tr h12
    have q16 := dg_tr h16
    rw [h7] at qb2
    rw [decide_eq_false (by omega)]
    refine ⟨qs, ?_⟩
    unfold sgn
    rw [← qb1, ← qb2]
    first
    | (exfalso; omega)
    | (rw [if_neg (by omega), if_neg (by omega), if_pos ⟨by omega, by omega, rfl⟩]; have r := num_tr (by omega) (by omega) h19; rw [px_1] at r; simpa using r)
  · intro x1 x2 x3 x4 h1 h2 h3 h4 h5 h6 h7 h8 h9 h10
    try dsimp only at *
    have qs := skp_tr h4
    have qb1 := bA_tr h6
    have qb2 := bA_tr h9
    rw [h7] at qb2
    rw [decide_eq_false (by omega)]
    refine ⟨qs, ?_⟩
    unfold sgn
    rw [← qb1, ← qb2]
    rw [if_pos (by omega)]
    exact ⟨px_1, rfl, fun a b => by rw [px_1] at a; omega⟩
  · intro x1 x2 x3 x4 x5 x6 x7 x8 h1 h2 h3 h4 h5 h6 h7 h8 h9 h10 h11 h12 h13 h14 h15 h16
    try dsimp only at *
    have qs := skp_tr h4
    have qb1 := bA_tr h6
    have qb2 := bA_tr h9
    have q12 := dg_tr h12
    rw [h7] at qb2
    rw [decide_eq_true (by omega)]
    refine ⟨qs, ?_⟩
    unfold sgn
    rw [← qb1, ← qb2]
    rw [if_neg (by omega), if_pos (by omega)]
    have r := num_tr (by omega) (by omega) h16
    rw [px_0] at r
    simpa using r
  · intro x1 x2 x3 x4 x5 x6 x7 x8 h1 h2 h3 h4 h5 h6 h7 h8 h9 h10 h11 h12 h13 h14 h15 h16
    try dsimp only at *
    have qs := skp_tr h4
    have qb1 := bA_tr h6
    have qb2 := bA_tr h9
    have q12 := dg_tr h12
    rw [h7] at qb2
    rw [decide_eq_true (by omega)]
    refine ⟨qs, ?_⟩
    unfold sgn
    rw [← qb1, ← qb2]
    first
    | (exfalso; omega)
    | (rw [if_neg (by omega), if_neg (by omega), if_pos ⟨by omega, by omega, rfl⟩]; have r := num_tr (by omega) (by omega) h16; rw [px_1] at r; simpa using r)
  · intro x1 x2 x3 x4 x5 x6 x7 x8 x9 h1 h2 h3 h4 h5 h6 h7 h8 h9 h10 h11 h12 h13 h14 h15 h16 h17 h18 h19 h20 h21 h22
    try dsimp only at *
    have qs := skp_tr h4
    have qb1 := bA_tr h6
    have qb2 := bA_tr h9
    have q12 := dg_tr h12
    have q18 := lt_tr h18
    rw [h7] at qb2
    rw [decide_eq_true (by omega)]
    refine ⟨qs, ?_⟩
    unfold sgn
    rw [← qb1, ← qb2]
    first
    | (exfalso; omega)
    | (rw [if_neg (by omega), if_neg (by omega), if_neg (fun z => by cases z.2.2), if_neg (by omega), if_neg (by omega), if_neg (by omega)]; have r := mk_tr (by omega) (by omega) h22; exact r)
  · intro x1 x2 x3 x4 x5 x6 x7 x8 h1 h2 h3 h4 h5 h6 h7 h8 h9 h10 h11 h12 h13 h14 h15 h16 h17 h18 h19 h20 h21
    try dsimp only at *
    have qs := skp_tr h4
    have qb1 := bA_tr h6
    have qb2 := bA_tr h9
    have q12 := dg_tr h12
    have q18 := lt_tr h18
    rw [h7] at qb2
    rw [decide_eq_true (by omega)]
    refine ⟨qs, ?_⟩
    unfold sgn
    rw [← qb1, ← qb2]
    first
    | (exfalso; omega)
    | (rw [if_neg (by omega), if_neg (by omega), if_neg (fun z => by cases z.2.2), if_neg (by omega), if_neg (by omega), if_pos (by omega)]; obtain ⟨r1, r2⟩ := wd_tr (by omega) (by omega) h21; exact ⟨r1, r2, fun a b => by have w := wdK_no (bA f n.toInt) n.toInt x1.toInt (ltr (bA f n.toInt) n.toInt x1.toInt); omega⟩)
  · intro x1 x2 x3 x4 x5 x6 x7 x8 x9 x10 h1 h2 h3 h4 h5 h6 h7 h8 h9 h10 h11 h12 h13 h14 h15 h16 h17 h18 h19 h20 h21 h22 h23 h24 h25
    try dsimp only at *
    have qs := skp_tr h4
    have qb1 := bA_tr h6
    have qb2 := bA_tr h9
    have q12 := dg_tr h12
    have q18 := dg_tr h18
    have q21 := lt_tr h21
    rw [h7] at qb2
    rw [decide_eq_true (by omega)]
    refine ⟨qs, ?_⟩
    unfold sgn
    rw [← qb1, ← qb2]
    first
    | (exfalso; omega)
    | (rw [if_neg (by omega), if_neg (by omega), if_neg (fun z => by cases z.2.2), if_neg (by omega), if_neg (by omega), if_neg (by omega)]; have r := mk_tr (by omega) (by omega) h25; exact r)
  · intro x1 x2 x3 x4 x5 x6 x7 x8 x9 h1 h2 h3 h4 h5 h6 h7 h8 h9 h10 h11 h12 h13 h14 h15 h16 h17 h18 h19 h20 h21 h22 h23 h24
    try dsimp only at *
    have qs := skp_tr h4
    have qb1 := bA_tr h6
    have qb2 := bA_tr h9
    have q12 := dg_tr h12
    have q18 := dg_tr h18
    have q21 := lt_tr h21
    rw [h7] at qb2
    rw [decide_eq_true (by omega)]
    refine ⟨qs, ?_⟩
    unfold sgn
    rw [← qb1, ← qb2]
    first
    | (exfalso; omega)
    | (rw [if_neg (by omega), if_neg (by omega), if_neg (fun z => by cases z.2.2), if_neg (by omega), if_neg (by omega), if_pos (by omega)]; obtain ⟨r1, r2⟩ := wd_tr (by omega) (by omega) h24; exact ⟨r1, r2, fun a b => by have w := wdK_no (bA f n.toInt) n.toInt x1.toInt (ltr (bA f n.toInt) n.toInt x1.toInt); omega⟩)
  · intro x1 x2 x3 x4 x5 x6 x7 x8 x9 h1 h2 h3 h4 h5 h6 h7 h8 h9 h10 h11 h12 h13 h14 h15 h16 h17 h18 h19 h20 h21
    try dsimp only at *
    have qs := skp_tr h4
    have qb1 := bA_tr h6
    have qb2 := bA_tr h9
    have q12 := dg_tr h12
    have q18 := dg_tr h18
    rw [h7] at qb2
    rw [decide_eq_true (by omega)]
    refine ⟨qs, ?_⟩
    unfold sgn
    rw [← qb1, ← qb2]
    rw [if_neg (by omega), if_neg (by omega), if_neg (fun z => by cases z.2.2), if_neg (by omega), if_pos (by omega)]
    have r := nam_tr (by decide) (by decide) (by omega) (by omega) h21
    rw [show Int32.toInt 3 = 3 from by decide, show Int32.toInt 40 = 40 from by decide] at r
    exact r
  · intro x1 x2 x3 x4 x5 x6 x7 x8 x9 x10 h1 h2 h3 h4 h5 h6 h7 h8 h9 h10 h11 h12 h13 h14 h15 h16 h17 h18 h19 h20 h21 h22 h23 h24
    try dsimp only at *
    have qs := skp_tr h4
    have qb1 := bA_tr h6
    have qb2 := bA_tr h9
    have q12 := dg_tr h12
    have q17 := dg_tr h17
    have q20 := lt_tr h20
    rw [h7] at qb2
    rw [decide_eq_true (by omega)]
    refine ⟨qs, ?_⟩
    unfold sgn
    rw [← qb1, ← qb2]
    first
    | (exfalso; omega)
    | (rw [if_neg (by omega), if_neg (by omega), if_neg (fun z => by cases z.2.2), if_neg (by omega), if_neg (by omega), if_neg (by omega)]; have r := mk_tr (by omega) (by omega) h24; exact r)
  · intro x1 x2 x3 x4 x5 x6 x7 x8 x9 h1 h2 h3 h4 h5 h6 h7 h8 h9 h10 h11 h12 h13 h14 h15 h16 h17 h18 h19 h20 h21 h22 h23
    try dsimp only at *
    have qs := skp_tr h4
    have qb1 := bA_tr h6
    have qb2 := bA_tr h9
    have q12 := dg_tr h12
    have q17 := dg_tr h17
    have q20 := lt_tr h20
    rw [h7] at qb2
    rw [decide_eq_true (by omega)]
    refine ⟨qs, ?_⟩
    unfold sgn
    rw [← qb1, ← qb2]
    first
    | (exfalso; omega)
    | (rw [if_neg (by omega), if_neg (by omega), if_neg (fun z => by cases z.2.2), if_neg (by omega), if_neg (by omega), if_pos (by omega)]; obtain ⟨r1, r2⟩ := wd_tr (by omega) (by omega) h23; exact ⟨r1, r2, fun a b => by have w := wdK_no (bA f n.toInt) n.toInt x1.toInt (ltr (bA f n.toInt) n.toInt x1.toInt); omega⟩)
  · intro x1 x2 x3 x4 x5 x6 x7 x8 x9 h1 h2 h3 h4 h5 h6 h7 h8 h9 h10 h11 h12 h13 h14 h15 h16 h17 h18 h19 h20
    try dsimp only at *
    have qs := skp_tr h4
    have qb1 := bA_tr h6
    have qb2 := bA_tr h9
    have q12 := dg_tr h12
    have q17 := dg_tr h17
    rw [h7] at qb2
    rw [decide_eq_true (by omega)]
    refine ⟨qs, ?_⟩
    unfold sgn
    rw [← qb1, ← qb2]
    rw [if_neg (by omega), if_neg (by omega), if_neg (fun z => by cases z.2.2), if_pos (by omega)]
    have r := nam_tr (by decide) (by decide) (by omega) (by omega) h20
    rw [show Int32.toInt 2 = 2 from by decide, show Int32.toInt 100 = 100 from by decide] at r
    exact r
  · intro x1 x2 x3 x4 x5 x6 x7 x8 x9 x10 h1 h2 h3 h4 h5 h6 h7 h8 h9 h10 h11 h12 h13 h14 h15 h16 h17 h18 h19 h20 h21 h22 h23
    try dsimp only at *
    have qs := skp_tr h4
    have qb1 := bA_tr h6
    have qb2 := bA_tr h9
    have q12 := dg_tr h12
    have q16 := dg_tr h16
    have q19 := lt_tr h19
    rw [h7] at qb2
    rw [decide_eq_true (by omega)]
    refine ⟨qs, ?_⟩
    unfold sgn
    rw [← qb1, ← qb2]
    first
    | (exfalso; omega)
    | (rw [if_neg (by omega), if_neg (by omega), if_neg (fun z => by cases z.2.2), if_neg (by omega), if_neg (by omega), if_neg (by omega)]; have r := mk_tr (by omega) (by omega) h23; exact r)
  · intro x1 x2 x3 x4 x5 x6 x7 x8 x9 h1 h2 h3 h4 h5 h6 h7 h8 h9 h10 h11 h12 h13 h14 h15 h16 h17 h18 h19 h20 h21 h22
    try dsimp only at *
    have qs := skp_tr h4
    have qb1 := bA_tr h6
    have qb2 := bA_tr h9
    have q12 := dg_tr h12
    have q16 := dg_tr h16
    have q19 := lt_tr h19
    rw [h7] at qb2
    rw [decide_eq_true (by omega)]
    refine ⟨qs, ?_⟩
    unfold sgn
    rw [← qb1, ← qb2]
    first
    | (exfalso; omega)
    | (rw [if_neg (by omega), if_neg (by omega), if_neg (fun z => by cases z.2.2), if_neg (by omega), if_neg (by omega), if_pos (by omega)]; obtain ⟨r1, r2⟩ := wd_tr (by omega) (by omega) h22; exact ⟨r1, r2, fun a b => by have w := wdK_no (bA f n.toInt) n.toInt x1.toInt (ltr (bA f n.toInt) n.toInt x1.toInt); omega⟩)
  · intro x1 x2 x3 x4 x5 x6 x7 x8 x9 x10 h1 h2 h3 h4 h5 h6 h7 h8 h9 h10 h11 h12 h13 h14 h15 h16 h17 h18 h19 h20 h21 h22 h23
    try dsimp only at *
    have qs := skp_tr h4
    have qb1 := bA_tr h6
    have qb2 := bA_tr h9
    have q12 := dg_tr h12
    have q16 := dg_tr h16
    have q19 := lt_tr h19
    rw [h7] at qb2
    rw [decide_eq_true (by omega)]
    refine ⟨qs, ?_⟩
    unfold sgn
    rw [← qb1, ← qb2]
    first
    | (exfalso; omega)
    | (rw [if_neg (by omega), if_neg (by omega), if_neg (fun z => by cases z.2.2), if_neg (by omega), if_neg (by omega), if_neg (by omega)]; have r := mk_tr (by omega) (by omega) h23; exact r)
  · intro x1 x2 x3 x4 x5 x6 x7 x8 x9 h1 h2 h3 h4 h5 h6 h7 h8 h9 h10 h11 h12 h13 h14 h15 h16 h17 h18 h19 h20 h21 h22
    try dsimp only at *
    have qs := skp_tr h4
    have qb1 := bA_tr h6
    have qb2 := bA_tr h9
    have q12 := dg_tr h12
    have q16 := dg_tr h16
    have q19 := lt_tr h19
    rw [h7] at qb2
    rw [decide_eq_true (by omega)]
    refine ⟨qs, ?_⟩
    unfold sgn
    rw [← qb1, ← qb2]
    first
    | (exfalso; omega)
    | (rw [if_neg (by omega), if_neg (by omega), if_neg (fun z => by cases z.2.2), if_neg (by omega), if_neg (by omega), if_pos (by omega)]; obtain ⟨r1, r2⟩ := wd_tr (by omega) (by omega) h22; exact ⟨r1, r2, fun a b => by have w := wdK_no (bA f n.toInt) n.toInt x1.toInt (ltr (bA f n.toInt) n.toInt x1.toInt); omega⟩)
  · intro x1 x2 x3 x4 h1 h2 h3 h4 h5 h6 h7 h8 h9 h10
    try dsimp only at *
    have qs := skp_tr h4
    have qb1 := bA_tr h6
    have qb2 := bA_tr h9
    rw [h7] at qb2
    rw [decide_eq_true (by omega)]
    refine ⟨qs, ?_⟩
    unfold sgn
    rw [← qb1, ← qb2]
    rw [if_pos (by omega)]
    exact ⟨px_1, rfl, fun a b => by rw [px_1] at a; omega⟩
end
section
/-- the bytes of a text: 0 to 255 inside, -1 outside -/
def bOk (B : Int → Int) (n : Int) : Prop := 0 ≤ n ∧ (∀ i, 0 ≤ i → i < n → 0 ≤ B i ∧ B i ≤ 255) ∧ ∀ i, ¬ (0 ≤ i ∧ i < n) → B i = -1
theorem bOk_bA {f : Nat → Int32} {n : Int} (h : 0 ≤ n) : bOk (bA f n) n := ⟨h, fun _ h0 h1 => bA_in h0 h1, fun _ h0 => bA_out h0⟩
section SG3
variable {B : Int → Int} {n : Int}
theorem dgs_b : ∀ (m : Nat) (i v : Int), (n - i).toNat = m → i ≤ n → 0 ≤ v → i ≤ (dgs B n i v).2 ∧ (dgs B n i v).2 ≤ n ∧ 0 ≤ (dgs B n i v).1 ∧ (i < n → 48 ≤ B i → B i ≤ 57 → i < (dgs B n i v).2) := by
  intro m
  induction m with
  | zero =>
    intro i v hm hi hv
    rw [dgs, if_neg (by omega)]
    exact ⟨Int.le_refl _, hi, hv, fun a _ _ => by omega⟩
  | succ m ih =>
    intro i v hm hi hv
    by_cases c : i < n ∧ 48 ≤ B i ∧ B i ≤ 57
    · rw [dgs, if_pos c]
      have q := ih (i + 1) (if v * 10 + B i - 48 ≤ 1099511627776 then v * 10 + B i - 48 else 1099511627776) (by omega) (by omega) (by split <;> omega)
      exact ⟨by omega, q.2.1, q.2.2.1, fun _ _ _ => by omega⟩
    · rw [dgs, if_neg c]
      exact ⟨Int.le_refl _, hi, hv, fun a b d => absurd ⟨a, b, d⟩ c⟩
theorem ltr_b : ∀ (m : Nat) (i : Int), (n - i).toNat = m → i ≤ n → i ≤ ltr B n i ∧ ltr B n i ≤ n ∧ (i < n → 97 ≤ B i → B i ≤ 122 → i < ltr B n i) := by
  intro m
  induction m with
  | zero =>
    intro i hm hi
    rw [ltr, if_neg (by omega)]
    exact ⟨Int.le_refl _, hi, fun a _ _ => by omega⟩
  | succ m ih =>
    intro i hm hi
    by_cases c : i < n ∧ 97 ≤ B i ∧ B i ≤ 122
    · rw [ltr, if_pos c]
      have q := ih (i + 1) (by omega) (by omega)
      exact ⟨by omega, q.2.1, fun _ _ _ => by omega⟩
    · rw [ltr, if_neg c]
      exact ⟨Int.le_refl _, hi, fun a b d => absurd ⟨a, b, d⟩ c⟩
theorem opF_b : ∀ (m : Nat) (i c d : Int), (14 - i).toNat = m → 0 ≤ i → opF i c d ≠ -1 → 0 ≤ opF i c d ∧ opF i c d ≤ 13 ∧ 0 ≤ c ∧ 0 ≤ d := by
  intro m
  induction m with
  | zero =>
    intro i c d hm hi h
    rw [opF, if_neg (by omega)] at h
    exact absurd rfl h
  | succ m ih =>
    intro i c d hm hi h
    by_cases q : i < 14
    · rw [opF, if_pos q] at h ⊢
      by_cases e : chr sb_5 (2 * i).toNat = c ∧ chr sb_5 (2 * i + 1).toNat = d
      · rw [if_pos e]
        have e1 := chr_lt (bs := sb_5) (j := (2 * i).toNat)
        have e2 := chr_lt (bs := sb_5) (j := (2 * i + 1).toNat)
        omega
      · rw [if_neg e] at h ⊢
        exact ih (i + 1) c d (by omega) (by omega) h
    · rw [opF, if_neg q] at h
      exact absurd rfl h
theorem tkO_no {k v : Int} (h2 : k ≠ 2) (h3 : k ≠ 3) (h5 : k ≠ 5) : (k = 2 → 0 ≤ v ∧ v ≤ 99) ∧ (k = 3 → 0 ≤ v ∧ v ≤ 39) ∧ (k = 5 → 0 ≤ v ∧ v ≤ 13) := ⟨fun z => absurd z h2, fun z => absurd z h3, fun z => absurd z h5⟩
/-- what holds of a sign at p -/
def sgP (n p : Int) : Int × Int × Int → Prop
  | (k, v, e) => (k = 1 ↔ p = n) ∧ (p ≠ n → p < e) ∧ p ≤ e ∧ e ≤ n ∧ ((k = 2 → 0 ≤ v ∧ v ≤ 99) ∧ (k = 3 → 0 ≤ v ∧ v ≤ 39) ∧ (k = 5 → 0 ≤ v ∧ v ≤ 13))
theorem sgP_e {p : Int} {t : Int × Int × Int} (h : sgP n p t) : (t.1 = 1 ↔ p = n) ∧ (p ≠ n → p < t.2.2) ∧ p ≤ t.2.2 ∧ t.2.2 ≤ n ∧ ((t.1 = 2 → 0 ≤ t.2.1 ∧ t.2.1 ≤ 99) ∧ (t.1 = 3 → 0 ≤ t.2.1 ∧ t.2.1 ≤ 39) ∧ (t.1 = 5 → 0 ≤ t.2.1 ∧ t.2.1 ≤ 13)) := by
  obtain ⟨k, v, e⟩ := t
  exact h
theorem sgP_o {p k v e : Int} (hk : k ≠ 1) (h : p < e) (hn : e ≤ n) (ht : (k = 2 → 0 ≤ v ∧ v ≤ 99) ∧ (k = 3 → 0 ≤ v ∧ v ≤ 39) ∧ (k = 5 → 0 ≤ v ∧ v ≤ 13)) : sgP n p (k, v, e) := ⟨⟨fun z => absurd z hk, fun z => by omega⟩, fun _ => h, by omega, hn, ht⟩
theorem nuS_f {d : Int × Int} : nuS false d = if -2147483648 ≤ d.1 ∧ d.1 ≤ 2147483647 then (4, d.1, d.2) else (0, 0, d.2) := rfl
theorem nuS_t {d : Int × Int} : nuS true d = if -2147483648 ≤ -d.1 ∧ -d.1 ≤ 2147483647 then (4, -d.1, d.2) else (0, 0, d.2) := rfl
theorem sgP_nf {p : Int} {d : Int × Int} (h : p < d.2) (hn : d.2 ≤ n) : sgP n p (nuS false d) := by
  rw [nuS_f]
  by_cases c : -2147483648 ≤ d.1 ∧ d.1 ≤ 2147483647
  · rw [if_pos c]; exact sgP_o (by decide) h hn (tkO_no (by decide) (by decide) (by decide))
  · rw [if_neg c]; exact sgP_o (by decide) h hn (tkO_no (by decide) (by decide) (by decide))
theorem sgP_nt {p : Int} {d : Int × Int} (h : p < d.2) (hn : d.2 ≤ n) : sgP n p (nuS true d) := by
  rw [nuS_t]
  by_cases c : -2147483648 ≤ -d.1 ∧ -d.1 ≤ 2147483647
  · rw [if_pos c]; exact sgP_o (by decide) h hn (tkO_no (by decide) (by decide) (by decide))
  · rw [if_neg c]; exact sgP_o (by decide) h hn (tkO_no (by decide) (by decide) (by decide))
theorem sgn_p {p : Int} {aft : Bool} (hB : bOk B n) (h0 : 0 ≤ p) (h1 : p ≤ n) : sgP n p (sgn B n p aft) := by
  obtain ⟨b0, b1, b2⟩ := hB
  unfold sgn
  by_cases c1 : B p = -1
  · rw [if_pos c1]
    have e : p = n := by
      by_cases q : p < n
      · have := b1 p h0 q; omega
      · omega
    exact ⟨⟨fun _ => e, fun _ => rfl⟩, fun z => absurd e z, Int.le_refl _, h1, tkO_no (by decide) (by decide) (by decide)⟩
  rw [if_neg c1]
  have hp : p < n := by
    by_cases q : p < n
    · exact q
    · exact absurd (b2 p (by omega)) c1
  by_cases c2 : 48 ≤ B p ∧ B p ≤ 57
  · rw [if_pos c2]
    have q := dgs_b (B := B) (n := n) _ p 0 rfl h1 (by decide)
    exact sgP_nf (q.2.2.2 hp c2.1 c2.2) q.2.1
  rw [if_neg c2]
  by_cases c3 : B p = 45 ∧ (48 ≤ B (p + 1) ∧ B (p + 1) ≤ 57) ∧ aft = false
  · rw [if_pos c3]
    have q := dgs_b (B := B) (n := n) _ (p + 1) 0 rfl (by omega) (by decide)
    exact sgP_nt (by omega) q.2.1
  rw [if_neg c3]
  have nm : ∀ {k lim : Int}, ((k = 2 ∧ lim = 100) ∨ (k = 3 ∧ lim = 40)) → sgP n p (naS k lim (dgs B n (p + 1) 0)) := fun {k lim} hk => by
    have q := dgs_b (B := B) (n := n) _ (p + 1) 0 rfl (by omega) (by decide)
    unfold naS
    by_cases e : (dgs B n (p + 1) 0).1 < lim
    · rw [if_pos e]
      exact sgP_o (by omega) (by omega) q.2.1 ⟨fun z => by omega, fun z => by omega, fun z => by omega⟩
    · rw [if_neg e]
      exact sgP_o (by decide) (by omega) q.2.1 (tkO_no (by decide) (by decide) (by decide))
  by_cases c4 : B p = 118 ∧ 48 ≤ B (p + 1) ∧ B (p + 1) ≤ 57
  · rw [if_pos c4]; exact nm (Or.inl ⟨rfl, rfl⟩)
  rw [if_neg c4]
  by_cases c5 : B p = 98 ∧ 48 ≤ B (p + 1) ∧ B (p + 1) ≤ 57
  · rw [if_pos c5]; exact nm (Or.inr ⟨rfl, rfl⟩)
  rw [if_neg c5]
  by_cases c6 : 97 ≤ B p ∧ B p ≤ 122
  · rw [if_pos c6]
    have q := ltr_b (B := B) (n := n) _ p rfl h1
    have q3 := q.2.2 hp c6.1 c6.2
    have w := wdK_no B n p (ltr B n p)
    exact sgP_o (by omega) q3 q.2.1 (tkO_no (by omega) (by omega) (by omega))
  rw [if_neg c6]
  unfold mkS
  by_cases d1 : opF 0 (B p) (B (p + 1)) ≠ -1 ∧ B (p + 1) ≠ 32
  · rw [if_pos d1]
    have q := opF_b _ 0 (B p) (B (p + 1)) rfl (by decide) d1.1
    have h2 : p + 1 < n := by
      by_cases z : p + 1 < n
      · exact z
      · have := b2 (p + 1) (by omega); omega
    exact sgP_o (by decide) (by omega) (by omega) ⟨fun z => absurd z (by decide), fun z => absurd z (by decide), fun _ => ⟨q.1, q.2.1⟩⟩
  rw [if_neg d1]
  by_cases d2 : opF 0 (B p) 32 ≠ -1
  · rw [if_pos d2]
    have q := opF_b _ 0 (B p) 32 rfl (by decide) d2
    exact sgP_o (by decide) (by omega) (by omega) ⟨fun z => absurd z (by decide), fun z => absurd z (by decide), fun _ => ⟨q.1, q.2.1⟩⟩
  rw [if_neg d2]
  by_cases d3 : B p = 58
  · rw [if_pos d3]; exact sgP_o (by decide) (by omega) (by omega) (tkO_no (by decide) (by decide) (by decide))
  rw [if_neg d3]
  by_cases d4 : B p = 61
  · rw [if_pos d4]; exact sgP_o (by decide) (by omega) (by omega) (tkO_no (by decide) (by decide) (by decide))
  rw [if_neg d4]
  exact sgP_o (by decide) (by omega) (by omega) (tkO_no (by decide) (by decide) (by decide))
theorem sgn_b {p : Int} {aft : Bool} (hB : bOk B n) (h0 : 0 ≤ p) (h1 : p ≤ n) : ((sgn B n p aft).1 = 1 ↔ p = n) ∧ (p ≠ n → p < (sgn B n p aft).2.2) ∧ p ≤ (sgn B n p aft).2.2 ∧ (sgn B n p aft).2.2 ≤ n ∧ (((sgn B n p aft).1 = 2 → 0 ≤ (sgn B n p aft).2.1 ∧ (sgn B n p aft).2.1 ≤ 99) ∧ ((sgn B n p aft).1 = 3 → 0 ≤ (sgn B n p aft).2.1 ∧ (sgn B n p aft).2.1 ≤ 39) ∧ ((sgn B n p aft).1 = 5 → 0 ≤ (sgn B n p aft).2.1 ∧ (sgn B n p aft).2.1 ≤ 13)) := sgP_e (sgn_p hB h0 h1)
end SG3
end
section
/-- the signs in a row: kind, value, place, place behind -/
def tk (B : Int → Int) (n : Int) : Nat → Int × Int × Int × Int
  | 0 => ((sgn B n (skp B n 0 0) false).1, (sgn B n (skp B n 0 0) false).2.1, skp B n 0 0, (sgn B n (skp B n 0 0) false).2.2)
  | i + 1 => ((sgn B n (skp B n (tk B n i).2.2.2 0) (decide ((tk B n i).1 = 2 ∨ (tk B n i).1 = 4))).1, (sgn B n (skp B n (tk B n i).2.2.2 0) (decide ((tk B n i).1 = 2 ∨ (tk B n i).1 = 4))).2.1, skp B n (tk B n i).2.2.2 0, (sgn B n (skp B n (tk B n i).2.2.2 0) (decide ((tk B n i).1 = 2 ∨ (tk B n i).1 = 4))).2.2)
/-- a program: how many blocks, lines of each, the lines (operation, set, left, its number, right, its number), the goals of each -/
abbrev gPg := Nat × (Nat → Nat) × (Nat → Nat → Nat → Int) × (Nat → Nat → Int)
def mkL (o s a an r rn : Int) : Nat → Int
  | 0 => o
  | 1 => s
  | 2 => a
  | 3 => an
  | 4 => r
  | _ => rn
def pgO : gPg := (0, fun _ => 0, fun _ _ _ => 0, fun _ _ => -1)
def pgB (P : gPg) : gPg := (P.1 + 1, fun b => if b = P.1 then 0 else P.2.1 b, P.2.2.1, fun b i => if b = P.1 then -1 else P.2.2.2 b i)
def pgL (P : gPg) (l : Nat → Int) : gPg := (P.1, fun b => if b + 1 = P.1 then P.2.1 b + 1 else P.2.1 b, fun b j => if b + 1 = P.1 ∧ j = P.2.1 b then l else P.2.2.1 b j, P.2.2.2)
def pgG (P : gPg) (g : Int) : gPg := (P.1, P.2.1, P.2.2.1, fun b i => if b + 1 = P.1 ∧ i = (if P.2.2.2 b 0 = -1 then 0 else 1) then g else P.2.2.2 b i)
/-- the machine over signs: what is due, the register that is set, the left operand (register, number), the operation, rows begun, a rule broken, the program -/
abbrev gMs := Int × Int × Int × Int × Int × Int × Bool × gPg
def mLine (k v op rw : Int) (bk : Bool) (P : gPg) : Option gMs :=
  if k = 2 then some (4, v, -1, 0, op, rw + 1, bk || decide (160 < rw + 1), P)
  else if k = 9 then some (8, -1, -1, 0, op, rw + 1, bk || decide (160 < rw + 1), P)
  else if k = 10 then some (9, -1, -1, 0, op, rw, bk, P)
  else if k = 12 then some (10, -1, -1, 0, op, rw, bk, P)
  else if k = 11 then some (12, -1, -1, 0, op, rw, bk, pgL P (mkL 19 (-1) (-1) 0 (-1) 0))
  else none
def rgV (k v : Int) : Int := if k = 2 then v else -1
def nmW (k v : Int) : Int := if k = 4 then v else 0
def mst (k v : Int) : gMs → Option gMs
  | (du, st, lf, ln, op, rw, bk, P) =>
    if du ≤ 1 then (if k = 3 then some (2, st, lf, ln, op, rw, bk || decide (v ≠ (P.1 : Int)), pgB P) else none)
    else if du = 2 then (if k = 6 then some (3, st, lf, ln, op, rw, bk, P) else none)
    else if du = 3 then mLine k v op rw bk P
    else if du = 4 then (if k = 7 then some (5, st, lf, ln, op, rw, bk, P) else none)
    else if du = 5 then (if k = 8 then some (3, st, lf, ln, op, rw, bk, pgL P (mkL 15 st lf ln (-1) 0)) else if k = 2 ∨ k = 4 then some (6, st, rgV k v, nmW k v, op, rw, bk, P) else none)
    else if du = 6 then (if k = 5 then some (7, st, lf, ln, v, rw, bk, P) else mLine k v op rw bk (pgL P (mkL 14 st lf ln (-1) 0)))
    else if du = 7 then (if k = 2 ∨ k = 4 then some (3, st, lf, ln, op, rw, bk, pgL P (mkL op st lf ln (rgV k v) (nmW k v))) else none)
    else if du = 8 then (if k = 2 ∨ k = 4 then some (3, st, rgV k v, nmW k v, op, rw, bk, pgL P (mkL 16 st (rgV k v) (nmW k v) (-1) 0)) else none)
    else if du = 9 then (if k = 2 ∨ k = 4 then some (11, st, rgV k v, nmW k v, op, rw, bk, pgL P (mkL 20 st (rgV k v) (nmW k v) (-1) 0)) else none)
    else if du = 10 then (if k = 2 ∨ k = 4 then some (1, st, rgV k v, nmW k v, op, rw, bk, pgL P (mkL 21 st (rgV k v) (nmW k v) (-1) 0)) else none)
    else if du = 11 then (if k = 3 then some (12, st, lf, ln, op, rw, bk, pgG P v) else none)
    else (if k = 3 then some (1, st, lf, ln, op, rw, bk, pgG P v) else none)
def mrn (B : Int → Int) (n : Int) : Nat → Option gMs
  | 0 => some (0, -1, -1, 0, 0, 0, false, pgO)
  | i + 1 => (mrn B n i).bind (mst (tk B n i).1 (tk B n i).2.1)
/-- lines in front of block b -/
def fsm (len : Nat → Nat) : Nat → Nat
  | 0 => 0
  | b + 1 => fsm len b + len b
theorem fsm_c {l m : Nat → Nat} : ∀ {b : Nat}, (∀ c, c < b → l c = m c) → fsm l b = fsm m b
  | 0, _ => rfl
  | b + 1, h => by
    show fsm l b + l b = fsm m b + m b
    rw [fsm_c (fun c hc => h c (by omega)), h b (by omega)]
theorem fsm_mo {l : Nat → Nat} {b : Nat} : ∀ {c : Nat}, b ≤ c → fsm l b ≤ fsm l c
  | 0, h => by rw [show b = 0 by omega]; exact Nat.le_refl _
  | c + 1, h => by
    by_cases e : b = c + 1
    · rw [e]; exact Nat.le_refl _
    · have h1 := fsm_mo (l := l) (show b ≤ c by omega)
      show fsm l b ≤ fsm l c + l c
      omega
theorem fsm_lt {l : Nat → Nat} {b c j : Nat} (h : b < c) (hj : j < l b) : fsm l b + j < fsm l c := by
  have h1 := fsm_mo (l := l) (show b + 1 ≤ c from h)
  have h2 : fsm l (b + 1) = fsm l b + l b := rfl
  omega
/-- the arrays of a program of the class hold P -/
def cdP (bl li : Int32) (fi fg sg op st lf ln rt rn : Nat → Int32) (P : gPg) : Prop :=
  bl.toInt = (P.1 : Int) ∧ li.toInt = (fsm P.2.1 P.1 : Int) ∧
  (∀ b : Nat, b < P.1 → (fi b).toInt = (fsm P.2.1 b : Int) ∧ (fg b).toInt = P.2.2.2 b 0 ∧ (sg b).toInt = P.2.2.2 b 1) ∧
  (∀ b j : Nat, b < P.1 → j < P.2.1 b → (op (fsm P.2.1 b + j)).toInt = P.2.2.1 b j 0 ∧ (st (fsm P.2.1 b + j)).toInt = P.2.2.1 b j 1 ∧ (lf (fsm P.2.1 b + j)).toInt = P.2.2.1 b j 2 ∧ (ln (fsm P.2.1 b + j)).toInt = P.2.2.1 b j 3 ∧ (rt (fsm P.2.1 b + j)).toInt = P.2.2.1 b j 4 ∧ (rn (fsm P.2.1 b + j)).toInt = P.2.2.1 b j 5)
theorem updE {f : Nat → Int32} {i : Nat} {v : Int32} : upd f i v i = v := by unfold upd; rw [if_pos rfl]
theorem updN {f : Nat → Int32} {i j : Nat} {v : Int32} (h : j ≠ i) : upd f i v j = f j := by unfold upd; rw [if_neg h]
theorem nnE {z : Int32} {m : Nat} (h : z.toInt = (m : Int)) : z.toNatClampNeg = m := by
  have := g_nn (z := z) (by omega)
  omega
section CDP
variable {bl li x : Int32} {fi fg sg op st lf ln rt rn fi2 fg2 sg2 op2 st2 lf2 ln2 rt2 rn2 : Nat → Int32} {P : gPg}
theorem cdP_O (h1 : bl.toInt = 0) (h2 : li.toInt = 0) : cdP bl li fi fg sg op st lf ln rt rn pgO := ⟨h1, h2, fun b h => absurd h (Nat.not_lt_zero b), fun b j h => absurd h (Nat.not_lt_zero b)⟩
theorem cdP_B (h : cdP bl li fi fg sg op st lf ln rt rn P) (hx : x.toInt = bl.toInt + 1) (h1 : fi2 = upd fi bl.toNatClampNeg li) (h2 : fg2 = upd fg bl.toNatClampNeg (-1)) (h3 : sg2 = upd sg bl.toNatClampNeg (-1)) : cdP x li fi2 fg2 sg2 op st lf ln rt rn (pgB P) := by
  obtain ⟨c1, c2, c3, c4⟩ := h
  have e := nnE c1
  have m1 : Int32.toInt (-1) = -1 := by decide
  have f1 : ∀ b, b ≤ P.1 → fsm (fun b => if b = P.1 then 0 else P.2.1 b) b = fsm P.2.1 b := fun b hb => fsm_c (fun c hc => if_neg (by omega))
  refine ⟨?_, ?_, fun b hb => ?_, fun b j hb hj => ?_⟩
  · show x.toInt = ((P.1 + 1 : Nat) : Int); omega
  · show li.toInt = ((fsm (fun b => if b = P.1 then 0 else P.2.1 b) P.1 + (if P.1 = P.1 then 0 else P.2.1 P.1) : Nat) : Int)
    rw [f1 P.1 (Nat.le_refl _), if_pos rfl]; exact c2
  · show (fi2 b).toInt = (fsm (fun b => if b = P.1 then 0 else P.2.1 b) b : Int) ∧ (fg2 b).toInt = (if b = P.1 then -1 else P.2.2.2 b 0) ∧ (sg2 b).toInt = (if b = P.1 then -1 else P.2.2.2 b 1)
    have hb2 : b < P.1 + 1 := hb
    rw [f1 b (by omega), h1, h2, h3, e]
    by_cases q : b = P.1
    · rw [q, updE, updE, updE, if_pos rfl, if_pos rfl, m1]; exact ⟨c2, rfl, rfl⟩
    · rw [updN q, updN q, updN q, if_neg q, if_neg q]; exact c3 b (by omega)
  · have hb2 : b < P.1 + 1 := hb
    have hj2 : j < (if b = P.1 then 0 else P.2.1 b) := hj
    by_cases q : b = P.1
    · rw [if_pos q] at hj2; exact absurd hj2 (Nat.not_lt_zero j)
    · rw [if_neg q] at hj2
      have r := c4 b j (by omega) hj2
      show (op (fsm (fun b => if b = P.1 then 0 else P.2.1 b) b + j)).toInt = P.2.2.1 b j 0 ∧ _
      rw [f1 b (by omega)]
      refine ⟨r.1, ?_⟩
      show (st (fsm (fun b => if b = P.1 then 0 else P.2.1 b) b + j)).toInt = P.2.2.1 b j 1 ∧ (lf (fsm (fun b => if b = P.1 then 0 else P.2.1 b) b + j)).toInt = P.2.2.1 b j 2 ∧ (ln (fsm (fun b => if b = P.1 then 0 else P.2.1 b) b + j)).toInt = P.2.2.1 b j 3 ∧ (rt (fsm (fun b => if b = P.1 then 0 else P.2.1 b) b + j)).toInt = P.2.2.1 b j 4 ∧ (rn (fsm (fun b => if b = P.1 then 0 else P.2.1 b) b + j)).toInt = P.2.2.1 b j 5
      rw [f1 b (by omega)]
      exact r.2
theorem pgL_f {l : Nat → Int} {b : Nat} (hb : b < P.1) : fsm (pgL P l).2.1 b = fsm P.2.1 b := fsm_c (fun c hc => if_neg (by omega))
theorem cdP_L {o s a an r rn1 : Int32} (h : cdP bl li fi fg sg op st lf ln rt rn P) (hP : 0 < P.1) (hx : x.toInt = li.toInt + 1) (h1 : op2 = upd op li.toNatClampNeg o) (h2 : st2 = upd st li.toNatClampNeg s) (h3 : lf2 = upd lf li.toNatClampNeg a) (h4 : ln2 = upd ln li.toNatClampNeg an) (h5 : rt2 = upd rt li.toNatClampNeg r) (h6 : rn2 = upd rn li.toNatClampNeg rn1) : cdP bl x fi fg sg op2 st2 lf2 ln2 rt2 rn2 (pgL P (mkL o.toInt s.toInt a.toInt an.toInt r.toInt rn1.toInt)) := by
  obtain ⟨c1, c2, c3, c4⟩ := h
  have e := nnE c2
  have ed : P.1 = (P.1 - 1) + 1 := by omega
  have l1 : fsm P.2.1 P.1 = fsm P.2.1 (P.1 - 1) + P.2.1 (P.1 - 1) := by rw [ed]; rfl
  refine ⟨c1, ?_, fun b hb => ?_, fun b j hb hj => ?_⟩
  · show x.toInt = (fsm (pgL P _).2.1 P.1 : Int)
    rw [ed]
    show x.toInt = ((fsm (pgL P _).2.1 (P.1 - 1) + (if P.1 - 1 + 1 = P.1 then P.2.1 (P.1 - 1) + 1 else P.2.1 (P.1 - 1)) : Nat) : Int)
    rw [pgL_f (by omega), if_pos ed.symm]; omega
  · have hb2 : b < P.1 := hb
    rw [pgL_f hb2]; exact c3 b hb2
  · have hb2 : b < P.1 := hb
    rw [pgL_f hb2]
    have hj2 : j < (if b + 1 = P.1 then P.2.1 b + 1 else P.2.1 b) := hj
    by_cases q : b + 1 = P.1 ∧ j = P.2.1 b
    · have eb : b = P.1 - 1 := by omega
      have ei : fsm P.2.1 b + j = fsm P.2.1 P.1 := by rw [q.2, l1, eb]
      have el : (pgL P (mkL o.toInt s.toInt a.toInt an.toInt r.toInt rn1.toInt)).2.2.1 b j = mkL o.toInt s.toInt a.toInt an.toInt r.toInt rn1.toInt := if_pos q
      rw [el, ei, h1, h2, h3, h4, h5, h6, e, updE, updE, updE, updE, updE, updE]
      exact ⟨rfl, rfl, rfl, rfl, rfl, rfl⟩
    · have hj3 : j < P.2.1 b := by
        by_cases q2 : b + 1 = P.1
        · rw [if_pos q2] at hj2; have : j ≠ P.2.1 b := fun z => q ⟨q2, z⟩; omega
        · rw [if_neg q2] at hj2; exact hj2
      have el : (pgL P (mkL o.toInt s.toInt a.toInt an.toInt r.toInt rn1.toInt)).2.2.1 b j = P.2.2.1 b j := if_neg q
      have ne : fsm P.2.1 b + j ≠ fsm P.2.1 P.1 := by have := fsm_lt (l := P.2.1) hb2 hj3; omega
      rw [el, h1, h2, h3, h4, h5, h6, e, updN ne, updN ne, updN ne, updN ne, updN ne, updN ne]
      exact c4 b j hb2 hj3
theorem cdP_G0 {g : Int32} {i : Nat} (h : cdP bl li fi fg sg op st lf ln rt rn P) (hi : i + 1 = P.1) (h0 : P.2.2.2 i 0 = -1) (h1 : fg2 = upd fg i g) : cdP bl li fi fg2 sg op st lf ln rt rn (pgG P g.toInt) := by
  obtain ⟨c1, c2, c3, c4⟩ := h
  refine ⟨c1, c2, fun b hb => ?_, c4⟩
  have hb2 : b < P.1 := hb
  obtain ⟨d1, d2, d3⟩ := c3 b hb2
  show (fi b).toInt = (fsm P.2.1 b : Int) ∧ (fg2 b).toInt = (if b + 1 = P.1 ∧ 0 = (if P.2.2.2 b 0 = -1 then 0 else 1) then g.toInt else P.2.2.2 b 0) ∧ (sg b).toInt = (if b + 1 = P.1 ∧ 1 = (if P.2.2.2 b 0 = -1 then 0 else 1) then g.toInt else P.2.2.2 b 1)
  by_cases q : b = i
  · rw [q, h0, if_pos rfl, if_pos ⟨hi, rfl⟩, if_neg (fun z => absurd z.2 (by decide)), h1, updE]
    rw [q] at d1 d3
    exact ⟨d1, rfl, d3⟩
  · rw [if_neg (fun z => q (by omega)), if_neg (fun z => q (by omega)), h1, updN q]
    exact ⟨d1, d2, d3⟩
theorem cdP_G1 {g : Int32} {i : Nat} (h : cdP bl li fi fg sg op st lf ln rt rn P) (hi : i + 1 = P.1) (h0 : P.2.2.2 i 0 ≠ -1) (h1 : sg2 = upd sg i g) : cdP bl li fi fg sg2 op st lf ln rt rn (pgG P g.toInt) := by
  obtain ⟨c1, c2, c3, c4⟩ := h
  refine ⟨c1, c2, fun b hb => ?_, c4⟩
  have hb2 : b < P.1 := hb
  obtain ⟨d1, d2, d3⟩ := c3 b hb2
  show (fi b).toInt = (fsm P.2.1 b : Int) ∧ (fg b).toInt = (if b + 1 = P.1 ∧ 0 = (if P.2.2.2 b 0 = -1 then 0 else 1) then g.toInt else P.2.2.2 b 0) ∧ (sg2 b).toInt = (if b + 1 = P.1 ∧ 1 = (if P.2.2.2 b 0 = -1 then 0 else 1) then g.toInt else P.2.2.2 b 1)
  by_cases q : b = i
  · rw [q, if_neg h0, if_neg (fun z => absurd z.2 (by decide)), if_pos ⟨hi, rfl⟩, h1, updE]
    rw [q] at d1 d2
    exact ⟨d1, d2, rfl⟩
  · rw [if_neg (fun z => q (by omega)), if_neg (fun z => q (by omega)), h1, updN q]
    exact ⟨d1, d2, d3⟩
end CDP
end
section
/-- a row, an end with its goals, as they are read -/
def rwO (l : Nat → Int) : Prop := (0 ≤ l 0 ∧ l 0 ≤ 16) ∧ (-1 ≤ l 2 ∧ l 2 ≤ 99) ∧ (-1 ≤ l 4 ∧ l 4 ≤ 99) ∧ (l 0 ≤ 15 → 0 ≤ l 1 ∧ l 1 ≤ 99) ∧ (l 0 = 16 → l 1 = -1) ∧ (l 0 = 15 → l 2 = -1) ∧ (14 ≤ l 0 → l 4 = -1)
def edO (l : Nat → Int) : Prop := l 1 = -1 ∧ (-1 ≤ l 2 ∧ l 2 ≤ 99) ∧ l 4 = -1 ∧ (l 0 = 19 → l 2 = -1)
def edG (o g h : Int) : Prop := (o = 19 ∧ 0 ≤ g ∧ g ≤ 39 ∧ h = -1) ∨ (o = 20 ∧ 0 ≤ g ∧ g ≤ 39 ∧ 0 ≤ h ∧ h ≤ 39) ∨ (o = 21 ∧ g = -1 ∧ h = -1)
def blC (n : Nat) (l : Nat → Nat → Int) (g : Nat → Int) : Prop := 0 < n ∧ (∀ j, j + 1 < n → rwO (l j)) ∧ edO (l (n - 1)) ∧ edG (l (n - 1) 0) (g 0) (g 1)
def blH (du : Int) (n : Nat) (l : Nat → Nat → Int) (g : Nat → Int) : Prop :=
  g 1 = -1 ∧ (du ≤ 10 → g 0 = -1 ∧ ∀ j, j < n → rwO (l j)) ∧
  (11 ≤ du → 0 < n ∧ (∀ j, j + 1 < n → rwO (l j)) ∧ edO (l (n - 1)) ∧ ((l (n - 1) 0 = 19 ∧ g 0 = -1 ∧ du = 12) ∨ (l (n - 1) 0 = 20 ∧ (du = 11 → g 0 = -1) ∧ (du = 12 → 0 ≤ g 0 ∧ g 0 ≤ 39))))
def mwf : gMs → Prop
  | (du, st, lf, ln, op, rw, bk, P) =>
    (0 ≤ du ∧ du ≤ 12) ∧ (du = 0 → P.1 = 0) ∧ (du ≠ 0 → 0 < P.1) ∧ 0 ≤ rw ∧
    (bk = false → P.1 ≤ 40 ∧ rw ≤ 160 ∧ (fsm P.2.1 P.1 : Int) ≤ rw + P.1 ∧ (2 ≤ du → du ≤ 10 → (fsm P.2.1 P.1 : Int) + 1 ≤ rw + P.1) ∧ (4 ≤ du → du ≤ 8 → (fsm P.2.1 P.1 : Int) + 2 ≤ rw + P.1)) ∧
    (4 ≤ du → du ≤ 7 → 0 ≤ st ∧ st ≤ 99) ∧ (du = 5 → lf = -1 ∧ ln = 0) ∧ (8 ≤ du → du ≤ 10 → st = -1) ∧ (4 ≤ du → du ≤ 10 → -1 ≤ lf ∧ lf ≤ 99) ∧ (du = 7 → 0 ≤ op ∧ op ≤ 13) ∧ (du = 4 → lf = -1 ∧ ln = 0) ∧
    (∀ b, b + 1 < P.1 → blC (P.2.1 b) (P.2.2.1 b) (P.2.2.2 b)) ∧ (du = 1 → ∀ b, b + 1 = P.1 → blC (P.2.1 b) (P.2.2.1 b) (P.2.2.2 b)) ∧
    (2 ≤ du → ∀ b, b + 1 = P.1 → blH du (P.2.1 b) (P.2.2.1 b) (P.2.2.2 b))
/-- what a sign's value can be -/
def tkO (k v : Int) : Prop := (k = 2 → 0 ≤ v ∧ v ≤ 99) ∧ (k = 3 → 0 ≤ v ∧ v ≤ 39) ∧ (k = 5 → 0 ≤ v ∧ v ≤ 13)
section MWF
variable {P : gPg} {l : Nat → Int} {b : Nat} {du du' k v st lf ln op rw : Int} {bk : Bool}
theorem pgL_s (h : 0 < P.1) : fsm (pgL P l).2.1 (pgL P l).1 = fsm P.2.1 P.1 + 1 := by
  have ed : P.1 = (P.1 - 1) + 1 := by omega
  show fsm (pgL P l).2.1 P.1 = _
  have l1 : fsm P.2.1 P.1 = fsm P.2.1 (P.1 - 1) + P.2.1 (P.1 - 1) := by rw [ed]; rfl
  have l2 : fsm (pgL P l).2.1 P.1 = fsm (pgL P l).2.1 (P.1 - 1) + (pgL P l).2.1 (P.1 - 1) := by rw [ed]; rfl
  have l3 : (pgL P l).2.1 (P.1 - 1) = P.2.1 (P.1 - 1) + 1 := if_pos ed.symm
  rw [l2, l1, l3, pgL_f (by omega)]; omega
theorem pgB_s : fsm (pgB P).2.1 (pgB P).1 = fsm P.2.1 P.1 := by
  show fsm (pgB P).2.1 P.1 + (if P.1 = P.1 then 0 else P.2.1 P.1) = _
  rw [if_pos rfl]
  exact fsm_c (fun c hc => if_neg (by omega))
theorem pgL_o (h : b + 1 ≠ P.1) : (pgL P l).2.1 b = P.2.1 b ∧ (pgL P l).2.2.1 b = P.2.2.1 b ∧ (pgL P l).2.2.2 b = P.2.2.2 b :=
  ⟨if_neg h, funext (fun j => if_neg (fun z => h z.1)), rfl⟩
theorem pgL_l (h : b + 1 = P.1) : (pgL P l).2.1 b = P.2.1 b + 1 ∧ (∀ j, j < P.2.1 b → (pgL P l).2.2.1 b j = P.2.2.1 b j) ∧ (pgL P l).2.2.1 b (P.2.1 b) = l ∧ (pgL P l).2.2.2 b = P.2.2.2 b :=
  ⟨if_pos h, fun j hj => if_neg (fun z => absurd z.2 (by omega)), if_pos ⟨h, rfl⟩, rfl⟩
theorem pgB_o (h : b ≠ P.1) : (pgB P).2.1 b = P.2.1 b ∧ (pgB P).2.2.1 b = P.2.2.1 b ∧ (pgB P).2.2.2 b = P.2.2.2 b :=
  ⟨if_neg h, rfl, funext (fun i => if_neg h)⟩
theorem pgG_o {g : Int} (h : b + 1 ≠ P.1) : (pgG P g).2.1 b = P.2.1 b ∧ (pgG P g).2.2.1 b = P.2.2.1 b ∧ (pgG P g).2.2.2 b = P.2.2.2 b :=
  ⟨rfl, rfl, funext (fun i => if_neg (fun z => h z.1))⟩
theorem blC_L (h : ∀ b, b + 1 < P.1 → blC (P.2.1 b) (P.2.2.1 b) (P.2.2.2 b)) : ∀ b, b + 1 < (pgL P l).1 → blC ((pgL P l).2.1 b) ((pgL P l).2.2.1 b) ((pgL P l).2.2.2 b) := fun b hb => by
  have hb2 : b + 1 < P.1 := hb
  obtain ⟨e1, e2, e3⟩ := pgL_o (l := l) (show b + 1 ≠ P.1 by omega)
  rw [e1, e2, e3]; exact h b hb2
theorem blC_G {g : Int} (h : ∀ b, b + 1 < P.1 → blC (P.2.1 b) (P.2.2.1 b) (P.2.2.2 b)) : ∀ b, b + 1 < (pgG P g).1 → blC ((pgG P g).2.1 b) ((pgG P g).2.2.1 b) ((pgG P g).2.2.2 b) := fun b hb => by
  have hb2 : b + 1 < P.1 := hb
  obtain ⟨e1, e2, e3⟩ := pgG_o (g := g) (show b + 1 ≠ P.1 by omega)
  rw [e1, e2, e3]; exact h b hb2
theorem blH_row (h : ∀ b, b + 1 = P.1 → blH du (P.2.1 b) (P.2.2.1 b) (P.2.2.2 b)) (hd : du ≤ 10) (hd' : du' ≤ 10) (hl : rwO l) : ∀ b, b + 1 = (pgL P l).1 → blH du' ((pgL P l).2.1 b) ((pgL P l).2.2.1 b) ((pgL P l).2.2.2 b) := fun b hb => by
  obtain ⟨e1, e2, e3, e4⟩ := pgL_l (l := l) (show b + 1 = P.1 from hb)
  obtain ⟨g1, g2, -⟩ := h b hb
  rw [e1, e4]
  refine ⟨g1, fun _ => ⟨(g2 hd).1, fun j hj => ?_⟩, fun z => absurd z (by omega)⟩
  by_cases q : j = P.2.1 b
  · rw [q, e3]; exact hl
  · rw [e2 j (by omega)]; exact (g2 hd).2 j (by omega)
theorem blH_same (h : ∀ b, b + 1 = P.1 → blH du (P.2.1 b) (P.2.2.1 b) (P.2.2.2 b)) (hd : du ≤ 10) (hd' : du' ≤ 10) : ∀ b, b + 1 = P.1 → blH du' (P.2.1 b) (P.2.2.1 b) (P.2.2.2 b) := fun b hb => by
  obtain ⟨g1, g2, -⟩ := h b hb
  exact ⟨g1, fun _ => g2 hd, fun z => absurd z (by omega)⟩
theorem bl_end (h : ∀ b, b + 1 = P.1 → blH du (P.2.1 b) (P.2.2.1 b) (P.2.2.2 b)) (hd : du ≤ 10) (hl : edO l) : ∀ b, b + 1 = (pgL P l).1 → 0 < (pgL P l).2.1 b ∧ (∀ j, j + 1 < (pgL P l).2.1 b → rwO ((pgL P l).2.2.1 b j)) ∧ edO ((pgL P l).2.2.1 b ((pgL P l).2.1 b - 1)) ∧ (pgL P l).2.2.1 b ((pgL P l).2.1 b - 1) 0 = l 0 ∧ (pgL P l).2.2.2 b 0 = -1 ∧ (pgL P l).2.2.2 b 1 = -1 := fun b hb => by
  obtain ⟨e1, e2, e3, e4⟩ := pgL_l (l := l) (show b + 1 = P.1 from hb)
  obtain ⟨g1, g2, -⟩ := h b hb
  rw [e1, e4, Nat.add_sub_cancel, e3]
  refine ⟨Nat.succ_pos _, fun j hj => ?_, hl, rfl, (g2 hd).1, g1⟩
  rw [e2 j (by omega)]; exact (g2 hd).2 j (by omega)
theorem pgG_l {g : Int} (h : b + 1 = P.1) : (P.2.2.2 b 0 = -1 → (pgG P g).2.2.2 b 0 = g ∧ (pgG P g).2.2.2 b 1 = P.2.2.2 b 1) ∧ (P.2.2.2 b 0 ≠ -1 → (pgG P g).2.2.2 b 0 = P.2.2.2 b 0 ∧ (pgG P g).2.2.2 b 1 = g) := by
  refine ⟨fun q => ⟨if_pos ⟨h, by rw [if_pos q]⟩, if_neg (fun z => ?_)⟩, fun q => ⟨if_neg (fun z => ?_), if_pos ⟨h, by rw [if_neg q]⟩⟩⟩
  · have := z.2; rw [if_pos q] at this; exact absurd this (by decide)
  · have := z.2; rw [if_neg q] at this; exact absurd this (by decide)
theorem mLine_wf {s : gMs} (ht : tkO k v) (h : mLine k v op rw bk P = some s) (h1 : 0 < P.1) (h2 : 0 ≤ rw) (h3 : bk = false → P.1 ≤ 40 ∧ rw ≤ 160 ∧ (fsm P.2.1 P.1 : Int) + 1 ≤ rw + P.1) (h4 : ∀ b, b + 1 < P.1 → blC (P.2.1 b) (P.2.2.1 b) (P.2.2.2 b)) (h5 : ∀ b, b + 1 = P.1 → blH 3 (P.2.1 b) (P.2.2.1 b) (P.2.2.2 b)) : mwf s := by
  unfold mLine at h
  by_cases c1 : k = 2
  · rw [if_pos c1] at h; cases h
    have hv := ht.1 c1
    refine ⟨⟨by decide, by decide⟩, fun z => absurd z (by decide), fun _ => h1, by omega, fun z => ?_, fun _ _ => hv, fun z => absurd z (by decide), fun z => absurd z (by decide), fun _ _ => ⟨by decide, by decide⟩, fun z => absurd z (by decide), fun _ => ⟨rfl, rfl⟩, h4, fun z => absurd z (by decide), fun _ => blH_same h5 (by decide) (by decide)⟩
    rw [Bool.or_eq_false_iff, decide_eq_false_iff_not] at z
    have := h3 z.1
    exact ⟨this.1, by omega, by omega, fun _ _ => by omega, fun _ _ => by omega⟩
  rw [if_neg c1] at h
  by_cases c2 : k = 9
  · rw [if_pos c2] at h; cases h
    refine ⟨⟨by decide, by decide⟩, fun z => absurd z (by decide), fun _ => h1, by omega, fun z => ?_, fun _ z => absurd z (by decide), fun z => absurd z (by decide), fun _ _ => rfl, fun _ _ => ⟨by decide, by decide⟩, fun z => absurd z (by decide), fun z => absurd z (by decide), h4, fun z => absurd z (by decide), fun _ => blH_same h5 (by decide) (by decide)⟩
    rw [Bool.or_eq_false_iff, decide_eq_false_iff_not] at z
    have := h3 z.1
    exact ⟨this.1, by omega, by omega, fun _ _ => by omega, fun _ _ => by omega⟩
  rw [if_neg c2] at h
  by_cases c3 : k = 10
  · rw [if_pos c3] at h; cases h
    refine ⟨⟨by decide, by decide⟩, fun z => absurd z (by decide), fun _ => h1, h2, fun z => ?_, fun _ z => absurd z (by decide), fun z => absurd z (by decide), fun _ _ => rfl, fun _ _ => ⟨by decide, by decide⟩, fun z => absurd z (by decide), fun z => absurd z (by decide), h4, fun z => absurd z (by decide), fun _ => blH_same h5 (by decide) (by decide)⟩
    have := h3 z
    exact ⟨this.1, this.2.1, by omega, fun _ _ => this.2.2, fun _ z => absurd z (by decide)⟩
  rw [if_neg c3] at h
  by_cases c4 : k = 12
  · rw [if_pos c4] at h; cases h
    refine ⟨⟨by decide, by decide⟩, fun z => absurd z (by decide), fun _ => h1, h2, fun z => ?_, fun _ z => absurd z (by decide), fun z => absurd z (by decide), fun _ _ => rfl, fun _ _ => ⟨by decide, by decide⟩, fun z => absurd z (by decide), fun z => absurd z (by decide), h4, fun z => absurd z (by decide), fun _ => blH_same h5 (by decide) (by decide)⟩
    have := h3 z
    exact ⟨this.1, this.2.1, by omega, fun _ _ => this.2.2, fun _ z => absurd z (by decide)⟩
  rw [if_neg c4] at h
  by_cases c5 : k = 11
  · rw [if_pos c5] at h; cases h
    refine ⟨⟨by decide, by decide⟩, fun z => absurd z (by decide), fun _ => h1, h2, fun z => ?_, fun _ z => absurd z (by decide), fun z => absurd z (by decide), fun _ z => absurd z (by decide), fun _ z => absurd z (by decide), fun z => absurd z (by decide), fun z => absurd z (by decide), blC_L h4, fun z => absurd z (by decide), fun _ b hb => ?_⟩
    · have := h3 z
      rw [pgL_s h1]
      exact ⟨this.1, this.2.1, by show ((fsm P.2.1 P.1 + 1 : Nat) : Int) ≤ rw + P.1; omega, fun _ z => absurd z (by decide), fun _ z => absurd z (by decide)⟩
    · obtain ⟨q1, q2, q3, q4, q5, q6⟩ := bl_end (l := mkL 19 (-1) (-1) 0 (-1) 0) h5 (by decide) ⟨rfl, ⟨by decide, by decide⟩, rfl, fun _ => rfl⟩ b hb
      exact ⟨q6, fun z => absurd z (by decide), fun _ => ⟨q1, q2, q3, Or.inl ⟨q4, q5, rfl⟩⟩⟩
  rw [if_neg c5] at h; cases h
theorem rg_b (ht : tkO k v) : -1 ≤ rgV k v ∧ rgV k v ≤ 99 := by
  unfold rgV
  by_cases c : k = 2
  · rw [if_pos c]; have := ht.1 c; omega
  · rw [if_neg c]; omega
end MWF
end
section
theorem rwO_mk {o s a an r rn : Int} (h0 : 0 ≤ o ∧ o ≤ 16) (h2 : -1 ≤ a ∧ a ≤ 99) (h4 : -1 ≤ r ∧ r ≤ 99) (h1 : o ≤ 15 → 0 ≤ s ∧ s ≤ 99) (h6 : o = 16 → s = -1) (h5 : o = 15 → a = -1) (h7 : 14 ≤ o → r = -1) : rwO (mkL o s a an r rn) := ⟨h0, h2, h4, h1, h6, h5, h7⟩
theorem edO_mk {o s a an r rn : Int} (h1 : s = -1) (h2 : -1 ≤ a ∧ a ≤ 99) (h4 : r = -1) (h7 : o = 19 → a = -1) : edO (mkL o s a an r rn) := ⟨h1, h2, h4, h7⟩
theorem mst_wf {s s' : gMs} {k v : Int} (ht : tkO k v) (hw : mwf s) (h : mst k v s = some s') : mwf s' := by
  obtain ⟨du, st, lf, ln, op, rw, bk, P⟩ := s
  obtain ⟨⟨w0, w1⟩, w2, w3, w4, w5, w6, w7, w8, w9, w10, w11, w12, w13, w14⟩ := hw
  have hr := rg_b ht
  simp only [mst] at h
  by_cases d0 : du ≤ 1
  · rw [if_pos d0] at h
    by_cases c : k = 3
    · rw [if_pos c] at h; cases h
      have hv := ht.2.1 c
      refine ⟨⟨by decide, by decide⟩, fun z => absurd z (by decide), fun _ => Nat.succ_pos _, w4, fun z => ?_, fun z => absurd z (by decide), fun z => absurd z (by decide), fun z => absurd z (by decide), fun z => absurd z (by decide), fun z => absurd z (by decide), fun z => absurd z (by decide), fun b hb => ?_, fun z => absurd z (by decide), fun _ b hb => ?_⟩
      · rw [Bool.or_eq_false_iff, decide_eq_false_iff_not, Decidable.not_not] at z
        have := w5 z.1
        rw [pgB_s]
        have e1 : (pgB P).1 = P.1 + 1 := rfl
        rw [e1]
        exact ⟨by omega, this.2.1, by omega, fun _ _ => by omega, fun z => absurd z (by decide)⟩
      · have hb2 : b + 1 < P.1 + 1 := hb
        obtain ⟨e1, e2, e3⟩ := pgB_o (P := P) (b := b) (by omega)
        rw [e1, e2, e3]
        by_cases q : b + 1 = P.1
        · exact w13 (by have := w3; omega) b q
        · exact w12 b (by omega)
      · have hb2 : b + 1 = P.1 + 1 := hb
        have eb : b = P.1 := by omega
        have e1 : (pgB P).2.1 b = 0 := if_pos eb
        have e2 : (pgB P).2.2.2 b = fun _ => -1 := funext (fun i => if_pos eb)
        rw [e1, e2]
        exact ⟨rfl, fun _ => ⟨rfl, fun j hj => absurd hj (Nat.not_lt_zero j)⟩, fun z => absurd z (by decide)⟩
    · rw [if_neg c] at h; cases h
  rw [if_neg d0] at h
  by_cases d1 : du = 2
  · rw [if_pos d1] at h
    by_cases c : k = 6
    · rw [if_pos c] at h; cases h
      refine ⟨⟨by decide, by decide⟩, fun z => absurd z (by decide), fun _ => w3 (by omega), w4, fun z => ?_, fun z => absurd z (by decide), fun z => absurd z (by decide), fun z => absurd z (by decide), fun z => absurd z (by decide), fun z => absurd z (by decide), fun z => absurd z (by decide), w12, fun z => absurd z (by decide), fun _ => blH_same (w14 (by omega)) (by omega) (by decide)⟩
      have := w5 z
      exact ⟨this.1, this.2.1, this.2.2.1, fun _ _ => this.2.2.2.1 (by omega) (by omega), fun z => absurd z (by decide)⟩
    · rw [if_neg c] at h; cases h
  rw [if_neg d1] at h
  by_cases d2 : du = 3
  · rw [if_pos d2] at h
    refine mLine_wf ht h (w3 (by omega)) w4 (fun z => ?_) w12 (blH_same (w14 (by omega)) (by omega) (by decide))
    have := w5 z
    exact ⟨this.1, this.2.1, this.2.2.2.1 (by omega) (by omega)⟩
  rw [if_neg d2] at h
  by_cases d3 : du = 4
  · rw [if_pos d3] at h
    by_cases c : k = 7
    · rw [if_pos c] at h; cases h
      refine ⟨⟨by decide, by decide⟩, fun z => absurd z (by decide), fun _ => w3 (by omega), w4, fun z => ?_, fun _ _ => w6 (by omega) (by omega), fun _ => w11 (by omega), fun z => absurd z (by decide), fun _ _ => w9 (by omega) (by omega), fun z => absurd z (by decide), fun z => absurd z (by decide), w12, fun z => absurd z (by decide), fun _ => blH_same (w14 (by omega)) (by omega) (by decide)⟩
      have := w5 z
      exact ⟨this.1, this.2.1, this.2.2.1, fun _ _ => this.2.2.2.1 (by omega) (by omega), fun _ _ => this.2.2.2.2 (by omega) (by omega)⟩
    · rw [if_neg c] at h; cases h
  rw [if_neg d3] at h
  by_cases d4 : du = 5
  · rw [if_pos d4] at h
    by_cases c8 : k = 8
    · rw [if_pos c8] at h; cases h
      refine ⟨⟨by decide, by decide⟩, fun z => absurd z (by decide), fun _ => w3 (by omega), w4, fun z => ?_, fun z => absurd z (by decide), fun z => absurd z (by decide), fun z => absurd z (by decide), fun z => absurd z (by decide), fun z => absurd z (by decide), fun z => absurd z (by decide), blC_L w12, fun z => absurd z (by decide), fun _ => blH_row (w14 (by omega)) (by omega) (by decide) (rwO_mk ⟨by decide, by decide⟩ (by have := w7 d4; rw [this.1]; decide) ⟨by decide, by decide⟩ (fun _ => w6 (by omega) (by omega)) (fun z => absurd z (by decide)) (fun _ => (w7 d4).1) (fun _ => rfl))⟩
      have := w5 z
      rw [pgL_s (w3 (by omega))]
      have e5 := this.2.2.2.2 (by omega) (by omega)
      exact ⟨this.1, this.2.1, by show ((fsm P.2.1 P.1 + 1 : Nat) : Int) ≤ rw + P.1; omega, fun _ _ => by show ((fsm P.2.1 P.1 + 1 : Nat) : Int) + 1 ≤ rw + P.1; omega, fun z => absurd z (by decide)⟩
    · rw [if_neg c8] at h
      by_cases c : k = 2 ∨ k = 4
      · rw [if_pos c] at h; cases h
        refine ⟨⟨by decide, by decide⟩, fun z => absurd z (by decide), fun _ => w3 (by omega), w4, fun z => ?_, fun _ _ => w6 (by omega) (by omega), fun z => absurd z (by decide), fun z => absurd z (by decide), fun _ _ => hr, fun z => absurd z (by decide), fun z => absurd z (by decide), w12, fun z => absurd z (by decide), fun _ => blH_same (w14 (by omega)) (by omega) (by decide)⟩
        have := w5 z
        exact ⟨this.1, this.2.1, this.2.2.1, fun _ _ => this.2.2.2.1 (by omega) (by omega), fun _ _ => this.2.2.2.2 (by omega) (by omega)⟩
      · rw [if_neg c] at h; cases h
  rw [if_neg d4] at h
  by_cases d5 : du = 6
  · rw [if_pos d5] at h
    by_cases c5 : k = 5
    · rw [if_pos c5] at h; cases h
      refine ⟨⟨by decide, by decide⟩, fun z => absurd z (by decide), fun _ => w3 (by omega), w4, fun z => ?_, fun _ _ => w6 (by omega) (by omega), fun z => absurd z (by decide), fun z => absurd z (by decide), fun _ _ => w9 (by omega) (by omega), fun _ => ht.2.2 c5, fun z => absurd z (by decide), w12, fun z => absurd z (by decide), fun _ => blH_same (w14 (by omega)) (by omega) (by decide)⟩
      have := w5 z
      exact ⟨this.1, this.2.1, this.2.2.1, fun _ _ => this.2.2.2.1 (by omega) (by omega), fun _ _ => this.2.2.2.2 (by omega) (by omega)⟩
    · rw [if_neg c5] at h
      refine mLine_wf ht h (w3 (by omega)) w4 (fun z => ?_) (blC_L w12) (blH_row (w14 (by omega)) (by omega) (by decide) (rwO_mk ⟨by decide, by decide⟩ (w9 (by omega) (by omega)) ⟨by decide, by decide⟩ (fun _ => w6 (by omega) (by omega)) (fun z => absurd z (by decide)) (fun z => absurd z (by decide)) (fun _ => rfl)))
      have := w5 z
      rw [pgL_s (w3 (by omega))]
      have e5 := this.2.2.2.2 (by omega) (by omega)
      exact ⟨this.1, this.2.1, by show ((fsm P.2.1 P.1 + 1 : Nat) : Int) + 1 ≤ rw + P.1; omega⟩
  rw [if_neg d5] at h
  by_cases d6 : du = 7
  · rw [if_pos d6] at h
    by_cases c : k = 2 ∨ k = 4
    · rw [if_pos c] at h; cases h
      have ho := w10 (by omega)
      refine ⟨⟨by decide, by decide⟩, fun z => absurd z (by decide), fun _ => w3 (by omega), w4, fun z => ?_, fun z => absurd z (by decide), fun z => absurd z (by decide), fun z => absurd z (by decide), fun z => absurd z (by decide), fun z => absurd z (by decide), fun z => absurd z (by decide), blC_L w12, fun z => absurd z (by decide), fun _ => blH_row (w14 (by omega)) (by omega) (by decide) (rwO_mk ⟨ho.1, (by show op ≤ 16; omega)⟩ (w9 (by omega) (by omega)) (hr) (fun _ => w6 (by omega) (by omega)) (fun z => absurd (show op = 16 from z) (by omega)) (fun z => absurd (show op = 15 from z) (by omega)) (fun z => absurd (show 14 ≤ op from z) (by omega)))⟩
      have := w5 z
      rw [pgL_s (w3 (by omega))]
      have e5 := this.2.2.2.2 (by omega) (by omega)
      exact ⟨this.1, this.2.1, by show ((fsm P.2.1 P.1 + 1 : Nat) : Int) ≤ rw + P.1; omega, fun _ _ => by show ((fsm P.2.1 P.1 + 1 : Nat) : Int) + 1 ≤ rw + P.1; omega, fun z => absurd z (by decide)⟩
    · rw [if_neg c] at h; cases h
  rw [if_neg d6] at h
  by_cases d7 : du = 8
  · rw [if_pos d7] at h
    by_cases c : k = 2 ∨ k = 4
    · rw [if_pos c] at h; cases h
      refine ⟨⟨by decide, by decide⟩, fun z => absurd z (by decide), fun _ => w3 (by omega), w4, fun z => ?_, fun z => absurd z (by decide), fun z => absurd z (by decide), fun z => absurd z (by decide), fun z => absurd z (by decide), fun z => absurd z (by decide), fun z => absurd z (by decide), blC_L w12, fun z => absurd z (by decide), fun _ => blH_row (w14 (by omega)) (by omega) (by decide) (rwO_mk ⟨by decide, by decide⟩ (hr) ⟨by decide, by decide⟩ (fun z => absurd z (by decide)) (fun _ => w8 (by omega) (by omega)) (fun z => absurd z (by decide)) (fun _ => rfl))⟩
      have := w5 z
      rw [pgL_s (w3 (by omega))]
      have e5 := this.2.2.2.2 (by omega) (by omega)
      exact ⟨this.1, this.2.1, by show ((fsm P.2.1 P.1 + 1 : Nat) : Int) ≤ rw + P.1; omega, fun _ _ => by show ((fsm P.2.1 P.1 + 1 : Nat) : Int) + 1 ≤ rw + P.1; omega, fun z => absurd z (by decide)⟩
    · rw [if_neg c] at h; cases h
  rw [if_neg d7] at h
  by_cases d8 : du = 9
  · rw [if_pos d8] at h
    by_cases c : k = 2 ∨ k = 4
    · rw [if_pos c] at h; cases h
      have hb1 : ∀ b, b + 1 = P.1 → _ := bl_end (l := mkL 20 st (rgV k v) (nmW k v) (-1) 0) (w14 (by omega)) (by omega) (edO_mk (w8 (by omega) (by omega)) (hr) (rfl) (fun z => absurd z (by decide)))
      refine ⟨⟨by decide, by decide⟩, fun z => absurd z (by decide), fun _ => w3 (by omega), w4, fun z => ?_, fun _ z => absurd z (by decide), fun z => absurd z (by decide), fun _ z => absurd z (by decide), fun _ z => absurd z (by decide), fun z => absurd z (by decide), fun z => absurd z (by decide), blC_L w12, fun z => absurd z (by decide), fun _ b hb => ?_⟩
      · have := w5 z
        rw [pgL_s (w3 (by omega))]
        have e5 := this.2.2.2.1 (by omega) (by omega)
        exact ⟨this.1, this.2.1, by show ((fsm P.2.1 P.1 + 1 : Nat) : Int) ≤ rw + P.1; omega, fun _ z => absurd z (by decide), fun _ z => absurd z (by decide)⟩
      · obtain ⟨q1, q2, q3, q4, q5, q6⟩ := hb1 b hb
        exact ⟨q6, fun z => absurd z (by decide), fun _ => ⟨q1, q2, q3, Or.inr ⟨q4, fun _ => q5, fun z => absurd z (by decide)⟩⟩⟩
    · rw [if_neg c] at h; cases h
  rw [if_neg d8] at h
  by_cases d9 : du = 10
  · rw [if_pos d9] at h
    by_cases c : k = 2 ∨ k = 4
    · rw [if_pos c] at h; cases h
      have hb1 : ∀ b, b + 1 = P.1 → _ := bl_end (l := mkL 21 st (rgV k v) (nmW k v) (-1) 0) (w14 (by omega)) (by omega) (edO_mk (w8 (by omega) (by omega)) (hr) (rfl) (fun z => absurd z (by decide)))
      refine ⟨⟨by decide, by decide⟩, fun z => absurd z (by decide), fun _ => w3 (by omega), w4, fun z => ?_, fun z => absurd z (by decide), fun z => absurd z (by decide), fun z => absurd z (by decide), fun z => absurd z (by decide), fun z => absurd z (by decide), fun z => absurd z (by decide), blC_L w12, fun _ b hb => ?_, fun z => absurd z (by decide)⟩
      · have := w5 z
        rw [pgL_s (w3 (by omega))]
        have e5 := this.2.2.2.1 (by omega) (by omega)
        exact ⟨this.1, this.2.1, by show ((fsm P.2.1 P.1 + 1 : Nat) : Int) ≤ rw + P.1; omega, fun z => absurd z (by decide), fun z => absurd z (by decide)⟩
      · obtain ⟨q1, q2, q3, q4, q5, q6⟩ := hb1 b hb
        exact ⟨q1, q2, q3, Or.inr (Or.inr ⟨q4, q5, q6⟩)⟩
    · rw [if_neg c] at h; cases h
  rw [if_neg d9] at h
  by_cases d10 : du = 11
  · rw [if_pos d10] at h
    by_cases c : k = 3
    · rw [if_pos c] at h; cases h
      have hv := ht.2.1 c
      refine ⟨⟨by decide, by decide⟩, fun z => absurd z (by decide), fun _ => w3 (by omega), w4, fun z => ?_, fun _ z => absurd z (by decide), fun z => absurd z (by decide), fun _ z => absurd z (by decide), fun _ z => absurd z (by decide), fun z => absurd z (by decide), fun z => absurd z (by decide), blC_G w12, fun z => absurd z (by decide), fun _ b hb => ?_⟩
      · have := w5 z
        exact ⟨this.1, this.2.1, this.2.2.1, fun _ z => absurd z (by decide), fun _ z => absurd z (by decide)⟩
      · obtain ⟨g1, -, g2⟩ := w14 (by omega) b hb
        obtain ⟨q1, q2, q3, q4⟩ := g2 (by omega)
        obtain ⟨r1, r2⟩ := pgG_l (g := v) (P := P) (b := b) hb
        rcases q4 with q4 | q4
        · omega
        · obtain ⟨s1, s2⟩ := r1 (q4.2.1 d10)
          exact ⟨s2.trans g1, fun z => absurd z (by decide), fun _ => ⟨q1, q2, q3, Or.inr ⟨q4.1, fun z => absurd z (by decide), fun _ => by rw [s1]; exact hv⟩⟩⟩
    · rw [if_neg c] at h; cases h
  rw [if_neg d10] at h
  have d12 : du = 12 := by omega
  by_cases c : k = 3
  · rw [if_pos c] at h; cases h
    have hv := ht.2.1 c
    refine ⟨⟨by decide, by decide⟩, fun z => absurd z (by decide), fun _ => w3 (by omega), w4, fun z => ?_, fun z => absurd z (by decide), fun z => absurd z (by decide), fun z => absurd z (by decide), fun z => absurd z (by decide), fun z => absurd z (by decide), fun z => absurd z (by decide), blC_G w12, fun _ b hb => ?_, fun z => absurd z (by decide)⟩
    · have := w5 z
      exact ⟨this.1, this.2.1, this.2.2.1, fun z => absurd z (by decide), fun z => absurd z (by decide)⟩
    · obtain ⟨g1, -, g2⟩ := w14 (by omega) b hb
      obtain ⟨q1, q2, q3, q4⟩ := g2 (by omega)
      obtain ⟨r1, r2⟩ := pgG_l (g := v) (P := P) (b := b) hb
      rcases q4 with q4 | q4
      · obtain ⟨s1, s2⟩ := r1 q4.2.1
        exact ⟨q1, q2, q3, Or.inl ⟨q4.1, by rw [s1]; exact hv.1, by rw [s1]; exact hv.2, s2.trans g1⟩⟩
      · have e12 := q4.2.2 d12
        obtain ⟨s1, s2⟩ := r2 (by omega)
        exact ⟨q1, q2, q3, Or.inr (Or.inl ⟨q4.1, by rw [s1]; exact e12.1, by rw [s1]; exact e12.2, by rw [s2]; exact hv.1, by rw [s2]; exact hv.2⟩)⟩
  · rw [if_neg c] at h; cases h
theorem mwf_0 : mwf (0, -1, -1, 0, 0, 0, false, pgO) := ⟨⟨by decide, by decide⟩, fun _ => rfl, fun z => absurd rfl z, by decide, fun _ => ⟨by decide, by decide, by decide, fun z => absurd z (by decide), fun z => absurd z (by decide)⟩, fun z => absurd z (by decide), fun z => absurd z (by decide), fun z => absurd z (by decide), fun z => absurd z (by decide), fun z => absurd z (by decide), fun z => absurd z (by decide), fun b hb => absurd hb (Nat.not_lt_zero _), fun z => absurd z (by decide), fun z => absurd z (by decide)⟩
end
section
section TK
variable {B : Int → Int} {n : Int}
theorem tk_b (hB : bOk B n) : ∀ i : Nat, 0 ≤ (tk B n i).2.2.1 ∧ (tk B n i).2.2.1 ≤ n ∧ (tk B n i).2.2.1 ≤ (tk B n i).2.2.2 ∧ (tk B n i).2.2.2 ≤ n ∧ ((tk B n i).1 = 1 ↔ (tk B n i).2.2.1 = n) ∧ ((tk B n i).1 ≠ 1 → (tk B n i).2.2.1 < (tk B n i).2.2.2) ∧ tkO (tk B n i).1 (tk B n i).2.1
  | 0 => by
    have s := skp_le (B := B) (n := n) (i := 0) (r := 0) hB.1
    have q := sgn_b (p := skp B n 0 0) (aft := false) hB s.1 s.2
    exact ⟨s.1, s.2, q.2.2.1, q.2.2.2.1, q.1, fun z => q.2.1 (fun e => z (q.1.mpr e)), q.2.2.2.2⟩
  | i + 1 => by
    obtain ⟨h1, h2, h3, h4, -⟩ := tk_b hB i
    have s := skp_le (B := B) (n := n) (i := (tk B n i).2.2.2) (r := 0) h4
    have q := sgn_b (p := skp B n (tk B n i).2.2.2 0) (aft := decide ((tk B n i).1 = 2 ∨ (tk B n i).1 = 4)) hB (by omega) s.2
    exact ⟨(by show 0 ≤ skp B n (tk B n i).2.2.2 0; omega), s.2, q.2.2.1, q.2.2.2.1, q.1, fun z => q.2.1 (fun e => z (q.1.mpr e)), q.2.2.2.2⟩
theorem tk_s (hB : bOk B n) (i : Nat) : (tk B n i).2.2.2 ≤ (tk B n (i + 1)).2.2.1 := (skp_le (B := B) (n := n) (i := (tk B n i).2.2.2) (r := 0) (tk_b hB i).2.2.2.1).1
theorem mst_1 {v : Int} (s : gMs) : mst 1 v s = none := by
  obtain ⟨du, st, lf, ln, op, rw, bk, P⟩ := s
  have hl : ∀ Q, mLine 1 v op rw bk Q = none := fun Q => by
    unfold mLine
    rw [if_neg (by decide), if_neg (by decide), if_neg (by decide), if_neg (by decide), if_neg (by decide)]
  have e24 : ¬ ((1 : Int) = 2 ∨ (1 : Int) = 4) := by decide
  simp only [mst, hl, if_neg e24, if_neg (show ¬ (1 : Int) = 3 by decide), if_neg (show ¬ (1 : Int) = 6 by decide), if_neg (show ¬ (1 : Int) = 7 by decide), if_neg (show ¬ (1 : Int) = 8 by decide), if_neg (show ¬ (1 : Int) = 5 by decide), ite_self]
theorem mrn_s {i : Nat} {s : gMs} (h : mrn B n (i + 1) = some s) : ∃ t, mrn B n i = some t ∧ mst (tk B n i).1 (tk B n i).2.1 t = some s := by
  have h2 : (mrn B n i).bind (mst (tk B n i).1 (tk B n i).2.1) = some s := h
  cases e : mrn B n i with
  | none => rw [e] at h2; cases h2
  | some t => rw [e] at h2; exact ⟨t, rfl, h2⟩
theorem mrn_e {i : Nat} {t : gMs} (h : mrn B n i = some t) : mrn B n (i + 1) = mst (tk B n i).1 (tk B n i).2.1 t := by
  show (mrn B n i).bind (mst (tk B n i).1 (tk B n i).2.1) = _
  rw [h]; rfl
theorem mrn_n {i : Nat} (h : mrn B n i = none) : ∀ j, i ≤ j → mrn B n j = none := by
  intro j hj
  induction j with
  | zero => have e : i = 0 := by omega
            rw [e] at h; exact h
  | succ j ih =>
    by_cases e : i = j + 1
    · rw [← e]; exact h
    · have := ih (by omega)
      show (mrn B n j).bind _ = none
      rw [this]; rfl
theorem mst_el {Q : gMs → Prop} {k v du st lf ln op rw : Int} {bk : Bool} {P : gPg} {s : gMs} (h : mst k v (du, st, lf, ln, op, rw, bk, P) = some s)
    (h1 : Q (2, st, lf, ln, op, rw, bk || decide (v ≠ (P.1 : Int)), pgB P)) (h2 : Q (3, st, lf, ln, op, rw, bk, P)) (h3 : ∀ s, mLine k v op rw bk P = some s → Q s) (h4 : Q (5, st, lf, ln, op, rw, bk, P))
    (h5 : Q (3, st, lf, ln, op, rw, bk, pgL P (mkL 15 st lf ln (-1) 0))) (h5' : Q (6, st, rgV k v, nmW k v, op, rw, bk, P)) (h6 : Q (7, st, lf, ln, v, rw, bk, P)) (h6' : ∀ s, mLine k v op rw bk (pgL P (mkL 14 st lf ln (-1) 0)) = some s → Q s)
    (h7 : Q (3, st, lf, ln, op, rw, bk, pgL P (mkL op st lf ln (rgV k v) (nmW k v)))) (h8 : Q (3, st, rgV k v, nmW k v, op, rw, bk, pgL P (mkL 16 st (rgV k v) (nmW k v) (-1) 0))) (h9 : Q (11, st, rgV k v, nmW k v, op, rw, bk, pgL P (mkL 20 st (rgV k v) (nmW k v) (-1) 0)))
    (h10 : Q (1, st, rgV k v, nmW k v, op, rw, bk, pgL P (mkL 21 st (rgV k v) (nmW k v) (-1) 0))) (h11 : Q (12, st, lf, ln, op, rw, bk, pgG P v)) (h12 : Q (1, st, lf, ln, op, rw, bk, pgG P v)) : Q s := by
  have hs : ∀ {c : Prop} [Decidable c] {x : gMs}, (if c then some x else none) = some s → Q x → Q s := fun {c} _ {x} h hx => by
    by_cases e : c
    · rw [if_pos e] at h; cases h; exact hx
    · rw [if_neg e] at h; cases h
  simp only [mst] at h
  by_cases d0 : du ≤ 1
  · rw [if_pos d0] at h
    exact hs h h1
  rw [if_neg d0] at h
  by_cases d1 : du = 2
  · rw [if_pos d1] at h
    exact hs h h2
  rw [if_neg d1] at h
  by_cases d2 : du = 3
  · rw [if_pos d2] at h
    exact h3 s h
  rw [if_neg d2] at h
  by_cases d3 : du = 4
  · rw [if_pos d3] at h
    exact hs h h4
  rw [if_neg d3] at h
  by_cases d4 : du = 5
  · rw [if_pos d4] at h
    by_cases c : k = 8
    · rw [if_pos c] at h; cases h; exact h5
    · rw [if_neg c] at h; exact hs h h5'
  rw [if_neg d4] at h
  by_cases d5 : du = 6
  · rw [if_pos d5] at h
    by_cases c : k = 5
    · rw [if_pos c] at h; cases h; exact h6
    · rw [if_neg c] at h; exact h6' s h
  rw [if_neg d5] at h
  by_cases d6 : du = 7
  · rw [if_pos d6] at h
    exact hs h h7
  rw [if_neg d6] at h
  by_cases d7 : du = 8
  · rw [if_pos d7] at h
    exact hs h h8
  rw [if_neg d7] at h
  by_cases d8 : du = 9
  · rw [if_pos d8] at h
    exact hs h h9
  rw [if_neg d8] at h
  by_cases d9 : du = 10
  · rw [if_pos d9] at h
    exact hs h h10
  rw [if_neg d9] at h
  by_cases d10 : du = 11
  · rw [if_pos d10] at h
    exact hs h h11
  rw [if_neg d10] at h
  exact hs h h12
theorem mLine_el {Q : gMs → Prop} {k v op rw : Int} {bk : Bool} {P : gPg} {s : gMs} (h : mLine k v op rw bk P = some s) (h1 : Q (4, v, -1, 0, op, rw + 1, bk || decide (160 < rw + 1), P)) (h2 : Q (8, -1, -1, 0, op, rw + 1, bk || decide (160 < rw + 1), P)) (h3 : Q (9, -1, -1, 0, op, rw, bk, P)) (h4 : Q (10, -1, -1, 0, op, rw, bk, P)) (h5 : Q (12, -1, -1, 0, op, rw, bk, pgL P (mkL 19 (-1) (-1) 0 (-1) 0))) : Q s := by
  unfold mLine at h
  by_cases d0 : k = 2
  · rw [if_pos d0] at h; cases h; exact h1
  rw [if_neg d0] at h
  by_cases d1 : k = 9
  · rw [if_pos d1] at h; cases h; exact h2
  rw [if_neg d1] at h
  by_cases d2 : k = 10
  · rw [if_pos d2] at h; cases h; exact h3
  rw [if_neg d2] at h
  by_cases d3 : k = 12
  · rw [if_pos d3] at h; cases h; exact h4
  rw [if_neg d3] at h
  by_cases d4 : k = 11
  · rw [if_pos d4] at h; cases h; exact h5
  rw [if_neg d4] at h
  cases h
theorem mrn_w (hB : bOk B n) : ∀ {i : Nat} {s : gMs}, mrn B n i = some s → mwf s ∧ (i : Int) ≤ (tk B n i).2.2.1 ∧ s.2.2.2.2.2.1 ≤ (i : Int)
  | 0, s, h => by
    cases h
    exact ⟨mwf_0, (tk_b hB 0).1, by decide⟩
  | i + 1, s, h => by
    obtain ⟨t, h1, h2⟩ := mrn_s h
    obtain ⟨w1, w2, w3⟩ := mrn_w hB h1
    have b := tk_b hB i
    have hk : (tk B n i).1 ≠ 1 := fun z => by rw [z, mst_1] at h2; cases h2
    have b6 := b.2.2.2.2.2.1 hk
    have b7 := tk_s hB i
    refine ⟨mst_wf b.2.2.2.2.2.2 w1 h2, by omega, ?_⟩
    have r : s.2.2.2.2.2.1 ≤ t.2.2.2.2.2.1 + 1 := by
      obtain ⟨du, st, lf, ln, op, rw, bk, P⟩ := t
      have z0 : rw ≤ rw + 1 := by omega
      have hl : ∀ (Q : gPg) (s : gMs), mLine (tk B n i).1 (tk B n i).2.1 op rw bk Q = some s → s.2.2.2.2.2.1 ≤ rw + 1 := fun Q s h => mLine_el (Q := fun s => s.2.2.2.2.2.1 ≤ rw + 1) h (Int.le_refl _) (Int.le_refl _) z0 z0 z0
      exact mst_el (Q := fun s => s.2.2.2.2.2.1 ≤ rw + 1) h2 z0 z0 (hl _) z0 z0 z0 z0 (hl _) z0 z0 z0 z0 z0 z0
    omega
end TK
end
section
/-- the labels are b0 .. below m; the goals' places are places -/
def lbP (lab : Int64) (m : Nat) : Prop := ∀ g : Nat, g < 64 → lab.toBitVec.getLsbD g = decide (g < m)
def gpC (gp : Nat → Int32) (bl : Int32) (fg sg : Nat → Int32) : Prop := ∀ b : Nat, (b : Int) < bl.toInt → ((fg b).toInt ≠ -1 → 0 ≤ (gp (2 * b)).toInt) ∧ ((sg b).toInt ≠ -1 → 0 ≤ (gp (2 * b + 1)).toInt)
def rdK (rp : Int32) (lab : Int64) (gp : Nat → Int32) (bl li : Int32) (fi fg sg op st lf ln rt rn : Nat → Int32) (bk : Bool) (P : gPg) : Prop :=
  (bk = true → 0 ≤ rp.toInt) ∧ gpC gp bl fg sg ∧ (bk = false → rp.toInt = -1 ∧ cdP bl li fi fg sg op st lf ln rt rn P ∧ lbP lab P.1)
def rdC (due cset clf cln cop rws rp : Int32) (lab : Int64) (gp : Nat → Int32) (bl li : Int32) (fi fg sg op st lf ln rt rn : Nat → Int32) : gMs → Prop
  | (du, mS, mL, mN, mO, mR, bk, P) => due.toInt = du ∧ (4 ≤ du → cset.toInt = mS ∧ clf.toInt = mL ∧ cln.toInt = mN) ∧ (du = 7 → cop.toInt = mO) ∧ rws.toInt = mR ∧ rdK rp lab gp bl li fi fg sg op st lf ln rt rn bk P
def rdA (r : Int32) (m : Option gMs) (Q : gMs → Prop) : Prop := (r.toInt = 1 ∧ ∃ s, m = some s ∧ Q s) ∨ (r.toInt = 0 ∧ m = none)
theorem rdC_mk {due cset clf cln cop rws rp : Int32} {lab : Int64} {gp : Nat → Int32} {bl li : Int32} {fi fg sg op st lf ln rt rn : Nat → Int32} {du mS mL mN mO mR : Int} {bk : Bool} {P : gPg} (h1 : due.toInt = du) (h2 : 4 ≤ du → cset.toInt = mS ∧ clf.toInt = mL ∧ cln.toInt = mN) (h3 : du = 7 → cop.toInt = mO) (h4 : rws.toInt = mR) (h5 : rdK rp lab gp bl li fi fg sg op st lf ln rt rn bk P) : rdC due cset clf cln cop rws rp lab gp bl li fi fg sg op st lf ln rt rn (du, mS, mL, mN, mO, mR, bk, P) := ⟨h1, h2, h3, h4, h5⟩
theorem rdA_y {r : Int32} {m : Option gMs} {Q : gMs → Prop} {s : gMs} (hr : r.toInt = 1) (hm : m = some s) (hq : Q s) : rdA r m Q := Or.inl ⟨hr, s, hm, hq⟩
/-- a sign of the program and what it is -/
def sgK (sk sv : Int32) (K V : Int) : Prop := sk.toInt = K ∧ (2 ≤ K → K ≤ 5 → sv.toInt = V)
theorem lb_tab2 : ∀ j : Fin 64, ∀ n : Fin 64, ((1 : Int64) <<< (Int64.ofNat j.val)).toBitVec.getLsbD n.val = decide (n.val = j.val) := by decide +kernel
theorem lb_shl {i : Int32} {z : Int64} {m : Nat} (hz : z = 1 <<< (i.toInt64 &&& 63)) (hi : i.toInt = (m : Int)) (hm : m < 64) (n : Nat) (hn : n < 64) : z.toBitVec.getLsbD n = decide (n = m) := by
  have e : i.toInt.toNat % 64 = m := by omega
  rw [hz, lb_Qcnt i (by omega), e]
  exact lb_tab2 ⟨m, hm⟩ ⟨n, hn⟩
theorem lbP_or {lab x1 x2 : Int64} {sv : Int32} {m : Nat} (h : lbP lab m) (hs : sv.toInt = (m : Int)) (hm : m < 64) (h1 : x1 = 1 <<< (sv.toInt64 &&& 63)) (h2 : x2 = lab ||| x1) : lbP x2 (m + 1) := fun g hg => by
  rw [h2, Int64.toBitVec_or, BitVec.getLsbD_or, h g hg, lb_shl h1 hs hm g hg, ← Bool.decide_or]
  exact decide_eq_decide.mpr (by omega)
theorem isB_0 {rp : Int32} (h : tr_Reader_isBroken rp 0) : rp.toInt = -1 := by
  have q : (0 : Int32).toInt = 0 → rp.toInt = -1 := by
    refine h (fun r => r.toInt = 0 → rp.toInt = -1) ?_ ?_
    · intro h1
      exact fun _ => h1
    · intro h1
      exact fun z => absurd z (by decide)
  exact q (by decide)
theorem isB_1 {rp : Int32} (h : tr_Reader_isBroken rp 1) : rp.toInt ≠ -1 := by
  have q : (1 : Int32).toInt = 1 → rp.toInt ≠ -1 := by
    refine h (fun r => r.toInt = 1 → rp.toInt ≠ -1) ?_ ?_
    · intro h1
      exact fun z => absurd z (by decide)
    · intro h1
      exact fun _ => h1
  exact q (by decide)
section RDC
variable {K V mS mL mN mO mR : Int} {bk : Bool} {P : gPg} {a1 a2 a3 a4 a5 a6 r due cset clf cln cop rws rp rr bl li fl sk sv sp : Int32} {lab : Int64} {gp fi fg sg op st lf ln rt rn : Nat → Int32}
theorem brk_tr {x y : Int32} (h : tr_Reader_breakRule a1 sp x y) : x = sp := by
  refine h (fun x _ => x = sp) ?_
  · skip
    rfl
theorem add_tr {x1 x8 : Int32} {x2 x3 x4 x5 x6 x7 : Nat → Int32} (h : tr_Code_add a1 a2 a3 a4 a5 a6 li fl op st lf ln rt rn x1 x2 x3 x4 x5 x6 x7 x8) (hc : cdP bl li fi fg sg op st lf ln rt rn P) (hl : li.toInt < 200) (hP : 0 < P.1) : cdP bl x1 fi fg sg x2 x3 x4 x5 x6 x7 (pgL P (mkL a1.toInt a2.toInt a3.toInt a4.toInt a5.toInt a6.toInt)) := by
  refine h (fun x1 x2 x3 x4 x5 x6 x7 _ => cdP bl x1 fi fg sg x2 x3 x4 x5 x6 x7 (pgL P (mkL a1.toInt a2.toInt a3.toInt a4.toInt a5.toInt a6.toInt))) ?_ ?_
  · intro x1 x2 x3 x4 x5 x6 x7 h1 h2 h3 h4 h5 h6 h7 h8
    exact cdP_L hc hP h8 h2 h3 h4 h5 h6 h7
  · intro h1
    omega
theorem kp_tr {x1 x2 : Int32} {x3 x4 x5 x6 x7 x8 : Nat → Int32} (h : tr_Reader_keep a2 a3 a4 rp cset clf cln li fl op st lf ln rt rn x1 x2 x3 x4 x5 x6 x7 x8) (hk : rdK rp lab gp bl li fi fg sg op st lf ln rt rn bk P) (hl : bk = false → li.toInt < 200) (hP : 0 < P.1) : rdK rp lab gp bl x1 fi fg sg x3 x4 x5 x6 x7 x8 bk (pgL P (mkL a2.toInt cset.toInt clf.toInt cln.toInt a3.toInt a4.toInt)) := by
  refine h (fun x1 _ x3 x4 x5 x6 x7 x8 => rdK rp lab gp bl x1 fi fg sg x3 x4 x5 x6 x7 x8 bk (pgL P (mkL a2.toInt cset.toInt clf.toInt cln.toInt a3.toInt a4.toInt))) ?_ ?_
  · intro x1 x2 x3 x4 x5 x6 x7 x8 h1 h2 h3 h4
    refine ⟨hk.1, hk.2.1, fun z => ?_⟩
    obtain ⟨k1, k2, k3⟩ := hk.2.2 z
    exact ⟨k1, add_tr h4 k2 (hl z) hP, k3⟩
  · intro h1
    have q := isB_1 h1
    exact ⟨hk.1, hk.2.1, fun z => absurd (hk.2.2 z).1 q⟩
theorem rgN_tr (h : tr_Reader_registerOrNone sk sv r) (hs : sgK sk sv K V) : r.toInt = rgV K V := by
  obtain ⟨hk, hv⟩ := hs
  unfold rgV
  refine h (fun r => r.toInt = if K = 2 then V else -1) ?_ ?_
  · intro h1
    rw [if_neg (by omega)]; exact px_m1
  · intro h1
    rw [if_pos (by omega)]; exact hv (by omega) (by omega)
theorem nmZ_tr (h : tr_Reader_numberOrZero sk sv r) (hs : sgK sk sv K V) : r.toInt = nmW K V := by
  obtain ⟨hk, hv⟩ := hs
  unfold nmW
  refine h (fun r => r.toInt = if K = 4 then V else 0) ?_ ?_
  · intro h1
    rw [if_neg (by omega)]; exact px_0
  · intro h1
    rw [if_pos (by omega)]; exact hv (by omega) (by omega)
theorem tkL_tr {x y : Int32} (h : tr_Reader_takeLeft sk sv x y) (hs : sgK sk sv K V) : x.toInt = rgV K V ∧ y.toInt = nmW K V := by
  refine h (fun x y => x.toInt = rgV K V ∧ y.toInt = nmW K V) ?_ ?_ ?_
  · intro h1 h2
    exact ⟨rgN_tr h1 hs, nmZ_tr h2 hs⟩
  · intro h1 h2
    exact ⟨rgN_tr h1 hs, nmZ_tr h2 hs⟩
  · intro h1 h2
    exact ⟨rgN_tr h1 hs, nmZ_tr h2 hs⟩
theorem opd_tr (h : tr_Reader_isOperand sk r) (hs : sgK sk sv K V) : (r.toInt = 1 ∧ (K = 2 ∨ K = 4)) ∨ (r.toInt = 0 ∧ ¬ (K = 2 ∨ K = 4)) := by
  obtain ⟨hk, -⟩ := hs
  refine h (fun r => (r.toInt = 1 ∧ (K = 2 ∨ K = 4)) ∨ (r.toInt = 0 ∧ ¬ (K = 2 ∨ K = 4))) ?_ ?_ ?_
  · intro h1
    exact Or.inl ⟨px_1, by omega⟩
  · intro h1 h2
    exact Or.inr ⟨px_0, by omega⟩
  · intro h1 h2
    exact Or.inl ⟨px_1, by omega⟩
theorem opd_1 (h : tr_Reader_isOperand sk 1) (hs : sgK sk sv K V) : K = 2 ∨ K = 4 := by
  rcases opd_tr h hs with ⟨-, q⟩ | ⟨q, -⟩
  · exact q
  · exact absurd q (by decide)
theorem opd_0 (h : tr_Reader_isOperand sk 0) (hs : sgK sk sv K V) : ¬ (K = 2 ∨ K = 4) := by
  rcases opd_tr h hs with ⟨q, -⟩ | ⟨-, q⟩
  · exact absurd q (by decide)
  · exact q
theorem bRw_tr {x y z : Int32} (h : tr_Reader_beginRow rp rr rws sp x y z) (hr : rws.toInt = mR) (hb : mR ≤ 8192) (h0 : 0 ≤ mR) (hp : 0 ≤ sp.toInt) (hk : rdK rp lab gp bl li fi fg sg op st lf ln rt rn bk P) : x.toInt = mR + 1 ∧ rdK y lab gp bl li fi fg sg op st lf ln rt rn (bk || decide (160 < mR + 1)) P := by
  refine h (fun x y _ => x.toInt = mR + 1 ∧ rdK y lab gp bl li fi fg sg op st lf ln rt rn (bk || decide (160 < mR + 1)) P) ?_ ?_ ?_
  · intro x1 h1 h2 h3
    have e1 : x1.toInt = mR + 1 := by have q := px_add h1 (by rw [px_1]; omega) (by rw [px_1]; omega); rw [px_1] at q; omega
    rw [decide_eq_false (by omega), Bool.or_false]
    exact ⟨e1, hk⟩
  · intro x1 x2 x3 h1 h2 h3 h4
    have e1 : x1.toInt = mR + 1 := by have q := px_add h1 (by rw [px_1]; omega) (by rw [px_1]; omega); rw [px_1] at q; omega
    rw [decide_eq_true (by omega), Bool.or_true]
    have q := brk_tr h4
    exact ⟨e1, fun _ => by rw [q]; exact hp, hk.2.1, fun z => absurd z (by decide)⟩
  · intro x1 h1 h2
    have e1 : x1.toInt = mR + 1 := by have q := px_add h1 (by rw [px_1]; omega) (by rw [px_1]; omega); rw [px_1] at q; omega
    have q := isB_1 h2
    have eb : bk = true := by
      cases hbk : bk with
      | true => rfl
      | false => exact absurd (hk.2.2 hbk).1 q
    rw [eb, Bool.true_or]
    rw [eb] at hk
    exact ⟨e1, hk⟩
theorem bLn_tr {x1 x2 x3 x4 : Int32} (h : tr_Reader_beginLine a1 a2 x1 x2 x3 x4) : x1 = a2 ∧ x2 = a1 ∧ x3.toInt = -1 ∧ x4.toInt = 0 := by
  refine h (fun x1 x2 x3 x4 => x1 = a2 ∧ x2 = a1 ∧ x3.toInt = -1 ∧ x4.toInt = 0) ?_
  · skip
    exact ⟨rfl, rfl, px_m1, px_0⟩
theorem aLn_tr {x1 x2 x3 x4 x5 x6 x7 x8 x9 x10 : Int32} {y1 y2 y3 y4 y5 y6 : Nat → Int32} (h : tr_Reader_acceptLine rp rr rws due cset clf cln li fl sk sv sp op st lf ln rt rn x1 x2 x3 x4 x5 x6 x7 x8 x9 x10 y1 y2 y3 y4 y5 y6) (hs : sgK sk sv K V) (hr : rws.toInt = mR) (hb : mR ≤ 8192) (h0 : 0 ≤ mR) (hp : 0 ≤ sp.toInt) (hk : rdK rp lab gp bl li fi fg sg op st lf ln rt rn bk P) (hl : bk = false → li.toInt < 200) (hP : 0 < P.1) : rdA x1 (mLine K V mO mR bk P) (fun s => rdC x5 x6 x7 x8 cop x4 x2 lab gp bl x9 fi fg sg y1 y2 y3 y4 y5 y6 s) := by
  obtain ⟨hk1, hv⟩ := hs
  refine h (fun x1 x2 x3 x4 x5 x6 x7 x8 x9 _ y1 y2 y3 y4 y5 y6 => rdA x1 (mLine K V mO mR bk P) (fun s => rdC x5 x6 x7 x8 cop x4 x2 lab gp bl x9 fi fg sg y1 y2 y3 y4 y5 y6 s)) ?_ ?_ ?_ ?_ ?_ ?_ ?_ ?_ ?_ ?_ ?_ ?_
  · intro x1 x2 x3 x4 x5 x6 x7 h1 h2 h3 h4 h5
    obtain ⟨b1, b2, b3, b4⟩ := bLn_tr h5
    obtain ⟨w1, w2⟩ := bRw_tr h2 hr hb h0 hp hk
    have em : mLine K V mO mR bk P = some (4, V, -1, 0, mO, mR + 1, bk || decide (160 < mR + 1), P) := by
      unfold mLine
      rw [if_pos (by omega)]
    exact rdA_y px_1 em (rdC_mk (by rw [b1]; decide) (fun _ => ⟨by rw [b2]; exact hv (by omega) (by omega), b3, b4⟩) (fun z => absurd z (by decide)) w1 w2)
  · intro h1
    refine Or.inr ⟨px_0, ?_⟩
    unfold mLine
    rw [if_neg (by omega), if_neg (by omega), if_neg (by omega), if_neg (by omega), if_neg (by omega)]
  · intro h1
    refine Or.inr ⟨px_0, ?_⟩
    unfold mLine
    rw [if_neg (by omega), if_neg (by omega), if_neg (by omega), if_neg (by omega), if_neg (by omega)]
  · intro h1
    refine Or.inr ⟨px_0, ?_⟩
    unfold mLine
    rw [if_neg (by omega), if_neg (by omega), if_neg (by omega), if_neg (by omega), if_neg (by omega)]
  · intro h1
    refine Or.inr ⟨px_0, ?_⟩
    unfold mLine
    rw [if_neg (by omega), if_neg (by omega), if_neg (by omega), if_neg (by omega), if_neg (by omega)]
  · intro h1
    refine Or.inr ⟨px_0, ?_⟩
    unfold mLine
    rw [if_neg (by omega), if_neg (by omega), if_neg (by omega), if_neg (by omega), if_neg (by omega)]
  · intro h1
    refine Or.inr ⟨px_0, ?_⟩
    unfold mLine
    rw [if_neg (by omega), if_neg (by omega), if_neg (by omega), if_neg (by omega), if_neg (by omega)]
  · intro x1 x2 x3 x4 x5 x6 x7 h1 h2 h3 h4 h5
    obtain ⟨b1, b2, b3, b4⟩ := bLn_tr h5
    obtain ⟨w1, w2⟩ := bRw_tr h2 hr hb h0 hp hk
    have em : mLine K V mO mR bk P = some (8, -1, -1, 0, mO, mR + 1, bk || decide (160 < mR + 1), P) := by
      unfold mLine
      rw [if_neg (by omega), if_pos (by omega)]
    exact rdA_y px_1 em (rdC_mk (by rw [b1]; decide) (fun _ => ⟨by rw [b2]; decide, b3, b4⟩) (fun z => absurd z (by decide)) w1 w2)
  · intro x1 x2 x3 x4 h1 h2 h3 h4
    obtain ⟨b1, b2, b3, b4⟩ := bLn_tr h4
    have em : mLine K V mO mR bk P = some (9, -1, -1, 0, mO, mR, bk, P) := by
      unfold mLine
      rw [if_neg (by omega), if_neg (by omega), if_pos (by omega)]
    exact rdA_y px_1 em (rdC_mk (by rw [b1]; decide) (fun _ => ⟨by rw [b2]; decide, b3, b4⟩) (fun z => absurd z (by decide)) hr hk)
  · intro x1 x2 x3 x4 x5 x6 x7 x8 x9 x10 x11 x12 h1 h2 h3 h4 h5 h6 h7
    obtain ⟨b1, b2, b3, b4⟩ := bLn_tr h4
    have w2 := kp_tr h7 hk hl hP
    rw [b2, b3, b4] at w2
    have em : mLine K V mO mR bk P = some (12, -1, -1, 0, mO, mR, bk, pgL P (mkL 19 (-1) (-1) 0 (-1) 0)) := by
      unfold mLine
      rw [if_neg (by omega), if_neg (by omega), if_neg (by omega), if_neg (by omega), if_pos (by omega)]
    exact rdA_y px_1 em (rdC_mk (by rw [b1]; decide) (fun _ => ⟨by rw [b2]; decide, b3, b4⟩) (fun z => absurd z (by decide)) hr w2)
  · intro x1 x2 x3 x4 h1 h2 h3 h4
    obtain ⟨b1, b2, b3, b4⟩ := bLn_tr h4
    have em : mLine K V mO mR bk P = some (10, -1, -1, 0, mO, mR, bk, P) := by
      unfold mLine
      rw [if_neg (by omega), if_neg (by omega), if_neg (by omega), if_pos (by omega)]
    exact rdA_y px_1 em (rdC_mk (by rw [b1]; decide) (fun _ => ⟨by rw [b2]; decide, b3, b4⟩) (fun z => absurd z (by decide)) hr hk)
  · intro h1 h2 h3 h4 h5 h6 h7 h8 h9 h10 h11
    refine Or.inr ⟨px_0, ?_⟩
    unfold mLine
    rw [if_neg (by omega), if_neg (by omega), if_neg (by omega), if_neg (by omega), if_neg (by omega)]
theorem gpC_B {x : Int32} {fg2 sg2 : Nat → Int32} {m : Nat} (h : gpC gp bl fg sg) (hb : bl.toInt = (m : Int)) (hx : x.toInt = bl.toInt + 1) (h2 : fg2 = upd fg bl.toNatClampNeg (-1)) (h3 : sg2 = upd sg bl.toNatClampNeg (-1)) : gpC gp x fg2 sg2 := fun b hb2 => by
  have e := nnE hb
  rw [h2, h3, e]
  by_cases q : b = m
  · rw [q, updE, updE]; exact ⟨fun z => absurd px_m1 z, fun z => absurd px_m1 z⟩
  · rw [updN q, updN q]; exact h b (by omega)
theorem gpC_G {gp2 fg2 sg2 : Nat → Int32} {i j : Nat} {z : Int32} (h : gpC gp bl fg sg) (hf : (j = 0 ∧ fg2 = upd fg i z ∧ sg2 = sg) ∨ (j = 1 ∧ fg2 = fg ∧ sg2 = upd sg i z)) (hg : gp2 = upd gp (2 * i + j) sp) (hp : 0 ≤ sp.toInt) : gpC gp2 bl fg2 sg2 := fun b hb => by
  have hj : j < 2 := by omega
  obtain ⟨a1, a2⟩ := h b hb
  rcases hf with ⟨f1, f2, f3⟩ | ⟨f1, f2, f3⟩
  · rw [hg, f1, f2, f3, Nat.add_zero]
    by_cases q : b = i
    · rw [q, updE, updE, updN (show 2 * i + 1 ≠ 2 * i by omega)]
      rw [q] at a2
      exact ⟨fun _ => hp, a2⟩
    · rw [updN q, updN (show 2 * b ≠ 2 * i by omega), updN (show 2 * b + 1 ≠ 2 * i by omega)]
      exact ⟨a1, a2⟩
  · rw [hg, f1, f2, f3]
    by_cases q : b = i
    · rw [q, updE, updE, updN (show 2 * i ≠ 2 * i + 1 by omega)]
      rw [q] at a1
      exact ⟨a1, fun _ => hp⟩
    · rw [updN q, updN (show 2 * b ≠ 2 * i + 1 by omega), updN (show 2 * b + 1 ≠ 2 * i + 1 by omega)]
      exact ⟨a1, a2⟩
theorem opB_tr {x1 x2 : Int32} {y1 y2 y3 : Nat → Int32} (h : tr_Code_openBlock bl li fi fg sg x1 x2 y1 y2 y3) (hc : cdP bl li fi fg sg op st lf ln rt rn P) (hg : gpC gp bl fg sg) (hb : bl.toInt < 40) : x1.toInt = 1 ∧ cdP x2 li y1 y2 y3 op st lf ln rt rn (pgB P) ∧ gpC gp x2 y2 y3 := by
  refine h (fun x1 x2 y1 y2 y3 => x1.toInt = 1 ∧ cdP x2 li y1 y2 y3 op st lf ln rt rn (pgB P) ∧ gpC gp x2 y2 y3) ?_ ?_
  · intro x1 x2 x3 x4 h1 h2 h3 h4 h5
    exact ⟨px_1, cdP_B hc h5 h2 h3 h4, gpC_B hg hc.1 h5 h3 h4⟩
  · intro h1
    omega
theorem aLb_tr {x1 x2 x3 x5 x6 : Int32} {x4 : Int64} {y1 y2 y3 : Nat → Int32} (h : tr_Reader_acceptLabel rp rr lab due bl li sk sv sp fi fg sg x1 x2 x3 x4 x5 x6 y1 y2 y3) (hs : sgK sk sv K V) (ht : tkO K V) (hr : rws.toInt = mR) (hp : 0 ≤ sp.toInt) (hk : rdK rp lab gp bl li fi fg sg op st lf ln rt rn bk P) : rdA x1 (if K = 3 then some (2, mS, mL, mN, mO, mR, bk || decide (V ≠ (P.1 : Int)), pgB P) else none) (fun s => rdC x5 cset clf cln cop rws x2 x4 gp x6 li y1 y2 y3 op st lf ln rt rn s) := by
  obtain ⟨hk1, hv⟩ := hs
  refine h (fun x1 x2 x3 x4 x5 x6 y1 y2 y3 => rdA x1 (if K = 3 then some (2, mS, mL, mN, mO, mR, bk || decide (V ≠ (P.1 : Int)), pgB P) else none) (fun s => rdC x5 cset clf cln cop rws x2 x4 gp x6 li y1 y2 y3 op st lf ln rt rn s)) ?_ ?_ ?_ ?_ ?_
  · intro x1 x2 x3 x4 h1 h2 h3 h4 h5 h6
    rw [if_pos (by omega)]
    have hv2 := hv (by omega) (by omega)
    have hv3 := ht.2.1 (by omega)
    refine rdA_y px_1 rfl (rdC_mk (by decide) (fun z => absurd z (by decide)) (fun z => absurd z (by decide)) hr ?_)
    have q := brk_tr h6
    have q0 := isB_0 h4
    refine ⟨fun _ => by rw [q]; exact hp, hk.2.1, fun z => ?_⟩
    rw [Bool.or_eq_false_iff, decide_eq_false_iff_not, Decidable.not_not] at z
    have c := (hk.2.2 z.1).2.1.1
    omega
  · intro x1 x2 x3 x4 x5 x6 x7 h1 h2 h3 h4 h5 h6 h7 h8 h9
    rw [if_pos (by omega)]
    have hv2 := hv (by omega) (by omega)
    have hv3 := ht.2.1 (by omega)
    refine rdA_y px_1 rfl (rdC_mk (by decide) (fun z => absurd z (by decide)) (fun z => absurd z (by decide)) hr ?_)
    have q0 := isB_0 h4
    have hbk : bk = false := by
      cases e : bk with
      | true => exact absurd (hk.1 e) (by omega)
      | false => rfl
    obtain ⟨k1, k2, k3⟩ := hk.2.2 hbk
    have k21 := k2.1
    obtain ⟨c1, c2, c3⟩ := opB_tr h8 k2 hk.2.1 (by omega)
    refine ⟨fun z => ?_, c3, fun _ => ⟨k1, c2, lbP_or (m := P.1) k3 (by omega) (by omega) h2 h3⟩⟩
    rw [hbk, Bool.false_or, decide_eq_true_iff] at z
    exact absurd (show V = (P.1 : Int) by omega) z
  · intro x1 x2 x3 x4 x5 x6 x7 x8 x9 h1 h2 h3 h4 h5 h6 h7 h8 h9 h10
    rw [if_pos (by omega)]
    have hv2 := hv (by omega) (by omega)
    have hv3 := ht.2.1 (by omega)
    refine rdA_y px_1 rfl (rdC_mk (by decide) (fun z => absurd z (by decide)) (fun z => absurd z (by decide)) hr ?_)
    have q0 := isB_0 h4
    have hbk : bk = false := by
      cases e : bk with
      | true => exact absurd (hk.1 e) (by omega)
      | false => rfl
    obtain ⟨k1, k2, k3⟩ := hk.2.2 hbk
    have k21 := k2.1
    obtain ⟨c1, c2, c3⟩ := opB_tr h8 k2 hk.2.1 (by omega)
    omega
  · intro x1 x2 h1 h2 h3 h4
    rw [if_pos (by omega)]
    have hv2 := hv (by omega) (by omega)
    have hv3 := ht.2.1 (by omega)
    refine rdA_y px_1 rfl (rdC_mk (by decide) (fun z => absurd z (by decide)) (fun z => absurd z (by decide)) hr ?_)
    have q := isB_1 h4
    refine ⟨fun _ => ?_, hk.2.1, fun z => ?_⟩
    · cases hbk : bk with
      | true => exact hk.1 hbk
      | false => exact absurd (hk.2.2 hbk).1 q
    · rw [Bool.or_eq_false_iff] at z; exact absurd (hk.2.2 z.1).1 q
  · intro h1
    exact Or.inr ⟨px_0, if_neg (by omega)⟩
theorem aMk_tr {x1 x2 : Int32} (h : tr_Reader_acceptMark a1 a2 sk x1 x2) (hs : sgK sk sv K V) : x2 = a2 ∧ ((x1.toInt = 1 ∧ K = a1.toInt) ∨ (x1.toInt = 0 ∧ K ≠ a1.toInt)) := by
  obtain ⟨hk1, -⟩ := hs
  refine h (fun x1 x2 => x2 = a2 ∧ ((x1.toInt = 1 ∧ K = a1.toInt) ∨ (x1.toInt = 0 ∧ K ≠ a1.toInt))) ?_ ?_
  · intro h1
    exact ⟨rfl, Or.inr ⟨px_0, by omega⟩⟩
  · intro h1
    exact ⟨rfl, Or.inl ⟨px_1, by omega⟩⟩
theorem aSr_tr {x1 x2 x3 x4 x5 x6 : Int32} {y1 y2 y3 y4 y5 y6 : Nat → Int32} (h : tr_Reader_acceptSource rp cset clf cln li fl sk sv op st lf ln rt rn x1 x2 x3 x4 x5 x6 y1 y2 y3 y4 y5 y6) (hs : sgK sk sv K V) (hr : rws.toInt = mR) (hk : rdK rp lab gp bl li fi fg sg op st lf ln rt rn bk P) (hl : bk = false → li.toInt < 200) (hP : 0 < P.1) (hm : cset.toInt = mS ∧ clf.toInt = mL ∧ cln.toInt = mN) : rdA x1 (if K = 8 then some (3, mS, mL, mN, mO, mR, bk, pgL P (mkL 15 mS mL mN (-1) 0)) else if K = 2 ∨ K = 4 then some (6, mS, rgV K V, nmW K V, mO, mR, bk, P) else none) (fun s => rdC x2 cset x3 x4 cop rws rp lab gp bl x5 fi fg sg y1 y2 y3 y4 y5 y6 s) := by
  have hs0 := hs
  obtain ⟨hk1, hv⟩ := hs
  refine h (fun x1 x2 x3 x4 x5 _ y1 y2 y3 y4 y5 y6 => rdA x1 (if K = 8 then some (3, mS, mL, mN, mO, mR, bk, pgL P (mkL 15 mS mL mN (-1) 0)) else if K = 2 ∨ K = 4 then some (6, mS, rgV K V, nmW K V, mO, mR, bk, P) else none) (fun s => rdC x2 cset x3 x4 cop rws rp lab gp bl x5 fi fg sg y1 y2 y3 y4 y5 y6 s)) ?_ ?_ ?_
  · intro x1 x2 h1 h2 h3
    have c := opd_1 h3 hs0
    obtain ⟨t1, t2⟩ := tkL_tr h2 hs0
    exact rdA_y px_1 ((if_neg (by omega)).trans (if_pos c)) (rdC_mk (by decide) (fun _ => ⟨hm.1, t1, t2⟩) (fun z => absurd z (by decide)) hr hk)
  · intro x1 x2 h1 h2 h3
    have c := opd_0 h3 hs0
    exact Or.inr ⟨px_0, by rw [if_neg (by omega), if_neg c]⟩
  · intro x1 x2 x3 x4 x5 x6 x7 x8 h1 h2 h3 h4
    have w := kp_tr h4 hk hl hP
    rw [hm.1, hm.2.1, hm.2.2] at w
    exact rdA_y px_1 (if_pos (by omega)) (rdC_mk (by decide) (fun z => absurd z (by decide)) (fun z => absurd z (by decide)) hr w)
theorem aOn_tr {x1 x2 x3 x4 x5 x6 : Int32} {y1 y2 y3 y4 y5 y6 : Nat → Int32} (h : tr_Reader_acceptOnly a2 a3 rp cset li fl sk sv op st lf ln rt rn x1 x2 x3 x4 x5 x6 y1 y2 y3 y4 y5 y6) (hs : sgK sk sv K V) (hr : rws.toInt = mR) (hk : rdK rp lab gp bl li fi fg sg op st lf ln rt rn bk P) (hl : bk = false → li.toInt < 200) (hP : 0 < P.1) (hm : cset.toInt = mS) (hn7 : a3.toInt ≠ 7) : rdA x1 (if K = 2 ∨ K = 4 then some (a3.toInt, mS, rgV K V, nmW K V, mO, mR, bk, pgL P (mkL a2.toInt mS (rgV K V) (nmW K V) (-1) 0)) else none) (fun s => rdC x2 cset x3 x4 cop rws rp lab gp bl x5 fi fg sg y1 y2 y3 y4 y5 y6 s) := by
  refine h (fun x1 x2 x3 x4 x5 _ y1 y2 y3 y4 y5 y6 => rdA x1 (if K = 2 ∨ K = 4 then some (a3.toInt, mS, rgV K V, nmW K V, mO, mR, bk, pgL P (mkL a2.toInt mS (rgV K V) (nmW K V) (-1) 0)) else none) (fun s => rdC x2 cset x3 x4 cop rws rp lab gp bl x5 fi fg sg y1 y2 y3 y4 y5 y6 s)) ?_ ?_
  · intro x1 x2 x3 x4 x5 x6 x7 x8 x9 x10 h1 h2 h3 h4 h5
    have c := opd_1 h5 hs
    obtain ⟨t1, t2⟩ := tkL_tr h1 hs
    have w := kp_tr h4 hk hl hP
    rw [hm, t1, t2] at w
    exact rdA_y px_1 (if_pos c) (rdC_mk rfl (fun _ => ⟨hm, t1, t2⟩) (fun z => absurd z hn7) hr w)
  · intro x1 x2 x3 x4 x5 x6 x7 x8 x9 x10 h1 h2 h3 h4 h5
    have c := opd_0 h5 hs
    exact Or.inr ⟨px_0, if_neg c⟩
theorem aRt_tr {x1 x2 x3 x4 : Int32} {y1 y2 y3 y4 y5 y6 : Nat → Int32} (h : tr_Reader_acceptRight rp cop cset clf cln li fl sk sv op st lf ln rt rn x1 x2 x3 x4 y1 y2 y3 y4 y5 y6) (hs : sgK sk sv K V) (hr : rws.toInt = mR) (hk : rdK rp lab gp bl li fi fg sg op st lf ln rt rn bk P) (hl : bk = false → li.toInt < 200) (hP : 0 < P.1) (hm : cset.toInt = mS ∧ clf.toInt = mL ∧ cln.toInt = mN) (ho : cop.toInt = mO) : rdA x1 (if K = 2 ∨ K = 4 then some (3, mS, mL, mN, mO, mR, bk, pgL P (mkL mO mS mL mN (rgV K V) (nmW K V))) else none) (fun s => rdC x2 cset clf cln cop rws rp lab gp bl x3 fi fg sg y1 y2 y3 y4 y5 y6 s) := by
  refine h (fun x1 x2 x3 _ y1 y2 y3 y4 y5 y6 => rdA x1 (if K = 2 ∨ K = 4 then some (3, mS, mL, mN, mO, mR, bk, pgL P (mkL mO mS mL mN (rgV K V) (nmW K V))) else none) (fun s => rdC x2 cset clf cln cop rws rp lab gp bl x3 fi fg sg y1 y2 y3 y4 y5 y6 s)) ?_ ?_ ?_ ?_ ?_ ?_
  · intro x1 x2 x3 x4 x5 x6 x7 x8 h1 h2 h3 h4 h5 h6
    have c := opd_1 h6 hs
    have t1 := rgN_tr h1 hs
    have t2 := nmZ_tr h2 hs
    have w := kp_tr h5 hk hl hP
    rw [ho, hm.1, hm.2.1, hm.2.2, t1, t2] at w
    exact rdA_y px_1 (if_pos c) (rdC_mk (by decide) (fun z => absurd z (by decide)) (fun z => absurd z (by decide)) hr w)
  · intro x1 x2 x3 x4 x5 x6 x7 x8 h1 h2 h3 h4 h5 h6
    have c := opd_0 h6 hs
    exact Or.inr ⟨px_0, if_neg c⟩
  · intro x1 x2 x3 x4 x5 x6 x7 x8 h1 h2 h3 h4 h5 h6
    have c := opd_0 h6 hs
    exact Or.inr ⟨px_0, if_neg c⟩
  · intro x1 x2 x3 x4 x5 x6 x7 x8 h1 h2 h3 h4 h5 h6
    have c := opd_1 h6 hs
    have t1 := rgN_tr h1 hs
    have t2 := nmZ_tr h2 hs
    have w := kp_tr h5 hk hl hP
    rw [ho, hm.1, hm.2.1, hm.2.2, t1, t2] at w
    exact rdA_y px_1 (if_pos c) (rdC_mk (by decide) (fun z => absurd z (by decide)) (fun z => absurd z (by decide)) hr w)
  · intro x1 x2 x3 x4 x5 x6 x7 x8 h1 h2 h3 h4 h5 h6
    have c := opd_1 h6 hs
    have t1 := rgN_tr h1 hs
    have t2 := nmZ_tr h2 hs
    have w := kp_tr h5 hk hl hP
    rw [ho, hm.1, hm.2.1, hm.2.2, t1, t2] at w
    exact rdA_y px_1 (if_pos c) (rdC_mk (by decide) (fun z => absurd z (by decide)) (fun z => absurd z (by decide)) hr w)
  · intro x1 x2 x3 x4 x5 x6 x7 x8 h1 h2 h3 h4 h5 h6
    have c := opd_0 h6 hs
    exact Or.inr ⟨px_0, if_neg c⟩
theorem aOL_tr {x1 x2 x3 x4 x5 x6 x7 x8 x9 x10 x17 : Int32} {y1 y2 y3 y4 y5 y6 : Nat → Int32} (h : tr_Reader_acceptOpOrLine rp rr rws due cop cset clf cln li fl sk sv sp op st lf ln rt rn x1 x2 x3 x4 x5 x6 x7 x8 x9 x10 y1 y2 y3 y4 y5 y6 x17) (hs : sgK sk sv K V) (hr : rws.toInt = mR) (hk : rdK rp lab gp bl li fi fg sg op st lf ln rt rn bk P) (hl : bk = false → li.toInt < 200) (hP : 0 < P.1) (hm : cset.toInt = mS ∧ clf.toInt = mL ∧ cln.toInt = mN) (hd : due.toInt = 6) (hb : mR ≤ 8192) (h0 : 0 ≤ mR) (hp : 0 ≤ sp.toInt) (hl2 : bk = false → li.toInt < 199) : rdA x1 (if K = 5 then some (7, mS, mL, mN, V, mR, bk, P) else mLine K V mO mR bk (pgL P (mkL 14 mS mL mN (-1) 0))) (fun s => rdC x5 x6 x7 x8 x17 x4 x2 lab gp bl x9 fi fg sg y1 y2 y3 y4 y5 y6 s) := by
  have hs0 := hs
  obtain ⟨hk1, hv⟩ := hs
  refine h (fun x1 x2 x3 x4 x5 x6 x7 x8 x9 _ y1 y2 y3 y4 y5 y6 x17 => rdA x1 (if K = 5 then some (7, mS, mL, mN, V, mR, bk, P) else mLine K V mO mR bk (pgL P (mkL 14 mS mL mN (-1) 0))) (fun s => rdC x5 x6 x7 x8 x17 x4 x2 lab gp bl x9 fi fg sg y1 y2 y3 y4 y5 y6 s)) ?_ ?_
  · intro x1 x2 x3 x4 x5 x6 x7 x8 x9 x10 x11 x12 x13 x14 x15 x16 x17 x18 x19 x20 x21 x22 x23 x24 h1 h2 h3 h4 h5 h6 h7 h8
    rw [if_neg (by omega)]
    have w := kp_tr h4 hk hl hP
    rw [hm.1, hm.2.1, hm.2.2] at w
    refine aLn_tr h8 hs0 hr hb h0 hp w (fun z => ?_) hP
    have c1 := (w.2.2 z).2.1.2.1
    rw [pgL_s hP] at c1
    have c2 := (hk.2.2 z).2.1.2.1
    have := hl2 z
    omega
  · intro h1
    rw [if_pos (by omega)]
    exact rdA_y px_1 rfl (rdC_mk (by decide) (fun _ => hm) (fun _ => hv (by omega) (by omega)) hr hk)
theorem adG_tr {x : Int32} {y1 y2 : Nat → Int32} (h : tr_Code_addGoal sv bl fg sg x y1 y2) (hc : cdP bl li fi fg sg op st lf ln rt rn P) (hP : 0 < P.1) : ∃ i j : Nat, i + 1 = P.1 ∧ ((j = 0 ∧ y1 = upd fg i sv ∧ y2 = sg) ∨ (j = 1 ∧ y1 = fg ∧ y2 = upd sg i sv)) ∧ x.toInt = ((2 * i + j : Nat) : Int) ∧ cdP bl li fi y1 y2 op st lf ln rt rn (pgG P sv.toInt) := by
  have c1 := hc.1
  refine h (fun x y1 y2 => ∃ i j : Nat, i + 1 = P.1 ∧ ((j = 0 ∧ y1 = upd fg i sv ∧ y2 = sg) ∨ (j = 1 ∧ y1 = fg ∧ y2 = upd sg i sv)) ∧ x.toInt = ((2 * i + j : Nat) : Int) ∧ cdP bl li fi y1 y2 op st lf ln rt rn (pgG P sv.toInt)) ?_ ?_ ?_
  · intro x1 x2 x3 x4 h1 h2 h3 h4 h5 h6
    have e1 : x1.toNatClampNeg = P.1 - 1 := nnE (by omega)
    have hg := (hc.2.2.1 (P.1 - 1) (by omega)).2.1
    rw [e1] at h3 h5
    rw [← h3] at hg
    refine ⟨P.1 - 1, 0, by omega, Or.inl ⟨rfl, h5, rfl⟩, by omega, ?_⟩
    exact cdP_G0 hc (by omega) (by omega) h5
  · intro x1 x2 x3 x4 x5 h1 h2 h3 h4 h5 h6 h7
    have e1 : x1.toNatClampNeg = P.1 - 1 := nnE (by omega)
    have hg := (hc.2.2.1 (P.1 - 1) (by omega)).2.1
    rw [e1] at h3 h5
    rw [← h3] at hg
    refine ⟨P.1 - 1, 1, by omega, Or.inr ⟨rfl, rfl, h5⟩, by omega, ?_⟩
    exact cdP_G1 hc (by omega) (by omega) h5
  · intro x1 h1 h2
    omega
theorem aGo_tr {x1 x2 : Int32} {y1 y2 y3 : Nat → Int32} (h : tr_Reader_acceptGoal a2 rp due bl sk sv sp gp fg sg x1 x2 y1 y2 y3) (hs : sgK sk sv K V) (hr : rws.toInt = mR) (hk : rdK rp lab gp bl li fi fg sg op st lf ln rt rn bk P) (hP : 0 < P.1) (hp : 0 ≤ sp.toInt) (hn7 : a2.toInt ≠ 7) (hm : 4 ≤ a2.toInt → cset.toInt = mS ∧ clf.toInt = mL ∧ cln.toInt = mN) : rdA x1 (if K = 3 then some (a2.toInt, mS, mL, mN, mO, mR, bk, pgG P V) else none) (fun s => rdC x2 cset clf cln cop rws rp lab y3 bl li fi y1 y2 op st lf ln rt rn s) := by
  obtain ⟨hk1, hv⟩ := hs
  refine h (fun x1 x2 y1 y2 y3 => rdA x1 (if K = 3 then some (a2.toInt, mS, mL, mN, mO, mR, bk, pgG P V) else none) (fun s => rdC x2 cset clf cln cop rws rp lab y3 bl li fi y1 y2 op st lf ln rt rn s)) ?_ ?_ ?_ ?_
  · intro x1 x2 x3 h1 h2 h3 h4 h5
    have hv2 := hv (by omega) (by omega)
    refine rdA_y px_1 (if_pos (by omega)) (rdC_mk rfl hm (fun z => absurd z hn7) hr ?_)
    have q0 := isB_0 h2
    have z : bk = false := by
      cases e : bk with
      | true => exact absurd (hk.1 e) (by omega)
      | false => rfl
    obtain ⟨k1, k2, k3⟩ := hk.2.2 z
    obtain ⟨i, j, g1, g2, g3, g4⟩ := adG_tr h4 k2 hP
    rw [hv2] at g4
    omega
  · intro x1 x2 x3 x4 h1 h2 h3 h4 h5 h6
    have hv2 := hv (by omega) (by omega)
    refine rdA_y px_1 (if_pos (by omega)) (rdC_mk rfl hm (fun z => absurd z hn7) hr ?_)
    have q0 := isB_0 h2
    have z : bk = false := by
      cases e : bk with
      | true => exact absurd (hk.1 e) (by omega)
      | false => rfl
    obtain ⟨k1, k2, k3⟩ := hk.2.2 z
    obtain ⟨i, j, g1, g2, g3, g4⟩ := adG_tr h4 k2 hP
    rw [hv2] at g4
    exact ⟨hk.1, gpC_G (i := i) (j := j) (z := sv) hk.2.1 g2 (by rw [h6, nnE g3]) hp, fun _ => ⟨k1, g4, k3⟩⟩
  · intro h1 h2
    have hv2 := hv (by omega) (by omega)
    refine rdA_y px_1 (if_pos (by omega)) (rdC_mk rfl hm (fun z => absurd z hn7) hr ?_)
    have q := isB_1 h2
    exact ⟨hk.1, hk.2.1, fun z => absurd (hk.2.2 z).1 q⟩
  · intro h1
    exact Or.inr ⟨px_0, if_neg (by omega)⟩
theorem acc_tr {x1 x2 x3 x5 x6 x10 x11 x12 x13 x14 x15 x22 : Int32} {x4 : Int64} {y1 y2 y3 y4 y5 y6 y7 y8 y9 y10 : Nat → Int32} {s0 : gMs} (h : tr_Reader_accept rp rr lab rws due cop cset clf cln bl li fl sk sv sp gp fi fg sg op st lf ln rt rn x1 x2 x3 x4 x5 x6 y1 y2 y3 x10 x11 x12 x13 x14 x15 y4 y5 y6 y7 y8 y9 x22 y10) (hs : sgK sk sv K V) (ht : tkO K V) (hp : 0 ≤ sp.toInt) (hc : rdC due cset clf cln cop rws rp lab gp bl li fi fg sg op st lf ln rt rn s0) (hw : mwf s0) (hb : rws.toInt ≤ 8192) : rdA x1 (mst K V s0) (fun s => rdC x5 x11 x12 x13 x22 x10 x2 x4 y10 x6 x14 y1 y2 y3 y4 y5 y6 y7 y8 y9 s) := by
  obtain ⟨du, mS, mL, mN, mO, mR, bk, P⟩ := s0
  obtain ⟨⟨w0, w1⟩, w2, w3, w4, w5, -⟩ := hw
  obtain ⟨c1, c2, c3, c4, c5⟩ := hc
  have hR : mR ≤ 8192 := by omega
  have hli : bk = false → 2 ≤ du → du ≤ 10 → li.toInt < 200 := fun z a b => by
    have e1 := w5 z
    have e2 := (c5.2.2 z).2.1.2.1
    have e3 := e1.2.2.2.1 a b
    omega
  have hli2 : bk = false → 4 ≤ du → du ≤ 8 → li.toInt < 199 := fun z a b => by
    have e1 := w5 z
    have e2 := (c5.2.2 z).2.1.2.1
    have e3 := e1.2.2.2.2 a b
    omega
  simp only [mst]
  refine h (fun x1 x2 x3 x4 x5 x6 y1 y2 y3 x10 x11 x12 x13 x14 _ y4 y5 y6 y7 y8 y9 x22 y10 => rdA x1 _ (fun s => rdC x5 x11 x12 x13 x22 x10 x2 x4 y10 x6 x14 y1 y2 y3 y4 y5 y6 y7 y8 y9 s)) ?_ ?_ ?_ ?_ ?_ ?_ ?_ ?_ ?_ ?_ ?_ ?_ ?_
  · intro x1 x2 x3 x4 x5 x6 x7 x8 x9 h1 h2 h3 h4
    rw [if_pos (by omega)]
    exact aLb_tr h4 hs ht c4 hp c5
  · intro x1 x2 x3 x4 x5 x6 x7 x8 x9 h1 h2 h3 h4
    rw [if_pos (by omega)]
    exact aLb_tr h4 hs ht c4 hp c5
  · intro x1 x2 h1 h2 h3
    rw [if_neg (by omega), if_pos (by omega)]
    obtain ⟨e1, e2⟩ := aMk_tr h3 hs
    rcases e2 with ⟨e2, e3⟩ | ⟨e2, e3⟩
    · exact rdA_y e2 (if_pos e3) (rdC_mk (by rw [e1]; decide) (fun z => absurd z (by decide)) (fun z => absurd z (by decide)) c4 c5)
    · exact Or.inr ⟨e2, if_neg e3⟩
  · intro x1 x2 x3 x4 x5 x6 x7 x8 x9 x10 x11 x12 x13 x14 x15 x16 h1 h2 h3 h4 h5
    rw [if_neg (by omega), if_neg (by omega), if_pos (by omega)]
    exact aLn_tr h5 hs c4 hR w4 hp c5 (fun z => hli z (by omega) (by omega)) (w3 (by omega))
  · intro x1 x2 h1 h2 h3
    rw [if_neg (by omega), if_neg (by omega), if_neg (by omega), if_pos (by omega)]
    obtain ⟨e1, e2⟩ := aMk_tr h3 hs
    rcases e2 with ⟨e2, e3⟩ | ⟨e2, e3⟩
    · exact rdA_y e2 (if_pos e3) (rdC_mk (by rw [e1]; decide) (fun _ => c2 (by omega)) (fun z => absurd z (by decide)) c4 c5)
    · exact Or.inr ⟨e2, if_neg e3⟩
  · intro x1 x2 x3 x4 x5 x6 x7 x8 x9 x10 x11 x12 h1 h2 h3 h4 h5 h6
    rw [if_neg (by omega), if_neg (by omega), if_neg (by omega), if_neg (by omega), if_pos (by omega)]
    exact aSr_tr h6 hs c4 c5 (fun z => hli z (by omega) (by omega)) (w3 (by omega)) (c2 (by omega))
  · intro x1 x2 x3 x4 x5 x6 x7 x8 x9 x10 x11 x12 x13 x14 x15 x16 x17 h1 h2 h3 h4 h5 h6
    rw [if_neg (by omega), if_neg (by omega), if_neg (by omega), if_neg (by omega), if_neg (by omega), if_pos (by omega)]
    exact aOL_tr h6 hs c4 c5 (fun z => hli z (by omega) (by omega)) (w3 (by omega)) (c2 (by omega)) (by omega) hR w4 hp (fun z => hli2 z (by omega) (by omega))
  · intro x1 x2 x3 x4 x5 x6 x7 x8 x9 x10 h1 h2 h3 h4 h5 h6
    rw [if_neg (by omega), if_neg (by omega), if_neg (by omega), if_neg (by omega), if_neg (by omega), if_neg (by omega), if_pos (by omega)]
    exact aRt_tr h6 hs c4 c5 (fun z => hli z (by omega) (by omega)) (w3 (by omega)) (c2 (by omega)) (c3 (by omega))
  · intro x1 x2 x3 x4 x5 x6 x7 x8 x9 x10 x11 x12 h1 h2 h3 h4 h5
    rw [if_neg (by omega), if_neg (by omega), if_neg (by omega), if_neg (by omega), if_neg (by omega), if_neg (by omega), if_neg (by omega), if_pos (by omega)]
    exact aOn_tr h5 hs c4 c5 (fun z => hli z (by omega) (by omega)) (w3 (by omega)) (c2 (by omega)).1 (by decide)
  · intro x1 x2 x3 x4 x5 x6 x7 x8 x9 x10 x11 x12 h1 h2 h3 h4 h5
    rw [if_neg (by omega), if_neg (by omega), if_neg (by omega), if_neg (by omega), if_neg (by omega), if_neg (by omega), if_neg (by omega), if_neg (by omega), if_pos (by omega)]
    exact aOn_tr h5 hs c4 c5 (fun z => hli z (by omega) (by omega)) (w3 (by omega)) (c2 (by omega)).1 (by decide)
  · intro x1 x2 x3 x4 x5 x6 x7 x8 x9 x10 x11 x12 h1 h2 h3 h4 h5
    rw [if_neg (by omega), if_neg (by omega), if_neg (by omega), if_neg (by omega), if_neg (by omega), if_neg (by omega), if_neg (by omega), if_neg (by omega), if_neg (by omega), if_pos (by omega)]
    exact aOn_tr h5 hs c4 c5 (fun z => hli z (by omega) (by omega)) (w3 (by omega)) (c2 (by omega)).1 (by decide)
  · intro x1 x2 x3 x4 x5 h1 h2 h3
    rw [if_neg (by omega), if_neg (by omega), if_neg (by omega), if_neg (by omega), if_neg (by omega), if_neg (by omega), if_neg (by omega), if_neg (by omega), if_neg (by omega), if_neg (by omega), if_pos (by omega)]
    exact aGo_tr h3 hs c4 c5 (w3 (by omega)) hp (by decide) (fun _ => c2 (by omega))
  · intro x1 x2 x3 x4 x5 h1 h2 h3 h4 h5 h6 h7 h8 h9 h10 h11 h12 h13 h14
    rw [if_neg (by omega), if_neg (by omega), if_neg (by omega), if_neg (by omega), if_neg (by omega), if_neg (by omega), if_neg (by omega), if_neg (by omega), if_neg (by omega), if_neg (by omega), if_neg (by omega)]
    exact aGo_tr h14 hs c4 c5 (w3 (by omega)) hp (by decide) (fun z => absurd z (by decide))
end RDC
end
section
/-- a text that is a program: P, no rule broken, all goals those of blocks but the first -/
def glO (P : gPg) : Prop := ∀ b i : Nat, b < P.1 → i < 2 → P.2.2.2 b i ≠ -1 → P.2.2.2 b i ≠ 0 ∧ P.2.2.2 b i < (P.1 : Int)
def okP (B : Int → Int) (n : Int) (P : gPg) : Prop := ∃ (j : Nat) (st lf ln op rw : Int), mrn B n j = some (1, st, lf, ln, op, rw, false, P) ∧ (tk B n j).1 = 1 ∧ glO P
theorem mrn_f {B : Int → Int} {n : Int} {j : Nat} {s : gMs} (h : mrn B n j = some s) (hf : (tk B n j).1 = 1) : mrn B n (j + 1) = none := by
  rw [mrn_e h, hf]; exact mst_1 s
theorem fin_u {B : Int → Int} {n : Int} {i j : Nat} {s t : gMs} (h : mrn B n j = some s) (hf : (tk B n j).1 = 1) (h2 : mrn B n i = some t) (hf2 : (tk B n i).1 = 1) : i = j := by
  by_cases c : i < j
  · have := mrn_n (mrn_f h2 hf2) j (by omega)
    rw [this] at h; cases h
  · by_cases d : j < i
    · have := mrn_n (mrn_f h hf) i (by omega)
      rw [this] at h2; cases h2
    · omega
theorem no_st {B : Int → Int} {n : Int} {j : Nat} {s : gMs} (h : mrn B n j = some s) (hn : mrn B n (j + 1) = none) (hf : (tk B n j).1 ≠ 1) (P : gPg) : ¬ okP B n P := fun ⟨i, _, _, _, _, _, h2, hf2, _⟩ => by
  by_cases c : i < j
  · have := mrn_n (mrn_f h2 hf2) j (by omega)
    rw [this] at h; cases h
  · by_cases d : j < i
    · have := mrn_n hn i (by omega)
      rw [this] at h2; cases h2
    · have e : i = j := by omega
      rw [e] at hf2; exact hf hf2
theorem no_bk {B : Int → Int} {n : Int} {j : Nat} {s : gMs} (h : mrn B n j = some s) (hf : (tk B n j).1 = 1) (hs : s.1 ≠ 1 ∨ s.2.2.2.2.2.2.1 = true ∨ ¬ glO s.2.2.2.2.2.2.2) (P : gPg) : ¬ okP B n P := fun ⟨i, _, _, _, _, _, h2, hf2, hg⟩ => by
  have e := fin_u h hf h2 hf2
  rw [e, h] at h2
  cases h2
  rcases hs with hs | hs | hs
  · exact hs rfl
  · cases hs
  · exact hs hg
theorem hl_tr {a1 a2 r : Int32} {fg sg : Nat → Int32} (h : tr_Code_goal a1 a2 fg sg r) : r = if a2.toInt = 0 then fg a1.toNatClampNeg else sg a1.toNatClampNeg := by
  refine h (fun r => r = if a2.toInt = 0 then fg a1.toNatClampNeg else sg a1.toNatClampNeg) ?_ ?_
  · intro x1 h1 h2
    rw [if_neg h1]; exact h2
  · intro x1 h1 h2
    rw [if_pos h1]; exact h2
theorem px_and1 {x z : Int32} {m : Nat} (hz : z = x &&& 1) (hx : x.toInt = (m : Int)) : z.toInt = ((m % 2 : Nat) : Int) := by
  have h1 : z.toBitVec.toNat = x.toBitVec.toNat &&& 1 := by rw [hz]; rfl
  rw [Nat.and_one_is_mod] at h1
  have h2 : x.toBitVec.toNat = m := by
    have h3 : x.toInt = if 2 * x.toBitVec.toNat < 2 ^ 32 then (x.toBitVec.toNat : Int) else (x.toBitVec.toNat : Int) - (2 ^ 32 : Nat) := BitVec.toInt_eq_toNat_cond x.toBitVec
    have h5 := x.toBitVec.isLt
    split at h3 <;> omega
  rw [h2] at h1
  exact gI_ofNat h1 (by omega)
/-- the bit that a shift to the right brings down -/
theorem sh_bitM {x y z : Int64} {i : Int32} {m : Nat} (hy : y = x >>> (i.toInt64 &&& 63)) (hz : z = y &&& 1) (hi : i.toInt = (m : Int)) : (z = 0) ↔ x.toBitVec.getLsbD (m % 64) = false := by
  have e : i.toInt.toNat % 64 = m % 64 := by rw [hi, Int.toNat_natCast]
  have hc : i.toInt64 &&& 63 = Int64.ofNat (m % 64) := by rw [lb_Qcnt i (by omega), e]
  have hm : m % 64 < 64 := Nat.mod_lt _ (by decide)
  have hy2 : y.toBitVec.getLsbD 0 = x.toBitVec.getLsbD (m % 64) := by
    rw [hy, hc, Int64.toBitVec_shiftRight]
    have e2 : ((Int64.ofNat (m % 64)).toBitVec.smod 64).toNat = m % 64 := by
      have : ∀ j : Fin 64, ((Int64.ofNat j.val).toBitVec.smod 64).toNat = j.val := by decide +kernel
      exact this ⟨m % 64, hm⟩
    rw [BitVec.sshiftRight', e2, BitVec.getLsbD_sshiftRight]
    simp [hm]
  have hz2 : ∀ k, z.toBitVec.getLsbD k = (y.toBitVec.getLsbD k && decide (k = 0)) := fun k => by
    rw [hz, Int64.toBitVec_and, BitVec.getLsbD_and]
    congr 1
    by_cases q : k < 64
    · have : ∀ j : Fin 64, (Int64.toBitVec 1).getLsbD j.val = decide (j.val = 0) := by decide +kernel
      exact this ⟨k, q⟩
    · rw [BitVec.getLsbD_of_ge _ _ (by omega), decide_eq_false (by omega)]
  constructor
  · intro h
    rw [← hy2]
    have := hz2 0
    rw [h] at this
    simpa using this.symm
  · intro h
    rw [← Int64.toBitVec_inj]
    apply BitVec.eq_of_getLsbD_eq
    intro k hk
    rw [hz2 k]
    by_cases q : k = 0
    · rw [q, hy2, h]; rfl
    · rw [decide_eq_false q, Bool.and_false]
      simp
theorem sh_bit {x y z : Int64} {i : Int32} {m : Nat} (hy : y = x >>> (i.toInt64 &&& 63)) (hz : z = y &&& 1) (hi : i.toInt = (m : Int)) (hm : m < 64) : (z = 0) ↔ x.toBitVec.getLsbD m = false := by
  have q := sh_bitM hy hz hi
  rw [Nat.mod_eq_of_lt hm] at q
  exact q
theorem cg_tl {bl : Int32} {fg sg : Nat → Int32} {lab : Int64} {i e : Int32} {k : Nat} {P : gPg} (hb : bl.toInt = (P.1 : Int)) (hP : P.1 ≤ 40) (hg : ∀ b : Nat, b < P.1 → (fg b).toInt = P.2.2.2 b 0 ∧ (sg b).toInt = P.2.2.2 b 1) (hr : ∀ b i : Nat, b < P.1 → i < 2 → -1 ≤ P.2.2.2 b i ∧ P.2.2.2 b i ≤ 39) (hl : lbP lab P.1) (h : tl_Reader_checkGoals_2 bl fg sg lab i k e) :
    (k = 76 ∧ ∀ b t : Nat, b < P.1 → t < 2 → i.toInt ≤ ((2 * b + t : Nat) : Int) → P.2.2.2 b t ≠ -1 → P.2.2.2 b t ≠ 0 ∧ P.2.2.2 b t < (P.1 : Int)) ∨ (k = 54 ∧ ∃ b t : Nat, b < P.1 ∧ t < 2 ∧ e.toInt = ((2 * b + t : Nat) : Int) ∧ P.2.2.2 b t ≠ -1 ∧ ¬ (P.2.2.2 b t ≠ 0 ∧ P.2.2.2 b t < (P.1 : Int))) := by
  refine h (fun i k e => (k = 76 ∧ ∀ b t : Nat, b < P.1 → t < 2 → i.toInt ≤ ((2 * b + t : Nat) : Int) → P.2.2.2 b t ≠ -1 → P.2.2.2 b t ≠ 0 ∧ P.2.2.2 b t < (P.1 : Int)) ∨ (k = 54 ∧ ∃ b t : Nat, b < P.1 ∧ t < 2 ∧ e.toInt = ((2 * b + t : Nat) : Int) ∧ P.2.2.2 b t ≠ -1 ∧ ¬ (P.2.2.2 b t ≠ 0 ∧ P.2.2.2 b t < (P.1 : Int)))) ?_ ?_ ?_ ?_ ?_
  · intro l2_1 x1 h1 h2 h3
    try dsimp only at *
    exact Or.inl ⟨rfl, fun b t hb ht hi => by omega⟩
  · intro l2_1 x1 x2 x3 x4 x5 k e1 h1 h2 h3 h4 h5 h6 h7 h8 ih
    try dsimp only at *
    revert ih
    have b0 := h1.1
    have eM : l2_1.toInt = ((l2_1.toInt.toNat : Nat) : Int) := (Int.toNat_of_nonneg b0).symm
    have e3 := px_and1 h5 eM
    have hbb : l2_1.toInt.toNat / 2 < P.1 := by omega
    have e2 : x2.toNatClampNeg = l2_1.toInt.toNat / 2 := nnE (by omega)
    have q := hl_tr h6
    rw [e2] at q
    obtain ⟨g0, g1⟩ := hg _ hbb
    have ht2 : l2_1.toInt.toNat % 2 < 2 := Nat.mod_lt _ (by decide)
    have ev : x4.toInt = P.2.2.2 (l2_1.toInt.toNat / 2) (l2_1.toInt.toNat % 2) := by
      by_cases c : l2_1.toInt.toNat % 2 = 0
      · rw [if_pos (by omega)] at q; rw [q, c]; exact g0
      · have c1 : l2_1.toInt.toNat % 2 = 1 := by omega
        rw [if_neg (by omega)] at q; rw [q, c1]; exact g1
    have hrr := hr _ _ hbb ht2
    have em : 2 * (l2_1.toInt.toNat / 2) + l2_1.toInt.toNat % 2 = l2_1.toInt.toNat := Nat.div_add_mod _ 2
    intro ih
    rcases ih with ⟨k1, k2⟩ | k1
    · refine Or.inl ⟨k1, fun b t hb ht hi hn => ?_⟩
      by_cases c : 2 * b + t = l2_1.toInt.toNat
      · have c1 : b = l2_1.toInt.toNat / 2 := by omega
        have c2 : t = l2_1.toInt.toNat % 2 := by omega
        rw [c1, c2] at hn ⊢
        omega
      · exact k2 b t hb ht (by omega) hn
    · exact Or.inr k1
  · intro l2_1 x1 x2 x3 x4 h1 h2 h3 h4 h5 h6 h7 h8
    try dsimp only at *
    have b0 := h1.1
    have eM : l2_1.toInt = ((l2_1.toInt.toNat : Nat) : Int) := (Int.toNat_of_nonneg b0).symm
    have e3 := px_and1 h5 eM
    have hbb : l2_1.toInt.toNat / 2 < P.1 := by omega
    have e2 : x2.toNatClampNeg = l2_1.toInt.toNat / 2 := nnE (by omega)
    have q := hl_tr h6
    rw [e2] at q
    obtain ⟨g0, g1⟩ := hg _ hbb
    have ht2 : l2_1.toInt.toNat % 2 < 2 := Nat.mod_lt _ (by decide)
    have ev : x4.toInt = P.2.2.2 (l2_1.toInt.toNat / 2) (l2_1.toInt.toNat % 2) := by
      by_cases c : l2_1.toInt.toNat % 2 = 0
      · rw [if_pos (by omega)] at q; rw [q, c]; exact g0
      · have c1 : l2_1.toInt.toNat % 2 = 1 := by omega
        rw [if_neg (by omega)] at q; rw [q, c1]; exact g1
    have hrr := hr _ _ hbb ht2
    have em : 2 * (l2_1.toInt.toNat / 2) + l2_1.toInt.toNat % 2 = l2_1.toInt.toNat := Nat.div_add_mod _ 2
    exact Or.inr ⟨rfl, _, _, hbb, ht2, by omega, by omega, by omega⟩
  · intro l2_1 x1 x2 x3 x4 x5 x6 x7 k e1 h1 h2 h3 h4 h5 h6 h7 h8 h9 h10 h11 h12 ih
    try dsimp only at *
    revert ih
    have b0 := h1.1
    have eM : l2_1.toInt = ((l2_1.toInt.toNat : Nat) : Int) := (Int.toNat_of_nonneg b0).symm
    have e3 := px_and1 h5 eM
    have hbb : l2_1.toInt.toNat / 2 < P.1 := by omega
    have e2 : x2.toNatClampNeg = l2_1.toInt.toNat / 2 := nnE (by omega)
    have q := hl_tr h6
    rw [e2] at q
    obtain ⟨g0, g1⟩ := hg _ hbb
    have ht2 : l2_1.toInt.toNat % 2 < 2 := Nat.mod_lt _ (by decide)
    have ev : x4.toInt = P.2.2.2 (l2_1.toInt.toNat / 2) (l2_1.toInt.toNat % 2) := by
      by_cases c : l2_1.toInt.toNat % 2 = 0
      · rw [if_pos (by omega)] at q; rw [q, c]; exact g0
      · have c1 : l2_1.toInt.toNat % 2 = 1 := by omega
        rw [if_neg (by omega)] at q; rw [q, c1]; exact g1
    have hrr := hr _ _ hbb ht2
    have em : 2 * (l2_1.toInt.toNat / 2) + l2_1.toInt.toNat % 2 = l2_1.toInt.toNat := Nat.div_add_mod _ 2
    have sb := sh_bit (m := x4.toInt.toNat) h9 h10 (by omega) (by omega)
    have lb := hl x4.toInt.toNat (by omega)
    have hlt : x4.toInt.toNat < P.1 := by
      by_cases c : x4.toInt.toNat < P.1
      · exact c
      · rw [decide_eq_false c] at lb
        exact absurd (sb.mpr lb) h11
    intro ih
    rcases ih with ⟨k1, k2⟩ | k1
    · refine Or.inl ⟨k1, fun b t hb ht hi hn => ?_⟩
      by_cases c : 2 * b + t = l2_1.toInt.toNat
      · have c1 : b = l2_1.toInt.toNat / 2 := by omega
        have c2 : t = l2_1.toInt.toNat % 2 := by omega
        rw [c1, c2] at hn ⊢
        omega
      · exact k2 b t hb ht (by omega) hn
    · exact Or.inr k1
  · intro l2_1 x1 x2 x3 x4 x5 x6 h1 h2 h3 h4 h5 h6 h7 h8 h9 h10 h11
    try dsimp only at *
    have b0 := h1.1
    have eM : l2_1.toInt = ((l2_1.toInt.toNat : Nat) : Int) := (Int.toNat_of_nonneg b0).symm
    have e3 := px_and1 h5 eM
    have hbb : l2_1.toInt.toNat / 2 < P.1 := by omega
    have e2 : x2.toNatClampNeg = l2_1.toInt.toNat / 2 := nnE (by omega)
    have q := hl_tr h6
    rw [e2] at q
    obtain ⟨g0, g1⟩ := hg _ hbb
    have ht2 : l2_1.toInt.toNat % 2 < 2 := Nat.mod_lt _ (by decide)
    have ev : x4.toInt = P.2.2.2 (l2_1.toInt.toNat / 2) (l2_1.toInt.toNat % 2) := by
      by_cases c : l2_1.toInt.toNat % 2 = 0
      · rw [if_pos (by omega)] at q; rw [q, c]; exact g0
      · have c1 : l2_1.toInt.toNat % 2 = 1 := by omega
        rw [if_neg (by omega)] at q; rw [q, c1]; exact g1
    have hrr := hr _ _ hbb ht2
    have em : 2 * (l2_1.toInt.toNat / 2) + l2_1.toInt.toNat % 2 = l2_1.toInt.toNat := Nat.div_add_mod _ 2
    have sb := sh_bit (m := x4.toInt.toNat) h9 h10 (by omega) (by omega)
    have lb := hl x4.toInt.toNat (by omega)
    have hlt : ¬ x4.toInt.toNat < P.1 := fun c => by
      have e1 := sb.mp h11
      rw [lb, decide_eq_true c] at e1
      cases e1
    exact Or.inr ⟨rfl, _, _, hbb, ht2, by omega, by omega, by omega⟩
theorem rI_tl {n : Int32} {f : Nat → Int32} {k : Nat} {l3 : Int32} {l2 : Int32} {rp : Int32} {rr : Int32} {lab : Int64} {rws : Int32} {due : Int32} {cop : Int32} {cset : Int32} {clf : Int32} {cln : Int32} {gp : Nat → Int32} {bl : Int32} {li : Int32} {fl : Int32} {fi : Nat → Int32} {fg : Nat → Int32} {sg : Nat → Int32} {op : Nat → Int32} {st : Nat → Int32} {lf : Nat → Int32} {ln : Nat → Int32} {rt : Nat → Int32} {rn : Nat → Int32} {sk : Int32} {sv : Int32} {sp : Int32} {sb : Int32} {e1 : Int32} {e2 : Int32} {e3 : Int32} {e4 : Int64} {e5 : Int32} {e6 : Int32} {e7 : Int32} {e8 : Int32} {e9 : Int32} {e10 : Int32} {e11 : Nat → Int32} {e12 : Int32} {e13 : Int32} {e14 : Int32} {e15 : Nat → Int32} {e16 : Nat → Int32} {e17 : Nat → Int32} {e18 : Nat → Int32} {e19 : Nat → Int32} {e20 : Nat → Int32} {e21 : Nat → Int32} {e22 : Nat → Int32} {e23 : Nat → Int32} {e24 : Int32} {e25 : Int32} {e26 : Int32} {e27 : Int32} (hn : 0 ≤ n.toInt) (hn2 : n.toInt ≤ 8192) (h : tl_Reader_readInto_40 n f l3 l2 rp rr lab rws due cop cset clf cln gp bl li fl fi fg sg op st lf ln rt rn sk sv sp sb k e1 e2 e3 e4 e5 e6 e7 e8 e9 e10 e11 e12 e13 e14 e15 e16 e17 e18 e19 e20 e21 e22 e23 e24 e25 e26 e27) : ((k = 1085 → e1.toInt = 0) ∧ (k = 2085 → e1.toInt ≠ 0)) ∧ (l2.toInt = 0 → e1.toInt = 0 ∧ e26 = sp) ∧ (l2.toInt = 1 → ∀ (i : Nat) (s : gMs), l3.toInt = (i : Int) → mrn (bA f n.toInt) n.toInt i = some s → rdC due cset clf cln cop rws rp lab gp bl li fi fg sg op st lf ln rt rn s → sgK sk sv (tk (bA f n.toInt) n.toInt i).1 (tk (bA f n.toInt) n.toInt i).2.1 → sp.toInt = (tk (bA f n.toInt) n.toInt i).2.2.1 → sb.toInt = (tk (bA f n.toInt) n.toInt i).2.2.2 → ∃ (j : Nat) (t : gMs), mrn (bA f n.toInt) n.toInt j = some t ∧ ((e1.toInt = 1 ∧ (tk (bA f n.toInt) n.toInt j).1 = 1 ∧ rdC e6 e8 e9 e10 e7 e5 e2 e4 e11 e12 e13 e15 e16 e17 e18 e19 e20 e21 e22 e23 t ∧ e26.toInt = (tk (bA f n.toInt) n.toInt j).2.2.1) ∨ (e1.toInt = 0 ∧ mrn (bA f n.toInt) n.toInt (j + 1) = none ∧ (tk (bA f n.toInt) n.toInt j).1 ≠ 1 ∧ e26.toInt = (tk (bA f n.toInt) n.toInt j).2.2.1))) := by
  have hB := bOk_bA (f := f) hn
  refine h (fun l3 l2 rp rr lab rws due cop cset clf cln gp bl li fl fi fg sg op st lf ln rt rn sk sv sp sb k e1 e2 e3 e4 e5 e6 e7 e8 e9 e10 e11 e12 e13 e14 e15 e16 e17 e18 e19 e20 e21 e22 e23 e24 e25 e26 e27 => ((k = 1085 → e1.toInt = 0) ∧ (k = 2085 → e1.toInt ≠ 0)) ∧ (l2.toInt = 0 → e1.toInt = 0 ∧ e26 = sp) ∧ (l2.toInt = 1 → ∀ (i : Nat) (s : gMs), l3.toInt = (i : Int) → mrn (bA f n.toInt) n.toInt i = some s → rdC due cset clf cln cop rws rp lab gp bl li fi fg sg op st lf ln rt rn s → sgK sk sv (tk (bA f n.toInt) n.toInt i).1 (tk (bA f n.toInt) n.toInt i).2.1 → sp.toInt = (tk (bA f n.toInt) n.toInt i).2.2.1 → sb.toInt = (tk (bA f n.toInt) n.toInt i).2.2.2 → ∃ (j : Nat) (t : gMs), mrn (bA f n.toInt) n.toInt j = some t ∧ ((e1.toInt = 1 ∧ (tk (bA f n.toInt) n.toInt j).1 = 1 ∧ rdC e6 e8 e9 e10 e7 e5 e2 e4 e11 e12 e13 e15 e16 e17 e18 e19 e20 e21 e22 e23 t ∧ e26.toInt = (tk (bA f n.toInt) n.toInt j).2.2.1) ∨ (e1.toInt = 0 ∧ mrn (bA f n.toInt) n.toInt (j + 1) = none ∧ (tk (bA f n.toInt) n.toInt j).1 ≠ 1 ∧ e26.toInt = (tk (bA f n.toInt) n.toInt j).2.2.1)))) ?_ ?_ ?_ ?_ ?_
  · intro l3_1 l2_1 Reader_rulePlace_1 Reader_ruleReason_1 Reader_labels_1 Reader_rows_1 Reader_due_1 Reader_op_1 Reader_set_1 Reader_left_1 Reader_leftNumber_1 Reader_goalPlaces_1 Code_blocks_1 Code_lines_1 Code_isFull_1 Code_first_1 Code_firstGoal_1 Code_secondGoal_1 Code_op_1 Code_set_1 Code_left_1 Code_leftNumber_1 Code_right_1 Code_rightNumber_1 Signs_kind_1 Signs_value_1 Signs_place_1 Signs_behind_1 h1 h2 h3 h4 h5 h6 h7 h8 h9
    try dsimp only at *
    refine ⟨⟨fun z => absurd z (by decide), fun z => absurd z (by decide)⟩, fun z => ⟨z, rfl⟩, fun z i s hi hm hc hs hp hq => ?_⟩
    have w := mrn_w hB hm
    have b := tk_b hB i
    exact ⟨i, s, hm, Or.inl ⟨z, b.2.2.2.2.1.mpr (by omega), hc, hp⟩⟩
  · intro l3_1 l2_1 Reader_rulePlace_1 Reader_ruleReason_1 Reader_labels_1 Reader_rows_1 Reader_due_1 Reader_op_1 Reader_set_1 Reader_left_1 Reader_leftNumber_1 Reader_goalPlaces_1 Code_blocks_1 Code_lines_1 Code_isFull_1 Code_first_1 Code_firstGoal_1 Code_secondGoal_1 Code_op_1 Code_set_1 Code_left_1 Code_leftNumber_1 Code_right_1 Code_rightNumber_1 Signs_kind_1 Signs_value_1 Signs_place_1 Signs_behind_1 h1 h2 h3 h4 h5 h6 h7 h8 h9 h10
    try dsimp only at *
    exact ⟨⟨fun _ => h10, fun z => absurd z (by decide)⟩, fun z => ⟨z, rfl⟩, fun z => by omega⟩
  · intro l3_1 l2_1 Reader_rulePlace_1 Reader_ruleReason_1 Reader_labels_1 Reader_rows_1 Reader_due_1 Reader_op_1 Reader_set_1 Reader_left_1 Reader_leftNumber_1 Reader_goalPlaces_1 Code_blocks_1 Code_lines_1 Code_isFull_1 Code_first_1 Code_firstGoal_1 Code_secondGoal_1 Code_op_1 Code_set_1 Code_left_1 Code_leftNumber_1 Code_right_1 Code_rightNumber_1 Signs_kind_1 Signs_value_1 Signs_place_1 Signs_behind_1 h1 h2 h3 h4 h5 h6 h7 h8 h9 h10 h11
    try dsimp only at *
    refine ⟨⟨fun z => absurd z (by decide), fun _ => h10⟩, fun z => ⟨z, rfl⟩, fun z i s hi hm hc hs hp hq => ?_⟩
    exact ⟨i, s, hm, Or.inl ⟨z, by rw [← hs.1]; exact h11, hc, hp⟩⟩
  · intro l3_1 l2_1 Reader_rulePlace_1 Reader_ruleReason_1 Reader_labels_1 Reader_rows_1 Reader_due_1 Reader_op_1 Reader_set_1 Reader_left_1 Reader_leftNumber_1 Reader_goalPlaces_1 Code_blocks_1 Code_lines_1 Code_isFull_1 Code_first_1 Code_firstGoal_1 Code_secondGoal_1 Code_op_1 Code_set_1 Code_left_1 Code_leftNumber_1 Code_right_1 Code_rightNumber_1 Signs_kind_1 Signs_value_1 Signs_place_1 Signs_behind_1 x1 x2 x3 x4 x5 x6 x7 x8 x9 x10 x11 x12 x13 x14 x15 x16 x17 x18 x19 x20 x21 x22 x23 x24 k e1 e2 e3 e4 e5 e6 e7 e8 e9 e10 e11 e12 e13 e14 e15 e16 e17 e18 e19 e20 e21 e22 e23 e24 e25 e26 e27 h1 h2 h3 h4 h5 h6 h7 h8 h9 h10 h11 h12 h13 h14 h15 h16 h17 h18 h19 ih
    try dsimp only at *
    refine ⟨ih.1, fun z => absurd z h10, fun z i s hi hm hc hs hp hq => ?_⟩
    obtain ⟨w1, w2, w3⟩ := mrn_w hB hm
    have b := tk_b hB i
    have hrr : Reader_rows_1.toInt ≤ 8192 := by
      obtain ⟨du, mS, mL, mN, mO, mR, bk, P⟩ := s
      have c4 := hc.2.2.2.1
      have w4 : mR ≤ (i : Int) := w3
      omega
    have a := acc_tr h17 hs b.2.2.2.2.2.2 (by omega) hc w1 hrr
    have me := mrn_e hm
    rcases a with ⟨a1, s', a2, a3⟩ | ⟨a1, a2⟩
    · omega
    · obtain ⟨r1, r2⟩ := ih.2.1 a1
      exact ⟨i, s, hm, Or.inr ⟨r1, me.trans a2, by rw [← hs.1]; exact h11, by rw [r2]; exact hp⟩⟩
  · intro l3_1 l2_1 Reader_rulePlace_1 Reader_ruleReason_1 Reader_labels_1 Reader_rows_1 Reader_due_1 Reader_op_1 Reader_set_1 Reader_left_1 Reader_leftNumber_1 Reader_goalPlaces_1 Code_blocks_1 Code_lines_1 Code_isFull_1 Code_first_1 Code_firstGoal_1 Code_secondGoal_1 Code_op_1 Code_set_1 Code_left_1 Code_leftNumber_1 Code_right_1 Code_rightNumber_1 Signs_kind_1 Signs_value_1 Signs_place_1 Signs_behind_1 x1 x2 x3 x4 x5 x6 x7 x8 x9 x10 x11 x12 x13 x14 x15 x16 x17 x18 x19 x20 x21 x22 x23 x24 x25 x26 x27 x28 k e1 e2 e3 e4 e5 e6 e7 e8 e9 e10 e11 e12 e13 e14 e15 e16 e17 e18 e19 e20 e21 e22 e23 e24 e25 e26 e27 h1 h2 h3 h4 h5 h6 h7 h8 h9 h10 h11 h12 h13 h14 h15 h16 h17 h18 h19 h20 h21 h22 ih
    try dsimp only at *
    refine ⟨ih.1, fun z => absurd z h10, fun z i s hi hm hc hs hp hq => ?_⟩
    obtain ⟨w1, w2, w3⟩ := mrn_w hB hm
    have b := tk_b hB i
    have hrr : Reader_rows_1.toInt ≤ 8192 := by
      obtain ⟨du, mS, mL, mN, mO, mR, bk, P⟩ := s
      have c4 := hc.2.2.2.1
      have w4 : mR ≤ (i : Int) := w3
      omega
    have a := acc_tr h17 hs b.2.2.2.2.2.2 (by omega) hc w1 hrr
    have me := mrn_e hm
    rcases a with ⟨a1, s', a2, a3⟩ | ⟨a1, a2⟩
    · have ad := adv_tr (by omega) (by omega) hn2 h21
      obtain ⟨d1, d2, d3, d4⟩ := ad
      have dk := hs.1
      have e0 : (tk (bA f n.toInt) n.toInt (i + 1)).2.2.1 = skp (bA f n.toInt) n.toInt (tk (bA f n.toInt) n.toInt i).2.2.2 0 := rfl
      rw [hq] at d1
      rw [d1, dk] at d2 d3 d4
      exact ih.2.2 a1 (i + 1) s' (by omega) (me.trans a2) a3 ⟨d2, fun p q => d4 (by rw [d2]; exact p) (by rw [d2]; exact q)⟩ d1 d3
    · omega
theorem opn_tr {n k v p e : Int32} {f : Nat → Int32} (hn : 0 ≤ n.toInt) (hn2 : n.toInt ≤ 8192) (h : tr_Signs_open n f k v p e) : k.toInt = (tk (bA f n.toInt) n.toInt 0).1 ∧ (2 ≤ (tk (bA f n.toInt) n.toInt 0).1 → (tk (bA f n.toInt) n.toInt 0).1 ≤ 5 → v.toInt = (tk (bA f n.toInt) n.toInt 0).2.1) ∧ p.toInt = (tk (bA f n.toInt) n.toInt 0).2.2.1 ∧ e.toInt = (tk (bA f n.toInt) n.toInt 0).2.2.2 := by
  refine h (fun k v p e => k.toInt = (tk (bA f n.toInt) n.toInt 0).1 ∧ (2 ≤ (tk (bA f n.toInt) n.toInt 0).1 → (tk (bA f n.toInt) n.toInt 0).1 ≤ 5 → v.toInt = (tk (bA f n.toInt) n.toInt 0).2.1) ∧ p.toInt = (tk (bA f n.toInt) n.toInt 0).2.2.1 ∧ e.toInt = (tk (bA f n.toInt) n.toInt 0).2.2.2) ?_
  · intro x1 x2 x3 x4 h1 h2 h3
    obtain ⟨d1, d2, d3, d4⟩ := adv_tr (by decide) (by rw [px_0]; exact hn) hn2 h3
    rw [px_0] at d1
    rw [d1, px_0, decide_eq_false (by decide)] at d2 d3 d4
    exact ⟨d2, fun a b => d4 (by rw [d2]; exact a) (by rw [d2]; exact b), d1, d3⟩
theorem cgP_tl {bl : Int32} {gp fg sg : Nat → Int32} {lab : Int64} {i e : Int32} {k : Nat} (hg : gpC gp bl fg sg) (h : tl_Reader_checkGoals_2 bl fg sg lab i k e) : k = 76 ∨ (k = 54 ∧ 0 ≤ (gp e.toNatClampNeg).toInt) := by
  refine h (fun i k e => k = 76 ∨ (k = 54 ∧ 0 ≤ (gp e.toNatClampNeg).toInt)) ?_ ?_ ?_ ?_ ?_
  · intro l2_1 x1 h1 h2 h3
    try dsimp only at *
    exact Or.inl rfl
  · intro l2_1 x1 x2 x3 x4 x5 k e1 h1 h2 h3 h4 h5 h6 h7 h8 ih
    try dsimp only at *
    exact ih
  · intro l2_1 x1 x2 x3 x4 h1 h2 h3 h4 h5 h6 h7 h8
    try dsimp only at *
    refine Or.inr ⟨rfl, ?_⟩
    have b0 := h1.1
    have eM : l2_1.toInt = ((l2_1.toInt.toNat : Nat) : Int) := (Int.toNat_of_nonneg b0).symm
    have e3 := px_and1 h5 eM
    have e2 : x2.toNatClampNeg = l2_1.toInt.toNat / 2 := nnE (by omega)
    have q := hl_tr h6
    rw [e2] at q
    obtain ⟨g0, g1⟩ := hg (l2_1.toInt.toNat / 2) (by omega)
    rw [nnE eM]
    by_cases c : l2_1.toInt.toNat % 2 = 0
    · rw [if_pos (by omega)] at q
      have e5 : l2_1.toInt.toNat = 2 * (l2_1.toInt.toNat / 2) := by omega
      rw [e5]
      exact g0 (by rw [← q]; assumption)
    · rw [if_neg (by omega)] at q
      have e5 : l2_1.toInt.toNat = 2 * (l2_1.toInt.toNat / 2) + 1 := by omega
      rw [e5]
      exact g1 (by rw [← q]; assumption)
  · intro l2_1 x1 x2 x3 x4 x5 x6 x7 k e1 h1 h2 h3 h4 h5 h6 h7 h8 h9 h10 h11 h12 ih
    try dsimp only at *
    exact ih
  · intro l2_1 x1 x2 x3 x4 x5 x6 h1 h2 h3 h4 h5 h6 h7 h8 h9 h10 h11
    try dsimp only at *
    refine Or.inr ⟨rfl, ?_⟩
    have b0 := h1.1
    have eM : l2_1.toInt = ((l2_1.toInt.toNat : Nat) : Int) := (Int.toNat_of_nonneg b0).symm
    have e3 := px_and1 h5 eM
    have e2 : x2.toNatClampNeg = l2_1.toInt.toNat / 2 := nnE (by omega)
    have q := hl_tr h6
    rw [e2] at q
    obtain ⟨g0, g1⟩ := hg (l2_1.toInt.toNat / 2) (by omega)
    rw [nnE eM]
    by_cases c : l2_1.toInt.toNat % 2 = 0
    · rw [if_pos (by omega)] at q
      have e5 : l2_1.toInt.toNat = 2 * (l2_1.toInt.toNat / 2) := by omega
      rw [e5]
      exact g0 (by rw [← q]; assumption)
    · rw [if_neg (by omega)] at q
      have e5 : l2_1.toInt.toNat = 2 * (l2_1.toInt.toNat / 2) + 1 := by omega
      rw [e5]
      exact g1 (by rw [← q]; assumption)
theorem cGo_tr {rp rr bl li x y : Int32} {lab : Int64} {gp fi fg sg op st lf ln rt rn : Nat → Int32} {bk : Bool} {P : gPg} (h : tr_Reader_checkGoals rp rr lab bl gp fg sg x y) (hk : rdK rp lab gp bl li fi fg sg op st lf ln rt rn bk P) :
    (x = rp ∧ (bk = false → ∀ {mS mL mN mO mR : Int}, mwf (1, mS, mL, mN, mO, mR, false, P) → glO P)) ∨ (0 ≤ x.toInt ∧ (bk = false → ∀ {du mS mL mN mO mR : Int}, mwf (du, mS, mL, mN, mO, mR, false, P) → du = 1 → ¬ glO P)) := by
  have hh : ∀ {mS mL mN mO mR : Int}, mwf (1, mS, mL, mN, mO, mR, false, P) → P.1 ≤ 40 ∧ ∀ b i : Nat, b < P.1 → i < 2 → -1 ≤ P.2.2.2 b i ∧ P.2.2.2 b i ≤ 39 := fun w => by
    obtain ⟨-, -, -, -, w5, -, -, -, -, -, -, w12, w13, -⟩ := w
    refine ⟨(w5 rfl).1, fun b i hb hi => ?_⟩
    have hc : blC (P.2.1 b) (P.2.2.1 b) (P.2.2.2 b) := by
      by_cases e : b + 1 = P.1
      · exact w13 rfl b e
      · exact w12 b (by omega)
    have hg := hc.2.2.2
    unfold edG at hg
    have e : i = 0 ∨ i = 1 := by omega
    rcases e with e | e <;> (rw [e]; omega)
  refine h (fun x y => (x = rp ∧ (bk = false → ∀ {mS mL mN mO mR : Int}, mwf (1, mS, mL, mN, mO, mR, false, P) → glO P)) ∨ (0 ≤ x.toInt ∧ (bk = false → ∀ {du mS mL mN mO mR : Int}, mwf (du, mS, mL, mN, mO, mR, false, P) → du = 1 → ¬ glO P))) ?_ ?_
  · intro h1
    refine Or.inl ⟨rfl, fun z => ?_⟩
    intro mS mL mN mO mR w
    obtain ⟨w1, w2⟩ := hh w
    obtain ⟨k1, k2, k3⟩ := hk.2.2 z
    rcases cg_tl k2.1 w1 (fun b hb => (k2.2.2.1 b hb).2) w2 k3 h1 with ⟨-, q⟩ | ⟨q, -⟩
    · exact fun b i hb hi hn => q b i hb hi (by rw [px_0]; omega) hn
    · exact absurd q (by decide)
  · intro x1 x2 h1 h2
    rcases cgP_tl hk.2.1 h1 with q | q
    · exact absurd q (by decide)
    refine Or.inr ⟨by rw [h2]; exact q.2, fun z => ?_⟩
    intro du mS mL mN mO mR w hd
    subst hd
    obtain ⟨w1, w2⟩ := hh w
    obtain ⟨k1, k2, k3⟩ := hk.2.2 z
    rcases cg_tl k2.1 w1 (fun b hb => (k2.2.2.1 b hb).2) w2 k3 h1 with ⟨q, -⟩ | ⟨-, b, t, c1, c2, c3, c4, c5⟩
    · exact absurd q (by decide)
    · exact fun g => c5 (g b t c1 c2 c4)
theorem rI_tr {Reader_op : Int32} {Reader_set : Int32} {Reader_left : Int32} {Reader_leftNumber : Int32} {Reader_goalPlaces : Nat → Int32} {Code_first : Nat → Int32} {Code_firstGoal : Nat → Int32} {Code_secondGoal : Nat → Int32} {Code_op : Nat → Int32} {Code_set : Nat → Int32} {Code_left : Nat → Int32} {Code_leftNumber : Nat → Int32} {Code_right : Nat → Int32} {Code_rightNumber : Nat → Int32} {Tape_size : Int32} {Tape_bytes : Nat → Int32} {o1 : Int32} {o2 : Int32} {o3 : Int32} {o4 : Int32} {o5 : Int64} {o6 : Int32} {o7 : Int32} {o8 : Int32} {o9 : Int32} {o10 : Int32} {o11 : Int32} {o12 : Int32} {o13 : Int32} {o14 : Int32} {o15 : Int32} {o16 : Int32} {o17 : Int32} {o18 : Int32} {o19 : Nat → Int32} {o20 : Nat → Int32} {o21 : Nat → Int32} {o22 : Nat → Int32} {o23 : Nat → Int32} {o24 : Nat → Int32} {o25 : Nat → Int32} {o26 : Nat → Int32} {o27 : Nat → Int32} {o28 : Nat → Int32} (hn : 0 ≤ Tape_size.toInt) (hn2 : Tape_size.toInt ≤ 8192) (h : tr_Reader_readInto Reader_op Reader_set Reader_left Reader_leftNumber Reader_goalPlaces Code_first Code_firstGoal Code_secondGoal Code_op Code_set Code_left Code_leftNumber Code_right Code_rightNumber Tape_size Tape_bytes o1 o2 o3 o4 o5 o6 o7 o8 o9 o10 o11 o12 o13 o14 o15 o16 o17 o18 o19 o20 o21 o22 o23 o24 o25 o26 o27 o28) : (o1.toInt = -1 ∧ ∃ P, okP (bA Tape_bytes Tape_size.toInt) Tape_size.toInt P ∧ cdP o12 o13 o20 o21 o22 o23 o24 o25 o26 o27 o28 P) ∨ (0 ≤ o1.toInt ∧ ∀ P, ¬ okP (bA Tape_bytes Tape_size.toInt) Tape_size.toInt P) := by
  have hB := bOk_bA (f := Tape_bytes) hn
  have c0 : Int32.toInt 0 = 0 := by decide
  refine h (fun o1 o2 o3 o4 o5 o6 o7 o8 o9 o10 o11 o12 o13 o14 o15 o16 o17 o18 o19 o20 o21 o22 o23 o24 o25 o26 o27 o28 => (o1.toInt = -1 ∧ ∃ P, okP (bA Tape_bytes Tape_size.toInt) Tape_size.toInt P ∧ cdP o12 o13 o20 o21 o22 o23 o24 o25 o26 o27 o28 P) ∨ (0 ≤ o1.toInt ∧ ∀ P, ¬ okP (bA Tape_bytes Tape_size.toInt) Tape_size.toInt P)) ?_ ?_ ?_ ?_ ?_ ?_
  · intro x1 x2 x3 x4 x5 x6 x7 x8 x9 x10 x11 x12 x13 x14 x15 x16 x17 x18 x19 x20 x21 x22 x23 x24 x25 x26 x27 x28 x29 x30 x31 x32 x33 x34 h1 h2 h3 h4 h5 h6 h7 h8 h9
    try dsimp only at *
    have g1 : x1.toInt = 0 := by have a := h1.1; have b := h1.2; omega
    have g2 : x2.toInt = 0 := by have a := h2.1; have b := h2.2; omega
    obtain ⟨d1, d2, d3, d4⟩ := opn_tr hn hn2 h7
    have rc : rdC 0 Reader_set Reader_left Reader_leftNumber Reader_op 0 (-1) 0 Reader_goalPlaces x1 x2 Code_first Code_firstGoal Code_secondGoal Code_op Code_set Code_left Code_leftNumber Code_right Code_rightNumber (0, -1, -1, 0, 0, 0, false, pgO) :=
      ⟨by decide, fun z => absurd z (by decide), fun z => absurd z (by decide), by decide, fun z => absurd z (by decide), fun b hb => by omega, fun _ => ⟨by decide, cdP_O g1 g2, fun g _ => by simp [pgO]⟩⟩
    obtain ⟨j, t, m1, m2⟩ := (rI_tl hn hn2 h8).2.2 px_1 0 _ (by decide) rfl rc ⟨d1, d2⟩ d3 d4
    obtain ⟨du, mS, mL, mN, mO, mR, bk, P⟩ := t
    have tb := tk_b hB j
    rcases m2 with ⟨m3, m4, m5, m6⟩ | ⟨m3, m4, m5, m6⟩
    · omega
    · exact Or.inr ⟨by rw [m6]; exact tb.1, no_st m1 m4 m5⟩
  · intro x1 x2 x3 x4 x5 x6 x7 x8 x9 x10 x11 x12 x13 x14 x15 x16 x17 x18 x19 x20 x21 x22 x23 x24 x25 x26 x27 x28 x29 x30 x31 x32 x33 x34 x35 x36 h1 h2 h3 h4 h5 h6 h7 h8 h9 h10 h11
    try dsimp only at *
    have g1 : x1.toInt = 0 := by have a := h1.1; have b := h1.2; omega
    have g2 : x2.toInt = 0 := by have a := h2.1; have b := h2.2; omega
    obtain ⟨d1, d2, d3, d4⟩ := opn_tr hn hn2 h7
    have rc : rdC 0 Reader_set Reader_left Reader_leftNumber Reader_op 0 (-1) 0 Reader_goalPlaces x1 x2 Code_first Code_firstGoal Code_secondGoal Code_op Code_set Code_left Code_leftNumber Code_right Code_rightNumber (0, -1, -1, 0, 0, 0, false, pgO) :=
      ⟨by decide, fun z => absurd z (by decide), fun z => absurd z (by decide), by decide, fun z => absurd z (by decide), fun b hb => by omega, fun _ => ⟨by decide, cdP_O g1 g2, fun g _ => by simp [pgO]⟩⟩
    obtain ⟨j, t, m1, m2⟩ := (rI_tl hn hn2 h8).2.2 px_1 0 _ (by decide) rfl rc ⟨d1, d2⟩ d3 d4
    obtain ⟨du, mS, mL, mN, mO, mR, bk, P⟩ := t
    have tb := tk_b hB j
    rcases m2 with ⟨m3, m4, m5, m6⟩ | ⟨m3, m4, m5, m6⟩
    · obtain ⟨m51, -, -, -, m55⟩ := m5
      have edu : du = 1 := by omega
      obtain ⟨ww, -⟩ := mrn_w hB m1
      rcases cGo_tr h11 m55 with ⟨e1, e2⟩ | ⟨e1, e2⟩
      · cases hbk : bk with
        | true => exact Or.inr ⟨by rw [e1]; exact m55.1 hbk, no_bk m1 m4 (Or.inr (Or.inl hbk))⟩
        | false =>
          subst edu
          rw [hbk] at m1 m55 ww
          have hg := e2 hbk ww
          exact Or.inl ⟨by rw [e1]; exact (m55.2.2 rfl).1, P, ⟨j, mS, mL, mN, mO, mR, m1, m4, hg⟩, (m55.2.2 rfl).2.1⟩
      · refine Or.inr ⟨e1, ?_⟩
        cases hbk : bk with
        | true => exact no_bk m1 m4 (Or.inr (Or.inl hbk))
        | false =>
          rw [hbk] at ww
          exact no_bk m1 m4 (Or.inr (Or.inr (e2 hbk ww edu)))
    · omega
  · intro x1 x2 x3 x4 x5 x6 x7 x8 x9 x10 x11 x12 x13 x14 x15 x16 x17 x18 x19 x20 x21 x22 x23 x24 x25 x26 x27 x28 x29 x30 x31 x32 x33 x34 h1 h2 h3 h4 h5 h6 h7 h8 h9 h10
    try dsimp only at *
    have g1 : x1.toInt = 0 := by have a := h1.1; have b := h1.2; omega
    have g2 : x2.toInt = 0 := by have a := h2.1; have b := h2.2; omega
    obtain ⟨d1, d2, d3, d4⟩ := opn_tr hn hn2 h7
    have rc : rdC 0 Reader_set Reader_left Reader_leftNumber Reader_op 0 (-1) 0 Reader_goalPlaces x1 x2 Code_first Code_firstGoal Code_secondGoal Code_op Code_set Code_left Code_leftNumber Code_right Code_rightNumber (0, -1, -1, 0, 0, 0, false, pgO) :=
      ⟨by decide, fun z => absurd z (by decide), fun z => absurd z (by decide), by decide, fun z => absurd z (by decide), fun b hb => by omega, fun _ => ⟨by decide, cdP_O g1 g2, fun g _ => by simp [pgO]⟩⟩
    obtain ⟨j, t, m1, m2⟩ := (rI_tl hn hn2 h8).2.2 px_1 0 _ (by decide) rfl rc ⟨d1, d2⟩ d3 d4
    obtain ⟨du, mS, mL, mN, mO, mR, bk, P⟩ := t
    have tb := tk_b hB j
    rcases m2 with ⟨m3, m4, m5, m6⟩ | ⟨m3, m4, m5, m6⟩
    · have du1 := m5.1
      exact Or.inr ⟨by rw [m6]; exact tb.1, no_bk m1 m4 (Or.inl (show du ≠ 1 by omega))⟩
    · omega
  · intro x1 x2 x3 x4 x5 x6 x7 x8 x9 x10 x11 x12 x13 x14 x15 x16 x17 x18 x19 x20 x21 x22 x23 x24 x25 x26 x27 x28 x29 x30 x31 x32 x33 x34 h1 h2 h3 h4 h5 h6 h7 h8
    try dsimp only at *
    have g1 : x1.toInt = 0 := by have a := h1.1; have b := h1.2; omega
    have g2 : x2.toInt = 0 := by have a := h2.1; have b := h2.2; omega
    obtain ⟨d1, d2, d3, d4⟩ := opn_tr hn hn2 h7
    have rc : rdC 0 Reader_set Reader_left Reader_leftNumber Reader_op 0 (-1) 0 Reader_goalPlaces x1 x2 Code_first Code_firstGoal Code_secondGoal Code_op Code_set Code_left Code_leftNumber Code_right Code_rightNumber (0, -1, -1, 0, 0, 0, false, pgO) :=
      ⟨by decide, fun z => absurd z (by decide), fun z => absurd z (by decide), by decide, fun z => absurd z (by decide), fun b hb => by omega, fun _ => ⟨by decide, cdP_O g1 g2, fun g _ => by simp [pgO]⟩⟩
    obtain ⟨j, t, m1, m2⟩ := (rI_tl hn hn2 h8).2.2 px_1 0 _ (by decide) rfl rc ⟨d1, d2⟩ d3 d4
    obtain ⟨du, mS, mL, mN, mO, mR, bk, P⟩ := t
    have tb := tk_b hB j
    have hx8 := (rI_tl hn hn2 h8).1.1 rfl
    rcases m2 with ⟨m3, m4, m5, m6⟩ | ⟨m3, m4, m5, m6⟩
    · omega
    · exact Or.inr ⟨by rw [m6]; exact tb.1, no_st m1 m4 m5⟩
  · intro x1 x2 x3 x4 x5 x6 x7 x8 x9 x10 x11 x12 x13 x14 x15 x16 x17 x18 x19 x20 x21 x22 x23 x24 x25 x26 x27 x28 x29 x30 x31 x32 x33 x34 x35 x36 h1 h2 h3 h4 h5 h6 h7 h8 h9 h10
    try dsimp only at *
    have g1 : x1.toInt = 0 := by have a := h1.1; have b := h1.2; omega
    have g2 : x2.toInt = 0 := by have a := h2.1; have b := h2.2; omega
    obtain ⟨d1, d2, d3, d4⟩ := opn_tr hn hn2 h7
    have rc : rdC 0 Reader_set Reader_left Reader_leftNumber Reader_op 0 (-1) 0 Reader_goalPlaces x1 x2 Code_first Code_firstGoal Code_secondGoal Code_op Code_set Code_left Code_leftNumber Code_right Code_rightNumber (0, -1, -1, 0, 0, 0, false, pgO) :=
      ⟨by decide, fun z => absurd z (by decide), fun z => absurd z (by decide), by decide, fun z => absurd z (by decide), fun b hb => by omega, fun _ => ⟨by decide, cdP_O g1 g2, fun g _ => by simp [pgO]⟩⟩
    obtain ⟨j, t, m1, m2⟩ := (rI_tl hn hn2 h8).2.2 px_1 0 _ (by decide) rfl rc ⟨d1, d2⟩ d3 d4
    obtain ⟨du, mS, mL, mN, mO, mR, bk, P⟩ := t
    have tb := tk_b hB j
    have hx8 := (rI_tl hn hn2 h8).1.2 rfl
    rcases m2 with ⟨m3, m4, m5, m6⟩ | ⟨m3, m4, m5, m6⟩
    · obtain ⟨m51, -, -, -, m55⟩ := m5
      have edu : du = 1 := by omega
      obtain ⟨ww, -⟩ := mrn_w hB m1
      rcases cGo_tr h10 m55 with ⟨e1, e2⟩ | ⟨e1, e2⟩
      · cases hbk : bk with
        | true => exact Or.inr ⟨by rw [e1]; exact m55.1 hbk, no_bk m1 m4 (Or.inr (Or.inl hbk))⟩
        | false =>
          subst edu
          rw [hbk] at m1 m55 ww
          have hg := e2 hbk ww
          exact Or.inl ⟨by rw [e1]; exact (m55.2.2 rfl).1, P, ⟨j, mS, mL, mN, mO, mR, m1, m4, hg⟩, (m55.2.2 rfl).2.1⟩
      · refine Or.inr ⟨e1, ?_⟩
        cases hbk : bk with
        | true => exact no_bk m1 m4 (Or.inr (Or.inl hbk))
        | false =>
          rw [hbk] at ww
          exact no_bk m1 m4 (Or.inr (Or.inr (e2 hbk ww edu)))
    · omega
  · intro x1 x2 x3 x4 x5 x6 x7 x8 x9 x10 x11 x12 x13 x14 x15 x16 x17 x18 x19 x20 x21 x22 x23 x24 x25 x26 x27 x28 x29 x30 x31 x32 x33 x34 h1 h2 h3 h4 h5 h6 h7 h8 h9
    try dsimp only at *
    have g1 : x1.toInt = 0 := by have a := h1.1; have b := h1.2; omega
    have g2 : x2.toInt = 0 := by have a := h2.1; have b := h2.2; omega
    obtain ⟨d1, d2, d3, d4⟩ := opn_tr hn hn2 h7
    have rc : rdC 0 Reader_set Reader_left Reader_leftNumber Reader_op 0 (-1) 0 Reader_goalPlaces x1 x2 Code_first Code_firstGoal Code_secondGoal Code_op Code_set Code_left Code_leftNumber Code_right Code_rightNumber (0, -1, -1, 0, 0, 0, false, pgO) :=
      ⟨by decide, fun z => absurd z (by decide), fun z => absurd z (by decide), by decide, fun z => absurd z (by decide), fun b hb => by omega, fun _ => ⟨by decide, cdP_O g1 g2, fun g _ => by simp [pgO]⟩⟩
    obtain ⟨j, t, m1, m2⟩ := (rI_tl hn hn2 h8).2.2 px_1 0 _ (by decide) rfl rc ⟨d1, d2⟩ d3 d4
    obtain ⟨du, mS, mL, mN, mO, mR, bk, P⟩ := t
    have tb := tk_b hB j
    have hx8 := (rI_tl hn hn2 h8).1.2 rfl
    rcases m2 with ⟨m3, m4, m5, m6⟩ | ⟨m3, m4, m5, m6⟩
    · have du1 := m5.1
      exact Or.inr ⟨by rw [m6]; exact tb.1, no_bk m1 m4 (Or.inl (show du ≠ 1 by omega))⟩
    · omega
end
section
/-- how many below n -/
noncomputable def cntP (T : Nat → Prop) : Nat → Nat
  | 0 => 0
  | n + 1 => cntP T n + @ite Nat (T n) (Classical.propDecidable (T n)) 1 0
section CHN
variable {T U : Nat → Prop}
theorem cntP_le : ∀ n, cntP T n ≤ n
  | 0 => Nat.le_refl _
  | n + 1 => by
    have h := cntP_le n
    show cntP T n + @ite Nat (T n) (Classical.propDecidable (T n)) 1 0 ≤ n + 1
    by_cases c : T n
    · rw [if_pos c]; omega
    · rw [if_neg c]; omega
theorem cntP_mo : ∀ n, (∀ b, b < n → T b → U b) → cntP T n ≤ cntP U n
  | 0, _ => Nat.le_refl _
  | n + 1, h => by
    have h1 := cntP_mo n (fun b hb => h b (by omega))
    show cntP T n + @ite Nat (T n) (Classical.propDecidable (T n)) 1 0 ≤ cntP U n + @ite Nat (U n) (Classical.propDecidable (U n)) 1 0
    by_cases c : T n
    · rw [if_pos c, if_pos (h n (Nat.lt_succ_self n) c)]; omega
    · rw [if_neg c]; omega
theorem cntP_lt : ∀ n, (∀ b, b < n → T b → U b) → (∃ b, b < n ∧ U b ∧ ¬ T b) → cntP T n < cntP U n
  | 0, _, h => by obtain ⟨b, hb, _⟩ := h; omega
  | n + 1, h, ⟨b, hb, hu, ht⟩ => by
    show cntP T n + @ite Nat (T n) (Classical.propDecidable (T n)) 1 0 < cntP U n + @ite Nat (U n) (Classical.propDecidable (U n)) 1 0
    by_cases e : b = n
    · have h1 := cntP_mo n (fun b hb => h b (by omega))
      rw [e] at hu ht
      rw [if_neg ht, if_pos hu]; omega
    · have h1 := cntP_lt n (fun b hb => h b (by omega)) ⟨b, by omega, hu, ht⟩
      by_cases c : T n
      · rw [if_pos c, if_pos (h n (Nat.lt_succ_self n) c)]; omega
      · rw [if_neg c]; omega
theorem cntP_c : ∀ n, (∀ b, b < n → (T b ↔ U b)) → cntP T n = cntP U n := fun n h => Nat.le_antisymm (cntP_mo n (fun b hb => (h b hb).mp)) (cntP_mo n (fun b hb => (h b hb).mpr))
end CHN
/-- rows of growing sets of numbers below n: from the n-th on nothing comes any more -/
theorem chn_st (T : Nat → Nat → Prop) (n : Nat) (mo : ∀ p b, T p b → T (p + 1) b) (de : ∀ p, (∀ b, b < n → T (p + 1) b → T p b) → ∀ b, b < n → T (p + 2) b → T (p + 1) b) : ∀ b, b < n → T (n + 1) b → T n b := by
  by_cases st : ∀ b, b < n → T (n + 1) b → T n b
  · exact st
  · exfalso
    have up : ∀ m p, p + m = n → (∀ b, b < n → T (p + 1) b → T p b) → ∀ b, b < n → T (n + 1) b → T n b := by
      intro m
      induction m with
      | zero => intro p hp h; rw [show p = n by omega] at h; exact h
      | succ m ih => intro p hp h; exact ih (p + 1) (by omega) (de p h)
    have gr : ∀ p, p ≤ n + 1 → p ≤ cntP (T p) n := by
      intro p
      induction p with
      | zero => intro _; exact Nat.zero_le _
      | succ p ih =>
        intro hp
        have h1 := ih (by omega)
        have h2 : ∃ b, b < n ∧ T (p + 1) b ∧ ¬ T p b := by
          by_cases q : ∃ b, b < n ∧ T (p + 1) b ∧ ¬ T p b
          · exact q
          · exfalso
            refine st (up (n - p) p (by omega) (fun b hb h => ?_))
            by_cases z : T p b
            · exact z
            · exact absurd ⟨b, hb, h, z⟩ q
        have h3 := cntP_lt n (fun b _ => mo p b) h2
        omega
    have h1 := gr (n + 1) (Nat.le_refl _)
    have h2 := cntP_le (T := T (n + 1)) n
    omega
end
section
/-- bit q of a row of words -/
def gbit (f : Nat → Int64) (q : Nat) : Bool := (f (q / 64)).toBitVec.getLsbD (q % 64)
section GBT
variable {f h : Nat → Int64} {i v : Int32} {x y z : Int64} {a m q : Nat}
theorem gbit_upd {i : Nat} : gbit (vp_updL f i y) q = if q / 64 = i then y.toBitVec.getLsbD (q % 64) else gbit f q := by
  unfold gbit vp_updL
  by_cases e : q / 64 = i
  · rw [if_pos e, if_pos e]
  · rw [if_neg e, if_neg e]
theorem lb_shlM (hz : z = 1 <<< (v.toInt64 &&& 63)) (hi : v.toInt = (m : Int)) (n : Nat) (hn : n < 64) : z.toBitVec.getLsbD n = decide (n = m % 64) := by
  have e : v.toInt.toNat % 64 = m % 64 := by rw [hi, Int.toNat_natCast]
  rw [hz, lb_Qcnt v (by omega), e]
  exact lb_tab2 ⟨m % 64, Nat.mod_lt _ (by decide)⟩ ⟨n, hn⟩
theorem lb_xn (n : Nat) (hn : n < 64) : (x ^^^ (-1)).toBitVec.getLsbD n = !x.toBitVec.getLsbD n := by
  have e : ∀ j : Fin 64, (Int64.toBitVec (-1)).getLsbD j.val = true := by decide +kernel
  rw [Int64.toBitVec_xor, BitVec.getLsbD_xor, e ⟨n, hn⟩, Bool.xor_true]
theorem gb_q (e : q / 64 = a + m / 64) : (q % 64 = m % 64) ↔ q = 64 * a + m := by omega
/-- a bit is set -/
theorem gbit_or (hx : x = 1 <<< (v.toInt64 &&& 63)) (hv : v.toInt = (m : Int)) (hi : i.toInt = ((a + m / 64 : Nat) : Int)) (hy : y = f i.toNatClampNeg ||| x) (hh : h = vp_updL f i.toNatClampNeg y) (q : Nat) : gbit h q = (gbit f q || decide (q = 64 * a + m)) := by
  have hq : q % 64 < 64 := Nat.mod_lt _ (by decide)
  rw [hh, gbit_upd, nnE hi]
  by_cases e : q / 64 = a + m / 64
  · rw [if_pos e, hy, nnE hi, Int64.toBitVec_or, BitVec.getLsbD_or, lb_shlM hx hv _ hq]
    unfold gbit
    rw [e]
    congr 1
    exact decide_eq_decide.mpr (gb_q e)
  · rw [if_neg e, decide_eq_false (fun z => e (by omega)), Bool.or_false]
/-- a bit is set unless another row has it -/
theorem gbit_orN {g : Nat → Int64} {u w : Int64} (hx : x = 1 <<< (v.toInt64 &&& 63)) (hv : v.toInt = (m : Int)) (hi : i.toInt = ((a + m / 64 : Nat) : Int)) (hu : u = g i.toNatClampNeg ^^^ (-1)) (hw : w = x &&& u) (hy : y = f i.toNatClampNeg ||| w) (hh : h = vp_updL f i.toNatClampNeg y) (q : Nat) : gbit h q = (gbit f q || (decide (q = 64 * a + m) && !gbit g q)) := by
  have hq : q % 64 < 64 := Nat.mod_lt _ (by decide)
  rw [hh, gbit_upd, nnE hi]
  by_cases e : q / 64 = a + m / 64
  · rw [if_pos e, hy, hw, hu, nnE hi, Int64.toBitVec_or, BitVec.getLsbD_or, Int64.toBitVec_and, BitVec.getLsbD_and, lb_shlM hx hv _ hq, lb_xn _ hq]
    unfold gbit
    rw [e]
    congr 2
    exact decide_eq_decide.mpr (gb_q e)
  · rw [if_neg e, decide_eq_false (fun z => e (by omega)), Bool.false_and, Bool.or_false]
/-- a bit is cleared -/
theorem gbit_clr {u : Int64} (hx : x = 1 <<< (v.toInt64 &&& 63)) (hv : v.toInt = (m : Int)) (hi : i.toInt = ((a + m / 64 : Nat) : Int)) (hu : u = x ^^^ (-1)) (hy : y = f i.toNatClampNeg &&& u) (hh : h = vp_updL f i.toNatClampNeg y) (q : Nat) : gbit h q = (gbit f q && !decide (q = 64 * a + m)) := by
  have hq : q % 64 < 64 := Nat.mod_lt _ (by decide)
  rw [hh, gbit_upd, nnE hi]
  by_cases e : q / 64 = a + m / 64
  · rw [if_pos e, hy, hu, nnE hi, Int64.toBitVec_and, BitVec.getLsbD_and, lb_xn _ hq, lb_shlM hx hv _ hq]
    unfold gbit
    rw [e]
    congr 2
    exact decide_eq_decide.mpr (gb_q e)
  · rw [if_neg e, decide_eq_false (fun z => e (by omega)), Bool.not_false, Bool.and_true]
theorem gbit_0 {f : Nat → Int64} {q : Nat} (h : f (q / 64) = 0) : gbit f q = false := by unfold gbit; rw [h]; simp
/-- bits of a word that is put in a row -/
theorem gbit_w {i : Nat} (h : f i = y) (q : Nat) (hq : q / 64 = i) : gbit f q = y.toBitVec.getLsbD (q % 64) := by unfold gbit; rw [hq, h]
theorem bit_or (hz : z = x ||| y) (n : Nat) : z.toBitVec.getLsbD n = (x.toBitVec.getLsbD n || y.toBitVec.getLsbD n) := by rw [hz, Int64.toBitVec_or, BitVec.getLsbD_or]
theorem bit_and (hz : z = x &&& y) (n : Nat) : z.toBitVec.getLsbD n = (x.toBitVec.getLsbD n && y.toBitVec.getLsbD n) := by rw [hz, Int64.toBitVec_and, BitVec.getLsbD_and]
theorem bit_not (hz : z = x ^^^ (-1)) (n : Nat) (hn : n < 64) : z.toBitVec.getLsbD n = !x.toBitVec.getLsbD n := by rw [hz]; exact lb_xn n hn
theorem bit_eq (h : ∀ n, n < 64 → x.toBitVec.getLsbD n = y.toBitVec.getLsbD n) : x = y := by
  rw [← Int64.toBitVec_inj]
  exact BitVec.eq_of_getLsbD_eq (fun k hk => h k hk)
/-- the bit that is asked for -/
theorem tst_bit {u w : Int64} (hi : i.toInt = ((a + m / 64 : Nat) : Int)) (hv : v.toInt = (m : Int)) (hx : x = f i.toNatClampNeg) (hu : u = x >>> (v.toInt64 &&& 63)) (hw : w = u &&& 1) : (w = 0) ↔ gbit f (64 * a + m) = false := by
  have hq : (64 * a + m) / 64 = a + m / 64 := by omega
  have hr : (64 * a + m) % 64 = m % 64 := by omega
  unfold gbit
  rw [hq, hr, ← nnE hi, ← hx]
  exact sh_bitM hu hw hv
end GBT
end
section
/-- what a line uses and sets: registers, or slots -/
def usR (sl : Bool) (l : Nat → Int) (v : Nat) : Prop := if sl = true then (l 0 = 17 ∧ l 5 = (v : Int)) else (l 2 = (v : Int) ∨ l 4 = (v : Int))
def seR (sl : Bool) (l : Nat → Int) (v : Nat) : Prop := if sl = true then (l 0 = 18 ∧ l 5 = (v : Int)) else l 1 = (v : Int)
/-- v is alive in front of line j of block b -/
def Lv (P : gPg) (sl : Bool) (v b j : Nat) : Prop := ∀ R : Nat → Nat → Prop,
  (∀ b j, b < P.1 → j < P.2.1 b → usR sl (P.2.2.1 b j) v → R b j) →
  (∀ b j, b < P.1 → j < P.2.1 b → ¬ seR sl (P.2.2.1 b j) v → R b (j + 1) → R b j) →
  (∀ b i g : Nat, b < P.1 → i < 2 → P.2.2.2 b i = (g : Int) → g < P.1 → R g 0 → R b (P.2.1 b)) →
  R b j
/-- used before it is set, set, in a block -/
def usd (P : gPg) (sl : Bool) (v b : Nat) : Prop := ∃ j, j < P.2.1 b ∧ usR sl (P.2.2.1 b j) v ∧ ∀ k, k < j → ¬ seR sl (P.2.2.1 b k) v
def std (P : gPg) (sl : Bool) (v b : Nat) : Prop := ∃ j, j < P.2.1 b ∧ seR sl (P.2.2.1 b j) v
/-- some goal of b is one of X -/
def goX (P : gPg) (X : Nat → Prop) (b : Nat) : Prop := ∃ i g : Nat, i < 2 ∧ P.2.2.2 b i = (g : Int) ∧ g < P.1 ∧ X g
section LV
variable {P : gPg} {sl : Bool} {v b j : Nat}
theorem Lv_u (h1 : b < P.1) (h2 : j < P.2.1 b) (h3 : usR sl (P.2.2.1 b j) v) : Lv P sl v b j := fun _ c1 _ _ => c1 b j h1 h2 h3
theorem Lv_s (h1 : b < P.1) (h2 : j < P.2.1 b) (h3 : ¬ seR sl (P.2.2.1 b j) v) (h4 : Lv P sl v b (j + 1)) : Lv P sl v b j := fun R c1 c2 c3 => c2 b j h1 h2 h3 (h4 R c1 c2 c3)
theorem Lv_g {i g : Nat} (h1 : b < P.1) (h2 : i < 2) (h3 : P.2.2.2 b i = (g : Int)) (h4 : g < P.1) (h5 : Lv P sl v g 0) : Lv P sl v b (P.2.1 b) := fun R c1 c2 c3 => c3 b i g h1 h2 h3 h4 (h5 R c1 c2 c3)
theorem Lv_e (h : Lv P sl v b j) : (b < P.1 ∧ j < P.2.1 b ∧ (usR sl (P.2.2.1 b j) v ∨ (¬ seR sl (P.2.2.1 b j) v ∧ Lv P sl v b (j + 1)))) ∨ (b < P.1 ∧ j = P.2.1 b ∧ goX P (fun g => Lv P sl v g 0) b) := by
  have q := h (fun b j => Lv P sl v b j ∧ ((b < P.1 ∧ j < P.2.1 b ∧ (usR sl (P.2.2.1 b j) v ∨ (¬ seR sl (P.2.2.1 b j) v ∧ Lv P sl v b (j + 1)))) ∨ (b < P.1 ∧ j = P.2.1 b ∧ goX P (fun g => Lv P sl v g 0) b)))
    (fun b j h1 h2 h3 => ⟨Lv_u h1 h2 h3, Or.inl ⟨h1, h2, Or.inl h3⟩⟩)
    (fun b j h1 h2 h3 h4 => ⟨Lv_s h1 h2 h3 h4.1, Or.inl ⟨h1, h2, Or.inr ⟨h3, h4.1⟩⟩⟩)
    (fun b i g h1 h2 h3 h4 h5 => ⟨Lv_g h1 h2 h3 h4 h5.1, Or.inr ⟨h1, rfl, i, g, h2, h3, h4, h5.1⟩⟩)
  exact q.2
theorem Lv_row (h1 : b < P.1) (h2 : j < P.2.1 b) : Lv P sl v b j ↔ usR sl (P.2.2.1 b j) v ∨ (¬ seR sl (P.2.2.1 b j) v ∧ Lv P sl v b (j + 1)) := by
  constructor
  · intro h
    rcases Lv_e h with ⟨-, -, q⟩ | ⟨-, q, -⟩
    · exact q
    · omega
  · rintro (h | ⟨h, h'⟩)
    · exact Lv_u h1 h2 h
    · exact Lv_s h1 h2 h h'
theorem Lv_out (h1 : b < P.1) : Lv P sl v b (P.2.1 b) ↔ goX P (fun g => Lv P sl v g 0) b := by
  constructor
  · intro h
    rcases Lv_e h with ⟨-, q, -⟩ | ⟨-, -, q⟩
    · omega
    · exact q
  · rintro ⟨i, g, h2, h3, h4, h5⟩
    exact Lv_g h1 h2 h3 h4 h5
/-- block by block -/
theorem Lv_blk (h1 : b < P.1) : Lv P sl v b 0 ↔ usd P sl v b ∨ (¬ std P sl v b ∧ Lv P sl v b (P.2.1 b)) := by
  have key : ∀ m j, j + m = P.2.1 b → (Lv P sl v b j ↔ (∃ k, j ≤ k ∧ k < P.2.1 b ∧ usR sl (P.2.2.1 b k) v ∧ ∀ i, j ≤ i → i < k → ¬ seR sl (P.2.2.1 b i) v) ∨ ((∀ i, j ≤ i → i < P.2.1 b → ¬ seR sl (P.2.2.1 b i) v) ∧ Lv P sl v b (P.2.1 b))) := by
    intro m
    induction m with
    | zero =>
      intro j hj
      have e : j = P.2.1 b := by omega
      rw [e]
      constructor
      · intro h; exact Or.inr ⟨fun i a c => by omega, h⟩
      · rintro (⟨k, a, c, -⟩ | h)
        · omega
        · exact h.2
    | succ m ih =>
      intro j hj
      rw [Lv_row h1 (show j < P.2.1 b by omega), ih (j + 1) (by omega)]
      constructor
      · rintro (h | ⟨h, ⟨k, a, c, d, e⟩ | ⟨a, c⟩⟩)
        · exact Or.inl ⟨j, Nat.le_refl _, by omega, h, fun i a c => by omega⟩
        · refine Or.inl ⟨k, by omega, c, d, fun i p q => ?_⟩
          by_cases z : i = j
          · rw [z]; exact h
          · exact e i (by omega) q
        · refine Or.inr ⟨fun i p q => ?_, c⟩
          by_cases z : i = j
          · rw [z]; exact h
          · exact a i (by omega) q
      · rintro (⟨k, a, c, d, e⟩ | ⟨a, c⟩)
        · by_cases z : k = j
          · rw [z] at d; exact Or.inl d
          · exact Or.inr ⟨e j (Nat.le_refl _) (by omega), Or.inl ⟨k, by omega, c, d, fun i p q => e i (by omega) q⟩⟩
        · exact Or.inr ⟨a j (Nat.le_refl _) (by omega), Or.inr ⟨fun i p q => a i (by omega) q, c⟩⟩
  rw [key (P.2.1 b) 0 (by omega)]
  constructor
  · rintro (⟨k, a, c, d, e⟩ | ⟨a, c⟩)
    · exact Or.inl ⟨k, c, d, fun i hi => e i (Nat.zero_le _) hi⟩
    · exact Or.inr ⟨fun ⟨j, hj, hs⟩ => a j (Nat.zero_le _) hj hs, c⟩
  · rintro (⟨k, c, d, e⟩ | ⟨a, c⟩)
    · exact Or.inl ⟨k, Nat.zero_le _, c, d, fun i _ hi => e i hi⟩
    · exact Or.inr ⟨fun i _ hi hs => a ⟨i, hi, hs⟩, c⟩
/-- it is the least one -/
theorem Lv_le {X : Nat → Prop} (hX : ∀ b, b < P.1 → usd P sl v b ∨ (¬ std P sl v b ∧ goX P X b) → X b) (h : Lv P sl v b 0) (hb : b < P.1) : X b := by
  have q := h (fun b j => b < P.1 ∧ ((∃ k, j ≤ k ∧ k < P.2.1 b ∧ usR sl (P.2.2.1 b k) v ∧ ∀ i, j ≤ i → i < k → ¬ seR sl (P.2.2.1 b i) v) ∨ ((∀ i, j ≤ i → i < P.2.1 b → ¬ seR sl (P.2.2.1 b i) v) ∧ goX P X b)))
    (fun b j h1 h2 h3 => ⟨h1, Or.inl ⟨j, Nat.le_refl _, h2, h3, fun i a c => by omega⟩⟩)
    (fun b j h1 h2 h3 h4 => by
      refine ⟨h1, ?_⟩
      rcases h4.2 with ⟨k, a, c, d, e⟩ | ⟨a, c⟩
      · refine Or.inl ⟨k, by omega, c, d, fun i p q => ?_⟩
        by_cases z : i = j
        · rw [z]; exact h3
        · exact e i (by omega) q
      · refine Or.inr ⟨fun i p q => ?_, c⟩
        by_cases z : i = j
        · rw [z]; exact h3
        · exact a i (by omega) q)
    (fun b i g h1 h2 h3 h4 h5 => by
      refine ⟨h1, Or.inr ⟨fun i a c => by omega, i, g, h2, h3, h4, hX g h4 ?_⟩⟩
      rcases h5.2 with ⟨k, a, c, d, e⟩ | ⟨a, c⟩
      · exact Or.inl ⟨k, c, d, fun i hi => e i (Nat.zero_le _) hi⟩
      · exact Or.inr ⟨fun ⟨j, hj, hs⟩ => a j (Nat.zero_le _) hj hs, c⟩)
  refine hX b hb ?_
  rcases q.2 with ⟨k, a, c, d, e⟩ | ⟨a, c⟩
  · exact Or.inl ⟨k, c, d, fun i hi => e i (Nat.zero_le _) hi⟩
  · exact Or.inr ⟨fun ⟨j, hj, hs⟩ => a j (Nat.zero_le _) hj hs, c⟩
/-- what k rounds find at least -/
def Lt (P : gPg) (sl : Bool) (v : Nat) : Nat → Nat → Prop
  | 0, _ => False
  | p + 1, b => usd P sl v b ∨ (¬ std P sl v b ∧ goX P (Lt P sl v p) b)
theorem goX_mo {X Y : Nat → Prop} (h : ∀ g, g < P.1 → X g → Y g) (q : goX P X b) : goX P Y b := by
  obtain ⟨i, g, h1, h2, h3, h4⟩ := q
  exact ⟨i, g, h1, h2, h3, h g h3 h4⟩
theorem Lt_mo : ∀ p b, Lt P sl v p b → Lt P sl v (p + 1) b
  | 0, _, h => absurd h id
  | p + 1, b, h => by
    rcases h with h | ⟨h, h'⟩
    · exact Or.inl h
    · exact Or.inr ⟨h, goX_mo (fun g _ => Lt_mo p g) h'⟩
theorem Lv_n {X : Nat → Prop} (hs : ∀ b, b < P.1 → Lt P sl v P.1 b → X b) (h : Lv P sl v b 0) (hb : b < P.1) : X b := by
  have st := chn_st (Lt P sl v) P.1 (fun p b => Lt_mo p b) (fun p hp b hb h => by
    rcases h with h | ⟨h, h'⟩
    · exact Or.inl h
    · exact Or.inr ⟨h, goX_mo (fun g hg => hp g hg) h'⟩)
  exact hs b hb (Lv_le (X := Lt P sl v P.1) (fun b hb h => st b hb h) h hb)
end LV
end
section
/-- the names that a line uses and sets, -1 for none -/
def u1V (sl : Bool) (l : Nat → Int) : Int := if sl = true then (if l 0 = 17 then l 5 else -1) else l 2
def u2V (sl : Bool) (l : Nat → Int) : Int := if sl = true then -1 else l 4
def seV (sl : Bool) (l : Nat → Int) : Int := if sl = true then (if l 0 = 18 then l 5 else -1) else l 1
theorem usR_iff {sl : Bool} {l : Nat → Int} {v : Nat} : usR sl l v ↔ u1V sl l = (v : Int) ∨ u2V sl l = (v : Int) := by
  unfold usR u1V u2V
  cases sl with
  | false => rw [if_neg (by decide), if_neg (by decide), if_neg (by decide)]
  | true =>
    rw [if_pos rfl, if_pos rfl, if_pos rfl]
    by_cases c : l 0 = 17
    · rw [if_pos c]
      constructor
      · intro h; exact Or.inl h.2
      · rintro (h | h)
        · exact ⟨c, h⟩
        · omega
    · rw [if_neg c]
      constructor
      · intro h; exact absurd h.1 c
      · intro h; omega
theorem seR_iff {sl : Bool} {l : Nat → Int} {v : Nat} : seR sl l v ↔ seV sl l = (v : Int) := by
  unfold seR seV
  cases sl with
  | false => rw [if_neg (by decide), if_neg (by decide)]
  | true =>
    rw [if_pos rfl, if_pos rfl]
    by_cases c : l 0 = 18
    · rw [if_pos c]
      exact ⟨fun h => h.2, fun h => ⟨c, h⟩⟩
    · rw [if_neg c]
      constructor
      · intro h; exact absurd h.1 c
      · intro h; omega
section LVC
variable {P : gPg} {sl : Bool} {W Nm b j : Nat} {u s u1 s1 e1 e2 : Nat → Int64}
theorem reg_u {b c v w W : Nat} (h : 64 * (b * W) + v = 64 * (c * W) + w) (hv : v < 64 * W) (hw : w < 64 * W) : b = c ∧ v = w := by
  by_cases h1 : b < c
  · have h2 : (b + 1) * W ≤ c * W := Nat.mul_le_mul_right W h1
    rw [Nat.add_mul, Nat.one_mul] at h2
    omega
  · by_cases h3 : c < b
    · have h2 : (c + 1) * W ≤ b * W := Nat.mul_le_mul_right W h3
      rw [Nat.add_mul, Nat.one_mul] at h2
      omega
    · have h4 : b = c := by omega
      rw [h4] at h
      exact ⟨h4, by omega⟩
/-- what gathering the lines from j on does -/
def gth (P : gPg) (sl : Bool) (W Nm b j : Nat) (u s e1 e2 : Nat → Int64) : Prop :=
  ∀ q, (gbit e2 q = true ↔ gbit s q = true ∨ ∃ k v, j ≤ k ∧ k < P.2.1 b ∧ v < Nm ∧ seR sl (P.2.2.1 b k) v ∧ q = 64 * (b * W) + v) ∧
    (gbit e1 q = true ↔ gbit u q = true ∨ ∃ k v, j ≤ k ∧ k < P.2.1 b ∧ v < Nm ∧ usR sl (P.2.2.1 b k) v ∧ q = 64 * (b * W) + v ∧ gbit s q = false ∧ ∀ i, j ≤ i → i < k → ¬ seR sl (P.2.2.1 b i) v)
theorem gth_0 (h : P.2.1 b ≤ j) : gth P sl W Nm b j u s u s := fun q =>
  ⟨⟨Or.inl, fun h' => h'.elim id (fun ⟨k, v, a, c, _⟩ => by omega)⟩, ⟨Or.inl, fun h' => h'.elim id (fun ⟨k, v, a, c, _⟩ => by omega)⟩⟩
theorem gth_s (hj : j < P.2.1 b) (hS : ∀ q, gbit s1 q = true ↔ gbit s q = true ∨ ∃ v, v < Nm ∧ seR sl (P.2.2.1 b j) v ∧ q = 64 * (b * W) + v) (hU : ∀ q, gbit u1 q = true ↔ gbit u q = true ∨ ∃ v, v < Nm ∧ usR sl (P.2.2.1 b j) v ∧ q = 64 * (b * W) + v ∧ gbit s q = false) (ih : gth P sl W Nm b (j + 1) u1 s1 e1 e2) : gth P sl W Nm b j u s e1 e2 := fun q => by
  obtain ⟨i1, i2⟩ := ih q
  constructor
  · rw [i1, hS q]
    constructor
    · rintro ((h | ⟨v, a, c, d⟩) | ⟨k, v, a, c, d, e, f⟩)
      · exact Or.inl h
      · exact Or.inr ⟨j, v, Nat.le_refl _, hj, a, c, d⟩
      · exact Or.inr ⟨k, v, by omega, c, d, e, f⟩
    · rintro (h | ⟨k, v, a, c, d, e, f⟩)
      · exact Or.inl (Or.inl h)
      · by_cases z : k = j
        · rw [z] at e; exact Or.inl (Or.inr ⟨v, d, e, f⟩)
        · exact Or.inr ⟨k, v, by omega, c, d, e, f⟩
  · rw [i2, hU q]
    constructor
    · rintro ((h | ⟨v, a, c, d, e⟩) | ⟨k, v, a, c, d, e, f, g, h⟩)
      · exact Or.inl h
      · exact Or.inr ⟨j, v, Nat.le_refl _, hj, a, c, d, e, fun i p r => by omega⟩
      · have n1 : ¬ gbit s1 q = true := by rw [g]; decide
        rw [hS q] at n1
        refine Or.inr ⟨k, v, by omega, c, d, e, f, ?_, fun i p r => ?_⟩
        · cases z : gbit s q with
          | false => rfl
          | true => exact absurd (Or.inl z) n1
        · by_cases z : i = j
          · rw [z]; exact fun w => n1 (Or.inr ⟨v, d, w, f⟩)
          · exact h i (by omega) r
    · rintro (h | ⟨k, v, a, c, d, e, f, g, h⟩)
      · exact Or.inl (Or.inl h)
      · by_cases z : k = j
        · rw [z] at e; exact Or.inl (Or.inr ⟨v, d, e, f, g⟩)
        · refine Or.inr ⟨k, v, by omega, c, d, e, f, ?_, fun i p r => h i (by omega) r⟩
          cases y : gbit s1 q with
          | false => rfl
          | true =>
            rcases (hS q).mp y with y | ⟨w, p, r, t⟩
            · rw [g] at y; cases y
            · have hw : w = v := by omega
              rw [hw] at r
              exact absurd r (h j (Nat.le_refl _) (by omega))
/-- two uses one behind the other -/
theorem us_two {x : Nat → Int64} {A : Nat} {a c : Int} (h1 : ∀ q, gbit x q = (gbit u q || (decide (0 ≤ a ∧ a < (Nm : Int) ∧ (q : Int) = 64 * (A : Int) + a) && !gbit s q))) (h2 : ∀ q, gbit u1 q = (gbit x q || (decide (0 ≤ c ∧ c < (Nm : Int) ∧ (q : Int) = 64 * (A : Int) + c) && !gbit s q))) (l : Nat → Int) (e1 : u1V sl l = a) (e2 : u2V sl l = c) : ∀ q, gbit u1 q = true ↔ gbit u q = true ∨ ∃ v, v < Nm ∧ usR sl l v ∧ q = 64 * A + v ∧ gbit s q = false := fun q => by
  rw [h2 q, h1 q, Bool.or_eq_true, Bool.or_eq_true, Bool.and_eq_true, Bool.and_eq_true, decide_eq_true_iff, decide_eq_true_iff, Bool.not_eq_true']
  constructor
  · rintro ((h | ⟨⟨p, r, t⟩, g⟩) | ⟨⟨p, r, t⟩, g⟩)
    · exact Or.inl h
    · exact Or.inr ⟨a.toNat, by omega, usR_iff.mpr (Or.inl (by omega)), by omega, g⟩
    · exact Or.inr ⟨c.toNat, by omega, usR_iff.mpr (Or.inr (by omega)), by omega, g⟩
  · rintro (h | ⟨v, p, r, t, g⟩)
    · exact Or.inl (Or.inl h)
    · rcases usR_iff.mp r with r | r
      · exact Or.inl (Or.inr ⟨⟨by omega, by omega, by omega⟩, g⟩)
      · exact Or.inr ⟨⟨by omega, by omega, by omega⟩, g⟩
theorem se_one {A m : Nat} (l : Nat → Int) (h : ∀ q, gbit s1 q = (gbit s q || decide (q = 64 * A + m))) (e : seV sl l = (m : Int)) (hm : m < Nm) : ∀ q, gbit s1 q = true ↔ gbit s q = true ∨ ∃ v, v < Nm ∧ seR sl l v ∧ q = 64 * A + v := fun q => by
  rw [h q, Bool.or_eq_true, decide_eq_true_iff]
  constructor
  · rintro (h | h)
    · exact Or.inl h
    · exact Or.inr ⟨m, hm, seR_iff.mpr e, h⟩
  · rintro (h | ⟨v, p, r, t⟩)
    · exact Or.inl h
    · have := seR_iff.mp r
      exact Or.inr (by omega)
theorem se_no {A : Nat} (l : Nat → Int) (e : ¬ (0 ≤ seV sl l ∧ seV sl l < (Nm : Int))) : ∀ q, gbit s q = true ↔ gbit s q = true ∨ ∃ v, v < Nm ∧ seR sl l v ∧ q = 64 * A + v := fun q =>
  ⟨Or.inl, fun h => h.elim id (fun ⟨v, p, r, _⟩ => absurd (by have := seR_iff.mp r; omega) e)⟩
/-- the bits of the blocks from b on -/
def gtB (P : gPg) (sl : Bool) (W Nm b : Nat) (u s e1 e2 : Nat → Int64) : Prop :=
  ∀ c v, c < P.1 → v < 64 * W → (c < b → gbit e1 (64 * (c * W) + v) = gbit u (64 * (c * W) + v) ∧ gbit e2 (64 * (c * W) + v) = gbit s (64 * (c * W) + v)) ∧
    (b ≤ c → (gbit e1 (64 * (c * W) + v) = true ↔ v < Nm ∧ usd P sl v c) ∧ (gbit e2 (64 * (c * W) + v) = true ↔ v < Nm ∧ std P sl v c))
def zrB (P : gPg) (W b : Nat) (u : Nat → Int64) : Prop := ∀ c v, c < P.1 → b ≤ c → v < 64 * W → gbit u (64 * (c * W) + v) = false
theorem gtB_s (hW : Nm ≤ 64 * W) (hb : b < P.1) (hu : zrB P W b u) (hs : zrB P W b s) (h : gth P sl W Nm b 0 u s u1 s1) (ih : zrB P W (b + 1) u1 → zrB P W (b + 1) s1 → gtB P sl W Nm (b + 1) u1 s1 e1 e2) : gtB P sl W Nm b u s e1 e2 := by
  have oth : ∀ c v, c < P.1 → c ≠ b → v < 64 * W → gbit u1 (64 * (c * W) + v) = gbit u (64 * (c * W) + v) ∧ gbit s1 (64 * (c * W) + v) = gbit s (64 * (c * W) + v) := fun c v hc hn hv => by
    obtain ⟨h1, h2⟩ := h (64 * (c * W) + v)
    constructor
    · rw [Bool.eq_iff_iff, h2]
      exact ⟨fun z => z.elim id (fun ⟨k, w, _, _, p, _, q, _⟩ => absurd (reg_u q hv (by omega)).1 hn), Or.inl⟩
    · rw [Bool.eq_iff_iff, h1]
      exact ⟨fun z => z.elim id (fun ⟨k, w, _, _, p, _, q⟩ => absurd (reg_u q hv (by omega)).1 hn), Or.inl⟩
  have g := ih (fun c v hc hbc hv => by rw [(oth c v hc (by omega) hv).1]; exact hu c v hc (by omega) hv) (fun c v hc hbc hv => by rw [(oth c v hc (by omega) hv).2]; exact hs c v hc (by omega) hv)
  intro c v hc hv
  obtain ⟨g1, g2⟩ := g c v hc hv
  constructor
  · intro hcb
    obtain ⟨a1, a2⟩ := g1 (by omega)
    obtain ⟨o1, o2⟩ := oth c v hc (by omega) hv
    exact ⟨a1.trans o1, a2.trans o2⟩
  · intro hbc
    by_cases e : c = b
    · obtain ⟨a1, a2⟩ := g1 (by omega)
      rw [a1, a2, e]
      obtain ⟨h1, h2⟩ := h (64 * (b * W) + v)
      have z1 := hu b v hb (Nat.le_refl _) hv
      have z2 := hs b v hb (Nat.le_refl _) hv
      rw [h1, h2, z1, z2]
      constructor
      · constructor
        · rintro (z | ⟨k, w, _, a, p, q, r, _, t⟩)
          · cases z
          · have ew := (reg_u r hv (by omega)).2
            rw [← ew] at p q t
            exact ⟨p, k, a, q, fun i hi => t i (Nat.zero_le _) hi⟩
        · rintro ⟨p, k, a, q, t⟩
          exact Or.inr ⟨k, v, Nat.zero_le _, a, p, q, rfl, rfl, fun i _ hi => t i hi⟩
      · constructor
        · rintro (z | ⟨k, w, _, a, p, q, r⟩)
          · cases z
          · have ew := (reg_u r hv (by omega)).2
            rw [← ew] at p q
            exact ⟨p, k, a, q⟩
        · rintro ⟨p, k, a, q⟩
          exact Or.inr ⟨k, v, Nat.zero_le _, a, p, q, rfl⟩
    · exact g2 (by omega)
end LVC
end
section
section LIV
variable {P : gPg} {sl : Bool} {W Nm b j : Nat}
theorem iN_0 {a n : Int32} (h : tr_Live_isName a n 0) : ¬ (0 ≤ a.toInt ∧ a.toInt < n.toInt) := by
  have q : (0 : Int32).toInt = 0 → ¬ (0 ≤ a.toInt ∧ a.toInt < n.toInt) := by
    refine h (fun r => r.toInt = 0 → ¬ (0 ≤ a.toInt ∧ a.toInt < n.toInt)) ?_ ?_ ?_
    · intro h1
      intro _; omega
    · intro h1 h2
      intro _; omega
    · intro h1 h2
      exact fun z => absurd z (by decide)
  exact q (by decide)
theorem iN_1 {a n : Int32} (h : tr_Live_isName a n 1) : 0 ≤ a.toInt ∧ a.toInt < n.toInt := by
  have q : (1 : Int32).toInt = 1 → 0 ≤ a.toInt ∧ a.toInt < n.toInt := by
    refine h (fun r => r.toInt = 1 → 0 ≤ a.toInt ∧ a.toInt < n.toInt) ?_ ?_ ?_
    · intro h1
      exact fun z => absurd z (by decide)
    · intro h1 h2
      exact fun z => absurd z (by decide)
    · intro h1 h2
      exact fun _ => ⟨h1, h2⟩
  exact q (by decide)
theorem gU_tr {a1 a2 nm : Int32} {u s x : Nat → Int64} {A : Nat} (h : tr_Live_gatherUse a1 a2 nm u s x) (hN : nm.toInt = (Nm : Int)) (hA : a1.toInt = (A : Int)) : ∀ q, gbit x q = (gbit u q || (decide (0 ≤ a2.toInt ∧ a2.toInt < (Nm : Int) ∧ (q : Int) = 64 * (A : Int) + a2.toInt) && !gbit s q)) := by
  refine h (fun x => ∀ q, gbit x q = (gbit u q || (decide (0 ≤ a2.toInt ∧ a2.toInt < (Nm : Int) ∧ (q : Int) = 64 * (A : Int) + a2.toInt) && !gbit s q))) ?_ ?_ ?_
  · intro h1
    intro q
    rw [decide_eq_false (by omega), Bool.false_and, Bool.or_false]
  · intro h1 h2
    intro q
    rw [decide_eq_false (by omega), Bool.false_and, Bool.or_false]
  · intro x1 x2 x3 x4 x5 x6 x7 x8 x9 h1 h2 h3 h4 h5 h6 h7 h8 h9 h10 h11
    intro q
    have em : a2.toInt = ((a2.toInt.toNat : Nat) : Int) := (Int.toNat_of_nonneg h1).symm
    have r := gbit_orN (f := u) (g := s) (a := A) (m := a2.toInt.toNat) h6 em (i := x2) (by omega) (by rw [h8, h7]) h9 (by rw [h10, h5]) h11 q
    rw [r]
    congr 2
    exact decide_eq_decide.mpr (by omega)
theorem bE_tr {a bl li r : Int32} {fi fg sg op st lf ln rt rn : Nat → Int32} (hc : cdP bl li fi fg sg op st lf ln rt rn P) (ha : a.toInt = (b : Int)) (hb : b < P.1) (h : tr_Code_blockEnd a bl li fi r) : r.toInt = (fsm P.2.1 (b + 1) : Int) := by
  have c1 := hc.1
  have c2 := hc.2.1
  refine h (fun r => r.toInt = (fsm P.2.1 (b + 1) : Int)) ?_ ?_
  · intro x1 h1 h2
    have e : b + 1 = P.1 := by omega
    rw [e]; exact c2
  · intro x1 x2 x3 h1 h2 h3 h4 h5
    rw [h4, nnE (show x2.toInt = ((b + 1 : Nat) : Int) by omega)]
    exact (hc.2.2.1 (b + 1) (by omega)).1
theorem fU_tr {i ob r bl li : Int32} {fi fg sg op st lf ln rt rn : Nat → Int32} (hc : cdP bl li fi fg sg op st lf ln rt rn P) (hb : b < P.1) (hj : j < P.2.1 b) (hi : i.toNatClampNeg = fsm P.2.1 b + j) (hsl : sl = decide (ob.toInt ≠ 0)) (h : tr_Code_firstUse i ob op lf rn r) : r.toInt = u1V sl (P.2.2.1 b j) := by
  obtain ⟨d0, d1, d2, d3, d4, d5⟩ := hc.2.2.2 b j hb hj
  rw [← hi] at d0 d1 d2 d3 d4 d5
  unfold u1V
  refine h (fun r => r.toInt = if sl = true then (if P.2.2.1 b j 0 = 17 then P.2.2.1 b j 5 else -1) else P.2.2.1 b j 2) ?_ ?_ ?_
  · intro x1 h1 h2
    have es : sl = false := by rw [hsl]; exact decide_eq_false (by omega)
    rw [es]
    rw [if_neg (by decide), h2]; exact d2
  · intro x1 h1 h2 h3 h4
    have es : sl = true := by rw [hsl]; exact decide_eq_true (by omega)
    rw [es]
    rw [if_pos rfl, if_neg (by rw [← d0, ← h2]; exact h4)]; exact px_m1
  · intro x1 x2 h1 h2 h3 h4 h5
    have es : sl = true := by rw [hsl]; exact decide_eq_true (by omega)
    rw [es]
    rw [if_pos rfl, if_pos (by rw [← d0, ← h2]; exact h4), h5]; exact d5
theorem sU_tr {i ob r bl li : Int32} {fi fg sg op st lf ln rt rn : Nat → Int32} (hc : cdP bl li fi fg sg op st lf ln rt rn P) (hb : b < P.1) (hj : j < P.2.1 b) (hi : i.toNatClampNeg = fsm P.2.1 b + j) (hsl : sl = decide (ob.toInt ≠ 0)) (h : tr_Code_secondUse i ob rt r) : r.toInt = u2V sl (P.2.2.1 b j) := by
  obtain ⟨d0, d1, d2, d3, d4, d5⟩ := hc.2.2.2 b j hb hj
  rw [← hi] at d0 d1 d2 d3 d4 d5
  unfold u2V
  refine h (fun r => r.toInt = if sl = true then -1 else P.2.2.1 b j 4) ?_ ?_
  · intro x1 h1 h2
    have es : sl = false := by rw [hsl]; exact decide_eq_false (by omega)
    rw [es]
    rw [if_neg (by decide), h2]; exact d4
  · intro h1
    have es : sl = true := by rw [hsl]; exact decide_eq_true (by omega)
    rw [es]
    rw [if_pos rfl]; exact px_m1
theorem sB_tr {i ob r bl li : Int32} {fi fg sg op st lf ln rt rn : Nat → Int32} (hc : cdP bl li fi fg sg op st lf ln rt rn P) (hb : b < P.1) (hj : j < P.2.1 b) (hi : i.toNatClampNeg = fsm P.2.1 b + j) (hsl : sl = decide (ob.toInt ≠ 0)) (h : tr_Code_setBy i ob op st rn r) : r.toInt = seV sl (P.2.2.1 b j) := by
  obtain ⟨d0, d1, d2, d3, d4, d5⟩ := hc.2.2.2 b j hb hj
  rw [← hi] at d0 d1 d2 d3 d4 d5
  unfold seV
  refine h (fun r => r.toInt = if sl = true then (if P.2.2.1 b j 0 = 18 then P.2.2.1 b j 5 else -1) else P.2.2.1 b j 1) ?_ ?_ ?_
  · intro x1 h1 h2
    have es : sl = false := by rw [hsl]; exact decide_eq_false (by omega)
    rw [es]
    rw [if_neg (by decide), h2]; exact d1
  · intro x1 h1 h2 h3 h4
    have es : sl = true := by rw [hsl]; exact decide_eq_true (by omega)
    rw [es]
    rw [if_pos rfl, if_neg (by rw [← d0, ← h2]; exact h4)]; exact px_m1
  · intro x1 x2 h1 h2 h3 h4 h5
    have es : sl = true := by rw [hsl]; exact decide_eq_true (by omega)
    rw [es]
    rw [if_pos rfl, if_pos (by rw [← d0, ← h2]; exact h4), h5]; exact d5
theorem ga_tl {a2 : Int32} {Code_blocks : Int32} {Code_lines : Int32} {Code_first : Nat → Int32} {Live_ofSlots : Int32} {Code_op : Nat → Int32} {Code_left : Nat → Int32} {Code_rightNumber : Nat → Int32} {c1 : Int32} {Live_names : Int32} {Code_right : Nat → Int32} {Code_set : Nat → Int32} {s1 : Int32} {s2 : Nat → Int64} {s3 : Nat → Int64} {k : Nat} {e1 : Nat → Int64} {e2 : Nat → Int64} {fg : Nat → Int32} {sg : Nat → Int32} {cln : Nat → Int32} (hc : cdP Code_blocks Code_lines Code_first fg sg Code_op Code_set Code_left cln Code_right Code_rightNumber P) (ha : a2.toInt = (b : Int)) (hb : b < P.1) (hN : Live_names.toInt = (Nm : Int)) (hA : c1.toInt = ((b * W : Nat) : Int)) (hsl : sl = decide (Live_ofSlots.toInt ≠ 0)) (h : tl_Live_gather_15 a2 Code_blocks Code_lines Code_first Live_ofSlots Code_op Code_left Code_rightNumber c1 Live_names Code_right Code_set s1 s2 s3 k e1 e2) : ∀ j, j ≤ P.2.1 b → s1.toInt = ((fsm P.2.1 b + j : Nat) : Int) → gth P sl W Nm b j s2 s3 e1 e2 := by
  have eB2 : fsm P.2.1 (b + 1) = fsm P.2.1 b + P.2.1 b := rfl
  refine h (fun s1 s2 s3 _ e1 e2 => ∀ j, j ≤ P.2.1 b → s1.toInt = ((fsm P.2.1 b + j : Nat) : Int) → gth P sl W Nm b j s2 s3 e1 e2) ?_ ?_ ?_ ?_ ?_ ?_ ?_ ?_ ?_ ?_ ?_ ?_ ?_ ?_ ?_ ?_ ?_ ?_ ?_ ?_
  · intro l4_1 Live_used_1 Live_set_1 h1 h2 h3
    intro j hj hl
    have eB := bE_tr hc ha hb h2
    exact gth_0 (by omega)
  · intro l4_1 Live_used_1 Live_set_1 x1 x2 x3 x4 x5 x6 k e1 e2 h1 h2 h3 h4 h5 h6 h7 h8 h9 h10 ih
    intro j hj hl
    have eB := bE_tr hc ha hb h2
    have hj2 : j < P.2.1 b := by omega
    have hi : l4_1.toNatClampNeg = fsm P.2.1 b + j := nnE (by omega)
    have f1 := fU_tr hc hb hj2 hi hsl h4
    have f2 := sU_tr hc hb hj2 hi hsl h6
    have f3 := sB_tr hc hb hj2 hi hsl h8
    have g1 := gU_tr h5 hN hA
    have g2 := gU_tr h7 hN hA
    have n0 := iN_0 h9
    refine gth_s hj2 (se_no _ (by omega)) (us_two g1 g2 _ f1.symm f2.symm) (ih (j + 1) (by omega) (by omega))
  · intro l4_1 Live_used_1 Live_set_1 x1 x2 x3 x4 x5 x6 x7 x8 x9 x10 x11 x12 k e1 e2 h1 h2 h3 h4 h5 h6 h7 h8 h9 h10 h11 h12 h13 h14 h15 h16 ih
    intro j hj hl
    have eB := bE_tr hc ha hb h2
    have hj2 : j < P.2.1 b := by omega
    have hi : l4_1.toNatClampNeg = fsm P.2.1 b + j := nnE (by omega)
    have f1 := fU_tr hc hb hj2 hi hsl h4
    have f2 := sU_tr hc hb hj2 hi hsl h6
    have f3 := sB_tr hc hb hj2 hi hsl h8
    have g1 := gU_tr h5 hN hA
    have g2 := gU_tr h7 hN hA
    have n1 := iN_1 h9
    have em : x5.toInt = ((x5.toInt.toNat : Nat) : Int) := (Int.toNat_of_nonneg n1.1).symm
    have o1 := gbit_or (f := Live_set_1) (a := b * W) (m := x5.toInt.toNat) h13 em (i := x7) (by omega) (by rw [h14, h12]) h15
    refine gth_s hj2 (se_one _ o1 (by omega) (by omega)) (us_two g1 g2 _ f1.symm f2.symm) (ih (j + 1) (by omega) (by omega))
  · intro l4_1 Live_used_1 Live_set_1 x1 x2 x3 x4 x5 k e1 e2 h1 h2 h3 h4 h5 h6 h7 h8 h9 h10 ih
    intro j hj hl
    have eB := bE_tr hc ha hb h2
    have hj2 : j < P.2.1 b := by omega
    have hi : l4_1.toNatClampNeg = fsm P.2.1 b + j := nnE (by omega)
    have f1 := fU_tr hc hb hj2 hi hsl h4
    have f2 := sU_tr hc hb hj2 hi hsl h6
    have f3 := sB_tr hc hb hj2 hi hsl h8
    have g1 := gU_tr h5 hN hA
    have g2 := gU_tr h7 hN hA
    have n0 := iN_0 h9
    refine gth_s hj2 (se_no _ (by omega)) (us_two g1 g2 _ f1.symm f2.symm) (ih (j + 1) (by omega) (by omega))
  · intro l4_1 Live_used_1 Live_set_1 x1 x2 x3 x4 k e1 e2 h1 h2 h3 h4 h5 h6 h7 h8 h9 h10 ih
    intro j hj hl
    have eB := bE_tr hc ha hb h2
    have hj2 : j < P.2.1 b := by omega
    have hi : l4_1.toNatClampNeg = fsm P.2.1 b + j := nnE (by omega)
    have f1 := fU_tr hc hb hj2 hi hsl h4
    have f2 := sU_tr hc hb hj2 hi hsl h6
    have f3 := sB_tr hc hb hj2 hi hsl h8
    have g1 := gU_tr h5 hN hA
    have g2 := gU_tr h7 hN hA
    have n0 := iN_0 h9
    refine gth_s hj2 (se_no _ (by omega)) (us_two g1 g2 _ f1.symm f2.symm) (ih (j + 1) (by omega) (by omega))
  · intro l4_1 Live_used_1 Live_set_1 x1 x2 x3 x4 x5 k e1 e2 h1 h2 h3 h4 h5 h6 h7 h8 h9 h10 ih
    intro j hj hl
    have eB := bE_tr hc ha hb h2
    have hj2 : j < P.2.1 b := by omega
    have hi : l4_1.toNatClampNeg = fsm P.2.1 b + j := nnE (by omega)
    have f1 := fU_tr hc hb hj2 hi hsl h4
    have f2 := sU_tr hc hb hj2 hi hsl h6
    have f3 := sB_tr hc hb hj2 hi hsl h8
    have g1 := gU_tr h5 hN hA
    have g2 := gU_tr h7 hN hA
    have n0 := iN_0 h9
    refine gth_s hj2 (se_no _ (by omega)) (us_two g1 g2 _ f1.symm f2.symm) (ih (j + 1) (by omega) (by omega))
  · intro l4_1 Live_used_1 Live_set_1 x1 x2 x3 x4 x5 x6 x7 x8 x9 x10 x11 k e1 e2 h1 h2 h3 h4 h5 h6 h7 h8 h9 h10 h11 h12 h13 h14 h15 h16 ih
    intro j hj hl
    have eB := bE_tr hc ha hb h2
    have hj2 : j < P.2.1 b := by omega
    have hi : l4_1.toNatClampNeg = fsm P.2.1 b + j := nnE (by omega)
    have f1 := fU_tr hc hb hj2 hi hsl h4
    have f2 := sU_tr hc hb hj2 hi hsl h6
    have f3 := sB_tr hc hb hj2 hi hsl h8
    have g1 := gU_tr h5 hN hA
    have g2 := gU_tr h7 hN hA
    have n1 := iN_1 h9
    have em : x4.toInt = ((x4.toInt.toNat : Nat) : Int) := (Int.toNat_of_nonneg n1.1).symm
    have o1 := gbit_or (f := Live_set_1) (a := b * W) (m := x4.toInt.toNat) h13 em (i := x6) (by omega) (by rw [h14, h12]) h15
    refine gth_s hj2 (se_one _ o1 (by omega) (by omega)) (us_two g1 g2 _ f1.symm f2.symm) (ih (j + 1) (by omega) (by omega))
  · intro l4_1 Live_used_1 Live_set_1 x1 x2 x3 k e1 e2 h1 h2 h3 h4 h5 h6 h7 h8 h9 h10 ih
    intro j hj hl
    have eB := bE_tr hc ha hb h2
    have hj2 : j < P.2.1 b := by omega
    have hi : l4_1.toNatClampNeg = fsm P.2.1 b + j := nnE (by omega)
    have f1 := fU_tr hc hb hj2 hi hsl h4
    have f2 := sU_tr hc hb hj2 hi hsl h6
    have f3 := sB_tr hc hb hj2 hi hsl h8
    have g1 := gU_tr h5 hN hA
    have g2 := gU_tr h7 hN hA
    have n0 := iN_0 h9
    refine gth_s hj2 (se_no _ (by omega)) (us_two g1 g2 _ f1.symm f2.symm) (ih (j + 1) (by omega) (by omega))
  · intro l4_1 Live_used_1 Live_set_1 x1 x2 x3 x4 k e1 e2 h1 h2 h3 h4 h5 h6 h7 h8 h9 h10 ih
    intro j hj hl
    have eB := bE_tr hc ha hb h2
    have hj2 : j < P.2.1 b := by omega
    have hi : l4_1.toNatClampNeg = fsm P.2.1 b + j := nnE (by omega)
    have f1 := fU_tr hc hb hj2 hi hsl h4
    have f2 := sU_tr hc hb hj2 hi hsl h6
    have f3 := sB_tr hc hb hj2 hi hsl h8
    have g1 := gU_tr h5 hN hA
    have g2 := gU_tr h7 hN hA
    have n0 := iN_0 h9
    refine gth_s hj2 (se_no _ (by omega)) (us_two g1 g2 _ f1.symm f2.symm) (ih (j + 1) (by omega) (by omega))
  · intro l4_1 Live_used_1 Live_set_1 x1 x2 x3 x4 x5 x6 x7 x8 x9 x10 k e1 e2 h1 h2 h3 h4 h5 h6 h7 h8 h9 h10 h11 h12 h13 h14 h15 h16 ih
    intro j hj hl
    have eB := bE_tr hc ha hb h2
    have hj2 : j < P.2.1 b := by omega
    have hi : l4_1.toNatClampNeg = fsm P.2.1 b + j := nnE (by omega)
    have f1 := fU_tr hc hb hj2 hi hsl h4
    have f2 := sU_tr hc hb hj2 hi hsl h6
    have f3 := sB_tr hc hb hj2 hi hsl h8
    have g1 := gU_tr h5 hN hA
    have g2 := gU_tr h7 hN hA
    have n1 := iN_1 h9
    have em : x3.toInt = ((x3.toInt.toNat : Nat) : Int) := (Int.toNat_of_nonneg n1.1).symm
    have o1 := gbit_or (f := Live_set_1) (a := b * W) (m := x3.toInt.toNat) h13 em (i := x5) (by omega) (by rw [h14, h12]) h15
    refine gth_s hj2 (se_one _ o1 (by omega) (by omega)) (us_two g1 g2 _ f1.symm f2.symm) (ih (j + 1) (by omega) (by omega))
  · intro l4_1 Live_used_1 Live_set_1 x1 h1 h2 h3
    intro j hj hl
    have eB := bE_tr hc ha hb h2
    exact gth_0 (by omega)
  · intro l4_1 Live_used_1 Live_set_1 x1 x2 x3 x4 x5 x6 x7 k e1 e2 h1 h2 h3 h4 h5 h6 h7 h8 h9 h10 ih
    intro j hj hl
    have eB := bE_tr hc ha hb h2
    have hj2 : j < P.2.1 b := by omega
    have hi : l4_1.toNatClampNeg = fsm P.2.1 b + j := nnE (by omega)
    have f1 := fU_tr hc hb hj2 hi hsl h4
    have f2 := sU_tr hc hb hj2 hi hsl h6
    have f3 := sB_tr hc hb hj2 hi hsl h8
    have g1 := gU_tr h5 hN hA
    have g2 := gU_tr h7 hN hA
    have n0 := iN_0 h9
    refine gth_s hj2 (se_no _ (by omega)) (us_two g1 g2 _ f1.symm f2.symm) (ih (j + 1) (by omega) (by omega))
  · intro l4_1 Live_used_1 Live_set_1 x1 x2 x3 x4 x5 x6 x7 x8 x9 x10 x11 x12 x13 k e1 e2 h1 h2 h3 h4 h5 h6 h7 h8 h9 h10 h11 h12 h13 h14 h15 h16 ih
    intro j hj hl
    have eB := bE_tr hc ha hb h2
    have hj2 : j < P.2.1 b := by omega
    have hi : l4_1.toNatClampNeg = fsm P.2.1 b + j := nnE (by omega)
    have f1 := fU_tr hc hb hj2 hi hsl h4
    have f2 := sU_tr hc hb hj2 hi hsl h6
    have f3 := sB_tr hc hb hj2 hi hsl h8
    have g1 := gU_tr h5 hN hA
    have g2 := gU_tr h7 hN hA
    have n1 := iN_1 h9
    have em : x6.toInt = ((x6.toInt.toNat : Nat) : Int) := (Int.toNat_of_nonneg n1.1).symm
    have o1 := gbit_or (f := Live_set_1) (a := b * W) (m := x6.toInt.toNat) h13 em (i := x8) (by omega) (by rw [h14, h12]) h15
    refine gth_s hj2 (se_one _ o1 (by omega) (by omega)) (us_two g1 g2 _ f1.symm f2.symm) (ih (j + 1) (by omega) (by omega))
  · intro l4_1 Live_used_1 Live_set_1 x1 x2 x3 x4 x5 x6 k e1 e2 h1 h2 h3 h4 h5 h6 h7 h8 h9 h10 ih
    intro j hj hl
    have eB := bE_tr hc ha hb h2
    have hj2 : j < P.2.1 b := by omega
    have hi : l4_1.toNatClampNeg = fsm P.2.1 b + j := nnE (by omega)
    have f1 := fU_tr hc hb hj2 hi hsl h4
    have f2 := sU_tr hc hb hj2 hi hsl h6
    have f3 := sB_tr hc hb hj2 hi hsl h8
    have g1 := gU_tr h5 hN hA
    have g2 := gU_tr h7 hN hA
    have n0 := iN_0 h9
    refine gth_s hj2 (se_no _ (by omega)) (us_two g1 g2 _ f1.symm f2.symm) (ih (j + 1) (by omega) (by omega))
  · intro l4_1 Live_used_1 Live_set_1 x1 x2 x3 x4 x5 k e1 e2 h1 h2 h3 h4 h5 h6 h7 h8 h9 h10 ih
    intro j hj hl
    have eB := bE_tr hc ha hb h2
    have hj2 : j < P.2.1 b := by omega
    have hi : l4_1.toNatClampNeg = fsm P.2.1 b + j := nnE (by omega)
    have f1 := fU_tr hc hb hj2 hi hsl h4
    have f2 := sU_tr hc hb hj2 hi hsl h6
    have f3 := sB_tr hc hb hj2 hi hsl h8
    have g1 := gU_tr h5 hN hA
    have g2 := gU_tr h7 hN hA
    have n0 := iN_0 h9
    refine gth_s hj2 (se_no _ (by omega)) (us_two g1 g2 _ f1.symm f2.symm) (ih (j + 1) (by omega) (by omega))
  · intro l4_1 Live_used_1 Live_set_1 x1 x2 x3 x4 x5 x6 k e1 e2 h1 h2 h3 h4 h5 h6 h7 h8 h9 h10 ih
    intro j hj hl
    have eB := bE_tr hc ha hb h2
    have hj2 : j < P.2.1 b := by omega
    have hi : l4_1.toNatClampNeg = fsm P.2.1 b + j := nnE (by omega)
    have f1 := fU_tr hc hb hj2 hi hsl h4
    have f2 := sU_tr hc hb hj2 hi hsl h6
    have f3 := sB_tr hc hb hj2 hi hsl h8
    have g1 := gU_tr h5 hN hA
    have g2 := gU_tr h7 hN hA
    have n0 := iN_0 h9
    refine gth_s hj2 (se_no _ (by omega)) (us_two g1 g2 _ f1.symm f2.symm) (ih (j + 1) (by omega) (by omega))
  · intro l4_1 Live_used_1 Live_set_1 x1 x2 x3 x4 x5 x6 x7 x8 x9 x10 x11 x12 k e1 e2 h1 h2 h3 h4 h5 h6 h7 h8 h9 h10 h11 h12 h13 h14 h15 h16 ih
    intro j hj hl
    have eB := bE_tr hc ha hb h2
    have hj2 : j < P.2.1 b := by omega
    have hi : l4_1.toNatClampNeg = fsm P.2.1 b + j := nnE (by omega)
    have f1 := fU_tr hc hb hj2 hi hsl h4
    have f2 := sU_tr hc hb hj2 hi hsl h6
    have f3 := sB_tr hc hb hj2 hi hsl h8
    have g1 := gU_tr h5 hN hA
    have g2 := gU_tr h7 hN hA
    have n1 := iN_1 h9
    have em : x5.toInt = ((x5.toInt.toNat : Nat) : Int) := (Int.toNat_of_nonneg n1.1).symm
    have o1 := gbit_or (f := Live_set_1) (a := b * W) (m := x5.toInt.toNat) h13 em (i := x7) (by omega) (by rw [h14, h12]) h15
    refine gth_s hj2 (se_one _ o1 (by omega) (by omega)) (us_two g1 g2 _ f1.symm f2.symm) (ih (j + 1) (by omega) (by omega))
  · intro l4_1 Live_used_1 Live_set_1 x1 x2 x3 x4 k e1 e2 h1 h2 h3 h4 h5 h6 h7 h8 h9 h10 ih
    intro j hj hl
    have eB := bE_tr hc ha hb h2
    have hj2 : j < P.2.1 b := by omega
    have hi : l4_1.toNatClampNeg = fsm P.2.1 b + j := nnE (by omega)
    have f1 := fU_tr hc hb hj2 hi hsl h4
    have f2 := sU_tr hc hb hj2 hi hsl h6
    have f3 := sB_tr hc hb hj2 hi hsl h8
    have g1 := gU_tr h5 hN hA
    have g2 := gU_tr h7 hN hA
    have n0 := iN_0 h9
    refine gth_s hj2 (se_no _ (by omega)) (us_two g1 g2 _ f1.symm f2.symm) (ih (j + 1) (by omega) (by omega))
  · intro l4_1 Live_used_1 Live_set_1 x1 x2 x3 x4 x5 k e1 e2 h1 h2 h3 h4 h5 h6 h7 h8 h9 h10 ih
    intro j hj hl
    have eB := bE_tr hc ha hb h2
    have hj2 : j < P.2.1 b := by omega
    have hi : l4_1.toNatClampNeg = fsm P.2.1 b + j := nnE (by omega)
    have f1 := fU_tr hc hb hj2 hi hsl h4
    have f2 := sU_tr hc hb hj2 hi hsl h6
    have f3 := sB_tr hc hb hj2 hi hsl h8
    have g1 := gU_tr h5 hN hA
    have g2 := gU_tr h7 hN hA
    have n0 := iN_0 h9
    refine gth_s hj2 (se_no _ (by omega)) (us_two g1 g2 _ f1.symm f2.symm) (ih (j + 1) (by omega) (by omega))
  · intro l4_1 Live_used_1 Live_set_1 x1 x2 x3 x4 x5 x6 x7 x8 x9 x10 x11 k e1 e2 h1 h2 h3 h4 h5 h6 h7 h8 h9 h10 h11 h12 h13 h14 h15 h16 ih
    intro j hj hl
    have eB := bE_tr hc ha hb h2
    have hj2 : j < P.2.1 b := by omega
    have hi : l4_1.toNatClampNeg = fsm P.2.1 b + j := nnE (by omega)
    have f1 := fU_tr hc hb hj2 hi hsl h4
    have f2 := sU_tr hc hb hj2 hi hsl h6
    have f3 := sB_tr hc hb hj2 hi hsl h8
    have g1 := gU_tr h5 hN hA
    have g2 := gU_tr h7 hN hA
    have n1 := iN_1 h9
    have em : x4.toInt = ((x4.toInt.toNat : Nat) : Int) := (Int.toNat_of_nonneg n1.1).symm
    have o1 := gbit_or (f := Live_set_1) (a := b * W) (m := x4.toInt.toNat) h13 em (i := x6) (by omega) (by rw [h14, h12]) h15
    refine gth_s hj2 (se_one _ o1 (by omega) (by omega)) (us_two g1 g2 _ f1.symm f2.symm) (ih (j + 1) (by omega) (by omega))
theorem ga_tr {a2 : Int32} {Live_names : Int32} {Live_words : Int32} {Live_ofSlots : Int32} {Code_blocks : Int32} {Code_lines : Int32} {Live_used : Nat → Int64} {Live_set : Nat → Int64} {Code_first : Nat → Int32} {Code_op : Nat → Int32} {Code_set : Nat → Int32} {Code_left : Nat → Int32} {Code_right : Nat → Int32} {Code_rightNumber : Nat → Int32} {o1 : Nat → Int64} {o2 : Nat → Int64} {fg : Nat → Int32} {sg : Nat → Int32} {cln : Nat → Int32} (hc : cdP Code_blocks Code_lines Code_first fg sg Code_op Code_set Code_left cln Code_right Code_rightNumber P) (ha : a2.toInt = (b : Int)) (hb : b < P.1) (hN : Live_names.toInt = (Nm : Int)) (hW : Live_words.toInt = (W : Int)) (hsl : sl = decide (Live_ofSlots.toInt ≠ 0)) (h : tr_Live_gather a2 Live_names Live_words Live_ofSlots Code_blocks Code_lines Live_used Live_set Code_first Code_op Code_set Code_left Code_right Code_rightNumber o1 o2) : gth P sl W Nm b 0 Live_used Live_set o1 o2 := by
  refine h (fun o1 o2 => gth P sl W Nm b 0 Live_used Live_set o1 o2) ?_
  · intro x1 x2 x3 x4 h1 h2 h3 h4
    refine ga_tl hc ha hb hN ?_ hsl h4 0 (Nat.zero_le _) ?_
    · rw [h1, ha, hW]; exact (Int.natCast_mul b W).symm
    · rw [h2, nnE ha]; exact (hc.2.2.1 b hb).1
theorem sz_tl {Code_blocks : Int32} {c1 : Int32} {s1 : Int32} {s2 : Nat → Int64} {s3 : Nat → Int64} {s4 : Nat → Int64} {k : Nat} {e1 : Nat → Int64} {e2 : Nat → Int64} {e3 : Nat → Int64} {M : Nat} (hM : Code_blocks.toInt * c1.toInt = (M : Int)) (h : tl_Live_solve_37 Code_blocks c1 s1 s2 s3 s4 k e1 e2 e3) : 0 ≤ s1.toInt → ∀ i, i < M → ((i : Int) < s1.toInt → s2 i = 0 ∧ s3 i = 0 ∧ s4 i = 0) → e1 i = 0 ∧ e2 i = 0 ∧ e3 i = 0 := by
  refine h (fun s1 s2 s3 s4 _ e1 e2 e3 => 0 ≤ s1.toInt → ∀ i, i < M → ((i : Int) < s1.toInt → s2 i = 0 ∧ s3 i = 0 ∧ s4 i = 0) → e1 i = 0 ∧ e2 i = 0 ∧ e3 i = 0) ?_ ?_
  · intro l4_1 Live_in_1 Live_used_1 Live_set_1 x1 h1 h2 h3
    exact fun _ i hi hz => hz (by omega)
  · intro l4_1 Live_in_1 Live_used_1 Live_set_1 x1 x2 x3 x4 x5 k e1 e2 e3 h1 h2 h3 h4 h5 h6 h7 ih
    intro h0 i hi hz
    refine ih (by omega) i hi (fun hl => ?_)
    have en : (l4_1.toNatClampNeg : Int) = l4_1.toInt := g_nn h0
    rw [h4, h5, h6]
    unfold vp_updL
    by_cases e : i = l4_1.toNatClampNeg
    · rw [if_pos e, if_pos e, if_pos e]; exact ⟨rfl, rfl, rfl⟩
    · rw [if_neg e, if_neg e, if_neg e]; exact hz (by omega)
theorem sg_tl {Code_blocks : Int32} {c1 : Int32} {c2 : Int32} {a3 : Int32} {Code_lines : Int32} {Code_first : Nat → Int32} {Code_op : Nat → Int32} {Code_set : Nat → Int32} {Code_left : Nat → Int32} {Code_right : Nat → Int32} {Code_rightNumber : Nat → Int32} {s1 : Int32} {s2 : Nat → Int64} {s3 : Nat → Int64} {k : Nat} {e1 : Nat → Int64} {e2 : Nat → Int64} {fg : Nat → Int32} {sg : Nat → Int32} {cln : Nat → Int32} (hc : cdP Code_blocks Code_lines Code_first fg sg Code_op Code_set Code_left cln Code_right Code_rightNumber P) (hW2 : Nm ≤ 64 * W) (hN : c1.toInt = (Nm : Int)) (hW : c2.toInt = (W : Int)) (hsl : sl = decide (a3.toInt ≠ 0)) (h : tl_Live_solve_84 Code_blocks c1 c2 a3 Code_lines Code_first Code_op Code_set Code_left Code_right Code_rightNumber s1 s2 s3 k e1 e2) : ∀ b : Nat, s1.toInt = (b : Int) → zrB P W b s2 → zrB P W b s3 → gtB P sl W Nm b s2 s3 e1 e2 := by
  have cb := hc.1
  refine h (fun s1 s2 s3 _ e1 e2 => ∀ b : Nat, s1.toInt = (b : Int) → zrB P W b s2 → zrB P W b s3 → gtB P sl W Nm b s2 s3 e1 e2) ?_ ?_
  · intro l4_1 Live_used_1 Live_set_1 h1 h2
    exact fun b hl _ _ c v hc hv => ⟨fun _ => ⟨rfl, rfl⟩, fun hbc => by omega⟩
  · intro l4_1 Live_used_1 Live_set_1 x1 x2 x3 k e1 e2 h1 h2 h3 h4 ih
    intro b hl hu hs
    exact gtB_s hW2 (by omega) hu hs (ga_tr hc hl (by omega) hN hW hsl h3) (ih (b + 1) (by omega))
theorem bE_tr2 {a bl li r : Int32} {fi fg sg op st lf ln rt rn : Nat → Int32} (hc : cdP bl li fi fg sg op st lf ln rt rn P) (ha : a.toInt = (b : Int)) (hb : b < P.1) (h : tr_Code_blockEnd2 a bl li fi r) : r.toInt = (fsm P.2.1 (b + 1) : Int) := by
  have c1 := hc.1
  have c2 := hc.2.1
  refine h (fun r => r.toInt = (fsm P.2.1 (b + 1) : Int)) ?_ ?_
  · intro x1 h1 h2
    have e : b + 1 = P.1 := by omega
    rw [e]; exact c2
  · intro x1 x2 x3 h1 h2 h3 h4 h5
    rw [h4, nnE (show x2.toInt = ((b + 1 : Nat) : Int) by omega)]
    exact (hc.2.2.1 (b + 1) (by omega)).1
theorem fU_tr2 {i ob r bl li : Int32} {fi fg sg op st lf ln rt rn : Nat → Int32} (hc : cdP bl li fi fg sg op st lf ln rt rn P) (hb : b < P.1) (hj : j < P.2.1 b) (hi : i.toNatClampNeg = fsm P.2.1 b + j) (hsl : sl = decide (ob.toInt ≠ 0)) (h : tr_Code_firstUse2 i ob op lf rn r) : r.toInt = u1V sl (P.2.2.1 b j) := by
  obtain ⟨d0, d1, d2, d3, d4, d5⟩ := hc.2.2.2 b j hb hj
  rw [← hi] at d0 d1 d2 d3 d4 d5
  unfold u1V
  refine h (fun r => r.toInt = if sl = true then (if P.2.2.1 b j 0 = 17 then P.2.2.1 b j 5 else -1) else P.2.2.1 b j 2) ?_ ?_ ?_
  · intro x1 h1 h2
    have es : sl = false := by rw [hsl]; exact decide_eq_false (by omega)
    rw [es]
    rw [if_neg (by decide), h2]; exact d2
  · intro x1 h1 h2 h3 h4
    have es : sl = true := by rw [hsl]; exact decide_eq_true (by omega)
    rw [es]
    rw [if_pos rfl, if_neg (by rw [← d0, ← h2]; exact h4)]; exact px_m1
  · intro x1 x2 h1 h2 h3 h4 h5
    have es : sl = true := by rw [hsl]; exact decide_eq_true (by omega)
    rw [es]
    rw [if_pos rfl, if_pos (by rw [← d0, ← h2]; exact h4), h5]; exact d5
theorem sU_tr2 {i ob r bl li : Int32} {fi fg sg op st lf ln rt rn : Nat → Int32} (hc : cdP bl li fi fg sg op st lf ln rt rn P) (hb : b < P.1) (hj : j < P.2.1 b) (hi : i.toNatClampNeg = fsm P.2.1 b + j) (hsl : sl = decide (ob.toInt ≠ 0)) (h : tr_Code_secondUse2 i ob rt r) : r.toInt = u2V sl (P.2.2.1 b j) := by
  obtain ⟨d0, d1, d2, d3, d4, d5⟩ := hc.2.2.2 b j hb hj
  rw [← hi] at d0 d1 d2 d3 d4 d5
  unfold u2V
  refine h (fun r => r.toInt = if sl = true then -1 else P.2.2.1 b j 4) ?_ ?_
  · intro x1 h1 h2
    have es : sl = false := by rw [hsl]; exact decide_eq_false (by omega)
    rw [es]
    rw [if_neg (by decide), h2]; exact d4
  · intro h1
    have es : sl = true := by rw [hsl]; exact decide_eq_true (by omega)
    rw [es]
    rw [if_pos rfl]; exact px_m1
theorem sB_tr2 {i ob r bl li : Int32} {fi fg sg op st lf ln rt rn : Nat → Int32} (hc : cdP bl li fi fg sg op st lf ln rt rn P) (hb : b < P.1) (hj : j < P.2.1 b) (hi : i.toNatClampNeg = fsm P.2.1 b + j) (hsl : sl = decide (ob.toInt ≠ 0)) (h : tr_Code_setBy2 i ob op st rn r) : r.toInt = seV sl (P.2.2.1 b j) := by
  obtain ⟨d0, d1, d2, d3, d4, d5⟩ := hc.2.2.2 b j hb hj
  rw [← hi] at d0 d1 d2 d3 d4 d5
  unfold seV
  refine h (fun r => r.toInt = if sl = true then (if P.2.2.1 b j 0 = 18 then P.2.2.1 b j 5 else -1) else P.2.2.1 b j 1) ?_ ?_ ?_
  · intro x1 h1 h2
    have es : sl = false := by rw [hsl]; exact decide_eq_false (by omega)
    rw [es]
    rw [if_neg (by decide), h2]; exact d1
  · intro x1 h1 h2 h3 h4
    have es : sl = true := by rw [hsl]; exact decide_eq_true (by omega)
    rw [es]
    rw [if_pos rfl, if_neg (by rw [← d0, ← h2]; exact h4)]; exact px_m1
  · intro x1 x2 h1 h2 h3 h4 h5
    have es : sl = true := by rw [hsl]; exact decide_eq_true (by omega)
    rw [es]
    rw [if_pos rfl, if_pos (by rw [← d0, ← h2]; exact h4), h5]; exact d5
theorem ga_tl2 {a2 : Int32} {Code_blocks : Int32} {Code_lines : Int32} {Code_first : Nat → Int32} {Live_ofSlots : Int32} {Code_op : Nat → Int32} {Code_left : Nat → Int32} {Code_rightNumber : Nat → Int32} {c1 : Int32} {Live_names : Int32} {Code_right : Nat → Int32} {Code_set : Nat → Int32} {s1 : Int32} {s2 : Nat → Int64} {s3 : Nat → Int64} {k : Nat} {e1 : Nat → Int64} {e2 : Nat → Int64} {fg : Nat → Int32} {sg : Nat → Int32} {cln : Nat → Int32} (hc : cdP Code_blocks Code_lines Code_first fg sg Code_op Code_set Code_left cln Code_right Code_rightNumber P) (ha : a2.toInt = (b : Int)) (hb : b < P.1) (hN : Live_names.toInt = (Nm : Int)) (hA : c1.toInt = ((b * W : Nat) : Int)) (hsl : sl = decide (Live_ofSlots.toInt ≠ 0)) (h : tl_Live_gather2_15 a2 Code_blocks Code_lines Code_first Live_ofSlots Code_op Code_left Code_rightNumber c1 Live_names Code_right Code_set s1 s2 s3 k e1 e2) : ∀ j, j ≤ P.2.1 b → s1.toInt = ((fsm P.2.1 b + j : Nat) : Int) → gth P sl W Nm b j s2 s3 e1 e2 := by
  have eB2 : fsm P.2.1 (b + 1) = fsm P.2.1 b + P.2.1 b := rfl
  refine h (fun s1 s2 s3 _ e1 e2 => ∀ j, j ≤ P.2.1 b → s1.toInt = ((fsm P.2.1 b + j : Nat) : Int) → gth P sl W Nm b j s2 s3 e1 e2) ?_ ?_ ?_ ?_ ?_ ?_ ?_ ?_ ?_ ?_ ?_ ?_ ?_ ?_ ?_ ?_ ?_ ?_ ?_ ?_
  · intro l4_1 Live_used_1 Live_set_1 h1 h2 h3
    intro j hj hl
    have eB := bE_tr2 hc ha hb h2
    exact gth_0 (by omega)
  · intro l4_1 Live_used_1 Live_set_1 x1 x2 x3 x4 x5 x6 k e1 e2 h1 h2 h3 h4 h5 h6 h7 h8 h9 h10 ih
    intro j hj hl
    have eB := bE_tr2 hc ha hb h2
    have hj2 : j < P.2.1 b := by omega
    have hi : l4_1.toNatClampNeg = fsm P.2.1 b + j := nnE (by omega)
    have f1 := fU_tr2 hc hb hj2 hi hsl h4
    have f2 := sU_tr2 hc hb hj2 hi hsl h6
    have f3 := sB_tr2 hc hb hj2 hi hsl h8
    have g1 := gU_tr h5 hN hA
    have g2 := gU_tr h7 hN hA
    have n0 := iN_0 h9
    refine gth_s hj2 (se_no _ (by omega)) (us_two g1 g2 _ f1.symm f2.symm) (ih (j + 1) (by omega) (by omega))
  · intro l4_1 Live_used_1 Live_set_1 x1 x2 x3 x4 x5 x6 x7 x8 x9 x10 x11 x12 k e1 e2 h1 h2 h3 h4 h5 h6 h7 h8 h9 h10 h11 h12 h13 h14 h15 h16 ih
    intro j hj hl
    have eB := bE_tr2 hc ha hb h2
    have hj2 : j < P.2.1 b := by omega
    have hi : l4_1.toNatClampNeg = fsm P.2.1 b + j := nnE (by omega)
    have f1 := fU_tr2 hc hb hj2 hi hsl h4
    have f2 := sU_tr2 hc hb hj2 hi hsl h6
    have f3 := sB_tr2 hc hb hj2 hi hsl h8
    have g1 := gU_tr h5 hN hA
    have g2 := gU_tr h7 hN hA
    have n1 := iN_1 h9
    have em : x5.toInt = ((x5.toInt.toNat : Nat) : Int) := (Int.toNat_of_nonneg n1.1).symm
    have o1 := gbit_or (f := Live_set_1) (a := b * W) (m := x5.toInt.toNat) h13 em (i := x7) (by omega) (by rw [h14, h12]) h15
    refine gth_s hj2 (se_one _ o1 (by omega) (by omega)) (us_two g1 g2 _ f1.symm f2.symm) (ih (j + 1) (by omega) (by omega))
  · intro l4_1 Live_used_1 Live_set_1 x1 x2 x3 x4 x5 k e1 e2 h1 h2 h3 h4 h5 h6 h7 h8 h9 h10 ih
    intro j hj hl
    have eB := bE_tr2 hc ha hb h2
    have hj2 : j < P.2.1 b := by omega
    have hi : l4_1.toNatClampNeg = fsm P.2.1 b + j := nnE (by omega)
    have f1 := fU_tr2 hc hb hj2 hi hsl h4
    have f2 := sU_tr2 hc hb hj2 hi hsl h6
    have f3 := sB_tr2 hc hb hj2 hi hsl h8
    have g1 := gU_tr h5 hN hA
    have g2 := gU_tr h7 hN hA
    have n0 := iN_0 h9
    refine gth_s hj2 (se_no _ (by omega)) (us_two g1 g2 _ f1.symm f2.symm) (ih (j + 1) (by omega) (by omega))
  · intro l4_1 Live_used_1 Live_set_1 x1 x2 x3 x4 k e1 e2 h1 h2 h3 h4 h5 h6 h7 h8 h9 h10 ih
    intro j hj hl
    have eB := bE_tr2 hc ha hb h2
    have hj2 : j < P.2.1 b := by omega
    have hi : l4_1.toNatClampNeg = fsm P.2.1 b + j := nnE (by omega)
    have f1 := fU_tr2 hc hb hj2 hi hsl h4
    have f2 := sU_tr2 hc hb hj2 hi hsl h6
    have f3 := sB_tr2 hc hb hj2 hi hsl h8
    have g1 := gU_tr h5 hN hA
    have g2 := gU_tr h7 hN hA
    have n0 := iN_0 h9
    refine gth_s hj2 (se_no _ (by omega)) (us_two g1 g2 _ f1.symm f2.symm) (ih (j + 1) (by omega) (by omega))
  · intro l4_1 Live_used_1 Live_set_1 x1 x2 x3 x4 x5 k e1 e2 h1 h2 h3 h4 h5 h6 h7 h8 h9 h10 ih
    intro j hj hl
    have eB := bE_tr2 hc ha hb h2
    have hj2 : j < P.2.1 b := by omega
    have hi : l4_1.toNatClampNeg = fsm P.2.1 b + j := nnE (by omega)
    have f1 := fU_tr2 hc hb hj2 hi hsl h4
    have f2 := sU_tr2 hc hb hj2 hi hsl h6
    have f3 := sB_tr2 hc hb hj2 hi hsl h8
    have g1 := gU_tr h5 hN hA
    have g2 := gU_tr h7 hN hA
    have n0 := iN_0 h9
    refine gth_s hj2 (se_no _ (by omega)) (us_two g1 g2 _ f1.symm f2.symm) (ih (j + 1) (by omega) (by omega))
  · intro l4_1 Live_used_1 Live_set_1 x1 x2 x3 x4 x5 x6 x7 x8 x9 x10 x11 k e1 e2 h1 h2 h3 h4 h5 h6 h7 h8 h9 h10 h11 h12 h13 h14 h15 h16 ih
    intro j hj hl
    have eB := bE_tr2 hc ha hb h2
    have hj2 : j < P.2.1 b := by omega
    have hi : l4_1.toNatClampNeg = fsm P.2.1 b + j := nnE (by omega)
    have f1 := fU_tr2 hc hb hj2 hi hsl h4
    have f2 := sU_tr2 hc hb hj2 hi hsl h6
    have f3 := sB_tr2 hc hb hj2 hi hsl h8
    have g1 := gU_tr h5 hN hA
    have g2 := gU_tr h7 hN hA
    have n1 := iN_1 h9
    have em : x4.toInt = ((x4.toInt.toNat : Nat) : Int) := (Int.toNat_of_nonneg n1.1).symm
    have o1 := gbit_or (f := Live_set_1) (a := b * W) (m := x4.toInt.toNat) h13 em (i := x6) (by omega) (by rw [h14, h12]) h15
    refine gth_s hj2 (se_one _ o1 (by omega) (by omega)) (us_two g1 g2 _ f1.symm f2.symm) (ih (j + 1) (by omega) (by omega))
  · intro l4_1 Live_used_1 Live_set_1 x1 x2 x3 k e1 e2 h1 h2 h3 h4 h5 h6 h7 h8 h9 h10 ih
    intro j hj hl
    have eB := bE_tr2 hc ha hb h2
    have hj2 : j < P.2.1 b := by omega
    have hi : l4_1.toNatClampNeg = fsm P.2.1 b + j := nnE (by omega)
    have f1 := fU_tr2 hc hb hj2 hi hsl h4
    have f2 := sU_tr2 hc hb hj2 hi hsl h6
    have f3 := sB_tr2 hc hb hj2 hi hsl h8
    have g1 := gU_tr h5 hN hA
    have g2 := gU_tr h7 hN hA
    have n0 := iN_0 h9
    refine gth_s hj2 (se_no _ (by omega)) (us_two g1 g2 _ f1.symm f2.symm) (ih (j + 1) (by omega) (by omega))
  · intro l4_1 Live_used_1 Live_set_1 x1 x2 x3 x4 k e1 e2 h1 h2 h3 h4 h5 h6 h7 h8 h9 h10 ih
    intro j hj hl
    have eB := bE_tr2 hc ha hb h2
    have hj2 : j < P.2.1 b := by omega
    have hi : l4_1.toNatClampNeg = fsm P.2.1 b + j := nnE (by omega)
    have f1 := fU_tr2 hc hb hj2 hi hsl h4
    have f2 := sU_tr2 hc hb hj2 hi hsl h6
    have f3 := sB_tr2 hc hb hj2 hi hsl h8
    have g1 := gU_tr h5 hN hA
    have g2 := gU_tr h7 hN hA
    have n0 := iN_0 h9
    refine gth_s hj2 (se_no _ (by omega)) (us_two g1 g2 _ f1.symm f2.symm) (ih (j + 1) (by omega) (by omega))
  · intro l4_1 Live_used_1 Live_set_1 x1 x2 x3 x4 x5 x6 x7 x8 x9 x10 k e1 e2 h1 h2 h3 h4 h5 h6 h7 h8 h9 h10 h11 h12 h13 h14 h15 h16 ih
    intro j hj hl
    have eB := bE_tr2 hc ha hb h2
    have hj2 : j < P.2.1 b := by omega
    have hi : l4_1.toNatClampNeg = fsm P.2.1 b + j := nnE (by omega)
    have f1 := fU_tr2 hc hb hj2 hi hsl h4
    have f2 := sU_tr2 hc hb hj2 hi hsl h6
    have f3 := sB_tr2 hc hb hj2 hi hsl h8
    have g1 := gU_tr h5 hN hA
    have g2 := gU_tr h7 hN hA
    have n1 := iN_1 h9
    have em : x3.toInt = ((x3.toInt.toNat : Nat) : Int) := (Int.toNat_of_nonneg n1.1).symm
    have o1 := gbit_or (f := Live_set_1) (a := b * W) (m := x3.toInt.toNat) h13 em (i := x5) (by omega) (by rw [h14, h12]) h15
    refine gth_s hj2 (se_one _ o1 (by omega) (by omega)) (us_two g1 g2 _ f1.symm f2.symm) (ih (j + 1) (by omega) (by omega))
  · intro l4_1 Live_used_1 Live_set_1 x1 h1 h2 h3
    intro j hj hl
    have eB := bE_tr2 hc ha hb h2
    exact gth_0 (by omega)
  · intro l4_1 Live_used_1 Live_set_1 x1 x2 x3 x4 x5 x6 x7 k e1 e2 h1 h2 h3 h4 h5 h6 h7 h8 h9 h10 ih
    intro j hj hl
    have eB := bE_tr2 hc ha hb h2
    have hj2 : j < P.2.1 b := by omega
    have hi : l4_1.toNatClampNeg = fsm P.2.1 b + j := nnE (by omega)
    have f1 := fU_tr2 hc hb hj2 hi hsl h4
    have f2 := sU_tr2 hc hb hj2 hi hsl h6
    have f3 := sB_tr2 hc hb hj2 hi hsl h8
    have g1 := gU_tr h5 hN hA
    have g2 := gU_tr h7 hN hA
    have n0 := iN_0 h9
    refine gth_s hj2 (se_no _ (by omega)) (us_two g1 g2 _ f1.symm f2.symm) (ih (j + 1) (by omega) (by omega))
  · intro l4_1 Live_used_1 Live_set_1 x1 x2 x3 x4 x5 x6 x7 x8 x9 x10 x11 x12 x13 k e1 e2 h1 h2 h3 h4 h5 h6 h7 h8 h9 h10 h11 h12 h13 h14 h15 h16 ih
    intro j hj hl
    have eB := bE_tr2 hc ha hb h2
    have hj2 : j < P.2.1 b := by omega
    have hi : l4_1.toNatClampNeg = fsm P.2.1 b + j := nnE (by omega)
    have f1 := fU_tr2 hc hb hj2 hi hsl h4
    have f2 := sU_tr2 hc hb hj2 hi hsl h6
    have f3 := sB_tr2 hc hb hj2 hi hsl h8
    have g1 := gU_tr h5 hN hA
    have g2 := gU_tr h7 hN hA
    have n1 := iN_1 h9
    have em : x6.toInt = ((x6.toInt.toNat : Nat) : Int) := (Int.toNat_of_nonneg n1.1).symm
    have o1 := gbit_or (f := Live_set_1) (a := b * W) (m := x6.toInt.toNat) h13 em (i := x8) (by omega) (by rw [h14, h12]) h15
    refine gth_s hj2 (se_one _ o1 (by omega) (by omega)) (us_two g1 g2 _ f1.symm f2.symm) (ih (j + 1) (by omega) (by omega))
  · intro l4_1 Live_used_1 Live_set_1 x1 x2 x3 x4 x5 x6 k e1 e2 h1 h2 h3 h4 h5 h6 h7 h8 h9 h10 ih
    intro j hj hl
    have eB := bE_tr2 hc ha hb h2
    have hj2 : j < P.2.1 b := by omega
    have hi : l4_1.toNatClampNeg = fsm P.2.1 b + j := nnE (by omega)
    have f1 := fU_tr2 hc hb hj2 hi hsl h4
    have f2 := sU_tr2 hc hb hj2 hi hsl h6
    have f3 := sB_tr2 hc hb hj2 hi hsl h8
    have g1 := gU_tr h5 hN hA
    have g2 := gU_tr h7 hN hA
    have n0 := iN_0 h9
    refine gth_s hj2 (se_no _ (by omega)) (us_two g1 g2 _ f1.symm f2.symm) (ih (j + 1) (by omega) (by omega))
  · intro l4_1 Live_used_1 Live_set_1 x1 x2 x3 x4 x5 k e1 e2 h1 h2 h3 h4 h5 h6 h7 h8 h9 h10 ih
    intro j hj hl
    have eB := bE_tr2 hc ha hb h2
    have hj2 : j < P.2.1 b := by omega
    have hi : l4_1.toNatClampNeg = fsm P.2.1 b + j := nnE (by omega)
    have f1 := fU_tr2 hc hb hj2 hi hsl h4
    have f2 := sU_tr2 hc hb hj2 hi hsl h6
    have f3 := sB_tr2 hc hb hj2 hi hsl h8
    have g1 := gU_tr h5 hN hA
    have g2 := gU_tr h7 hN hA
    have n0 := iN_0 h9
    refine gth_s hj2 (se_no _ (by omega)) (us_two g1 g2 _ f1.symm f2.symm) (ih (j + 1) (by omega) (by omega))
  · intro l4_1 Live_used_1 Live_set_1 x1 x2 x3 x4 x5 x6 k e1 e2 h1 h2 h3 h4 h5 h6 h7 h8 h9 h10 ih
    intro j hj hl
    have eB := bE_tr2 hc ha hb h2
    have hj2 : j < P.2.1 b := by omega
    have hi : l4_1.toNatClampNeg = fsm P.2.1 b + j := nnE (by omega)
    have f1 := fU_tr2 hc hb hj2 hi hsl h4
    have f2 := sU_tr2 hc hb hj2 hi hsl h6
    have f3 := sB_tr2 hc hb hj2 hi hsl h8
    have g1 := gU_tr h5 hN hA
    have g2 := gU_tr h7 hN hA
    have n0 := iN_0 h9
    refine gth_s hj2 (se_no _ (by omega)) (us_two g1 g2 _ f1.symm f2.symm) (ih (j + 1) (by omega) (by omega))
  · intro l4_1 Live_used_1 Live_set_1 x1 x2 x3 x4 x5 x6 x7 x8 x9 x10 x11 x12 k e1 e2 h1 h2 h3 h4 h5 h6 h7 h8 h9 h10 h11 h12 h13 h14 h15 h16 ih
    intro j hj hl
    have eB := bE_tr2 hc ha hb h2
    have hj2 : j < P.2.1 b := by omega
    have hi : l4_1.toNatClampNeg = fsm P.2.1 b + j := nnE (by omega)
    have f1 := fU_tr2 hc hb hj2 hi hsl h4
    have f2 := sU_tr2 hc hb hj2 hi hsl h6
    have f3 := sB_tr2 hc hb hj2 hi hsl h8
    have g1 := gU_tr h5 hN hA
    have g2 := gU_tr h7 hN hA
    have n1 := iN_1 h9
    have em : x5.toInt = ((x5.toInt.toNat : Nat) : Int) := (Int.toNat_of_nonneg n1.1).symm
    have o1 := gbit_or (f := Live_set_1) (a := b * W) (m := x5.toInt.toNat) h13 em (i := x7) (by omega) (by rw [h14, h12]) h15
    refine gth_s hj2 (se_one _ o1 (by omega) (by omega)) (us_two g1 g2 _ f1.symm f2.symm) (ih (j + 1) (by omega) (by omega))
  · intro l4_1 Live_used_1 Live_set_1 x1 x2 x3 x4 k e1 e2 h1 h2 h3 h4 h5 h6 h7 h8 h9 h10 ih
    intro j hj hl
    have eB := bE_tr2 hc ha hb h2
    have hj2 : j < P.2.1 b := by omega
    have hi : l4_1.toNatClampNeg = fsm P.2.1 b + j := nnE (by omega)
    have f1 := fU_tr2 hc hb hj2 hi hsl h4
    have f2 := sU_tr2 hc hb hj2 hi hsl h6
    have f3 := sB_tr2 hc hb hj2 hi hsl h8
    have g1 := gU_tr h5 hN hA
    have g2 := gU_tr h7 hN hA
    have n0 := iN_0 h9
    refine gth_s hj2 (se_no _ (by omega)) (us_two g1 g2 _ f1.symm f2.symm) (ih (j + 1) (by omega) (by omega))
  · intro l4_1 Live_used_1 Live_set_1 x1 x2 x3 x4 x5 k e1 e2 h1 h2 h3 h4 h5 h6 h7 h8 h9 h10 ih
    intro j hj hl
    have eB := bE_tr2 hc ha hb h2
    have hj2 : j < P.2.1 b := by omega
    have hi : l4_1.toNatClampNeg = fsm P.2.1 b + j := nnE (by omega)
    have f1 := fU_tr2 hc hb hj2 hi hsl h4
    have f2 := sU_tr2 hc hb hj2 hi hsl h6
    have f3 := sB_tr2 hc hb hj2 hi hsl h8
    have g1 := gU_tr h5 hN hA
    have g2 := gU_tr h7 hN hA
    have n0 := iN_0 h9
    refine gth_s hj2 (se_no _ (by omega)) (us_two g1 g2 _ f1.symm f2.symm) (ih (j + 1) (by omega) (by omega))
  · intro l4_1 Live_used_1 Live_set_1 x1 x2 x3 x4 x5 x6 x7 x8 x9 x10 x11 k e1 e2 h1 h2 h3 h4 h5 h6 h7 h8 h9 h10 h11 h12 h13 h14 h15 h16 ih
    intro j hj hl
    have eB := bE_tr2 hc ha hb h2
    have hj2 : j < P.2.1 b := by omega
    have hi : l4_1.toNatClampNeg = fsm P.2.1 b + j := nnE (by omega)
    have f1 := fU_tr2 hc hb hj2 hi hsl h4
    have f2 := sU_tr2 hc hb hj2 hi hsl h6
    have f3 := sB_tr2 hc hb hj2 hi hsl h8
    have g1 := gU_tr h5 hN hA
    have g2 := gU_tr h7 hN hA
    have n1 := iN_1 h9
    have em : x4.toInt = ((x4.toInt.toNat : Nat) : Int) := (Int.toNat_of_nonneg n1.1).symm
    have o1 := gbit_or (f := Live_set_1) (a := b * W) (m := x4.toInt.toNat) h13 em (i := x6) (by omega) (by rw [h14, h12]) h15
    refine gth_s hj2 (se_one _ o1 (by omega) (by omega)) (us_two g1 g2 _ f1.symm f2.symm) (ih (j + 1) (by omega) (by omega))
theorem ga_tr2 {a2 : Int32} {Live_names : Int32} {Live_words : Int32} {Live_ofSlots : Int32} {Code_blocks : Int32} {Code_lines : Int32} {Live_used : Nat → Int64} {Live_set : Nat → Int64} {Code_first : Nat → Int32} {Code_op : Nat → Int32} {Code_set : Nat → Int32} {Code_left : Nat → Int32} {Code_right : Nat → Int32} {Code_rightNumber : Nat → Int32} {o1 : Nat → Int64} {o2 : Nat → Int64} {fg : Nat → Int32} {sg : Nat → Int32} {cln : Nat → Int32} (hc : cdP Code_blocks Code_lines Code_first fg sg Code_op Code_set Code_left cln Code_right Code_rightNumber P) (ha : a2.toInt = (b : Int)) (hb : b < P.1) (hN : Live_names.toInt = (Nm : Int)) (hW : Live_words.toInt = (W : Int)) (hsl : sl = decide (Live_ofSlots.toInt ≠ 0)) (h : tr_Live_gather2 a2 Live_names Live_words Live_ofSlots Code_blocks Code_lines Live_used Live_set Code_first Code_op Code_set Code_left Code_right Code_rightNumber o1 o2) : gth P sl W Nm b 0 Live_used Live_set o1 o2 := by
  refine h (fun o1 o2 => gth P sl W Nm b 0 Live_used Live_set o1 o2) ?_
  · intro x1 x2 x3 x4 h1 h2 h3 h4
    refine ga_tl2 hc ha hb hN ?_ hsl h4 0 (Nat.zero_le _) ?_
    · rw [h1, ha, hW]; exact (Int.natCast_mul b W).symm
    · rw [h2, nnE ha]; exact (hc.2.2.1 b hb).1
theorem sz_tl2 {Code_blocks : Int32} {c1 : Int32} {s1 : Int32} {s2 : Nat → Int64} {s3 : Nat → Int64} {s4 : Nat → Int64} {k : Nat} {e1 : Nat → Int64} {e2 : Nat → Int64} {e3 : Nat → Int64} {M : Nat} (hM : Code_blocks.toInt * c1.toInt = (M : Int)) (h : tl_Live_solve2_37 Code_blocks c1 s1 s2 s3 s4 k e1 e2 e3) : 0 ≤ s1.toInt → ∀ i, i < M → ((i : Int) < s1.toInt → s2 i = 0 ∧ s3 i = 0 ∧ s4 i = 0) → e1 i = 0 ∧ e2 i = 0 ∧ e3 i = 0 := by
  refine h (fun s1 s2 s3 s4 _ e1 e2 e3 => 0 ≤ s1.toInt → ∀ i, i < M → ((i : Int) < s1.toInt → s2 i = 0 ∧ s3 i = 0 ∧ s4 i = 0) → e1 i = 0 ∧ e2 i = 0 ∧ e3 i = 0) ?_ ?_
  · intro l4_1 Live_in_1 Live_used_1 Live_set_1 x1 h1 h2 h3
    exact fun _ i hi hz => hz (by omega)
  · intro l4_1 Live_in_1 Live_used_1 Live_set_1 x1 x2 x3 x4 x5 k e1 e2 e3 h1 h2 h3 h4 h5 h6 h7 ih
    intro h0 i hi hz
    refine ih (by omega) i hi (fun hl => ?_)
    have en : (l4_1.toNatClampNeg : Int) = l4_1.toInt := g_nn h0
    rw [h4, h5, h6]
    unfold vp_updL
    by_cases e : i = l4_1.toNatClampNeg
    · rw [if_pos e, if_pos e, if_pos e]; exact ⟨rfl, rfl, rfl⟩
    · rw [if_neg e, if_neg e, if_neg e]; exact hz (by omega)
theorem sg_tl2 {Code_blocks : Int32} {c1 : Int32} {c2 : Int32} {a3 : Int32} {Code_lines : Int32} {Code_first : Nat → Int32} {Code_op : Nat → Int32} {Code_set : Nat → Int32} {Code_left : Nat → Int32} {Code_right : Nat → Int32} {Code_rightNumber : Nat → Int32} {s1 : Int32} {s2 : Nat → Int64} {s3 : Nat → Int64} {k : Nat} {e1 : Nat → Int64} {e2 : Nat → Int64} {fg : Nat → Int32} {sg : Nat → Int32} {cln : Nat → Int32} (hc : cdP Code_blocks Code_lines Code_first fg sg Code_op Code_set Code_left cln Code_right Code_rightNumber P) (hW2 : Nm ≤ 64 * W) (hN : c1.toInt = (Nm : Int)) (hW : c2.toInt = (W : Int)) (hsl : sl = decide (a3.toInt ≠ 0)) (h : tl_Live_solve2_84 Code_blocks c1 c2 a3 Code_lines Code_first Code_op Code_set Code_left Code_right Code_rightNumber s1 s2 s3 k e1 e2) : ∀ b : Nat, s1.toInt = (b : Int) → zrB P W b s2 → zrB P W b s3 → gtB P sl W Nm b s2 s3 e1 e2 := by
  have cb := hc.1
  refine h (fun s1 s2 s3 _ e1 e2 => ∀ b : Nat, s1.toInt = (b : Int) → zrB P W b s2 → zrB P W b s3 → gtB P sl W Nm b s2 s3 e1 e2) ?_ ?_
  · intro l4_1 Live_used_1 Live_set_1 h1 h2
    exact fun b hl _ _ c v hc hv => ⟨fun _ => ⟨rfl, rfl⟩, fun hbc => by omega⟩
  · intro l4_1 Live_used_1 Live_set_1 x1 x2 x3 k e1 e2 h1 h2 h3 h4 ih
    intro b hl hu hs
    exact gtB_s hW2 (by omega) hu hs (ga_tr2 hc hl (by omega) hN hW hsl h3) (ih (b + 1) (by omega))
end LIV
end
section
/-- bit v of block c's row, if there is such a block -/
def gin (nb W : Nat) (f : Nat → Int64) (c : Int) (v : Nat) : Bool := decide (0 ≤ c ∧ c < (nb : Int)) && gbit f (64 * (c.toNat * W) + v)
section LVW
variable {P : gPg} {sl : Bool} {W Nm b m nb : Nat} {inn in1 now now1 e2 us se : Nat → Int64} {X x : Int64} {c l p i wd : Int32} {ch ch1 e1 : Int32}
theorem gin_o {c : Int} (h : ¬ (0 ≤ c ∧ c < (nb : Int))) (v : Nat) : gin nb W inn c v = false := by unfold gin; rw [decide_eq_false h, Bool.false_and]
theorem gin_w (hx : x = inn i.toNatClampNeg) (hi : i.toInt = p.toInt + l.toInt) (hp : p.toInt = c.toInt * wd.toInt) (h0 : 0 ≤ c.toInt) (h1 : c.toInt < (nb : Int)) (hW : wd.toInt = (W : Int)) (hl : l.toInt = (m : Int)) (v : Nat) (hv : v / 64 = m) : gin nb W inn c.toInt v = x.toBitVec.getLsbD (v % 64) := by
  unfold gin gbit
  have e1 : c.toInt * wd.toInt = ((c.toInt.toNat * W : Nat) : Int) := by rw [Int.natCast_mul, Int.toNat_of_nonneg h0, hW]
  have e2 : i.toNatClampNeg = c.toInt.toNat * W + m := nnE (by omega)
  have e3 : (64 * (c.toInt.toNat * W) + v) / 64 = c.toInt.toNat * W + m := by omega
  have e4 : (64 * (c.toInt.toNat * W) + v) % 64 = v % 64 := by omega
  rw [decide_eq_true ⟨h0, h1⟩, Bool.true_and, e3, e4, hx, e2]
theorem eb_s {g : Nat → Bool} {l5 : Int32} {l6 : Int} (h0 : 0 ≤ l5.toInt) (hl : l6 = l5.toInt + 1) (hx : now1 = vp_updL now l5.toNatClampNeg X) (hX : ∀ v, v / 64 = l5.toInt.toNat → X.toBitVec.getLsbD (v % 64) = g v) (ih : ∀ v, v < 64 * W → (((v / 64 : Nat) : Int) < l6 → gbit e2 v = gbit now1 v) ∧ (l6 ≤ ((v / 64 : Nat) : Int) → gbit e2 v = g v)) : ∀ v, v < 64 * W → (((v / 64 : Nat) : Int) < l5.toInt → gbit e2 v = gbit now v) ∧ (l5.toInt ≤ ((v / 64 : Nat) : Int) → gbit e2 v = g v) := fun v hv => by
  obtain ⟨i1, i2⟩ := ih v hv
  have en := g_nn h0
  constructor
  · intro hl2
    rw [i1 (by omega), hx, gbit_upd, if_neg (by omega)]
  · intro hl2
    by_cases e : l6 ≤ ((v / 64 : Nat) : Int)
    · exact i2 e
    · rw [i1 (by omega), hx, gbit_upd, if_pos (by omega), hX v (by omega)]
/-- the new word of a block -/
def swV (W b : Nat) (us se now : Nat → Int64) (v : Nat) : Bool := gbit us (64 * (b * W) + v) || (gbit now v && !gbit se (64 * (b * W) + v))
def swQ (W b : Nat) (us se now : Nat → Int64) (m : Nat) (ch : Int32) (inn : Nat → Int64) (e1 : Int32) (e2 : Nat → Int64) : Prop :=
  (∀ q, (∀ v, v < 64 * W → m ≤ v / 64 → q ≠ 64 * (b * W) + v) → gbit e2 q = gbit inn q) ∧ (∀ v, v < 64 * W → m ≤ v / 64 → gbit e2 (64 * (b * W) + v) = swV W b us se now v) ∧ (e1.toInt = 0 → ch.toInt = 0 ∧ ∀ v, v < 64 * W → m ≤ v / 64 → gbit inn (64 * (b * W) + v) = swV W b us se now v)
theorem swQ_0 (h : W ≤ m) : swQ W b us se now m ch inn ch inn := ⟨fun _ _ => rfl, fun v hv hm => by omega, fun z => ⟨z, fun v hv hm => by omega⟩⟩
theorem swQ_s (hm : m < W) (hx : in1 = vp_updL inn (b * W + m) X) (hX : ∀ v, v / 64 = m → X.toBitVec.getLsbD (v % 64) = swV W b us se now v) (hf : ch1.toInt = 0 → ch.toInt = 0 ∧ X = inn (b * W + m)) (ih : swQ W b us se now (m + 1) ch1 in1 e1 e2) : swQ W b us se now m ch inn e1 e2 := by
  obtain ⟨i1, i2, i3⟩ := ih
  have at1 : ∀ v, v < 64 * W → v / 64 = m → gbit in1 (64 * (b * W) + v) = swV W b us se now v := fun v hv e => by
    have e3 : (64 * (b * W) + v) / 64 = b * W + m := by omega
    have e4 : (64 * (b * W) + v) % 64 = v % 64 := by omega
    rw [hx, gbit_upd, if_pos e3, e4, hX v e]
  have ot1 : ∀ q, q / 64 ≠ b * W + m → gbit in1 q = gbit inn q := fun q hq => by rw [hx, gbit_upd, if_neg hq]
  refine ⟨fun q hq => ?_, fun v hv hvm => ?_, fun z => ?_⟩
  · rw [i1 q (fun v hv hvm => hq v hv (by omega))]
    refine ot1 q (fun e => ?_)
    exact hq (q - 64 * (b * W)) (by omega) (by omega) (by omega)
  · by_cases e : v / 64 = m
    · rw [i1 _ (fun w hw hwm z => by omega)]
      exact at1 v hv e
    · exact i2 v hv (by omega)
  · obtain ⟨z1, z2⟩ := i3 z
    obtain ⟨f1, f2⟩ := hf z1
    refine ⟨f1, fun v hv hvm => ?_⟩
    by_cases e : v / 64 = m
    · rw [← hX v e, f2]
      unfold gbit
      have e3 : (64 * (b * W) + v) / 64 = b * W + m := by omega
      have e4 : (64 * (b * W) + v) % 64 = v % 64 := by omega
      rw [e3, e4]
    · rw [← z2 v hv (by omega)]
      exact (ot1 _ (by omega)).symm
/-- rows of bits: sound, what k rounds find, closed -/
def lvSc (P : gPg) (sl : Bool) (W Nm : Nat) (f : Nat → Int64) : Prop := ∀ c v, c < P.1 → v < 64 * W → gbit f (64 * (c * W) + v) = true → v < Nm ∧ Lv P sl v c 0
def lvC (P : gPg) (sl : Bool) (W v : Nat) (f : Nat → Int64) (c : Nat) : Prop := usd P sl v c ∨ (¬ std P sl v c ∧ goX P (fun g => gbit f (64 * (g * W) + v) = true) c)
def swp (P : gPg) (sl : Bool) (W Nm b : Nat) (ch : Int32) (inn : Nat → Int64) (e1 : Int32) (e2 : Nat → Int64) : Prop :=
  (lvSc P sl W Nm inn → lvSc P sl W Nm e2) ∧
  (∀ p v, v < Nm → (∀ c, c < P.1 → Lt P sl v p c → gbit inn (64 * (c * W) + v) = true) → (∀ c, c < P.1 → b ≤ c → Lt P sl v (p + 1) c → gbit inn (64 * (c * W) + v) = true) → ∀ c, c < P.1 → Lt P sl v (p + 1) c → gbit e2 (64 * (c * W) + v) = true) ∧
  (e1.toInt = 0 → ch.toInt = 0 ∧ (∀ c v, c < P.1 → v < 64 * W → gbit e2 (64 * (c * W) + v) = gbit inn (64 * (c * W) + v)) ∧ ∀ c v, c < b → v < Nm → lvC P sl W v inn c → gbit inn (64 * (c * W) + v) = true)
theorem swp_0 : swp P sl W Nm 0 ch inn ch inn := ⟨id, fun p v _ _ h2 c hc h => h2 c hc (Nat.zero_le _) h, fun z => ⟨z, fun _ _ _ _ => rfl, fun c v hc => by omega⟩⟩
theorem swp_s (hW : Nm ≤ 64 * W) (hb : b < P.1) (hO : ∀ c v, c < P.1 → c ≠ b → v < 64 * W → gbit in1 (64 * (c * W) + v) = gbit inn (64 * (c * W) + v)) (hV : ∀ v, v < 64 * W → (gbit in1 (64 * (b * W) + v) = true ↔ (v < Nm ∧ usd P sl v b) ∨ (goX P (fun g => gbit inn (64 * (g * W) + v) = true) b ∧ ¬ (v < Nm ∧ std P sl v b)))) (hF : ch1.toInt = 0 → ch.toInt = 0 ∧ ∀ v, v < 64 * W → gbit inn (64 * (b * W) + v) = gbit in1 (64 * (b * W) + v)) (ih : swp P sl W Nm b ch1 in1 e1 e2) : swp P sl W Nm (b + 1) ch inn e1 e2 := by
  obtain ⟨i1, i2, i3⟩ := ih
  refine ⟨fun hs => i1 (fun c v hc hv h => ?_), fun p v hv h1 h2 => i2 p v hv (fun c hc h => ?_) (fun c hc hbc h => ?_), fun z => ?_⟩
  · by_cases e : c = b
    · rw [e] at h ⊢
      rcases (hV v hv).mp h with ⟨a, q⟩ | ⟨⟨i, g, g1, g2, g3, g4⟩, q⟩
      · exact ⟨a, (Lv_blk hb).mpr (Or.inl q)⟩
      · obtain ⟨r1, r2⟩ := hs g v g3 hv g4
        exact ⟨r1, (Lv_blk hb).mpr (Or.inr ⟨fun s => q ⟨r1, s⟩, Lv_g hb g1 g2 g3 r2⟩)⟩
    · rw [hO c v hc e hv] at h
      exact hs c v hc hv h
  · by_cases e : c = b
    · rw [e]
      rw [e] at h
      have h' := Lt_mo p b h
      refine (hV v (by omega)).mpr ?_
      rcases h' with q | ⟨q1, q2⟩
      · exact Or.inl ⟨hv, q⟩
      · exact Or.inr ⟨goX_mo (fun g hg hl => h1 g hg hl) q2, fun s => q1 s.2⟩
    · rw [hO c v hc e (by omega)]
      exact h1 c hc h
  · by_cases e : c = b
    · rw [e]
      rw [e] at h
      refine (hV v (by omega)).mpr ?_
      rcases h with q | ⟨q1, q2⟩
      · exact Or.inl ⟨hv, q⟩
      · exact Or.inr ⟨goX_mo (fun g hg hl => h1 g hg hl) q2, fun s => q1 s.2⟩
    · rw [hO c v hc e (by omega)]
      exact h2 c hc (by omega) h
  · obtain ⟨z1, z2, z3⟩ := i3 z
    obtain ⟨f1, f2⟩ := hF z1
    have same : ∀ c v, c < P.1 → v < 64 * W → gbit in1 (64 * (c * W) + v) = gbit inn (64 * (c * W) + v) := fun c v hc hv => by
      by_cases e : c = b
      · rw [e]; exact (f2 v hv).symm
      · exact hO c v hc e hv
    refine ⟨f1, fun c v hc hv => (z2 c v hc hv).trans (same c v hc hv), fun c v hc hv h => ?_⟩
    by_cases e : c = b
    · rw [e] at h ⊢
      rw [f2 v (by omega), hV v (by omega)]
      rcases h with q | ⟨q1, q2⟩
      · exact Or.inl ⟨hv, q⟩
      · exact Or.inr ⟨q2, fun s => q1 s.2⟩
    · rw [← same c v (by omega) (by omega)]
      refine z3 c v (by omega) hv ?_
      rcases h with q | ⟨q1, q2⟩
      · exact Or.inl q
      · exact Or.inr ⟨q1, goX_mo (fun g hg hl => by rw [same g v hg (by omega)]; exact hl) q2⟩
theorem go_gin {c1 c2 : Int} {v : Nat} (h1 : c1 = P.2.2.2 b 0) (h2 : c2 = P.2.2.2 b 1) : (gin P.1 W inn c1 v || gin P.1 W inn c2 v) = true ↔ goX P (fun g => gbit inn (64 * (g * W) + v) = true) b := by
  unfold gin
  rw [Bool.or_eq_true, Bool.and_eq_true, Bool.and_eq_true, decide_eq_true_iff, decide_eq_true_iff]
  constructor
  · rintro (⟨⟨a, d⟩, e⟩ | ⟨⟨a, d⟩, e⟩)
    · exact ⟨0, c1.toNat, by decide, by rw [← h1]; omega, by omega, e⟩
    · exact ⟨1, c2.toNat, by decide, by rw [← h2]; omega, by omega, e⟩
  · rintro ⟨i, g, hi, hg, hp, e⟩
    have hi2 : i = 0 ∨ i = 1 := by omega
    rcases hi2 with z | z
    · rw [z, ← h1] at hg
      rw [hg]
      exact Or.inl ⟨⟨by omega, by omega⟩, e⟩
    · rw [z, ← h2] at hg
      rw [hg]
      exact Or.inr ⟨⟨by omega, by omega⟩, e⟩
/-- what is found in the end -/
theorem lv_end1 (hW : Nm ≤ 64 * W) (hs : lvSc P sl W Nm inn) (hc : ∀ c v, c < P.1 → v < Nm → lvC P sl W v inn c → gbit inn (64 * (c * W) + v) = true) : ∀ c v, c < P.1 → v < 64 * W → (gbit inn (64 * (c * W) + v) = true ↔ v < Nm ∧ Lv P sl v c 0) := fun c v hb hv =>
  ⟨hs c v hb hv, fun ⟨h1, h2⟩ => Lv_le (X := fun c => gbit inn (64 * (c * W) + v) = true) (fun c hcb h => hc c v hcb h1 h) h2 hb⟩
theorem Lt_le {v : Nat} : ∀ {p k : Nat} {c : Nat}, Lt P sl v p c → Lt P sl v (p + k) c
  | p, 0, _, h => h
  | p, k + 1, c, h => Lt_mo (p + k) c (Lt_le (k := k) h)
theorem lv_end2 {p : Nat} (hW : Nm ≤ 64 * W) (hp : P.1 ≤ p) (hs : lvSc P sl W Nm inn) (hc : ∀ v c, v < Nm → c < P.1 → Lt P sl v p c → gbit inn (64 * (c * W) + v) = true) : ∀ c v, c < P.1 → v < 64 * W → (gbit inn (64 * (c * W) + v) = true ↔ v < Nm ∧ Lv P sl v c 0) := fun c v hb hv =>
  ⟨hs c v hb hv, fun ⟨h1, h2⟩ => Lv_n (X := fun c => gbit inn (64 * (c * W) + v) = true) (fun c hcb h => hc v c h1 hcb (by have q := Lt_le (k := p - P.1) h; rw [show P.1 + (p - P.1) = p by omega] at q; exact q)) h2 hb⟩
end LVW
end
section
section LIW
variable {P : gPg} {sl : Bool} {W Nm b m nb : Nat}
theorem eb_tl {Live_words : Int32} {c1 : Int32} {c2 : Int32} {Code_blocks : Int32} {Live_in : Nat → Int64} {s1 : Int32} {s2 : Nat → Int64} {k : Nat} {e1 : Nat → Int64} (hW : Live_words.toInt = (W : Int)) (hn : Code_blocks.toInt = (nb : Int)) (h : tl_Live_enterBehind_18 Live_words c1 c2 Code_blocks Live_in s1 s2 k e1) : 0 ≤ s1.toInt → ∀ v, v < 64 * W → (((v / 64 : Nat) : Int) < s1.toInt → gbit e1 v = gbit s2 v) ∧ (s1.toInt ≤ ((v / 64 : Nat) : Int) → gbit e1 v = (gin nb W Live_in c1.toInt v || gin nb W Live_in c2.toInt v)) := by
  refine h (fun s1 s2 _ e1 => 0 ≤ s1.toInt → ∀ v, v < 64 * W → (((v / 64 : Nat) : Int) < s1.toInt → gbit e1 v = gbit s2 v) ∧ (s1.toInt ≤ ((v / 64 : Nat) : Int) → gbit e1 v = (gin nb W Live_in c1.toInt v || gin nb W Live_in c2.toInt v))) ?_ ?_ ?_ ?_ ?_ ?_ ?_ ?_ ?_ ?_
  · intro l5_1 Live_now_1 h1 h2
    exact fun h0 v hv => ⟨fun _ => rfl, fun z => by omega⟩
  · intro l5_1 Live_now_1 x1 x2 k e1 h1 h2 h3 h4 h5 h6 ih
    intro h0
    refine eb_s (g := fun v => gin nb W Live_in c1.toInt v || gin nb W Live_in c2.toInt v) h0 h6 h5 (fun v hv => ?_) (ih (by omega))
    have el : l5_1.toInt = ((l5_1.toInt.toNat : Nat) : Int) := (Int.toNat_of_nonneg h0).symm
    have gc1 := gin_o (nb := nb) (W := W) (inn := Live_in) (c := c1.toInt) (by omega) v
    have gc2 := gin_o (nb := nb) (W := W) (inn := Live_in) (c := c2.toInt) (by omega) v
    show _ = (gin nb W Live_in c1.toInt v || gin nb W Live_in c2.toInt v)
    rw [gc1, gc2]
    simp
  · intro l5_1 Live_now_1 x1 x2 k e1 h1 h2 h3 h4 h5 h6 h7 ih
    intro h0
    refine eb_s (g := fun v => gin nb W Live_in c1.toInt v || gin nb W Live_in c2.toInt v) h0 h7 h6 (fun v hv => ?_) (ih (by omega))
    have el : l5_1.toInt = ((l5_1.toInt.toNat : Nat) : Int) := (Int.toNat_of_nonneg h0).symm
    have gc1 := gin_o (nb := nb) (W := W) (inn := Live_in) (c := c1.toInt) (by omega) v
    have gc2 := gin_o (nb := nb) (W := W) (inn := Live_in) (c := c2.toInt) (by omega) v
    show _ = (gin nb W Live_in c1.toInt v || gin nb W Live_in c2.toInt v)
    rw [gc1, gc2]
    simp
  · intro l5_1 Live_now_1 x1 x2 x3 x4 x5 x6 k e1 h1 h2 h3 h4 h5 h6 h7 h8 h9 h10 h11 ih
    intro h0
    refine eb_s (g := fun v => gin nb W Live_in c1.toInt v || gin nb W Live_in c2.toInt v) h0 h11 h10 (fun v hv => ?_) (ih (by omega))
    have el : l5_1.toInt = ((l5_1.toInt.toNat : Nat) : Int) := (Int.toNat_of_nonneg h0).symm
    have gc1 := gin_o (nb := nb) (W := W) (inn := Live_in) (c := c1.toInt) (by omega) v
    have gc2 := gin_w (nb := nb) (inn := Live_in) h8 h7 h6 h4 (by omega) hW el v hv
    show _ = (gin nb W Live_in c1.toInt v || gin nb W Live_in c2.toInt v)
    rw [gc1, gc2]
    rw [bit_or h9]
    simp
  · intro l5_1 Live_now_1 x1 x2 k e1 h1 h2 h3 h4 h5 h6 h7 ih
    intro h0
    refine eb_s (g := fun v => gin nb W Live_in c1.toInt v || gin nb W Live_in c2.toInt v) h0 h7 h6 (fun v hv => ?_) (ih (by omega))
    have el : l5_1.toInt = ((l5_1.toInt.toNat : Nat) : Int) := (Int.toNat_of_nonneg h0).symm
    have gc1 := gin_o (nb := nb) (W := W) (inn := Live_in) (c := c1.toInt) (by omega) v
    have gc2 := gin_o (nb := nb) (W := W) (inn := Live_in) (c := c2.toInt) (by omega) v
    show _ = (gin nb W Live_in c1.toInt v || gin nb W Live_in c2.toInt v)
    rw [gc1, gc2]
    simp
  · intro l5_1 Live_now_1 x1 x2 k e1 h1 h2 h3 h4 h5 h6 h7 h8 ih
    intro h0
    refine eb_s (g := fun v => gin nb W Live_in c1.toInt v || gin nb W Live_in c2.toInt v) h0 h8 h7 (fun v hv => ?_) (ih (by omega))
    have el : l5_1.toInt = ((l5_1.toInt.toNat : Nat) : Int) := (Int.toNat_of_nonneg h0).symm
    have gc1 := gin_o (nb := nb) (W := W) (inn := Live_in) (c := c1.toInt) (by omega) v
    have gc2 := gin_o (nb := nb) (W := W) (inn := Live_in) (c := c2.toInt) (by omega) v
    show _ = (gin nb W Live_in c1.toInt v || gin nb W Live_in c2.toInt v)
    rw [gc1, gc2]
    simp
  · intro l5_1 Live_now_1 x1 x2 x3 x4 x5 x6 k e1 h1 h2 h3 h4 h5 h6 h7 h8 h9 h10 h11 h12 ih
    intro h0
    refine eb_s (g := fun v => gin nb W Live_in c1.toInt v || gin nb W Live_in c2.toInt v) h0 h12 h11 (fun v hv => ?_) (ih (by omega))
    have el : l5_1.toInt = ((l5_1.toInt.toNat : Nat) : Int) := (Int.toNat_of_nonneg h0).symm
    have gc1 := gin_o (nb := nb) (W := W) (inn := Live_in) (c := c1.toInt) (by omega) v
    have gc2 := gin_w (nb := nb) (inn := Live_in) h9 h8 h7 h5 (by omega) hW el v hv
    show _ = (gin nb W Live_in c1.toInt v || gin nb W Live_in c2.toInt v)
    rw [gc1, gc2]
    rw [bit_or h10]
    simp
  · intro l5_1 Live_now_1 x1 x2 x3 x4 x5 k e1 h1 h2 h3 h4 h5 h6 h7 h8 h9 h10 ih
    intro h0
    refine eb_s (g := fun v => gin nb W Live_in c1.toInt v || gin nb W Live_in c2.toInt v) h0 h10 h9 (fun v hv => ?_) (ih (by omega))
    have el : l5_1.toInt = ((l5_1.toInt.toNat : Nat) : Int) := (Int.toNat_of_nonneg h0).symm
    have gc1 := gin_w (nb := nb) (inn := Live_in) h7 h6 h5 h3 (by omega) hW el v hv
    have gc2 := gin_o (nb := nb) (W := W) (inn := Live_in) (c := c2.toInt) (by omega) v
    show _ = (gin nb W Live_in c1.toInt v || gin nb W Live_in c2.toInt v)
    rw [gc1, gc2]
    rw [Bool.or_false]
  · intro l5_1 Live_now_1 x1 x2 x3 x4 x5 k e1 h1 h2 h3 h4 h5 h6 h7 h8 h9 h10 h11 ih
    intro h0
    refine eb_s (g := fun v => gin nb W Live_in c1.toInt v || gin nb W Live_in c2.toInt v) h0 h11 h10 (fun v hv => ?_) (ih (by omega))
    have el : l5_1.toInt = ((l5_1.toInt.toNat : Nat) : Int) := (Int.toNat_of_nonneg h0).symm
    have gc1 := gin_w (nb := nb) (inn := Live_in) h7 h6 h5 h3 (by omega) hW el v hv
    have gc2 := gin_o (nb := nb) (W := W) (inn := Live_in) (c := c2.toInt) (by omega) v
    show _ = (gin nb W Live_in c1.toInt v || gin nb W Live_in c2.toInt v)
    rw [gc1, gc2]
    rw [Bool.or_false]
  · intro l5_1 Live_now_1 x1 x2 x3 x4 x5 x6 x7 x8 x9 k e1 h1 h2 h3 h4 h5 h6 h7 h8 h9 h10 h11 h12 h13 h14 h15 ih
    intro h0
    refine eb_s (g := fun v => gin nb W Live_in c1.toInt v || gin nb W Live_in c2.toInt v) h0 h15 h14 (fun v hv => ?_) (ih (by omega))
    have el : l5_1.toInt = ((l5_1.toInt.toNat : Nat) : Int) := (Int.toNat_of_nonneg h0).symm
    have gc1 := gin_w (nb := nb) (inn := Live_in) h7 h6 h5 h3 (by omega) hW el v hv
    have gc2 := gin_w (nb := nb) (inn := Live_in) h12 h11 h10 h8 (by omega) hW el v hv
    show _ = (gin nb W Live_in c1.toInt v || gin nb W Live_in c2.toInt v)
    rw [gc1, gc2]
    rw [bit_or h13]
theorem eb_tr {a2 : Int32} {Live_words : Int32} {Code_blocks : Int32} {Live_in : Nat → Int64} {Live_now : Nat → Int64} {Code_firstGoal : Nat → Int32} {Code_secondGoal : Nat → Int32} {o1 : Nat → Int64} (hW : Live_words.toInt = (W : Int)) (hn : Code_blocks.toInt = (P.1 : Int)) (ha : a2.toInt = (b : Int)) (hg : (Code_firstGoal b).toInt = P.2.2.2 b 0 ∧ (Code_secondGoal b).toInt = P.2.2.2 b 1) (h : tr_Live_enterBehind a2 Live_words Code_blocks Live_in Live_now Code_firstGoal Code_secondGoal o1) : ∀ v, v < 64 * W → (gbit o1 v = true ↔ goX P (fun g => gbit Live_in (64 * (g * W) + v) = true) b) := by
  refine h (fun o1 => ∀ v, v < 64 * W → (gbit o1 v = true ↔ goX P (fun g => gbit Live_in (64 * (g * W) + v) = true) b)) ?_
  · intro x1 x2 x3 h1 h2 h3
    intro v hv
    rw [nnE ha] at h1 h2
    have q := (eb_tl hW hn h3 (by decide) v hv).2 (by rw [px_0]; omega)
    rw [q]
    exact go_gin (by rw [h1]; exact hg.1) (by rw [h2]; exact hg.2)
theorem sw_tl {Live_words : Int32} {l3_1 : Int32} {Live_used : Nat → Int64} {c1 : Nat → Int64} {Live_set : Nat → Int64} {s1 : Int32} {s2 : Int32} {s3 : Nat → Int64} {k : Nat} {e1 : Int32} {e2 : Nat → Int64} (hW : Live_words.toInt = (W : Int)) (hb : l3_1.toInt = (b : Int)) (h : tl_Live_sweep_22 Live_words l3_1 Live_used c1 Live_set s1 s2 s3 k e1 e2) : ∀ m : Nat, s1.toInt = (m : Int) → swQ W b Live_used Live_set c1 m s2 s3 e1 e2 := by
  refine h (fun s1 s2 s3 _ e1 e2 => ∀ m : Nat, s1.toInt = (m : Int) → swQ W b Live_used Live_set c1 m s2 s3 e1 e2) ?_ ?_ ?_ ?_
  · intro l4_2 l2_2 Live_in_2 h1 h2 h3
    exact fun m hm => swQ_0 (by omega)
  · intro l4_2 l2_2 Live_in_2 x1 x2 x3 x4 x5 x6 x7 x8 x9 x10 k e1 e2 h1 h2 h3 h4 h5 h6 h7 h8 h9 h10 h11 h12 h13 h14 ih
    intro m hm
    have ep : x1.toInt = ((b * W : Nat) : Int) := by rw [h4, hb, hW]; exact (Int.natCast_mul b W).symm
    have ei : x2.toNatClampNeg = b * W + m := nnE (by omega)
    have em : l4_2.toNatClampNeg = m := nnE hm
    rw [ei] at h13 h6 h8
    rw [em] at h7
    refine swQ_s (by omega) h13 (fun v hv => ?_) ?_ (ih (m + 1) (by omega))
    · unfold swV gbit
      have e3 : (64 * (b * W) + v) / 64 = b * W + m := by omega
      have e4 : (64 * (b * W) + v) % 64 = v % 64 := by omega
      rw [e3, e4, hv, bit_or h11, bit_and h10, bit_not h9 _ (Nat.mod_lt _ (by decide)), h6, h7, h8]
    · exact fun z => absurd z (by decide)
  · intro l4_2 l2_2 Live_in_2 x1 x2 x3 x4 x5 x6 x7 x8 x9 x10 x11 k e1 e2 h1 h2 h3 h4 h5 h6 h7 h8 h9 h10 h11 h12 h13 h14 h15 h16 ih
    intro m hm
    have ep : x1.toInt = ((b * W : Nat) : Int) := by rw [h4, hb, hW]; exact (Int.natCast_mul b W).symm
    have ei : x2.toNatClampNeg = b * W + m := nnE (by omega)
    have em : l4_2.toNatClampNeg = m := nnE hm
    rw [ei] at h15 h6 h8 h13
    rw [em] at h7
    refine swQ_s (by omega) h15 (fun v hv => ?_) ?_ (ih (m + 1) (by omega))
    · unfold swV gbit
      have e3 : (64 * (b * W) + v) / 64 = b * W + m := by omega
      have e4 : (64 * (b * W) + v) % 64 = v % 64 := by omega
      rw [e3, e4, hv, bit_or h11, bit_and h10, bit_not h9 _ (Nat.mod_lt _ (by decide)), h6, h7, h8]
    · exact fun _ => ⟨h12, h14.trans h13⟩
  · intro l4_2 l2_2 Live_in_2 x1 x2 x3 x4 x5 x6 x7 x8 x9 x10 x11 k e1 e2 h1 h2 h3 h4 h5 h6 h7 h8 h9 h10 h11 h12 h13 h14 h15 h16 ih
    intro m hm
    have ep : x1.toInt = ((b * W : Nat) : Int) := by rw [h4, hb, hW]; exact (Int.natCast_mul b W).symm
    have ei : x2.toNatClampNeg = b * W + m := nnE (by omega)
    have em : l4_2.toNatClampNeg = m := nnE hm
    rw [ei] at h15 h6 h8 h13
    rw [em] at h7
    refine swQ_s (by omega) h15 (fun v hv => ?_) ?_ (ih (m + 1) (by omega))
    · unfold swV gbit
      have e3 : (64 * (b * W) + v) / 64 = b * W + m := by omega
      have e4 : (64 * (b * W) + v) % 64 = v % 64 := by omega
      rw [e3, e4, hv, bit_or h11, bit_and h10, bit_not h9 _ (Nat.mod_lt _ (by decide)), h6, h7, h8]
    · exact fun z => absurd z (by decide)
theorem sn_tl {Live_words : Int32} {Code_blocks : Int32} {Code_firstGoal : Nat → Int32} {Code_secondGoal : Nat → Int32} {Live_used : Nat → Int64} {Live_set : Nat → Int64} {s1 : Int32} {s2 : Nat → Int64} {s3 : Int32} {s4 : Nat → Int64} {k : Nat} {e1 : Int32} {e2 : Nat → Int64} {e3 : Nat → Int64} (hW2 : Nm ≤ 64 * W) (hW : Live_words.toInt = (W : Int)) (hn : Code_blocks.toInt = (P.1 : Int)) (hg : (∀ b : Nat, b < P.1 → (Code_firstGoal b).toInt = P.2.2.2 b 0 ∧ (Code_secondGoal b).toInt = P.2.2.2 b 1)) (hu : (∀ c v, c < P.1 → v < 64 * W → (gbit Live_used (64 * (c * W) + v) = true ↔ v < Nm ∧ usd P sl v c) ∧ (gbit Live_set (64 * (c * W) + v) = true ↔ v < Nm ∧ std P sl v c))) (h : tl_Live_sweep_9 Live_words Code_blocks Code_firstGoal Code_secondGoal Live_used Live_set s1 s2 s3 s4 k e1 e2 e3) : ∀ b : Nat, b ≤ P.1 → s1.toInt = (b : Int) - 1 → swp P sl W Nm b s3 s4 e1 e2 := by
  refine h (fun s1 s2 s3 s4 _ e1 e2 e3 => ∀ b : Nat, b ≤ P.1 → s1.toInt = (b : Int) - 1 → swp P sl W Nm b s3 s4 e1 e2) ?_ ?_
  · intro l3_1 Live_now_1 l2_1 Live_in_1 h1 h2 h3
    intro b hb hl
    have e : b = 0 := by omega
    rw [e]; exact swp_0
  · intro l3_1 Live_now_1 l2_1 Live_in_1 x1 x2 x3 x4 k e1 e2 e3 h1 h2 h3 h4 h5 h6 ih
    intro b hb hl
    obtain ⟨a, ea⟩ : ∃ a, b = a + 1 := ⟨b - 1, by omega⟩
    rw [ea] at hl ⊢
    have eb := eb_tr (b := a) hW hn (by omega) (hg a (by omega)) h4
    obtain ⟨q1, q2, q3⟩ := sw_tl (b := a) hW (by omega) h5 0 (by decide)
    refine swp_s hW2 (by omega) (fun c v hc hne hv => ?_) (fun v hv => ?_) (fun z => ?_) (ih a (by omega) (by omega))
    · exact q1 _ (fun w hw _ e => hne (reg_u e hv hw).1)
    · rw [q2 v hv (Nat.zero_le _)]
      unfold swV
      rw [Bool.or_eq_true, Bool.and_eq_true, Bool.not_eq_true', (hu a v (by omega) hv).1, eb v hv, ← Bool.not_eq_true, (hu a v (by omega) hv).2]
    · obtain ⟨z1, z2⟩ := q3 z
      exact ⟨z1, fun v hv => by rw [z2 v hv (Nat.zero_le _), q2 v hv (Nat.zero_le _)]⟩
theorem sn_tr {Live_words : Int32} {Code_blocks : Int32} {Live_in : Nat → Int64} {Live_used : Nat → Int64} {Live_set : Nat → Int64} {Live_now : Nat → Int64} {Code_firstGoal : Nat → Int32} {Code_secondGoal : Nat → Int32} {o1 : Int32} {o2 : Nat → Int64} {o3 : Nat → Int64} (hW2 : Nm ≤ 64 * W) (hW : Live_words.toInt = (W : Int)) (hn : Code_blocks.toInt = (P.1 : Int)) (hg : (∀ b : Nat, b < P.1 → (Code_firstGoal b).toInt = P.2.2.2 b 0 ∧ (Code_secondGoal b).toInt = P.2.2.2 b 1)) (hu : (∀ c v, c < P.1 → v < 64 * W → (gbit Live_used (64 * (c * W) + v) = true ↔ v < Nm ∧ usd P sl v c) ∧ (gbit Live_set (64 * (c * W) + v) = true ↔ v < Nm ∧ std P sl v c))) (h : tr_Live_sweep Live_words Code_blocks Live_in Live_used Live_set Live_now Code_firstGoal Code_secondGoal o1 o2 o3) : swp P sl W Nm P.1 0 Live_in o1 o2 := by
  refine h (fun o1 o2 _ => swp P sl W Nm P.1 0 Live_in o1 o2) ?_
  · intro x1 x2 x3 x4 h1 h2
    exact sn_tl hW2 hW hn hg hu h2 P.1 (Nat.le_refl _) (by omega)
theorem so_tl {Code_blocks : Int32} {c1 : Int32} {Live_used_1 : Nat → Int64} {Live_set_1 : Nat → Int64} {Code_firstGoal : Nat → Int32} {Code_secondGoal : Nat → Int32} {s1 : Int32} {s2 : Int32} {s3 : Nat → Int64} {s4 : Nat → Int64} {k : Nat} {e1 : Nat → Int64} {e2 : Nat → Int64} (hW2 : Nm ≤ 64 * W) (hW : c1.toInt = (W : Int)) (hn : Code_blocks.toInt = (P.1 : Int)) (hg : (∀ b : Nat, b < P.1 → (Code_firstGoal b).toInt = P.2.2.2 b 0 ∧ (Code_secondGoal b).toInt = P.2.2.2 b 1)) (hu : (∀ c v, c < P.1 → v < 64 * W → (gbit Live_used_1 (64 * (c * W) + v) = true ↔ v < Nm ∧ usd P sl v c) ∧ (gbit Live_set_1 (64 * (c * W) + v) = true ↔ v < Nm ∧ std P sl v c))) (h : tl_Live_solve_112 Code_blocks c1 Live_used_1 Live_set_1 Code_firstGoal Code_secondGoal s1 s2 s3 s4 k e1 e2) : ∀ p : Nat, s1.toInt = (p : Int) → lvSc P sl W Nm s3 → (∀ v c, v < Nm → c < P.1 → Lt P sl v p c → gbit s3 (64 * (c * W) + v) = true) → (s2.toInt = 0 → ∀ c v, c < P.1 → v < Nm → lvC P sl W v s3 c → gbit s3 (64 * (c * W) + v) = true) → ∀ c v, c < P.1 → v < 64 * W → (gbit e1 (64 * (c * W) + v) = true ↔ v < Nm ∧ Lv P sl v c 0) := by
  refine h (fun s1 s2 s3 s4 _ e1 e2 => ∀ p : Nat, s1.toInt = (p : Int) → lvSc P sl W Nm s3 → (∀ v c, v < Nm → c < P.1 → Lt P sl v p c → gbit s3 (64 * (c * W) + v) = true) → (s2.toInt = 0 → ∀ c v, c < P.1 → v < Nm → lvC P sl W v s3 c → gbit s3 (64 * (c * W) + v) = true) → ∀ c v, c < P.1 → v < 64 * W → (gbit e1 (64 * (c * W) + v) = true ↔ v < Nm ∧ Lv P sl v c 0)) ?_ ?_ ?_
  · intro l5_1 l4_1 Live_in_1 Live_now_1 h1 h2 h3
    exact fun p hp hs hc hz => lv_end2 hW2 (by omega) hs hc
  · intro l5_1 l4_1 Live_in_1 Live_now_1 h1 h2 h3 h4
    exact fun p hp hs hc hz => lv_end1 hW2 hs (hz h4)
  · intro l5_1 l4_1 Live_in_1 Live_now_1 x1 x2 x3 x4 k e1 e2 h1 h2 h3 h4 h5 h6 h7 ih
    intro p hp hs hc hz
    obtain ⟨q1, q2, q3⟩ := sn_tr hW2 hW hn hg hu h6
    refine ih (p + 1) (by omega) (q1 hs) (fun v c hv hc' h' => q2 p v hv (fun c hc2 h2 => hc v c hv hc2 h2) (fun c hc2 hb2 => by omega) c hc' h') (fun z => ?_)
    obtain ⟨-, z2, z3⟩ := q3 z
    intro c v hc' hv h'
    rw [z2 c v hc' (by omega)]
    refine z3 c v hc' hv ?_
    rcases h' with h' | ⟨h1', h2'⟩
    · exact Or.inl h'
    · exact Or.inr ⟨h1', goX_mo (fun g hg' hl => by rw [← z2 g v hg' (by omega)]; exact hl) h2'⟩
theorem so_tr {a2 : Int32} {a3 : Int32} {Code_blocks : Int32} {Code_lines : Int32} {Live_in : Nat → Int64} {Live_used : Nat → Int64} {Live_set : Nat → Int64} {Live_now : Nat → Int64} {Code_first : Nat → Int32} {Code_firstGoal : Nat → Int32} {Code_secondGoal : Nat → Int32} {Code_op : Nat → Int32} {Code_set : Nat → Int32} {Code_left : Nat → Int32} {Code_right : Nat → Int32} {Code_rightNumber : Nat → Int32} {o1 : Int32} {o2 : Int32} {o3 : Int32} {o4 : Nat → Int64} {o5 : Nat → Int64} {o6 : Nat → Int64} {o7 : Nat → Int64} {cln : Nat → Int32} (hc : cdP Code_blocks Code_lines Code_first Code_firstGoal Code_secondGoal Code_op Code_set Code_left cln Code_right Code_rightNumber P) (hN : a2.toInt = (Nm : Int)) (hN2 : Nm ≤ 720) (hsl : sl = decide (a3.toInt ≠ 0)) (h : tr_Live_solve a2 a3 Code_blocks Code_lines Live_in Live_used Live_set Live_now Code_first Code_firstGoal Code_secondGoal Code_op Code_set Code_left Code_right Code_rightNumber o1 o2 o3 o4 o5 o6 o7) : (o1.toInt = (Nm : Int) ∧ o2.toInt = (((Nm + 63) / 64 : Nat) : Int) ∧ o3 = a3 ∧ (∀ c v, c < P.1 → v < 64 * ((Nm + 63) / 64) → (gbit o4 (64 * (c * ((Nm + 63) / 64)) + v) = true ↔ v < Nm ∧ Lv P sl v c 0)) ∧ ∀ c v, c < P.1 → v < 64 * ((Nm + 63) / 64) → (gbit o5 (64 * (c * ((Nm + 63) / 64)) + v) = true ↔ v < Nm ∧ usd P sl v c) ∧ (gbit o6 (64 * (c * ((Nm + 63) / 64)) + v) = true ↔ v < Nm ∧ std P sl v c)) := by
  refine h (fun o1 o2 o3 o4 o5 o6 o7 => (o1.toInt = (Nm : Int) ∧ o2.toInt = (((Nm + 63) / 64 : Nat) : Int) ∧ o3 = a3 ∧ (∀ c v, c < P.1 → v < 64 * ((Nm + 63) / 64) → (gbit o4 (64 * (c * ((Nm + 63) / 64)) + v) = true ↔ v < Nm ∧ Lv P sl v c 0)) ∧ ∀ c v, c < P.1 → v < 64 * ((Nm + 63) / 64) → (gbit o5 (64 * (c * ((Nm + 63) / 64)) + v) = true ↔ v < Nm ∧ usd P sl v c) ∧ (gbit o6 (64 * (c * ((Nm + 63) / 64)) + v) = true ↔ v < Nm ∧ std P sl v c))) ?_
  · intro x1 x2 x3 x4 x5 x6 x7 x8 x9 x10 x11 h1 h2 h3 h4 h5 h6 h7
    have e2 : x2.toInt = (Nm : Int) := by omega
    have e4 : x4.toInt = (((Nm + 63) / 64 : Nat) : Int) := by omega
    have hW2 : Nm ≤ 64 * ((Nm + 63) / 64) := by omega
    have z := sz_tl (M := P.1 * ((Nm + 63) / 64)) (by rw [hc.1, e4]; exact (Int.natCast_mul _ _).symm) h5 (by decide)
    have zr : ∀ (f : Nat → Int64), (∀ i, i < P.1 * ((Nm + 63) / 64) → f i = 0) → zrB P ((Nm + 63) / 64) 0 f := fun f hf c v hc' _ hv => by
      refine gbit_0 (hf _ ?_)
      have h2 : (c + 1) * ((Nm + 63) / 64) ≤ P.1 * ((Nm + 63) / 64) := Nat.mul_le_mul_right _ hc'
      rw [Nat.add_mul, Nat.one_mul] at h2
      omega
    have n0 : ∀ i : Nat, ¬ (i : Int) < (0 : Int32).toInt := fun i => by rw [px_0]; omega
    have z1 : ∀ i, i < P.1 * ((Nm + 63) / 64) → x5 i = 0 := fun i hi => (z i hi (fun q => absurd q (n0 i))).1
    have z2 : ∀ i, i < P.1 * ((Nm + 63) / 64) → x6 i = 0 := fun i hi => (z i hi (fun q => absurd q (n0 i))).2.1
    have z3 : ∀ i, i < P.1 * ((Nm + 63) / 64) → x7 i = 0 := fun i hi => (z i hi (fun q => absurd q (n0 i))).2.2
    have g := sg_tl hc hW2 e2 e4 hsl h6 0 (by decide) (zr _ z2) (zr _ z3)
    have g' := fun c v hc' hv => (g c v hc' hv).2 (Nat.zero_le _)
    have zi := zr _ z1
    refine ⟨e2, e4, rfl, ?_, g'⟩
    refine so_tl hW2 e4 hc.1 (fun b hb => (hc.2.2.1 b hb).2) g' h7 0 (by decide) (fun c v hc' hv h' => ?_) (fun v c _ _ h' => absurd h' id) (fun q => absurd q (by decide))
    rw [zi c v hc' (Nat.zero_le _) hv] at h'
    cases h'
theorem eb_tl2 {Live_words : Int32} {c1 : Int32} {c2 : Int32} {Code_blocks : Int32} {Live_in : Nat → Int64} {s1 : Int32} {s2 : Nat → Int64} {k : Nat} {e1 : Nat → Int64} (hW : Live_words.toInt = (W : Int)) (hn : Code_blocks.toInt = (nb : Int)) (h : tl_Live_enterBehind2_18 Live_words c1 c2 Code_blocks Live_in s1 s2 k e1) : 0 ≤ s1.toInt → ∀ v, v < 64 * W → (((v / 64 : Nat) : Int) < s1.toInt → gbit e1 v = gbit s2 v) ∧ (s1.toInt ≤ ((v / 64 : Nat) : Int) → gbit e1 v = (gin nb W Live_in c1.toInt v || gin nb W Live_in c2.toInt v)) := by
  refine h (fun s1 s2 _ e1 => 0 ≤ s1.toInt → ∀ v, v < 64 * W → (((v / 64 : Nat) : Int) < s1.toInt → gbit e1 v = gbit s2 v) ∧ (s1.toInt ≤ ((v / 64 : Nat) : Int) → gbit e1 v = (gin nb W Live_in c1.toInt v || gin nb W Live_in c2.toInt v))) ?_ ?_ ?_ ?_ ?_ ?_ ?_ ?_ ?_ ?_
  · intro l5_1 Live_now_1 h1 h2
    exact fun h0 v hv => ⟨fun _ => rfl, fun z => by omega⟩
  · intro l5_1 Live_now_1 x1 x2 k e1 h1 h2 h3 h4 h5 h6 ih
    intro h0
    refine eb_s (g := fun v => gin nb W Live_in c1.toInt v || gin nb W Live_in c2.toInt v) h0 h6 h5 (fun v hv => ?_) (ih (by omega))
    have el : l5_1.toInt = ((l5_1.toInt.toNat : Nat) : Int) := (Int.toNat_of_nonneg h0).symm
    have gc1 := gin_o (nb := nb) (W := W) (inn := Live_in) (c := c1.toInt) (by omega) v
    have gc2 := gin_o (nb := nb) (W := W) (inn := Live_in) (c := c2.toInt) (by omega) v
    show _ = (gin nb W Live_in c1.toInt v || gin nb W Live_in c2.toInt v)
    rw [gc1, gc2]
    simp
  · intro l5_1 Live_now_1 x1 x2 k e1 h1 h2 h3 h4 h5 h6 h7 ih
    intro h0
    refine eb_s (g := fun v => gin nb W Live_in c1.toInt v || gin nb W Live_in c2.toInt v) h0 h7 h6 (fun v hv => ?_) (ih (by omega))
    have el : l5_1.toInt = ((l5_1.toInt.toNat : Nat) : Int) := (Int.toNat_of_nonneg h0).symm
    have gc1 := gin_o (nb := nb) (W := W) (inn := Live_in) (c := c1.toInt) (by omega) v
    have gc2 := gin_o (nb := nb) (W := W) (inn := Live_in) (c := c2.toInt) (by omega) v
    show _ = (gin nb W Live_in c1.toInt v || gin nb W Live_in c2.toInt v)
    rw [gc1, gc2]
    simp
  · intro l5_1 Live_now_1 x1 x2 x3 x4 x5 x6 k e1 h1 h2 h3 h4 h5 h6 h7 h8 h9 h10 h11 ih
    intro h0
    refine eb_s (g := fun v => gin nb W Live_in c1.toInt v || gin nb W Live_in c2.toInt v) h0 h11 h10 (fun v hv => ?_) (ih (by omega))
    have el : l5_1.toInt = ((l5_1.toInt.toNat : Nat) : Int) := (Int.toNat_of_nonneg h0).symm
    have gc1 := gin_o (nb := nb) (W := W) (inn := Live_in) (c := c1.toInt) (by omega) v
    have gc2 := gin_w (nb := nb) (inn := Live_in) h8 h7 h6 h4 (by omega) hW el v hv
    show _ = (gin nb W Live_in c1.toInt v || gin nb W Live_in c2.toInt v)
    rw [gc1, gc2]
    rw [bit_or h9]
    simp
  · intro l5_1 Live_now_1 x1 x2 k e1 h1 h2 h3 h4 h5 h6 h7 ih
    intro h0
    refine eb_s (g := fun v => gin nb W Live_in c1.toInt v || gin nb W Live_in c2.toInt v) h0 h7 h6 (fun v hv => ?_) (ih (by omega))
    have el : l5_1.toInt = ((l5_1.toInt.toNat : Nat) : Int) := (Int.toNat_of_nonneg h0).symm
    have gc1 := gin_o (nb := nb) (W := W) (inn := Live_in) (c := c1.toInt) (by omega) v
    have gc2 := gin_o (nb := nb) (W := W) (inn := Live_in) (c := c2.toInt) (by omega) v
    show _ = (gin nb W Live_in c1.toInt v || gin nb W Live_in c2.toInt v)
    rw [gc1, gc2]
    simp
  · intro l5_1 Live_now_1 x1 x2 k e1 h1 h2 h3 h4 h5 h6 h7 h8 ih
    intro h0
    refine eb_s (g := fun v => gin nb W Live_in c1.toInt v || gin nb W Live_in c2.toInt v) h0 h8 h7 (fun v hv => ?_) (ih (by omega))
    have el : l5_1.toInt = ((l5_1.toInt.toNat : Nat) : Int) := (Int.toNat_of_nonneg h0).symm
    have gc1 := gin_o (nb := nb) (W := W) (inn := Live_in) (c := c1.toInt) (by omega) v
    have gc2 := gin_o (nb := nb) (W := W) (inn := Live_in) (c := c2.toInt) (by omega) v
    show _ = (gin nb W Live_in c1.toInt v || gin nb W Live_in c2.toInt v)
    rw [gc1, gc2]
    simp
  · intro l5_1 Live_now_1 x1 x2 x3 x4 x5 x6 k e1 h1 h2 h3 h4 h5 h6 h7 h8 h9 h10 h11 h12 ih
    intro h0
    refine eb_s (g := fun v => gin nb W Live_in c1.toInt v || gin nb W Live_in c2.toInt v) h0 h12 h11 (fun v hv => ?_) (ih (by omega))
    have el : l5_1.toInt = ((l5_1.toInt.toNat : Nat) : Int) := (Int.toNat_of_nonneg h0).symm
    have gc1 := gin_o (nb := nb) (W := W) (inn := Live_in) (c := c1.toInt) (by omega) v
    have gc2 := gin_w (nb := nb) (inn := Live_in) h9 h8 h7 h5 (by omega) hW el v hv
    show _ = (gin nb W Live_in c1.toInt v || gin nb W Live_in c2.toInt v)
    rw [gc1, gc2]
    rw [bit_or h10]
    simp
  · intro l5_1 Live_now_1 x1 x2 x3 x4 x5 k e1 h1 h2 h3 h4 h5 h6 h7 h8 h9 h10 ih
    intro h0
    refine eb_s (g := fun v => gin nb W Live_in c1.toInt v || gin nb W Live_in c2.toInt v) h0 h10 h9 (fun v hv => ?_) (ih (by omega))
    have el : l5_1.toInt = ((l5_1.toInt.toNat : Nat) : Int) := (Int.toNat_of_nonneg h0).symm
    have gc1 := gin_w (nb := nb) (inn := Live_in) h7 h6 h5 h3 (by omega) hW el v hv
    have gc2 := gin_o (nb := nb) (W := W) (inn := Live_in) (c := c2.toInt) (by omega) v
    show _ = (gin nb W Live_in c1.toInt v || gin nb W Live_in c2.toInt v)
    rw [gc1, gc2]
    rw [Bool.or_false]
  · intro l5_1 Live_now_1 x1 x2 x3 x4 x5 k e1 h1 h2 h3 h4 h5 h6 h7 h8 h9 h10 h11 ih
    intro h0
    refine eb_s (g := fun v => gin nb W Live_in c1.toInt v || gin nb W Live_in c2.toInt v) h0 h11 h10 (fun v hv => ?_) (ih (by omega))
    have el : l5_1.toInt = ((l5_1.toInt.toNat : Nat) : Int) := (Int.toNat_of_nonneg h0).symm
    have gc1 := gin_w (nb := nb) (inn := Live_in) h7 h6 h5 h3 (by omega) hW el v hv
    have gc2 := gin_o (nb := nb) (W := W) (inn := Live_in) (c := c2.toInt) (by omega) v
    show _ = (gin nb W Live_in c1.toInt v || gin nb W Live_in c2.toInt v)
    rw [gc1, gc2]
    rw [Bool.or_false]
  · intro l5_1 Live_now_1 x1 x2 x3 x4 x5 x6 x7 x8 x9 k e1 h1 h2 h3 h4 h5 h6 h7 h8 h9 h10 h11 h12 h13 h14 h15 ih
    intro h0
    refine eb_s (g := fun v => gin nb W Live_in c1.toInt v || gin nb W Live_in c2.toInt v) h0 h15 h14 (fun v hv => ?_) (ih (by omega))
    have el : l5_1.toInt = ((l5_1.toInt.toNat : Nat) : Int) := (Int.toNat_of_nonneg h0).symm
    have gc1 := gin_w (nb := nb) (inn := Live_in) h7 h6 h5 h3 (by omega) hW el v hv
    have gc2 := gin_w (nb := nb) (inn := Live_in) h12 h11 h10 h8 (by omega) hW el v hv
    show _ = (gin nb W Live_in c1.toInt v || gin nb W Live_in c2.toInt v)
    rw [gc1, gc2]
    rw [bit_or h13]
theorem eb_tr2 {a2 : Int32} {Live_words : Int32} {Code_blocks : Int32} {Live_in : Nat → Int64} {Live_now : Nat → Int64} {Code_firstGoal : Nat → Int32} {Code_secondGoal : Nat → Int32} {o1 : Nat → Int64} (hW : Live_words.toInt = (W : Int)) (hn : Code_blocks.toInt = (P.1 : Int)) (ha : a2.toInt = (b : Int)) (hg : (Code_firstGoal b).toInt = P.2.2.2 b 0 ∧ (Code_secondGoal b).toInt = P.2.2.2 b 1) (h : tr_Live_enterBehind2 a2 Live_words Code_blocks Live_in Live_now Code_firstGoal Code_secondGoal o1) : ∀ v, v < 64 * W → (gbit o1 v = true ↔ goX P (fun g => gbit Live_in (64 * (g * W) + v) = true) b) := by
  refine h (fun o1 => ∀ v, v < 64 * W → (gbit o1 v = true ↔ goX P (fun g => gbit Live_in (64 * (g * W) + v) = true) b)) ?_
  · intro x1 x2 x3 h1 h2 h3
    intro v hv
    rw [nnE ha] at h1 h2
    have q := (eb_tl2 hW hn h3 (by decide) v hv).2 (by rw [px_0]; omega)
    rw [q]
    exact go_gin (by rw [h1]; exact hg.1) (by rw [h2]; exact hg.2)
theorem sw_tl2 {Live_words : Int32} {l3_1 : Int32} {Live_used : Nat → Int64} {c1 : Nat → Int64} {Live_set : Nat → Int64} {s1 : Int32} {s2 : Int32} {s3 : Nat → Int64} {k : Nat} {e1 : Int32} {e2 : Nat → Int64} (hW : Live_words.toInt = (W : Int)) (hb : l3_1.toInt = (b : Int)) (h : tl_Live_sweep2_22 Live_words l3_1 Live_used c1 Live_set s1 s2 s3 k e1 e2) : ∀ m : Nat, s1.toInt = (m : Int) → swQ W b Live_used Live_set c1 m s2 s3 e1 e2 := by
  refine h (fun s1 s2 s3 _ e1 e2 => ∀ m : Nat, s1.toInt = (m : Int) → swQ W b Live_used Live_set c1 m s2 s3 e1 e2) ?_ ?_ ?_ ?_
  · intro l4_2 l2_2 Live_in_2 h1 h2 h3
    exact fun m hm => swQ_0 (by omega)
  · intro l4_2 l2_2 Live_in_2 x1 x2 x3 x4 x5 x6 x7 x8 x9 x10 k e1 e2 h1 h2 h3 h4 h5 h6 h7 h8 h9 h10 h11 h12 h13 h14 ih
    intro m hm
    have ep : x1.toInt = ((b * W : Nat) : Int) := by rw [h4, hb, hW]; exact (Int.natCast_mul b W).symm
    have ei : x2.toNatClampNeg = b * W + m := nnE (by omega)
    have em : l4_2.toNatClampNeg = m := nnE hm
    rw [ei] at h13 h6 h8
    rw [em] at h7
    refine swQ_s (by omega) h13 (fun v hv => ?_) ?_ (ih (m + 1) (by omega))
    · unfold swV gbit
      have e3 : (64 * (b * W) + v) / 64 = b * W + m := by omega
      have e4 : (64 * (b * W) + v) % 64 = v % 64 := by omega
      rw [e3, e4, hv, bit_or h11, bit_and h10, bit_not h9 _ (Nat.mod_lt _ (by decide)), h6, h7, h8]
    · exact fun z => absurd z (by decide)
  · intro l4_2 l2_2 Live_in_2 x1 x2 x3 x4 x5 x6 x7 x8 x9 x10 x11 k e1 e2 h1 h2 h3 h4 h5 h6 h7 h8 h9 h10 h11 h12 h13 h14 h15 h16 ih
    intro m hm
    have ep : x1.toInt = ((b * W : Nat) : Int) := by rw [h4, hb, hW]; exact (Int.natCast_mul b W).symm
    have ei : x2.toNatClampNeg = b * W + m := nnE (by omega)
    have em : l4_2.toNatClampNeg = m := nnE hm
    rw [ei] at h15 h6 h8 h13
    rw [em] at h7
    refine swQ_s (by omega) h15 (fun v hv => ?_) ?_ (ih (m + 1) (by omega))
    · unfold swV gbit
      have e3 : (64 * (b * W) + v) / 64 = b * W + m := by omega
      have e4 : (64 * (b * W) + v) % 64 = v % 64 := by omega
      rw [e3, e4, hv, bit_or h11, bit_and h10, bit_not h9 _ (Nat.mod_lt _ (by decide)), h6, h7, h8]
    · exact fun _ => ⟨h12, h14.trans h13⟩
  · intro l4_2 l2_2 Live_in_2 x1 x2 x3 x4 x5 x6 x7 x8 x9 x10 x11 k e1 e2 h1 h2 h3 h4 h5 h6 h7 h8 h9 h10 h11 h12 h13 h14 h15 h16 ih
    intro m hm
    have ep : x1.toInt = ((b * W : Nat) : Int) := by rw [h4, hb, hW]; exact (Int.natCast_mul b W).symm
    have ei : x2.toNatClampNeg = b * W + m := nnE (by omega)
    have em : l4_2.toNatClampNeg = m := nnE hm
    rw [ei] at h15 h6 h8 h13
    rw [em] at h7
    refine swQ_s (by omega) h15 (fun v hv => ?_) ?_ (ih (m + 1) (by omega))
    · unfold swV gbit
      have e3 : (64 * (b * W) + v) / 64 = b * W + m := by omega
      have e4 : (64 * (b * W) + v) % 64 = v % 64 := by omega
      rw [e3, e4, hv, bit_or h11, bit_and h10, bit_not h9 _ (Nat.mod_lt _ (by decide)), h6, h7, h8]
    · exact fun z => absurd z (by decide)
theorem sn_tl2 {Live_words : Int32} {Code_blocks : Int32} {Code_firstGoal : Nat → Int32} {Code_secondGoal : Nat → Int32} {Live_used : Nat → Int64} {Live_set : Nat → Int64} {s1 : Int32} {s2 : Nat → Int64} {s3 : Int32} {s4 : Nat → Int64} {k : Nat} {e1 : Int32} {e2 : Nat → Int64} {e3 : Nat → Int64} (hW2 : Nm ≤ 64 * W) (hW : Live_words.toInt = (W : Int)) (hn : Code_blocks.toInt = (P.1 : Int)) (hg : (∀ b : Nat, b < P.1 → (Code_firstGoal b).toInt = P.2.2.2 b 0 ∧ (Code_secondGoal b).toInt = P.2.2.2 b 1)) (hu : (∀ c v, c < P.1 → v < 64 * W → (gbit Live_used (64 * (c * W) + v) = true ↔ v < Nm ∧ usd P sl v c) ∧ (gbit Live_set (64 * (c * W) + v) = true ↔ v < Nm ∧ std P sl v c))) (h : tl_Live_sweep2_9 Live_words Code_blocks Code_firstGoal Code_secondGoal Live_used Live_set s1 s2 s3 s4 k e1 e2 e3) : ∀ b : Nat, b ≤ P.1 → s1.toInt = (b : Int) - 1 → swp P sl W Nm b s3 s4 e1 e2 := by
  refine h (fun s1 s2 s3 s4 _ e1 e2 e3 => ∀ b : Nat, b ≤ P.1 → s1.toInt = (b : Int) - 1 → swp P sl W Nm b s3 s4 e1 e2) ?_ ?_
  · intro l3_1 Live_now_1 l2_1 Live_in_1 h1 h2 h3
    intro b hb hl
    have e : b = 0 := by omega
    rw [e]; exact swp_0
  · intro l3_1 Live_now_1 l2_1 Live_in_1 x1 x2 x3 x4 k e1 e2 e3 h1 h2 h3 h4 h5 h6 ih
    intro b hb hl
    obtain ⟨a, ea⟩ : ∃ a, b = a + 1 := ⟨b - 1, by omega⟩
    rw [ea] at hl ⊢
    have eb := eb_tr2 (b := a) hW hn (by omega) (hg a (by omega)) h4
    obtain ⟨q1, q2, q3⟩ := sw_tl2 (b := a) hW (by omega) h5 0 (by decide)
    refine swp_s hW2 (by omega) (fun c v hc hne hv => ?_) (fun v hv => ?_) (fun z => ?_) (ih a (by omega) (by omega))
    · exact q1 _ (fun w hw _ e => hne (reg_u e hv hw).1)
    · rw [q2 v hv (Nat.zero_le _)]
      unfold swV
      rw [Bool.or_eq_true, Bool.and_eq_true, Bool.not_eq_true', (hu a v (by omega) hv).1, eb v hv, ← Bool.not_eq_true, (hu a v (by omega) hv).2]
    · obtain ⟨z1, z2⟩ := q3 z
      exact ⟨z1, fun v hv => by rw [z2 v hv (Nat.zero_le _), q2 v hv (Nat.zero_le _)]⟩
theorem sn_tr2 {Live_words : Int32} {Code_blocks : Int32} {Live_in : Nat → Int64} {Live_used : Nat → Int64} {Live_set : Nat → Int64} {Live_now : Nat → Int64} {Code_firstGoal : Nat → Int32} {Code_secondGoal : Nat → Int32} {o1 : Int32} {o2 : Nat → Int64} {o3 : Nat → Int64} (hW2 : Nm ≤ 64 * W) (hW : Live_words.toInt = (W : Int)) (hn : Code_blocks.toInt = (P.1 : Int)) (hg : (∀ b : Nat, b < P.1 → (Code_firstGoal b).toInt = P.2.2.2 b 0 ∧ (Code_secondGoal b).toInt = P.2.2.2 b 1)) (hu : (∀ c v, c < P.1 → v < 64 * W → (gbit Live_used (64 * (c * W) + v) = true ↔ v < Nm ∧ usd P sl v c) ∧ (gbit Live_set (64 * (c * W) + v) = true ↔ v < Nm ∧ std P sl v c))) (h : tr_Live_sweep2 Live_words Code_blocks Live_in Live_used Live_set Live_now Code_firstGoal Code_secondGoal o1 o2 o3) : swp P sl W Nm P.1 0 Live_in o1 o2 := by
  refine h (fun o1 o2 _ => swp P sl W Nm P.1 0 Live_in o1 o2) ?_
  · intro x1 x2 x3 x4 h1 h2
    exact sn_tl2 hW2 hW hn hg hu h2 P.1 (Nat.le_refl _) (by omega)
theorem so_tl2 {Code_blocks : Int32} {c1 : Int32} {Live_used_1 : Nat → Int64} {Live_set_1 : Nat → Int64} {Code_firstGoal : Nat → Int32} {Code_secondGoal : Nat → Int32} {s1 : Int32} {s2 : Int32} {s3 : Nat → Int64} {s4 : Nat → Int64} {k : Nat} {e1 : Nat → Int64} {e2 : Nat → Int64} (hW2 : Nm ≤ 64 * W) (hW : c1.toInt = (W : Int)) (hn : Code_blocks.toInt = (P.1 : Int)) (hg : (∀ b : Nat, b < P.1 → (Code_firstGoal b).toInt = P.2.2.2 b 0 ∧ (Code_secondGoal b).toInt = P.2.2.2 b 1)) (hu : (∀ c v, c < P.1 → v < 64 * W → (gbit Live_used_1 (64 * (c * W) + v) = true ↔ v < Nm ∧ usd P sl v c) ∧ (gbit Live_set_1 (64 * (c * W) + v) = true ↔ v < Nm ∧ std P sl v c))) (h : tl_Live_solve2_112 Code_blocks c1 Live_used_1 Live_set_1 Code_firstGoal Code_secondGoal s1 s2 s3 s4 k e1 e2) : ∀ p : Nat, s1.toInt = (p : Int) → lvSc P sl W Nm s3 → (∀ v c, v < Nm → c < P.1 → Lt P sl v p c → gbit s3 (64 * (c * W) + v) = true) → (s2.toInt = 0 → ∀ c v, c < P.1 → v < Nm → lvC P sl W v s3 c → gbit s3 (64 * (c * W) + v) = true) → ∀ c v, c < P.1 → v < 64 * W → (gbit e1 (64 * (c * W) + v) = true ↔ v < Nm ∧ Lv P sl v c 0) := by
  refine h (fun s1 s2 s3 s4 _ e1 e2 => ∀ p : Nat, s1.toInt = (p : Int) → lvSc P sl W Nm s3 → (∀ v c, v < Nm → c < P.1 → Lt P sl v p c → gbit s3 (64 * (c * W) + v) = true) → (s2.toInt = 0 → ∀ c v, c < P.1 → v < Nm → lvC P sl W v s3 c → gbit s3 (64 * (c * W) + v) = true) → ∀ c v, c < P.1 → v < 64 * W → (gbit e1 (64 * (c * W) + v) = true ↔ v < Nm ∧ Lv P sl v c 0)) ?_ ?_ ?_
  · intro l5_1 l4_1 Live_in_1 Live_now_1 h1 h2 h3
    exact fun p hp hs hc hz => lv_end2 hW2 (by omega) hs hc
  · intro l5_1 l4_1 Live_in_1 Live_now_1 h1 h2 h3 h4
    exact fun p hp hs hc hz => lv_end1 hW2 hs (hz h4)
  · intro l5_1 l4_1 Live_in_1 Live_now_1 x1 x2 x3 x4 k e1 e2 h1 h2 h3 h4 h5 h6 h7 ih
    intro p hp hs hc hz
    obtain ⟨q1, q2, q3⟩ := sn_tr2 hW2 hW hn hg hu h6
    refine ih (p + 1) (by omega) (q1 hs) (fun v c hv hc' h' => q2 p v hv (fun c hc2 h2 => hc v c hv hc2 h2) (fun c hc2 hb2 => by omega) c hc' h') (fun z => ?_)
    obtain ⟨-, z2, z3⟩ := q3 z
    intro c v hc' hv h'
    rw [z2 c v hc' (by omega)]
    refine z3 c v hc' hv ?_
    rcases h' with h' | ⟨h1', h2'⟩
    · exact Or.inl h'
    · exact Or.inr ⟨h1', goX_mo (fun g hg' hl => by rw [← z2 g v hg' (by omega)]; exact hl) h2'⟩
theorem so_tr2 {a2 : Int32} {a3 : Int32} {Code_blocks : Int32} {Code_lines : Int32} {Live_in : Nat → Int64} {Live_used : Nat → Int64} {Live_set : Nat → Int64} {Live_now : Nat → Int64} {Code_first : Nat → Int32} {Code_firstGoal : Nat → Int32} {Code_secondGoal : Nat → Int32} {Code_op : Nat → Int32} {Code_set : Nat → Int32} {Code_left : Nat → Int32} {Code_right : Nat → Int32} {Code_rightNumber : Nat → Int32} {o1 : Int32} {o2 : Int32} {o3 : Int32} {o4 : Nat → Int64} {o5 : Nat → Int64} {o6 : Nat → Int64} {o7 : Nat → Int64} {cln : Nat → Int32} (hc : cdP Code_blocks Code_lines Code_first Code_firstGoal Code_secondGoal Code_op Code_set Code_left cln Code_right Code_rightNumber P) (hN : a2.toInt = (Nm : Int)) (hN2 : Nm ≤ 720) (hsl : sl = decide (a3.toInt ≠ 0)) (h : tr_Live_solve2 a2 a3 Code_blocks Code_lines Live_in Live_used Live_set Live_now Code_first Code_firstGoal Code_secondGoal Code_op Code_set Code_left Code_right Code_rightNumber o1 o2 o3 o4 o5 o6 o7) : (o1.toInt = (Nm : Int) ∧ o2.toInt = (((Nm + 63) / 64 : Nat) : Int) ∧ o3 = a3 ∧ (∀ c v, c < P.1 → v < 64 * ((Nm + 63) / 64) → (gbit o4 (64 * (c * ((Nm + 63) / 64)) + v) = true ↔ v < Nm ∧ Lv P sl v c 0)) ∧ ∀ c v, c < P.1 → v < 64 * ((Nm + 63) / 64) → (gbit o5 (64 * (c * ((Nm + 63) / 64)) + v) = true ↔ v < Nm ∧ usd P sl v c) ∧ (gbit o6 (64 * (c * ((Nm + 63) / 64)) + v) = true ↔ v < Nm ∧ std P sl v c)) := by
  refine h (fun o1 o2 o3 o4 o5 o6 o7 => (o1.toInt = (Nm : Int) ∧ o2.toInt = (((Nm + 63) / 64 : Nat) : Int) ∧ o3 = a3 ∧ (∀ c v, c < P.1 → v < 64 * ((Nm + 63) / 64) → (gbit o4 (64 * (c * ((Nm + 63) / 64)) + v) = true ↔ v < Nm ∧ Lv P sl v c 0)) ∧ ∀ c v, c < P.1 → v < 64 * ((Nm + 63) / 64) → (gbit o5 (64 * (c * ((Nm + 63) / 64)) + v) = true ↔ v < Nm ∧ usd P sl v c) ∧ (gbit o6 (64 * (c * ((Nm + 63) / 64)) + v) = true ↔ v < Nm ∧ std P sl v c))) ?_
  · intro x1 x2 x3 x4 x5 x6 x7 x8 x9 x10 x11 h1 h2 h3 h4 h5 h6 h7
    have e2 : x2.toInt = (Nm : Int) := by omega
    have e4 : x4.toInt = (((Nm + 63) / 64 : Nat) : Int) := by omega
    have hW2 : Nm ≤ 64 * ((Nm + 63) / 64) := by omega
    have z := sz_tl2 (M := P.1 * ((Nm + 63) / 64)) (by rw [hc.1, e4]; exact (Int.natCast_mul _ _).symm) h5 (by decide)
    have zr : ∀ (f : Nat → Int64), (∀ i, i < P.1 * ((Nm + 63) / 64) → f i = 0) → zrB P ((Nm + 63) / 64) 0 f := fun f hf c v hc' _ hv => by
      refine gbit_0 (hf _ ?_)
      have h2 : (c + 1) * ((Nm + 63) / 64) ≤ P.1 * ((Nm + 63) / 64) := Nat.mul_le_mul_right _ hc'
      rw [Nat.add_mul, Nat.one_mul] at h2
      omega
    have n0 : ∀ i : Nat, ¬ (i : Int) < (0 : Int32).toInt := fun i => by rw [px_0]; omega
    have z1 : ∀ i, i < P.1 * ((Nm + 63) / 64) → x5 i = 0 := fun i hi => (z i hi (fun q => absurd q (n0 i))).1
    have z2 : ∀ i, i < P.1 * ((Nm + 63) / 64) → x6 i = 0 := fun i hi => (z i hi (fun q => absurd q (n0 i))).2.1
    have z3 : ∀ i, i < P.1 * ((Nm + 63) / 64) → x7 i = 0 := fun i hi => (z i hi (fun q => absurd q (n0 i))).2.2
    have g := sg_tl2 hc hW2 e2 e4 hsl h6 0 (by decide) (zr _ z2) (zr _ z3)
    have g' := fun c v hc' hv => (g c v hc' hv).2 (Nat.zero_le _)
    have zi := zr _ z1
    refine ⟨e2, e4, rfl, ?_, g'⟩
    refine so_tl2 hW2 e4 hc.1 (fun b hb => (hc.2.2.1 b hb).2) g' h7 0 (by decide) (fun c v hc' hv h' => ?_) (fun v c _ _ h' => absurd h' id) (fun q => absurd q (by decide))
    rw [zi c v hc' (Nat.zero_le _) hv] at h'
    cases h'
end LIW
end
section
/-- the blocks to which ways of E lead from S without those of N -/
def Wk (E : Nat → Nat → Prop) (S N : Nat → Prop) (b : Nat) : Prop := ∀ R : Nat → Prop, (∀ b, S b → ¬ N b → R b) → (∀ a b, R a → E a b → ¬ N b → R b) → R b
def WT (E : Nat → Nat → Prop) (S N : Nat → Prop) : Nat → Nat → Prop
  | 0, b => S b ∧ ¬ N b
  | p + 1, b => WT E S N p b ∨ ∃ a, WT E S N p a ∧ E a b ∧ ¬ N b
section LO
variable {E : Nat → Nat → Prop} {S N : Nat → Prop}
theorem Wk_i {b : Nat} (h : S b) (h2 : ¬ N b) : Wk E S N b := fun _ c1 _ => c1 b h h2
theorem Wk_s {a b : Nat} (h : Wk E S N a) (h2 : E a b) (h3 : ¬ N b) : Wk E S N b := fun R c1 c2 => c2 a b (h R c1 c2) h2 h3
theorem Wk_e {b : Nat} (h : Wk E S N b) : ¬ N b ∧ (S b ∨ ∃ a, Wk E S N a ∧ E a b) := by
  have q := h (fun b => Wk E S N b ∧ ¬ N b ∧ (S b ∨ ∃ a, Wk E S N a ∧ E a b)) (fun b h1 h2 => ⟨Wk_i h1 h2, h2, Or.inl h1⟩) (fun a b h1 h2 h3 => ⟨Wk_s h1.1 h2 h3, h3, Or.inr ⟨a, h1.1, h2⟩⟩)
  exact q.2
theorem WT_so : ∀ p b, WT E S N p b → Wk E S N b
  | 0, _, h => Wk_i h.1 h.2
  | p + 1, b, h => h.elim (WT_so p b) (fun ⟨a, h1, h2, h3⟩ => Wk_s (WT_so p a h1) h2 h3)
theorem WT_0 : ∀ p b, S b → ¬ N b → WT E S N p b
  | 0, _, h, h2 => ⟨h, h2⟩
  | p + 1, b, h, h2 => Or.inl (WT_0 p b h h2)
/-- nothing comes any more: it is all -/
theorem WT_cl {p : Nat} (h : ∀ b, WT E S N (p + 1) b → WT E S N p b) (b : Nat) : WT E S N p b ↔ Wk E S N b :=
  ⟨WT_so p b, fun w => w (WT E S N p) (fun b h1 h2 => WT_0 p b h1 h2) (fun a b h1 h2 h3 => h b (Or.inr ⟨a, h1, h2, h3⟩))⟩
theorem WT_n {n : Nat} (hS : ∀ b, S b → b < n) (hE : ∀ a b, E a b → b < n) (b : Nat) : WT E S N n b ↔ Wk E S N b := by
  have hb : ∀ p b, WT E S N p b → b < n := fun p => by
    induction p with
    | zero => exact fun b h => hS b h.1
    | succ p ih => exact fun b h => h.elim (ih b) (fun ⟨a, _, h2, _⟩ => hE a b h2)
  refine WT_cl (fun b h => ?_) b
  exact chn_st (WT E S N) n (fun p b h => Or.inl h) (fun p hp b _ h => by
    rcases h with h | ⟨a, h1, h2, h3⟩
    · exact h
    · exact Or.inr ⟨a, hp a (hb (p + 1) a h1) h1, h2, h3⟩) b (hb (n + 1) b h) h
theorem Wk_c {E' : Nat → Nat → Prop} {S' N' : Nat → Prop} {b : Nat} (hE : ∀ a b, E a b → E' a b) (hS : ∀ b, S b → S' b) (hN : ∀ b, N' b → N b) (h : Wk E S N b) : Wk E' S' N' b := fun R c1 c2 => h R (fun b h1 h2 => c1 b (hS b h1) (fun z => h2 (hN b z))) (fun a b h1 h2 h3 => c2 a b h1 (hE a b h2) (fun z => h3 (hN b z)))
end LO
/-- the ways of a program, its blocks that are reached, those that close a loop of h, the loop, the depth -/
def Ed (P : gPg) (a b : Nat) : Prop := a < P.1 ∧ ∃ i : Nat, i < 2 ∧ P.2.2.2 a i = (b : Int)
def rAll (P : gPg) (b : Nat) : Prop := Wk (Ed P) (fun b => b = 0) (fun _ => False) b
def clo (P : gPg) (h c : Nat) : Prop := Ed P c h ∧ rAll P c ∧ ¬ Wk (Ed P) (fun b => b = 0) (fun b => b = h) c
def InL (P : gPg) (h b : Nat) : Prop := (∃ c, clo P h c) ∧ (b = h ∨ Wk (fun a b => Ed P b a) (clo P h) (fun b => b = h ∨ ¬ rAll P b) b)
noncomputable def dpt (P : gPg) (b : Nat) : Nat := min 4 (cntP (fun h => InL P h b) P.1)
end
section
section LOC
variable {P : gPg} {E : Nat → Nat → Prop} {S N : Nat → Prop}
theorem shn {x y z : Int64} {i : Int32} {m : Nat} (hy : y = x >>> (i.toInt64 &&& 63)) (hz : z = y &&& 1) (hi : i.toInt = (m : Int)) (hm : m < 64) : (¬ z = 0) ↔ x.toBitVec.getLsbD m = true := by
  rw [sh_bit hy hz hi hm, Bool.not_eq_false]
theorem wk1_tl {l5_1 : Int64} {c1 : Nat → Int64} {a2 : Int64} {s1 : Int32} {s2 : Int64} {k : Nat} {e1 : Int64} (h : tl_Loops_walk_26 l5_1 c1 a2 s1 s2 k e1) : ∀ m : Nat, s1.toInt = (m : Int) → ∀ b, b < 64 → (e1.toBitVec.getLsbD b = true ↔ s2.toBitVec.getLsbD b = true ∨ ∃ a, m ≤ a ∧ a < 40 ∧ l5_1.toBitVec.getLsbD a = true ∧ (c1 a).toBitVec.getLsbD b = true ∧ ¬ a2.toBitVec.getLsbD b = true) := by
  refine h (fun s1 s2 _ e1 => ∀ m : Nat, s1.toInt = (m : Int) → ∀ b, b < 64 → (e1.toBitVec.getLsbD b = true ↔ s2.toBitVec.getLsbD b = true ∨ ∃ a, m ≤ a ∧ a < 40 ∧ l5_1.toBitVec.getLsbD a = true ∧ (c1 a).toBitVec.getLsbD b = true ∧ ¬ a2.toBitVec.getLsbD b = true)) ?_ ?_ ?_
  · intro l10_2 l8_2 h1 h2
    exact fun m hm b hb => ⟨Or.inl, fun h => h.elim id (fun ⟨a, h1, h2, _⟩ => by omega)⟩
  · intro l10_2 l8_2 x1 x2 x3 k e1 h1 h2 h3 h4 h5 h6 ih
    intro m hm b hb
    have q := shn h3 h4 hm (by omega)
    rw [ih (m + 1) (by omega) b hb]
    constructor
    · rintro (h | ⟨a, h1, h2⟩)
      · exact Or.inl h
      · exact Or.inr ⟨a, by omega, h2⟩
    · rintro (h | ⟨a, h1, h2, h3, h4⟩)
      · exact Or.inl h
      · by_cases e : a = m
        · rw [e] at h3; exact absurd h5 (q.mpr h3)
        · exact Or.inr ⟨a, by omega, h2, h3, h4⟩
  · intro l10_2 l8_2 x1 x2 x3 x4 x5 x6 x7 k e1 h1 h2 h3 h4 h5 h6 h7 h8 h9 h10 ih
    intro m hm b hb
    have q := (shn h3 h4 hm (by omega)).mp h5
    have k3 := h6
    rw [nnE hm] at k3
    have nb : x6.toBitVec.getLsbD b = true ↔ l8_2.toBitVec.getLsbD b = true ∨ ((c1 m).toBitVec.getLsbD b = true ∧ ¬ a2.toBitVec.getLsbD b = true) := by
      rw [bit_or h9, bit_and h8, bit_not h7 b hb, k3, Bool.or_eq_true, Bool.and_eq_true, Bool.not_eq_true', Bool.not_eq_true]
    rw [ih (m + 1) (by omega) b hb, nb]
    constructor
    · rintro ((h | ⟨h1, h2⟩) | ⟨a, h1, h2⟩)
      · exact Or.inl h
      · exact Or.inr ⟨m, Nat.le_refl _, by omega, q, h1, h2⟩
      · exact Or.inr ⟨a, by omega, h2⟩
    · rintro (h | ⟨a, h1, h2, h3, h4, h5⟩)
      · exact Or.inl (Or.inl h)
      · by_cases e : a = m
        · rw [e] at h4; exact Or.inl (Or.inr ⟨h4, h5⟩)
        · exact Or.inr ⟨a, by omega, h2, h3, h4, h5⟩
theorem wk2_tl {c1 : Nat → Int64} {a2 : Int64} {s1 : Int32} {s2 : Int64} {k : Nat} {e1 : Int64} (hE : (∀ a b, a < 40 → b < 64 → ((c1 a).toBitVec.getLsbD b = true ↔ E a b))) (hE2 : ∀ a b, E a b → a < 40 ∧ b < 40) (hS : ∀ b, S b → b < 40) (hN : (∀ b, b < 64 → (a2.toBitVec.getLsbD b = true ↔ N b))) (h : tl_Loops_walk_12 c1 a2 s1 s2 k e1) : ∀ p : Nat, s1.toInt = (p : Int) → (∀ b, b < 64 → (s2.toBitVec.getLsbD b = true ↔ WT E S N p b)) → ∀ b, b < 64 → (e1.toBitVec.getLsbD b = true ↔ Wk E S N b) := by
  have hb : ∀ p b, WT E S N p b → b < 40 := fun p => by
    induction p with
    | zero => exact fun b h => hS b h.1
    | succ p ih => exact fun b h => h.elim (ih b) (fun ⟨a, _, h2, _⟩ => (hE2 a b h2).2)
  refine h (fun s1 s2 _ e1 => ∀ p : Nat, s1.toInt = (p : Int) → (∀ b, b < 64 → (s2.toBitVec.getLsbD b = true ↔ WT E S N p b)) → ∀ b, b < 64 → (e1.toBitVec.getLsbD b = true ↔ Wk E S N b)) ?_ ?_ ?_
  · intro l7_1 l5_1 h1 h2
    intro p hp hs b hb
    have e : p = 40 := by have z := h1.2; omega
    rw [e] at hs
    rw [hs b hb]
    exact WT_n hS (fun a b q => (hE2 a b q).2) b
  · intro l7_1 l5_1 x1 x2 k e1 h1 h2 h3 h4 h5 ih
    intro p hp hs
    have st : ∀ b, b < 64 → (x1.toBitVec.getLsbD b = true ↔ WT E S N (p + 1) b) := fun b hb' => by
      rw [wk1_tl h3 0 (by decide) b hb', hs b hb']
      constructor
      · rintro (h | ⟨a, h1, h2, h3, h4, h5⟩)
        · exact Or.inl h
        · exact Or.inr ⟨a, (hs a (by omega)).mp h3, (hE a b h2 hb').mp h4, fun z => h5 ((hN b hb').mpr z)⟩
      · rintro (h | ⟨a, h1, h2, h3⟩)
        · exact Or.inl h
        · have ha := (hE2 a b h2).1
          exact Or.inr ⟨a, Nat.zero_le _, ha, (hs a (by omega)).mpr h1, (hE a b ha hb').mpr h2, fun z => h3 ((hN b hb').mp z)⟩
    exact ih (p + 1) (by omega) st
  · intro l7_1 l5_1 x1 h1 h2 h3 h4
    intro p hp hs
    have st : ∀ b, b < 64 → (x1.toBitVec.getLsbD b = true ↔ WT E S N (p + 1) b) := fun b hb' => by
      rw [wk1_tl h3 0 (by decide) b hb', hs b hb']
      constructor
      · rintro (h | ⟨a, h1, h2, h3, h4, h5⟩)
        · exact Or.inl h
        · exact Or.inr ⟨a, (hs a (by omega)).mp h3, (hE a b h2 hb').mp h4, fun z => h5 ((hN b hb').mpr z)⟩
      · rintro (h | ⟨a, h1, h2, h3⟩)
        · exact Or.inl h
        · have ha := (hE2 a b h2).1
          exact Or.inr ⟨a, Nat.zero_le _, ha, (hs a (by omega)).mpr h1, (hE a b ha hb').mpr h2, fun z => h3 ((hN b hb').mp z)⟩
    intro b hb'
    rw [hs b hb']
    refine WT_cl (fun b h => ?_) b
    have h40 := hb (p + 1) b h
    rw [← hs b (by omega), ← h4]
    exact (st b (by omega)).mpr h
theorem wk_tr {a1 : Int64} {a2 : Int64} {p : Nat → Int64} {o1 : Int64} (hE : (∀ a b, a < 40 → b < 64 → ((p a).toBitVec.getLsbD b = true ↔ E a b))) (hE2 : ∀ a b, E a b → a < 40 ∧ b < 40) (hS0 : ∀ b, b < 64 → (a1.toBitVec.getLsbD b = true ↔ S b)) (hS : ∀ b, S b → b < 40) (hN : (∀ b, b < 64 → (a2.toBitVec.getLsbD b = true ↔ N b))) (h : tr_Loops_walk a1 a2 p o1) : ∀ b, b < 64 → (o1.toBitVec.getLsbD b = true ↔ Wk E S N b) := by
  refine h (fun o1 => ∀ b, b < 64 → (o1.toBitVec.getLsbD b = true ↔ Wk E S N b)) ?_ ?_
  · intro x1 x2 x3 h1 h2 h3
    refine wk2_tl hE hE2 hS hN h3 0 (by decide) (fun b hb => ?_)
    rw [bit_and h2, bit_not h1 b hb, Bool.and_eq_true, Bool.not_eq_true', ← Bool.not_eq_true, hS0 b hb, hN b hb]
    exact Iff.rfl
  · intro x1 x2 x3 h1 h2 h3
    refine wk2_tl hE hE2 hS hN h3 0 (by decide) (fun b hb => ?_)
    rw [bit_and h2, bit_not h1 b hb, Bool.and_eq_true, Bool.not_eq_true', ← Bool.not_eq_true, hS0 b hb, hN b hb]
    exact Iff.rfl
theorem lk_tr {a1 : Int32} {a2 : Int32} {Loops_goals : Nat → Int64} {Loops_sources : Nat → Int64} {o1 : Nat → Int64} {o2 : Nat → Int64} {a : Nat} (ha : a1.toInt = (a : Int)) (ha2 : a < 40) (h : tr_Loops_link a1 a2 Loops_goals Loops_sources o1 o2) : ∀ x y : Nat, y < 64 → ((o1 x).toBitVec.getLsbD y = true ↔ (Loops_goals x).toBitVec.getLsbD y = true ∨ (x = a ∧ a2.toInt = (y : Int) ∧ y < 40)) ∧ ((o2 x).toBitVec.getLsbD y = true ↔ (Loops_sources x).toBitVec.getLsbD y = true ∨ (a2.toInt = (x : Int) ∧ x < 40 ∧ y = a)) := by
  refine h (fun o1 o2 => ∀ x y : Nat, y < 64 → ((o1 x).toBitVec.getLsbD y = true ↔ (Loops_goals x).toBitVec.getLsbD y = true ∨ (x = a ∧ a2.toInt = (y : Int) ∧ y < 40)) ∧ ((o2 x).toBitVec.getLsbD y = true ↔ (Loops_sources x).toBitVec.getLsbD y = true ∨ (a2.toInt = (x : Int) ∧ x < 40 ∧ y = a))) ?_ ?_ ?_
  · intro h1
    intro x y hy
    exact ⟨⟨Or.inl, fun h => h.elim id (fun z => by omega)⟩, ⟨Or.inl, fun h => h.elim id (fun z => by omega)⟩⟩
  · intro h1 h2
    intro x y hy
    exact ⟨⟨Or.inl, fun h => h.elim id (fun z => by omega)⟩, ⟨Or.inl, fun h => h.elim id (fun z => by omega)⟩⟩
  · intro x1 x2 x3 x4 x5 x6 x7 x8 h1 h2 h3 h4 h5 h6 h7 h8 h9 h10
    intro x y hy
    have ea := nnE ha
    have em : a2.toInt = ((a2.toInt.toNat : Nat) : Int) := (Int.toNat_of_nonneg h1).symm
    have eb := nnE em
    rw [ea] at h3 h6
    rw [eb] at h7 h10
    constructor
    · rw [h6]
      unfold vp_updL
      by_cases e : x = a
      · rw [if_pos e, bit_or h5, h3, lb_shl h4 em (by omega) y hy, e, Bool.or_eq_true, decide_eq_true_iff]
        exact ⟨fun h => h.elim Or.inl (fun z => Or.inr ⟨rfl, by omega, by omega⟩), fun h => h.elim Or.inl (fun z => Or.inr (by omega))⟩
      · rw [if_neg e]
        exact ⟨Or.inl, fun h => h.elim id (fun z => absurd z.1 e)⟩
    · rw [h10]
      unfold vp_updL
      by_cases e : x = a2.toInt.toNat
      · rw [if_pos e, bit_or h9, h7, lb_shl h8 ha (by omega) y hy, e, Bool.or_eq_true, decide_eq_true_iff]
        exact ⟨fun h => h.elim Or.inl (fun z => Or.inr ⟨em, by omega, z⟩), fun h => h.elim Or.inl (fun z => Or.inr z.2.2)⟩
      · rw [if_neg e]
        exact ⟨Or.inl, fun h => h.elim id (fun z => absurd (by omega) e)⟩
theorem lf_tl {Code_blocks : Int32} {Code_firstGoal : Nat → Int32} {Code_secondGoal : Nat → Int32} {s1 : Int32} {s2 : Nat → Int64} {s3 : Nat → Int64} {k : Nat} {e1 : Nat → Int64} {e2 : Nat → Int64} (hn : Code_blocks.toInt = (P.1 : Int)) (hP : P.1 ≤ 40) (hg : (∀ b : Nat, b < P.1 → (Code_firstGoal b).toInt = P.2.2.2 b 0 ∧ (Code_secondGoal b).toInt = P.2.2.2 b 1)) (h : tl_Loops_find_26 Code_blocks Code_firstGoal Code_secondGoal s1 s2 s3 k e1 e2) : ∀ m : Nat, s1.toInt = (m : Int) → ∀ x y : Nat, y < 64 → ((e1 x).toBitVec.getLsbD y = true ↔ (s2 x).toBitVec.getLsbD y = true ∨ (m ≤ x ∧ y < 40 ∧ Ed P x y)) ∧ ((e2 x).toBitVec.getLsbD y = true ↔ (s3 x).toBitVec.getLsbD y = true ∨ (m ≤ y ∧ x < 40 ∧ Ed P y x)) := by
  refine h (fun s1 s2 s3 _ e1 e2 => ∀ m : Nat, s1.toInt = (m : Int) → ∀ x y : Nat, y < 64 → ((e1 x).toBitVec.getLsbD y = true ↔ (s2 x).toBitVec.getLsbD y = true ∨ (m ≤ x ∧ y < 40 ∧ Ed P x y)) ∧ ((e2 x).toBitVec.getLsbD y = true ↔ (s3 x).toBitVec.getLsbD y = true ∨ (m ≤ y ∧ x < 40 ∧ Ed P y x))) ?_ ?_
  · intro l2_1 Loops_goals_1 Loops_sources_1 h1 h2
    intro m hm x y hy
    exact ⟨⟨Or.inl, fun h => h.elim id (fun z => by have := z.2.2.1; omega)⟩, ⟨Or.inl, fun h => h.elim id (fun z => by have := z.2.2.1; omega)⟩⟩
  · intro l2_1 Loops_goals_1 Loops_sources_1 x1 x2 x3 x4 x5 x6 x7 k e1 e2 h1 h2 h3 h4 h5 h6 h7 ih
    intro m hm x y hy
    have hmP : m < P.1 := by omega
    obtain ⟨g0, g1⟩ := hg m hmP
    rw [nnE hm] at h3 h5
    rw [← h3] at g0
    rw [← h5] at g1
    obtain ⟨a1, a2⟩ := lk_tr hm (by omega) h4 x y hy
    obtain ⟨b1, b2⟩ := lk_tr hm (by omega) h6 x y hy
    obtain ⟨i1, i2⟩ := ih (m + 1) (by omega) x y hy
    rw [i1, i2, b1, b2, a1, a2]
    constructor
    · constructor
      · rintro (((h | h) | h) | h)
        · exact Or.inl h
        · exact Or.inr ⟨by omega, h.2.2, by omega, 0, by decide, by rw [h.1, ← g0]; exact h.2.1⟩
        · exact Or.inr ⟨by omega, h.2.2, by omega, 1, by decide, by rw [h.1, ← g1]; exact h.2.1⟩
        · exact Or.inr ⟨by omega, h.2⟩
      · rintro (h | ⟨h1, h2, h3, i, h4, h5⟩)
        · exact Or.inl (Or.inl (Or.inl h))
        · by_cases e : x = m
          · rw [e] at h5
            have hi : i = 0 ∨ i = 1 := by omega
            rcases hi with hi | hi
            · rw [hi, ← g0] at h5; exact Or.inl (Or.inl (Or.inr ⟨e, h5, h2⟩))
            · rw [hi, ← g1] at h5; exact Or.inl (Or.inr ⟨e, h5, h2⟩)
          · exact Or.inr ⟨by omega, h2, h3, i, h4, h5⟩
    · constructor
      · rintro (((h | h) | h) | h)
        · exact Or.inl h
        · exact Or.inr ⟨by omega, h.2.1, by omega, 0, by decide, by rw [h.2.2, ← g0]; exact h.1⟩
        · exact Or.inr ⟨by omega, h.2.1, by omega, 1, by decide, by rw [h.2.2, ← g1]; exact h.1⟩
        · exact Or.inr ⟨by omega, h.2⟩
      · rintro (h | ⟨h1, h2, h3, i, h4, h5⟩)
        · exact Or.inl (Or.inl (Or.inl h))
        · by_cases e : y = m
          · rw [e] at h5
            have hi : i = 0 ∨ i = 1 := by omega
            rcases hi with hi | hi
            · rw [hi, ← g0] at h5; exact Or.inl (Or.inl (Or.inr ⟨h5, h2, e⟩))
            · rw [hi, ← g1] at h5; exact Or.inl (Or.inr ⟨h5, h2, e⟩)
          · exact Or.inr ⟨by omega, h2, h3, i, h4, h5⟩
theorem lp_tr {a1 : Int32} {a2 : Int64} {Loops_goals : Nat → Int64} {Loops_sources : Nat → Int64} {o1 : Int64} {hd : Nat} (ha : a1.toInt = (hd : Int)) (hh : hd < 40) (hG : ∀ x y : Nat, x < 40 → y < 64 → ((Loops_goals x).toBitVec.getLsbD y = true ↔ Ed P x y)) (hS : ∀ x y : Nat, x < 40 → y < 64 → ((Loops_sources x).toBitVec.getLsbD y = true ↔ Ed P y x)) (hE : ∀ a b, Ed P a b → a < 40 ∧ b < 40) (hA : ∀ b, b < 64 → (a2.toBitVec.getLsbD b = true ↔ rAll P b)) (h : tr_Loops_loopOf a1 a2 Loops_goals Loops_sources o1) : ∀ b, b < 64 → (o1.toBitVec.getLsbD b = true ↔ InL P hd b) := by
  have one : ∀ b, b < 64 → ((1 : Int64).toBitVec.getLsbD b = true ↔ b = 0) := fun b hb => by
    have : ∀ j : Fin 64, (Int64.toBitVec 1).getLsbD j.val = decide (j.val = 0) := by decide +kernel
    rw [this ⟨b, hb⟩, decide_eq_true_iff]
  refine h (fun o1 => ∀ b, b < 64 → (o1.toBitVec.getLsbD b = true ↔ InL P hd b)) ?_ ?_
  · intro x1 x2 x3 x4 x5 x6 x7 x8 x9 x10 h1 h2 h3 h4 h5 h6 h7 h8 h9 h10 h11
    have hb1 : ∀ b, b < 64 → (x1.toBitVec.getLsbD b = true ↔ b = hd) := fun b hb => by rw [lb_shl h1 ha (by omega) b hb, decide_eq_true_iff]
    have w1 := wk_tr (E := Ed P) (S := fun b => b = 0) (N := fun b => b = hd) hG hE one (fun b hb => by omega) hb1 h2
    rw [nnE ha] at h3
    have cl : ∀ c, c < 64 → (x6.toBitVec.getLsbD c = true ↔ clo P hd c) := fun c hc => by
      rw [bit_and h6, bit_and h4, bit_not h5 c hc, h3, Bool.and_eq_true, Bool.and_eq_true, Bool.not_eq_true', ← Bool.not_eq_true, hS hd c hh hc, hA c hc, w1 c hc]
      unfold clo
      exact and_assoc
    have ne : ∃ c, clo P hd c := by
      by_cases q : ∃ c, clo P hd c
      · exact q
      · exfalso
        refine h7 (bit_eq (fun n hn => ?_))
        rw [Bool.eq_false_iff.mpr (fun z => q ⟨n, (cl n hn).mp z⟩)]
        simp
    have w2 := wk_tr (E := fun a b => Ed P b a) (S := clo P hd) (N := fun b => b = hd ∨ ¬ rAll P b) hS (fun a b z => ⟨(hE b a z).2, (hE b a z).1⟩) cl (fun b z => (hE b hd z.1).1) (fun b hb => by rw [bit_or h9, bit_not h8 b hb, Bool.or_eq_true, Bool.not_eq_true', ← Bool.not_eq_true, hb1 b hb, hA b hb]) h10
    intro b hb
    rw [bit_or h11, Bool.or_eq_true, hb1 b hb, w2 b hb]
    exact ⟨fun z => ⟨ne, z⟩, fun z => z.2⟩
  · intro x1 x2 x3 x4 x5 x6 h1 h2 h3 h4 h5 h6 h7
    have hb1 : ∀ b, b < 64 → (x1.toBitVec.getLsbD b = true ↔ b = hd) := fun b hb => by rw [lb_shl h1 ha (by omega) b hb, decide_eq_true_iff]
    have w1 := wk_tr (E := Ed P) (S := fun b => b = 0) (N := fun b => b = hd) hG hE one (fun b hb => by omega) hb1 h2
    rw [nnE ha] at h3
    have cl : ∀ c, c < 64 → (x6.toBitVec.getLsbD c = true ↔ clo P hd c) := fun c hc => by
      rw [bit_and h6, bit_and h4, bit_not h5 c hc, h3, Bool.and_eq_true, Bool.and_eq_true, Bool.not_eq_true', ← Bool.not_eq_true, hS hd c hh hc, hA c hc, w1 c hc]
      unfold clo
      exact and_assoc
    intro b hb
    have z0 : (0 : Int64).toBitVec.getLsbD b = false := by simp
    rw [z0]
    refine ⟨fun z => (by cases z), fun ⟨⟨c, hc⟩, _⟩ => ?_⟩
    have hc40 := (hE c hd hc.1).1
    have := (cl c (by omega)).mpr hc
    rw [h7] at this
    simp at this
theorem dn_tl {a1 : Int64} {s1 : Int32} {s2 : Nat → Int32} {k : Nat} {e1 : Nat → Int32} (h : tl_Loops_deepen_2 a1 s1 s2 k e1) : ∀ m : Nat, s1.toInt = (m : Int) → ∀ b, b < 40 → (b < m → e1 b = s2 b) ∧ (m ≤ b → (e1 b).toInt = if a1.toBitVec.getLsbD b = true ∧ (s2 b).toInt < 4 then (s2 b).toInt + 1 else (s2 b).toInt) := by
  refine h (fun s1 s2 _ e1 => ∀ m : Nat, s1.toInt = (m : Int) → ∀ b, b < 40 → (b < m → e1 b = s2 b) ∧ (m ≤ b → (e1 b).toInt = if a1.toBitVec.getLsbD b = true ∧ (s2 b).toInt < 4 then (s2 b).toInt + 1 else (s2 b).toInt)) ?_ ?_ ?_ ?_
  · intro l3_1 Loops_depth_1 h1 h2
    exact fun m hm b hb => ⟨fun _ => rfl, fun z => by omega⟩
  · intro l3_1 Loops_depth_1 x1 x2 x3 k e1 h1 h2 h3 h4 h5 h6 ih
    intro m hm b hb
    have q := shn h3 h4 hm (by omega)
    obtain ⟨i1, i2⟩ := ih (m + 1) (by omega) b hb
    refine ⟨fun z => i1 (by omega), fun z => ?_⟩
    by_cases e : b = m
    · rw [i1 (by omega), if_neg ?_]
      rw [e]
      exact fun z => absurd h5 (q.mpr z.1)
    · exact i2 (by omega)
  · intro l3_1 Loops_depth_1 x1 x2 x3 x4 k e1 h1 h2 h3 h4 h5 h6 h7 h8 ih
    intro m hm b hb
    have q := shn h3 h4 hm (by omega)
    obtain ⟨i1, i2⟩ := ih (m + 1) (by omega) b hb
    refine ⟨fun z => i1 (by omega), fun z => ?_⟩
    by_cases e : b = m
    · rw [i1 (by omega), if_neg ?_]
      rw [e]
      rw [nnE hm] at h6
      rw [← h6]
      omega
    · exact i2 (by omega)
  · intro l3_1 Loops_depth_1 x1 x2 x3 x4 x5 x6 k e1 h1 h2 h3 h4 h5 h6 h7 h8 h9 h10 ih
    intro m hm b hb
    have q := shn h3 h4 hm (by omega)
    obtain ⟨i1, i2⟩ := ih (m + 1) (by omega) b hb
    rw [nnE hm] at h9 h6
    refine ⟨fun z => by rw [i1 (by omega), h9, updN (by omega)], fun z => ?_⟩
    by_cases e : b = m
    · rw [i1 (by omega), h9, e, updE, if_pos ⟨q.mp h5, by rw [← h6]; assumption⟩, h8, h6]
    · rw [i2 (by omega), h9, updN e]
theorem dn_tr {a1 : Int64} {Loops_depth : Nat → Int32} {o1 : Nat → Int32} (h : tr_Loops_deepen a1 Loops_depth o1) : ∀ b, b < 40 → (o1 b).toInt = if a1.toBitVec.getLsbD b = true ∧ (Loops_depth b).toInt < 4 then (Loops_depth b).toInt + 1 else (Loops_depth b).toInt := by
  refine h (fun o1 => ∀ b, b < 40 → (o1 b).toInt = if a1.toBitVec.getLsbD b = true ∧ (Loops_depth b).toInt < 4 then (Loops_depth b).toInt + 1 else (Loops_depth b).toInt) ?_
  · intro x1 h1
    exact fun b hb => (dn_tl h1 0 (by decide) b hb).2 (Nat.zero_le _)
theorem lg_tl {Code_blocks : Int32} {c1 : Int64} {Loops_goals_1 : Nat → Int64} {Loops_sources_1 : Nat → Int64} {s1 : Int32} {s2 : Nat → Int32} {k : Nat} {e1 : Nat → Int32} (hn : Code_blocks.toInt = (P.1 : Int)) (hP : P.1 ≤ 40) (hG : ∀ x y : Nat, x < 40 → y < 64 → ((Loops_goals_1 x).toBitVec.getLsbD y = true ↔ Ed P x y)) (hS : ∀ x y : Nat, x < 40 → y < 64 → ((Loops_sources_1 x).toBitVec.getLsbD y = true ↔ Ed P y x)) (hE : ∀ a b, Ed P a b → a < 40 ∧ b < 40) (hA : ∀ b, b < 64 → (c1.toBitVec.getLsbD b = true ↔ rAll P b)) (h : tl_Loops_find_75 Code_blocks c1 Loops_goals_1 Loops_sources_1 s1 s2 k e1) : ∀ m : Nat, s1.toInt = (m : Int) → m ≤ P.1 → ∀ b, b < 40 → (s2 b).toInt = ((min 4 (cntP (fun h => InL P h b) m) : Nat) : Int) → (e1 b).toInt = (dpt P b : Int) := by
  refine h (fun s1 s2 _ e1 => ∀ m : Nat, s1.toInt = (m : Int) → m ≤ P.1 → ∀ b, b < 40 → (s2 b).toInt = ((min 4 (cntP (fun h => InL P h b) m) : Nat) : Int) → (e1 b).toInt = (dpt P b : Int)) ?_ ?_
  · intro l4_1 Loops_depth_1 h1 h2
    intro m hm hmP b hb hz
    have e : m = P.1 := by omega
    rw [hz, e]; rfl
  · intro l4_1 Loops_depth_1 x1 x2 x3 k e1 h1 h2 h3 h4 h5 ih
    intro m hm hmP b hb hz
    refine ih (m + 1) (by omega) (by omega) b hb ?_
    have l := lp_tr hm (by omega) hG hS hE hA h3 b (by omega)
    rw [dn_tr h4 b hb, hz]
    show _ = ((min 4 (cntP (fun h => InL P h b) m + @ite Nat (InL P m b) (Classical.propDecidable (InL P m b)) 1 0) : Nat) : Int)
    by_cases c : InL P m b
    · rw [if_pos c]
      by_cases d : ((min 4 (cntP (fun h => InL P h b) m) : Nat) : Int) < 4
      · rw [if_pos ⟨l.mpr c, d⟩]; omega
      · rw [if_neg (fun z => d z.2)]; omega
    · rw [if_neg c, if_neg (fun z => c (l.mp z.1)), Nat.add_zero]
theorem fz_tl {a1 : Int64} {s1 : Int32} {s2 : Nat → Int64} {k : Nat} {e1 : Nat → Int64} (h : tl_Arrays_fill_6 a1 s1 s2 k e1) : 0 ≤ s1.toInt → ∀ i : Nat, i < 40 → ((i : Int) < s1.toInt → s2 i = a1) → e1 i = a1 := by
  refine h (fun s1 s2 _ e1 => 0 ≤ s1.toInt → ∀ i : Nat, i < 40 → ((i : Int) < s1.toInt → s2 i = a1) → e1 i = a1) ?_ ?_
  · intro l3_1 z_1 h1 h2
    exact fun _ i hi hz => hz (by omega)
  · intro l3_1 z_1 x1 x2 k e1 h1 h2 h3 h4 ih
    intro h0 i hi hz
    refine ih (by omega) i hi (fun hl => ?_)
    have en : (l3_1.toNatClampNeg : Int) = l3_1.toInt := g_nn h0
    rw [h3]
    unfold vp_updL
    by_cases e : i = l3_1.toNatClampNeg
    · rw [if_pos e]
    · rw [if_neg e]; exact hz (by omega)
theorem fz_tr {a1 : Int64} {p : Nat → Int64} {o1 : Nat → Int64} (h : tr_Arrays_fill a1 p o1) : ∀ i : Nat, i < 40 → o1 i = a1 := by
  refine h (fun o1 => ∀ i : Nat, i < 40 → o1 i = a1) ?_
  · intro x1 h1
    exact fun i hi => fz_tl h1 (by decide) i hi (fun z => by rw [px_0] at z; omega)
theorem fz2_tl {a1 : Int32} {s1 : Int32} {s2 : Nat → Int32} {k : Nat} {e1 : Nat → Int32} (h : tl_Arrays_fill2_5 a1 s1 s2 k e1) : 0 ≤ s1.toInt → ∀ i : Nat, i < 40 → ((i : Int) < s1.toInt → s2 i = a1) → e1 i = a1 := by
  refine h (fun s1 s2 _ e1 => 0 ≤ s1.toInt → ∀ i : Nat, i < 40 → ((i : Int) < s1.toInt → s2 i = a1) → e1 i = a1) ?_ ?_
  · intro l2_1 z_1 h1 h2
    exact fun _ i hi hz => hz (by omega)
  · intro l2_1 z_1 x1 x2 k e1 h1 h2 h3 h4 ih
    intro h0 i hi hz
    refine ih (by omega) i hi (fun hl => ?_)
    have en : (l2_1.toNatClampNeg : Int) = l2_1.toInt := g_nn h0
    rw [h3]
    unfold upd
    by_cases e : i = l2_1.toNatClampNeg
    · rw [if_pos e]
    · rw [if_neg e]; exact hz (by omega)
theorem fz2_tr {a1 : Int32} {p : Nat → Int32} {o1 : Nat → Int32} (h : tr_Arrays_fill2 a1 p o1) : ∀ i : Nat, i < 40 → o1 i = a1 := by
  refine h (fun o1 => ∀ i : Nat, i < 40 → o1 i = a1) ?_
  · intro x1 h1
    exact fun i hi => fz2_tl h1 (by decide) i hi (fun z => by rw [px_0] at z; omega)
theorem lo_tr {Code_blocks : Int32} {Loops_goals : Nat → Int64} {Loops_sources : Nat → Int64} {Loops_depth : Nat → Int32} {Code_firstGoal : Nat → Int32} {Code_secondGoal : Nat → Int32} {o1 : Nat → Int64} {o2 : Nat → Int64} {o3 : Nat → Int32} (hn : Code_blocks.toInt = (P.1 : Int)) (hP : P.1 ≤ 40) (hg : (∀ b : Nat, b < P.1 → (Code_firstGoal b).toInt = P.2.2.2 b 0 ∧ (Code_secondGoal b).toInt = P.2.2.2 b 1)) (hO : glO P) (h : tr_Loops_find Code_blocks Loops_goals Loops_sources Loops_depth Code_firstGoal Code_secondGoal o1 o2 o3) : ∀ b, b < 40 → (o3 b).toInt = (dpt P b : Int) := by
  have hE : ∀ a b, Ed P a b → a < 40 ∧ b < 40 := fun a b ⟨h1, i, h2, h3⟩ => by
    have := (hO a i h1 h2 (by omega)).2
    omega
  refine h (fun o1 o2 o3 => ∀ b, b < 40 → (o3 b).toInt = (dpt P b : Int)) ?_
  · intro x1 x2 x3 x4 x5 x6 x7 h1 h2 h3 h4 h5 h6
    have f1 := fz_tr h1
    have f2 := fz_tr h2
    have f3 := fz2_tr h3
    have l := lf_tl hn hP hg h4 0 (by decide)
    have hG : ∀ x y : Nat, x < 40 → y < 64 → ((x4 x).toBitVec.getLsbD y = true ↔ Ed P x y) := fun x y hx hy => by
      rw [(l x y hy).1, f1 x hx]
      exact ⟨fun z => z.elim (fun w => by simp at w) (fun w => w.2.2), fun z => Or.inr ⟨Nat.zero_le _, (hE x y z).2, z⟩⟩
    have hS : ∀ x y : Nat, x < 40 → y < 64 → ((x5 x).toBitVec.getLsbD y = true ↔ Ed P y x) := fun x y hx hy => by
      rw [(l x y hy).2, f2 x hx]
      exact ⟨fun z => z.elim (fun w => by simp at w) (fun w => w.2.2), fun z => Or.inr ⟨Nat.zero_le _, hx, z⟩⟩
    have one : ∀ b, b < 64 → ((1 : Int64).toBitVec.getLsbD b = true ↔ b = 0) := fun b hb => by
      have : ∀ j : Fin 64, (Int64.toBitVec 1).getLsbD j.val = decide (j.val = 0) := by decide +kernel
      rw [this ⟨b, hb⟩, decide_eq_true_iff]
    have hA := wk_tr (E := Ed P) (S := fun b => b = 0) (N := fun _ => False) hG hE one (fun b hb => by omega) (fun b hb => by simp) h5
    intro b hb
    refine lg_tl hn hP hG hS hE hA h6 0 (by decide) (Nat.zero_le _) b hb ?_
    rw [f3 b hb]
    rfl
end LOC
end
section
/-- a line that sets v behind which u is alive, a copy of u apart -/
def jdA (P : gPg) (sl : Bool) (Nm b j v u : Nat) : Prop := v < Nm ∧ u < Nm ∧ seR sl (P.2.2.1 b j) v ∧ Lv P sl u b (j + 1) ∧ u ≠ v ∧ ¬ (sl = false ∧ P.2.2.1 b j 0 = 14 ∧ P.2.2.1 b j 2 = (u : Int))
def Jn (P : gPg) (sl : Bool) (Nm v u : Nat) : Prop := ∃ b j, b < P.1 ∧ j < P.2.1 b ∧ (jdA P sl Nm b j v u ∨ jdA P sl Nm b j u v)
def Sd (P : gPg) (sl : Bool) (Nm v : Nat) : Prop := v < Nm ∧ ∃ b j, b < P.1 ∧ j < P.2.1 b ∧ (usR sl (P.2.2.1 b j) v ∨ seR sl (P.2.2.1 b j) v)
theorem Sd_iff {P : gPg} {sl : Bool} {Nm v : Nat} : Sd P sl Nm v ↔ v < Nm ∧ ∃ b, b < P.1 ∧ (usd P sl v b ∨ std P sl v b) := by
  constructor
  · rintro ⟨h0, b, j, h1, h2, h3⟩
    refine ⟨h0, b, h1, ?_⟩
    by_cases c : std P sl v b
    · exact Or.inr c
    · rcases h3 with h3 | h3
      · exact Or.inl ⟨j, h2, h3, fun k hk hs => c ⟨k, by omega, hs⟩⟩
      · exact Or.inr ⟨j, h2, h3⟩
  · rintro ⟨h0, b, h1, ⟨j, h2, h3, _⟩ | ⟨j, h2, h3⟩⟩
    · exact ⟨h0, b, j, h1, h2, Or.inl h3⟩
    · exact ⟨h0, b, j, h1, h2, Or.inr h3⟩
/-- bits counted, word by word -/
def bsm (f : Nat → Int64) (a : Nat) : Nat → Int
  | 0 => 0
  | w + 1 => bsm f a w + (lb_bc (f (a + w))).toInt
def isD (Q : Nat → Prop) (W : Nat) (d : Int) : Prop := ∃ (f : Nat → Int64) (a : Nat), (∀ v, v < 64 * W → (gbit f (64 * a + v) = true ↔ Q v)) ∧ d = bsm f a W
theorem bsm_c {f g : Nat → Int64} {a c : Nat} : ∀ {W : Nat}, (∀ w, w < W → f (a + w) = g (c + w)) → bsm f a W = bsm g c W
  | 0, _ => rfl
  | W + 1, h => by
    show bsm f a W + (lb_bc (f (a + W))).toInt = bsm g c W + (lb_bc (g (c + W))).toInt
    rw [bsm_c (fun w hw => h w (by omega)), h W (Nat.lt_succ_self W)]
theorem bsm_z {f : Nat → Int64} {a W : Nat} : ∀ {k : Nat}, (∀ w, W ≤ w → w < W + k → f (a + w) = 0) → bsm f a (W + k) = bsm f a W
  | 0, _ => rfl
  | k + 1, h => by
    show bsm f a (W + k) + (lb_bc (f (a + (W + k)))).toInt = bsm f a W
    rw [bsm_z (fun w h1 h2 => h w h1 (by omega)), h (W + k) (by omega) (by omega)]
    have z : (lb_bc 0).toInt = 0 := by decide
    rw [z, Int.add_zero]
theorem wd_eq {f g : Nat → Int64} {a c w : Nat} (h : ∀ v, v / 64 = w → gbit f (64 * a + v) = gbit g (64 * c + v)) : f (a + w) = g (c + w) := by
  refine bit_eq (fun n hn => ?_)
  have q := h (64 * w + n) (by omega)
  unfold gbit at q
  rw [show (64 * a + (64 * w + n)) / 64 = a + w by omega, show (64 * c + (64 * w + n)) / 64 = c + w by omega, show (64 * a + (64 * w + n)) % 64 = n by omega, show (64 * c + (64 * w + n)) % 64 = n by omega] at q
  exact q
theorem isD_u {Q : Nat → Prop} {W V : Nat} {d e : Int} (h : isD Q W d) (h2 : isD Q V e) (hW : W ≤ V) (hQ : ∀ v, 64 * W ≤ v → ¬ Q v) : d = e := by
  obtain ⟨f, a, f1, f2⟩ := h
  obtain ⟨g, c, g1, g2⟩ := h2
  have e1 : V = W + (V - W) := by omega
  have z : ∀ w, W ≤ w → w < W + (V - W) → g (c + w) = 0 := fun w hw hv => by
    refine bit_eq (fun n hn => ?_)
    have q := g1 (64 * w + n) (by omega)
    unfold gbit at q
    rw [show (64 * c + (64 * w + n)) / 64 = c + w by omega, show (64 * c + (64 * w + n)) % 64 = n by omega] at q
    have n0 : (g (c + w)).toBitVec.getLsbD n = false := Bool.eq_false_iff.mpr (fun y => hQ _ (by omega) (q.mp y))
    rw [n0]; simp
  rw [f2, g2, e1, bsm_z z]
  refine bsm_c (fun w hw => wd_eq (fun v hv => ?_))
  rw [Bool.eq_iff_iff, f1 v (by omega), g1 v (by omega)]
section GR
variable {P : gPg} {sl : Bool} {W Nm : Nat}
/-- lowest bits -/
theorem bit_neg1 {x y z : Int64} (hy : y = x - 1) (hz : z = x &&& y) {j : Nat} (hj : j < 64) (h1 : x.toBitVec.getLsbD j = true) (h2 : ∀ i, i < j → x.toBitVec.getLsbD i = false) (n : Nat) (hn : n < 64) : z.toBitVec.getLsbD n = (x.toBitVec.getLsbD n && decide (n ≠ j)) := by
  have e1 : y.toBitVec = ~~~(-x.toBitVec) := by
    have q := BitVec.neg_eq_not_add (-x.toBitVec)
    rw [BitVec.neg_neg] at q
    have e : y.toBitVec = x.toBitVec - 1#64 := by rw [hy]; rfl
    rw [e]
    conv => lhs; rw [q]
    exact BitVec.add_sub_cancel _ _
  have e2 := lb_andneg h1 h2
  have e3 : (x.toBitVec &&& -x.toBitVec).getLsbD n = decide (n = j) := by
    rw [e2, BitVec.getLsbD_twoPow]
    by_cases c : n = j
    · rw [c]; simp [hj]
    · simp [c, Ne.symm c]
  rw [BitVec.getLsbD_and] at e3
  rw [hz, Int64.toBitVec_and, BitVec.getLsbD_and, e1, BitVec.getLsbD_not, decide_eq_true hn, Bool.true_and]
  cases hx : x.toBitVec.getLsbD n with
  | false => simp
  | true =>
    rw [hx, Bool.true_and] at e3
    rw [e3, Bool.true_and, Bool.true_and]
    by_cases c : n = j
    · simp [c]
    · simp [c]
theorem low_le {x : Int64} {z : Int32} (hx : ¬ x = 0) (hz : z = lb_bc ((x &&& (-x)) - 1)) : ∃ j : Nat, j < 64 ∧ z.toInt = (j : Int) ∧ x.toBitVec.getLsbD j = true ∧ ∀ i, i < j → x.toBitVec.getLsbD i = false := by
  have hx' : x.toBitVec ≠ 0#64 := fun e => hx (Int64.toBitVec_inj.mp e)
  obtain ⟨j, h1, h2, h3⟩ := lb_least hx'
  refine ⟨j, h1, ?_, h2, h3⟩
  have e : x &&& (-x) = Int64.ofNat (2 ^ j) := by
    apply Int64.toBitVec_inj.mp
    rw [Int64.toBitVec_and, Int64.toBitVec_neg, lb_andneg h2 h3]
    show BitVec.twoPow 64 j = BitVec.ofNat 64 (2 ^ j)
    apply BitVec.eq_of_toNat_eq
    rw [BitVec.toNat_twoPow, BitVec.toNat_ofNat]
  rw [hz, e]
  exact lb_bcT ⟨j, h1⟩
/-- symmetric rows -/
def symB (Nm W : Nat) (f : Nat → Int64) : Prop := ∀ x y, x < Nm → y < Nm → gbit f (64 * (x * W) + y) = gbit f (64 * (y * W) + x)
/-- q is one of the two bits of v and u -/
def bth (W v u q : Nat) : Prop := q = 64 * (v * W) + u ∨ q = 64 * (u * W) + v
theorem bth_s {v u x y : Nat} (hv : v < 64 * W) (hu : u < 64 * W) (hx : x < 64 * W) (hy : y < 64 * W) : bth W v u (64 * (x * W) + y) ↔ (x = v ∧ y = u) ∨ (x = u ∧ y = v) := by
  constructor
  · rintro (h | h)
    · exact Or.inl (reg_u h hy hu)
    · exact Or.inr (reg_u h hy hv)
  · rintro (⟨h1, h2⟩ | ⟨h1, h2⟩)
    · rw [h1, h2]; exact Or.inl rfl
    · rw [h1, h2]; exact Or.inr rfl
theorem sym_st {f g : Nat → Int64} {v : Nat} {Q : Nat → Prop} (hN : Nm ≤ 64 * W) (hs : symB Nm W f) (hv : v < 64 * W) (hQ : ∀ u, Q u → u < 64 * W) (h : ∀ q, gbit g q = true ↔ gbit f q = true ∨ ∃ u, Q u ∧ bth W v u q) : symB Nm W g := fun x y hx hy => by
  have hx' : x < 64 * W := by omega
  have hy' : y < 64 * W := by omega
  rw [Bool.eq_iff_iff, h, h, hs x y hx hy]
  constructor
  · rintro (z | ⟨u, z1, z2⟩)
    · exact Or.inl z
    · refine Or.inr ⟨u, z1, (bth_s hv (hQ u z1) hy' hx').mpr ?_⟩
      rcases (bth_s hv (hQ u z1) hx' hy').mp z2 with z | z
      · exact Or.inr ⟨z.2, z.1⟩
      · exact Or.inl ⟨z.2, z.1⟩
  · rintro (z | ⟨u, z1, z2⟩)
    · exact Or.inl z
    · refine Or.inr ⟨u, z1, (bth_s hv (hQ u z1) hx' hy').mpr ?_⟩
      rcases (bth_s hv (hQ u z1) hy' hx').mp z2 with z | z
      · exact Or.inr ⟨z.2, z.1⟩
      · exact Or.inl ⟨z.2, z.1⟩
end GR
end
section
section GRC
variable {P : gPg} {sl : Bool} {W Nm b j v w : Nat}
theorem bc_tr {a0 : Int64} {r : Int32} (h : tr_Long_bitCount a0 r) : r = lb_bc a0 := by
  refine h (fun r => r = lb_bc a0) ?_
  · intro x1 x2 x3 x4 x5 x6 x7 x8 x9 x10 x11 x12 x13 x14 x15 x16 x17 x18 h1 h2 h3 h4 h5 h6 h7 h8 h9 h10 h11 h12 h13 h14 h15 h16 h17 h18
    subst h18 h17 h16 h15 h14 h13 h12 h11 h10 h9 h8 h7 h6 h5 h4 h3 h2 h1
    rfl
theorem lw_tr {a0 : Int64} {r : Int32} (hx : ¬ a0 = 0) (h : tr_SpillForge_lowestBit a0 r) : ∃ j : Nat, j < 64 ∧ r.toInt = (j : Int) ∧ a0.toBitVec.getLsbD j = true ∧ ∀ i, i < j → a0.toBitVec.getLsbD i = false := by
  refine h (fun r => ∃ j : Nat, j < 64 ∧ r.toInt = (j : Int) ∧ a0.toBitVec.getLsbD j = true ∧ ∀ i, i < j → a0.toBitVec.getLsbD i = false) ?_
  · intro x1 x2 x3 x4 h1 h2 h3 h4 h5
    have q := bc_tr h5
    rw [h3, h2, h1] at q
    exact low_le hx q
theorem jl1_tl {l3_1 : Int32} {a1 : Int32} {a2 : Int32} {Graph_words : Int32} {s1 : Int32} {s2 : Int64} {s3 : Nat → Int64} {k : Nat} {e1 : Nat → Int64} (hW : Graph_words.toInt = (W : Int)) (hv : a1.toInt = (v : Int)) (hw : l3_1.toInt = (w : Int)) (hw2 : w < 12) (h : tl_Graph_joinToLive_42 l3_1 a1 a2 Graph_words s1 s2 s3 k e1) : ∀ n : Nat, s1.toInt = (n : Int) → (∀ i, i < n → s2.toBitVec.getLsbD i = false) → ∀ q, gbit e1 q = true ↔ gbit s3 q = true ∨ ∃ u, (u / 64 = w ∧ s2.toBitVec.getLsbD (u % 64) = true ∧ u ≠ v ∧ (u : Int) ≠ a2.toInt) ∧ bth W v u q := by
  refine h (fun s1 s2 s3 _ e1 => ∀ n : Nat, s1.toInt = (n : Int) → (∀ i, i < n → s2.toBitVec.getLsbD i = false) → ∀ q, gbit e1 q = true ↔ gbit s3 q = true ∨ ∃ u, (u / 64 = w ∧ s2.toBitVec.getLsbD (u % 64) = true ∧ u ≠ v ∧ (u : Int) ≠ a2.toInt) ∧ bth W v u q) ?_ ?_ ?_ ?_ ?_
  · intro l6_2 l4_2 Graph_joined_2 h1 h2
    intro n hn hz q
    refine ⟨Or.inl, fun z => z.elim id (fun ⟨u, z1, _⟩ => ?_)⟩
    have z2 := z1.2.1
    rw [hz (u % 64) (by have := Nat.mod_lt u (show 64 > 0 by decide); omega)] at z2
    cases z2
  · intro l6_2 l4_2 Graph_joined_2 h1 h2 h3
    intro n hn hz q
    refine ⟨Or.inl, fun z => z.elim id (fun ⟨u, z1, _⟩ => ?_)⟩
    have z2 := z1.2.1
    rw [h3] at z2
    simp at z2
  · intro l6_2 l4_2 Graph_joined_2 x1 x2 x3 x4 x5 x6 k e1 h1 h2 h3 h4 h5 h6 h7 h8 h9 h10 h11 ih
    intro n hn hz
    obtain ⟨z, z1, z2, z3, z4⟩ := lw_tr h3 h6
    have zn : n ≤ z := by
      by_cases c : z < n
      · rw [hz z c] at z3; cases z3
      · omega
    have cl := bit_neg1 h8 h9 z1 z3 z4
    have e3 : x3.toInt = ((64 * w + z : Nat) : Int) := by omega
    have hz' : ∀ i, i < n + 1 → x5.toBitVec.getLsbD i = false := fun i hi => by
      rw [cl i (by omega)]
      by_cases c : i = z
      · simp [c]
      · rw [z4 i (by omega), Bool.false_and]
    have i1 := ih (n + 1) (by omega) hz'
    have bq : ∀ u, u / 64 = w → (x5.toBitVec.getLsbD (u % 64) = true ↔ l4_2.toBitVec.getLsbD (u % 64) = true ∧ u ≠ 64 * w + z) := fun u hu => by
      rw [cl (u % 64) (Nat.mod_lt _ (by decide)), Bool.and_eq_true, decide_eq_true_iff]
      exact ⟨fun a => ⟨a.1, fun c => a.2 (by omega)⟩, fun a => ⟨a.1, fun c => a.2 (by omega)⟩⟩
    intro q
    rw [i1 q]
    constructor
    · rintro (k | ⟨u, ⟨k1, k2, k3⟩, k4⟩)
      · exact Or.inl k
      · exact Or.inr ⟨u, ⟨k1, ((bq u k1).mp k2).1, k3⟩, k4⟩
    · rintro (k | ⟨u, ⟨k1, k2, k3⟩, k4⟩)
      · exact Or.inl k
      · exact Or.inr ⟨u, ⟨k1, (bq u k1).mpr ⟨k2, fun c => by omega⟩, k3⟩, k4⟩
  · intro l6_2 l4_2 Graph_joined_2 x1 x2 x3 x4 x5 x6 k e1 h1 h2 h3 h4 h5 h6 h7 h8 h9 h10 h11 h12 ih
    intro n hn hz
    obtain ⟨z, z1, z2, z3, z4⟩ := lw_tr h3 h6
    have zn : n ≤ z := by
      by_cases c : z < n
      · rw [hz z c] at z3; cases z3
      · omega
    have cl := bit_neg1 h8 h9 z1 z3 z4
    have e3 : x3.toInt = ((64 * w + z : Nat) : Int) := by omega
    have hz' : ∀ i, i < n + 1 → x5.toBitVec.getLsbD i = false := fun i hi => by
      rw [cl i (by omega)]
      by_cases c : i = z
      · simp [c]
      · rw [z4 i (by omega), Bool.false_and]
    have i1 := ih (n + 1) (by omega) hz'
    have bq : ∀ u, u / 64 = w → (x5.toBitVec.getLsbD (u % 64) = true ↔ l4_2.toBitVec.getLsbD (u % 64) = true ∧ u ≠ 64 * w + z) := fun u hu => by
      rw [cl (u % 64) (Nat.mod_lt _ (by decide)), Bool.and_eq_true, decide_eq_true_iff]
      exact ⟨fun a => ⟨a.1, fun c => a.2 (by omega)⟩, fun a => ⟨a.1, fun c => a.2 (by omega)⟩⟩
    intro q
    rw [i1 q]
    constructor
    · rintro (k | ⟨u, ⟨k1, k2, k3⟩, k4⟩)
      · exact Or.inl k
      · exact Or.inr ⟨u, ⟨k1, ((bq u k1).mp k2).1, k3⟩, k4⟩
    · rintro (k | ⟨u, ⟨k1, k2, k3⟩, k4⟩)
      · exact Or.inl k
      · exact Or.inr ⟨u, ⟨k1, (bq u k1).mpr ⟨k2, fun c => by omega⟩, k3⟩, k4⟩
  · intro l6_2 l4_2 Graph_joined_2 x1 x2 x3 x4 x5 x6 x7 x8 x9 x10 x11 x12 x13 x14 x15 x16 x17 x18 x19 k e1 h1 h2 h3 h4 h5 h6 h7 h8 h9 h10 h11 h12 h13 h14 h15 h16 h17 h18 h19 h20 h21 h22 h23 h24 h25 ih
    intro n hn hz
    obtain ⟨z, z1, z2, z3, z4⟩ := lw_tr h3 h6
    have zn : n ≤ z := by
      by_cases c : z < n
      · rw [hz z c] at z3; cases z3
      · omega
    have cl := bit_neg1 h8 h9 z1 z3 z4
    have e3 : x3.toInt = ((64 * w + z : Nat) : Int) := by omega
    have hz' : ∀ i, i < n + 1 → x5.toBitVec.getLsbD i = false := fun i hi => by
      rw [cl i (by omega)]
      by_cases c : i = z
      · simp [c]
      · rw [z4 i (by omega), Bool.false_and]
    have i1 := ih (n + 1) (by omega) hz'
    have bq : ∀ u, u / 64 = w → (x5.toBitVec.getLsbD (u % 64) = true ↔ l4_2.toBitVec.getLsbD (u % 64) = true ∧ u ≠ 64 * w + z) := fun u hu => by
      rw [cl (u % 64) (Nat.mod_lt _ (by decide)), Bool.and_eq_true, decide_eq_true_iff]
      exact ⟨fun a => ⟨a.1, fun c => a.2 (by omega)⟩, fun a => ⟨a.1, fun c => a.2 (by omega)⟩⟩
    intro q
    have ep : x6.toInt = ((v * W : Nat) : Int) := by rw [h12, hv, hW]; exact (Int.natCast_mul _ _).symm
    have eq : x12.toInt = (((64 * w + z) * W : Nat) : Int) := by rw [h18, e3, hW]; exact (Int.natCast_mul _ _).symm
    have g1 := gbit_or (f := Graph_joined_2) (a := v * W) (m := 64 * w + z) h15 e3 (i := x7) (by omega) (by rw [h16, h14]) h17 q
    have g2 := gbit_or (f := x11) (a := (64 * w + z) * W) (m := v) h22 hv (i := x14) (by omega) (by rw [h23, h21]) h24 q
    rw [i1 q, g2, g1, Bool.or_eq_true, Bool.or_eq_true, decide_eq_true_iff, decide_eq_true_iff]
    constructor
    · rintro (((k | k) | k) | ⟨u, ⟨k1, k2, k3⟩, k4⟩)
      · exact Or.inl k
      · exact Or.inr ⟨64 * w + z, ⟨by omega, by rw [show (64 * w + z) % 64 = z by omega]; exact z3, by omega, by omega⟩, Or.inl k⟩
      · exact Or.inr ⟨64 * w + z, ⟨by omega, by rw [show (64 * w + z) % 64 = z by omega]; exact z3, by omega, by omega⟩, Or.inr k⟩
      · exact Or.inr ⟨u, ⟨k1, ((bq u k1).mp k2).1, k3⟩, k4⟩
    · rintro (k | ⟨u, ⟨k1, k2, k3⟩, k4⟩)
      · exact Or.inl (Or.inl (Or.inl k))
      · by_cases c : u = 64 * w + z
        · rw [c] at k4
          rcases k4 with k4 | k4
          · exact Or.inl (Or.inl (Or.inr k4))
          · exact Or.inl (Or.inr k4)
        · exact Or.inr ⟨u, ⟨k1, (bq u k1).mpr ⟨k2, c⟩, k3⟩, k4⟩
theorem jl2_tl {Graph_words : Int32} {Live_now : Nat → Int64} {a1 : Int32} {a2 : Int32} {s1 : Int32} {s2 : Nat → Int64} {k : Nat} {e1 : Nat → Int64} (hW : Graph_words.toInt = (W : Int)) (hW2 : W ≤ 12) (hN : Nm ≤ 64 * W) (hnow : ∀ u, u < 64 * W → gbit Live_now u = true → u < Nm) (hv : a1.toInt = (v : Int)) (hv2 : v < Nm) (h : tl_Graph_joinToLive_2 Graph_words Live_now a1 a2 s1 s2 k e1) : ∀ m : Nat, s1.toInt = (m : Int) → symB Nm W s2 → ∀ q, gbit e1 q = true ↔ gbit s2 q = true ∨ ∃ u, (m ≤ u / 64 ∧ u < 64 * W ∧ gbit Live_now u = true ∧ u ≠ v ∧ (u : Int) ≠ a2.toInt) ∧ bth W v u q := by
  refine h (fun s1 s2 _ e1 => ∀ m : Nat, s1.toInt = (m : Int) → symB Nm W s2 → ∀ q, gbit e1 q = true ↔ gbit s2 q = true ∨ ∃ u, (m ≤ u / 64 ∧ u < 64 * W ∧ gbit Live_now u = true ∧ u ≠ v ∧ (u : Int) ≠ a2.toInt) ∧ bth W v u q) ?_ ?_
  · intro l3_1 Graph_joined_1 h1 h2
    intro m hm _ q
    exact ⟨Or.inl, fun z => z.elim id (fun ⟨u, z1, _⟩ => by omega)⟩
  · intro l3_1 Graph_joined_1 x1 x2 x3 x4 x5 x6 x7 x8 k e1 h1 h2 h3 h4 h5 h6 h7 h8 h9 h10 ih
    intro m hm hs
    have ep : x2.toInt = ((v * W : Nat) : Int) := by rw [h4, hv, hW]; exact (Int.natCast_mul _ _).symm
    have ei : x3.toNatClampNeg = v * W + m := nnE (by omega)
    rw [nnE hm] at h3
    rw [ei] at h6
    have st := jl1_tl hW hv hm (by omega) h9 0 (by decide) (fun i hi => by omega)
    have bq : ∀ u, u / 64 = m → (x6.toBitVec.getLsbD (u % 64) = true ↔ gbit Live_now u = true ∧ ¬ gbit Graph_joined_1 (64 * (v * W) + u) = true) := fun u hu => by
      unfold gbit
      rw [bit_and h8, bit_not h7 _ (Nat.mod_lt _ (by decide)), h3, h6, Bool.and_eq_true, Bool.not_eq_true', ← Bool.not_eq_true, hu, show (64 * (v * W) + u) / 64 = v * W + m by omega, show (64 * (v * W) + u) % 64 = u % 64 by omega]
    have s1 : ∀ q, gbit x7 q = true ↔ gbit Graph_joined_1 q = true ∨ ∃ u, (u / 64 = m ∧ u < 64 * W ∧ gbit Live_now u = true ∧ u ≠ v ∧ (u : Int) ≠ a2.toInt) ∧ bth W v u q := fun q => by
      rw [st q]
      constructor
      · rintro (z | ⟨u, ⟨z1, z2, z3⟩, z4⟩)
        · exact Or.inl z
        · exact Or.inr ⟨u, ⟨z1, by omega, ((bq u z1).mp z2).1, z3⟩, z4⟩
      · rintro (z | ⟨u, ⟨z1, z0, z2, z3⟩, z4⟩)
        · exact Or.inl z
        · by_cases c : gbit Graph_joined_1 (64 * (v * W) + u) = true
          · refine Or.inl ?_
            rcases z4 with z4 | z4
            · rw [z4]; exact c
            · rw [z4, hs u v (hnow u z0 z2) hv2]; exact c
          · exact Or.inr ⟨u, ⟨z1, (bq u z1).mpr ⟨z2, c⟩, z3⟩, z4⟩
    have hs' := sym_st hN hs (by omega) (fun u z => z.2.1) s1
    intro q
    rw [ih (m + 1) (by omega) hs' q, s1 q]
    constructor
    · rintro ((z | ⟨u, z1, z2⟩) | ⟨u, z1, z2⟩)
      · exact Or.inl z
      · exact Or.inr ⟨u, ⟨by omega, z1.2⟩, z2⟩
      · exact Or.inr ⟨u, ⟨by omega, z1.2⟩, z2⟩
    · rintro (z | ⟨u, z1, z2⟩)
      · exact Or.inl (Or.inl z)
      · by_cases c : u / 64 = m
        · exact Or.inl (Or.inr ⟨u, ⟨c, z1.2⟩, z2⟩)
        · exact Or.inr ⟨u, ⟨by omega, z1.2⟩, z2⟩
theorem jl_tr {a1 : Int32} {a2 : Int32} {Graph_words : Int32} {Graph_joined : Nat → Int64} {Live_now : Nat → Int64} {o1 : Nat → Int64} (hW : Graph_words.toInt = (W : Int)) (hW2 : W ≤ 12) (hN : Nm ≤ 64 * W) (hnow : ∀ u, u < 64 * W → gbit Live_now u = true → u < Nm) (hv : a1.toInt = (v : Int)) (hv2 : v < Nm) (hs : symB Nm W Graph_joined) (h : tr_Graph_joinToLive a1 a2 Graph_words Graph_joined Live_now o1) : symB Nm W o1 ∧ ∀ q, gbit o1 q = true ↔ gbit Graph_joined q = true ∨ ∃ u, (u < 64 * W ∧ gbit Live_now u = true ∧ u ≠ v ∧ (u : Int) ≠ a2.toInt) ∧ bth W v u q := by
  refine h (fun o1 => symB Nm W o1 ∧ ∀ q, gbit o1 q = true ↔ gbit Graph_joined q = true ∨ ∃ u, (u < 64 * W ∧ gbit Live_now u = true ∧ u ≠ v ∧ (u : Int) ≠ a2.toInt) ∧ bth W v u q) ?_
  · intro x1 h1
    have q := jl2_tl hW hW2 hN hnow hv hv2 h1 0 (by decide) hs
    have q2 : ∀ q, gbit x1 q = true ↔ gbit Graph_joined q = true ∨ ∃ u, (u < 64 * W ∧ gbit Live_now u = true ∧ u ≠ v ∧ (u : Int) ≠ a2.toInt) ∧ bth W v u q := fun k => by
      rw [q k]
      exact ⟨fun z => z.elim Or.inl (fun ⟨u, z1, z2⟩ => Or.inr ⟨u, z1.2, z2⟩), fun z => z.elim Or.inl (fun ⟨u, z1, z2⟩ => Or.inr ⟨u, ⟨Nat.zero_le _, z1⟩, z2⟩)⟩
    exact ⟨sym_st hN hs (by omega) (fun u z => z.1) q2, q2⟩
theorem rv_tr {a1 nm : Int32} {f x : Nat → Int64} (h : tr_Live_revive a1 nm f x) (hN : nm.toInt = (Nm : Int)) : ∀ q : Nat, gbit x q = true ↔ gbit f q = true ∨ (q < Nm ∧ a1.toInt = (q : Int)) := by
  refine h (fun x => ∀ q : Nat, gbit x q = true ↔ gbit f q = true ∨ (q < Nm ∧ a1.toInt = (q : Int))) ?_ ?_ ?_
  · intro h1
    exact fun q => ⟨Or.inl, fun z => z.elim id (fun y => by omega)⟩
  · intro h1 h2
    exact fun q => ⟨Or.inl, fun z => z.elim id (fun y => by omega)⟩
  · intro x1 x2 x3 x4 x5 h1 h2 h3 h4 h5 h6 h7
    intro q
    have em : a1.toInt = ((a1.toInt.toNat : Nat) : Int) := (Int.toNat_of_nonneg h1).symm
    have r := gbit_or (f := f) (a := 0) (m := a1.toInt.toNat) h5 em (i := x1) (by omega) (by rw [h6, h4]) h7 q
    rw [r, Bool.or_eq_true, decide_eq_true_iff]
    exact ⟨fun z => z.elim Or.inl (fun y => Or.inr (by omega)), fun z => z.elim Or.inl (fun y => Or.inr (by omega))⟩
theorem so2_tr {a2 : Int32} {Live_names : Int32} {Live_ofSlots : Int32} {Live_now : Nat → Int64} {Code_op : Nat → Int32} {Code_set : Nat → Int32} {Code_left : Nat → Int32} {Code_right : Nat → Int32} {Code_rightNumber : Nat → Int32} {o1 : Nat → Int64} {bl li : Int32} {fi fg sg cln : Nat → Int32} (hc : cdP bl li fi fg sg Code_op Code_set Code_left cln Code_right Code_rightNumber P) (hb : b < P.1) (hj : j < P.2.1 b) (hi : a2.toNatClampNeg = fsm P.2.1 b + j) (hsl : sl = decide (Live_ofSlots.toInt ≠ 0)) (hN : Live_names.toInt = (Nm : Int)) (h : tr_Live_stepOver a2 Live_names Live_ofSlots Live_now Code_op Code_set Code_left Code_right Code_rightNumber o1) : ∀ q : Nat, gbit o1 q = true ↔ (q < Nm ∧ usR sl (P.2.2.1 b j) q) ∨ (gbit Live_now q = true ∧ ¬ (q < Nm ∧ seR sl (P.2.2.1 b j) q)) := by
  refine h (fun o1 => ∀ q : Nat, gbit o1 q = true ↔ (q < Nm ∧ usR sl (P.2.2.1 b j) q) ∨ (gbit Live_now q = true ∧ ¬ (q < Nm ∧ seR sl (P.2.2.1 b j) q))) ?_ ?_ ?_ ?_ ?_ ?_ ?_ ?_
  · intro x1 x2 x3 x4 x5 h1 h2 h3 h4 h5 h6
    have f1 := fU_tr2 hc hb hj hi hsl h3
    have f2 := sU_tr2 hc hb hj hi hsl h5
    have f3 := sB_tr2 hc hb hj hi hsl h1
    have r1 := rv_tr h4 hN
    have r2 := rv_tr h6 hN
    intro q
    rw [r2 q, r1 q, usR_iff, seR_iff, ← f1, ← f2, ← f3]
    have n0 := iN_0 h2
    constructor
    · rintro ((k | k) | k)
      · exact Or.inr ⟨k, fun y => n0 (by omega)⟩
      · exact Or.inl ⟨k.1, Or.inl k.2⟩
      · exact Or.inl ⟨k.1, Or.inr k.2⟩
    · rintro (⟨k1, k | k⟩ | ⟨k1, k2⟩)
      · exact Or.inl (Or.inr ⟨k1, k⟩)
      · exact Or.inr ⟨k1, k⟩
      · exact Or.inl (Or.inl k1)
  · intro x1 x2 x3 x4 h1 h2 h3 h4 h5 h6
    have f1 := fU_tr2 hc hb hj hi hsl h3
    have f2 := sU_tr2 hc hb hj hi hsl h5
    have f3 := sB_tr2 hc hb hj hi hsl h1
    have r1 := rv_tr h4 hN
    have r2 := rv_tr h6 hN
    intro q
    rw [r2 q, r1 q, usR_iff, seR_iff, ← f1, ← f2, ← f3]
    have n0 := iN_0 h2
    constructor
    · rintro ((k | k) | k)
      · exact Or.inr ⟨k, fun y => n0 (by omega)⟩
      · exact Or.inl ⟨k.1, Or.inl k.2⟩
      · exact Or.inl ⟨k.1, Or.inr k.2⟩
    · rintro (⟨k1, k | k⟩ | ⟨k1, k2⟩)
      · exact Or.inl (Or.inr ⟨k1, k⟩)
      · exact Or.inr ⟨k1, k⟩
      · exact Or.inl (Or.inl k1)
  · intro x1 x2 x3 h1 h2 h3 h4 h5 h6
    have f1 := fU_tr2 hc hb hj hi hsl h3
    have f2 := sU_tr2 hc hb hj hi hsl h5
    have f3 := sB_tr2 hc hb hj hi hsl h1
    have r1 := rv_tr h4 hN
    have r2 := rv_tr h6 hN
    intro q
    rw [r2 q, r1 q, usR_iff, seR_iff, ← f1, ← f2, ← f3]
    have n0 := iN_0 h2
    constructor
    · rintro ((k | k) | k)
      · exact Or.inr ⟨k, fun y => n0 (by omega)⟩
      · exact Or.inl ⟨k.1, Or.inl k.2⟩
      · exact Or.inl ⟨k.1, Or.inr k.2⟩
    · rintro (⟨k1, k | k⟩ | ⟨k1, k2⟩)
      · exact Or.inl (Or.inr ⟨k1, k⟩)
      · exact Or.inr ⟨k1, k⟩
      · exact Or.inl (Or.inl k1)
  · intro x1 x2 x3 x4 x5 x6 x7 x8 x9 x10 x11 h1 h2 h3 h4 h5 h6 h7 h8 h9 h10 h11 h12
    have f1 := fU_tr2 hc hb hj hi hsl h9
    have f2 := sU_tr2 hc hb hj hi hsl h11
    have f3 := sB_tr2 hc hb hj hi hsl h1
    have r1 := rv_tr h10 hN
    have r2 := rv_tr h12 hN
    intro q
    rw [r2 q, r1 q, usR_iff, seR_iff, ← f1, ← f2, ← f3]
    have n1 := iN_1 h2
    have em : x1.toInt = ((x1.toInt.toNat : Nat) : Int) := (Int.toNat_of_nonneg n1.1).symm
    have g := gbit_clr (f := Live_now) (a := 0) (m := x1.toInt.toNat) h5 em (i := x2) (by omega) h6 (by rw [h7, h4]) h8 q
    rw [g, Bool.and_eq_true, Bool.not_eq_true', decide_eq_false_iff_not]
    constructor
    · rintro ((⟨k1, k2⟩ | k) | k)
      · exact Or.inr ⟨k1, fun y => k2 (by omega)⟩
      · exact Or.inl ⟨k.1, Or.inl k.2⟩
      · exact Or.inl ⟨k.1, Or.inr k.2⟩
    · rintro (⟨k1, k | k⟩ | ⟨k1, k2⟩)
      · exact Or.inl (Or.inr ⟨k1, k⟩)
      · exact Or.inr ⟨k1, k⟩
      · exact Or.inl (Or.inl ⟨k1, fun y => k2 (by omega)⟩)
  · intro x1 x2 x3 x4 x5 x6 x7 x8 x9 x10 h1 h2 h3 h4 h5 h6 h7 h8 h9 h10 h11 h12
    have f1 := fU_tr2 hc hb hj hi hsl h9
    have f2 := sU_tr2 hc hb hj hi hsl h11
    have f3 := sB_tr2 hc hb hj hi hsl h1
    have r1 := rv_tr h10 hN
    have r2 := rv_tr h12 hN
    intro q
    rw [r2 q, r1 q, usR_iff, seR_iff, ← f1, ← f2, ← f3]
    have n1 := iN_1 h2
    have em : x1.toInt = ((x1.toInt.toNat : Nat) : Int) := (Int.toNat_of_nonneg n1.1).symm
    have g := gbit_clr (f := Live_now) (a := 0) (m := x1.toInt.toNat) h5 em (i := x2) (by omega) h6 (by rw [h7, h4]) h8 q
    rw [g, Bool.and_eq_true, Bool.not_eq_true', decide_eq_false_iff_not]
    constructor
    · rintro ((⟨k1, k2⟩ | k) | k)
      · exact Or.inr ⟨k1, fun y => k2 (by omega)⟩
      · exact Or.inl ⟨k.1, Or.inl k.2⟩
      · exact Or.inl ⟨k.1, Or.inr k.2⟩
    · rintro (⟨k1, k | k⟩ | ⟨k1, k2⟩)
      · exact Or.inl (Or.inr ⟨k1, k⟩)
      · exact Or.inr ⟨k1, k⟩
      · exact Or.inl (Or.inl ⟨k1, fun y => k2 (by omega)⟩)
  · intro x1 x2 x3 x4 x5 x6 x7 x8 x9 h1 h2 h3 h4 h5 h6 h7 h8 h9 h10 h11 h12
    have f1 := fU_tr2 hc hb hj hi hsl h9
    have f2 := sU_tr2 hc hb hj hi hsl h11
    have f3 := sB_tr2 hc hb hj hi hsl h1
    have r1 := rv_tr h10 hN
    have r2 := rv_tr h12 hN
    intro q
    rw [r2 q, r1 q, usR_iff, seR_iff, ← f1, ← f2, ← f3]
    have n1 := iN_1 h2
    have em : x1.toInt = ((x1.toInt.toNat : Nat) : Int) := (Int.toNat_of_nonneg n1.1).symm
    have g := gbit_clr (f := Live_now) (a := 0) (m := x1.toInt.toNat) h5 em (i := x2) (by omega) h6 (by rw [h7, h4]) h8 q
    rw [g, Bool.and_eq_true, Bool.not_eq_true', decide_eq_false_iff_not]
    constructor
    · rintro ((⟨k1, k2⟩ | k) | k)
      · exact Or.inr ⟨k1, fun y => k2 (by omega)⟩
      · exact Or.inl ⟨k.1, Or.inl k.2⟩
      · exact Or.inl ⟨k.1, Or.inr k.2⟩
    · rintro (⟨k1, k | k⟩ | ⟨k1, k2⟩)
      · exact Or.inl (Or.inr ⟨k1, k⟩)
      · exact Or.inr ⟨k1, k⟩
      · exact Or.inl (Or.inl ⟨k1, fun y => k2 (by omega)⟩)
  · intro x1 x2 h1 h2 h3 h4 h5 h6
    have f1 := fU_tr2 hc hb hj hi hsl h3
    have f2 := sU_tr2 hc hb hj hi hsl h5
    have f3 := sB_tr2 hc hb hj hi hsl h1
    have r1 := rv_tr h4 hN
    have r2 := rv_tr h6 hN
    intro q
    rw [r2 q, r1 q, usR_iff, seR_iff, ← f1, ← f2, ← f3]
    have n0 := iN_0 h2
    constructor
    · rintro ((k | k) | k)
      · exact Or.inr ⟨k, fun y => n0 (by omega)⟩
      · exact Or.inl ⟨k.1, Or.inl k.2⟩
      · exact Or.inl ⟨k.1, Or.inr k.2⟩
    · rintro (⟨k1, k | k⟩ | ⟨k1, k2⟩)
      · exact Or.inl (Or.inr ⟨k1, k⟩)
      · exact Or.inr ⟨k1, k⟩
      · exact Or.inl (Or.inl k1)
  · intro x1 x2 x3 h1 h2 h3 h4 h5 h6
    have f1 := fU_tr2 hc hb hj hi hsl h3
    have f2 := sU_tr2 hc hb hj hi hsl h5
    have f3 := sB_tr2 hc hb hj hi hsl h1
    have r1 := rv_tr h4 hN
    have r2 := rv_tr h6 hN
    intro q
    rw [r2 q, r1 q, usR_iff, seR_iff, ← f1, ← f2, ← f3]
    have n0 := iN_0 h2
    constructor
    · rintro ((k | k) | k)
      · exact Or.inr ⟨k, fun y => n0 (by omega)⟩
      · exact Or.inl ⟨k.1, Or.inl k.2⟩
      · exact Or.inl ⟨k.1, Or.inr k.2⟩
    · rintro (⟨k1, k | k⟩ | ⟨k1, k2⟩)
      · exact Or.inl (Or.inr ⟨k1, k⟩)
      · exact Or.inr ⟨k1, k⟩
      · exact Or.inl (Or.inl k1)
theorem lv_back {f g : Nat → Int64} (hb : b < P.1) (hj : j < P.2.1 b) (hf : ∀ u, u < 64 * W → (gbit f u = true ↔ u < Nm ∧ Lv P sl u b (j + 1))) (hg : ∀ q : Nat, gbit g q = true ↔ (q < Nm ∧ usR sl (P.2.2.1 b j) q) ∨ (gbit f q = true ∧ ¬ (q < Nm ∧ seR sl (P.2.2.1 b j) q))) : ∀ u, u < 64 * W → (gbit g u = true ↔ u < Nm ∧ Lv P sl u b j) := fun u hu => by
  rw [hg u, hf u hu, Lv_row hb hj]
  constructor
  · rintro (⟨h1, h2⟩ | ⟨⟨h1, h2⟩, h3⟩)
    · exact ⟨h1, Or.inl h2⟩
    · exact ⟨h1, Or.inr ⟨fun z => h3 ⟨h1, z⟩, h2⟩⟩
  · rintro ⟨h1, h2 | ⟨h2, h3⟩⟩
    · exact Or.inl ⟨h1, h2⟩
    · exact Or.inr ⟨⟨h1, h3⟩, fun z => h2 z.2⟩
theorem cpR_tr {i : Int32} {op st lf : Nat → Int32} {r : Int32} (h : tr_Code_copiesRegister2 i op st lf r) : (r.toInt = 1 ∧ (op i.toNatClampNeg).toInt = 14 ∧ 0 ≤ (st i.toNatClampNeg).toInt ∧ 0 ≤ (lf i.toNatClampNeg).toInt) ∨ (r.toInt = 0 ∧ ¬ ((op i.toNatClampNeg).toInt = 14 ∧ 0 ≤ (st i.toNatClampNeg).toInt ∧ 0 ≤ (lf i.toNatClampNeg).toInt)) := by
  refine h (fun r => (r.toInt = 1 ∧ (op i.toNatClampNeg).toInt = 14 ∧ 0 ≤ (st i.toNatClampNeg).toInt ∧ 0 ≤ (lf i.toNatClampNeg).toInt) ∨ (r.toInt = 0 ∧ ¬ ((op i.toNatClampNeg).toInt = 14 ∧ 0 ≤ (st i.toNatClampNeg).toInt ∧ 0 ≤ (lf i.toNatClampNeg).toInt))) ?_ ?_ ?_ ?_
  · intro x1 h1 h2 h3
    rw [← h1]
    exact Or.inr ⟨px_0, by omega⟩
  · intro x1 x2 h1 h2 h3 h4 h5
    rw [← h1, ← h4]
    exact Or.inr ⟨px_0, by omega⟩
  · intro x1 x2 x3 h1 h2 h3 h4 h5 h6 h7
    rw [← h1, ← h4, ← h6]
    exact Or.inr ⟨px_0, by omega⟩
  · intro x1 x2 x3 h1 h2 h3 h4 h5 h6 h7
    rw [← h1, ← h4, ← h6]
    exact Or.inl ⟨px_1, by omega, by omega, by omega⟩
/-- joined by the lines below j of block b -/
def jbQ (P : gPg) (sl : Bool) (Nm b j x y : Nat) : Prop := ∃ k, k < j ∧ (jdA P sl Nm b k x y ∨ jdA P sl Nm b k y x)
theorem jb_one {f g : Nat → Int64} {s e : Nat → Int64} {q : Int} (hW : Nm ≤ 64 * W) (hv : v < Nm) (hset : seR sl (P.2.2.1 b j) v) (hone : ∀ x, seR sl (P.2.2.1 b j) x → x = v) (hexc : ∀ u : Nat, u < Nm → u ≠ v → (((u : Int) ≠ q) ↔ ¬ (sl = false ∧ P.2.2.1 b j 0 = 14 ∧ P.2.2.1 b j 2 = (u : Int)))) (hf : ∀ u, u < 64 * W → (gbit f u = true ↔ u < Nm ∧ Lv P sl u b (j + 1))) (hj : ∀ k, gbit g k = true ↔ gbit s k = true ∨ ∃ u, (u < 64 * W ∧ gbit f u = true ∧ u ≠ v ∧ (u : Int) ≠ q) ∧ bth W v u k)
    (ih : ∀ x y, x < Nm → y < 64 * W → (gbit e (64 * (x * W) + y) = true ↔ gbit g (64 * (x * W) + y) = true ∨ jbQ P sl Nm b j x y)) : ∀ x y, x < Nm → y < 64 * W → (gbit e (64 * (x * W) + y) = true ↔ gbit s (64 * (x * W) + y) = true ∨ jbQ P sl Nm b (j + 1) x y) := fun x y hx hy => by
  have hx' : x < 64 * W := by omega
  rw [ih x y hx hy, hj]
  have key : ∀ u, u < 64 * W → ((gbit f u = true ∧ u ≠ v ∧ (u : Int) ≠ q) ↔ jdA P sl Nm b j v u) := fun u hu => by
    rw [hf u hu]
    constructor
    · rintro ⟨⟨h1, h2⟩, h3, h4⟩
      exact ⟨hv, h1, hset, h2, h3, (hexc u h1 h3).mp h4⟩
    · rintro ⟨_, h1, _, h2, h3, h4⟩
      exact ⟨⟨h1, h2⟩, h3, (hexc u h1 h3).mpr h4⟩
  constructor
  · rintro ((h | ⟨u, ⟨h0, h1⟩, h2⟩) | ⟨k, h1, h2⟩)
    · exact Or.inl h
    · have ja := (key u h0).mp h1
      rcases (bth_s (by omega) h0 hx' hy).mp h2 with ⟨a1, a2⟩ | ⟨a1, a2⟩
      · rw [a1, a2]; exact Or.inr ⟨j, Nat.lt_succ_self j, Or.inl ja⟩
      · rw [a1, a2]; exact Or.inr ⟨j, Nat.lt_succ_self j, Or.inr ja⟩
    · exact Or.inr ⟨k, by omega, h2⟩
  · rintro (h | ⟨k, h1, h2⟩)
    · exact Or.inl (Or.inl h)
    · by_cases c : k = j
      · rw [c] at h2
        rcases h2 with h2 | h2
        · have e1 := hone x h2.2.2.1
          rw [e1] at h2 ⊢
          exact Or.inl (Or.inr ⟨y, ⟨hy, (key y hy).mpr h2⟩, Or.inl rfl⟩)
        · have e1 := hone y h2.2.2.1
          rw [e1] at h2 ⊢
          exact Or.inl (Or.inr ⟨x, ⟨hx', (key x hx').mpr h2⟩, Or.inr rfl⟩)
      · exact Or.inr ⟨k, by omega, h2⟩
theorem jb_no {s e : Nat → Int64} (hn : ∀ x, x < Nm → ¬ seR sl (P.2.2.1 b j) x) (ih : ∀ x y, x < Nm → y < 64 * W → (gbit e (64 * (x * W) + y) = true ↔ gbit s (64 * (x * W) + y) = true ∨ jbQ P sl Nm b j x y)) : ∀ x y, x < Nm → y < 64 * W → (gbit e (64 * (x * W) + y) = true ↔ gbit s (64 * (x * W) + y) = true ∨ jbQ P sl Nm b (j + 1) x y) := fun x y hx hy => by
  rw [ih x y hx hy]
  constructor
  · rintro (h | ⟨k, h1, h2⟩)
    · exact Or.inl h
    · exact Or.inr ⟨k, by omega, h2⟩
  · rintro (h | ⟨k, h1, h2⟩)
    · exact Or.inl h
    · by_cases c : k = j
      · rw [c] at h2
        rcases h2 with h2 | h2
        · exact absurd h2.2.2.1 (hn x h2.1)
        · exact absurd h2.2.2.1 (hn y h2.1)
      · exact Or.inr ⟨k, by omega, h2⟩
theorem jb_tl {Code_first : Nat → Int32} {a2 : Int32} {a3 : Int32} {Code_op : Nat → Int32} {Code_set : Nat → Int32} {Code_rightNumber : Nat → Int32} {Live_names : Int32} {Live_ofSlots : Int32} {Code_left : Nat → Int32} {Code_right : Nat → Int32} {Graph_words : Int32} {s1 : Int32} {s2 : Nat → Int64} {s3 : Nat → Int64} {k : Nat} {e1 : Nat → Int64} {e2 : Nat → Int64} {bl : Int32} {li : Int32} {fg : Nat → Int32} {sg : Nat → Int32} {cln : Nat → Int32} (hc : cdP bl li Code_first fg sg Code_op Code_set Code_left cln Code_right Code_rightNumber P) (ha : a2.toInt = (b : Int)) (hb : b < P.1) (hN : Live_names.toInt = (Nm : Int)) (hW : Graph_words.toInt = (W : Int)) (hW2 : W ≤ 12) (hNW : Nm ≤ 64 * W) (hsl : sl = decide (Live_ofSlots.toInt ≠ 0)) (hsl3 : sl = decide (a3.toInt ≠ 0)) (h : tl_Graph_joinBlock_18 Code_first a2 a3 Code_op Code_set Code_rightNumber Live_names Live_ofSlots Code_left Code_right Graph_words s1 s2 s3 k e1 e2) : ∀ j : Nat, j ≤ P.2.1 b → s1.toInt = ((fsm P.2.1 b + j : Nat) : Int) - 1 → (∀ u, u < 64 * W → (gbit s2 u = true ↔ u < Nm ∧ Lv P sl u b j)) → symB Nm W s3 → symB Nm W e1 ∧ ∀ x y, x < Nm → y < 64 * W → (gbit e1 (64 * (x * W) + y) = true ↔ gbit s3 (64 * (x * W) + y) = true ∨ jbQ P sl Nm b j x y) := by
  have cf := (hc.2.2.1 b hb).1
  refine h (fun s1 s2 s3 _ e1 e2 => ∀ j : Nat, j ≤ P.2.1 b → s1.toInt = ((fsm P.2.1 b + j : Nat) : Int) - 1 → (∀ u, u < 64 * W → (gbit s2 u = true ↔ u < Nm ∧ Lv P sl u b j)) → symB Nm W s3 → symB Nm W e1 ∧ ∀ x y, x < Nm → y < 64 * W → (gbit e1 (64 * (x * W) + y) = true ↔ gbit s3 (64 * (x * W) + y) = true ∨ jbQ P sl Nm b j x y)) ?_ ?_ ?_ ?_ ?_ ?_
  · intro l4_1 Live_now_1 Graph_joined_1 x1 h1 h2 h3 h4
    intro j hj hl hn hs
    rw [nnE ha] at h2
    rw [← h2] at cf
    have e : j = 0 := by omega
    rw [e]
    exact ⟨hs, fun x y _ _ => ⟨Or.inl, fun z => z.elim id (fun ⟨k, hk, _⟩ => by omega)⟩⟩
  · intro l4_1 Live_now_1 Graph_joined_1 x1 x2 x3 x4 k e1 e2 h1 h2 h3 h4 h5 h6 h7 h8 ih
    intro j hj hl hn hs
    rw [nnE ha] at h2
    rw [← h2] at cf
    obtain ⟨i, ei⟩ : ∃ i, j = i + 1 := ⟨j - 1, by omega⟩
    rw [ei] at hl hn ⊢
    have hi2 : i < P.2.1 b := by omega
    have hi : l4_1.toNatClampNeg = fsm P.2.1 b + i := nnE (by omega)
    have f3 := sB_tr2 hc hb hi2 hi hsl3 h5
    have so := so2_tr hc hb hi2 hi hsl hN h7
    have lb := lv_back hb hi2 hn so
    have n0 := iN_0 h6
    obtain ⟨r1, r2⟩ := ih i (by omega) (by omega) lb hs
    exact ⟨r1, jb_no (fun x hx hse => n0 (by have := seR_iff.mp hse; omega)) r2⟩
  · intro l4_1 Live_now_1 Graph_joined_1 x1 x2 x3 x4 x5 k e1 e2 h1 h2 h3 h4 h5 h6 h7 h8 h9 h10 h11 ih
    intro j hj hl hn hs
    rw [nnE ha] at h2
    rw [← h2] at cf
    obtain ⟨i, ei⟩ : ∃ i, j = i + 1 := ⟨j - 1, by omega⟩
    rw [ei] at hl hn ⊢
    have hi2 : i < P.2.1 b := by omega
    have hi : l4_1.toNatClampNeg = fsm P.2.1 b + i := nnE (by omega)
    have f3 := sB_tr2 hc hb hi2 hi hsl3 h5
    have so := so2_tr hc hb hi2 hi hsl hN h10
    have lb := lv_back hb hi2 hn so
    have n1 := iN_1 h6
    have em : x2.toInt = ((x2.toInt.toNat : Nat) : Int) := (Int.toNat_of_nonneg n1.1).symm
    obtain ⟨s1', s2'⟩ := jl_tr (v := x2.toInt.toNat) hW hW2 hNW (fun u hu z => ((hn u hu).mp z).1) em (by omega) hs h9
    obtain ⟨r1, r2⟩ := ih i (by omega) (by omega) lb s1'
    refine ⟨r1, jb_one (v := x2.toInt.toNat) hNW (by omega) (seR_iff.mpr (by omega)) (fun x hx => by have := seR_iff.mp hx; omega) ?_ hn s2' r2⟩
    intro u hu hne
    obtain ⟨d0, d1, d2, d3, d4, d5⟩ := hc.2.2.2 b i hb hi2
    rcases cpR_tr h8 with ⟨c0, -⟩ | ⟨-, c1⟩
    · exact absurd c0 (by decide)
    · rw [hi, d0, d1, d2] at c1
      constructor
      · intro _ y
        have f4 : seV sl (P.2.2.1 b i) = P.2.2.1 b i 1 := by unfold seV; rw [y.1]; rfl
        exact c1 ⟨y.2.1, by omega, by omega⟩
      · intro _ y
        exact hne (by omega)
  · intro l4_1 Live_now_1 Graph_joined_1 x1 x2 x3 x4 x5 x6 k e1 e2 h1 h2 h3 h4 h5 h6 h7 h8 h9 h10 h11 h12 ih
    intro j hj hl hn hs
    rw [nnE ha] at h2
    rw [← h2] at cf
    obtain ⟨i, ei⟩ : ∃ i, j = i + 1 := ⟨j - 1, by omega⟩
    rw [ei] at hl hn ⊢
    have hi2 : i < P.2.1 b := by omega
    have hi : l4_1.toNatClampNeg = fsm P.2.1 b + i := nnE (by omega)
    have f3 := sB_tr2 hc hb hi2 hi hsl3 h5
    have so := so2_tr hc hb hi2 hi hsl hN h11
    have lb := lv_back hb hi2 hn so
    have n1 := iN_1 h6
    have em : x2.toInt = ((x2.toInt.toNat : Nat) : Int) := (Int.toNat_of_nonneg n1.1).symm
    obtain ⟨s1', s2'⟩ := jl_tr (v := x2.toInt.toNat) hW hW2 hNW (fun u hu z => ((hn u hu).mp z).1) em (by omega) hs h10
    obtain ⟨r1, r2⟩ := ih i (by omega) (by omega) lb s1'
    refine ⟨r1, jb_one (v := x2.toInt.toNat) hNW (by omega) (seR_iff.mpr (by omega)) (fun x hx => by have := seR_iff.mp hx; omega) ?_ hn s2' r2⟩
    intro u hu hne
    obtain ⟨d0, d1, d2, d3, d4, d5⟩ := hc.2.2.2 b i hb hi2
    rcases cpR_tr h8 with ⟨-, c1, c2, c3⟩ | ⟨c0, -⟩
    · rw [hi] at h9 c1 c3
      have e0 : sl = false := by rw [hsl3]; exact decide_eq_false (by have p1 := h7.1; have p2 := h7.2; omega)
      rw [h9, d2]
      rw [d0] at c1
      constructor
      · exact fun z y => z y.2.2.symm
      · exact fun z y => z ⟨e0, c1, y.symm⟩
    · exact absurd c0 (by decide)
  · intro l4_1 Live_now_1 Graph_joined_1 x1 x2 x3 k e1 e2 h1 h2 h3 h4 h5 h6 h7 h8 ih
    intro j hj hl hn hs
    rw [nnE ha] at h2
    rw [← h2] at cf
    obtain ⟨i, ei⟩ : ∃ i, j = i + 1 := ⟨j - 1, by omega⟩
    rw [ei] at hl hn ⊢
    have hi2 : i < P.2.1 b := by omega
    have hi : l4_1.toNatClampNeg = fsm P.2.1 b + i := nnE (by omega)
    have f3 := sB_tr2 hc hb hi2 hi hsl3 h5
    have so := so2_tr hc hb hi2 hi hsl hN h7
    have lb := lv_back hb hi2 hn so
    have n0 := iN_0 h6
    obtain ⟨r1, r2⟩ := ih i (by omega) (by omega) lb hs
    exact ⟨r1, jb_no (fun x hx hse => n0 (by have := seR_iff.mp hse; omega)) r2⟩
  · intro l4_1 Live_now_1 Graph_joined_1 x1 x2 x3 x4 x5 k e1 e2 h1 h2 h3 h4 h5 h6 h7 h8 h9 h10 ih
    intro j hj hl hn hs
    rw [nnE ha] at h2
    rw [← h2] at cf
    obtain ⟨i, ei⟩ : ∃ i, j = i + 1 := ⟨j - 1, by omega⟩
    rw [ei] at hl hn ⊢
    have hi2 : i < P.2.1 b := by omega
    have hi : l4_1.toNatClampNeg = fsm P.2.1 b + i := nnE (by omega)
    have f3 := sB_tr2 hc hb hi2 hi hsl3 h5
    have so := so2_tr hc hb hi2 hi hsl hN h9
    have lb := lv_back hb hi2 hn so
    have n1 := iN_1 h6
    have em : x2.toInt = ((x2.toInt.toNat : Nat) : Int) := (Int.toNat_of_nonneg n1.1).symm
    obtain ⟨s1', s2'⟩ := jl_tr (v := x2.toInt.toNat) hW hW2 hNW (fun u hu z => ((hn u hu).mp z).1) em (by omega) hs h8
    obtain ⟨r1, r2⟩ := ih i (by omega) (by omega) lb s1'
    refine ⟨r1, jb_one (v := x2.toInt.toNat) hNW (by omega) (seR_iff.mpr (by omega)) (fun x hx => by have := seR_iff.mp hx; omega) ?_ hn s2' r2⟩
    intro u hu hne
    obtain ⟨d0, d1, d2, d3, d4, d5⟩ := hc.2.2.2 b i hb hi2
    have e0 : sl = true := by rw [hsl3]; exact decide_eq_true (by have p1 := h7.1; have p2 := h7.2; omega)
    constructor
    · intro _ y
      rw [e0] at y; cases y.1
    · intro _ y
      exact hne (by omega)
theorem jb_tl_2 {Code_first : Nat → Int32} {a2 : Int32} {a3 : Int32} {Code_op : Nat → Int32} {Code_set : Nat → Int32} {Code_rightNumber : Nat → Int32} {Live_names : Int32} {Live_ofSlots : Int32} {Code_left : Nat → Int32} {Code_right : Nat → Int32} {Graph_words : Int32} {s1 : Int32} {s2 : Nat → Int64} {s3 : Nat → Int64} {k : Nat} {e1 : Nat → Int64} {e2 : Nat → Int64} {bl : Int32} {li : Int32} {fg : Nat → Int32} {sg : Nat → Int32} {cln : Nat → Int32} (hc : cdP bl li Code_first fg sg Code_op Code_set Code_left cln Code_right Code_rightNumber P) (ha : a2.toInt = (b : Int)) (hb : b < P.1) (hN : Live_names.toInt = (Nm : Int)) (hW : Graph_words.toInt = (W : Int)) (hW2 : W ≤ 12) (hNW : Nm ≤ 64 * W) (hsl : sl = decide (Live_ofSlots.toInt ≠ 0)) (hsl3 : sl = decide (a3.toInt ≠ 0)) (h : tl_Graph_joinBlock_18_2 Code_first a2 a3 Code_op Code_set Code_rightNumber Live_names Live_ofSlots Code_left Code_right Graph_words s1 s2 s3 k e1 e2) : ∀ j : Nat, j ≤ P.2.1 b → s1.toInt = ((fsm P.2.1 b + j : Nat) : Int) - 1 → (∀ u, u < 64 * W → (gbit s2 u = true ↔ u < Nm ∧ Lv P sl u b j)) → symB Nm W s3 → symB Nm W e1 ∧ ∀ x y, x < Nm → y < 64 * W → (gbit e1 (64 * (x * W) + y) = true ↔ gbit s3 (64 * (x * W) + y) = true ∨ jbQ P sl Nm b j x y) := by
  have cf := (hc.2.2.1 b hb).1
  refine h (fun s1 s2 s3 _ e1 e2 => ∀ j : Nat, j ≤ P.2.1 b → s1.toInt = ((fsm P.2.1 b + j : Nat) : Int) - 1 → (∀ u, u < 64 * W → (gbit s2 u = true ↔ u < Nm ∧ Lv P sl u b j)) → symB Nm W s3 → symB Nm W e1 ∧ ∀ x y, x < Nm → y < 64 * W → (gbit e1 (64 * (x * W) + y) = true ↔ gbit s3 (64 * (x * W) + y) = true ∨ jbQ P sl Nm b j x y)) ?_ ?_ ?_ ?_ ?_ ?_
  · intro l4_1 Live_now_1 Graph_joined_1 x1 h1 h2 h3 h4
    intro j hj hl hn hs
    rw [nnE ha] at h2
    rw [← h2] at cf
    have e : j = 0 := by omega
    rw [e]
    exact ⟨hs, fun x y _ _ => ⟨Or.inl, fun z => z.elim id (fun ⟨k, hk, _⟩ => by omega)⟩⟩
  · intro l4_1 Live_now_1 Graph_joined_1 x1 x2 x3 x4 k e1 e2 h1 h2 h3 h4 h5 h6 h7 h8 ih
    intro j hj hl hn hs
    rw [nnE ha] at h2
    rw [← h2] at cf
    obtain ⟨i, ei⟩ : ∃ i, j = i + 1 := ⟨j - 1, by omega⟩
    rw [ei] at hl hn ⊢
    have hi2 : i < P.2.1 b := by omega
    have hi : l4_1.toNatClampNeg = fsm P.2.1 b + i := nnE (by omega)
    have f3 := sB_tr2 hc hb hi2 hi hsl3 h5
    have so := so2_tr hc hb hi2 hi hsl hN h7
    have lb := lv_back hb hi2 hn so
    have n0 := iN_0 h6
    obtain ⟨r1, r2⟩ := ih i (by omega) (by omega) lb hs
    exact ⟨r1, jb_no (fun x hx hse => n0 (by have := seR_iff.mp hse; omega)) r2⟩
  · intro l4_1 Live_now_1 Graph_joined_1 x1 x2 x3 x4 x5 k e1 e2 h1 h2 h3 h4 h5 h6 h7 h8 h9 h10 h11 ih
    intro j hj hl hn hs
    rw [nnE ha] at h2
    rw [← h2] at cf
    obtain ⟨i, ei⟩ : ∃ i, j = i + 1 := ⟨j - 1, by omega⟩
    rw [ei] at hl hn ⊢
    have hi2 : i < P.2.1 b := by omega
    have hi : l4_1.toNatClampNeg = fsm P.2.1 b + i := nnE (by omega)
    have f3 := sB_tr2 hc hb hi2 hi hsl3 h5
    have so := so2_tr hc hb hi2 hi hsl hN h10
    have lb := lv_back hb hi2 hn so
    have n1 := iN_1 h6
    have em : x2.toInt = ((x2.toInt.toNat : Nat) : Int) := (Int.toNat_of_nonneg n1.1).symm
    obtain ⟨s1', s2'⟩ := jl_tr (v := x2.toInt.toNat) hW hW2 hNW (fun u hu z => ((hn u hu).mp z).1) em (by omega) hs h9
    obtain ⟨r1, r2⟩ := ih i (by omega) (by omega) lb s1'
    refine ⟨r1, jb_one (v := x2.toInt.toNat) hNW (by omega) (seR_iff.mpr (by omega)) (fun x hx => by have := seR_iff.mp hx; omega) ?_ hn s2' r2⟩
    intro u hu hne
    obtain ⟨d0, d1, d2, d3, d4, d5⟩ := hc.2.2.2 b i hb hi2
    rcases cpR_tr h8 with ⟨c0, -⟩ | ⟨-, c1⟩
    · exact absurd c0 (by decide)
    · rw [hi, d0, d1, d2] at c1
      constructor
      · intro _ y
        have f4 : seV sl (P.2.2.1 b i) = P.2.2.1 b i 1 := by unfold seV; rw [y.1]; rfl
        exact c1 ⟨y.2.1, by omega, by omega⟩
      · intro _ y
        exact hne (by omega)
  · intro l4_1 Live_now_1 Graph_joined_1 x1 x2 x3 x4 x5 x6 k e1 e2 h1 h2 h3 h4 h5 h6 h7 h8 h9 h10 h11 h12 ih
    intro j hj hl hn hs
    rw [nnE ha] at h2
    rw [← h2] at cf
    obtain ⟨i, ei⟩ : ∃ i, j = i + 1 := ⟨j - 1, by omega⟩
    rw [ei] at hl hn ⊢
    have hi2 : i < P.2.1 b := by omega
    have hi : l4_1.toNatClampNeg = fsm P.2.1 b + i := nnE (by omega)
    have f3 := sB_tr2 hc hb hi2 hi hsl3 h5
    have so := so2_tr hc hb hi2 hi hsl hN h11
    have lb := lv_back hb hi2 hn so
    have n1 := iN_1 h6
    have em : x2.toInt = ((x2.toInt.toNat : Nat) : Int) := (Int.toNat_of_nonneg n1.1).symm
    obtain ⟨s1', s2'⟩ := jl_tr (v := x2.toInt.toNat) hW hW2 hNW (fun u hu z => ((hn u hu).mp z).1) em (by omega) hs h10
    obtain ⟨r1, r2⟩ := ih i (by omega) (by omega) lb s1'
    refine ⟨r1, jb_one (v := x2.toInt.toNat) hNW (by omega) (seR_iff.mpr (by omega)) (fun x hx => by have := seR_iff.mp hx; omega) ?_ hn s2' r2⟩
    intro u hu hne
    obtain ⟨d0, d1, d2, d3, d4, d5⟩ := hc.2.2.2 b i hb hi2
    rcases cpR_tr h8 with ⟨-, c1, c2, c3⟩ | ⟨c0, -⟩
    · rw [hi] at h9 c1 c3
      have e0 : sl = false := by rw [hsl3]; exact decide_eq_false (by have p1 := h7.1; have p2 := h7.2; omega)
      rw [h9, d2]
      rw [d0] at c1
      constructor
      · exact fun z y => z y.2.2.symm
      · exact fun z y => z ⟨e0, c1, y.symm⟩
    · exact absurd c0 (by decide)
  · intro l4_1 Live_now_1 Graph_joined_1 x1 x2 x3 k e1 e2 h1 h2 h3 h4 h5 h6 h7 h8 ih
    intro j hj hl hn hs
    rw [nnE ha] at h2
    rw [← h2] at cf
    obtain ⟨i, ei⟩ : ∃ i, j = i + 1 := ⟨j - 1, by omega⟩
    rw [ei] at hl hn ⊢
    have hi2 : i < P.2.1 b := by omega
    have hi : l4_1.toNatClampNeg = fsm P.2.1 b + i := nnE (by omega)
    have f3 := sB_tr2 hc hb hi2 hi hsl3 h5
    have so := so2_tr hc hb hi2 hi hsl hN h7
    have lb := lv_back hb hi2 hn so
    have n0 := iN_0 h6
    obtain ⟨r1, r2⟩ := ih i (by omega) (by omega) lb hs
    exact ⟨r1, jb_no (fun x hx hse => n0 (by have := seR_iff.mp hse; omega)) r2⟩
  · intro l4_1 Live_now_1 Graph_joined_1 x1 x2 x3 x4 x5 k e1 e2 h1 h2 h3 h4 h5 h6 h7 h8 h9 h10 ih
    intro j hj hl hn hs
    rw [nnE ha] at h2
    rw [← h2] at cf
    obtain ⟨i, ei⟩ : ∃ i, j = i + 1 := ⟨j - 1, by omega⟩
    rw [ei] at hl hn ⊢
    have hi2 : i < P.2.1 b := by omega
    have hi : l4_1.toNatClampNeg = fsm P.2.1 b + i := nnE (by omega)
    have f3 := sB_tr2 hc hb hi2 hi hsl3 h5
    have so := so2_tr hc hb hi2 hi hsl hN h9
    have lb := lv_back hb hi2 hn so
    have n1 := iN_1 h6
    have em : x2.toInt = ((x2.toInt.toNat : Nat) : Int) := (Int.toNat_of_nonneg n1.1).symm
    obtain ⟨s1', s2'⟩ := jl_tr (v := x2.toInt.toNat) hW hW2 hNW (fun u hu z => ((hn u hu).mp z).1) em (by omega) hs h8
    obtain ⟨r1, r2⟩ := ih i (by omega) (by omega) lb s1'
    refine ⟨r1, jb_one (v := x2.toInt.toNat) hNW (by omega) (seR_iff.mpr (by omega)) (fun x hx => by have := seR_iff.mp hx; omega) ?_ hn s2' r2⟩
    intro u hu hne
    obtain ⟨d0, d1, d2, d3, d4, d5⟩ := hc.2.2.2 b i hb hi2
    have e0 : sl = true := by rw [hsl3]; exact decide_eq_true (by have p1 := h7.1; have p2 := h7.2; omega)
    constructor
    · intro _ y
      rw [e0] at y; cases y.1
    · intro _ y
      exact hne (by omega)
end GRC
end
section
section GRB
variable {P : gPg} {sl : Bool} {W Nm b j v w : Nat}
theorem gz_tl {c1 : Int32} {c2 : Int32} {s1 : Int32} {s2 : Nat → Int64} {k : Nat} {e1 : Nat → Int64} {M : Nat} (hM : c1.toInt * c2.toInt = (M : Int)) (h : tl_Graph_build_35 c1 c2 s1 s2 k e1) : 0 ≤ s1.toInt → ∀ i : Nat, i < M → ((i : Int) < s1.toInt → s2 i = 0) → e1 i = 0 := by
  refine h (fun s1 s2 _ e1 => 0 ≤ s1.toInt → ∀ i : Nat, i < M → ((i : Int) < s1.toInt → s2 i = 0) → e1 i = 0) ?_ ?_
  · intro l4_1 Graph_joined_1 x1 h1 h2 h3
    exact fun _ i hi hz => hz (by omega)
  · intro l4_1 Graph_joined_1 x1 x2 x3 k e1 h1 h2 h3 h4 h5 ih
    intro h0 i hi hz
    refine ih (by omega) i hi (fun hl => ?_)
    have en : (l4_1.toNatClampNeg : Int) = l4_1.toInt := g_nn h0
    rw [h4]
    unfold vp_updL
    by_cases e : i = l4_1.toNatClampNeg
    · rw [if_pos e]
    · rw [if_neg e]; exact hz (by omega)
theorem st_tl {a2 : Int32} {Live_words : Int32} {a1 : Int32} {Live_used : Nat → Int64} {Live_set : Nat → Int64} {s1 : Int32} {s2 : Int64} {k : Nat} {e1 : Int64} (hW : Live_words.toInt = (W : Int)) (hw : a1.toInt = (w : Int)) (hn : a2.toInt = (P.1 : Int)) (h : tl_Live_standing_5 a2 Live_words a1 Live_used Live_set s1 s2 k e1) : ∀ m : Nat, s1.toInt = (m : Int) → ∀ n, n < 64 → (e1.toBitVec.getLsbD n = true ↔ s2.toBitVec.getLsbD n = true ∨ ∃ c, m ≤ c ∧ c < P.1 ∧ (gbit Live_used (64 * (c * W) + (64 * w + n)) = true ∨ gbit Live_set (64 * (c * W) + (64 * w + n)) = true)) := by
  refine h (fun s1 s2 _ e1 => ∀ m : Nat, s1.toInt = (m : Int) → ∀ n, n < 64 → (e1.toBitVec.getLsbD n = true ↔ s2.toBitVec.getLsbD n = true ∨ ∃ c, m ≤ c ∧ c < P.1 ∧ (gbit Live_used (64 * (c * W) + (64 * w + n)) = true ∨ gbit Live_set (64 * (c * W) + (64 * w + n)) = true))) ?_ ?_
  · intro l5_1 l3_1 h1 h2
    intro m hm n hn64
    exact ⟨Or.inl, fun z => z.elim id (fun ⟨c, z1, z2, _⟩ => by omega)⟩
  · intro l5_1 l3_1 x1 x2 x3 x4 x5 x6 x7 x8 x9 k e1 h1 h2 h3 h4 h5 h6 h7 h8 h9 h10 h11 ih
    intro m hm n hn64
    have ep : x1.toInt = ((m * W : Nat) : Int) := by rw [h3, hm, hW]; exact (Int.natCast_mul _ _).symm
    have eq : x4.toInt = ((m * W : Nat) : Int) := by rw [h6, hm, hW]; exact (Int.natCast_mul _ _).symm
    have e2 : x2.toNatClampNeg = m * W + w := nnE (by omega)
    have e5 : x5.toNatClampNeg = m * W + w := nnE (by omega)
    rw [e2] at h5
    rw [e5] at h8
    have g : ∀ f : Nat → Int64, gbit f (64 * (m * W) + (64 * w + n)) = (f (m * W + w)).toBitVec.getLsbD n := fun f => by
      unfold gbit
      rw [show (64 * (m * W) + (64 * w + n)) / 64 = m * W + w by omega, show (64 * (m * W) + (64 * w + n)) % 64 = n by omega]
    rw [ih (m + 1) (by omega) n hn64, bit_or h10, bit_or h9, h5, h8, ← g, ← g, Bool.or_eq_true, Bool.or_eq_true]
    constructor
    · rintro ((z | z) | ⟨c, z1, z2⟩)
      · exact Or.inl z
      · exact Or.inr ⟨m, Nat.le_refl _, by omega, z⟩
      · exact Or.inr ⟨c, by omega, z2⟩
    · rintro (z | ⟨c, z1, z2, z3⟩)
      · exact Or.inl (Or.inl z)
      · by_cases e : c = m
        · rw [e] at z3; exact Or.inl (Or.inr z3)
        · exact Or.inr ⟨c, by omega, z2, z3⟩
theorem sd_tr {a1 : Int32} {a2 : Int32} {Live_words : Int32} {Live_used : Nat → Int64} {Live_set : Nat → Int64} {o1 : Int64} (hW : Live_words.toInt = (W : Int)) (hw : a1.toInt = (w : Int)) (hn : a2.toInt = (P.1 : Int)) (h : tr_Live_standing a1 a2 Live_words Live_used Live_set o1) : ∀ n, n < 64 → (o1.toBitVec.getLsbD n = true ↔ ∃ c, c < P.1 ∧ (gbit Live_used (64 * (c * W) + (64 * w + n)) = true ∨ gbit Live_set (64 * (c * W) + (64 * w + n)) = true)) := by
  refine h (fun o1 => ∀ n, n < 64 → (o1.toBitVec.getLsbD n = true ↔ ∃ c, c < P.1 ∧ (gbit Live_used (64 * (c * W) + (64 * w + n)) = true ∨ gbit Live_set (64 * (c * W) + (64 * w + n)) = true))) ?_
  · intro x1 h1
    intro n hn64
    rw [st_tl hW hw hn h1 0 (by decide) n hn64]
    constructor
    · rintro (z | ⟨c, _, z⟩)
      · simp at z
      · exact ⟨c, z⟩
    · rintro ⟨c, z⟩
      exact Or.inr ⟨c, Nat.zero_le _, z⟩
theorem gs_tl {c1 : Int32} {Code_blocks : Int32} {c2 : Nat → Int64} {c3 : Nat → Int64} {s1 : Int32} {s2 : Nat → Int64} {k : Nat} {e1 : Nat → Int64} (hW : c1.toInt = (W : Int)) (hn : Code_blocks.toInt = (P.1 : Int)) (h : tl_Graph_build_66 c1 Code_blocks c2 c3 s1 s2 k e1) : ∀ m : Nat, s1.toInt = (m : Int) → ∀ v, v < 64 * W → (v / 64 < m → gbit e1 v = gbit s2 v) ∧ (m ≤ v / 64 → (gbit e1 v = true ↔ (∃ c, c < P.1 ∧ (gbit c2 (64 * (c * W) + v) = true ∨ gbit c3 (64 * (c * W) + v) = true)))) := by
  refine h (fun s1 s2 _ e1 => ∀ m : Nat, s1.toInt = (m : Int) → ∀ v, v < 64 * W → (v / 64 < m → gbit e1 v = gbit s2 v) ∧ (m ≤ v / 64 → (gbit e1 v = true ↔ (∃ c, c < P.1 ∧ (gbit c2 (64 * (c * W) + v) = true ∨ gbit c3 (64 * (c * W) + v) = true))))) ?_ ?_
  · intro l4_1 Graph_standing_1 h1 h2
    intro m hm v hv
    exact ⟨fun _ => rfl, fun z => by omega⟩
  · intro l4_1 Graph_standing_1 x1 x2 x3 k e1 h1 h2 h3 h4 h5 ih
    intro m hm v hv
    obtain ⟨i1, i2⟩ := ih (m + 1) (by omega) v hv
    rw [nnE hm] at h4
    refine ⟨fun z => by rw [i1 (by omega), h4, gbit_upd, if_neg (by omega)], fun z => ?_⟩
    by_cases e : v / 64 = m
    · rw [i1 (by omega), h4, gbit_upd, if_pos e]
      have st := sd_tr hW hm hn h3 (v % 64) (Nat.mod_lt _ (by decide))
      rw [show 64 * m + v % 64 = v by omega] at st
      exact st
    · exact i2 (by omega)
theorem jk_tr {a2 : Int32} {a3 : Int32} {Graph_words : Int32} {Code_blocks : Int32} {Code_lines : Int32} {Live_names : Int32} {Live_words : Int32} {Live_ofSlots : Int32} {Graph_joined : Nat → Int64} {Code_first : Nat → Int32} {Code_firstGoal : Nat → Int32} {Code_secondGoal : Nat → Int32} {Code_op : Nat → Int32} {Code_set : Nat → Int32} {Code_left : Nat → Int32} {Code_right : Nat → Int32} {Code_rightNumber : Nat → Int32} {Live_in : Nat → Int64} {Live_now : Nat → Int64} {o1 : Nat → Int64} {o2 : Nat → Int64} {cln : Nat → Int32} (hc : cdP Code_blocks Code_lines Code_first Code_firstGoal Code_secondGoal Code_op Code_set Code_left cln Code_right Code_rightNumber P) (ha : a2.toInt = (b : Int)) (hb : b < P.1) (hN : Live_names.toInt = (Nm : Int)) (hW : Graph_words.toInt = (W : Int)) (hW3 : Live_words.toInt = (W : Int)) (hW2 : W ≤ 12) (hNW : Nm ≤ 64 * W) (hsl : sl = decide (Live_ofSlots.toInt ≠ 0)) (hsl3 : sl = decide (a3.toInt ≠ 0)) (hli : (∀ c v, c < P.1 → v < 64 * W → (gbit Live_in (64 * (c * W) + v) = true ↔ v < Nm ∧ Lv P sl v c 0))) (hs : symB Nm W Graph_joined) (h : tr_Graph_joinBlock a2 a3 Graph_words Code_blocks Code_lines Live_names Live_words Live_ofSlots Graph_joined Code_first Code_firstGoal Code_secondGoal Code_op Code_set Code_left Code_right Code_rightNumber Live_in Live_now o1 o2) : symB Nm W o1 ∧ ∀ x y, x < Nm → y < 64 * W → (gbit o1 (64 * (x * W) + y) = true ↔ gbit Graph_joined (64 * (x * W) + y) = true ∨ jbQ P sl Nm b (P.2.1 b) x y) := by
  have eB2 : fsm P.2.1 (b + 1) = fsm P.2.1 b + P.2.1 b := rfl
  refine h (fun o1 o2 => symB Nm W o1 ∧ ∀ x y, x < Nm → y < 64 * W → (gbit o1 (64 * (x * W) + y) = true ↔ gbit Graph_joined (64 * (x * W) + y) = true ∨ jbQ P sl Nm b (P.2.1 b) x y)) ?_ ?_
  · intro x1 x2 x3 x4 h1 h2 h3 h4
    have eb := eb_tr2 (b := b) hW3 hc.1 ha (hc.2.2.1 b hb).2 h1
    have eB := bE_tr2 hc ha hb h2
    refine jb_tl hc ha hb hN hW hW2 hNW hsl hsl3 h4 (P.2.1 b) (Nat.le_refl _) (by omega) (fun u hu => ?_) hs
    rw [eb u hu, Lv_out hb]
    constructor
    · rintro ⟨i, g, z1, z2, z3, z4⟩
      obtain ⟨y1, y2⟩ := (hli g u z3 hu).mp z4
      exact ⟨y1, i, g, z1, z2, z3, y2⟩
    · rintro ⟨y1, i, g, z1, z2, z3, z4⟩
      exact ⟨i, g, z1, z2, z3, (hli g u z3 hu).mpr ⟨y1, z4⟩⟩
  · intro x1 x2 x3 x4 x5 h1 h2 h3 h4
    have eb := eb_tr2 (b := b) hW3 hc.1 ha (hc.2.2.1 b hb).2 h1
    have eB := bE_tr2 hc ha hb h2
    refine jb_tl_2 hc ha hb hN hW hW2 hNW hsl hsl3 h4 (P.2.1 b) (Nat.le_refl _) (by omega) (fun u hu => ?_) hs
    rw [eb u hu, Lv_out hb]
    constructor
    · rintro ⟨i, g, z1, z2, z3, z4⟩
      obtain ⟨y1, y2⟩ := (hli g u z3 hu).mp z4
      exact ⟨y1, i, g, z1, z2, z3, y2⟩
    · rintro ⟨y1, i, g, z1, z2, z3, z4⟩
      exact ⟨i, g, z1, z2, z3, (hli g u z3 hu).mpr ⟨y1, z4⟩⟩
theorem gk_tl {Code_blocks : Int32} {a3 : Int32} {c1 : Int32} {Code_lines : Int32} {c2 : Int32} {c3 : Int32} {Code_first : Nat → Int32} {Code_firstGoal : Nat → Int32} {Code_secondGoal : Nat → Int32} {Code_op : Nat → Int32} {Code_set : Nat → Int32} {Code_left : Nat → Int32} {Code_right : Nat → Int32} {Code_rightNumber : Nat → Int32} {c4 : Nat → Int64} {s1 : Int32} {s2 : Nat → Int64} {s3 : Nat → Int64} {k : Nat} {e1 : Nat → Int64} {e2 : Nat → Int64} {cln : Nat → Int32} (hc : cdP Code_blocks Code_lines Code_first Code_firstGoal Code_secondGoal Code_op Code_set Code_left cln Code_right Code_rightNumber P) (hN : c2.toInt = (Nm : Int)) (hW : c1.toInt = (W : Int)) (hW2 : W ≤ 12) (hNW : Nm ≤ 64 * W) (hsl : sl = decide (c3.toInt ≠ 0)) (hsl3 : sl = decide (a3.toInt ≠ 0)) (hli : (∀ c v, c < P.1 → v < 64 * W → (gbit c4 (64 * (c * W) + v) = true ↔ v < Nm ∧ Lv P sl v c 0))) (h : tl_Graph_build_104 Code_blocks a3 c1 Code_lines c2 c3 Code_first Code_firstGoal Code_secondGoal Code_op Code_set Code_left Code_right Code_rightNumber c4 s1 s2 s3 k e1 e2) : ∀ b : Nat, s1.toInt = (b : Int) → symB Nm W s2 → symB Nm W e1 ∧ ∀ x y, x < Nm → y < 64 * W → (gbit e1 (64 * (x * W) + y) = true ↔ gbit s2 (64 * (x * W) + y) = true ∨ ∃ c, b ≤ c ∧ c < P.1 ∧ jbQ P sl Nm c (P.2.1 c) x y) := by
  have cb := hc.1
  refine h (fun s1 s2 _ _ e1 _ => ∀ b : Nat, s1.toInt = (b : Int) → symB Nm W s2 → symB Nm W e1 ∧ ∀ x y, x < Nm → y < 64 * W → (gbit e1 (64 * (x * W) + y) = true ↔ gbit s2 (64 * (x * W) + y) = true ∨ ∃ c, b ≤ c ∧ c < P.1 ∧ jbQ P sl Nm c (P.2.1 c) x y)) ?_ ?_
  · intro l4_1 Graph_joined_1 Live_now_1 h1 h2
    intro b hb hs
    exact ⟨hs, fun x y _ _ => ⟨Or.inl, fun z => z.elim id (fun ⟨c, z1, z2, _⟩ => by omega)⟩⟩
  · intro l4_1 Graph_joined_1 Live_now_1 x1 x2 x3 k e1 e2 h1 h2 h3 h4 ih
    intro b hb hs
    obtain ⟨r1, r2⟩ := jk_tr hc hb (by omega) hN hW hW hW2 hNW hsl hsl3 hli hs h3
    obtain ⟨i1, i2⟩ := ih (b + 1) (by omega) r1
    refine ⟨i1, fun x y hx hy => ?_⟩
    rw [i2 x y hx hy, r2 x y hx hy]
    constructor
    · rintro ((z | z) | ⟨c, z1, z2⟩)
      · exact Or.inl z
      · exact Or.inr ⟨b, Nat.le_refl _, by omega, z⟩
      · exact Or.inr ⟨c, by omega, z2⟩
    · rintro (z | ⟨c, z1, z2, z3⟩)
      · exact Or.inl (Or.inl z)
      · by_cases e : c = b
        · rw [e] at z3; exact Or.inl (Or.inr z3)
        · exact Or.inr ⟨c, by omega, z2, z3⟩
theorem bo_tl {Graph_words : Int32} {a1 : Int32} {Graph_joined : Nat → Int64} {s1 : Int32} {s2 : Int32} {k : Nat} {e1 : Int32} (hW : Graph_words.toInt = (W : Int)) (hW2 : W ≤ 32) (hv : a1.toInt = (v : Int)) (h : tl_Graph_bitsOf_4 Graph_words a1 Graph_joined s1 s2 k e1) : ∀ m : Nat, s1.toInt = (m : Int) → m ≤ W → 0 ≤ s2.toInt → s2.toInt ≤ 127 * (m : Int) → s2.toInt = bsm Graph_joined (v * W) m → e1.toInt = bsm Graph_joined (v * W) W := by
  refine h (fun s1 s2 _ e1 => ∀ m : Nat, s1.toInt = (m : Int) → m ≤ W → 0 ≤ s2.toInt → s2.toInt ≤ 127 * (m : Int) → s2.toInt = bsm Graph_joined (v * W) m → e1.toInt = bsm Graph_joined (v * W) W) ?_ ?_
  · intro l3_1 l2_1 h1 h2
    intro m hm hmW _ _ hs
    have e : m = W := by omega
    rw [e] at hs; exact hs
  · intro l3_1 l2_1 x1 x2 x3 x4 x5 x6 k e1 h1 h2 h3 h4 h5 h6 h7 h8 h9 ih
    intro m hm hmW h0 hL hs
    have b1 := h6.1
    have b2 := h6.2
    have ep : x1.toInt = ((v * W : Nat) : Int) := by rw [h3, hv, hW]; exact (Int.natCast_mul _ _).symm
    have e2 : x2.toNatClampNeg = v * W + m := nnE (by omega)
    rw [e2] at h5
    have e4 := bc_tr h7
    rw [h5] at e4
    have e5 : x5.toInt = l2_1.toInt + x4.toInt := px_add h8 (by omega) (by omega)
    refine ih (m + 1) (by omega) (by omega) (by omega) (by omega) ?_
    show x5.toInt = bsm Graph_joined (v * W) m + (lb_bc (Graph_joined (v * W + m))).toInt
    rw [← e4, ← hs, e5]
theorem bo_tr {a1 : Int32} {Graph_words : Int32} {Graph_joined : Nat → Int64} {o1 : Int32} (hW : Graph_words.toInt = (W : Int)) (hW2 : W ≤ 32) (hv : a1.toInt = (v : Int)) (h : tr_Graph_bitsOf a1 Graph_words Graph_joined o1) : o1.toInt = bsm Graph_joined (v * W) W := by
  refine h (fun o1 => o1.toInt = bsm Graph_joined (v * W) W) ?_
  · intro x1 h1
    exact bo_tl hW hW2 hv h1 0 (by decide) (Nat.zero_le _) (by decide) (by decide) px_0
theorem gd_tl {c1 : Int32} {c2 : Int32} {Graph_joined_1 : Nat → Int64} {s1 : Int32} {s2 : Nat → Int32} {k : Nat} {e1 : Nat → Int32} (hN : c1.toInt = (Nm : Int)) (hW : c2.toInt = (W : Int)) (hW2 : W ≤ 32) (h : tl_Graph_build_130 c1 c2 Graph_joined_1 s1 s2 k e1) : ∀ m : Nat, s1.toInt = (m : Int) → ∀ v, v < Nm → (v < m → e1 v = s2 v) ∧ (m ≤ v → (e1 v).toInt = bsm Graph_joined_1 (v * W) W) := by
  refine h (fun s1 s2 _ e1 => ∀ m : Nat, s1.toInt = (m : Int) → ∀ v, v < Nm → (v < m → e1 v = s2 v) ∧ (m ≤ v → (e1 v).toInt = bsm Graph_joined_1 (v * W) W)) ?_ ?_
  · intro l4_1 Graph_degree_1 h1 h2
    intro m hm v hv
    exact ⟨fun _ => rfl, fun z => by omega⟩
  · intro l4_1 Graph_degree_1 x1 x2 x3 k e1 h1 h2 h3 h4 h5 ih
    intro m hm v hv
    obtain ⟨i1, i2⟩ := ih (m + 1) (by omega) v hv
    rw [nnE hm] at h4
    refine ⟨fun z => by rw [i1 (by omega), h4, updN (by omega)], fun z => ?_⟩
    by_cases e : v = m
    · rw [i1 (by omega), h4, e, updE]
      exact bo_tr hW hW2 hm h3
    · exact i2 (by omega)
theorem gb_tr {a2 : Int32} {a3 : Int32} {Code_blocks : Int32} {Code_lines : Int32} {Graph_joined : Nat → Int64} {Graph_standing : Nat → Int64} {Graph_degree : Nat → Int32} {Code_first : Nat → Int32} {Code_firstGoal : Nat → Int32} {Code_secondGoal : Nat → Int32} {Code_op : Nat → Int32} {Code_set : Nat → Int32} {Code_left : Nat → Int32} {Code_right : Nat → Int32} {Code_rightNumber : Nat → Int32} {Live_in : Nat → Int64} {Live_used : Nat → Int64} {Live_set : Nat → Int64} {Live_now : Nat → Int64} {o1 : Int32} {o2 : Int32} {o3 : Int32} {o4 : Int32} {o5 : Int32} {o6 : Nat → Int64} {o7 : Nat → Int64} {o8 : Nat → Int32} {o9 : Nat → Int64} {o10 : Nat → Int64} {o11 : Nat → Int64} {o12 : Nat → Int64} {cln : Nat → Int32} (hc : cdP Code_blocks Code_lines Code_first Code_firstGoal Code_secondGoal Code_op Code_set Code_left cln Code_right Code_rightNumber P) (hN : a2.toInt = (Nm : Int)) (hN2 : Nm ≤ 720) (hsl : sl = decide (a3.toInt ≠ 0)) (h : tr_Graph_build a2 a3 Code_blocks Code_lines Graph_joined Graph_standing Graph_degree Code_first Code_firstGoal Code_secondGoal Code_op Code_set Code_left Code_right Code_rightNumber Live_in Live_used Live_set Live_now o1 o2 o3 o4 o5 o6 o7 o8 o9 o10 o11 o12) : o1.toInt = (Nm : Int) ∧ o2.toInt = (((Nm + 63) / 64) : Nat) ∧ o3 = o1 ∧ o4 = o2 ∧ (∀ x y, x < Nm → y < 64 * ((Nm + 63) / 64) → (gbit o6 (64 * (x * ((Nm + 63) / 64)) + y) = true ↔ Jn P sl Nm x y)) ∧ (∀ v, v < 64 * ((Nm + 63) / 64) → (gbit o7 v = true ↔ Sd P sl Nm v)) ∧ (∀ v, v < Nm → isD (Jn P sl Nm v) ((Nm + 63) / 64) (o8 v).toInt) ∧ (∀ c v, c < P.1 → v < 64 * ((Nm + 63) / 64) → (gbit o9 (64 * (c * ((Nm + 63) / 64)) + v) = true ↔ v < Nm ∧ Lv P sl v c 0)) := by
  refine h (fun o1 o2 o3 o4 o5 o6 o7 o8 o9 o10 o11 o12 => o1.toInt = (Nm : Int) ∧ o2.toInt = (((Nm + 63) / 64) : Nat) ∧ o3 = o1 ∧ o4 = o2 ∧ (∀ x y, x < Nm → y < 64 * ((Nm + 63) / 64) → (gbit o6 (64 * (x * ((Nm + 63) / 64)) + y) = true ↔ Jn P sl Nm x y)) ∧ (∀ v, v < 64 * ((Nm + 63) / 64) → (gbit o7 v = true ↔ Sd P sl Nm v)) ∧ (∀ v, v < Nm → isD (Jn P sl Nm v) ((Nm + 63) / 64) (o8 v).toInt) ∧ (∀ c v, c < P.1 → v < 64 * ((Nm + 63) / 64) → (gbit o9 (64 * (c * ((Nm + 63) / 64)) + v) = true ↔ v < Nm ∧ Lv P sl v c 0))) ?_
  · intro x1 x2 x3 x4 x5 x6 x7 x8 x9 x10 x11 x12 h1 h2 h3 h4 h5 h6 h7 h8
    obtain ⟨e1, e2, e3, eI, eU⟩ := so_tr2 hc hN hN2 hsl h4
    have hNW : Nm ≤ 64 * ((Nm + 63) / 64) := by omega
    have z := gz_tl (M := Nm * ((Nm + 63) / 64)) (by rw [e1, e2]; exact (Int.natCast_mul _ _).symm) h5 (by decide)
    have z' : ∀ x y, x < Nm → y < 64 * ((Nm + 63) / 64) → gbit x8 (64 * (x * ((Nm + 63) / 64)) + y) = false := fun x y hx hy => by
      refine gbit_0 (z _ ?_ (fun q => by rw [px_0] at q; omega))
      have h2 : (x + 1) * ((Nm + 63) / 64) ≤ Nm * ((Nm + 63) / 64) := Nat.mul_le_mul_right _ hx
      rw [Nat.add_mul, Nat.one_mul] at h2
      omega
    have hs : symB Nm ((Nm + 63) / 64) x8 := fun x y hx hy => by rw [z' x y hx (by omega), z' y x hy (by omega)]
    obtain ⟨k1, k2⟩ := gk_tl hc e1 e2 (by omega) hNW (by rw [e3]; exact hsl) hsl eI h7 0 (by decide) hs
    have kj : ∀ x y, x < Nm → y < 64 * ((Nm + 63) / 64) → (gbit x10 (64 * (x * ((Nm + 63) / 64)) + y) = true ↔ Jn P sl Nm x y) := fun x y hx hy => by
      rw [k2 x y hx hy, z' x y hx hy]
      constructor
      · rintro (q | ⟨c, _, q1, k, q2, q3⟩)
        · cases q
        · exact ⟨c, k, q1, q2, q3⟩
      · rintro ⟨c, k, q1, q2, q3⟩
        exact Or.inr ⟨c, Nat.zero_le _, q1, k, q2, q3⟩
    refine ⟨e1, e2, rfl, rfl, kj, fun v hv => ?_, fun v hv => ?_, eI⟩
    · rw [(gs_tl e2 hc.1 h6 0 (by decide) v hv).2 (Nat.zero_le _), Sd_iff]
      constructor
      · rintro ⟨c, q1, q2 | q2⟩
        · have q3 := (eU c v q1 hv).1.mp q2
          exact ⟨q3.1, c, q1, Or.inl q3.2⟩
        · have q3 := (eU c v q1 hv).2.mp q2
          exact ⟨q3.1, c, q1, Or.inr q3.2⟩
      · rintro ⟨q0, c, q1, q2 | q2⟩
        · exact ⟨c, q1, Or.inl ((eU c v q1 hv).1.mpr ⟨q0, q2⟩)⟩
        · exact ⟨c, q1, Or.inr ((eU c v q1 hv).2.mpr ⟨q0, q2⟩)⟩
    · refine ⟨x10, v * ((Nm + 63) / 64), fun u hu => kj v u hv hu, ?_⟩
      exact (gd_tl e1 e2 (by omega) h8 0 (by decide) v hv).2 (Nat.zero_le _)
/-- what a line, a block, a program add to the weight of v -/
def wLn (l : Nat → Int) (v : Nat) (k x : Int32) : Int32 := (fun y : Int32 => if l 4 = (v : Int) then y + k else y) ((fun y : Int32 => if l 2 = (v : Int) then y + k else y) (if l 1 = (v : Int) then x + k else x))
def wBl (ls : Nat → Nat → Int) (v : Nat) (k x : Int32) : Nat → Int32
  | 0 => x
  | j + 1 => wLn (ls j) v k (wBl ls v k x j)
def f10 : Nat → Int32
  | 0 => 1
  | n + 1 => f10 n * 10
noncomputable def wPg (P : gPg) (dp : Nat → Nat) (v : Nat) : Nat → Int32
  | 0 => 0
  | b + 1 => wBl (P.2.2.1 b) v (f10 (dp b)) (wPg P dp v b) (P.2.1 b)
theorem aw_tr {a1 a2 : Int32} {f x : Nat → Int32} (h : tr_Colouring_addWeight a1 a2 f x) : ∀ v : Nat, v < 720 → x v = if a1.toInt = (v : Int) then f v + a2 else f v := by
  refine h (fun x => ∀ v : Nat, v < 720 → x v = if a1.toInt = (v : Int) then f v + a2 else f v) ?_ ?_ ?_
  · intro h1
    intro v hv
    rw [if_neg (by omega)]
  · intro h1 h2
    intro v hv
    rw [if_neg (by omega)]
  · intro x1 x2 x3 h1 h2 h3 h4 h5
    intro v hv
    have em : a1.toInt = ((a1.toInt.toNat : Nat) : Int) := (Int.toNat_of_nonneg h1).symm
    rw [nnE em] at h3 h5
    rw [h5]
    by_cases e : v = a1.toInt.toNat
    · rw [e, updE, if_pos em, h4, h3]
    · rw [updN e, if_neg (by omega)]
theorem wl_tl {l3_1 : Int32} {Code_blocks : Int32} {Code_lines : Int32} {Code_first : Nat → Int32} {Code_set : Nat → Int32} {c1 : Int32} {Code_left : Nat → Int32} {Code_right : Nat → Int32} {s1 : Int32} {s2 : Nat → Int32} {k : Nat} {e1 : Nat → Int32} {fg sg op cln rn : Nat → Int32} (hc : cdP Code_blocks Code_lines Code_first fg sg op Code_set Code_left cln Code_right rn P) (ha : l3_1.toInt = (b : Int)) (hb : b < P.1) (h : tl_Colouring_weigh_33 l3_1 Code_blocks Code_lines Code_first Code_set c1 Code_left Code_right s1 s2 k e1) : ∀ j : Nat, j ≤ P.2.1 b → s1.toInt = ((fsm P.2.1 b + j : Nat) : Int) → ∀ (v : Nat) (x : Int32), v < 720 → s2 v = wBl (P.2.2.1 b) v c1 x j → e1 v = wBl (P.2.2.1 b) v c1 x (P.2.1 b) := by
  have eB2 : fsm P.2.1 (b + 1) = fsm P.2.1 b + P.2.1 b := rfl
  refine h (fun s1 s2 _ e1 => ∀ j : Nat, j ≤ P.2.1 b → s1.toInt = ((fsm P.2.1 b + j : Nat) : Int) → ∀ (v : Nat) (x : Int32), v < 720 → s2 v = wBl (P.2.2.1 b) v c1 x j → e1 v = wBl (P.2.2.1 b) v c1 x (P.2.1 b)) ?_ ?_ ?_ ?_
  · intro l5_2 Colouring_weight_2 h1 h2 h3
    intro j hj hl v x hv hs
    have eB := bE_tr2 hc ha hb h2
    have e : j = P.2.1 b := by omega
    rw [e] at hs; exact hs
  · intro l5_2 Colouring_weight_2 x1 x2 x3 x4 x5 x6 x7 k e1 h1 h2 h3 h4 h5 h6 h7 h8 h9 h10 ih
    intro j hj hl v x hv hs
    have eB := bE_tr2 hc ha hb h2
    have hj2 : j < P.2.1 b := by omega
    have hi : l5_2.toNatClampNeg = fsm P.2.1 b + j := nnE (by omega)
    obtain ⟨d0, d1, d2, d3, d4, d5⟩ := hc.2.2.2 b j hb hj2
    rw [hi] at h4 h6 h8
    refine ih (j + 1) (by omega) (by omega) v x hv ?_
    rw [aw_tr h9 v hv, aw_tr h7 v hv, aw_tr h5 v hv, h4, h6, h8, d1, d2, d4, hs]
    rfl
  · intro l5_2 Colouring_weight_2 x1 h1 h2 h3
    intro j hj hl v x hv hs
    have eB := bE_tr2 hc ha hb h2
    have e : j = P.2.1 b := by omega
    rw [e] at hs; exact hs
  · intro l5_2 Colouring_weight_2 x1 x2 x3 x4 x5 x6 x7 x8 k e1 h1 h2 h3 h4 h5 h6 h7 h8 h9 h10 ih
    intro j hj hl v x hv hs
    have eB := bE_tr2 hc ha hb h2
    have hj2 : j < P.2.1 b := by omega
    have hi : l5_2.toNatClampNeg = fsm P.2.1 b + j := nnE (by omega)
    obtain ⟨d0, d1, d2, d3, d4, d5⟩ := hc.2.2.2 b j hb hj2
    rw [hi] at h4 h6 h8
    refine ih (j + 1) (by omega) (by omega) v x hv ?_
    rw [aw_tr h9 v hv, aw_tr h7 v hv, aw_tr h5 v hv, h4, h6, h8, d1, d2, d4, hs]
    rfl
theorem ld_tr {a r : Int32} {d : Nat → Int32} (h : tr_Loops_depth a d r) (ha : a.toInt = (b : Int)) (hb : b < 40) : r = d b := by
  refine h (fun r => r = d b) ?_ ?_ ?_
  · intro h1
    omega
  · intro h1 h2
    omega
  · intro x1 h1 h2 h3
    rw [nnE ha] at h3; exact h3
theorem fa_tl {a1 : Int32} {Loops_depth : Nat → Int32} {s1 : Int32} {s2 : Int32} {k : Nat} {e1 : Int32} {dd : Nat} (ha : a1.toInt = (b : Int)) (hb : b < 40) (hd : (Loops_depth b).toInt = (dd : Int)) (h : tl_Loops_factor_4 a1 Loops_depth s1 s2 k e1) : ∀ m : Nat, s1.toInt = (m : Int) → m ≤ dd → s2 = f10 m → e1 = f10 dd := by
  refine h (fun s1 s2 _ e1 => ∀ m : Nat, s1.toInt = (m : Int) → m ≤ dd → s2 = f10 m → e1 = f10 dd) ?_ ?_ ?_
  · intro l3_1 l2_1 h1 h2
    intro m hm hmd hs
    have q := ld_tr h2 ha hb
    rw [← q] at hd
    rw [px_0] at hd
    have e : m = dd := by omega
    rw [← e]; exact hs
  · intro l3_1 l2_1 x1 h1 h2 h3
    intro m hm hmd hs
    have q := ld_tr h2 ha hb
    rw [← q] at hd
    have e : m = dd := by omega
    rw [← e]; exact hs
  · intro l3_1 l2_1 x1 x2 x3 k e1 h1 h2 h3 h4 h5 ih
    intro m hm hmd hs
    have q := ld_tr h2 ha hb
    rw [← q] at hd
    refine ih (m + 1) (by omega) (by omega) ?_
    rw [h4, hs]; rfl
theorem fa_tr {a1 : Int32} {Loops_depth : Nat → Int32} {o1 : Int32} {dd : Nat} (ha : a1.toInt = (b : Int)) (hb : b < 40) (hd : (Loops_depth b).toInt = (dd : Int)) (h : tr_Loops_factor a1 Loops_depth o1) : o1 = f10 dd := by
  refine h (fun o1 => o1 = f10 dd) ?_
  · intro x1 h1
    exact fa_tl ha hb hd h1 0 (by decide) (Nat.zero_le _) rfl
theorem wb_tl {Code_blocks : Int32} {Loops_depth : Nat → Int32} {Code_first : Nat → Int32} {Code_lines : Int32} {Code_set : Nat → Int32} {Code_left : Nat → Int32} {Code_right : Nat → Int32} {s1 : Int32} {s2 : Nat → Int32} {k : Nat} {e1 : Nat → Int32} {fg sg op cln rn : Nat → Int32} {dp : Nat → Nat} (hc : cdP Code_blocks Code_lines Code_first fg sg op Code_set Code_left cln Code_right rn P) (hP : P.1 ≤ 40) (hd : ∀ b, b < P.1 → (Loops_depth b).toInt = (dp b : Int)) (h : tl_Colouring_weigh_10 Code_blocks Loops_depth Code_first Code_lines Code_set Code_left Code_right s1 s2 k e1) : ∀ b : Nat, s1.toInt = (b : Int) → b ≤ P.1 → ∀ v : Nat, v < 720 → s2 v = wPg P dp v b → e1 v = wPg P dp v P.1 := by
  have cb := hc.1
  refine h (fun s1 s2 _ e1 => ∀ b : Nat, s1.toInt = (b : Int) → b ≤ P.1 → ∀ v : Nat, v < 720 → s2 v = wPg P dp v b → e1 v = wPg P dp v P.1) ?_ ?_
  · intro l3_1 Colouring_weight_1 h1 h2
    intro b hb hbP v hv hs
    have e : b = P.1 := by omega
    rw [e] at hs; exact hs
  · intro l3_1 Colouring_weight_1 x1 x2 x3 x4 k e1 h1 h2 h3 h4 h5 h6 h7 ih
    intro b hb hbP v hv hs
    have hb2 : b < P.1 := by omega
    have q := fa_tr hb (by omega) (hd b hb2) h3
    rw [nnE hb] at h4
    refine ih (b + 1) (by omega) (by omega) v hv ?_
    have r := wl_tl hc hb hb2 h6 0 (Nat.zero_le _) (by rw [h4]; exact (hc.2.2.1 b hb2).1) v (wPg P dp v b) hv (by rw [hs]; rfl)
    rw [r, q]
    rfl
theorem fz4_tl {a1 : Int32} {s1 : Int32} {s2 : Nat → Int32} {k : Nat} {e1 : Nat → Int32} (h : tl_Arrays_fill4_5 a1 s1 s2 k e1) : 0 ≤ s1.toInt → ∀ i : Nat, i < 720 → ((i : Int) < s1.toInt → s2 i = a1) → e1 i = a1 := by
  refine h (fun s1 s2 _ e1 => 0 ≤ s1.toInt → ∀ i : Nat, i < 720 → ((i : Int) < s1.toInt → s2 i = a1) → e1 i = a1) ?_ ?_
  · intro l2_1 z_1 h1 h2
    exact fun _ i hi hz => hz (by omega)
  · intro l2_1 z_1 x1 x2 k e1 h1 h2 h3 h4 ih
    intro h0 i hi hz
    refine ih (by omega) i hi (fun hl => ?_)
    have en : (l2_1.toNatClampNeg : Int) = l2_1.toInt := g_nn h0
    rw [h3]
    unfold upd
    by_cases e : i = l2_1.toNatClampNeg
    · rw [if_pos e]
    · rw [if_neg e]; exact hz (by omega)
theorem fz4_tr {a1 : Int32} {p o1 : Nat → Int32} (h : tr_Arrays_fill4 a1 p o1) : ∀ i : Nat, i < 720 → o1 i = a1 := by
  refine h (fun o1 => ∀ i : Nat, i < 720 → o1 i = a1) ?_
  · intro x1 h1
    exact fun i hi => fz4_tl h1 (by decide) i hi (fun z => by rw [px_0] at z; omega)
theorem wg_tr {Code_blocks : Int32} {Code_lines : Int32} {Colouring_weight : Nat → Int32} {Code_first : Nat → Int32} {Code_set : Nat → Int32} {Code_left : Nat → Int32} {Code_right : Nat → Int32} {Loops_depth : Nat → Int32} {o1 : Nat → Int32} {fg sg op cln rn : Nat → Int32} {dp : Nat → Nat} (hc : cdP Code_blocks Code_lines Code_first fg sg op Code_set Code_left cln Code_right rn P) (hP : P.1 ≤ 40) (hd : ∀ b, b < P.1 → (Loops_depth b).toInt = (dp b : Int)) (h : tr_Colouring_weigh Code_blocks Code_lines Colouring_weight Code_first Code_set Code_left Code_right Loops_depth o1) : ∀ v : Nat, v < 720 → o1 v = wPg P dp v P.1 := by
  refine h (fun o1 => ∀ v : Nat, v < 720 → o1 v = wPg P dp v P.1) ?_
  · intro x1 x2 h1 h2
    intro v hv
    refine wb_tl hc hP hd h2 0 (by decide) (Nat.zero_le _) v hv ?_
    exact fz4_tr h1 v hv
end GRB
end
section
/-- two programs that are the same, as far as they go -/
def pgE (P Q : gPg) : Prop := P.1 = Q.1 ∧ ∀ b, b < P.1 → P.2.1 b = Q.2.1 b ∧ (∀ j, j < P.2.1 b → P.2.2.1 b j = Q.2.2.1 b j) ∧ ∀ i, i < 2 → P.2.2.2 b i = Q.2.2.2 b i
theorem cdP_c {P Q : gPg} {bl li : Int32} {fi fg sg op st lf ln rt rn : Nat → Int32} (h : pgE P Q) (hc : cdP bl li fi fg sg op st lf ln rt rn P) : cdP bl li fi fg sg op st lf ln rt rn Q := by
  obtain ⟨e1, e2⟩ := h
  obtain ⟨c1, c2, c3, c4⟩ := hc
  have ef : ∀ b, b ≤ P.1 → fsm P.2.1 b = fsm Q.2.1 b := fun b hb => fsm_c (fun c hc => (e2 c (by omega)).1)
  refine ⟨by rw [← e1]; exact c1, by rw [← e1, ← ef P.1 (Nat.le_refl _)]; exact c2, fun b hb => ?_, fun b j hb hj => ?_⟩
  · have hb2 : b < P.1 := by rw [e1]; exact hb
    obtain ⟨_, _, g⟩ := e2 b hb2
    rw [← ef b (by omega), ← g 0 (by decide), ← g 1 (by decide)]
    exact c3 b hb2
  · have hb2 : b < P.1 := by rw [e1]; exact hb
    obtain ⟨l1, l2, _⟩ := e2 b hb2
    have hj2 : j < P.2.1 b := by rw [l1]; exact hj
    rw [← ef b (by omega), ← l2 j hj2]
    exact c4 b j hb2 hj2
/-- the j-th number below k of which T holds -/
noncomputable def nthT (T : Nat → Prop) : Nat → Nat → Nat
  | 0, _ => 0
  | k + 1, j => @ite Nat (T k ∧ cntP T k = j) (Classical.propDecidable _) k (nthT T k j)
theorem cntP_s {T : Nat → Prop} : ∀ {v k : Nat}, T v → v < k → cntP T v < cntP T k
  | v, 0, _, h => absurd h (Nat.not_lt_zero v)
  | v, k + 1, ht, h => by
    show cntP T v < cntP T k + @ite Nat (T k) (Classical.propDecidable (T k)) 1 0
    by_cases e : v = k
    · rw [e] at ht ⊢; rw [if_pos ht]; omega
    · have := cntP_s (k := k) ht (by omega)
      omega
theorem nthT_e {T : Nat → Prop} : ∀ {k v : Nat}, T v → v < k → nthT T k (cntP T v) = v
  | 0, v, _, h => absurd h (Nat.not_lt_zero v)
  | k + 1, v, ht, h => by
    show @ite Nat (T k ∧ cntP T k = cntP T v) (Classical.propDecidable _) k (nthT T k (cntP T v)) = v
    by_cases e : v = k
    · rw [e] at ht ⊢; rw [if_pos ⟨ht, rfl⟩]
    · rw [if_neg (fun z => by have := cntP_s (k := k) ht (by omega); omega)]
      exact nthT_e ht (by omega)
/-- the registers that are alive in front of everything, rows v = 0 for them, the program with these -/
def lz (P : gPg) (v : Nat) : Prop := Lv P false v 0 0
noncomputable def pgZ (P : gPg) : gPg := (P.1, fun b => if b = 0 then cntP (lz P) 100 + P.2.1 0 else P.2.1 b, fun b j => if b = 0 then (if j < cntP (lz P) 100 then mkL 14 (nthT (lz P) 100 j : Int) (-1) 0 (-1) 0 else P.2.2.1 0 (j - cntP (lz P) 100)) else P.2.2.1 b j, P.2.2.2)
/-- how it is put together -/
def pgOL (P Q : gPg) : gPg := (Q.1 + 1, fun b => if b = Q.1 then 0 else Q.2.1 b, Q.2.2.1, fun b i => if b = Q.1 then P.2.2.2 b i else Q.2.2.2 b i)
noncomputable def zrF (T : Nat → Prop) (Q : gPg) : Nat → gPg
  | 0 => Q
  | k + 1 => @ite gPg (T k) (Classical.propDecidable (T k)) (pgL (zrF T Q k) (mkL 14 (k : Int) (-1) 0 (-1) 0)) (zrF T Q k)
def cpB (P Q : gPg) (b : Nat) : Nat → gPg
  | 0 => Q
  | j + 1 => pgL (cpB P Q b j) (P.2.2.1 b j)
noncomputable def bgQ (P : gPg) : Nat → gPg
  | 0 => pgO
  | b + 1 => cpB P (@ite gPg (b = 0) (Classical.propDecidable (b = 0)) (zrF (lz P) (pgOL P (bgQ P b)) 100) (pgOL P (bgQ P b))) b (P.2.1 b)
section BG
variable {P Q : gPg} {b : Nat}
/-- what adding lines leaves: all but the last block -/
def frB (Q R : gPg) (m : Nat) (ls : Nat → Nat → Int) : Prop := R.1 = Q.1 ∧ (∀ c, c + 1 ≠ Q.1 → R.2.1 c = Q.2.1 c ∧ R.2.2.1 c = Q.2.2.1 c) ∧ R.2.2.2 = Q.2.2.2 ∧ ∀ c, c + 1 = Q.1 → R.2.1 c = Q.2.1 c + m ∧ (∀ j, j < Q.2.1 c → R.2.2.1 c j = Q.2.2.1 c j) ∧ ∀ j, j < m → R.2.2.1 c (Q.2.1 c + j) = ls j
theorem frB_0 {ls : Nat → Nat → Int} : frB Q Q 0 ls := ⟨rfl, fun _ _ => ⟨rfl, rfl⟩, rfl, fun _ _ => ⟨rfl, fun _ _ => rfl, fun j hj => absurd hj (Nat.not_lt_zero j)⟩⟩
theorem frB_s {R : gPg} {m : Nat} {ls : Nat → Nat → Int} (h : frB Q R m ls) : frB Q (pgL R (ls m)) (m + 1) ls := by
  obtain ⟨h1, h2, h3, h4⟩ := h
  refine ⟨h1, fun c hc => ?_, h3, fun c hc => ?_⟩
  · obtain ⟨e1, e2, _⟩ := pgL_o (P := R) (l := ls m) (b := c) (by rw [h1]; exact hc)
    rw [e1, e2]; exact h2 c hc
  · obtain ⟨e1, e2, e3, _⟩ := pgL_l (P := R) (l := ls m) (b := c) (by rw [h1]; exact hc)
    obtain ⟨k1, k2, k3⟩ := h4 c hc
    refine ⟨by rw [e1, k1]; rfl, fun j hj => by rw [e2 j (by omega)]; exact k2 j hj, fun j hj => ?_⟩
    by_cases e : j = m
    · rw [e, ← k1]; exact e3
    · rw [e2 _ (by omega)]; exact k3 j (by omega)
theorem frB_c {R : gPg} {m : Nat} {ls ls' : Nat → Nat → Int} (h : frB Q R m ls) (hl : ∀ j, j < m → ls j = ls' j) : frB Q R m ls' := by
  obtain ⟨h1, h2, h3, h4⟩ := h
  exact ⟨h1, h2, h3, fun c hc => ⟨(h4 c hc).1, (h4 c hc).2.1, fun j hj => by rw [(h4 c hc).2.2 j hj, hl j hj]⟩⟩
theorem cpB_f : ∀ m, frB Q (cpB P Q b m) m (P.2.2.1 b)
  | 0 => frB_0
  | m + 1 => frB_s (cpB_f m)
theorem zrF_f {T : Nat → Prop} : ∀ k, k ≤ 100 → frB Q (zrF T Q k) (cntP T k) (fun j => mkL 14 (nthT T 100 j : Int) (-1) 0 (-1) 0)
  | 0, _ => frB_0
  | k + 1, hk => by
    have ih := zrF_f (T := T) k (by omega)
    show frB Q (@ite gPg (T k) (Classical.propDecidable (T k)) (pgL (zrF T Q k) (mkL 14 (k : Int) (-1) 0 (-1) 0)) (zrF T Q k)) (cntP T k + @ite Nat (T k) (Classical.propDecidable (T k)) 1 0) _
    by_cases c : T k
    · rw [if_pos c, if_pos c]
      have q := frB_s ih
      rw [nthT_e c (by omega)] at q
      exact q
    · rw [if_neg c, if_neg c]; exact ih
theorem bgQ_e : ∀ b, b ≤ P.1 → (bgQ P b).1 = b ∧ ∀ c, c < b → (bgQ P b).2.1 c = (pgZ P).2.1 c ∧ (∀ j, j < (pgZ P).2.1 c → (bgQ P b).2.2.1 c j = (pgZ P).2.2.1 c j) ∧ (bgQ P b).2.2.2 c = P.2.2.2 c
  | 0, _ => ⟨rfl, fun c hc => absurd hc (Nat.not_lt_zero c)⟩
  | b + 1, hb => by
    obtain ⟨i1, i2⟩ := bgQ_e b (by omega)
    have oO : ∀ c, c ≠ b → (pgOL P (bgQ P b)).2.1 c = (bgQ P b).2.1 c ∧ (pgOL P (bgQ P b)).2.2.2 c = (bgQ P b).2.2.2 c := fun c hc => ⟨if_neg (by rw [i1]; exact hc), funext (fun i => if_neg (by rw [i1]; exact hc))⟩
    have oL : (pgOL P (bgQ P b)).2.1 b = 0 ∧ (pgOL P (bgQ P b)).2.2.2 b = P.2.2.2 b := ⟨if_pos i1.symm, funext (fun i => if_pos i1.symm)⟩
    have o1 : (pgOL P (bgQ P b)).1 = b + 1 := by show (bgQ P b).1 + 1 = b + 1; rw [i1]
    show (cpB P (@ite gPg (b = 0) (Classical.propDecidable (b = 0)) (zrF (lz P) (pgOL P (bgQ P b)) 100) (pgOL P (bgQ P b))) b (P.2.1 b)).1 = b + 1 ∧ ∀ c, c < b + 1 → (cpB P (@ite gPg (b = 0) (Classical.propDecidable (b = 0)) (zrF (lz P) (pgOL P (bgQ P b)) 100) (pgOL P (bgQ P b))) b (P.2.1 b)).2.1 c = (pgZ P).2.1 c ∧ (∀ j, j < (pgZ P).2.1 c → (cpB P (@ite gPg (b = 0) (Classical.propDecidable (b = 0)) (zrF (lz P) (pgOL P (bgQ P b)) 100) (pgOL P (bgQ P b))) b (P.2.1 b)).2.2.1 c j = (pgZ P).2.2.1 c j) ∧ (cpB P (@ite gPg (b = 0) (Classical.propDecidable (b = 0)) (zrF (lz P) (pgOL P (bgQ P b)) 100) (pgOL P (bgQ P b))) b (P.2.1 b)).2.2.2 c = P.2.2.2 c
    by_cases e : b = 0
    · rw [if_pos e]
      obtain ⟨z1, z2, z3, z4⟩ := zrF_f (Q := pgOL P (bgQ P b)) (T := lz P) 100 (Nat.le_refl _)
      obtain ⟨y1, y2, y3, y4⟩ := cpB_f (P := P) (Q := zrF (lz P) (pgOL P (bgQ P b)) 100) (b := b) (P.2.1 b)
      refine ⟨by rw [y1, z1, o1], fun c hc => ?_⟩
      have ec : c = 0 := by omega
      obtain ⟨x1, x2, x3⟩ := z4 c (by rw [o1]; omega)
      obtain ⟨w1, w2, w3⟩ := y4 c (by rw [z1, o1]; omega)
      have eb : c = b := by omega
      have l0 : (pgOL P (bgQ P b)).2.1 c = 0 := by rw [eb]; exact oL.1
      rw [l0, Nat.zero_add] at x1
      have lz0 : (pgZ P).2.1 c = cntP (lz P) 100 + P.2.1 0 := if_pos ec
      rw [x1] at w1 w2 w3
      refine ⟨by rw [w1, lz0, e], fun j hj => ?_, ?_⟩
      · rw [lz0] at hj
        show _ = if c = 0 then (if j < cntP (lz P) 100 then mkL 14 (nthT (lz P) 100 j : Int) (-1) 0 (-1) 0 else P.2.2.1 0 (j - cntP (lz P) 100)) else P.2.2.1 c j
        rw [if_pos ec]
        by_cases q : j < cntP (lz P) 100
        · rw [if_pos q, w2 j q]
          have := x3 j q
          rw [l0, Nat.zero_add] at this
          exact this
        · rw [if_neg q]
          have := w3 (j - cntP (lz P) 100) (by rw [e]; omega)
          rw [show cntP (lz P) 100 + (j - cntP (lz P) 100) = j by omega] at this
          rw [this, e]
      · rw [y3, z3, eb]; exact oL.2
    · rw [if_neg e]
      obtain ⟨y1, y2, y3, y4⟩ := cpB_f (P := P) (Q := pgOL P (bgQ P b)) (b := b) (P.2.1 b)
      refine ⟨by rw [y1, o1], fun c hc => ?_⟩
      by_cases eb : c = b
      · obtain ⟨w1, w2, w3⟩ := y4 c (by rw [o1]; omega)
        have l0 : (pgOL P (bgQ P b)).2.1 c = 0 := by rw [eb]; exact oL.1
        rw [l0] at w1 w3
        have lz1 : (pgZ P).2.1 c = P.2.1 c := if_neg (by omega)
        refine ⟨by rw [w1, lz1, eb, Nat.zero_add], fun j hj => ?_, by rw [y3, eb]; exact oL.2⟩
        rw [lz1] at hj
        have := w3 j (by rw [← eb]; exact hj)
        rw [Nat.zero_add] at this
        rw [this, ← eb]
        exact (if_neg (by omega)).symm
      · obtain ⟨w1, w2⟩ := y2 c (by rw [o1]; omega)
        obtain ⟨k1, k2, k3⟩ := i2 c (by omega)
        refine ⟨by rw [w1, (oO c eb).1]; exact k1, fun j hj => ?_, by rw [y3, (oO c eb).2]; exact k3⟩
        rw [w2]
        exact k2 j hj
theorem bgQ_Z : pgE (bgQ P P.1) (pgZ P) := by
  obtain ⟨h1, h2⟩ := bgQ_e (P := P) P.1 (Nat.le_refl _)
  refine ⟨h1, fun b hb => ?_⟩
  obtain ⟨k1, k2, k3⟩ := h2 b (by omega)
  exact ⟨k1, fun j hj => k2 j (by omega), fun i _ => by rw [k3]; rfl⟩
end BG
end
section
section BGC
variable {P Q : gPg} {b j : Nat} {a1 a2 a3 a4 a5 a6 bl li fl : Int32} {fi fg sg op st lf ln rt rn : Nat → Int32}
theorem add_tr2 {x1 x8 : Int32} {x2 x3 x4 x5 x6 x7 : Nat → Int32} (h : tr_Code_add2 a1 a2 a3 a4 a5 a6 li fl op st lf ln rt rn x1 x2 x3 x4 x5 x6 x7 x8) (hc : cdP bl li fi fg sg op st lf ln rt rn P) (hl : li.toInt < 920) (hP : 0 < P.1) : cdP bl x1 fi fg sg x2 x3 x4 x5 x6 x7 (pgL P (mkL a1.toInt a2.toInt a3.toInt a4.toInt a5.toInt a6.toInt)) := by
  refine h (fun x1 x2 x3 x4 x5 x6 x7 _ => cdP bl x1 fi fg sg x2 x3 x4 x5 x6 x7 (pgL P (mkL a1.toInt a2.toInt a3.toInt a4.toInt a5.toInt a6.toInt))) ?_ ?_
  · intro x1 x2 x3 x4 x5 x6 x7 h1 h2 h3 h4 h5 h6 h7 h8
    exact cdP_L hc hP h8 h2 h3 h4 h5 h6 h7
  · intro h1
    omega
theorem mkL_e {l : Nat → Int} {z : Nat → Int} (h0 : l 0 = z 0) (h1 : l 1 = z 1) (h2 : l 2 = z 2) (h3 : l 3 = z 3) (h4 : l 4 = z 4) (h5 : ∀ i, 5 ≤ i → l i = z 5) : l = mkL (z 0) (z 1) (z 2) (z 3) (z 4) (z 5) := funext (fun i => by
  match i with
  | 0 => exact h0
  | 1 => exact h1
  | 2 => exact h2
  | 3 => exact h3
  | 4 => exact h4
  | n + 5 => exact h5 (n + 5) (by omega))
/-- lines that are made of six numbers -/
def lnO (P : gPg) : Prop := ∀ b j, b < P.1 → j < P.2.1 b → P.2.2.1 b j = mkL (P.2.2.1 b j 0) (P.2.2.1 b j 1) (P.2.2.1 b j 2) (P.2.2.1 b j 3) (P.2.2.1 b j 4) (P.2.2.1 b j 5)
theorem aln_tr {a2 : Int32} {Code_lines : Int32} {Code_isFull : Int32} {Code_op : Nat → Int32} {Code_set : Nat → Int32} {Code_left : Nat → Int32} {Code_leftNumber : Nat → Int32} {Code_right : Nat → Int32} {Code_rightNumber : Nat → Int32} {Code_op2 : Nat → Int32} {Code_set2 : Nat → Int32} {Code_left2 : Nat → Int32} {Code_leftNumber2 : Nat → Int32} {Code_right2 : Nat → Int32} {Code_rightNumber2 : Nat → Int32} {o1 : Int32} {o2 : Int32} {o3 : Nat → Int32} {o4 : Nat → Int32} {o5 : Nat → Int32} {o6 : Nat → Int32} {o7 : Nat → Int32} {o8 : Nat → Int32} {bl2 li2 : Int32} {fi2 fg2 sg2 : Nat → Int32} (h : tr_Code_addLine a2 Code_lines Code_isFull Code_op Code_set Code_left Code_leftNumber Code_right Code_rightNumber Code_op2 Code_set2 Code_left2 Code_leftNumber2 Code_right2 Code_rightNumber2 o1 o2 o3 o4 o5 o6 o7 o8) (hc2 : cdP bl2 li2 fi2 fg2 sg2 Code_op2 Code_set2 Code_left2 Code_leftNumber2 Code_right2 Code_rightNumber2 P) (hl : lnO P) (hb : b < P.1) (hj : j < P.2.1 b) (hi : a2.toNatClampNeg = fsm P.2.1 b + j) (hc : cdP bl Code_lines fi fg sg Code_op Code_set Code_left Code_leftNumber Code_right Code_rightNumber Q) (hl2 : Code_lines.toInt < 920) (hQ : 0 < Q.1) : cdP bl o1 fi fg sg o3 o4 o5 o6 o7 o8 (pgL Q (P.2.2.1 b j)) := by
  obtain ⟨d0, d1, d2, d3, d4, d5⟩ := hc2.2.2.2 b j hb hj
  refine h (fun o1 _ o3 o4 o5 o6 o7 o8 => cdP bl o1 fi fg sg o3 o4 o5 o6 o7 o8 (pgL Q (P.2.2.1 b j))) ?_
  · intro x1 x2 x3 x4 x5 x6 x7 x8 x9 x10 x11 x12 x13 x14 h1 h2 h3 h4 h5 h6 h7 h8 h9 h10
    have q := add_tr2 h10 hc hl2 hQ
    rw [h1, h3, h4, h5, h6, h7, hi, d0, d1, d2, d3, d4, d5, ← hl b j hb hj] at q
    exact q
theorem bl_tl {l2_1 : Int32} {Code_blocks : Int32} {Code_lines : Int32} {Code_first : Nat → Int32} {Code_op : Nat → Int32} {Code_set : Nat → Int32} {Code_left : Nat → Int32} {Code_leftNumber : Nat → Int32} {Code_right : Nat → Int32} {Code_rightNumber : Nat → Int32} {s1 : Int32} {s2 : Int32} {s3 : Int32} {s4 : Nat → Int32} {s5 : Nat → Int32} {s6 : Nat → Int32} {s7 : Nat → Int32} {s8 : Nat → Int32} {s9 : Nat → Int32} {k : Nat} {e1 : Int32} {e2 : Int32} {e3 : Nat → Int32} {e4 : Nat → Int32} {e5 : Nat → Int32} {e6 : Nat → Int32} {e7 : Nat → Int32} {e8 : Nat → Int32} {pfg psg : Nat → Int32} (hcP : cdP Code_blocks Code_lines Code_first pfg psg Code_op Code_set Code_left Code_leftNumber Code_right Code_rightNumber P) (hl : lnO P) (hQ : 0 < Q.1) (ha : l2_1.toInt = (b : Int)) (hb : b < P.1) (h : tl_Giver_begin_93 l2_1 Code_blocks Code_lines Code_first Code_op Code_set Code_left Code_leftNumber Code_right Code_rightNumber s1 s2 s3 s4 s5 s6 s7 s8 s9 k e1 e2 e3 e4 e5 e6 e7 e8) : ∀ j : Nat, j ≤ P.2.1 b → s1.toInt = ((fsm P.2.1 b + j : Nat) : Int) → (s2.toInt + ((P.2.1 b - j : Nat) : Int) ≤ 919) → cdP bl s2 fi fg sg s4 s5 s6 s7 s8 s9 (cpB P Q b j) → cdP bl e1 fi fg sg e3 e4 e5 e6 e7 e8 (cpB P Q b (P.2.1 b)) := by
  have eB2 : fsm P.2.1 (b + 1) = fsm P.2.1 b + P.2.1 b := rfl
  have hQ2 : ∀ m, 0 < (cpB P Q b m).1 := fun m => by rw [(cpB_f (P := P) (Q := Q) (b := b) m).1]; exact hQ
  refine h (fun s1 s2 _ s4 s5 s6 s7 s8 s9 _ e1 _ e3 e4 e5 e6 e7 e8 => ∀ j : Nat, j ≤ P.2.1 b → s1.toInt = ((fsm P.2.1 b + j : Nat) : Int) → (s2.toInt + ((P.2.1 b - j : Nat) : Int) ≤ 919) → cdP bl s2 fi fg sg s4 s5 s6 s7 s8 s9 (cpB P Q b j) → cdP bl e1 fi fg sg e3 e4 e5 e6 e7 e8 (cpB P Q b (P.2.1 b))) ?_ ?_ ?_ ?_
  · intro l3_2 Code_lines_2 Code_isFull_2 Code_op_2 Code_set_2 Code_left_2 Code_leftNumber_2 Code_right_2 Code_rightNumber_2 h1 h2 h3 h4 h5
    intro j hj hl1 hm hc
    have eB := bE_tr hcP ha hb h4
    have e : j = P.2.1 b := by omega
    rw [e] at hc; exact hc
  · intro l3_2 Code_lines_2 Code_isFull_2 Code_op_2 Code_set_2 Code_left_2 Code_leftNumber_2 Code_right_2 Code_rightNumber_2 x1 x2 x3 x4 x5 x6 x7 x8 x9 k e1 e2 e3 e4 e5 e6 e7 e8 h1 h2 h3 h4 h5 h6 h7 h8 h9 ih
    intro j hj hl1 hm hc
    have eB := bE_tr hcP ha hb h4
    have hj2 : j < P.2.1 b := by omega
    have hi : l3_2.toNatClampNeg = fsm P.2.1 b + j := nnE (by omega)
    have q := aln_tr h8 hcP hl hb hj2 hi hc (by omega) (hQ2 j)
    have e1 := q.2.1
    rw [pgL_s (hQ2 j)] at e1
    have e2 := hc.2.1
    exact ih (j + 1) (by omega) (by omega) (by omega) q
  · intro l3_2 Code_lines_2 Code_isFull_2 Code_op_2 Code_set_2 Code_left_2 Code_leftNumber_2 Code_right_2 Code_rightNumber_2 x1 h1 h2 h3 h4 h5
    intro j hj hl1 hm hc
    have eB := bE_tr hcP ha hb h4
    have e : j = P.2.1 b := by omega
    rw [e] at hc; exact hc
  · intro l3_2 Code_lines_2 Code_isFull_2 Code_op_2 Code_set_2 Code_left_2 Code_leftNumber_2 Code_right_2 Code_rightNumber_2 x1 x2 x3 x4 x5 x6 x7 x8 x9 x10 k e1 e2 e3 e4 e5 e6 e7 e8 h1 h2 h3 h4 h5 h6 h7 h8 h9 ih
    intro j hj hl1 hm hc
    have eB := bE_tr hcP ha hb h4
    have hj2 : j < P.2.1 b := by omega
    have hi : l3_2.toNatClampNeg = fsm P.2.1 b + j := nnE (by omega)
    have q := aln_tr h8 hcP hl hb hj2 hi hc (by omega) (hQ2 j)
    have e1 := q.2.1
    rw [pgL_s (hQ2 j)] at e1
    have e2 := hc.2.1
    exact ih (j + 1) (by omega) (by omega) (by omega) q
theorem bl_tl_2 {l2_1 : Int32} {Code_blocks : Int32} {Code_lines : Int32} {Code_first : Nat → Int32} {Code_op : Nat → Int32} {Code_set : Nat → Int32} {Code_left : Nat → Int32} {Code_leftNumber : Nat → Int32} {Code_right : Nat → Int32} {Code_rightNumber : Nat → Int32} {s1 : Int32} {s2 : Int32} {s3 : Int32} {s4 : Nat → Int32} {s5 : Nat → Int32} {s6 : Nat → Int32} {s7 : Nat → Int32} {s8 : Nat → Int32} {s9 : Nat → Int32} {k : Nat} {e1 : Int32} {e2 : Int32} {e3 : Nat → Int32} {e4 : Nat → Int32} {e5 : Nat → Int32} {e6 : Nat → Int32} {e7 : Nat → Int32} {e8 : Nat → Int32} {pfg psg : Nat → Int32} (hcP : cdP Code_blocks Code_lines Code_first pfg psg Code_op Code_set Code_left Code_leftNumber Code_right Code_rightNumber P) (hl : lnO P) (hQ : 0 < Q.1) (ha : l2_1.toInt = (b : Int)) (hb : b < P.1) (h : tl_Giver_begin_93_2 l2_1 Code_blocks Code_lines Code_first Code_op Code_set Code_left Code_leftNumber Code_right Code_rightNumber s1 s2 s3 s4 s5 s6 s7 s8 s9 k e1 e2 e3 e4 e5 e6 e7 e8) : ∀ j : Nat, j ≤ P.2.1 b → s1.toInt = ((fsm P.2.1 b + j : Nat) : Int) → (s2.toInt + ((P.2.1 b - j : Nat) : Int) ≤ 919) → cdP bl s2 fi fg sg s4 s5 s6 s7 s8 s9 (cpB P Q b j) → cdP bl e1 fi fg sg e3 e4 e5 e6 e7 e8 (cpB P Q b (P.2.1 b)) := by
  have eB2 : fsm P.2.1 (b + 1) = fsm P.2.1 b + P.2.1 b := rfl
  have hQ2 : ∀ m, 0 < (cpB P Q b m).1 := fun m => by rw [(cpB_f (P := P) (Q := Q) (b := b) m).1]; exact hQ
  refine h (fun s1 s2 _ s4 s5 s6 s7 s8 s9 _ e1 _ e3 e4 e5 e6 e7 e8 => ∀ j : Nat, j ≤ P.2.1 b → s1.toInt = ((fsm P.2.1 b + j : Nat) : Int) → (s2.toInt + ((P.2.1 b - j : Nat) : Int) ≤ 919) → cdP bl s2 fi fg sg s4 s5 s6 s7 s8 s9 (cpB P Q b j) → cdP bl e1 fi fg sg e3 e4 e5 e6 e7 e8 (cpB P Q b (P.2.1 b))) ?_ ?_ ?_ ?_
  · intro l3_2 Code_lines_2 Code_isFull_2 Code_op_2 Code_set_2 Code_left_2 Code_leftNumber_2 Code_right_2 Code_rightNumber_2 h1 h2 h3 h4 h5
    intro j hj hl1 hm hc
    have eB := bE_tr hcP ha hb h4
    have e : j = P.2.1 b := by omega
    rw [e] at hc; exact hc
  · intro l3_2 Code_lines_2 Code_isFull_2 Code_op_2 Code_set_2 Code_left_2 Code_leftNumber_2 Code_right_2 Code_rightNumber_2 x1 x2 x3 x4 x5 x6 x7 x8 x9 k e1 e2 e3 e4 e5 e6 e7 e8 h1 h2 h3 h4 h5 h6 h7 h8 h9 ih
    intro j hj hl1 hm hc
    have eB := bE_tr hcP ha hb h4
    have hj2 : j < P.2.1 b := by omega
    have hi : l3_2.toNatClampNeg = fsm P.2.1 b + j := nnE (by omega)
    have q := aln_tr h8 hcP hl hb hj2 hi hc (by omega) (hQ2 j)
    have e1 := q.2.1
    rw [pgL_s (hQ2 j)] at e1
    have e2 := hc.2.1
    exact ih (j + 1) (by omega) (by omega) (by omega) q
  · intro l3_2 Code_lines_2 Code_isFull_2 Code_op_2 Code_set_2 Code_left_2 Code_leftNumber_2 Code_right_2 Code_rightNumber_2 x1 h1 h2 h3 h4 h5
    intro j hj hl1 hm hc
    have eB := bE_tr hcP ha hb h4
    have e : j = P.2.1 b := by omega
    rw [e] at hc; exact hc
  · intro l3_2 Code_lines_2 Code_isFull_2 Code_op_2 Code_set_2 Code_left_2 Code_leftNumber_2 Code_right_2 Code_rightNumber_2 x1 x2 x3 x4 x5 x6 x7 x8 x9 x10 k e1 e2 e3 e4 e5 e6 e7 e8 h1 h2 h3 h4 h5 h6 h7 h8 h9 ih
    intro j hj hl1 hm hc
    have eB := bE_tr hcP ha hb h4
    have hj2 : j < P.2.1 b := by omega
    have hi : l3_2.toNatClampNeg = fsm P.2.1 b + j := nnE (by omega)
    have q := aln_tr h8 hcP hl hb hj2 hi hc (by omega) (hQ2 j)
    have e1 := q.2.1
    rw [pgL_s (hQ2 j)] at e1
    have e2 := hc.2.1
    exact ih (j + 1) (by omega) (by omega) (by omega) q
theorem ilb_0 {a v nm wd : Int32} {f : Nat → Int64} {Nm W b m : Nat} (h : tr_Live_isLiveBefore a v nm wd f 0) (ha : a.toInt = (b : Int)) (hb : b < 40) (hv : v.toInt = (m : Int)) (hm : m < Nm) (hN : nm.toInt = (Nm : Int)) (hW : wd.toInt = (W : Int)) : gbit f (64 * (b * W) + m) = false := by
  have q : (0 : Int32).toInt = 0 → gbit f (64 * (b * W) + m) = false := by
    refine h (fun r => r.toInt = 0 → gbit f (64 * (b * W) + m) = false) ?_ ?_ ?_ ?_ ?_
    · intro h1
      have n0 := iN_0 h1
      exact absurd ⟨by omega, by omega⟩ n0
    · intro h1 h2
      omega
    · intro h1 h2 h3
      omega
    · intro x1 x2 x3 x4 x5 x6 h1 h2 h3 h4 h5 h6 h7 h8 h9 h10
      intro _
      have ep : x1.toInt = ((b * W : Nat) : Int) := by rw [h4, ha, hW]; exact (Int.natCast_mul _ _).symm
      have t := tst_bit (f := f) (a := b * W) (m := m) (i := x3) (by omega) hv h7 h8 h9
      exact t.mp h10
    · intro x1 x2 x3 x4 x5 x6 h1 h2 h3 h4 h5 h6 h7 h8 h9 h10
      exact fun z => absurd z (by decide)
  exact q (by decide)
theorem ilb_1 {a v nm wd : Int32} {f : Nat → Int64} {Nm W b m : Nat} (h : tr_Live_isLiveBefore a v nm wd f 1) (ha : a.toInt = (b : Int)) (hb : b < 40) (hv : v.toInt = (m : Int)) (hm : m < Nm) (hN : nm.toInt = (Nm : Int)) (hW : wd.toInt = (W : Int)) : gbit f (64 * (b * W) + m) = true := by
  have q : (1 : Int32).toInt = 1 → gbit f (64 * (b * W) + m) = true := by
    refine h (fun r => r.toInt = 1 → gbit f (64 * (b * W) + m) = true) ?_ ?_ ?_ ?_ ?_
    · intro h1
      exact fun z => absurd z (by decide)
    · intro h1 h2
      exact fun z => absurd z (by decide)
    · intro h1 h2 h3
      exact fun z => absurd z (by decide)
    · intro x1 x2 x3 x4 x5 x6 h1 h2 h3 h4 h5 h6 h7 h8 h9 h10
      exact fun z => absurd z (by decide)
    · intro x1 x2 x3 x4 x5 x6 h1 h2 h3 h4 h5 h6 h7 h8 h9 h10
      intro _
      have ep : x1.toInt = ((b * W : Nat) : Int) := by rw [h4, ha, hW]; exact (Int.natCast_mul _ _).symm
      have t := tst_bit (f := f) (a := b * W) (m := m) (i := x3) (by omega) hv h7 h8 h9
      exact eq_true_of_ne_false (fun z => h10 (t.mpr z))
  exact q (by decide)
theorem sz2_tl {Live_names : Int32} {Live_words : Int32} {Live_in : Nat → Int64} {s1 : Int32} {s2 : Int32} {s3 : Int32} {s4 : Nat → Int32} {s5 : Nat → Int32} {s6 : Nat → Int32} {s7 : Nat → Int32} {s8 : Nat → Int32} {s9 : Nat → Int32} {k : Nat} {e1 : Int32} {e2 : Int32} {e3 : Nat → Int32} {e4 : Nat → Int32} {e5 : Nat → Int32} {e6 : Nat → Int32} {e7 : Nat → Int32} {e8 : Nat → Int32} {T : Nat → Prop} {W : Nat} (hQ : 0 < Q.1) (hN : Live_names.toInt = 100) (hW : Live_words.toInt = (W : Int)) (hT : ∀ v, v < 100 → (gbit Live_in (64 * (0 * W) + v) = true ↔ T v)) (h : tl_Giver_setLiveToZero_2 Live_names Live_words Live_in s1 s2 s3 s4 s5 s6 s7 s8 s9 k e1 e2 e3 e4 e5 e6 e7 e8) : ∀ k : Nat, s1.toInt = (k : Int) → s2.toInt + (100 - (k : Int)) ≤ 919 → cdP bl s2 fi fg sg s4 s5 s6 s7 s8 s9 (zrF T Q k) → cdP bl e1 fi fg sg e3 e4 e5 e6 e7 e8 (zrF T Q 100) := by
  have hQ2 : ∀ m, m ≤ 100 → 0 < (zrF T Q m).1 := fun m hm => by rw [(zrF_f (T := T) (Q := Q) m hm).1]; exact hQ
  refine h (fun s1 s2 _ s4 s5 s6 s7 s8 s9 _ e1 _ e3 e4 e5 e6 e7 e8 => ∀ k : Nat, s1.toInt = (k : Int) → s2.toInt + (100 - (k : Int)) ≤ 919 → cdP bl s2 fi fg sg s4 s5 s6 s7 s8 s9 (zrF T Q k) → cdP bl e1 fi fg sg e3 e4 e5 e6 e7 e8 (zrF T Q 100)) ?_ ?_ ?_
  · intro l1_1 Code_lines_1 Code_isFull_1 Code_op_1 Code_set_1 Code_left_1 Code_leftNumber_1 Code_right_1 Code_rightNumber_1 h1 h2 h3 h4
    intro k hk hm hc
    have e : k = 100 := by have z := h1.2; omega
    rw [e] at hc; exact hc
  · intro l1_1 Code_lines_1 Code_isFull_1 Code_op_1 Code_set_1 Code_left_1 Code_leftNumber_1 Code_right_1 Code_rightNumber_1 x1 k e1 e2 e3 e4 e5 e6 e7 e8 h1 h2 h3 h4 h5 h6 ih
    intro k hk hm hc
    have q := ilb_0 (Nm := 100) (b := 0) h5 (by decide) (by decide) hk (by omega) hN hW
    refine ih (k + 1) (by omega) (by omega) ?_
    have e : zrF T Q (k + 1) = zrF T Q k := if_neg (fun z => by rw [(hT k (by omega)).mpr z] at q; cases q)
    rw [e]; exact hc
  · intro l1_1 Code_lines_1 Code_isFull_1 Code_op_1 Code_set_1 Code_left_1 Code_leftNumber_1 Code_right_1 Code_rightNumber_1 x1 x2 x3 x4 x5 x6 x7 x8 x9 k e1 e2 e3 e4 e5 e6 e7 e8 h1 h2 h3 h4 h5 h6 h7 h8 h9 ih
    intro k hk hm hc
    have q := ilb_1 (Nm := 100) (b := 0) h5 (by decide) (by decide) hk (by omega) hN hW
    have e : zrF T Q (k + 1) = pgL (zrF T Q k) (mkL 14 (k : Int) (-1) 0 (-1) 0) := if_pos ((hT k (by omega)).mp q)
    have a := add_tr2 h8 hc (by omega) (hQ2 k (by omega))
    rw [show Int32.toInt 14 = 14 from by decide, px_m1, px_0, hk] at a
    have e1 := a.2.1
    rw [pgL_s (hQ2 k (by omega))] at e1
    have e2 := hc.2.1
    refine ih (k + 1) (by omega) (by omega) ?_
    rw [e]; exact a
theorem sz2_tr {Code_lines : Int32} {Code_isFull : Int32} {Live_names : Int32} {Live_words : Int32} {Code_op : Nat → Int32} {Code_set : Nat → Int32} {Code_left : Nat → Int32} {Code_leftNumber : Nat → Int32} {Code_right : Nat → Int32} {Code_rightNumber : Nat → Int32} {Live_in : Nat → Int64} {o1 : Int32} {o2 : Int32} {o3 : Nat → Int32} {o4 : Nat → Int32} {o5 : Nat → Int32} {o6 : Nat → Int32} {o7 : Nat → Int32} {o8 : Nat → Int32} {T : Nat → Prop} {W : Nat} (hQ : 0 < Q.1) (hN : Live_names.toInt = 100) (hW : Live_words.toInt = (W : Int)) (hT : ∀ v, v < 100 → (gbit Live_in (64 * (0 * W) + v) = true ↔ T v)) (h : tr_Giver_setLiveToZero Code_lines Code_isFull Live_names Live_words Code_op Code_set Code_left Code_leftNumber Code_right Code_rightNumber Live_in o1 o2 o3 o4 o5 o6 o7 o8) (hm : Code_lines.toInt + 100 ≤ 919) (hc : cdP bl Code_lines fi fg sg Code_op Code_set Code_left Code_leftNumber Code_right Code_rightNumber Q) : cdP bl o1 fi fg sg o3 o4 o5 o6 o7 o8 (zrF T Q 100) := by
  refine h (fun o1 _ o3 o4 o5 o6 o7 o8 => cdP bl o1 fi fg sg o3 o4 o5 o6 o7 o8 (zrF T Q 100)) ?_
  · intro x1 x2 x3 x4 x5 x6 x7 x8 h1
    exact sz2_tl hQ hN hW hT h1 0 (by decide) (by omega) hc
theorem opB_tr2 {x1 x2 : Int32} {y1 y2 y3 : Nat → Int32} (h : tr_Code_openBlock2 bl li fi fg sg x1 x2 y1 y2 y3) (hc : cdP bl li fi fg sg op st lf ln rt rn P) (hb : bl.toInt < 40) : x1.toInt = 1 ∧ cdP x2 li y1 y2 y3 op st lf ln rt rn (pgB P) := by
  refine h (fun x1 x2 y1 y2 y3 => x1.toInt = 1 ∧ cdP x2 li y1 y2 y3 op st lf ln rt rn (pgB P)) ?_ ?_
  · intro x1 x2 x3 x4 h1 h2 h3 h4 h5
    exact ⟨px_1, cdP_B hc h5 h2 h3 h4⟩
  · intro h1
    omega
theorem cdP_OL {y2 y3 : Nat → Int32} {u w : Int32} (h : cdP bl li fi fg sg op st lf ln rt rn (pgB Q)) (h1 : y2 = upd fg Q.1 u) (h2 : y3 = upd sg Q.1 w) (hu : u.toInt = P.2.2.2 Q.1 0) (hw : w.toInt = P.2.2.2 Q.1 1) : cdP bl li fi y2 y3 op st lf ln rt rn (pgOL P Q) := by
  obtain ⟨c1, c2, c3, c4⟩ := h
  refine ⟨c1, c2, fun b hb => ?_, c4⟩
  obtain ⟨d1, d2, d3⟩ := c3 b hb
  refine ⟨d1, ?_, ?_⟩
  · show (y2 b).toInt = if b = Q.1 then P.2.2.2 b 0 else Q.2.2.2 b 0
    rw [h1]
    by_cases e : b = Q.1
    · rw [e, updE, if_pos rfl]; exact hu
    · rw [updN e, if_neg e, d2]; exact if_neg e
  · show (y3 b).toInt = if b = Q.1 then P.2.2.2 b 1 else Q.2.2.2 b 1
    rw [h2]
    by_cases e : b = Q.1
    · rw [e, updE, if_pos rfl]; exact hw
    · rw [updN e, if_neg e, d3]; exact if_neg e
theorem opL_tr {Code_blocks : Int32} {Code_lines : Int32} {Code_blocks2 : Int32} {Code_first : Nat → Int32} {Code_firstGoal : Nat → Int32} {Code_secondGoal : Nat → Int32} {Code_firstGoal2 : Nat → Int32} {Code_secondGoal2 : Nat → Int32} {o1 : Int32} {o2 : Nat → Int32} {o3 : Nat → Int32} {o4 : Nat → Int32} {li2 : Int32} {fi2 op2 st2 lf2 ln2 rt2 rn2 : Nat → Int32} (h : tr_Code_openLike2 Code_blocks Code_lines Code_blocks2 Code_first Code_firstGoal Code_secondGoal Code_firstGoal2 Code_secondGoal2 o1 o2 o3 o4) (hc2 : cdP Code_blocks2 li2 fi2 Code_firstGoal2 Code_secondGoal2 op2 st2 lf2 ln2 rt2 rn2 P) (hc : cdP Code_blocks Code_lines Code_first Code_firstGoal Code_secondGoal op st lf ln rt rn Q) (hlt : Q.1 < P.1) (h40 : P.1 ≤ 40) : cdP o1 Code_lines o2 o3 o4 op st lf ln rt rn (pgOL P Q) := by
  have c1 := hc.1
  have c2 := hc2.1
  refine h (fun o1 o2 o3 o4 => cdP o1 Code_lines o2 o3 o4 op st lf ln rt rn (pgOL P Q)) ?_ ?_ ?_
  · intro h1
    omega
  · intro x1 x2 x3 x4 x5 h1 h2 h3 h4 h5
    obtain ⟨q1, -⟩ := opB_tr2 h4 hc (by omega)
    omega
  · intro x1 x2 x3 x4 x5 x6 x7 x8 x9 h1 h2 h3 h4 h5 h6 h7 h8 h9
    obtain ⟨q1, q2⟩ := opB_tr2 h4 hc (by omega)
    have e := nnE c1
    rw [e] at h6 h7 h8 h9
    obtain ⟨g0, g1⟩ := (hc2.2.2.1 Q.1 hlt).2
    exact cdP_OL q2 h7 h9 (by rw [h6]; exact g0) (by rw [h8]; exact g1)
theorem bg_tl {Code_blocks : Int32} {Code_firstGoal : Nat → Int32} {Code_secondGoal : Nat → Int32} {Code_first : Nat → Int32} {Code_lines : Int32} {Code_op : Nat → Int32} {Code_set : Nat → Int32} {Code_left : Nat → Int32} {Code_leftNumber : Nat → Int32} {Code_right : Nat → Int32} {Code_rightNumber : Nat → Int32} {c1 : Int32} {c2 : Int32} {c3 : Nat → Int64} {s1 : Int32} {s2 : Int32} {s3 : Int32} {s4 : Int32} {s5 : Nat → Int32} {s6 : Nat → Int32} {s7 : Nat → Int32} {s8 : Nat → Int32} {s9 : Nat → Int32} {s10 : Nat → Int32} {s11 : Nat → Int32} {s12 : Nat → Int32} {s13 : Nat → Int32} {k : Nat} {e1 : Int32} {e2 : Int32} {e3 : Int32} {e4 : Nat → Int32} {e5 : Nat → Int32} {e6 : Nat → Int32} {e7 : Nat → Int32} {e8 : Nat → Int32} {e9 : Nat → Int32} {e10 : Nat → Int32} {e11 : Nat → Int32} {e12 : Nat → Int32} {W : Nat} (hcP : cdP Code_blocks Code_lines Code_first Code_firstGoal Code_secondGoal Code_op Code_set Code_left Code_leftNumber Code_right Code_rightNumber P) (hl : lnO P) (h40 : P.1 ≤ 40) (h200 : fsm P.2.1 P.1 ≤ 200) (hN : c1.toInt = 100) (hW : c2.toInt = (W : Int)) (hT : ∀ v, v < 100 → (gbit c3 (64 * (0 * W) + v) = true ↔ lz P v)) (h : tl_Giver_begin_62 Code_blocks Code_firstGoal Code_secondGoal Code_first Code_lines Code_op Code_set Code_left Code_leftNumber Code_right Code_rightNumber c1 c2 c3 s1 s2 s3 s4 s5 s6 s7 s8 s9 s10 s11 s12 s13 k e1 e2 e3 e4 e5 e6 e7 e8 e9 e10 e11 e12) : ∀ b : Nat, s1.toInt = (b : Int) → b ≤ P.1 → cdP s2 s3 s5 s6 s7 s8 s9 s10 s11 s12 s13 (bgQ P b) → cdP e1 e2 e4 e5 e6 e7 e8 e9 e10 e11 e12 (bgQ P P.1) := by
  have cb := hcP.1
  have ls : ∀ b, b ≤ P.1 → fsm (bgQ P b).2.1 b ≤ 100 + fsm P.2.1 b := fun b => by
    induction b with
    | zero => exact fun _ => Nat.zero_le _
    | succ b ihb =>
      intro hb
      have i1 := ihb (by omega)
      obtain ⟨k1, k2⟩ := bgQ_e (P := P) b (by omega)
      obtain ⟨m1, m2⟩ := bgQ_e (P := P) (b + 1) hb
      have e1 : fsm (bgQ P (b + 1)).2.1 b = fsm (bgQ P b).2.1 b := fsm_c (fun c hc => by rw [(m2 c (by omega)).1, (k2 c hc).1])
      have e2 : (bgQ P (b + 1)).2.1 b = (pgZ P).2.1 b := (m2 b (by omega)).1
      show fsm (bgQ P (b + 1)).2.1 b + (bgQ P (b + 1)).2.1 b ≤ 100 + (fsm P.2.1 b + P.2.1 b)
      rw [e1, e2]
      by_cases e : b = 0
      · have z : (pgZ P).2.1 b = cntP (lz P) 100 + P.2.1 0 := if_pos e
        have c := cntP_le (T := lz P) 100
        rw [z, e]
        show 0 + (cntP (lz P) 100 + P.2.1 0) ≤ 100 + (0 + P.2.1 0)
        omega
      · have z : (pgZ P).2.1 b = P.2.1 b := if_neg e
        rw [z]; omega
  refine h (fun s1 s2 s3 _ s5 s6 s7 s8 s9 s10 s11 s12 s13 _ e1 e2 _ e4 e5 e6 e7 e8 e9 e10 e11 e12 => ∀ b : Nat, s1.toInt = (b : Int) → b ≤ P.1 → cdP s2 s3 s5 s6 s7 s8 s9 s10 s11 s12 s13 (bgQ P b) → cdP e1 e2 e4 e5 e6 e7 e8 e9 e10 e11 e12 (bgQ P P.1)) ?_ ?_ ?_
  · intro l2_1 Code_blocks_1 Code_lines_1 Code_isFull_1 Code_first_1 Code_firstGoal_1 Code_secondGoal_1 Code_op_1 Code_set_1 Code_left_1 Code_leftNumber_1 Code_right_1 Code_rightNumber_1 h1 h2 h3 h4 h5
    intro b hb hbP hc
    have e : b = P.1 := by omega
    rw [e] at hc; exact hc
  · intro l2_1 Code_blocks_1 Code_lines_1 Code_isFull_1 Code_first_1 Code_firstGoal_1 Code_secondGoal_1 Code_op_1 Code_set_1 Code_left_1 Code_leftNumber_1 Code_right_1 Code_rightNumber_1 x1 x2 x3 x4 x5 x6 x7 x8 x9 x10 x11 x12 x13 x14 k e1 e2 e3 e4 e5 e6 e7 e8 e9 e10 e11 e12 h1 h2 h3 h4 h5 h6 h7 h8 h9 h10 h11 h12 ih
    intro b hb hbP hc
    have hb2 : b < P.1 := by omega
    obtain ⟨k1, k2⟩ := bgQ_e (P := P) b (by omega)
    have lsb := ls b (by omega)
    have c2 := hc.2.1
    rw [k1] at c2
    have op := opL_tr h7 hcP hc (by rw [k1]; exact hb2) h40
    have hQ : 0 < (pgOL P (bgQ P b)).1 := Nat.succ_pos _
    have f1 := fsm_mo (l := P.2.1) (show b + 1 ≤ P.1 from hb2)
    have f2 : fsm P.2.1 (b + 1) = fsm P.2.1 b + P.2.1 b := rfl
    rw [nnE hb] at h9
    refine ih (b + 1) (by omega) (by omega) ?_
    have e0 : b ≠ 0 := by omega
    have r := bl_tl hcP hl hQ hb hb2 h11 0 (Nat.zero_le _) (by rw [h9]; exact (hcP.2.2.1 b hb2).1) (by omega) op
    have e : bgQ P (b + 1) = cpB P (pgOL P (bgQ P b)) b (P.2.1 b) := by
      show cpB P (@ite gPg (b = 0) (Classical.propDecidable (b = 0)) (zrF (lz P) (pgOL P (bgQ P b)) 100) (pgOL P (bgQ P b))) b (P.2.1 b) = _
      rw [if_neg e0]
    rw [e]; exact r
  · intro l2_1 Code_blocks_1 Code_lines_1 Code_isFull_1 Code_first_1 Code_firstGoal_1 Code_secondGoal_1 Code_op_1 Code_set_1 Code_left_1 Code_leftNumber_1 Code_right_1 Code_rightNumber_1 x1 x2 x3 x4 x5 x6 x7 x8 x9 x10 x11 x12 x13 x14 x15 x16 x17 x18 x19 x20 x21 x22 k e1 e2 e3 e4 e5 e6 e7 e8 e9 e10 e11 e12 h1 h2 h3 h4 h5 h6 h7 h8 h9 h10 h11 h12 h13 h14 h15 ih
    intro b hb hbP hc
    have hb2 : b < P.1 := by omega
    obtain ⟨k1, k2⟩ := bgQ_e (P := P) b (by omega)
    have lsb := ls b (by omega)
    have c2 := hc.2.1
    rw [k1] at c2
    have op := opL_tr h7 hcP hc (by rw [k1]; exact hb2) h40
    have hQ : 0 < (pgOL P (bgQ P b)).1 := Nat.succ_pos _
    have f1 := fsm_mo (l := P.2.1) (show b + 1 ≤ P.1 from hb2)
    have f2 : fsm P.2.1 (b + 1) = fsm P.2.1 b + P.2.1 b := rfl
    rw [nnE hb] at h12
    refine ih (b + 1) (by omega) (by omega) ?_
    have e0 : b = 0 := by omega
    have z := sz2_tr hQ hN hW hT h11 (by have l0 : fsm (bgQ P b).2.1 b = 0 := (by rw [e0]; rfl); omega) op
    have zl := z.2.1
    have zq : 0 < (zrF (lz P) (pgOL P (bgQ P b)) 100).1 := by rw [(zrF_f (T := lz P) (Q := pgOL P (bgQ P b)) 100 (Nat.le_refl _)).1]; exact hQ
    have r := bl_tl_2 hcP hl zq hb hb2 h14 0 (Nat.zero_le _) (by rw [h12]; exact (hcP.2.2.1 b hb2).1) ?_ z
    · have e : bgQ P (b + 1) = cpB P (zrF (lz P) (pgOL P (bgQ P b)) 100) b (P.2.1 b) := by
        show cpB P (@ite gPg (b = 0) (Classical.propDecidable (b = 0)) (zrF (lz P) (pgOL P (bgQ P b)) 100) (pgOL P (bgQ P b))) b (P.2.1 b) = _
        rw [if_pos e0]
      rw [e]; exact r
    · have zf := zrF_f (T := lz P) (Q := pgOL P (bgQ P b)) 100 (Nat.le_refl _)
      have q1 : (pgOL P (bgQ P b)).1 = b + 1 := by show (bgQ P b).1 + 1 = b + 1; rw [k1]
      have q2 := zf.2.2.2 b q1.symm
      have q3 : (pgOL P (bgQ P b)).2.1 b = 0 := if_pos k1.symm
      rw [zf.1, q1] at zl
      have q4 : fsm (zrF (lz P) (pgOL P (bgQ P b)) 100).2.1 (b + 1) = fsm (zrF (lz P) (pgOL P (bgQ P b)) 100).2.1 b + (zrF (lz P) (pgOL P (bgQ P b)) 100).2.1 b := rfl
      have q5 : fsm (zrF (lz P) (pgOL P (bgQ P b)) 100).2.1 b = 0 := by rw [e0]; rfl
      have cz := cntP_le (T := lz P) 100
      rw [q4, q5, q2.1, q3] at zl
      omega
theorem bg_tr {Code_blocks : Int32} {Code_lines : Int32} {Giver_slotOf : Nat → Int32} {Code_first : Nat → Int32} {Code_firstGoal : Nat → Int32} {Code_secondGoal : Nat → Int32} {Code_op : Nat → Int32} {Code_set : Nat → Int32} {Code_left : Nat → Int32} {Code_leftNumber : Nat → Int32} {Code_right : Nat → Int32} {Code_rightNumber : Nat → Int32} {Code_first2 : Nat → Int32} {Code_firstGoal2 : Nat → Int32} {Code_secondGoal2 : Nat → Int32} {Code_op2 : Nat → Int32} {Code_set2 : Nat → Int32} {Code_left2 : Nat → Int32} {Code_leftNumber2 : Nat → Int32} {Code_right2 : Nat → Int32} {Code_rightNumber2 : Nat → Int32} {Live_in : Nat → Int64} {Live_used : Nat → Int64} {Live_set : Nat → Int64} {Live_now : Nat → Int64} {o1 : Int32} {o2 : Int32} {o3 : Int32} {o4 : Int32} {o5 : Int32} {o6 : Int32} {o7 : Nat → Int32} {o8 : Int32} {o9 : Int32} {o10 : Int32} {o11 : Int32} {o12 : Int32} {o13 : Int32} {o14 : Nat → Int32} {o15 : Nat → Int32} {o16 : Nat → Int32} {o17 : Nat → Int32} {o18 : Nat → Int32} {o19 : Nat → Int32} {o20 : Nat → Int32} {o21 : Nat → Int32} {o22 : Nat → Int32} {o23 : Nat → Int64} {o24 : Nat → Int64} {o25 : Nat → Int64} {o26 : Nat → Int64} (hcP : cdP Code_blocks Code_lines Code_first Code_firstGoal Code_secondGoal Code_op Code_set Code_left Code_leftNumber Code_right Code_rightNumber P) (hl : lnO P) (h40 : P.1 ≤ 40) (h0 : 0 < P.1) (h200 : fsm P.2.1 P.1 ≤ 200) (h : tr_Giver_begin Code_blocks Code_lines Giver_slotOf Code_first Code_firstGoal Code_secondGoal Code_op Code_set Code_left Code_leftNumber Code_right Code_rightNumber Code_first2 Code_firstGoal2 Code_secondGoal2 Code_op2 Code_set2 Code_left2 Code_leftNumber2 Code_right2 Code_rightNumber2 Live_in Live_used Live_set Live_now o1 o2 o3 o4 o5 o6 o7 o8 o9 o10 o11 o12 o13 o14 o15 o16 o17 o18 o19 o20 o21 o22 o23 o24 o25 o26) : o1 = 100 ∧ cdP o8 o9 o14 o15 o16 o17 o18 o19 o20 o21 o22 (pgZ P) ∧ o12.toInt = 2 ∧ (∀ c v, c < P.1 → v < 128 → (gbit o23 (64 * (c * 2) + v) = true ↔ v < 100 ∧ Lv P false v c 0)) := by
  refine h (fun o1 o2 o3 o4 o5 o6 o7 o8 o9 o10 o11 o12 o13 o14 o15 o16 o17 o18 o19 o20 o21 o22 o23 o24 o25 o26 => o1 = 100 ∧ cdP o8 o9 o14 o15 o16 o17 o18 o19 o20 o21 o22 (pgZ P) ∧ o12.toInt = 2 ∧ (∀ c v, c < P.1 → v < 128 → (gbit o23 (64 * (c * 2) + v) = true ↔ v < 100 ∧ Lv P false v c 0))) ?_
  · intro x1 x2 x3 x4 x5 x6 x7 x8 x9 x10 x11 x12 x13 x14 x15 x16 x17 x18 x19 x20 x21 x22 x23 h1 h2 h3 h4 h5 h6 h7 h8 h9 h10
    obtain ⟨e1, e2, e3, eI, -⟩ := so_tr (Nm := 100) (sl := false) hcP (by decide) (by decide) (by decide) h5
    have e2' : x3.toInt = ((2 : Nat) : Int) := e2
    have hT : ∀ v, v < 100 → (gbit x5 (64 * (0 * 2) + v) = true ↔ lz P v) := fun v hv => by
      have q := eI 0 v h0 (by omega)
      exact ⟨fun z => (q.mp z).2, fun z => q.mpr ⟨hv, z⟩⟩
    have z9 : x9.toInt = 0 := by have a := h6.1; have b := h6.2; omega
    have z10 : x10.toInt = 0 := by have a := h7.1; have b := h7.2; omega
    refine ⟨rfl, ?_, e2, eI⟩
    exact cdP_c bgQ_Z (bg_tl hcP hl h40 h200 e1 e2' hT h10 0 (by decide) (Nat.zero_le _) (cdP_O z9 z10))
theorem lw_tl {Live_words : Int32} {a1 : Int32} {Live_in : Nat → Int64} {s1 : Int32} {s2 : Int32} {k : Nat} {e1 : Int32} {v W : Nat} (hW : Live_words.toInt = (W : Int)) (hW2 : W ≤ 32) (hv : a1.toInt = (v : Int)) (h : tl_Live_liveBefore_4 Live_words a1 Live_in s1 s2 k e1) : ∀ m : Nat, s1.toInt = (m : Int) → m ≤ W → 0 ≤ s2.toInt → s2.toInt ≤ 127 * (m : Int) → s2.toInt = bsm Live_in (v * W) m → e1.toInt = bsm Live_in (v * W) W := by
  refine h (fun s1 s2 _ e1 => ∀ m : Nat, s1.toInt = (m : Int) → m ≤ W → 0 ≤ s2.toInt → s2.toInt ≤ 127 * (m : Int) → s2.toInt = bsm Live_in (v * W) m → e1.toInt = bsm Live_in (v * W) W) ?_ ?_
  · intro l3_1 l2_1 h1 h2
    intro m hm hmW _ _ hs
    have e : m = W := by omega
    rw [e] at hs; exact hs
  · intro l3_1 l2_1 x1 x2 x3 x4 x5 x6 k e1 h1 h2 h3 h4 h5 h6 h7 h8 h9 ih
    intro m hm hmW h0 hL hs
    have b1 := h6.1
    have b2 := h6.2
    have ep : x1.toInt = ((v * W : Nat) : Int) := by rw [h3, hv, hW]; exact (Int.natCast_mul _ _).symm
    have e2 : x2.toNatClampNeg = v * W + m := nnE (by omega)
    rw [e2] at h5
    have e4 := bc_tr h7
    rw [h5] at e4
    have e5 : x5.toInt = l2_1.toInt + x4.toInt := px_add h8 (by omega) (by omega)
    refine ih (m + 1) (by omega) (by omega) (by omega) (by omega) ?_
    show x5.toInt = bsm Live_in (v * W) m + (lb_bc (Live_in (v * W + m))).toInt
    rw [← e4, ← hs, e5]
theorem lwb_tr {a1 : Int32} {Live_words : Int32} {Live_in : Nat → Int64} {o1 : Int32} {v W : Nat} (hW : Live_words.toInt = (W : Int)) (hW2 : W ≤ 32) (hv : a1.toInt = (v : Int)) (h : tr_Live_liveBefore a1 Live_words Live_in o1) : o1.toInt = bsm Live_in (v * W) W := by
  refine h (fun o1 => o1.toInt = bsm Live_in (v * W) W) ?_
  · intro x1 h1
    exact lw_tl hW hW2 hv h1 0 (by decide) (Nat.zero_le _) (by decide) (by decide) px_0
theorem sv7_tl {Code_blocks : Int32} {c1 : Int32} {c2 : Nat → Int64} {s1 : Int32} {s2 : Nat → Int32} {k : Nat} {e1 : Nat → Int32} (hn : Code_blocks.toInt = (P.1 : Int)) (hW : c1.toInt = 2) (h : tl_Giver_survey_7 Code_blocks c1 c2 s1 s2 k e1) : ∀ m : Nat, s1.toInt = (m : Int) → ∀ b, b < P.1 → (b < m → e1 b = s2 b) ∧ (m ≤ b → (e1 b).toInt = bsm c2 (b * 2) 2) := by
  refine h (fun s1 s2 _ e1 => ∀ m : Nat, s1.toInt = (m : Int) → ∀ b, b < P.1 → (b < m → e1 b = s2 b) ∧ (m ≤ b → (e1 b).toInt = bsm c2 (b * 2) 2)) ?_ ?_
  · intro l2_1 Giver_liveBefore_1 h1 h2
    intro m hm b hb
    exact ⟨fun _ => rfl, fun z => by omega⟩
  · intro l2_1 Giver_liveBefore_1 x1 x2 x3 k e1 h1 h2 h3 h4 h5 ih
    intro m hm b hb
    obtain ⟨i1, i2⟩ := ih (m + 1) (by omega) b hb
    rw [nnE hm] at h4
    refine ⟨fun z => by rw [i1 (by omega), h4, updN (by omega)], fun z => ?_⟩
    by_cases e : b = m
    · rw [i1 (by omega), h4, e, updE]
      exact lwb_tr (W := 2) hW (by decide) hm h3
    · exact i2 (by omega)
theorem sdS_tr {a nm r : Int32} {f : Nat → Int64} {m Nm : Nat} (h : tr_Graph_stands a nm f r) (ha : a.toInt = (m : Int)) (hm : m < Nm) (hN : nm.toInt = (Nm : Int)) : (r.toInt = 1 ∧ gbit f m = true) ∨ (r.toInt = 0 ∧ gbit f m = false) := by
  refine h (fun r => (r.toInt = 1 ∧ gbit f m = true) ∨ (r.toInt = 0 ∧ gbit f m = false)) ?_ ?_ ?_ ?_
  · intro h1
    omega
  · intro h1 h2
    omega
  · intro x1 x2 x3 x4 h1 h2 h3 h4 h5 h6 h7
    have t := tst_bit (f := f) (a := 0) (m := m) (i := x1) (by omega) ha h4 h5 h6
    rw [show 64 * 0 + m = m by omega] at t
    exact Or.inr ⟨px_0, t.mp h7⟩
  · intro x1 x2 x3 x4 h1 h2 h3 h4 h5 h6 h7
    have t := tst_bit (f := f) (a := 0) (m := m) (i := x1) (by omega) ha h4 h5 h6
    rw [show 64 * 0 + m = m by omega] at t
    exact Or.inl ⟨px_1, eq_true_of_ne_false (fun z => h7 (t.mpr z))⟩
theorem cwt_tr {a r : Int32} {f : Nat → Int32} {m : Nat} (h : tr_Colouring_weight a f r) (ha : a.toInt = (m : Int)) (hm : m < 720) : r = f m := by
  refine h (fun r => r = f m) ?_ ?_ ?_
  · intro h1
    omega
  · intro h1 h2
    omega
  · intro x1 h1 h2 h3
    rw [nnE ha] at h3; exact h3
theorem sv71_tl {c1 : Nat → Int32} {c2 : Int32} {c3 : Nat → Int64} {c4 : Nat → Int32} {s1 : Int32} {s2 : Nat → Int32} {s3 : Nat → Int32} {k : Nat} {e1 : Nat → Int32} {e2 : Nat → Int32} (hN : c2.toInt = 100) (h : tl_Giver_survey_71 c1 c2 c3 c4 s1 s2 s3 k e1 e2) : ∀ m : Nat, s1.toInt = (m : Int) → ∀ v, v < 100 → (v < m → e1 v = s2 v ∧ e2 v = s3 v) ∧ (m ≤ v → e1 v = c1 v ∧ (gbit c3 v = true → e2 v = c4 v) ∧ (gbit c3 v = false → e2 v = -1)) := by
  refine h (fun s1 s2 s3 _ e1 e2 => ∀ m : Nat, s1.toInt = (m : Int) → ∀ v, v < 100 → (v < m → e1 v = s2 v ∧ e2 v = s3 v) ∧ (m ≤ v → e1 v = c1 v ∧ (gbit c3 v = true → e2 v = c4 v) ∧ (gbit c3 v = false → e2 v = -1))) ?_ ?_ ?_
  · intro l2_1 Giver_firstWeight_1 Giver_firstDegree_1 h1 h2
    intro m hm v hv
    exact ⟨fun _ => ⟨rfl, rfl⟩, fun z => by omega⟩
  · intro l2_1 Giver_firstWeight_1 Giver_firstDegree_1 x1 x2 x3 x4 k e1 e2 h1 h2 h3 h4 h5 h6 h7 ih
    intro m hm v hv
    obtain ⟨i1, i2⟩ := ih (m + 1) (by omega) v hv
    rw [nnE hm] at h4 h6
    have sd := sdS_tr (Nm := 100) h5 hm (by omega) hN
    have cw := cwt_tr h3 hm (by omega)
    refine ⟨fun z => ?_, fun z => ?_⟩
    · rw [(i1 (by omega)).1, (i1 (by omega)).2, h4, h6, updN (by omega), updN (by omega)]
      exact ⟨rfl, rfl⟩
    · by_cases e : v = m
      · rw [(i1 (by omega)).1, (i1 (by omega)).2, h4, h6, e, updE, updE]
        rcases sd with ⟨sd, -⟩ | ⟨-, sd⟩
        · exact absurd sd (by decide)
        · exact ⟨cw, fun q => (by rw [sd] at q; cases q), fun _ => rfl⟩
      · exact i2 (by omega)
  · intro l2_1 Giver_firstWeight_1 Giver_firstDegree_1 x1 x2 x3 x4 x5 k e1 e2 h1 h2 h3 h4 h5 h6 h7 h8 ih
    intro m hm v hv
    obtain ⟨i1, i2⟩ := ih (m + 1) (by omega) v hv
    rw [nnE hm] at h4 h7
    have sd := sdS_tr (Nm := 100) h5 hm (by omega) hN
    have cw := cwt_tr h3 hm (by omega)
    refine ⟨fun z => ?_, fun z => ?_⟩
    · rw [(i1 (by omega)).1, (i1 (by omega)).2, h4, h7, updN (by omega), updN (by omega)]
      exact ⟨rfl, rfl⟩
    · by_cases e : v = m
      · rw [(i1 (by omega)).1, (i1 (by omega)).2, h4, h7, e, updE, updE]
        rcases sd with ⟨-, sd⟩ | ⟨sd, -⟩
        · exact ⟨cw, fun _ => by rw [h6, nnE hm], fun q => (by rw [sd] at q; cases q)⟩
        · exact absurd sd (by decide)
      · exact i2 (by omega)
/-- what look is asked for -/
def lkS (P : gPg) (dep fw fd lb : Nat → Int32) : Prop :=
  (∀ b, b < P.1 → (dep b).toInt = (dpt P b : Int)) ∧ (∀ b, b < P.1 → isD (fun v => v < 100 ∧ Lv P false v b 0) 2 (lb b).toInt) ∧
  ∀ v, v < 100 → fw v = wPg (pgZ P) (dpt P) v P.1 ∧ (Sd (pgZ P) false 100 v → isD (Jn (pgZ P) false 100 v) 2 (fd v).toInt) ∧ (¬ Sd (pgZ P) false 100 v → fd v = -1)
theorem sv_tr {Code_blocks : Int32} {Code_lines : Int32} {Giver_firstWeight : Nat → Int32} {Giver_firstDegree : Nat → Int32} {Giver_liveBefore : Nat → Int32} {Giver_slotOf : Nat → Int32} {Code_first : Nat → Int32} {Code_firstGoal : Nat → Int32} {Code_secondGoal : Nat → Int32} {Code_op : Nat → Int32} {Code_set : Nat → Int32} {Code_left : Nat → Int32} {Code_leftNumber : Nat → Int32} {Code_right : Nat → Int32} {Code_rightNumber : Nat → Int32} {Loops_depth : Nat → Int32} {Graph_joined : Nat → Int64} {Graph_standing : Nat → Int64} {Graph_degree : Nat → Int32} {Colouring_weight : Nat → Int32} {Code_first2 : Nat → Int32} {Code_firstGoal2 : Nat → Int32} {Code_secondGoal2 : Nat → Int32} {Code_op2 : Nat → Int32} {Code_set2 : Nat → Int32} {Code_left2 : Nat → Int32} {Code_leftNumber2 : Nat → Int32} {Code_right2 : Nat → Int32} {Code_rightNumber2 : Nat → Int32} {Live_in : Nat → Int64} {Live_used : Nat → Int64} {Live_set : Nat → Int64} {Live_now : Nat → Int64} {o1 : Int32} {o2 : Int32} {o3 : Int32} {o4 : Int32} {o5 : Int32} {o6 : Int32} {o7 : Int32} {o8 : Int32} {o9 : Nat → Int32} {o10 : Nat → Int32} {o11 : Nat → Int32} {o12 : Nat → Int32} {o13 : Int32} {o14 : Int32} {o15 : Int32} {o16 : Int32} {o17 : Int32} {o18 : Int32} {o19 : Nat → Int64} {o20 : Nat → Int64} {o21 : Nat → Int32} {o22 : Nat → Int32} {o23 : Nat → Int32} {o24 : Nat → Int32} {o25 : Nat → Int32} {o26 : Nat → Int32} {o27 : Nat → Int32} {o28 : Nat → Int32} {o29 : Nat → Int32} {o30 : Nat → Int32} {o31 : Nat → Int32} {o32 : Nat → Int64} {o33 : Nat → Int64} {o34 : Nat → Int64} {o35 : Nat → Int64} (hcP : cdP Code_blocks Code_lines Code_first Code_firstGoal Code_secondGoal Code_op Code_set Code_left Code_leftNumber Code_right Code_rightNumber P) (hl : lnO P) (h40 : P.1 ≤ 40) (h0 : 0 < P.1) (h200 : fsm P.2.1 P.1 ≤ 200) (hdp : ∀ b, b < P.1 → (Loops_depth b).toInt = (dpt P b : Int)) (h : tr_Giver_survey Code_blocks Code_lines Giver_firstWeight Giver_firstDegree Giver_liveBefore Giver_slotOf Code_first Code_firstGoal Code_secondGoal Code_op Code_set Code_left Code_leftNumber Code_right Code_rightNumber Loops_depth Graph_joined Graph_standing Graph_degree Colouring_weight Code_first2 Code_firstGoal2 Code_secondGoal2 Code_op2 Code_set2 Code_left2 Code_leftNumber2 Code_right2 Code_rightNumber2 Live_in Live_used Live_set Live_now o1 o2 o3 o4 o5 o6 o7 o8 o9 o10 o11 o12 o13 o14 o15 o16 o17 o18 o19 o20 o21 o22 o23 o24 o25 o26 o27 o28 o29 o30 o31 o32 o33 o34 o35) : lkS P Loops_depth o9 o10 o11 := by
  refine h (fun o1 o2 o3 o4 o5 o6 o7 o8 o9 o10 o11 o12 o13 o14 o15 o16 o17 o18 o19 o20 o21 o22 o23 o24 o25 o26 o27 o28 o29 o30 o31 o32 o33 o34 o35 => lkS P Loops_depth o9 o10 o11) ?_
  · intro x1 x2 x3 x4 x5 x6 x7 x8 x9 x10 x11 x12 x13 x14 x15 x16 x17 x18 x19 x20 x21 x22 x23 x24 x25 x26 x27 x28 x29 x30 x31 x32 x33 x34 x35 x36 x37 x38 x39 x40 x41 x42 h1 h2 h3 h4 h5 h6 h7 h8 h9 h10 h11 h12 h13 h14 h15 h16 h17 h18 h19 h20 h21 h22
    obtain ⟨b1, b2, b3, b4⟩ := bg_tr hcP hl h40 h0 h200 h13
    obtain ⟨g1, g2, -, -, gJ, gS, gD, -⟩ := gb_tr (Nm := 100) (sl := false) b2 (by rw [b1]; decide) (by decide) (by decide) h20
    have wv := wg_tr (dp := dpt P) b2 h40 hdp h21
    have s7 := sv7_tl hcP.1 b3 h14 0 (by decide)
    have s71 := sv71_tl g1 h22 0 (by decide)
    refine ⟨hdp, fun b hb => ?_, fun v hv => ?_⟩
    · exact ⟨x23, b * 2, fun v hv => b4 b v hb hv, (s7 b hb).2 (Nat.zero_le _)⟩
    · obtain ⟨r1, r2, r3⟩ := (s71 v hv).2 (Nat.zero_le _)
      have gs := gS v (by omega)
      refine ⟨by rw [r1, wv v (by omega)]; rfl, fun z => ?_, fun z => r3 (Bool.eq_false_iff.mpr (fun q => z (gs.mp q)))⟩
      rw [r2 (gs.mpr z)]
      exact gD v hv
end BGC
end
