/-- letter j of a literal -/
def chr (bs : List Int32) (j : Nat) : Int := ((bs.getD j 0) &&& 255).toInt
theorem px_i2c {x z : Int32} (hz : z = (x.toUInt32 % 65536).toInt32) (h0 : 0 ≤ x.toInt) (h1 : x.toInt ≤ 65535) : z.toInt = x.toInt := by
  have h : z.toBitVec.toNat = x.toUInt32.toNat % 65536 := by rw [hz]; rfl
  have h2 := gI_ofNat h (by omega)
  have h3 : x.toInt = if 2 * x.toBitVec.toNat < 2 ^ 32 then (x.toBitVec.toNat : Int) else (x.toBitVec.toNat : Int) - (2 ^ 32 : Nat) := BitVec.toInt_eq_toNat_cond x.toBitVec
  have h4 : x.toUInt32.toNat = x.toBitVec.toNat := rfl
  have h5 := x.toBitVec.isLt
  split at h3 <;> omega
theorem chr_lt {bs : List Int32} {j : Nat} : 0 ≤ chr bs j ∧ chr bs j ≤ 255 := gB_and (z := (bs.getD j 0) &&& 255) rfl (gBl (show Int32.toInt 255 = 255 by decide)) (by decide)
theorem ch1_tr {bs : List Int32} {j r : Int32} (h : tr_StringLatin1_charAt bs j r) : r.toInt = chr bs j.toInt.toNat := by
  refine h (fun r => r.toInt = chr bs j.toInt.toNat) ?_
  · intro x1 x2 x3 x4 h1 h2 h3 h4 h5
    show x4.toInt = _
    have b := chr_lt (bs := bs) (j := j.toInt.toNat)
    have e3 : x3.toInt = chr bs j.toInt.toNat := by rw [h4, h3]; rfl
    rw [px_i2c h5 (by omega) (by omega), e3]
theorem ch_tr {bs : List Int32} {j r : Int32} (h : tr_String_charAt bs j r) : r.toInt = chr bs j.toInt.toNat := by
  refine h (fun r => r.toInt = chr bs j.toInt.toNat) ?_
  · intro x1 h1 h2
    exact ch1_tr h2
theorem ln_tr {bs : List Int32} {r : Int32} (h : tr_String_length bs r) : r.toInt = (bs.length : Int) := by
  refine h (fun r => r.toInt = (bs.length : Int)) ?_
  · intro x1 x2 h1 h2
    show x2.toInt = _
    omega
/-- the letters from p to e are those of bs -/
def isW (bs : List Int32) (B : Int → Int) (n p e : Int) : Bool := decide (e - p = (bs.length : Int)) && (List.range bs.length).all (fun j => decide (B (p + (j : Int)) = chr bs j))
theorem isW_iff {bs : List Int32} {B : Int → Int} {n p e : Int} : isW bs B n p e = true ↔ (e - p = (bs.length : Int) ∧ ∀ j : Nat, j < bs.length → B (p + (j : Int)) = chr bs j) := by
  unfold isW
  simp only [Bool.and_eq_true, decide_eq_true_eq, List.all_eq_true, List.mem_range]
theorem isW_tl {bs : List Int32} {p n : Int32} {f : Nat → Int32} {i : Int32} {k : Nat} (hp : 0 ≤ p.toInt) (hp2 : p.toInt ≤ 8192) (h : tl_Signs_isWord_20 bs p n f i k) : 0 ≤ i.toInt → (k = 57 ∧ ∀ j : Nat, i.toInt ≤ j → j < bs.length → bA f n.toInt (p.toInt + (j : Int)) = chr bs j) ∨ (k = 49 ∧ ∃ j : Nat, j < bs.length ∧ bA f n.toInt (p.toInt + (j : Int)) ≠ chr bs j) := by
  refine h (fun i k => 0 ≤ i.toInt → (k = 57 ∧ ∀ j : Nat, i.toInt ≤ j → j < bs.length → bA f n.toInt (p.toInt + (j : Int)) = chr bs j) ∨ (k = 49 ∧ ∃ j : Nat, j < bs.length ∧ bA f n.toInt (p.toInt + (j : Int)) ≠ chr bs j)) ?_ ?_ ?_
  · intro l2_1 x1 h1 h2 h3 h4
    try dsimp only at *
    have q3 := ln_tr h3
    intro i0
    exact Or.inl ⟨rfl, fun j a b => by omega⟩
  · intro l2_1 x1 x2 x3 x4 x5 k h1 h2 h3 h4 h5 h6 h7 h8 h9 h10 h11 ih
    try dsimp only at *
    have q3 := ln_tr h3
    have q7 := bA_tr h7
    have q9 := ch_tr h9
    intro i0
    have b2 := h1.2
    have e2 : x2.toInt = p.toInt + l2_1.toInt := px_add h5 (by omega) (by omega)
    rw [e2] at q7
    have ej : ((l2_1.toInt.toNat : Nat) : Int) = l2_1.toInt := Int.toNat_of_nonneg i0
    rcases ih (by omega) with ⟨hk, hj⟩ | hn
    · refine Or.inl ⟨hk, fun j a b => ?_⟩
      by_cases e : (j : Int) = l2_1.toInt
      · have ejj : j = l2_1.toInt.toNat := by omega
        rw [e, ← q7, h10, q9, ejj]
      · exact hj j (by omega) b
    · exact Or.inr hn
  · intro l2_1 x1 x2 x3 x4 h1 h2 h3 h4 h5 h6 h7 h8 h9 h10
    try dsimp only at *
    have q3 := ln_tr h3
    have q7 := bA_tr h7
    have q9 := ch_tr h9
    intro i0
    have b2 := h1.2
    have e2 : x2.toInt = p.toInt + l2_1.toInt := px_add h5 (by omega) (by omega)
    rw [e2] at q7
    have ej : ((l2_1.toInt.toNat : Nat) : Int) = l2_1.toInt := Int.toNat_of_nonneg i0
    exact Or.inr ⟨rfl, l2_1.toInt.toNat, by omega, by rw [ej, ← q7, ← q9]; exact h10⟩
theorem isW_tr {bs : List Int32} {p e n r : Int32} {f : Nat → Int32} (hp : 0 ≤ p.toInt) (hp2 : p.toInt ≤ 8192) (he : p.toInt ≤ e.toInt) (h : tr_Signs_isWord bs p e n f r) : isW bs (bA f n.toInt) n.toInt p.toInt e.toInt = decide (r.toInt ≠ 0) := by
  have bE := Int32.toInt_lt e
  refine h (fun r => isW bs (bA f n.toInt) n.toInt p.toInt e.toInt = decide (r.toInt ≠ 0)) ?_ ?_ ?_
  · intro x1 x2 h1 h2 h3 h4 h5
    try dsimp only at *
    have q3 := ln_tr h3
    have q5 := isW_tl hp hp2 h5 (by decide)
    have e1 : x1.toInt = e.toInt - p.toInt := px_sub h1 (by omega) (by omega)
    rw [decide_eq_true (by decide), isW_iff]
    rcases q5 with ⟨-, hj⟩ | ⟨hk, -⟩
    · exact ⟨by omega, fun j b => hj j (by rw [px_0]; omega) b⟩
    · exact absurd hk (by decide)
  · intro x1 x2 h1 h2 h3 h4 h5
    try dsimp only at *
    have q3 := ln_tr h3
    have q5 := isW_tl hp hp2 h5 (by decide)
    have e1 : x1.toInt = e.toInt - p.toInt := px_sub h1 (by omega) (by omega)
    rw [decide_eq_false (by decide)]
    rcases q5 with ⟨hk, -⟩ | ⟨-, j, b, hj⟩
    · exact absurd hk (by decide)
    · exact Bool.eq_false_iff.mpr (fun z => hj ((isW_iff.mp z).2 j b))
  · intro x1 x2 h1 h2 h3 h4
    try dsimp only at *
    have q3 := ln_tr h3
    have e1 : x1.toInt = e.toInt - p.toInt := px_sub h1 (by omega) (by omega)
    rw [decide_eq_false (by decide)]
    exact Bool.eq_false_iff.mpr (fun z => h4 (by have := (isW_iff.mp z).1; omega))
/-- the place behind the letters from i on -/
def ltr (B : Int → Int) (n i : Int) : Int := if i < n ∧ 97 ≤ B i ∧ B i ≤ 122 then ltr B n (i + 1) else i
termination_by (n - i).toNat
decreasing_by omega
theorem ltr_tl {n i e : Int32} {f : Nat → Int32} {k : Nat} (h : tl_Signs_takeWord_5 n f i k e) : e.toInt = ltr (bA f n.toInt) n.toInt i.toInt ∧ i.toInt ≤ e.toInt := by
  refine h (fun i k e => e.toInt = ltr (bA f n.toInt) n.toInt i.toInt ∧ i.toInt ≤ e.toInt) ?_ ?_ ?_
  · intro l1_1 h1
    try dsimp only at *
    refine ⟨?_, Int.le_refl _⟩
    rw [ltr, if_neg (by omega)]
  · intro l1_1 x1 x2 h1 h2 h3 h4 h5 h6
    try dsimp only at *
    have q3 := bA_tr h3
    have q5 := lt_tr h5
    refine ⟨?_, Int.le_refl _⟩
    rw [ltr, if_neg (by rw [← q3]; omega)]
  · intro l1_1 x1 x2 x3 k e1 h1 h2 h3 h4 h5 h6 h7 ih
    try dsimp only at *
    have q3 := bA_tr h3
    have q5 := lt_tr h5
    refine ⟨?_, by omega⟩
    rw [ltr, if_pos ⟨h1, by rw [← q3]; omega, by rw [← q3]; omega⟩, ← h7]
    exact ih.1
def wdK (B : Int → Int) (n p e : Int) : Int := if isW sb_0 B n p e then 8 else if isW sb_1 B n p e then 9 else if isW sb_2 B n p e then 10 else if isW sb_3 B n p e then 11 else if isW sb_4 B n p e then 12 else 0
theorem wd_tr {p n k e : Int32} {f : Nat → Int32} (hp : 0 ≤ p.toInt) (hp2 : p.toInt ≤ 8192) (h : tr_Signs_takeWord p n f k e) : k.toInt = wdK (bA f n.toInt) n.toInt p.toInt (ltr (bA f n.toInt) n.toInt p.toInt) ∧ e.toInt = ltr (bA f n.toInt) n.toInt p.toInt := by
  refine h (fun k e => k.toInt = wdK (bA f n.toInt) n.toInt p.toInt (ltr (bA f n.toInt) n.toInt p.toInt) ∧ e.toInt = ltr (bA f n.toInt) n.toInt p.toInt) ?_ ?_ ?_ ?_ ?_ ?_
  · intro x1 x2 x3 x4 x5 x6 h1 h2 h3 h4 h5 h6 h7 h8 h9 h10 h11 h12 h13 h14 h15 h16
    try dsimp only at *
    have q1 := ltr_tl h1
    obtain ⟨e1, e2⟩ := q1
    refine ⟨?_, e1⟩
    rw [← e1]
    unfold wdK
    have w3 := isW_tr hp hp2 e2 h3
    have w6 := isW_tr hp hp2 e2 h6
    have w9 := isW_tr hp hp2 e2 h9
    have w12 := isW_tr hp hp2 e2 h12
    have w15 := isW_tr hp hp2 e2 h15
    simp only [w3, w6, w9, w12, w15, h4, h7, h10, h13, h16, ne_eq, not_true_eq_false, not_false_eq_true, decide_true, decide_false, Bool.false_eq_true, if_true, if_false, ↓reduceIte]
    decide
  · intro x1 x2 x3 x4 x5 x6 h1 h2 h3 h4 h5 h6 h7 h8 h9 h10 h11 h12 h13 h14 h15 h16
    try dsimp only at *
    have q1 := ltr_tl h1
    obtain ⟨e1, e2⟩ := q1
    refine ⟨?_, e1⟩
    rw [← e1]
    unfold wdK
    have w3 := isW_tr hp hp2 e2 h3
    have w6 := isW_tr hp hp2 e2 h6
    have w9 := isW_tr hp hp2 e2 h9
    have w12 := isW_tr hp hp2 e2 h12
    have w15 := isW_tr hp hp2 e2 h15
    simp only [w3, w6, w9, w12, w15, h4, h7, h10, h13, h16, ne_eq, not_true_eq_false, not_false_eq_true, decide_true, decide_false, Bool.false_eq_true, if_true, if_false, ↓reduceIte]
    decide
  · intro x1 x2 x3 x4 x5 h1 h2 h3 h4 h5 h6 h7 h8 h9 h10 h11 h12 h13
    try dsimp only at *
    have q1 := ltr_tl h1
    obtain ⟨e1, e2⟩ := q1
    refine ⟨?_, e1⟩
    rw [← e1]
    unfold wdK
    have w3 := isW_tr hp hp2 e2 h3
    have w6 := isW_tr hp hp2 e2 h6
    have w9 := isW_tr hp hp2 e2 h9
    have w12 := isW_tr hp hp2 e2 h12
    simp only [w3, w6, w9, w12, h4, h7, h10, h13, ne_eq, not_true_eq_false, not_false_eq_true, decide_true, decide_false, Bool.false_eq_true, if_true, if_false, ↓reduceIte]
    decide
  · intro x1 x2 x3 x4 h1 h2 h3 h4 h5 h6 h7 h8 h9 h10
    try dsimp only at *
    have q1 := ltr_tl h1
    obtain ⟨e1, e2⟩ := q1
    refine ⟨?_, e1⟩
    rw [← e1]
    unfold wdK
    have w3 := isW_tr hp hp2 e2 h3
    have w6 := isW_tr hp hp2 e2 h6
    have w9 := isW_tr hp hp2 e2 h9
    simp only [w3, w6, w9, h4, h7, h10, ne_eq, not_true_eq_false, not_false_eq_true, decide_true, decide_false, Bool.false_eq_true, if_true, if_false, ↓reduceIte]
    decide
  · intro x1 x2 x3 h1 h2 h3 h4 h5 h6 h7
    try dsimp only at *
    have q1 := ltr_tl h1
    obtain ⟨e1, e2⟩ := q1
    refine ⟨?_, e1⟩
    rw [← e1]
    unfold wdK
    have w3 := isW_tr hp hp2 e2 h3
    have w6 := isW_tr hp hp2 e2 h6
    simp only [w3, w6, h4, h7, ne_eq, not_true_eq_false, not_false_eq_true, decide_true, decide_false, Bool.false_eq_true, if_true, if_false, ↓reduceIte]
    decide
  · intro x1 x2 h1 h2 h3 h4
    try dsimp only at *
    have q1 := ltr_tl h1
    obtain ⟨e1, e2⟩ := q1
    refine ⟨?_, e1⟩
    rw [← e1]
    unfold wdK
    have w3 := isW_tr hp hp2 e2 h3
    simp only [w3, h4, ne_eq, not_true_eq_false, not_false_eq_true, decide_true, decide_false, Bool.false_eq_true, if_true, if_false, ↓reduceIte]
    decide
/-- the operation of c and d, from the i-th on -/
def opF (i c d : Int) : Int := if i < 14 then (if chr sb_5 (2 * i).toNat = c ∧ chr sb_5 (2 * i + 1).toNat = d then i else opF (i + 1) c d) else -1
termination_by (14 - i).toNat
decreasing_by omega
theorem op_tl {c d i e : Int32} {k : Nat} (h : tl_Signs_opOf_2 c d i k e) : opF i.toInt c.toInt d.toInt = if k = 34 then e.toInt else -1 := by
  refine h (fun i k e => opF i.toInt c.toInt d.toInt = if k = 34 then e.toInt else -1) ?_ ?_ ?_ ?_
  · intro l2_1 h1 h2
    try dsimp only at *
    rw [opF, if_neg (by omega)]; rfl
  · intro l2_1 x1 x2 x3 k e1 h1 h2 h3 h4 h5 h6 h7 ih
    try dsimp only at *
    have q5 := ch_tr h5
    rw [h3] at q5
    rw [opF, if_pos h2, if_neg (fun z => h6 (q5.trans z.1)), ← h7]
    exact ih
  · intro l2_1 x1 x2 x3 x4 x5 x6 k e1 h1 h2 h3 h4 h5 h6 h7 h8 h9 h10 h11 h12 ih
    try dsimp only at *
    have q5 := ch_tr h5
    have q10 := ch_tr h10
    rw [h8, h7] at q10
    rw [opF, if_pos h2, if_neg (fun z => h11 (q10.trans z.2)), ← h12]
    exact ih
  · intro l2_1 x1 x2 x3 x4 x5 h1 h2 h3 h4 h5 h6 h7 h8 h9 h10 h11
    try dsimp only at *
    have q5 := ch_tr h5
    have q10 := ch_tr h10
    rw [h3] at q5
    rw [h8, h7] at q10
    rw [opF, if_pos h2, if_pos ⟨q5.symm.trans h6, q10.symm.trans h11⟩]; rfl
theorem op_tr {c d r : Int32} (h : tr_Signs_opOf c d r) : r.toInt = opF 0 c.toInt d.toInt := by
  refine h (fun r => r.toInt = opF 0 c.toInt d.toInt) ?_ ?_
  · intro h1
    try dsimp only at *
    have q1 := op_tl h1
    rw [px_0] at q1
    rw [q1]; decide
  · intro x1 h1
    try dsimp only at *
    have q1 := op_tl h1
    rw [px_0] at q1
    rw [q1]; rfl
def mkS (p c d : Int) : Int × Int × Int := if opF 0 c d ≠ -1 ∧ d ≠ 32 then (5, opF 0 c d, p + 2) else if opF 0 c 32 ≠ -1 then (5, opF 0 c 32, p + 1) else if c = 58 then (6, 0, p + 1) else if c = 61 then (7, 0, p + 1) else (0, 0, p + 1)
theorem mk_tr {c d p k v e : Int32} (hp : 0 ≤ p.toInt) (hp2 : p.toInt ≤ 8192) (h : tr_Signs_takeMark c d p k v e) : sgE k v e (mkS p.toInt c.toInt d.toInt) := by
  have z32 : Int32.toInt 32 = 32 := by decide
  have z2 : Int32.toInt 2 = 2 := by decide
  refine h (fun k v e => sgE k v e (mkS p.toInt c.toInt d.toInt)) ?_ ?_ ?_ ?_ ?_ ?_ ?_ ?_ ?_
  · intro x1 x2 x3 h1 h2 h3 h4 h5 h6 h7 h8 h9
    try dsimp only at *
    have q2 := op_tr h2
    have q5 := op_tr h5
    rw [z32] at q5
    have ea := px_add h6 (by rw [px_1]; omega) (by rw [px_1]; omega)
    rw [px_1] at ea
    unfold mkS sgE
    rw [if_neg (by omega)]
    rw [if_neg (by omega), if_neg (by omega), if_neg (by omega)]
    exact ⟨px_0, ea, fun a b => by have z : Int32.toInt 0 = 0 := (by decide); omega⟩
  · intro x1 x2 x3 h1 h2 h3 h4 h5 h6 h7 h8 h9
    try dsimp only at *
    have q2 := op_tr h2
    have q5 := op_tr h5
    rw [z32] at q5
    have ea := px_add h6 (by rw [px_1]; omega) (by rw [px_1]; omega)
    rw [px_1] at ea
    unfold mkS sgE
    rw [if_neg (by omega)]
    rw [if_neg (by omega), if_neg (by omega), if_pos (by omega)]
    exact ⟨px_7, ea, fun a b => by have z : Int32.toInt 7 = 7 := (by decide); omega⟩
  · intro x1 x2 x3 h1 h2 h3 h4 h5 h6 h7 h8
    try dsimp only at *
    have q2 := op_tr h2
    have q5 := op_tr h5
    rw [z32] at q5
    have ea := px_add h6 (by rw [px_1]; omega) (by rw [px_1]; omega)
    rw [px_1] at ea
    unfold mkS sgE
    rw [if_neg (by omega)]
    rw [if_neg (by omega), if_pos (by omega)]
    exact ⟨px_6, ea, fun a b => by have z : Int32.toInt 6 = 6 := (by decide); omega⟩
  · intro x1 x2 x3 h1 h2 h3 h4 h5 h6 h7
    try dsimp only at *
    have q2 := op_tr h2
    have q5 := op_tr h5
    rw [z32] at q5
    have ea := px_add h6 (by rw [px_1]; omega) (by rw [px_1]; omega)
    rw [px_1] at ea
    unfold mkS sgE
    rw [if_neg (by omega)]
    rw [if_pos (by omega)]
    exact ⟨px_5, ea, fun _ _ => q5⟩
  · intro x1 x2 h1 h2 h3 h4 h5
    try dsimp only at *
    have q2 := op_tr h2
    have ea := px_add h3 (by rw [z2]; omega) (by rw [z2]; omega)
    rw [z2] at ea
    unfold mkS sgE
    rw [if_pos ⟨by omega, by omega⟩]
    exact ⟨px_5, ea, fun _ _ => q2⟩
  · intro x1 x2 x3 h1 h2 h3 h4 h5 h6 h7 h8 h9 h10
    try dsimp only at *
    have q2 := op_tr h2
    have q6 := op_tr h6
    rw [z32] at q6
    have ea := px_add h7 (by rw [px_1]; omega) (by rw [px_1]; omega)
    rw [px_1] at ea
    unfold mkS sgE
    rw [if_neg (by omega)]
    rw [if_neg (by omega), if_neg (by omega), if_neg (by omega)]
    exact ⟨px_0, ea, fun a b => by have z : Int32.toInt 0 = 0 := (by decide); omega⟩
  · intro x1 x2 x3 h1 h2 h3 h4 h5 h6 h7 h8 h9 h10
    try dsimp only at *
    have q2 := op_tr h2
    have q6 := op_tr h6
    rw [z32] at q6
    have ea := px_add h7 (by rw [px_1]; omega) (by rw [px_1]; omega)
    rw [px_1] at ea
    unfold mkS sgE
    rw [if_neg (by omega)]
    rw [if_neg (by omega), if_neg (by omega), if_pos (by omega)]
    exact ⟨px_7, ea, fun a b => by have z : Int32.toInt 7 = 7 := (by decide); omega⟩
  · intro x1 x2 x3 h1 h2 h3 h4 h5 h6 h7 h8 h9
    try dsimp only at *
    have q2 := op_tr h2
    have q6 := op_tr h6
    rw [z32] at q6
    have ea := px_add h7 (by rw [px_1]; omega) (by rw [px_1]; omega)
    rw [px_1] at ea
    unfold mkS sgE
    rw [if_neg (by omega)]
    rw [if_neg (by omega), if_pos (by omega)]
    exact ⟨px_6, ea, fun a b => by have z : Int32.toInt 6 = 6 := (by decide); omega⟩
  · intro x1 x2 x3 h1 h2 h3 h4 h5 h6 h7 h8
    try dsimp only at *
    have q2 := op_tr h2
    have q6 := op_tr h6
    rw [z32] at q6
    have ea := px_add h7 (by rw [px_1]; omega) (by rw [px_1]; omega)
    rw [px_1] at ea
    unfold mkS sgE
    rw [if_neg (by omega)]
    rw [if_pos (by omega)]
    exact ⟨px_5, ea, fun _ _ => q6⟩
/-- the sign at p: kind, value, place behind -/
def sgn (B : Int → Int) (n p : Int) (aft : Bool) : Int × Int × Int :=
  if B p = -1 then (1, 0, p)
  else if 48 ≤ B p ∧ B p ≤ 57 then nuS false (dgs B n p 0)
  else if B p = 45 ∧ (48 ≤ B (p + 1) ∧ B (p + 1) ≤ 57) ∧ aft = false then nuS true (dgs B n (p + 1) 0)
  else if B p = 118 ∧ 48 ≤ B (p + 1) ∧ B (p + 1) ≤ 57 then naS 2 100 (dgs B n (p + 1) 0)
  else if B p = 98 ∧ 48 ≤ B (p + 1) ∧ B (p + 1) ≤ 57 then naS 3 40 (dgs B n (p + 1) 0)
  else if 97 ≤ B p ∧ B p ≤ 122 then (wdK B n p (ltr B n p), 0, ltr B n p)
  else mkS p (B p) (B (p + 1))
theorem skp_le {B : Int → Int} {n i r : Int} (h : i ≤ n) : i ≤ skp B n i r ∧ skp B n i r ≤ n := by
  induction i, r using skp.induct (B := B) (n := n) with
  | case1 i r h1 h2 ih => rw [skp, if_pos h1, if_pos h2]; have := ih (by omega); omega
  | case2 i r h1 h2 h3 ih => rw [skp, if_pos h1, if_neg h2, if_pos h3]; have := ih (by omega); omega
  | case3 i r h1 h2 h3 h4 ih => rw [skp, if_pos h1, if_neg h2, if_neg h3, if_pos h4]; have := ih (by omega); omega
  | case4 i r h1 h2 h3 h4 => rw [skp, if_pos h1, if_neg h2, if_neg h3, if_neg h4]; omega
  | case5 i r h1 => rw [skp, if_neg h1]; omega
theorem wdK_no (B : Int → Int) (n p e : Int) : wdK B n p e = 0 ∨ 8 ≤ wdK B n p e := by
  unfold wdK
  split
  · omega
  · split
    · omega
    · split
      · omega
      · split
        · omega
        · split <;> omega
theorem adv_tr {k0 b n k v p e : Int32} {f : Nat → Int32} (hb0 : 0 ≤ b.toInt) (hb : b.toInt ≤ n.toInt) (hn : n.toInt ≤ 8192) (h : tr_Signs_advance k0 b n f k v p e) : p.toInt = skp (bA f n.toInt) n.toInt b.toInt 0 ∧ sgE k v e (sgn (bA f n.toInt) n.toInt p.toInt (decide (k0.toInt = 2 ∨ k0.toInt = 4))) := by
  have hsk := skp_le (B := bA f n.toInt) (r := 0) hb
  refine h (fun k v p e => p.toInt = skp (bA f n.toInt) n.toInt b.toInt 0 ∧ sgE k v e (sgn (bA f n.toInt) n.toInt p.toInt (decide (k0.toInt = 2 ∨ k0.toInt = 4)))) ?_ ?_ ?_ ?_ ?_ ?_ ?_ ?_ ?_ ?_ ?_ ?_ ?_ ?_ ?_ ?_ ?_ ?_ ?_ ?_ ?_ ?_ ?_ ?_ ?_ ?_ ?_ ?_ ?_ ?_ ?_ ?_ ?_ ?_ ?_ ?_ ?_ ?_ ?_ ?_ ?_ ?_ ?_ ?_
  · intro x1 x2 x3 x4 x5 x6 x7 x8 h1 h2 h3 h4 h5 h6 h7 h8 h9 h10 h11 h12 h13 h14 h15
    try dsimp only at *
    have qs := skp_tr h3
    have qb1 := bA_tr h5
    have qb2 := bA_tr h8
    have q11 := dg_tr h11
    rw [h6] at qb2
    rw [decide_eq_true (by omega)]
    refine ⟨qs, ?_⟩
    unfold sgn
    rw [← qb1, ← qb2]
    rw [if_neg (by omega), if_pos (by omega)]
    have r := num_tr (by omega) (by omega) h15
    rw [px_0] at r
    simpa using r
  · intro x1 x2 x3 x4 x5 x6 x7 x8 h1 h2 h3 h4 h5 h6 h7 h8 h9 h10 h11 h12 h13 h14 h15
    try dsimp only at *
    have qs := skp_tr h3
    have qb1 := bA_tr h5
    have qb2 := bA_tr h8
    have q11 := dg_tr h11
    rw [h6] at qb2
    rw [decide_eq_true (by omega)]
    refine ⟨qs, ?_⟩
    unfold sgn
    rw [← qb1, ← qb2]
    first
    | (exfalso; omega)
    | (rw [if_neg (by omega), if_neg (by omega), if_pos ⟨by omega, by omega, rfl⟩]; have r := num_tr (by omega) (by omega) h15; rw [px_1] at r; simpa using r)
  · intro x1 x2 x3 x4 x5 x6 x7 x8 x9 h1 h2 h3 h4 h5 h6 h7 h8 h9 h10 h11 h12 h13 h14 h15 h16 h17 h18 h19 h20 h21
    try dsimp only at *
    have qs := skp_tr h3
    have qb1 := bA_tr h5
    have qb2 := bA_tr h8
    have q11 := dg_tr h11
    have q17 := lt_tr h17
    rw [h6] at qb2
    rw [decide_eq_true (by omega)]
    refine ⟨qs, ?_⟩
    unfold sgn
    rw [← qb1, ← qb2]
    first
    | (exfalso; omega)
    | (rw [if_neg (by omega), if_neg (by omega), if_neg (fun z => by cases z.2.2), if_neg (by omega), if_neg (by omega), if_neg (by omega)]; have r := mk_tr (by omega) (by omega) h21; exact r)
  · intro x1 x2 x3 x4 x5 x6 x7 x8 h1 h2 h3 h4 h5 h6 h7 h8 h9 h10 h11 h12 h13 h14 h15 h16 h17 h18 h19 h20
    try dsimp only at *
    have qs := skp_tr h3
    have qb1 := bA_tr h5
    have qb2 := bA_tr h8
    have q11 := dg_tr h11
    have q17 := lt_tr h17
    rw [h6] at qb2
    rw [decide_eq_true (by omega)]
    refine ⟨qs, ?_⟩
    unfold sgn
    rw [← qb1, ← qb2]
    first
    | (exfalso; omega)
    | (rw [if_neg (by omega), if_neg (by omega), if_neg (fun z => by cases z.2.2), if_neg (by omega), if_neg (by omega), if_pos (by omega)]; obtain ⟨r1, r2⟩ := wd_tr (by omega) (by omega) h20; exact ⟨r1, r2, fun a b => by have w := wdK_no (bA f n.toInt) n.toInt x1.toInt (ltr (bA f n.toInt) n.toInt x1.toInt); omega⟩)
  · intro x1 x2 x3 x4 x5 x6 x7 x8 x9 x10 h1 h2 h3 h4 h5 h6 h7 h8 h9 h10 h11 h12 h13 h14 h15 h16 h17 h18 h19 h20 h21 h22 h23 h24
    try dsimp only at *
    have qs := skp_tr h3
    have qb1 := bA_tr h5
    have qb2 := bA_tr h8
    have q11 := dg_tr h11
    have q17 := dg_tr h17
    have q20 := lt_tr h20
    rw [h6] at qb2
    rw [decide_eq_true (by omega)]
    refine ⟨qs, ?_⟩
    unfold sgn
    rw [← qb1, ← qb2]
    first
    | (exfalso; omega)
    | (rw [if_neg (by omega), if_neg (by omega), if_neg (fun z => by cases z.2.2), if_neg (by omega), if_neg (by omega), if_neg (by omega)]; have r := mk_tr (by omega) (by omega) h24; exact r)
  · intro x1 x2 x3 x4 x5 x6 x7 x8 x9 h1 h2 h3 h4 h5 h6 h7 h8 h9 h10 h11 h12 h13 h14 h15 h16 h17 h18 h19 h20 h21 h22 h23
    try dsimp only at *
    have qs := skp_tr h3
    have qb1 := bA_tr h5
    have qb2 := bA_tr h8
    have q11 := dg_tr h11
    have q17 := dg_tr h17
    have q20 := lt_tr h20
    rw [h6] at qb2
    rw [decide_eq_true (by omega)]
    refine ⟨qs, ?_⟩
    unfold sgn
    rw [← qb1, ← qb2]
    first
    | (exfalso; omega)
    | (rw [if_neg (by omega), if_neg (by omega), if_neg (fun z => by cases z.2.2), if_neg (by omega), if_neg (by omega), if_pos (by omega)]; obtain ⟨r1, r2⟩ := wd_tr (by omega) (by omega) h23; exact ⟨r1, r2, fun a b => by have w := wdK_no (bA f n.toInt) n.toInt x1.toInt (ltr (bA f n.toInt) n.toInt x1.toInt); omega⟩)
  · intro x1 x2 x3 x4 x5 x6 x7 x8 x9 h1 h2 h3 h4 h5 h6 h7 h8 h9 h10 h11 h12 h13 h14 h15 h16 h17 h18 h19 h20
    try dsimp only at *
    have qs := skp_tr h3
    have qb1 := bA_tr h5
    have qb2 := bA_tr h8
    have q11 := dg_tr h11
    have q17 := dg_tr h17
    rw [h6] at qb2
    rw [decide_eq_true (by omega)]
    refine ⟨qs, ?_⟩
    unfold sgn
    rw [← qb1, ← qb2]
    rw [if_neg (by omega), if_neg (by omega), if_neg (fun z => by cases z.2.2), if_neg (by omega), if_pos (by omega)]
    have r := nam_tr (by decide) (by decide) (by omega) (by omega) h20
    rw [show Int32.toInt 3 = 3 from by decide, show Int32.toInt 40 = 40 from by decide] at r
    exact r
  · intro x1 x2 x3 x4 x5 x6 x7 x8 x9 x10 h1 h2 h3 h4 h5 h6 h7 h8 h9 h10 h11 h12 h13 h14 h15 h16 h17 h18 h19 h20 h21 h22 h23
    try dsimp only at *
    have qs := skp_tr h3
    have qb1 := bA_tr h5
    have qb2 := bA_tr h8
    have q11 := dg_tr h11
    have q16 := dg_tr h16
    have q19 := lt_tr h19
    rw [h6] at qb2
    rw [decide_eq_true (by omega)]
    refine ⟨qs, ?_⟩
    unfold sgn
    rw [← qb1, ← qb2]
    first
    | (exfalso; omega)
    | (rw [if_neg (by omega), if_neg (by omega), if_neg (fun z => by cases z.2.2), if_neg (by omega), if_neg (by omega), if_neg (by omega)]; have r := mk_tr (by omega) (by omega) h23; exact r)
  · intro x1 x2 x3 x4 x5 x6 x7 x8 x9 h1 h2 h3 h4 h5 h6 h7 h8 h9 h10 h11 h12 h13 h14 h15 h16 h17 h18 h19 h20 h21 h22
    try dsimp only at *
    have qs := skp_tr h3
    have qb1 := bA_tr h5
    have qb2 := bA_tr h8
    have q11 := dg_tr h11
    have q16 := dg_tr h16
    have q19 := lt_tr h19
    rw [h6] at qb2
    rw [decide_eq_true (by omega)]
    refine ⟨qs, ?_⟩
    unfold sgn
    rw [← qb1, ← qb2]
    first
    | (exfalso; omega)
    | (rw [if_neg (by omega), if_neg (by omega), if_neg (fun z => by cases z.2.2), if_neg (by omega), if_neg (by omega), if_pos (by omega)]; obtain ⟨r1, r2⟩ := wd_tr (by omega) (by omega) h22; exact ⟨r1, r2, fun a b => by have w := wdK_no (bA f n.toInt) n.toInt x1.toInt (ltr (bA f n.toInt) n.toInt x1.toInt); omega⟩)
  · intro x1 x2 x3 x4 x5 x6 x7 x8 x9 h1 h2 h3 h4 h5 h6 h7 h8 h9 h10 h11 h12 h13 h14 h15 h16 h17 h18 h19
    try dsimp only at *
    have qs := skp_tr h3
    have qb1 := bA_tr h5
    have qb2 := bA_tr h8
    have q11 := dg_tr h11
    have q16 := dg_tr h16
    rw [h6] at qb2
    rw [decide_eq_true (by omega)]
    refine ⟨qs, ?_⟩
    unfold sgn
    rw [← qb1, ← qb2]
    rw [if_neg (by omega), if_neg (by omega), if_neg (fun z => by cases z.2.2), if_pos (by omega)]
    have r := nam_tr (by decide) (by decide) (by omega) (by omega) h19
    rw [show Int32.toInt 2 = 2 from by decide, show Int32.toInt 100 = 100 from by decide] at r
    exact r
  · intro x1 x2 x3 x4 x5 x6 x7 x8 x9 x10 h1 h2 h3 h4 h5 h6 h7 h8 h9 h10 h11 h12 h13 h14 h15 h16 h17 h18 h19 h20 h21 h22
    try dsimp only at *
    have qs := skp_tr h3
    have qb1 := bA_tr h5
    have qb2 := bA_tr h8
    have q11 := dg_tr h11
    have q15 := dg_tr h15
    have q18 := lt_tr h18
    rw [h6] at qb2
    rw [decide_eq_true (by omega)]
    refine ⟨qs, ?_⟩
    unfold sgn
    rw [← qb1, ← qb2]
    first
    | (exfalso; omega)
    | (rw [if_neg (by omega), if_neg (by omega), if_neg (fun z => by cases z.2.2), if_neg (by omega), if_neg (by omega), if_neg (by omega)]; have r := mk_tr (by omega) (by omega) h22; exact r)
  · intro x1 x2 x3 x4 x5 x6 x7 x8 x9 h1 h2 h3 h4 h5 h6 h7 h8 h9 h10 h11 h12 h13 h14 h15 h16 h17 h18 h19 h20 h21
    try dsimp only at *
    have qs := skp_tr h3
    have qb1 := bA_tr h5
    have qb2 := bA_tr h8
    have q11 := dg_tr h11
    have q15 := dg_tr h15
    have q18 := lt_tr h18
    rw [h6] at qb2
    rw [decide_eq_true (by omega)]
    refine ⟨qs, ?_⟩
    unfold sgn
    rw [← qb1, ← qb2]
    first
    | (exfalso; omega)
    | (rw [if_neg (by omega), if_neg (by omega), if_neg (fun z => by cases z.2.2), if_neg (by omega), if_neg (by omega), if_pos (by omega)]; obtain ⟨r1, r2⟩ := wd_tr (by omega) (by omega) h21; exact ⟨r1, r2, fun a b => by have w := wdK_no (bA f n.toInt) n.toInt x1.toInt (ltr (bA f n.toInt) n.toInt x1.toInt); omega⟩)
  · intro x1 x2 x3 x4 x5 x6 x7 x8 x9 x10 h1 h2 h3 h4 h5 h6 h7 h8 h9 h10 h11 h12 h13 h14 h15 h16 h17 h18 h19 h20 h21 h22
    try dsimp only at *
    have qs := skp_tr h3
    have qb1 := bA_tr h5
    have qb2 := bA_tr h8
    have q11 := dg_tr h11
    have q15 := dg_tr h15
    have q18 := lt_tr h18
    rw [h6] at qb2
    rw [decide_eq_true (by omega)]
    refine ⟨qs, ?_⟩
    unfold sgn
    rw [← qb1, ← qb2]
    first
    | (exfalso; omega)
    | (rw [if_neg (by omega), if_neg (by omega), if_neg (fun z => by cases z.2.2), if_neg (by omega), if_neg (by omega), if_neg (by omega)]; have r := mk_tr (by omega) (by omega) h22; exact r)
  · intro x1 x2 x3 x4 x5 x6 x7 x8 x9 h1 h2 h3 h4 h5 h6 h7 h8 h9 h10 h11 h12 h13 h14 h15 h16 h17 h18 h19 h20 h21
    try dsimp only at *
    have qs := skp_tr h3
    have qb1 := bA_tr h5
    have qb2 := bA_tr h8
    have q11 := dg_tr h11
    have q15 := dg_tr h15
    have q18 := lt_tr h18
    rw [h6] at qb2
    rw [decide_eq_true (by omega)]
    refine ⟨qs, ?_⟩
    unfold sgn
    rw [← qb1, ← qb2]
    first
    | (exfalso; omega)
    | (rw [if_neg (by omega), if_neg (by omega), if_neg (fun z => by cases z.2.2), if_neg (by omega), if_neg (by omega), if_pos (by omega)]; obtain ⟨r1, r2⟩ := wd_tr (by omega) (by omega) h21; exact ⟨r1, r2, fun a b => by have w := wdK_no (bA f n.toInt) n.toInt x1.toInt (ltr (bA f n.toInt) n.toInt x1.toInt); omega⟩)
  · intro x1 x2 x3 x4 h1 h2 h3 h4 h5 h6 h7 h8 h9
    try dsimp only at *
    have qs := skp_tr h3
    have qb1 := bA_tr h5
    have qb2 := bA_tr h8
    rw [h6] at qb2
    rw [decide_eq_true (by omega)]
    refine ⟨qs, ?_⟩
    unfold sgn
    rw [← qb1, ← qb2]
    rw [if_pos (by omega)]
    exact ⟨px_1, rfl, fun a b => by rw [px_1] at a; omega⟩
  · intro x1 x2 x3 x4 x5 x6 x7 x8 h1 h2 h3 h4 h5 h6 h7 h8 h9 h10 h11 h12 h13 h14 h15 h16
    try dsimp only at *
    have qs := skp_tr h4
    have qb1 := bA_tr h6
    have qb2 := bA_tr h9
    have q12 := dg_tr h12
    rw [h7] at qb2
    rw [decide_eq_false (by omega)]
    refine ⟨qs, ?_⟩
    unfold sgn
    rw [← qb1, ← qb2]
    rw [if_neg (by omega), if_pos (by omega)]
    have r := num_tr (by omega) (by omega) h16
    rw [px_0] at r
    simpa using r
  · intro x1 x2 x3 x4 x5 x6 x7 x8 h1 h2 h3 h4 h5 h6 h7 h8 h9 h10 h11 h12 h13 h14 h15 h16
    try dsimp only at *
    have qs := skp_tr h4
    have qb1 := bA_tr h6
    have qb2 := bA_tr h9
    have q12 := dg_tr h12
    rw [h7] at qb2
    rw [decide_eq_false (by omega)]
    refine ⟨qs, ?_⟩
    unfold sgn
    rw [← qb1, ← qb2]
    first
    | (exfalso; omega)
    | (rw [if_neg (by omega), if_neg (by omega), if_pos ⟨by omega, by omega, rfl⟩]; have r := num_tr (by omega) (by omega) h16; rw [px_1] at r; simpa using r)
  · intro x1 x2 x3 x4 x5 x6 x7 x8 x9 h1 h2 h3 h4 h5 h6 h7 h8 h9 h10 h11 h12 h13 h14 h15 h16 h17 h18 h19 h20 h21 h22
    try dsimp only at *
    have qs := skp_tr h4
    have qb1 := bA_tr h6
    have qb2 := bA_tr h9
    have q12 := dg_tr h12
    have q18 := lt_tr h18
    rw [h7] at qb2
    rw [decide_eq_false (by omega)]
    refine ⟨qs, ?_⟩
    unfold sgn
    rw [← qb1, ← qb2]
    first
    | (exfalso; omega)
    | (rw [if_neg (by omega), if_neg (by omega), if_neg (by omega), if_neg (by omega), if_neg (by omega), if_neg (by omega)]; have r := mk_tr (by omega) (by omega) h22; exact r)
  · intro x1 x2 x3 x4 x5 x6 x7 x8 h1 h2 h3 h4 h5 h6 h7 h8 h9 h10 h11 h12 h13 h14 h15 h16 h17 h18 h19 h20 h21
    try dsimp only at *
    have qs := skp_tr h4
    have qb1 := bA_tr h6
    have qb2 := bA_tr h9
    have q12 := dg_tr h12
    have q18 := lt_tr h18
    rw [h7] at qb2
    rw [decide_eq_false (by omega)]
    refine ⟨qs, ?_⟩
    unfold sgn
    rw [← qb1, ← qb2]
    first
    | (exfalso; omega)
    | (rw [if_neg (by omega), if_neg (by omega), if_neg (by omega), if_neg (by omega), if_neg (by omega), if_pos (by omega)]; obtain ⟨r1, r2⟩ := wd_tr (by omega) (by omega) h21; exact ⟨r1, r2, fun a b => by have w := wdK_no (bA f n.toInt) n.toInt x1.toInt (ltr (bA f n.toInt) n.toInt x1.toInt); omega⟩)
  · intro x1 x2 x3 x4 x5 x6 x7 x8 x9 x10 h1 h2 h3 h4 h5 h6 h7 h8 h9 h10 h11 h12 h13 h14 h15 h16 h17 h18 h19 h20 h21 h22 h23 h24 h25
    try dsimp only at *
    have qs := skp_tr h4
    have qb1 := bA_tr h6
    have qb2 := bA_tr h9
    have q12 := dg_tr h12
    have q18 := dg_tr h18
    have q21 := lt_tr h21
    rw [h7] at qb2
    rw [decide_eq_false (by omega)]
    refine ⟨qs, ?_⟩
    unfold sgn
    rw [← qb1, ← qb2]
    first
    | (exfalso; omega)
    | (rw [if_neg (by omega), if_neg (by omega), if_neg (by omega), if_neg (by omega), if_neg (by omega), if_neg (by omega)]; have r := mk_tr (by omega) (by omega) h25; exact r)
  · intro x1 x2 x3 x4 x5 x6 x7 x8 x9 h1 h2 h3 h4 h5 h6 h7 h8 h9 h10 h11 h12 h13 h14 h15 h16 h17 h18 h19 h20 h21 h22 h23 h24
    try dsimp only at *
    have qs := skp_tr h4
    have qb1 := bA_tr h6
    have qb2 := bA_tr h9
    have q12 := dg_tr h12
    have q18 := dg_tr h18
    have q21 := lt_tr h21
    rw [h7] at qb2
    rw [decide_eq_false (by omega)]
    refine ⟨qs, ?_⟩
    unfold sgn
    rw [← qb1, ← qb2]
    first
    | (exfalso; omega)
    | (rw [if_neg (by omega), if_neg (by omega), if_neg (by omega), if_neg (by omega), if_neg (by omega), if_pos (by omega)]; obtain ⟨r1, r2⟩ := wd_tr (by omega) (by omega) h24; exact ⟨r1, r2, fun a b => by have w := wdK_no (bA f n.toInt) n.toInt x1.toInt (ltr (bA f n.toInt) n.toInt x1.toInt); omega⟩)
  · intro x1 x2 x3 x4 x5 x6 x7 x8 x9 h1 h2 h3 h4 h5 h6 h7 h8 h9 h10 h11 h12 h13 h14 h15 h16 h17 h18 h19 h20 h21
    try dsimp only at *
    have qs := skp_tr h4
    have qb1 := bA_tr h6
    have qb2 := bA_tr h9
    have q12 := dg_tr h12
    have q18 := dg_tr h18
    rw [h7] at qb2
    rw [decide_eq_false (by omega)]
    refine ⟨qs, ?_⟩
    unfold sgn
    rw [← qb1, ← qb2]
    rw [if_neg (by omega), if_neg (by omega), if_neg (by omega), if_neg (by omega), if_pos (by omega)]
    have r := nam_tr (by decide) (by decide) (by omega) (by omega) h21
    rw [show Int32.toInt 3 = 3 from by decide, show Int32.toInt 40 = 40 from by decide] at r
    exact r
  · intro x1 x2 x3 x4 x5 x6 x7 x8 x9 x10 h1 h2 h3 h4 h5 h6 h7 h8 h9 h10 h11 h12 h13 h14 h15 h16 h17 h18 h19 h20 h21 h22 h23 h24
    try dsimp only at *
    have qs := skp_tr h4
    have qb1 := bA_tr h6
    have qb2 := bA_tr h9
    have q12 := dg_tr h12
    have q17 := dg_tr h17
    have q20 := lt_tr h20
    rw [h7] at qb2
    rw [decide_eq_false (by omega)]
    refine ⟨qs, ?_⟩
    unfold sgn
    rw [← qb1, ← qb2]
    first
    | (exfalso; omega)
    | (rw [if_neg (by omega), if_neg (by omega), if_neg (by omega), if_neg (by omega), if_neg (by omega), if_neg (by omega)]; have r := mk_tr (by omega) (by omega) h24; exact r)
  · intro x1 x2 x3 x4 x5 x6 x7 x8 x9 h1 h2 h3 h4 h5 h6 h7 h8 h9 h10 h11 h12 h13 h14 h15 h16 h17 h18 h19 h20 h21 h22 h23
    try dsimp only at *
    have qs := skp_tr h4
    have qb1 := bA_tr h6
    have qb2 := bA_tr h9
    have q12 := dg_tr h12
    have q17 := dg_tr h17
    have q20 := lt_tr h20
    rw [h7] at qb2
    rw [decide_eq_false (by omega)]
    refine ⟨qs, ?_⟩
    unfold sgn
    rw [← qb1, ← qb2]
    first
    | (exfalso; omega)
    | (rw [if_neg (by omega), if_neg (by omega), if_neg (by omega), if_neg (by omega), if_neg (by omega), if_pos (by omega)]; obtain ⟨r1, r2⟩ := wd_tr (by omega) (by omega) h23; exact ⟨r1, r2, fun a b => by have w := wdK_no (bA f n.toInt) n.toInt x1.toInt (ltr (bA f n.toInt) n.toInt x1.toInt); omega⟩)
  · intro x1 x2 x3 x4 x5 x6 x7 x8 x9 h1 h2 h3 h4 h5 h6 h7 h8 h9 h10 h11 h12 h13 h14 h15 h16 h17 h18 h19 h20
    try dsimp only at *
    have qs := skp_tr h4
    have qb1 := bA_tr h6
    have qb2 := bA_tr h9
    have q12 := dg_tr h12
    have q17 := dg_tr h17
    rw [h7] at qb2
    rw [decide_eq_false (by omega)]
    refine ⟨qs, ?_⟩
    unfold sgn
    rw [← qb1, ← qb2]
    rw [if_neg (by omega), if_neg (by omega), if_neg (by omega), if_pos (by omega)]
    have r := nam_tr (by decide) (by decide) (by omega) (by omega) h20
    rw [show Int32.toInt 2 = 2 from by decide, show Int32.toInt 100 = 100 from by decide] at r
    exact r
  · intro x1 x2 x3 x4 x5 x6 x7 x8 x9 x10 h1 h2 h3 h4 h5 h6 h7 h8 h9 h10 h11 h12 h13 h14 h15 h16 h17 h18 h19 h20 h21 h22 h23
    try dsimp only at *
    have qs := skp_tr h4
    have qb1 := bA_tr h6
    have qb2 := bA_tr h9
    have q12 := dg_tr h12
    have q16 := dg_tr h16
    have q19 := lt_tr h19
    rw [h7] at qb2
    rw [decide_eq_false (by omega)]
    refine ⟨qs, ?_⟩
    unfold sgn
    rw [← qb1, ← qb2]
    first
    | (exfalso; omega)
    | (rw [if_neg (by omega), if_neg (by omega), if_neg (by omega), if_neg (by omega), if_neg (by omega), if_neg (by omega)]; have r := mk_tr (by omega) (by omega) h23; exact r)
  · intro x1 x2 x3 x4 x5 x6 x7 x8 x9 h1 h2 h3 h4 h5 h6 h7 h8 h9 h10 h11 h12 h13 h14 h15 h16 h17 h18 h19 h20 h21 h22
    try dsimp only at *
    have qs := skp_tr h4
    have qb1 := bA_tr h6
    have qb2 := bA_tr h9
    have q12 := dg_tr h12
    have q16 := dg_tr h16
    have q19 := lt_tr h19
    rw [h7] at qb2
    rw [decide_eq_false (by omega)]
    refine ⟨qs, ?_⟩
    unfold sgn
    rw [← qb1, ← qb2]
    first
    | (exfalso; omega)
    | (rw [if_neg (by omega), if_neg (by omega), if_neg (by omega), if_neg (by omega), if_neg (by omega), if_pos (by omega)]; obtain ⟨r1, r2⟩ := wd_tr (by omega) (by omega) h22; exact ⟨r1, r2, fun a b => by have w := wdK_no (bA f n.toInt) n.toInt x1.toInt (ltr (bA f n.toInt) n.toInt x1.toInt); omega⟩)
  · intro x1 x2 x3 x4 x5 x6 x7 x8 x9 h1 h2 h3 h4 h5 h6 h7 h8 h9 h10 h11 h12 h13 h14 h15 h16 h17 h18 h19
    try dsimp only at *
    have qs := skp_tr h4
    have qb1 := bA_tr h6
    have qb2 := bA_tr h9
    have q12 := dg_tr h12
    have q16 := dg_tr h16
    rw [h7] at qb2
    rw [decide_eq_false (by omega)]
    refine ⟨qs, ?_⟩
    unfold sgn
    rw [← qb1, ← qb2]
    first
    | (exfalso; omega)
    | (rw [if_neg (by omega), if_neg (by omega), if_pos ⟨by omega, by omega, rfl⟩]; have r := num_tr (by omega) (by omega) h19; rw [px_1] at r; simpa using r)
  · intro x1 x2 x3 x4 h1 h2 h3 h4 h5 h6 h7 h8 h9 h10
    try dsimp only at *
    have qs := skp_tr h4
    have qb1 := bA_tr h6
    have qb2 := bA_tr h9
    rw [h7] at qb2
    rw [decide_eq_false (by omega)]
    refine ⟨qs, ?_⟩
    unfold sgn
    rw [← qb1, ← qb2]
    rw [if_pos (by omega)]
    exact ⟨px_1, rfl, fun a b => by rw [px_1] at a; omega⟩
  · intro x1 x2 x3 x4 x5 x6 x7 x8 h1 h2 h3 h4 h5 h6 h7 h8 h9 h10 h11 h12 h13 h14 h15 h16
    try dsimp only at *
    have qs := skp_tr h4
    have qb1 := bA_tr h6
    have qb2 := bA_tr h9
    have q12 := dg_tr h12
    rw [h7] at qb2
    rw [decide_eq_true (by omega)]
    refine ⟨qs, ?_⟩
    unfold sgn
    rw [← qb1, ← qb2]
    rw [if_neg (by omega), if_pos (by omega)]
    have r := num_tr (by omega) (by omega) h16
    rw [px_0] at r
    simpa using r
  · intro x1 x2 x3 x4 x5 x6 x7 x8 h1 h2 h3 h4 h5 h6 h7 h8 h9 h10 h11 h12 h13 h14 h15 h16
    try dsimp only at *
    have qs := skp_tr h4
    have qb1 := bA_tr h6
    have qb2 := bA_tr h9
    have q12 := dg_tr h12
    rw [h7] at qb2
    rw [decide_eq_true (by omega)]
    refine ⟨qs, ?_⟩
    unfold sgn
    rw [← qb1, ← qb2]
    first
    | (exfalso; omega)
    | (rw [if_neg (by omega), if_neg (by omega), if_pos ⟨by omega, by omega, rfl⟩]; have r := num_tr (by omega) (by omega) h16; rw [px_1] at r; simpa using r)
  · intro x1 x2 x3 x4 x5 x6 x7 x8 x9 h1 h2 h3 h4 h5 h6 h7 h8 h9 h10 h11 h12 h13 h14 h15 h16 h17 h18 h19 h20 h21 h22
    try dsimp only at *
    have qs := skp_tr h4
    have qb1 := bA_tr h6
    have qb2 := bA_tr h9
    have q12 := dg_tr h12
    have q18 := lt_tr h18
    rw [h7] at qb2
    rw [decide_eq_true (by omega)]
    refine ⟨qs, ?_⟩
    unfold sgn
    rw [← qb1, ← qb2]
    first
    | (exfalso; omega)
    | (rw [if_neg (by omega), if_neg (by omega), if_neg (fun z => by cases z.2.2), if_neg (by omega), if_neg (by omega), if_neg (by omega)]; have r := mk_tr (by omega) (by omega) h22; exact r)
  · intro x1 x2 x3 x4 x5 x6 x7 x8 h1 h2 h3 h4 h5 h6 h7 h8 h9 h10 h11 h12 h13 h14 h15 h16 h17 h18 h19 h20 h21
    try dsimp only at *
    have qs := skp_tr h4
    have qb1 := bA_tr h6
    have qb2 := bA_tr h9
    have q12 := dg_tr h12
    have q18 := lt_tr h18
    rw [h7] at qb2
    rw [decide_eq_true (by omega)]
    refine ⟨qs, ?_⟩
    unfold sgn
    rw [← qb1, ← qb2]
    first
    | (exfalso; omega)
    | (rw [if_neg (by omega), if_neg (by omega), if_neg (fun z => by cases z.2.2), if_neg (by omega), if_neg (by omega), if_pos (by omega)]; obtain ⟨r1, r2⟩ := wd_tr (by omega) (by omega) h21; exact ⟨r1, r2, fun a b => by have w := wdK_no (bA f n.toInt) n.toInt x1.toInt (ltr (bA f n.toInt) n.toInt x1.toInt); omega⟩)
  · intro x1 x2 x3 x4 x5 x6 x7 x8 x9 x10 h1 h2 h3 h4 h5 h6 h7 h8 h9 h10 h11 h12 h13 h14 h15 h16 h17 h18 h19 h20 h21 h22 h23 h24 h25
    try dsimp only at *
    have qs := skp_tr h4
    have qb1 := bA_tr h6
    have qb2 := bA_tr h9
    have q12 := dg_tr h12
    have q18 := dg_tr h18
    have q21 := lt_tr h21
    rw [h7] at qb2
    rw [decide_eq_true (by omega)]
    refine ⟨qs, ?_⟩
    unfold sgn
    rw [← qb1, ← qb2]
    first
    | (exfalso; omega)
    | (rw [if_neg (by omega), if_neg (by omega), if_neg (fun z => by cases z.2.2), if_neg (by omega), if_neg (by omega), if_neg (by omega)]; have r := mk_tr (by omega) (by omega) h25; exact r)
  · intro x1 x2 x3 x4 x5 x6 x7 x8 x9 h1 h2 h3 h4 h5 h6 h7 h8 h9 h10 h11 h12 h13 h14 h15 h16 h17 h18 h19 h20 h21 h22 h23 h24
    try dsimp only at *
    have qs := skp_tr h4
    have qb1 := bA_tr h6
    have qb2 := bA_tr h9
    have q12 := dg_tr h12
    have q18 := dg_tr h18
    have q21 := lt_tr h21
    rw [h7] at qb2
    rw [decide_eq_true (by omega)]
    refine ⟨qs, ?_⟩
    unfold sgn
    rw [← qb1, ← qb2]
    first
    | (exfalso; omega)
    | (rw [if_neg (by omega), if_neg (by omega), if_neg (fun z => by cases z.2.2), if_neg (by omega), if_neg (by omega), if_pos (by omega)]; obtain ⟨r1, r2⟩ := wd_tr (by omega) (by omega) h24; exact ⟨r1, r2, fun a b => by have w := wdK_no (bA f n.toInt) n.toInt x1.toInt (ltr (bA f n.toInt) n.toInt x1.toInt); omega⟩)
  · intro x1 x2 x3 x4 x5 x6 x7 x8 x9 h1 h2 h3 h4 h5 h6 h7 h8 h9 h10 h11 h12 h13 h14 h15 h16 h17 h18 h19 h20 h21
    try dsimp only at *
    have qs := skp_tr h4
    have qb1 := bA_tr h6
    have qb2 := bA_tr h9
    have q12 := dg_tr h12
    have q18 := dg_tr h18
    rw [h7] at qb2
    rw [decide_eq_true (by omega)]
    refine ⟨qs, ?_⟩
    unfold sgn
    rw [← qb1, ← qb2]
    rw [if_neg (by omega), if_neg (by omega), if_neg (fun z => by cases z.2.2), if_neg (by omega), if_pos (by omega)]
    have r := nam_tr (by decide) (by decide) (by omega) (by omega) h21
    rw [show Int32.toInt 3 = 3 from by decide, show Int32.toInt 40 = 40 from by decide] at r
    exact r
  · intro x1 x2 x3 x4 x5 x6 x7 x8 x9 x10 h1 h2 h3 h4 h5 h6 h7 h8 h9 h10 h11 h12 h13 h14 h15 h16 h17 h18 h19 h20 h21 h22 h23 h24
    try dsimp only at *
    have qs := skp_tr h4
    have qb1 := bA_tr h6
    have qb2 := bA_tr h9
    have q12 := dg_tr h12
    have q17 := dg_tr h17
    have q20 := lt_tr h20
    rw [h7] at qb2
    rw [decide_eq_true (by omega)]
    refine ⟨qs, ?_⟩
    unfold sgn
    rw [← qb1, ← qb2]
    first
    | (exfalso; omega)
    | (rw [if_neg (by omega), if_neg (by omega), if_neg (fun z => by cases z.2.2), if_neg (by omega), if_neg (by omega), if_neg (by omega)]; have r := mk_tr (by omega) (by omega) h24; exact r)
  · intro x1 x2 x3 x4 x5 x6 x7 x8 x9 h1 h2 h3 h4 h5 h6 h7 h8 h9 h10 h11 h12 h13 h14 h15 h16 h17 h18 h19 h20 h21 h22 h23
    try dsimp only at *
    have qs := skp_tr h4
    have qb1 := bA_tr h6
    have qb2 := bA_tr h9
    have q12 := dg_tr h12
    have q17 := dg_tr h17
    have q20 := lt_tr h20
    rw [h7] at qb2
    rw [decide_eq_true (by omega)]
    refine ⟨qs, ?_⟩
    unfold sgn
    rw [← qb1, ← qb2]
    first
    | (exfalso; omega)
    | (rw [if_neg (by omega), if_neg (by omega), if_neg (fun z => by cases z.2.2), if_neg (by omega), if_neg (by omega), if_pos (by omega)]; obtain ⟨r1, r2⟩ := wd_tr (by omega) (by omega) h23; exact ⟨r1, r2, fun a b => by have w := wdK_no (bA f n.toInt) n.toInt x1.toInt (ltr (bA f n.toInt) n.toInt x1.toInt); omega⟩)
  · intro x1 x2 x3 x4 x5 x6 x7 x8 x9 h1 h2 h3 h4 h5 h6 h7 h8 h9 h10 h11 h12 h13 h14 h15 h16 h17 h18 h19 h20
    try dsimp only at *
    have qs := skp_tr h4
    have qb1 := bA_tr h6
    have qb2 := bA_tr h9
    have q12 := dg_tr h12
    have q17 := dg_tr h17
    rw [h7] at qb2
    rw [decide_eq_true (by omega)]
    refine ⟨qs, ?_⟩
    unfold sgn
    rw [← qb1, ← qb2]
    rw [if_neg (by omega), if_neg (by omega), if_neg (fun z => by cases z.2.2), if_pos (by omega)]
    have r := nam_tr (by decide) (by decide) (by omega) (by omega) h20
    rw [show Int32.toInt 2 = 2 from by decide, show Int32.toInt 100 = 100 from by decide] at r
    exact r
  · intro x1 x2 x3 x4 x5 x6 x7 x8 x9 x10 h1 h2 h3 h4 h5 h6 h7 h8 h9 h10 h11 h12 h13 h14 h15 h16 h17 h18 h19 h20 h21 h22 h23
    try dsimp only at *
    have qs := skp_tr h4
    have qb1 := bA_tr h6
    have qb2 := bA_tr h9
    have q12 := dg_tr h12
    have q16 := dg_tr h16
    have q19 := lt_tr h19
    rw [h7] at qb2
    rw [decide_eq_true (by omega)]
    refine ⟨qs, ?_⟩
    unfold sgn
    rw [← qb1, ← qb2]
    first
    | (exfalso; omega)
    | (rw [if_neg (by omega), if_neg (by omega), if_neg (fun z => by cases z.2.2), if_neg (by omega), if_neg (by omega), if_neg (by omega)]; have r := mk_tr (by omega) (by omega) h23; exact r)
  · intro x1 x2 x3 x4 x5 x6 x7 x8 x9 h1 h2 h3 h4 h5 h6 h7 h8 h9 h10 h11 h12 h13 h14 h15 h16 h17 h18 h19 h20 h21 h22
    try dsimp only at *
    have qs := skp_tr h4
    have qb1 := bA_tr h6
    have qb2 := bA_tr h9
    have q12 := dg_tr h12
    have q16 := dg_tr h16
    have q19 := lt_tr h19
    rw [h7] at qb2
    rw [decide_eq_true (by omega)]
    refine ⟨qs, ?_⟩
    unfold sgn
    rw [← qb1, ← qb2]
    first
    | (exfalso; omega)
    | (rw [if_neg (by omega), if_neg (by omega), if_neg (fun z => by cases z.2.2), if_neg (by omega), if_neg (by omega), if_pos (by omega)]; obtain ⟨r1, r2⟩ := wd_tr (by omega) (by omega) h22; exact ⟨r1, r2, fun a b => by have w := wdK_no (bA f n.toInt) n.toInt x1.toInt (ltr (bA f n.toInt) n.toInt x1.toInt); omega⟩)
  · intro x1 x2 x3 x4 x5 x6 x7 x8 x9 x10 h1 h2 h3 h4 h5 h6 h7 h8 h9 h10 h11 h12 h13 h14 h15 h16 h17 h18 h19 h20 h21 h22 h23
    try dsimp only at *
    have qs := skp_tr h4
    have qb1 := bA_tr h6
    have qb2 := bA_tr h9
    have q12 := dg_tr h12
    have q16 := dg_tr h16
    have q19 := lt_tr h19
    rw [h7] at qb2
    rw [decide_eq_true (by omega)]
    refine ⟨qs, ?_⟩
    unfold sgn
    rw [← qb1, ← qb2]
    first
    | (exfalso; omega)
    | (rw [if_neg (by omega), if_neg (by omega), if_neg (fun z => by cases z.2.2), if_neg (by omega), if_neg (by omega), if_neg (by omega)]; have r := mk_tr (by omega) (by omega) h23; exact r)
  · intro x1 x2 x3 x4 x5 x6 x7 x8 x9 h1 h2 h3 h4 h5 h6 h7 h8 h9 h10 h11 h12 h13 h14 h15 h16 h17 h18 h19 h20 h21 h22
    try dsimp only at *
    have qs := skp_tr h4
    have qb1 := bA_tr h6
    have qb2 := bA_tr h9
    have q12 := dg_tr h12
    have q16 := dg_tr h16
    have q19 := lt_tr h19
    rw [h7] at qb2
    rw [decide_eq_true (by omega)]
    refine ⟨qs, ?_⟩
    unfold sgn
    rw [← qb1, ← qb2]
    first
    | (exfalso; omega)
    | (rw [if_neg (by omega), if_neg (by omega), if_neg (fun z => by cases z.2.2), if_neg (by omega), if_neg (by omega), if_pos (by omega)]; obtain ⟨r1, r2⟩ := wd_tr (by omega) (by omega) h22; exact ⟨r1, r2, fun a b => by have w := wdK_no (bA f n.toInt) n.toInt x1.toInt (ltr (bA f n.toInt) n.toInt x1.toInt); omega⟩)
  · intro x1 x2 x3 x4 h1 h2 h3 h4 h5 h6 h7 h8 h9 h10
    try dsimp only at *
    have qs := skp_tr h4
    have qb1 := bA_tr h6
    have qb2 := bA_tr h9
    rw [h7] at qb2
    rw [decide_eq_true (by omega)]
    refine ⟨qs, ?_⟩
    unfold sgn
    rw [← qb1, ← qb2]
    rw [if_pos (by omega)]
    exact ⟨px_1, rfl, fun a b => by rw [px_1] at a; omega⟩
