/-! leaves of the reference, exactly -/
section GLF
variable {op t s ra rb r a1 a2 : Int32} {v x : Nat → Int64}
theorem uA_tr (h : tr_RRow_usesA op ra r) : (r.toInt = 1 ∧ op.toInt ≠ 20 ∧ op.toInt ≠ 21 ∧ op.toInt ≠ 30 ∧ ra.toInt ≠ 0) ∨ (r.toInt = 0 ∧ (op.toInt = 20 ∨ op.toInt = 21 ∨ op.toInt = 30 ∨ ra.toInt = 0)) := by
  refine h (fun r => (r.toInt = 1 ∧ op.toInt ≠ 20 ∧ op.toInt ≠ 21 ∧ op.toInt ≠ 30 ∧ ra.toInt ≠ 0) ∨ (r.toInt = 0 ∧ (op.toInt = 20 ∨ op.toInt = 21 ∨ op.toInt = 30 ∨ ra.toInt = 0))) ?_ ?_ ?_ ?_ ?_
  · intro h1
    have q0 : Int32.toInt 0 = 0 := by decide
    have q1 : Int32.toInt 1 = 1 := by decide
    omega
  · intro h1 h2
    have q0 : Int32.toInt 0 = 0 := by decide
    have q1 : Int32.toInt 1 = 1 := by decide
    omega
  · intro h1 h2 h3
    have q0 : Int32.toInt 0 = 0 := by decide
    have q1 : Int32.toInt 1 = 1 := by decide
    omega
  · intro h1 h2 h3 h4
    have q0 : Int32.toInt 0 = 0 := by decide
    have q1 : Int32.toInt 1 = 1 := by decide
    omega
  · intro h1 h2 h3 h4
    have q0 : Int32.toInt 0 = 0 := by decide
    have q1 : Int32.toInt 1 = 1 := by decide
    omega
theorem uB_tr (h : tr_RRow_usesB op rb r) : (r.toInt = 1 ∧ 0 < op.toInt ∧ op.toInt < 20 ∧ rb.toInt ≠ 0) ∨ (r.toInt = 0 ∧ (op.toInt ≤ 0 ∨ 20 ≤ op.toInt ∨ rb.toInt = 0)) := by
  refine h (fun r => (r.toInt = 1 ∧ 0 < op.toInt ∧ op.toInt < 20 ∧ rb.toInt ≠ 0) ∨ (r.toInt = 0 ∧ (op.toInt ≤ 0 ∨ 20 ≤ op.toInt ∨ rb.toInt = 0))) ?_ ?_ ?_ ?_
  · intro h1
    have q0 : Int32.toInt 0 = 0 := by decide
    have q1 : Int32.toInt 1 = 1 := by decide
    omega
  · intro h1 h2
    have q0 : Int32.toInt 0 = 0 := by decide
    have q1 : Int32.toInt 1 = 1 := by decide
    omega
  · intro h1 h2 h3
    have q0 : Int32.toInt 0 = 0 := by decide
    have q1 : Int32.toInt 1 = 1 := by decide
    omega
  · intro h1 h2 h3
    have q0 : Int32.toInt 0 = 0 := by decide
    have q1 : Int32.toInt 1 = 1 := by decide
    omega
theorem ss_tr (h : tr_RRow_sets op r) : (r.toInt = 1 ∧ op.toInt ≤ 21) ∨ (r.toInt = 0 ∧ 21 < op.toInt) := by
  refine h (fun r => (r.toInt = 1 ∧ op.toInt ≤ 21) ∨ (r.toInt = 0 ∧ 21 < op.toInt)) ?_ ?_
  · intro h1
    have q0 : Int32.toInt 0 = 0 := by decide
    have q1 : Int32.toInt 1 = 1 := by decide
    omega
  · intro h1
    have q0 : Int32.toInt 0 = 0 := by decide
    have q1 : Int32.toInt 1 = 1 := by decide
    omega
theorem sO_tr (ha : a2.toInt = 0) (h : tr_RModel_setOf a2 op t s r) : (op.toInt ≤ 21 ∧ r.toInt = t.toInt) ∨ (21 < op.toInt ∧ r.toInt = -1) := by
  refine h (fun r => (op.toInt ≤ 21 ∧ r.toInt = t.toInt) ∨ (21 < op.toInt ∧ r.toInt = -1)) ?_ ?_ ?_ ?_
  · intro x1 h1 h2 h3 h4
    have q := ss_tr h3
    exact Or.inr ⟨by omega, by decide⟩
  · intro x1 h1 h2 h3 h4
    have q := ss_tr h3
    exact Or.inl ⟨by omega, rfl⟩
  · intro h1 h2
    exact absurd ha h1
  · intro h1 h2
    exact absurd ha h1
theorem se_tr (h : tr_RModel_set a1 v x) (h0 : 0 ≤ a1.toInt) : ∀ k : Nat, rbt x k = (rbt v k || decide ((k : Int) = a1.toInt)) := by
  refine h (fun x => ∀ k : Nat, rbt x k = (rbt v k || decide ((k : Int) = a1.toInt))) ?_
  · intro x1 x2 x3 x4 x5 h1 h2 h3 h4 h5
    exact rbt_set h1 h2 h3 h4 h5 h0
theorem cl_tr (h : tr_RModel_clear a1 v x) (h0 : 0 ≤ a1.toInt) : ∀ k : Nat, rbt x k = (rbt v k && !decide ((k : Int) = a1.toInt)) := by
  refine h (fun x => ∀ k : Nat, rbt x k = (rbt v k && !decide ((k : Int) = a1.toInt))) ?_
  · intro x1 x2 x3 x4 x5 x6 h1 h2 h3 h4 h5 h6
    exact rbt_clr h1 h2 h3 h4 h5 h6 h0
def wnV (op f s : Int) : Int := if op = 32 then 0 else if op = 30 ∨ f = s then 1 else 2
theorem ws_tr {f s : Int32} (h : tr_RBlock_ways f s op r) : r.toInt = wnV op.toInt f.toInt s.toInt := by
  have q0 : Int32.toInt 0 = 0 := by decide
  have q1 : Int32.toInt 1 = 1 := by decide
  have q2 : Int32.toInt 2 = 2 := by decide
  refine h (fun r => r.toInt = wnV op.toInt f.toInt s.toInt) ?_ ?_ ?_ ?_
  · intro h1 h2
    unfold wnV; rw [if_neg h1, if_pos (Or.inl h2)]; exact q1
  · intro h1 h2 h3
    unfold wnV; rw [if_neg h1, if_neg (by omega)]; exact q2
  · intro h1 h2 h3
    unfold wnV; rw [if_neg h1, if_pos (Or.inr h3)]; exact q1
  · intro h1
    unfold wnV; rw [if_pos h1]; exact q0
theorem wy_tr {f s : Int32} (h : tr_RBlock_way2 a1 f s r) : (a1.toInt = 0 ∧ r = f) ∨ (a1.toInt ≠ 0 ∧ r = s) := by
  refine h (fun r => (a1.toInt = 0 ∧ r = f) ∨ (a1.toInt ≠ 0 ∧ r = s)) ?_ ?_
  · intro h1
    exact Or.inr ⟨h1, rfl⟩
  · intro h1
    exact Or.inl ⟨h1, rfl⟩
theorem bh_wn {op f s : Int} {L : Nat → Nat → Bool} {k : Nat} : bhV op f s L k = true ↔ (0 < wnV op f s ∧ L f.toNat k = true) ∨ (1 < wnV op f s ∧ L s.toNat k = true) := by
  unfold bhV wnV
  by_cases h1 : op = 32
  · rw [if_pos h1, if_pos h1]
    constructor
    · intro z; cases z
    · rintro (z | z) <;> exact absurd z.1 (by decide)
  · rw [if_neg h1, if_neg h1]
    by_cases h2 : op = 30 ∨ f = s
    · rw [if_pos h2, if_pos h2]
      constructor
      · intro z; exact Or.inl ⟨by decide, z⟩
      · rintro (z | z)
        · exact z.2
        · exact absurd z.1 (by decide)
    · rw [if_neg h2, if_neg h2, Bool.or_eq_true]
      constructor
      · exact fun z => z.imp (fun w => ⟨by decide, w⟩) (fun w => ⟨by decide, w⟩)
      · exact fun z => z.imp (fun w => w.2) (fun w => w.2)
end GLF
/-- cells of the model, by their kinds -/
theorem md_kd {D : va_G} {I : FieldType → ClassId} {P : List Nat} {F : Nat → va_E} {γ el : Nat → Nat → Nat} {q0 : Nat} (hT : RS D I P F γ el) (hm : γ 0 q0 = 10) : γ 0 (γ 9 0) = 12 ∧ γ 0 (γ 9 1) = 13 ∧ γ 0 (γ 9 2) = 35 ∧ γ 0 (γ 9 3) = 14 := by
  obtain ⟨r28, r35, v9, v10, v11, v12, v13, v14, v23, v24, v25, v26, v27, v30, v32, v33, v34, he, hM1, hK, hM2⟩ := rk10_m (show rk_10 γ (F q0) from RS_o hT hm)
  obtain ⟨-, -, h0, h1, h2, h3, -⟩ := hK
  exact ⟨h0, h1, h2, h3⟩
theorem lr_kd {D : va_G} {I : FieldType → ClassId} {P : List Nat} {F : Nat → va_E} {γ el : Nat → Nat → Nat} (hT : RS D I P F γ el) (h : γ 0 (γ 9 0) = 12) {i : Nat} (hi : i < 40) : γ 0 (γ 10 i) = 11 ∧ γ 12 (γ 10 i) = i := by
  obtain ⟨g, g1, g2⟩ := show rk_12 I γ (F (γ 9 0)) from RS_o hT h
  exact (g2 i hi).2
theorem er_kd {D : va_G} {I : FieldType → ClassId} {P : List Nat} {F : Nat → va_E} {γ el : Nat → Nat → Nat} (hT : RS D I P F γ el) (h : γ 0 (γ 9 1) = 13) {i : Nat} (hi : i < 2000) : γ 0 (γ 11 i) = 36 ∧ γ 12 (γ 11 i) = i := by
  obtain ⟨g, g1, g2⟩ := show rk_13 I γ (F (γ 9 1)) from RS_o hT h
  exact (g2 i hi).2
def nwL (γ : Nat → Nat → Nat) (F : Nat → va_E) (k : Nat) : Bool := rbt (cL (F (γ 9 2))) k
def egS (γ : Nat → Nat → Nat) (F : Nat → va_E) (n k : Nat) : Bool := rbt (cL (F (γ 11 n))) k
section GBK
variable {D : va_G} {I : FieldType → ClassId} {P : List Nat} {F F1 : Nat → va_E} {γ el : Nat → Nat → Nat} {q0 q1 : Nat} {a2 : Int32}
theorem bk3 (hT : RS D I P F γ el) (hm : γ 0 q0 = 10) (hk : γ 0 q1 = 1) (ha : a2.toInt = 0) (h : tr_RModel_back3 D I γ el P F q0 q1 a2 F1) : (∀ k : Nat, nwL γ F1 k = bkS (F q1) false (nwL γ F) k) ∧ ∀ b, b ∈ P → b ≠ γ 9 2 → F1 b = F b := by
  have k92 := (md_kd hT hm).2.2.1
  have k92' : γ 0 (γ 9 2) = 35 := k92
  obtain ⟨op, t, a, b, s, ra, rb, he, v1, v2, v3, v4, v5, v6, v7, v8, v9, v10⟩ := show rk_1 γ q1 (F q1) from RS_o hT hk
  have m1 : q1 ∈ P := hT.1 q1 (by omega)
  have n1 : q1 ≠ γ 9 2 := fun e => by rw [e, k92] at hk; cases hk
  have w4 := v4.2
  have w41 := v4.1
  have w5 := v5.2
  have w51 := v5.1
  have w2 := v2.1
  refine h (fun F1 => (∀ k : Nat, nwL γ F1 k = bkS (F q1) false (nwL γ F) k) ∧ ∀ b, b ∈ P → b ≠ γ 9 2 → F1 b = F b) ?_ ?_ ?_ ?_ ?_ ?_ ?_ ?_ ?_ ?_ ?_ ?_
  · intro x1 x2 x3 x4 x5 x6 x7 x8 h1 h2 h3 h4 h5 h6 h7 h8 h9 h10 h11 h12 h13 h14 h15
    have e1 : x1 = op := by rw [← h1, he]; rfl
    have e2 : x2 = t := by rw [← h2, he]; rfl
    have e3 : x3 = s := by rw [← h3, he]; rfl
    have e8 : x5 = ra := by rw [← h8, he]; rfl
    have e12 : x7 = rb := by rw [← h12, he]; rfl
    have qs := sO_tr ha h5
    have qa := uA_tr h10
    have qb := uB_tr h14
    try rw [e1] at qs
    try rw [e2] at qs
    try rw [e3] at qs
    try rw [e1] at qa
    try rw [e8] at qa
    try rw [e1] at qb
    try rw [e12] at qb
    refine ⟨fun k => ?_, fun b0 hb hne => ?_⟩
    · rw [bkS_of he]
      refine bk_n false false false (decide_eq_false (by omega)) (decide_eq_false (by omega)) (decide_eq_false (by omega)) ?_
      simp only [Bool.false_and, Bool.not_false, Bool.and_true, Bool.or_false]
    · exact rfl
  · intro x1 x2 x3 x4 x5 x6 x7 x8 x9 x10 x11 x12 h1 h2 h3 h4 h5 h6 h7 h8 h9 h10 h11 h12 h13 h14 h15 h16 h17 h18 h19 h20 h21 h22
    have e1 : x1 = op := by rw [← h1, he]; rfl
    have e2 : x2 = t := by rw [← h2, he]; rfl
    have e3 : x3 = s := by rw [← h3, he]; rfl
    have e8 : x5 = ra := by rw [← h8, he]; rfl
    have e12 : x7 = rb := by rw [← h12, he]; rfl
    have e17 : x9 = b := by rw [← h17, he]; rfl
    have fx12 : x12 q1 = F q1 := (h20 q1 m1 (nm_c n1 nm_n))
    have qs := sO_tr ha h5
    have qa := uA_tr h10
    have qb := uB_tr h14
    try rw [e1] at qs
    try rw [e2] at qs
    try rw [e3] at qs
    try rw [e1] at qa
    try rw [e8] at qa
    try rw [e1] at qb
    try rw [e12] at qb
    refine ⟨fun k => ?_, fun b0 hb hne => ?_⟩
    · rw [bkS_of he]
      refine bk_n false false true (decide_eq_false (by omega)) (decide_eq_false (by omega)) (decide_eq_true (by omega)) ?_
      unfold nwL
      rw [cL_of h21, cL_of h18]
      rw [se_tr h19 (by first | exact h6 | omega | (rw [e17]; omega)) k, e17]
      simp only [Bool.false_and, Bool.true_and, Bool.not_false, Bool.and_true, Bool.or_false]
    · exact (h20 b0 hb (nm_c hne nm_n)).trans (rfl)
  · intro x1 x2 x3 x4 x5 x6 x7 x8 x9 x10 x11 x12 h1 h2 h3 h4 h5 h6 h7 h8 h9 h10 h11 h12 h13 h14 h15 h16 h17 h18 h19 h20 h21 h22 h23
    have e1 : x1 = op := by rw [← h1, he]; rfl
    have e2 : x2 = t := by rw [← h2, he]; rfl
    have e3 : x3 = s := by rw [← h3, he]; rfl
    have e8 : x5 = ra := by rw [← h8, he]; rfl
    have e13 : x7 = a := by rw [← h13, he]; rfl
    have fx10 : x10 q1 = F q1 := (h16 q1 m1 (nm_c n1 nm_n))
    have e20 : x11 = rb := by rw [← h20, fx10, he]; rfl
    have qs := sO_tr ha h5
    have qa := uA_tr h10
    have qb := uB_tr h22
    try rw [e1] at qs
    try rw [e2] at qs
    try rw [e3] at qs
    try rw [e1] at qa
    try rw [e8] at qa
    try rw [e1] at qb
    try rw [e20] at qb
    refine ⟨fun k => ?_, fun b0 hb hne => ?_⟩
    · rw [bkS_of he]
      refine bk_n false true false (decide_eq_false (by omega)) (decide_eq_true (by omega)) (decide_eq_false (by omega)) ?_
      unfold nwL
      rw [cL_of h17, cL_of h14]
      rw [se_tr h15 (by first | exact h6 | omega | (rw [e13]; omega)) k, e13]
      simp only [Bool.false_and, Bool.true_and, Bool.not_false, Bool.and_true, Bool.or_false]
    · exact (h16 b0 hb (nm_c hne nm_n)).trans (rfl)
  · intro x1 x2 x3 x4 x5 x6 x7 x8 x9 x10 x11 x12 x13 x14 x15 h1 h2 h3 h4 h5 h6 h7 h8 h9 h10 h11 h12 h13 h14 h15 h16 h17 h18 h19 h20 h21 h22 h23 h24 h25 h26 h27 h28 h29 h30
    have e1 : x1 = op := by rw [← h1, he]; rfl
    have e2 : x2 = t := by rw [← h2, he]; rfl
    have e3 : x3 = s := by rw [← h3, he]; rfl
    have e8 : x5 = ra := by rw [← h8, he]; rfl
    have e13 : x7 = a := by rw [← h13, he]; rfl
    have fx10 : x10 q1 = F q1 := (h16 q1 m1 (nm_c n1 nm_n))
    have e20 : x11 = rb := by rw [← h20, fx10, he]; rfl
    have e25 : x13 = b := by rw [← h25, fx10, he]; rfl
    have fx15 : x15 q1 = F q1 := (h28 q1 m1 (nm_c n1 nm_n)).trans fx10
    have qs := sO_tr ha h5
    have qa := uA_tr h10
    have qb := uB_tr h22
    try rw [e1] at qs
    try rw [e2] at qs
    try rw [e3] at qs
    try rw [e1] at qa
    try rw [e8] at qa
    try rw [e1] at qb
    try rw [e20] at qb
    refine ⟨fun k => ?_, fun b0 hb hne => ?_⟩
    · rw [bkS_of he]
      refine bk_n false true true (decide_eq_false (by omega)) (decide_eq_true (by omega)) (decide_eq_true (by omega)) ?_
      unfold nwL
      rw [cL_of h29, cL_of h14]
      rw [se_tr h27 (by first | exact h6 | omega | (rw [e25]; omega)) k, e25]
      rw [se_tr h15 (by first | exact h6 | omega | (rw [e13]; omega)) k, e13]
      simp only [Bool.false_and, Bool.true_and, Bool.not_false, Bool.and_true, Bool.or_false]
    · exact (h28 b0 hb (nm_c hne nm_n)).trans ((h16 b0 hb (nm_c hne nm_n)).trans (rfl))
  · intro x1 x2 x3 x4 h1 h2 h3 h4 h5 h6 h7 h8
    exact absurd ha h7
  · intro x1 x2 x3 x4 x5 x6 x7 h1 h2 h3 h4 h5 h6 h7 h8 h9 h10 h11 h12 h13 h14
    exact absurd ha h7
  · intro x1 x2 x3 x4 x5 x6 x7 x8 x9 x10 x11 h1 h2 h3 h4 h5 h6 h7 h8 h9 h10 h11 h12 h13 h14 h15 h16 h17 h18 h19 h20 h21 h22
    have e1 : x1 = op := by rw [← h1, he]; rfl
    have e2 : x2 = t := by rw [← h2, he]; rfl
    have e3 : x3 = s := by rw [← h3, he]; rfl
    have fx7 : x7 q1 = F q1 := (h10 q1 m1 (nm_c n1 nm_n))
    have e15 : x8 = ra := by rw [← h15, fx7, he]; rfl
    have e19 : x10 = rb := by rw [← h19, fx7, he]; rfl
    have qs := sO_tr ha h5
    have qa := uA_tr h17
    have qb := uB_tr h21
    try rw [e1] at qs
    try rw [e2] at qs
    try rw [e3] at qs
    try rw [e1] at qa
    try rw [e15] at qa
    try rw [e1] at qb
    try rw [e19] at qb
    refine ⟨fun k => ?_, fun b0 hb hne => ?_⟩
    · rw [bkS_of he]
      refine bk_n true false false (decide_eq_true (by omega)) (decide_eq_false (by omega)) (decide_eq_false (by omega)) ?_
      unfold nwL
      rw [cL_of h11, cL_of h8]
      rw [cl_tr h9 (by first | exact h6 | omega) k]
      rw [show x4.toInt = t.toInt by omega]
      simp only [Bool.false_and, Bool.true_and, Bool.not_false, Bool.and_true, Bool.or_false]
    · exact (h10 b0 hb (nm_c hne nm_n)).trans (rfl)
  · intro x1 x2 x3 x4 x5 x6 x7 x8 x9 x10 x11 x12 x13 x14 h1 h2 h3 h4 h5 h6 h7 h8 h9 h10 h11 h12 h13 h14 h15 h16 h17 h18 h19 h20 h21 h22 h23 h24 h25 h26 h27 h28 h29
    have e1 : x1 = op := by rw [← h1, he]; rfl
    have e2 : x2 = t := by rw [← h2, he]; rfl
    have e3 : x3 = s := by rw [← h3, he]; rfl
    have fx7 : x7 q1 = F q1 := (h10 q1 m1 (nm_c n1 nm_n))
    have e15 : x8 = ra := by rw [← h15, fx7, he]; rfl
    have e19 : x10 = rb := by rw [← h19, fx7, he]; rfl
    have e24 : x12 = b := by rw [← h24, fx7, he]; rfl
    have fx14 : x14 q1 = F q1 := (h27 q1 m1 (nm_c n1 nm_n)).trans fx7
    have qs := sO_tr ha h5
    have qa := uA_tr h17
    have qb := uB_tr h21
    try rw [e1] at qs
    try rw [e2] at qs
    try rw [e3] at qs
    try rw [e1] at qa
    try rw [e15] at qa
    try rw [e1] at qb
    try rw [e19] at qb
    refine ⟨fun k => ?_, fun b0 hb hne => ?_⟩
    · rw [bkS_of he]
      refine bk_n true false true (decide_eq_true (by omega)) (decide_eq_false (by omega)) (decide_eq_true (by omega)) ?_
      unfold nwL
      rw [cL_of h28, cL_of h8]
      rw [se_tr h26 (by first | exact h6 | omega | (rw [e24]; omega)) k, e24]
      rw [cl_tr h9 (by first | exact h6 | omega) k]
      rw [show x4.toInt = t.toInt by omega]
      simp only [Bool.false_and, Bool.true_and, Bool.not_false, Bool.and_true, Bool.or_false]
    · exact (h27 b0 hb (nm_c hne nm_n)).trans ((h10 b0 hb (nm_c hne nm_n)).trans (rfl))
  · intro x1 x2 x3 x4 x5 x6 x7 x8 x9 x10 x11 x12 x13 x14 h1 h2 h3 h4 h5 h6 h7 h8 h9 h10 h11 h12 h13 h14 h15 h16 h17 h18 h19 h20 h21 h22 h23 h24 h25 h26 h27 h28 h29 h30
    have e1 : x1 = op := by rw [← h1, he]; rfl
    have e2 : x2 = t := by rw [← h2, he]; rfl
    have e3 : x3 = s := by rw [← h3, he]; rfl
    have fx7 : x7 q1 = F q1 := (h10 q1 m1 (nm_c n1 nm_n))
    have e15 : x8 = ra := by rw [← h15, fx7, he]; rfl
    have e20 : x10 = a := by rw [← h20, fx7, he]; rfl
    have fx12 : x12 q1 = F q1 := (h23 q1 m1 (nm_c n1 nm_n)).trans fx7
    have e27 : x13 = rb := by rw [← h27, fx12, he]; rfl
    have qs := sO_tr ha h5
    have qa := uA_tr h17
    have qb := uB_tr h29
    try rw [e1] at qs
    try rw [e2] at qs
    try rw [e3] at qs
    try rw [e1] at qa
    try rw [e15] at qa
    try rw [e1] at qb
    try rw [e27] at qb
    refine ⟨fun k => ?_, fun b0 hb hne => ?_⟩
    · rw [bkS_of he]
      refine bk_n true true false (decide_eq_true (by omega)) (decide_eq_true (by omega)) (decide_eq_false (by omega)) ?_
      unfold nwL
      rw [cL_of h24, cL_of h8]
      rw [se_tr h22 (by first | exact h6 | omega | (rw [e20]; omega)) k, e20]
      rw [cl_tr h9 (by first | exact h6 | omega) k]
      rw [show x4.toInt = t.toInt by omega]
      simp only [Bool.false_and, Bool.true_and, Bool.not_false, Bool.and_true, Bool.or_false]
    · exact (h23 b0 hb (nm_c hne nm_n)).trans ((h10 b0 hb (nm_c hne nm_n)).trans (rfl))
  · intro x1 x2 x3 x4 x5 x6 x7 x8 x9 x10 x11 x12 x13 x14 x15 x16 x17 h1 h2 h3 h4 h5 h6 h7 h8 h9 h10 h11 h12 h13 h14 h15 h16 h17 h18 h19 h20 h21 h22 h23 h24 h25 h26 h27 h28 h29 h30 h31 h32 h33 h34 h35 h36 h37
    have e1 : x1 = op := by rw [← h1, he]; rfl
    have e2 : x2 = t := by rw [← h2, he]; rfl
    have e3 : x3 = s := by rw [← h3, he]; rfl
    have fx7 : x7 q1 = F q1 := (h10 q1 m1 (nm_c n1 nm_n))
    have e15 : x8 = ra := by rw [← h15, fx7, he]; rfl
    have e20 : x10 = a := by rw [← h20, fx7, he]; rfl
    have fx12 : x12 q1 = F q1 := (h23 q1 m1 (nm_c n1 nm_n)).trans fx7
    have e27 : x13 = rb := by rw [← h27, fx12, he]; rfl
    have e32 : x15 = b := by rw [← h32, fx12, he]; rfl
    have fx17 : x17 q1 = F q1 := (h35 q1 m1 (nm_c n1 nm_n)).trans fx12
    have qs := sO_tr ha h5
    have qa := uA_tr h17
    have qb := uB_tr h29
    try rw [e1] at qs
    try rw [e2] at qs
    try rw [e3] at qs
    try rw [e1] at qa
    try rw [e15] at qa
    try rw [e1] at qb
    try rw [e27] at qb
    refine ⟨fun k => ?_, fun b0 hb hne => ?_⟩
    · rw [bkS_of he]
      refine bk_n true true true (decide_eq_true (by omega)) (decide_eq_true (by omega)) (decide_eq_true (by omega)) ?_
      unfold nwL
      rw [cL_of h36, cL_of h8]
      rw [se_tr h34 (by first | exact h6 | omega | (rw [e32]; omega)) k, e32]
      rw [se_tr h22 (by first | exact h6 | omega | (rw [e20]; omega)) k, e20]
      rw [cl_tr h9 (by first | exact h6 | omega) k]
      rw [show x4.toInt = t.toInt by omega]
      simp only [Bool.false_and, Bool.true_and, Bool.not_false, Bool.and_true, Bool.or_false]
    · exact (h35 b0 hb (nm_c hne nm_n)).trans ((h23 b0 hb (nm_c hne nm_n)).trans ((h10 b0 hb (nm_c hne nm_n)).trans (rfl)))
  · intro x1 x2 x3 x4 x5 x6 x7 h1 h2 h3 h4 h5 h6 h7 h8 h9 h10 h11 h12 h13 h14 h15
    exact absurd ha h13
  · intro x1 x2 x3 x4 x5 x6 x7 x8 x9 h1 h2 h3 h4 h5 h6 h7 h8 h9 h10 h11 h12 h13 h14 h15 h16 h17 h18 h19 h20 h21 h22
    exact absurd ha h13
theorem st2 (h : tr_RModel_stand2 D I γ el F q0 q1 a2 F1) : ∀ b, b ≠ γ 9 3 → F1 b = F b := by
  refine h (fun F1 => ∀ b, b ≠ γ 9 3 → F1 b = F b) ?_ ?_ ?_ ?_ ?_ ?_ ?_ ?_ ?_ ?_ ?_ ?_
  · intro x1 x2 x3 x4 x5 x6 x7 x8 h1 h2 h3 h4 h5 h6 h7 h8 h9 h10 h11 h12 h13 h14 h15
    intro b hb
    exact rfl
  · intro x1 x2 x3 x4 x5 x6 x7 x8 x9 x10 x11 x12 h1 h2 h3 h4 h5 h6 h7 h8 h9 h10 h11 h12 h13 h14 h15 h16 h17 h18 h19 h20 h21
    intro b hb
    exact (h20 b hb).trans (rfl)
  · intro x1 x2 x3 x4 x5 x6 x7 x8 x9 x10 x11 x12 h1 h2 h3 h4 h5 h6 h7 h8 h9 h10 h11 h12 h13 h14 h15 h16 h17 h18 h19 h20 h21 h22
    intro b hb
    exact (h16 b hb).trans (rfl)
  · intro x1 x2 x3 x4 x5 x6 x7 x8 x9 x10 x11 x12 x13 x14 x15 h1 h2 h3 h4 h5 h6 h7 h8 h9 h10 h11 h12 h13 h14 h15 h16 h17 h18 h19 h20 h21 h22 h23 h24 h25 h26 h27 h28
    intro b hb
    exact (h27 b hb).trans ((h16 b hb).trans (rfl))
  · intro x1 x2 x3 x4 h1 h2 h3 h4 h5 h6 h7 h8
    intro b hb
    exact rfl
  · intro x1 x2 x3 x4 x5 x6 x7 h1 h2 h3 h4 h5 h6 h7 h8 h9 h10 h11 h12 h13
    intro b hb
    exact (h12 b hb).trans (rfl)
  · intro x1 x2 x3 x4 x5 x6 x7 x8 x9 x10 x11 h1 h2 h3 h4 h5 h6 h7 h8 h9 h10 h11 h12 h13 h14 h15 h16 h17 h18 h19 h20 h21
    intro b hb
    exact (h10 b hb).trans (rfl)
  · intro x1 x2 x3 x4 x5 x6 x7 x8 x9 x10 x11 x12 x13 x14 h1 h2 h3 h4 h5 h6 h7 h8 h9 h10 h11 h12 h13 h14 h15 h16 h17 h18 h19 h20 h21 h22 h23 h24 h25 h26 h27
    intro b hb
    exact (h26 b hb).trans ((h10 b hb).trans (rfl))
  · intro x1 x2 x3 x4 x5 x6 x7 x8 x9 x10 x11 x12 x13 x14 h1 h2 h3 h4 h5 h6 h7 h8 h9 h10 h11 h12 h13 h14 h15 h16 h17 h18 h19 h20 h21 h22 h23 h24 h25 h26 h27 h28
    intro b hb
    exact (h22 b hb).trans ((h10 b hb).trans (rfl))
  · intro x1 x2 x3 x4 x5 x6 x7 x8 x9 x10 x11 x12 x13 x14 x15 x16 x17 h1 h2 h3 h4 h5 h6 h7 h8 h9 h10 h11 h12 h13 h14 h15 h16 h17 h18 h19 h20 h21 h22 h23 h24 h25 h26 h27 h28 h29 h30 h31 h32 h33 h34
    intro b hb
    exact (h33 b hb).trans ((h22 b hb).trans ((h10 b hb).trans (rfl)))
  · intro x1 x2 x3 x4 x5 x6 x7 h1 h2 h3 h4 h5 h6 h7 h8 h9 h10 h11 h12 h13 h14
    intro b hb
    exact (h10 b hb).trans (rfl)
  · intro x1 x2 x3 x4 x5 x6 x7 x8 x9 h1 h2 h3 h4 h5 h6 h7 h8 h9 h10 h11 h12 h13 h14 h15 h16 h17 h18 h19 h20
    intro b hb
    exact (h19 b hb).trans ((h10 b hb).trans (rfl))
theorem bh2 {s1 e1 : Nat → va_E} {s2 : Int32} {kx : Nat} (h : tl_RModel_behind3_2 D I γ el P F q0 s1 s2 kx e1) : (∀ j : Nat, (j : Int) < s2.toInt → cL (s1 (γ 9 2)) j = 0) → (∀ j : Nat, j < 32 → cL (e1 (γ 9 2)) j = 0) ∧ ∀ b, b ≠ γ 9 2 → e1 b = s1 b := by
  refine h (fun s1 s2 _ e1 => (∀ j : Nat, (j : Int) < s2.toInt → cL (s1 (γ 9 2)) j = 0) → (∀ j : Nat, j < 32 → cL (e1 (γ 9 2)) j = 0) ∧ ∀ b, b ≠ γ 9 2 → e1 b = s1 b) ?_ ?_
  · intro F_1 l2_1 h1 h2 h3 h4 h5 h6
    intro h0
    exact ⟨fun j hj => h0 j (by have := h6; omega), fun _ _ => rfl⟩
  · intro F_1 l2_1 x1 x2 x3 x4 k e1 h1 h2 h3 h4 h5 h6 h7 h8 h9 h10 h11 h12 ih
    intro h0
    obtain ⟨i1, i2⟩ := ih (by
      rw [cL_of h11]
      rw [cL_of h8] at h0
      exact zr_st h9 h0 h12 (h1.1))
    exact ⟨i1, fun b hb => (i2 b hb).trans (h10 b hb)⟩
theorem bh33 {s1 e1 : Nat → va_E} {l2 s2 : Int32} {kx : Nat} {y : Int32} (hT : RS D I P F γ el) (hm : γ 0 q0 = 10) (hF : ∀ F1, rStr γ [] F F1 → F1 q1 = F q1) (hy : (l2.toInt = 0 ∧ y = fI (F q1) 2) ∨ (l2.toInt ≠ 0 ∧ y = fI (F q1) 3)) (hy0 : 0 ≤ y.toInt ∧ y.toInt < 40) (h : tl_RModel_behind3_33 D I γ el P F q0 q1 l2 s1 s2 kx e1) : 0 ≤ s2.toInt → (∀ b, b ≠ γ 9 2 → e1 b = s1 b) ∧ ∀ k : Nat, k < 2048 → (nwL γ e1 k = true ↔ nwL γ s1 k = true ∨ (64 * s2.toInt ≤ (k : Int) ∧ lvS γ s1 y.toInt.toNat k = true)) := by
  obtain ⟨k0, k1, k2, k3⟩ := md_kd hT hm
  have ky := lr_kd hT k0 (show y.toInt.toNat < 40 by omega)
  have nk : γ 10 y.toInt.toNat ≠ γ 9 2 := fun e => by rw [e, k2] at ky; exact absurd ky.1 (by decide)
  refine h (fun s1 s2 _ e1 => 0 ≤ s2.toInt → (∀ b, b ≠ γ 9 2 → e1 b = s1 b) ∧ ∀ k : Nat, k < 2048 → (nwL γ e1 k = true ↔ nwL γ s1 k = true ∨ (64 * s2.toInt ≤ (k : Int) ∧ lvS γ s1 y.toInt.toNat k = true))) ?_ ?_
  · intro F_2 l3_2 h1 h2 h3 h4 h5 h6
    intro h0
    exact ⟨fun _ _ => rfl, fun k hk => ⟨Or.inl, fun z => z.elim id (fun w => absurd w.1 (by have := h6; omega))⟩⟩
  · intro F_2 l3_2 x1 x2 x3 x4 x5 x6 x7 x8 x9 x10 x11 x12 k e1 h1 h2 h3 h4 h5 h6 h7 h8 h9 h10 h11 h12 h13 h14 h15 h16 h17 h18 h19 h20 h21 h22 ih
    intro h0
    obtain ⟨i1, i2⟩ := ih (by omega)
    have ex := wy_tr h14
    have eF := hF _ h3
    have e5 : x5 = y := by
      rcases ex with ⟨z1, z2⟩ | ⟨z1, z2⟩
      · rcases hy with w | w
        · rw [z2, w.2, ← h11, eF]
        · exact absurd z1 w.1
      · rcases hy with w | w
        · exact absurd w.1 z1
        · rw [z2, w.2, ← h12, eF]
    have hfr := h20
    have hx7 : cL (F_2 (γ 10 y.toInt.toNat)) = x7 := by
      have q := h16
      rw [h15, e5] at q
      exact cL_of q
    refine ⟨fun b hb => (i1 b hb).trans (hfr b hb), fun k hk => ?_⟩
    rw [i2 k hk]
    have elv : lvS γ x11 y.toInt.toNat k = lvS γ F_2 y.toInt.toNat k := by unfold lvS; rw [hfr _ nk]
    have enw : nwL γ x11 k = if k / 64 = l3_2.toNatClampNeg then (nwL γ F_2 k || lvS γ F_2 y.toInt.toNat k) else nwL γ F_2 k := by
      unfold nwL lvS
      rw [cL_of h21, cL_of h8, hx7, rbt_updL h19]
      split
      · next e => rw [h18, Int64.toBitVec_or, BitVec.getLsbD_or, h9, h17, ← e]; rfl
      · rfl
    have hz : (l3_2.toNatClampNeg : Int) = l3_2.toInt := g_nn h0
    rw [elv, enw]
    by_cases e : k / 64 = l3_2.toNatClampNeg
    · rw [if_pos e, Bool.or_eq_true]
      constructor
      · rintro ((z | z) | z)
        · exact Or.inl z
        · exact Or.inr ⟨by omega, z⟩
        · exact Or.inr ⟨by omega, z.2⟩
      · rintro (z | z)
        · exact Or.inl (Or.inl z)
        · exact Or.inl (Or.inr z.2)
    · rw [if_neg e]
      constructor
      · rintro (z | z)
        · exact Or.inl z
        · exact Or.inr ⟨by omega, z.2⟩
      · rintro (z | z)
        · exact Or.inl z
        · exact Or.inr ⟨by omega, z.2⟩
theorem bh23 {s1 e1 : Nat → va_E} {s2 : Int32} {kx : Nat} (hT : RS D I P F γ el) (hm : γ 0 q0 = 10) (hk : γ 0 q1 = 2) (hF : ∀ F1, rStr γ [] F F1 → F1 q1 = F q1 ∧ F1 (γ 15 q1) = F (γ 15 q1)) (h : tl_RModel_behind3_23 D I γ el P F q0 q1 s1 s2 kx e1) : 0 ≤ s2.toInt → (∀ b, b ≠ γ 9 2 → e1 b = s1 b) ∧ ∀ k : Nat, k < 2048 → (nwL γ e1 k = true ↔ nwL γ s1 k = true ∨ (s2.toInt ≤ 0 ∧ 0 < wnV (fI (F (γ 15 q1)) 0).toInt (fI (F q1) 2).toInt (fI (F q1) 3).toInt ∧ lvS γ s1 (fI (F q1) 2).toInt.toNat k = true) ∨ (s2.toInt ≤ 1 ∧ 1 < wnV (fI (F (γ 15 q1)) 0).toInt (fI (F q1) 2).toInt (fI (F q1) 3).toInt ∧ lvS γ s1 (fI (F q1) 3).toInt.toNat k = true)) := by
  obtain ⟨k0, k1, k2, k3⟩ := md_kd hT hm
  obtain ⟨l, nn, p, s, v1, ⟨g1, g2, g3⟩, v3, v4, v5, v6, v7, v8, v9, -⟩ := show rk_2 γ q1 (F q1) from RS_o hT hk
  have ep : fI (F q1) 2 = p := by rw [v1]; rfl
  have es : fI (F q1) 3 = s := by rw [v1]; rfl
  have er : fR (F q1) 1 = nn := by rw [v1]; rfl
  have v81 := v8.1
  have v82 := v8.2
  have v91 := v9.1
  have v92 := v9.2
  refine h (fun s1 s2 _ e1 => 0 ≤ s2.toInt → (∀ b, b ≠ γ 9 2 → e1 b = s1 b) ∧ ∀ k : Nat, k < 2048 → (nwL γ e1 k = true ↔ nwL γ s1 k = true ∨ (s2.toInt ≤ 0 ∧ 0 < wnV (fI (F (γ 15 q1)) 0).toInt (fI (F q1) 2).toInt (fI (F q1) 3).toInt ∧ lvS γ s1 (fI (F q1) 2).toInt.toNat k = true) ∨ (s2.toInt ≤ 1 ∧ 1 < wnV (fI (F (γ 15 q1)) 0).toInt (fI (F q1) 2).toInt (fI (F q1) 3).toInt ∧ lvS γ s1 (fI (F q1) 3).toInt.toNat k = true))) ?_ ?_
  · intro F_1 l2_1 x1 x2 x3 x4 x5 h1 h2 h3 h4 h5 h6 h7 h8 h9 h10 h11 h12
    intro h0
    have eF := hF _ h3
    have ew := ws_tr h11
    rw [← h6, ← h7, ← h9, ← h8, eF.1, er, ← g2, eF.2] at ew
    have hle := h12
    exact ⟨fun _ _ => rfl, fun k hk => ⟨Or.inl, fun z => z.elim id (fun w => w.elim (fun w => absurd w.2.1 (by omega)) (fun w => absurd w.2.1 (by omega)))⟩⟩
  · intro F_1 l2_1 x1 x2 x3 x4 x5 x6 x7 k e1 h1 h2 h3 h4 h5 h6 h7 h8 h9 h10 h11 h12 h13 h14 ih
    intro h0
    have eF := hF _ h3
    have ew := ws_tr h11
    rw [← h6, ← h7, ← h9, ← h8, eF.1, er, ← g2, eF.2] at ew
    have hlt := h12
    have hwn : wnV (fI (F (γ 15 q1)) 0).toInt (fI (F q1) 2).toInt (fI (F q1) 3).toInt ≤ 2 := by
      unfold wnV
      split
      · decide
      · split <;> decide
    have h01 : l2_1.toInt = 0 ∨ l2_1.toInt = 1 := by omega
    obtain ⟨i1, i2⟩ := ih (by omega)
    have key : ∀ y : Int32, ((l2_1.toInt = 0 ∧ y = fI (F q1) 2) ∨ (l2_1.toInt ≠ 0 ∧ y = fI (F q1) 3)) → (∀ b, b ≠ γ 9 2 → x6 b = F_1 b) ∧ ∀ k : Nat, k < 2048 → (nwL γ x6 k = true ↔ nwL γ F_1 k = true ∨ lvS γ F_1 y.toInt.toNat k = true) := fun y hy => by
      have hy0 : 0 ≤ y.toInt ∧ y.toInt < 40 := by
        rcases hy with w | w
        · rw [w.2, ep]; omega
        · rw [w.2, es]; omega
      obtain ⟨j1, j2⟩ := bh33 hT hm (fun F1 h => (hF F1 h).1) hy hy0 h13 (by decide)
      refine ⟨j1, fun k hk => ?_⟩
      rw [j2 k hk, show Int32.toInt 0 = 0 from by decide]
      exact ⟨fun z => z.imp id (fun w => w.2), fun z => z.imp id (fun w => ⟨by omega, w⟩)⟩
    have nk : ∀ y : Int32, 0 ≤ y.toInt ∧ y.toInt < 40 → ∀ G1 G2 : Nat → va_E, (∀ b, b ≠ γ 9 2 → G1 b = G2 b) → ∀ k, lvS γ G1 y.toInt.toNat k = lvS γ G2 y.toInt.toNat k := fun y hy G1 G2 hG k => by
      unfold lvS
      rw [hG _ (fun e => by have ky := lr_kd hT k0 (show y.toInt.toNat < 40 by omega); rw [e, k2] at ky; exact absurd ky.1 (by decide))]
    rcases h01 with h01 | h01
    · obtain ⟨j1, j2⟩ := key _ (Or.inl ⟨h01, rfl⟩)
      refine ⟨fun b hb => (i1 b hb).trans (j1 b hb), fun k hk => ?_⟩
      rw [i2 k hk, j2 k hk, nk (fI (F q1) 3) (by rw [es]; omega) _ _ j1 k]
      constructor
      · rintro ((z | z) | z | z)
        · exact Or.inl z
        · exact Or.inr (Or.inl ⟨by omega, by omega, z⟩)
        · exact absurd z.1 (by omega)
        · exact Or.inr (Or.inr ⟨by omega, z.2.1, z.2.2⟩)
      · rintro (z | z | z)
        · exact Or.inl (Or.inl z)
        · exact Or.inl (Or.inr z.2.2)
        · exact Or.inr (Or.inr ⟨by omega, z.2.1, z.2.2⟩)
    · obtain ⟨j1, j2⟩ := key _ (Or.inr ⟨by omega, rfl⟩)
      refine ⟨fun b hb => (i1 b hb).trans (j1 b hb), fun k hk => ?_⟩
      rw [i2 k hk, j2 k hk]
      constructor
      · rintro ((z | z) | z | z)
        · exact Or.inl z
        · exact Or.inr (Or.inr ⟨by omega, by omega, z⟩)
        · exact absurd z.1 (by omega)
        · exact absurd z.1 (by omega)
      · rintro (z | z | z)
        · exact Or.inl (Or.inl z)
        · exact absurd z.1 (by omega)
        · exact Or.inl (Or.inr z.2.2)
theorem bh3 (hT : RS D I P F γ el) (hm : γ 0 q0 = 10) (hk : γ 0 q1 = 2) (hF : ∀ F1, rStr γ [] F F1 → F1 q1 = F q1 ∧ F1 (γ 15 q1) = F (γ 15 q1)) (h : tr_RModel_behind3 D I γ el P F q0 q1 F1) : (∀ k : Nat, k < 2048 → nwL γ F1 k = bhV (fI (F (γ 15 q1)) 0).toInt (fI (F q1) 2).toInt (fI (F q1) 3).toInt (lvS γ F) k) ∧ ∀ b, b ≠ γ 9 2 → F1 b = F b := by
  obtain ⟨k0, k1, k2, k3⟩ := md_kd hT hm
  obtain ⟨l, nn, p, s, v1, ⟨g1, g2, g3⟩, v3, v4, v5, v6, v7, v8, v9, -⟩ := show rk_2 γ q1 (F q1) from RS_o hT hk
  have ep : fI (F q1) 2 = p := by rw [v1]; rfl
  have es : fI (F q1) 3 = s := by rw [v1]; rfl
  have v81 := v8.1
  have v82 := v8.2
  have v91 := v9.1
  have v92 := v9.2
  refine h (fun F1 => (∀ k : Nat, k < 2048 → nwL γ F1 k = bhV (fI (F (γ 15 q1)) 0).toInt (fI (F q1) 2).toInt (fI (F q1) 3).toInt (lvS γ F) k) ∧ ∀ b, b ≠ γ 9 2 → F1 b = F b) ?_
  · intro x1 x2 h1 h2
    obtain ⟨z1, z2⟩ := bh2 h1 (fun j hj => by rw [show Int32.toInt 0 = 0 from by decide] at hj; omega)
    obtain ⟨z3, z4⟩ := bh23 hT hm hk hF h2 (by decide)
    refine ⟨fun k hk => ?_, fun b hb => (z3 b hb).trans (z2 b hb)⟩
    have nk : ∀ y : Int32, 0 ≤ y.toInt ∧ y.toInt < 40 → ∀ k, lvS γ x1 y.toInt.toNat k = lvS γ F y.toInt.toNat k := fun y hy k => by
      unfold lvS
      rw [z2 _ (fun e => by have ky := lr_kd hT k0 (show y.toInt.toNat < 40 by omega); rw [e, k2] at ky; exact absurd ky.1 (by decide))]
    have e0 : nwL γ x1 k = false := rbt_z (z1 (k / 64) (by omega))
    rw [Bool.eq_iff_iff, z4 k hk, bh_wn, e0, nk (fI (F q1) 2) (by rw [ep]; omega), nk (fI (F q1) 3) (by rw [es]; omega), show Int32.toInt 0 = 0 from by decide]
    constructor
    · rintro (z | z | z)
      · cases z
      · exact Or.inl z.2
      · exact Or.inr z.2
    · rintro (z | z)
      · exact Or.inr (Or.inl ⟨Int.le_refl _, z⟩)
      · exact Or.inr (Or.inr ⟨by decide, z⟩)
end GBK
