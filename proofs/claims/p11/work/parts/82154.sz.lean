section RSZ
/-- a text is bs -/
def txE (xt : gTx) (bs : List Int32) : Prop := xt.1 = bs.length ∧ ∀ j, j < bs.length → (xt.2 j).toInt = (bs.getD j 0).toInt
variable {f g y : Nat → Int32} {n l k0 : Nat} {r kd i : Int32} {bs : List Int32} {c d : Int} {xt : gTx}
theorem eq1_tl {k : Nat} (h : tl_RStringLatin1_equals_9 n f bs i k) (hl : n = bs.length) : ∀ k0 : Nat, i.toInt = (k0 : Int) → (k = 32 ∧ ∀ j, k0 ≤ j → j < n → (f j).toInt = (bs.getD j 0).toInt) ∨ (k = 24 ∧ ¬ ∀ j, k0 ≤ j → j < n → (f j).toInt = (bs.getD j 0).toInt) := by
  refine h (fun i k => ∀ k0 : Nat, i.toInt = (k0 : Int) → (k = 32 ∧ ∀ j, k0 ≤ j → j < n → (f j).toInt = (bs.getD j 0).toInt) ∨ (k = 24 ∧ ¬ ∀ j, k0 ≤ j → j < n → (f j).toInt = (bs.getD j 0).toInt)) ?_ ?_ ?_
  · intro l2_1 x1 h1 h2 h3
    intro k0 hk
    exact Or.inl ⟨rfl, fun j a b => by omega⟩
  · intro l2_1 x1 x2 x3 x4 k h1 h2 h3 h4 h5 h6 h7 h8 ih
    revert ih
    intro ih k0 hk
    rw [nnE hk] at h4 h6
    rcases ih (k0 + 1) (by omega) with ⟨q1, q2⟩ | ⟨q1, q2⟩
    · refine Or.inl ⟨q1, fun j a b => ?_⟩
      by_cases e : j = k0
      · rw [e, ← h4, ← h6]; exact h7
      · exact q2 j (by omega) b
    · exact Or.inr ⟨q1, fun z => q2 (fun j a b => z j (by omega) b)⟩
  · intro l2_1 x1 x2 x3 h1 h2 h3 h4 h5 h6 h7
    intro k0 hk
    rw [nnE hk] at h4 h6
    refine Or.inr ⟨rfl, fun z => h7 ?_⟩
    have := z k0 (Nat.le_refl _) (by omega)
    rw [← h4, ← h6] at this
    exact this
theorem eq2_tr (h : tr_RStringLatin1_equals bs f n r) : (r.toInt = 1 ∧ txE (n, f) bs) ∨ (r.toInt = 0 ∧ ¬ txE (n, f) bs) := by
  refine h (fun r => (r.toInt = 1 ∧ txE (n, f) bs) ∨ (r.toInt = 0 ∧ ¬ txE (n, f) bs)) ?_ ?_ ?_
  · intro x1 x2 h1 h2 h3
    refine Or.inr ⟨px_0, fun z => ?_⟩
    have := z.1
    omega
  · intro x1 x2 h1 h2 h3 h4
    have e : n = bs.length := by omega
    rcases eq1_tl h4 e 0 (by decide) with ⟨q1, q2⟩ | ⟨q1, q2⟩
    · exact Or.inl ⟨px_1, e, fun j hj => q2 j (Nat.zero_le _) (by omega)⟩
    · exact absurd q1 (by decide)
  · intro x1 x2 h1 h2 h3 h4
    have e : n = bs.length := by omega
    rcases eq1_tl h4 e 0 (by decide) with ⟨q1, q2⟩ | ⟨q1, q2⟩
    · exact absurd q1 (by decide)
    · exact Or.inr ⟨px_0, fun z => q2 (fun j _ hj => z.2 j (by omega))⟩
theorem eq3_tr (h : tr_RString_equals bs f n r) : (r.toInt = 1 ∧ txE (n, f) bs) ∨ (r.toInt = 0 ∧ ¬ txE (n, f) bs) := by
  refine h (fun r => (r.toInt = 1 ∧ txE (n, f) bs) ∨ (r.toInt = 0 ∧ ¬ txE (n, f) bs)) ?_ ?_
  · intro x1 h1 h2 h3
    rcases eq2_tr h2 with ⟨q1, q2⟩ | ⟨q1, q2⟩
    · omega
    · exact Or.inr ⟨px_0, q2⟩
  · intro x1 h1 h2 h3
    rcases eq2_tr h2 with ⟨q1, q2⟩ | ⟨q1, q2⟩
    · exact Or.inl ⟨px_1, q2⟩
    · omega
theorem is_tr (h : tr_RReader_is bs kd xt r) : (r.toInt = 1 ∧ (kd.toInt = 5 ∨ kd.toInt = 1) ∧ txE xt bs) ∨ (r.toInt = 0 ∧ ¬ ((kd.toInt = 5 ∨ kd.toInt = 1) ∧ txE xt bs)) := by
  refine h (fun r => (r.toInt = 1 ∧ (kd.toInt = 5 ∨ kd.toInt = 1) ∧ txE xt bs) ∨ (r.toInt = 0 ∧ ¬ ((kd.toInt = 5 ∨ kd.toInt = 1) ∧ txE xt bs))) ?_ ?_ ?_ ?_ ?_
  · intro h1 h2
    rcases eq3_tr h2 with ⟨q1, q2⟩ | ⟨q1, q2⟩
    · exact absurd q1 (by decide)
    · exact Or.inr ⟨px_0, fun z => q2 z.2⟩
  · intro h1 h2
    rcases eq3_tr h2 with ⟨q1, q2⟩ | ⟨q1, q2⟩
    · exact Or.inl ⟨px_1, by omega, q2⟩
    · exact absurd q1 (by decide)
  · intro h1 h2
    exact Or.inr ⟨px_0, fun z => by omega⟩
  · intro h1 h2 h3
    rcases eq3_tr h3 with ⟨q1, q2⟩ | ⟨q1, q2⟩
    · exact absurd q1 (by decide)
    · exact Or.inr ⟨px_0, fun z => q2 z.2⟩
  · intro h1 h2 h3
    rcases eq3_tr h3 with ⟨q1, q2⟩ | ⟨q1, q2⟩
    · exact Or.inl ⟨px_1, by omega, q2⟩
    · exact absurd q1 (by decide)
def v1 (c : Int) : Int := if c = 43 then 1 else if c = 45 then 2 else if c = 42 then 3 else if c = 47 then 4 else if c = 37 then 5 else if c = 38 then 6 else if c = 124 then 7 else if c = 94 then 8 else if c = 60 then 11 else 0
def tw (c d : Int) : Prop := (c = 60 ∧ d = 60) ∨ (c = 62 ∧ d = 62) ∨ (c = 60 ∧ d = 61) ∨ (c = 61 ∧ d = 61) ∨ (c = 33 ∧ d = 61)
def v2 (c d : Int) : Int := if c = 60 ∧ d = 60 then 9 else if c = 62 ∧ d = 62 then 10 else if c = 60 ∧ d = 61 then 12 else if c = 61 ∧ d = 61 then 13 else if c = 33 ∧ d = 61 then 14 else 0
def sgC (c : Int) : Prop := c = 43 ∨ c = 45 ∨ c = 42 ∨ c = 47 ∨ c = 37 ∨ c = 38 ∨ c = 124 ∨ c = 94 ∨ c = 60 ∨ c = 40 ∨ c = 41 ∨ c = 44 ∨ c = 58 ∨ c = 61
theorem tab1 : ∀ q : Fin 32, (sb_42.getD q.val 0).toInt = 32 → (sb_42.getD (q.val + 2) 0).toInt = 32 → (sb_42.getD (q.val + 1) 0).toInt ≠ 32 → v1 (sb_42.getD (q.val + 1) 0).toInt = 1 + (spN sb_42 q.val : Int) := by decide +kernel
theorem tab2 : ∀ q : Fin 31, (sb_42.getD q.val 0).toInt = 32 → (sb_42.getD (q.val + 3) 0).toInt = 32 → (sb_42.getD (q.val + 1) 0).toInt ≠ 32 → (sb_42.getD (q.val + 2) 0).toInt ≠ 32 → v2 (sb_42.getD (q.val + 1) 0).toInt (sb_42.getD (q.val + 2) 0).toInt = 1 + (spN sb_42 q.val : Int) := by decide +kernel
theorem tab3 : ∀ q : Fin 13, (sb_36.getD q.val 0).toInt = 32 → (sb_36.getD (q.val + 3) 0).toInt = 32 → (sb_36.getD (q.val + 1) 0).toInt ≠ 32 → (sb_36.getD (q.val + 2) 0).toInt ≠ 32 → v2 (sb_36.getD (q.val + 1) 0).toInt (sb_36.getD (q.val + 2) 0).toInt ≠ 0 := by decide +kernel
theorem v2_tw : v2 c d ≠ 0 ↔ tw c d := by
  unfold v2 tw
  constructor
  · intro h
    by_cases a : c = 60 ∧ d = 60
    · exact Or.inl a
    rw [if_neg a] at h
    by_cases b : c = 62 ∧ d = 62
    · exact Or.inr (Or.inl b)
    rw [if_neg b] at h
    by_cases e : c = 60 ∧ d = 61
    · exact Or.inr (Or.inr (Or.inl e))
    rw [if_neg e] at h
    by_cases f : c = 61 ∧ d = 61
    · exact Or.inr (Or.inr (Or.inr (Or.inl f)))
    rw [if_neg f] at h
    by_cases g : c = 33 ∧ d = 61
    · exact Or.inr (Or.inr (Or.inr (Or.inr g)))
    rw [if_neg g] at h
    exact absurd rfl h
  · rintro (⟨a, b⟩ | ⟨a, b⟩ | ⟨a, b⟩ | ⟨a, b⟩ | ⟨a, b⟩) <;> (rw [a, b]; decide)
theorem mt3 {p : Nat} (hb : bbT g 1 y) (hc : (g 0).toInt = c) (h0 : (sb_42.getD p 0).toInt = 32) (h1 : (sb_42.getD (p + 1) 0).toInt = c) (h2 : (sb_42.getD (p + 2) 0).toInt = 32) (hp : p + 3 ≤ sb_42.length) : mtc sb_42 (1 + 2) y p := by
  obtain ⟨b0, b1, b2⟩ := hb
  have e1 := b1 0 (by decide)
  refine ⟨hp, fun j hj => ?_⟩
  have hj3 : j = 0 ∨ j = 1 ∨ j = 2 := by omega
  rcases hj3 with e | e | e
  · rw [e, Nat.add_zero, h0, b0]
  · rw [e, h1, show (1 : Nat) = 1 + 0 from rfl, e1, hc]
  · rw [e, h2, show (2 : Nat) = 1 + 1 from rfl, b2]
theorem mt3e {p : Nat} (hb : bbT g 1 y) (hc : (g 0).toInt = c) (h : mtc bs (1 + 2) y p) : p + 3 ≤ bs.length ∧ (bs.getD p 0).toInt = 32 ∧ (bs.getD (p + 1) 0).toInt = c ∧ (bs.getD (p + 2) 0).toInt = 32 := by
  obtain ⟨b0, b1, b2⟩ := hb
  obtain ⟨h1, h2⟩ := h
  have e1 := b1 0 (by decide)
  refine ⟨h1, ?_, ?_, ?_⟩
  · have := h2 0 (by decide); rw [Nat.add_zero] at this; rw [this, b0]
  · rw [h2 1 (by decide), show (1 : Nat) = 1 + 0 from rfl, e1, hc]
  · rw [h2 2 (by decide), show (2 : Nat) = 1 + 1 from rfl, b2]
theorem mt4 {p : Nat} (hb : bbT g 2 y) (hc : (g 0).toInt = c) (hd : (g 1).toInt = d) (h0 : (bs.getD p 0).toInt = 32) (h1 : (bs.getD (p + 1) 0).toInt = c) (h2 : (bs.getD (p + 2) 0).toInt = d) (h3 : (bs.getD (p + 3) 0).toInt = 32) (hp : p + 4 ≤ bs.length) : mtc bs (2 + 2) y p := by
  obtain ⟨b0, b1, b2⟩ := hb
  have e1 := b1 0 (by decide)
  have e2 := b1 1 (by decide)
  refine ⟨hp, fun j hj => ?_⟩
  have hj3 : j = 0 ∨ j = 1 ∨ j = 2 ∨ j = 3 := by omega
  rcases hj3 with e | e | e | e
  · rw [e, Nat.add_zero, h0, b0]
  · rw [e, h1, show (1 : Nat) = 1 + 0 from rfl, e1, hc]
  · rw [e, h2, show (2 : Nat) = 1 + 1 from rfl, e2, hd]
  · rw [e, h3, show (3 : Nat) = 1 + 2 from rfl, b2]
theorem mt4e {p : Nat} (hb : bbT g 2 y) (hc : (g 0).toInt = c) (hd : (g 1).toInt = d) (h : mtc bs (2 + 2) y p) : p + 4 ≤ bs.length ∧ (bs.getD p 0).toInt = 32 ∧ (bs.getD (p + 1) 0).toInt = c ∧ (bs.getD (p + 2) 0).toInt = d ∧ (bs.getD (p + 3) 0).toInt = 32 := by
  obtain ⟨b0, b1, b2⟩ := hb
  obtain ⟨h1, h2⟩ := h
  have e1 := b1 0 (by decide)
  have e2 := b1 1 (by decide)
  refine ⟨h1, ?_, ?_, ?_, ?_⟩
  · have := h2 0 (by decide); rw [Nat.add_zero] at this; rw [this, b0]
  · rw [h2 1 (by decide), show (1 : Nat) = 1 + 0 from rfl, e1, hc]
  · rw [h2 2 (by decide), show (2 : Nat) = 1 + 1 from rfl, e2, hd]
  · rw [h2 3 (by decide), show (3 : Nat) = 1 + 2 from rfl, b2]
theorem opv1 {o : Int32} (h : tr_RModel_operation g 1 o) (hc : (g 0).toInt = c) (h32 : 32 < c) : o.toInt = v1 c := by
  have L : sb_42.length = 34 := by decide
  obtain ⟨y, yb, ⟨k1, k2⟩ | ⟨q, k1, -, k2⟩⟩ := rop_tr h
  · rw [k1]
    unfold v1
    by_cases c43 : c = 43
    · exact absurd (mt3 (p := 0) yb hc (by decide) (by rw [c43]; decide) (by decide) (by rw [L]; decide)) (k2 0)
    rw [if_neg c43]
    by_cases c45 : c = 45
    · exact absurd (mt3 (p := 2) yb hc (by decide) (by rw [c45]; decide) (by decide) (by rw [L]; decide)) (k2 2)
    rw [if_neg c45]
    by_cases c42 : c = 42
    · exact absurd (mt3 (p := 4) yb hc (by decide) (by rw [c42]; decide) (by decide) (by rw [L]; decide)) (k2 4)
    rw [if_neg c42]
    by_cases c47 : c = 47
    · exact absurd (mt3 (p := 6) yb hc (by decide) (by rw [c47]; decide) (by decide) (by rw [L]; decide)) (k2 6)
    rw [if_neg c47]
    by_cases c37 : c = 37
    · exact absurd (mt3 (p := 8) yb hc (by decide) (by rw [c37]; decide) (by decide) (by rw [L]; decide)) (k2 8)
    rw [if_neg c37]
    by_cases c38 : c = 38
    · exact absurd (mt3 (p := 10) yb hc (by decide) (by rw [c38]; decide) (by decide) (by rw [L]; decide)) (k2 10)
    rw [if_neg c38]
    by_cases c124 : c = 124
    · exact absurd (mt3 (p := 12) yb hc (by decide) (by rw [c124]; decide) (by decide) (by rw [L]; decide)) (k2 12)
    rw [if_neg c124]
    by_cases c94 : c = 94
    · exact absurd (mt3 (p := 14) yb hc (by decide) (by rw [c94]; decide) (by decide) (by rw [L]; decide)) (k2 14)
    rw [if_neg c94]
    by_cases c60 : c = 60
    · exact absurd (mt3 (p := 22) yb hc (by decide) (by rw [c60]; decide) (by decide) (by rw [L]; decide)) (k2 22)
    rw [if_neg c60]
  · obtain ⟨m1, m2, m3, m4⟩ := mt3e yb hc k1
    rw [L] at m1
    have t := tab1 ⟨q, by omega⟩ m2 m4 (by rw [m3]; omega)
    rw [m3] at t
    rw [t, k2]
theorem opv2 {o : Int32} (h : tr_RModel_operation g 2 o) (hc : (g 0).toInt = c) (hd : (g 1).toInt = d) (h32 : 32 < c) (d32 : 32 < d) : o.toInt = v2 c d := by
  have L : sb_42.length = 34 := by decide
  obtain ⟨y, yb, ⟨k1, k2⟩ | ⟨q, k1, -, k2⟩⟩ := rop_tr h
  · rw [k1]
    unfold v2
    by_cases c0 : c = 60 ∧ d = 60
    · exact absurd (mt4 (p := 16) yb hc hd (by decide) (by rw [c0.1]; decide) (by rw [c0.2]; decide) (by decide) (by rw [L]; decide)) (k2 16)
    rw [if_neg c0]
    by_cases c1 : c = 62 ∧ d = 62
    · exact absurd (mt4 (p := 19) yb hc hd (by decide) (by rw [c1.1]; decide) (by rw [c1.2]; decide) (by decide) (by rw [L]; decide)) (k2 19)
    rw [if_neg c1]
    by_cases c2 : c = 60 ∧ d = 61
    · exact absurd (mt4 (p := 24) yb hc hd (by decide) (by rw [c2.1]; decide) (by rw [c2.2]; decide) (by decide) (by rw [L]; decide)) (k2 24)
    rw [if_neg c2]
    by_cases c3 : c = 61 ∧ d = 61
    · exact absurd (mt4 (p := 27) yb hc hd (by decide) (by rw [c3.1]; decide) (by rw [c3.2]; decide) (by decide) (by rw [L]; decide)) (k2 27)
    rw [if_neg c3]
    by_cases c4 : c = 33 ∧ d = 61
    · exact absurd (mt4 (p := 30) yb hc hd (by decide) (by rw [c4.1]; decide) (by rw [c4.2]; decide) (by decide) (by rw [L]; decide)) (k2 30)
    rw [if_neg c4]
  · obtain ⟨m1, m2, m3, m4, m5⟩ := mt4e yb hc hd k1
    rw [L] at m1
    have t := tab2 ⟨q, by omega⟩ m2 m5 (by rw [m3]; omega) (by rw [m4]; omega)
    rw [m3, m4] at t
    rw [t, k2]
theorem ic_tl {a3 : Int32} {bs : List Int32} {c1 : Int32} {s1 : Int32} {k : Nat} {e1 : Int32} (h : tl_RStringLatin1_indexOfChar_7 a3 bs c1 s1 k e1) : ∀ i : Nat, s1.toInt = (i : Int) → (k = 31 ∧ ∀ j : Nat, i ≤ j → (j : Int) < a3.toInt → (bs.getD j 0).toInt ≠ c1.toInt) ∨ (k = 22 ∧ ∃ j : Nat, e1.toInt = (j : Int) ∧ (j : Int) < a3.toInt ∧ (bs.getD j 0).toInt = c1.toInt) := by
  refine h (fun s1 k e1 => ∀ i : Nat, s1.toInt = (i : Int) → (k = 31 ∧ ∀ j : Nat, i ≤ j → (j : Int) < a3.toInt → (bs.getD j 0).toInt ≠ c1.toInt) ∨ (k = 22 ∧ ∃ j : Nat, e1.toInt = (j : Int) ∧ (j : Int) < a3.toInt ∧ (bs.getD j 0).toInt = c1.toInt)) ?_ ?_ ?_
  · intro l5_1 h1 h2
    intro i hi
    exact Or.inl ⟨rfl, fun j a b => by omega⟩
  · intro l5_1 x1 x2 k e1 h1 h2 h3 h4 h5 ih
    revert ih
    intro ih i hi
    rw [nnE hi] at h3
    rcases ih (i + 1) (by omega) with ⟨q1, q2⟩ | q
    · refine Or.inl ⟨q1, fun j a b => ?_⟩
      by_cases e : j = i
      · rw [e, ← h3]; exact h4
      · exact q2 j (by omega) b
    · exact Or.inr q
  · intro l5_1 x1 h1 h2 h3 h4
    intro i hi
    rw [nnE hi] at h3
    exact Or.inr ⟨rfl, i, hi, by omega, by rw [← h3]; exact h4⟩
end RSZ
