/-! listings: letters, digits -/
section LSD
variable {f f1 f2 : Nat → Int32} {a b : List Int32} {k n : Nat}
/-- the letters a are written behind the first k -/
def apd (a : List Int32) (k : Nat) (f f1 : Nat → Int32) : Prop := (∀ i, i < k → f1 i = f i) ∧ ∀ i, i < a.length → f1 (k + i) = a.getD i 0
theorem lgt_l {i : Nat} (h : i < a.length) : (a ++ b).getD i 0 = a.getD i 0 := by
  rw [List.getD_eq_getElem?_getD, List.getD_eq_getElem?_getD, List.getElem?_append_left h]
theorem lgt_r {i : Nat} : (a ++ b).getD (a.length + i) 0 = b.getD i 0 := by
  rw [List.getD_eq_getElem?_getD, List.getD_eq_getElem?_getD, List.getElem?_append_right (Nat.le_add_right _ _), Nat.add_sub_cancel_left]
theorem apd_0 : apd [] k f f := ⟨fun _ _ => rfl, fun i hi => absurd hi (Nat.not_lt_zero i)⟩
theorem apd_t (h : apd a k f f1) (g : apd b (k + a.length) f1 f2) : apd (a ++ b) k f f2 := by
  refine ⟨fun i hi => (g.1 i (by omega)).trans (h.1 i hi), fun i hi => ?_⟩
  rw [List.length_append] at hi
  by_cases c : i < a.length
  · rw [lgt_l c, g.1 _ (by omega)]; exact h.2 i c
  · obtain ⟨m, rfl⟩ : ∃ m, i = a.length + m := ⟨i - a.length, by omega⟩
    rw [lgt_r, ← g.2 m (by omega), Nat.add_assoc]
/-- letters j, .. of bs -/
def sgm (bs : List Int32) : Nat → Nat → List Int32
  | _, 0 => []
  | j, m + 1 => bs.getD j 0 :: sgm bs (j + 1) m
theorem sgm_c {x : Int32} : ∀ m j, sgm (x :: a) (j + 1) m = sgm a j m
  | 0, _ => rfl
  | m + 1, j => by
    show (x :: a).getD (j + 1) 0 :: sgm (x :: a) (j + 1 + 1) m = a.getD j 0 :: sgm a (j + 1) m
    rw [sgm_c m (j + 1), List.getD_cons_succ]
theorem sgm_l : ∀ a : List Int32, sgm a 0 a.length = a
  | [] => rfl
  | x :: a => by
    show (x :: a).getD 0 0 :: sgm (x :: a) (0 + 1) a.length = x :: a
    rw [sgm_c, sgm_l a, List.getD_cons_zero]
/-- how many digits a number below 10000000000 has -/
def dgl (n : Nat) : Nat := if n < 10 then 1 else if n < 100 then 2 else if n < 1000 then 3 else if n < 10000 then 4 else if n < 100000 then 5 else if n < 1000000 then 6 else if n < 10000000 then 7 else if n < 100000000 then 8 else if n < 1000000000 then 9 else 10
theorem dgl_1 (h1 : n < 10) : dgl n = 1 := by
  unfold dgl
  rw [if_pos h1]
theorem dgl_2 (h0 : 10 ≤ n) (h1 : n < 100) : dgl n = 2 := by
  unfold dgl
  rw [if_neg (by omega), if_pos h1]
theorem dgl_3 (h0 : 100 ≤ n) (h1 : n < 1000) : dgl n = 3 := by
  unfold dgl
  rw [if_neg (by omega), if_neg (by omega), if_pos h1]
theorem dgl_4 (h0 : 1000 ≤ n) (h1 : n < 10000) : dgl n = 4 := by
  unfold dgl
  rw [if_neg (by omega), if_neg (by omega), if_neg (by omega), if_pos h1]
theorem dgl_5 (h0 : 10000 ≤ n) (h1 : n < 100000) : dgl n = 5 := by
  unfold dgl
  rw [if_neg (by omega), if_neg (by omega), if_neg (by omega), if_neg (by omega), if_pos h1]
theorem dgl_6 (h0 : 100000 ≤ n) (h1 : n < 1000000) : dgl n = 6 := by
  unfold dgl
  rw [if_neg (by omega), if_neg (by omega), if_neg (by omega), if_neg (by omega), if_neg (by omega), if_pos h1]
theorem dgl_7 (h0 : 1000000 ≤ n) (h1 : n < 10000000) : dgl n = 7 := by
  unfold dgl
  rw [if_neg (by omega), if_neg (by omega), if_neg (by omega), if_neg (by omega), if_neg (by omega), if_neg (by omega), if_pos h1]
theorem dgl_8 (h0 : 10000000 ≤ n) (h1 : n < 100000000) : dgl n = 8 := by
  unfold dgl
  rw [if_neg (by omega), if_neg (by omega), if_neg (by omega), if_neg (by omega), if_neg (by omega), if_neg (by omega), if_neg (by omega), if_pos h1]
theorem dgl_9 (h0 : 100000000 ≤ n) (h1 : n < 1000000000) : dgl n = 9 := by
  unfold dgl
  rw [if_neg (by omega), if_neg (by omega), if_neg (by omega), if_neg (by omega), if_neg (by omega), if_neg (by omega), if_neg (by omega), if_neg (by omega), if_pos h1]
theorem dgl_10 (h0 : 1000000000 ≤ n) : dgl n = 10 := by
  unfold dgl
  rw [if_neg (by omega), if_neg (by omega), if_neg (by omega), if_neg (by omega), if_neg (by omega), if_neg (by omega), if_neg (by omega), if_neg (by omega), if_neg (by omega)]
theorem dgl_c (n : Nat) : (n < 10 ∧ dgl n = 1) ∨ ((10 ≤ n ∧ n < 100) ∧ dgl n = 2) ∨ ((100 ≤ n ∧ n < 1000) ∧ dgl n = 3) ∨ ((1000 ≤ n ∧ n < 10000) ∧ dgl n = 4) ∨ ((10000 ≤ n ∧ n < 100000) ∧ dgl n = 5) ∨ ((100000 ≤ n ∧ n < 1000000) ∧ dgl n = 6) ∨ ((1000000 ≤ n ∧ n < 10000000) ∧ dgl n = 7) ∨ ((10000000 ≤ n ∧ n < 100000000) ∧ dgl n = 8) ∨ ((100000000 ≤ n ∧ n < 1000000000) ∧ dgl n = 9) ∨ (1000000000 ≤ n ∧ dgl n = 10) := by
  have h : n < 10 ∨ (10 ≤ n ∧ n < 100) ∨ (100 ≤ n ∧ n < 1000) ∨ (1000 ≤ n ∧ n < 10000) ∨ (10000 ≤ n ∧ n < 100000) ∨ (100000 ≤ n ∧ n < 1000000) ∨ (1000000 ≤ n ∧ n < 10000000) ∨ (10000000 ≤ n ∧ n < 100000000) ∨ (100000000 ≤ n ∧ n < 1000000000) ∨ 1000000000 ≤ n := by omega
  rcases h with h | h | h | h | h | h | h | h | h | h
  · exact Or.inl ⟨h, dgl_1 h⟩
  · exact Or.inr (Or.inl ⟨h, dgl_2 h.1 h.2⟩)
  · exact Or.inr (Or.inr (Or.inl ⟨h, dgl_3 h.1 h.2⟩))
  · exact Or.inr (Or.inr (Or.inr (Or.inl ⟨h, dgl_4 h.1 h.2⟩)))
  · exact Or.inr (Or.inr (Or.inr (Or.inr (Or.inl ⟨h, dgl_5 h.1 h.2⟩))))
  · exact Or.inr (Or.inr (Or.inr (Or.inr (Or.inr (Or.inl ⟨h, dgl_6 h.1 h.2⟩)))))
  · exact Or.inr (Or.inr (Or.inr (Or.inr (Or.inr (Or.inr (Or.inl ⟨h, dgl_7 h.1 h.2⟩))))))
  · exact Or.inr (Or.inr (Or.inr (Or.inr (Or.inr (Or.inr (Or.inr (Or.inl ⟨h, dgl_8 h.1 h.2⟩)))))))
  · exact Or.inr (Or.inr (Or.inr (Or.inr (Or.inr (Or.inr (Or.inr (Or.inr (Or.inl ⟨h, dgl_9 h.1 h.2⟩))))))))
  · exact Or.inr (Or.inr (Or.inr (Or.inr (Or.inr (Or.inr (Or.inr (Or.inr (Or.inr (⟨h, dgl_10 h⟩)))))))))
theorem dgl_b : 1 ≤ dgl n ∧ dgl n ≤ 10 := by
  rcases dgl_c n with ⟨-, h⟩ | ⟨-, h⟩ | ⟨-, h⟩ | ⟨-, h⟩ | ⟨-, h⟩ | ⟨-, h⟩ | ⟨-, h⟩ | ⟨-, h⟩ | ⟨-, h⟩ | ⟨-, h⟩ <;> omega
theorem dgl_h (h : 100 ≤ n) (h2 : n < 10000000000) : dgl n = dgl (n / 100) + 2 := by
  have c : n < 1000 ∨ (1000 ≤ n ∧ n < 10000) ∨ (10000 ≤ n ∧ n < 100000) ∨ (100000 ≤ n ∧ n < 1000000) ∨ (1000000 ≤ n ∧ n < 10000000) ∨ (10000000 ≤ n ∧ n < 100000000) ∨ (100000000 ≤ n ∧ n < 1000000000) ∨ 1000000000 ≤ n := by omega
  rcases c with c | c | c | c | c | c | c | c
  · rw [dgl_3 h c, dgl_1 (by omega)]
  · rw [dgl_4 c.1 c.2, dgl_2 (by omega) (by omega)]
  · rw [dgl_5 c.1 c.2, dgl_3 (by omega) (by omega)]
  · rw [dgl_6 c.1 c.2, dgl_4 (by omega) (by omega)]
  · rw [dgl_7 c.1 c.2, dgl_5 (by omega) (by omega)]
  · rw [dgl_8 c.1 c.2, dgl_6 (by omega) (by omega)]
  · rw [dgl_9 c.1 c.2, dgl_7 (by omega) (by omega)]
  · rw [dgl_10 c, dgl_8 (by omega) (by omega)]
theorem dgl_u {j : Nat} (hj : j ≤ 9) (h1 : j = 9 ∨ n / 10 < 10 ^ j) (h2 : ∀ i, i < j → 10 ^ i ≤ n / 10) : dgl n = j + 1 := by
  have c : j = 0 ∨ j = 1 ∨ j = 2 ∨ j = 3 ∨ j = 4 ∨ j = 5 ∨ j = 6 ∨ j = 7 ∨ j = 8 ∨ j = 9 := by omega
  rcases c with c | c | c | c | c | c | c | c | c | c
  · subst c
    have b := h1.resolve_left (by omega)
    rw [show (10 : Nat) ^ 0 = 1 from rfl] at b
    exact dgl_1 (by omega)
  · subst c
    have a := h2 0 (by omega)
    rw [show (10 : Nat) ^ 0 = 1 from rfl] at a
    have b := h1.resolve_left (by omega)
    rw [show (10 : Nat) ^ 1 = 10 from rfl] at b
    exact dgl_2 (by omega) (by omega)
  · subst c
    have a := h2 1 (by omega)
    rw [show (10 : Nat) ^ 1 = 10 from rfl] at a
    have b := h1.resolve_left (by omega)
    rw [show (10 : Nat) ^ 2 = 100 from rfl] at b
    exact dgl_3 (by omega) (by omega)
  · subst c
    have a := h2 2 (by omega)
    rw [show (10 : Nat) ^ 2 = 100 from rfl] at a
    have b := h1.resolve_left (by omega)
    rw [show (10 : Nat) ^ 3 = 1000 from rfl] at b
    exact dgl_4 (by omega) (by omega)
  · subst c
    have a := h2 3 (by omega)
    rw [show (10 : Nat) ^ 3 = 1000 from rfl] at a
    have b := h1.resolve_left (by omega)
    rw [show (10 : Nat) ^ 4 = 10000 from rfl] at b
    exact dgl_5 (by omega) (by omega)
  · subst c
    have a := h2 4 (by omega)
    rw [show (10 : Nat) ^ 4 = 10000 from rfl] at a
    have b := h1.resolve_left (by omega)
    rw [show (10 : Nat) ^ 5 = 100000 from rfl] at b
    exact dgl_6 (by omega) (by omega)
  · subst c
    have a := h2 5 (by omega)
    rw [show (10 : Nat) ^ 5 = 100000 from rfl] at a
    have b := h1.resolve_left (by omega)
    rw [show (10 : Nat) ^ 6 = 1000000 from rfl] at b
    exact dgl_7 (by omega) (by omega)
  · subst c
    have a := h2 6 (by omega)
    rw [show (10 : Nat) ^ 6 = 1000000 from rfl] at a
    have b := h1.resolve_left (by omega)
    rw [show (10 : Nat) ^ 7 = 10000000 from rfl] at b
    exact dgl_8 (by omega) (by omega)
  · subst c
    have a := h2 7 (by omega)
    rw [show (10 : Nat) ^ 7 = 10000000 from rfl] at a
    have b := h1.resolve_left (by omega)
    rw [show (10 : Nat) ^ 8 = 100000000 from rfl] at b
    exact dgl_9 (by omega) (by omega)
  · subst c
    have a := h2 8 (by omega)
    rw [show (10 : Nat) ^ 8 = 100000000 from rfl] at a
    exact dgl_10 (by omega)
/-- as it is found from below: 10 ^ i is the first above it -/
theorem dgl_s {i : Nat} (h1 : 1 ≤ i) (hi : i ≤ 10) (h2 : i = 10 ∨ n < 10 ^ i) (h3 : ∀ j, 1 ≤ j → j < i → 10 ^ j ≤ n) : dgl n = i := by
  have c : i = 1 ∨ i = 2 ∨ i = 3 ∨ i = 4 ∨ i = 5 ∨ i = 6 ∨ i = 7 ∨ i = 8 ∨ i = 9 ∨ i = 10 := by omega
  rcases c with c | c | c | c | c | c | c | c | c | c
  · subst c
    have b := h2.resolve_left (by omega)
    rw [show (10 : Nat) ^ 1 = 10 from rfl] at b
    exact dgl_1 b
  · subst c
    have a := h3 1 (by omega) (by omega)
    rw [show (10 : Nat) ^ 1 = 10 from rfl] at a
    have b := h2.resolve_left (by omega)
    rw [show (10 : Nat) ^ 2 = 100 from rfl] at b
    exact dgl_2 a b
  · subst c
    have a := h3 2 (by omega) (by omega)
    rw [show (10 : Nat) ^ 2 = 100 from rfl] at a
    have b := h2.resolve_left (by omega)
    rw [show (10 : Nat) ^ 3 = 1000 from rfl] at b
    exact dgl_3 a b
  · subst c
    have a := h3 3 (by omega) (by omega)
    rw [show (10 : Nat) ^ 3 = 1000 from rfl] at a
    have b := h2.resolve_left (by omega)
    rw [show (10 : Nat) ^ 4 = 10000 from rfl] at b
    exact dgl_4 a b
  · subst c
    have a := h3 4 (by omega) (by omega)
    rw [show (10 : Nat) ^ 4 = 10000 from rfl] at a
    have b := h2.resolve_left (by omega)
    rw [show (10 : Nat) ^ 5 = 100000 from rfl] at b
    exact dgl_5 a b
  · subst c
    have a := h3 5 (by omega) (by omega)
    rw [show (10 : Nat) ^ 5 = 100000 from rfl] at a
    have b := h2.resolve_left (by omega)
    rw [show (10 : Nat) ^ 6 = 1000000 from rfl] at b
    exact dgl_6 a b
  · subst c
    have a := h3 6 (by omega) (by omega)
    rw [show (10 : Nat) ^ 6 = 1000000 from rfl] at a
    have b := h2.resolve_left (by omega)
    rw [show (10 : Nat) ^ 7 = 10000000 from rfl] at b
    exact dgl_7 a b
  · subst c
    have a := h3 7 (by omega) (by omega)
    rw [show (10 : Nat) ^ 7 = 10000000 from rfl] at a
    have b := h2.resolve_left (by omega)
    rw [show (10 : Nat) ^ 8 = 100000000 from rfl] at b
    exact dgl_8 a b
  · subst c
    have a := h3 8 (by omega) (by omega)
    rw [show (10 : Nat) ^ 8 = 100000000 from rfl] at a
    have b := h2.resolve_left (by omega)
    rw [show (10 : Nat) ^ 9 = 1000000000 from rfl] at b
    exact dgl_9 a b
  · subst c
    have a := h3 9 (by omega) (by omega)
    rw [show (10 : Nat) ^ 9 = 1000000000 from rfl] at a
    exact dgl_10 a
/-- digit q from the right, from the left -/
def dch (n q : Nat) : Int32 := Int32.ofNat (48 + n / 10 ^ q % 10)
def dgD (n q : Nat) : Int32 := dch n (dgl n - 1 - q)
def dgq (n : Nat) : Nat → Nat → List Int32
  | _, 0 => []
  | q, m + 1 => dgD n q :: dgq n (q + 1) m
def dgN (n : Nat) : List Int32 := dgq n 0 (dgl n)
/-- a number's letters -/
def dgI (x : Int) : List Int32 := if x < 0 then 45 :: dgN x.natAbs else dgN x.natAbs
theorem dgq_l : ∀ m q, (dgq n q m).length = m
  | 0, _ => rfl
  | m + 1, q => by
    show (dgq n (q + 1) m).length + 1 = m + 1
    rw [dgq_l m]
theorem dgq_g : ∀ m q i, i < m → (dgq n q m).getD i 0 = dgD n (q + i)
  | 0, _, i, h => absurd h (Nat.not_lt_zero i)
  | m + 1, q, 0, _ => rfl
  | m + 1, q, i + 1, h => by
    show (dgD n q :: dgq n (q + 1) m).getD (i + 1) 0 = dgD n (q + (i + 1))
    rw [List.getD_cons_succ, dgq_g m (q + 1) i (by omega), Nat.add_assoc, Nat.add_comm 1 i]
theorem dgN_l : (dgN n).length = dgl n := dgq_l _ _
theorem dgI_l {x : Int} : (dgI x).length ≤ 11 := by
  have b := dgl_b (n := x.natAbs)
  unfold dgI
  split
  · show (dgN x.natAbs).length + 1 ≤ 11
    rw [dgN_l]; omega
  · rw [dgN_l]; omega
theorem dgI_p {x : Int} (h : 0 ≤ x) : dgI x = dgN x.natAbs := if_neg (by omega)
theorem dgI_n {x : Int} (h : x < 0) : dgI x = 45 :: dgN x.natAbs := if_pos h
theorem dgI_2 {x : Int} (h : 0 ≤ x) (h2 : x ≤ 99) : (dgI x).length ≤ 2 := by
  rw [dgI_p h, dgN_l]
  rcases dgl_c x.natAbs with ⟨c, e⟩ | ⟨c, e⟩ | ⟨c, e⟩ | ⟨c, e⟩ | ⟨c, e⟩ | ⟨c, e⟩ | ⟨c, e⟩ | ⟨c, e⟩ | ⟨c, e⟩ | ⟨c, e⟩ <;> omega
theorem dch_t {q : Nat} : (dch n q).toInt = ((48 + n / 10 ^ q % 10 : Nat) : Int) := by
  have h : n / 10 ^ q % 10 < 10 := Nat.mod_lt _ (by decide)
  exact Int32.toInt_ofNat_of_lt (by omega)
theorem dch_h {q : Nat} : dch (n / 100) q = dch n (q + 2) := by
  have e : (10 : Nat) ^ (q + 2) = 10 ^ q * 100 := Nat.pow_add 10 q 2
  unfold dch
  rw [Nat.div_div_eq_div_mul, e, Nat.mul_comm]
theorem dch_0 : dch n 0 = Int32.ofNat (48 + n % 10) := by unfold dch; rw [Nat.pow_zero, Nat.div_one]
theorem dch_1 : dch n 1 = Int32.ofNat (48 + n / 10 % 10) := by unfold dch; rw [Nat.pow_one]
/-- letters: those of an operand, of a sign, of a line -/
def zlO (x n : Int) : List Int32 := if 0 ≤ x then 118 :: dgI x else dgI n
def zlS (o : Int) : List Int32 :=
  if o = 0 then [43] else if o = 1 then [45] else if o = 2 then [42] else if o = 3 then [47] else if o = 4 then [37] else if o = 5 then [38] else if o = 6 then [124] else if o = 7 then [94] else if o = 8 then [60, 60] else if o = 9 then [62, 62] else if o = 10 then [60] else if o = 11 then [60, 61] else if o = 12 then [61, 61] else [33, 61]
def zlE (l : Nat → Int) : List Int32 := if l 0 = 15 then [105, 110] else if l 0 = 17 then [115, 108, 111, 116, 32] ++ dgI (l 5) else zlO (l 2) (l 3) ++ (if l 0 ≤ 13 then ([32] ++ zlS (l 0) ++ [32]) ++ zlO (l 4) (l 5) else [])
def zlR (l : Nat → Int) : List Int32 := if l 0 = 16 then [115, 104, 111, 119, 32] ++ zlO (l 2) (l 3) else if l 0 = 18 then ([115, 108, 111, 116, 32] ++ dgI (l 5)) ++ ([32, 61, 32, 118] ++ dgI (l 2)) else (([118] ++ dgI (l 1)) ++ [32, 61, 32]) ++ zlE l
def zlF (g l : Nat → Int) : List Int32 := if l 0 = 21 then [114, 101, 116, 32] ++ zlO (l 2) (l 3) else if l 0 = 19 then [106, 117, 109, 112, 32, 98] ++ dgI (g 0) else (([105, 102, 32] ++ zlO (l 2) (l 3)) ++ ([32, 98] ++ dgI (g 0))) ++ ([32, 98] ++ dgI (g 1))
def zlN (g l : Nat → Int) : List Int32 := (if l 0 ≤ 18 then zlR l else zlF g l) ++ [10]
def zlJ (Q : gPg) (c : Nat) : Nat → List Int32
  | 0 => []
  | j + 1 => zlJ Q c j ++ zlN (Q.2.2.2 c) (Q.2.2.1 c j)
def zlK (Q : gPg) (c : Nat) : Nat → Nat → List Int32
  | _, 0 => []
  | j, m + 1 => zlN (Q.2.2.2 c) (Q.2.2.1 c j) ++ zlK Q c (j + 1) m
theorem zlK_J {Q : gPg} {c : Nat} : ∀ m j, zlJ Q c j ++ zlK Q c j m = zlJ Q c (j + m)
  | 0, _ => List.append_nil _
  | m + 1, j => by
    have i := zlK_J (Q := Q) (c := c) m (j + 1)
    rw [show j + (m + 1) = j + 1 + m by omega, ← i]
    show zlJ Q c j ++ (zlN (Q.2.2.2 c) (Q.2.2.1 c j) ++ zlK Q c (j + 1) m) = (zlJ Q c j ++ zlN (Q.2.2.2 c) (Q.2.2.1 c j)) ++ zlK Q c (j + 1) m
    rw [List.append_assoc]
theorem zlK_0 {Q : gPg} {c m : Nat} : zlK Q c 0 m = zlJ Q c m := by
  have i := zlK_J (Q := Q) (c := c) m 0
  rw [Nat.zero_add] at i
  exact i
/-- a block's listing, a program's -/
def zlG (Q : gPg) (c : Nat) : List Int32 := (([98] ++ dgI (c : Int)) ++ [58, 10]) ++ zlJ Q c (Q.2.1 c)
def zlB (Q : gPg) : Nat → List Int32
  | 0 => []
  | c + 1 => zlB Q c ++ zlG Q c
def zlM (Q : gPg) : Nat → Nat → List Int32
  | _, 0 => []
  | c, m + 1 => zlG Q c ++ zlM Q (c + 1) m
theorem zlM_B {Q : gPg} : ∀ m c, zlB Q c ++ zlM Q c m = zlB Q (c + m)
  | 0, _ => List.append_nil _
  | m + 1, c => by
    have i := zlM_B (Q := Q) m (c + 1)
    rw [show c + (m + 1) = c + 1 + m by omega, ← i]
    show zlB Q c ++ (zlG Q c ++ zlM Q (c + 1) m) = (zlB Q c ++ zlG Q c) ++ zlM Q (c + 1) m
    rw [List.append_assoc]
theorem zlM_0 {Q : gPg} {m : Nat} : zlM Q 0 m = zlB Q m := by
  have i := zlM_B (Q := Q) m 0
  rw [Nat.zero_add] at i
  exact i
end LSD
