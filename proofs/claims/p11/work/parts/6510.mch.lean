/-! a run, over programs -/
section MCH
variable {Q : gPg} {inp : Nat → Int32} {gn b j : Nat}
def rnO (l : Nat → Int) : Prop := (0 ≤ l 0 ∧ l 0 ≤ 18) ∧ (-1 ≤ l 2 ∧ l 2 ≤ 99) ∧ (-1 ≤ l 4 ∧ l 4 ≤ 99) ∧ (l 0 ≤ 15 ∨ l 0 = 17 → 0 ≤ l 1 ∧ l 1 ≤ 99) ∧ (l 0 = 17 ∨ l 0 = 18 → 0 ≤ l 5 ∧ l 5 ≤ 99)
def rnB (n : Nat) (l : Nat → Nat → Int) (g : Nat → Int) : Prop := 0 < n ∧ (∀ j, j + 1 < n → rnO (l j)) ∧ edO (l (n - 1)) ∧ edG (l (n - 1) 0) (g 0) (g 1)
/-- a program that can be run -/
def rnP (Q : gPg) : Prop := (0 < Q.1 ∧ Q.1 ≤ 40) ∧ glO Q ∧ (∀ b, b < Q.1 → rnB (Q.2.1 b) (Q.2.2.1 b) (Q.2.2.2 b)) ∧ fsm Q.2.1 Q.1 ≤ 920
theorem rn_row (hP : rnP Q) (hb : b < Q.1) (hj : j < Q.2.1 b) : (Q.2.2.1 b j 0 ≤ 18 ∧ j + 1 < Q.2.1 b ∧ rnO (Q.2.2.1 b j)) ∨ (19 ≤ Q.2.2.1 b j 0 ∧ j + 1 = Q.2.1 b ∧ edO (Q.2.2.1 b j) ∧ edG (Q.2.2.1 b j 0) (Q.2.2.2 b 0) (Q.2.2.2 b 1)) := by
  obtain ⟨h0, h1, h2, h3⟩ := hP.2.2.1 b hb
  by_cases c : j + 1 < Q.2.1 b
  · exact Or.inl ⟨(h1 j c).1.2, c, h1 j c⟩
  · have e : Q.2.1 b - 1 = j := by omega
    rw [e] at h2 h3
    refine Or.inr ⟨?_, by omega, h2, h3⟩
    unfold edG at h3
    omega
theorem rn_r (hP : rnP Q) (hb : b < Q.1) (hj : j < Q.2.1 b) (h : Q.2.2.1 b j 0 ≤ 18) : j + 1 < Q.2.1 b ∧ rnO (Q.2.2.1 b j) := by
  rcases rn_row hP hb hj with ⟨-, a, c⟩ | ⟨a, -⟩
  · exact ⟨a, c⟩
  · omega
theorem rn_e (hP : rnP Q) (hb : b < Q.1) (hj : j < Q.2.1 b) (h : 19 ≤ Q.2.2.1 b j 0) : edO (Q.2.2.1 b j) ∧ edG (Q.2.2.1 b j 0) (Q.2.2.2 b 0) (Q.2.2.2 b 1) := by
  rcases rn_row hP hb hj with ⟨a, -⟩ | ⟨-, -, a, c⟩
  · omega
  · exact ⟨a, c⟩
theorem rn_g {i : Nat} (hP : rnP Q) (hb : b < Q.1) (hi : i < 2) (h : 0 ≤ Q.2.2.2 b i) : ∃ g : Nat, Q.2.2.2 b i = (g : Int) ∧ g < Q.1 ∧ 0 < Q.2.1 g := by
  have q := (hP.2.1 b i hb hi (by omega)).2
  have e : Q.2.2.2 b i = (((Q.2.2.2 b i).toNat : Nat) : Int) := (Int.toNat_of_nonneg h).symm
  have l : (Q.2.2.2 b i).toNat < Q.1 := by omega
  exact ⟨_, e, l, (hP.2.2.1 _ l).1⟩
/-- block, line, registers, slots, what was shown, how many, how many were taken -/
abbrev gM9 := Nat × Nat × (Nat → Int32) × (Nat → Int32) × (Nat → Int32) × Nat × Nat
variable {s : gM9}
def mvl (rg : Nat → Int32) (x n : Int) : Int32 := if 0 ≤ x then rg x.toNat else Int32.ofInt n
def clc (o : Int) (a c : Int32) : Int32 :=
  if o = 0 then a + c else if o = 1 then a - c else if o = 2 then a * c else if o = 3 then a / c else if o = 4 then a - a / c * c
  else if o = 5 then a &&& c else if o = 6 then a ||| c else if o = 7 then a ^^^ c else if o = 8 then a <<< (c &&& 31) else if o = 9 then a >>> (c &&& 31)
  else if o = 10 then (if a.toInt < c.toInt then 1 else 0) else if o = 11 then (if a.toInt ≤ c.toInt then 1 else 0)
  else if o = 12 then (if a.toInt = c.toInt then 1 else 0) else (if a.toInt = c.toInt then 0 else 1)
def va9 (Q : gPg) (s : gM9) : Int32 := mvl s.2.2.1 (Q.2.2.1 s.1 s.2.1 2) (Q.2.2.1 s.1 s.2.1 3)
def vb9 (Q : gPg) (s : gM9) : Int32 := mvl s.2.2.1 (Q.2.2.1 s.1 s.2.1 4) (Q.2.2.1 s.1 s.2.1 5)
def rw9 (s : gM9) (t : Int) (v : Int32) : gM9 := (s.1, s.2.1 + 1, upd s.2.2.1 t.toNat v, s.2.2.2)
def go9 (s : gM9) (g : Int) : gM9 := (g.toNat, 0, s.2.2)
def tk9 (inp : Nat → Int32) (gn t : Nat) : Int32 := if t < gn then inp t else 0
def tn9 (gn t : Nat) : Nat := if t < gn then t + 1 else t
def st9 (Q : gPg) (inp : Nat → Int32) (gn : Nat) (s : gM9) : Option (Int × Int32) × gM9 :=
  if Q.2.2.1 s.1 s.2.1 0 = 14 then (none, rw9 s (Q.2.2.1 s.1 s.2.1 1) (va9 Q s))
  else if Q.2.2.1 s.1 s.2.1 0 = 15 then (none, (s.1, s.2.1 + 1, upd s.2.2.1 (Q.2.2.1 s.1 s.2.1 1).toNat (tk9 inp gn s.2.2.2.2.2.2), s.2.2.2.1, s.2.2.2.2.1, s.2.2.2.2.2.1, tn9 gn s.2.2.2.2.2.2))
  else if Q.2.2.1 s.1 s.2.1 0 = 16 then (if s.2.2.2.2.2.1 < 512 then (none, (s.1, s.2.1 + 1, s.2.2.1, s.2.2.2.1, upd s.2.2.2.2.1 s.2.2.2.2.2.1 (va9 Q s), s.2.2.2.2.2.1 + 1, s.2.2.2.2.2.2)) else (some (5, 0), s))
  else if Q.2.2.1 s.1 s.2.1 0 = 17 then (none, rw9 s (Q.2.2.1 s.1 s.2.1 1) (s.2.2.2.1 (Q.2.2.1 s.1 s.2.1 5).toNat))
  else if Q.2.2.1 s.1 s.2.1 0 = 18 then (none, (s.1, s.2.1 + 1, s.2.2.1, upd s.2.2.2.1 (Q.2.2.1 s.1 s.2.1 5).toNat (va9 Q s), s.2.2.2.2))
  else if Q.2.2.1 s.1 s.2.1 0 = 19 then (none, go9 s (Q.2.2.2 s.1 0))
  else if Q.2.2.1 s.1 s.2.1 0 = 20 then (none, go9 s (if (va9 Q s).toInt = 0 then Q.2.2.2 s.1 1 else Q.2.2.2 s.1 0))
  else if Q.2.2.1 s.1 s.2.1 0 = 21 then (some (0, va9 Q s), s)
  else if (Q.2.2.1 s.1 s.2.1 0 = 3 ∨ Q.2.2.1 s.1 s.2.1 0 = 4) ∧ (vb9 Q s).toInt = 0 then (some (1, 0), s)
  else (none, rw9 s (Q.2.2.1 s.1 s.2.1 1) (clc (Q.2.2.1 s.1 s.2.1 0) (va9 Q s) (vb9 Q s)))
theorem st9_14 (h : Q.2.2.1 s.1 s.2.1 0 = 14) : st9 Q inp gn s = (none, rw9 s (Q.2.2.1 s.1 s.2.1 1) (va9 Q s)) := by unfold st9; rw [if_pos h]
theorem st9_15 (h : Q.2.2.1 s.1 s.2.1 0 = 15) : st9 Q inp gn s = (none, (s.1, s.2.1 + 1, upd s.2.2.1 (Q.2.2.1 s.1 s.2.1 1).toNat (tk9 inp gn s.2.2.2.2.2.2), s.2.2.2.1, s.2.2.2.2.1, s.2.2.2.2.2.1, tn9 gn s.2.2.2.2.2.2)) := by unfold st9; rw [if_neg (by omega), if_pos h]
theorem st9_16 (h : Q.2.2.1 s.1 s.2.1 0 = 16) (h2 : s.2.2.2.2.2.1 < 512) : st9 Q inp gn s = (none, (s.1, s.2.1 + 1, s.2.2.1, s.2.2.2.1, upd s.2.2.2.2.1 s.2.2.2.2.2.1 (va9 Q s), s.2.2.2.2.2.1 + 1, s.2.2.2.2.2.2)) := by unfold st9; rw [if_neg (by omega), if_neg (by omega), if_pos h, if_pos h2]
theorem st9_16x (h : Q.2.2.1 s.1 s.2.1 0 = 16) (h2 : ¬ s.2.2.2.2.2.1 < 512) : st9 Q inp gn s = (some (5, 0), s) := by unfold st9; rw [if_neg (by omega), if_neg (by omega), if_pos h, if_neg h2]
theorem st9_17 (h : Q.2.2.1 s.1 s.2.1 0 = 17) : st9 Q inp gn s = (none, rw9 s (Q.2.2.1 s.1 s.2.1 1) (s.2.2.2.1 (Q.2.2.1 s.1 s.2.1 5).toNat)) := by unfold st9; rw [if_neg (by omega), if_neg (by omega), if_neg (by omega), if_pos h]
theorem st9_18 (h : Q.2.2.1 s.1 s.2.1 0 = 18) : st9 Q inp gn s = (none, (s.1, s.2.1 + 1, s.2.2.1, upd s.2.2.2.1 (Q.2.2.1 s.1 s.2.1 5).toNat (va9 Q s), s.2.2.2.2)) := by unfold st9; rw [if_neg (by omega), if_neg (by omega), if_neg (by omega), if_neg (by omega), if_pos h]
theorem st9_19 (h : Q.2.2.1 s.1 s.2.1 0 = 19) : st9 Q inp gn s = (none, go9 s (Q.2.2.2 s.1 0)) := by unfold st9; rw [if_neg (by omega), if_neg (by omega), if_neg (by omega), if_neg (by omega), if_neg (by omega), if_pos h]
theorem st9_20 (h : Q.2.2.1 s.1 s.2.1 0 = 20) : st9 Q inp gn s = (none, go9 s (if (va9 Q s).toInt = 0 then Q.2.2.2 s.1 1 else Q.2.2.2 s.1 0)) := by unfold st9; rw [if_neg (by omega), if_neg (by omega), if_neg (by omega), if_neg (by omega), if_neg (by omega), if_neg (by omega), if_pos h]
theorem st9_21 (h : Q.2.2.1 s.1 s.2.1 0 = 21) : st9 Q inp gn s = (some (0, va9 Q s), s) := by unfold st9; rw [if_neg (by omega), if_neg (by omega), if_neg (by omega), if_neg (by omega), if_neg (by omega), if_neg (by omega), if_neg (by omega), if_pos h]
theorem st9_z (h : Q.2.2.1 s.1 s.2.1 0 = 3 ∨ Q.2.2.1 s.1 s.2.1 0 = 4) (h2 : (vb9 Q s).toInt = 0) : st9 Q inp gn s = (some (1, 0), s) := by unfold st9; rw [if_neg (by omega), if_neg (by omega), if_neg (by omega), if_neg (by omega), if_neg (by omega), if_neg (by omega), if_neg (by omega), if_neg (by omega), if_pos ⟨h, h2⟩]
theorem st9_c (h : Q.2.2.1 s.1 s.2.1 0 ≤ 13) (h2 : ¬ ((Q.2.2.1 s.1 s.2.1 0 = 3 ∨ Q.2.2.1 s.1 s.2.1 0 = 4) ∧ (vb9 Q s).toInt = 0)) : st9 Q inp gn s = (none, rw9 s (Q.2.2.1 s.1 s.2.1 1) (clc (Q.2.2.1 s.1 s.2.1 0) (va9 Q s) (vb9 Q s))) := by unfold st9; rw [if_neg (by omega), if_neg (by omega), if_neg (by omega), if_neg (by omega), if_neg (by omega), if_neg (by omega), if_neg (by omega), if_neg (by omega), if_neg h2]
/-- a run: how it ends, the answer, the steps, the state -/
def rn9 (Q : gPg) (inp : Nat → Int32) (gn : Nat) : Nat → Nat → gM9 → Int × Int32 × Nat × gM9
  | 0, t, s => (4, 0, t, s)
  | f + 1, t, s => match st9 Q inp gn s with
    | (some e, s2) => (e.1, e.2, t + 1, s2)
    | (none, s2) => rn9 Q inp gn f (t + 1) s2
theorem rn9_0 {t : Nat} : rn9 Q inp gn 0 t s = (4, 0, t, s) := rfl
theorem rn9_s {f t : Nat} {e : Int × Int32} {s2 : gM9} (h : st9 Q inp gn s = (some e, s2)) : rn9 Q inp gn (f + 1) t s = (e.1, e.2, t + 1, s2) := by
  show (match st9 Q inp gn s with | (some e, s2) => (e.1, e.2, t + 1, s2) | (none, s2) => rn9 Q inp gn f (t + 1) s2) = _
  rw [h]
theorem rn9_n {f t : Nat} {s2 : gM9} (h : st9 Q inp gn s = (none, s2)) : rn9 Q inp gn (f + 1) t s = rn9 Q inp gn f (t + 1) s2 := by
  show (match st9 Q inp gn s with | (some e, s2) => (e.1, e.2, t + 1, s2) | (none, s2) => rn9 Q inp gn f (t + 1) s2) = _
  rw [h]
def in9 : gM9 := (0, 0, fun _ => 0, fun _ => 0, fun _ => 0, 0, 0)
/-- what was shown and taken -/
def ag8 (s : gM9) (sc tk : Int32) (sh : Nat → Int32) : Prop := sc.toInt = (s.2.2.2.2.2.1 : Int) ∧ tk.toInt = (s.2.2.2.2.2.2 : Int) ∧ ∀ i, i < s.2.2.2.2.2.1 → sh i = s.2.2.2.2.1 i
/-- the class's machine stands at s -/
def ag9 (Q : gPg) (s : gM9) (ln bl sc tk : Int32) (sh rg sl : Nat → Int32) : Prop :=
  s.1 < Q.1 ∧ s.2.1 < Q.2.1 s.1 ∧ ln.toInt = ((fsm Q.2.1 s.1 + s.2.1 : Nat) : Int) ∧ bl.toInt = (s.1 : Int) ∧ ag8 s sc tk sh ∧ s.2.2.2.2.2.1 ≤ 512 ∧ (∀ i, i < 100 → rg i = s.2.2.1 i) ∧ ∀ i, i < 100 → sl i = s.2.2.2.1 i
variable {ln bl sc tk ln2 bl2 sc2 tk2 v : Int32} {sh rg sl sh2 rg2 sl2 : Nat → Int32} {x n : Int}
theorem updW {f g : Nat → Int32} {k m : Nat} {v : Int32} (h : ∀ i, i < k → f i = g i) : ∀ i, i < k → upd f m v i = upd g m v i := fun i hi => by
  by_cases c : i = m
  · rw [c, updE, updE]
  · rw [updN c, updN c]; exact h i hi
theorem ag_rw (h : ag9 Q s ln bl sc tk sh rg sl) (hj : s.2.1 + 1 < Q.2.1 s.1) (hl : ln2.toInt = ln.toInt + 1) (hr : rg2 = upd rg x.toNat v) : ag9 Q (rw9 s x v) ln2 bl sc tk sh rg2 sl := by
  obtain ⟨h1, h2, h3, h4, h5, h6, h7, h8⟩ := h
  refine ⟨h1, hj, ?_, h4, h5, h6, fun i hi => ?_, h8⟩
  · show ln2.toInt = ((fsm Q.2.1 s.1 + (s.2.1 + 1) : Nat) : Int)
    omega
  · show rg2 i = upd s.2.2.1 x.toNat v i
    rw [hr]; exact updW h7 i hi
theorem ag_tk (h : ag9 Q s ln bl sc tk sh rg sl) (hj : s.2.1 + 1 < Q.2.1 s.1) (hl : ln2.toInt = ln.toInt + 1) (hr : rg2 = upd rg x.toNat (tk9 inp gn s.2.2.2.2.2.2)) (ht : tk2.toInt = (tn9 gn s.2.2.2.2.2.2 : Int)) :
    ag9 Q (s.1, s.2.1 + 1, upd s.2.2.1 x.toNat (tk9 inp gn s.2.2.2.2.2.2), s.2.2.2.1, s.2.2.2.2.1, s.2.2.2.2.2.1, tn9 gn s.2.2.2.2.2.2) ln2 bl sc tk2 sh rg2 sl := by
  obtain ⟨h1, h2, h3, h4, ⟨h5, -, h5'⟩, h6, h7, h8⟩ := h
  refine ⟨h1, hj, ?_, h4, ⟨h5, ht, h5'⟩, h6, fun i hi => ?_, h8⟩
  · show ln2.toInt = ((fsm Q.2.1 s.1 + (s.2.1 + 1) : Nat) : Int)
    omega
  · show rg2 i = upd s.2.2.1 x.toNat _ i
    rw [hr]; exact updW h7 i hi
theorem ag_sw (h : ag9 Q s ln bl sc tk sh rg sl) (hj : s.2.1 + 1 < Q.2.1 s.1) (hn : s.2.2.2.2.2.1 < 512) (hl : ln2.toInt = ln.toInt + 1) (hc : sc2.toInt = sc.toInt + 1) (hr : sh2 = upd sh sc.toNatClampNeg v) :
    ag9 Q (s.1, s.2.1 + 1, s.2.2.1, s.2.2.2.1, upd s.2.2.2.2.1 s.2.2.2.2.2.1 v, s.2.2.2.2.2.1 + 1, s.2.2.2.2.2.2) ln2 bl sc2 tk sh2 rg sl := by
  obtain ⟨h1, h2, h3, h4, ⟨h5, h5t, h5'⟩, h6, h7, h8⟩ := h
  refine ⟨h1, hj, ?_, h4, ⟨?_, h5t, fun i hi => ?_⟩, hn, h7, h8⟩
  · show ln2.toInt = ((fsm Q.2.1 s.1 + (s.2.1 + 1) : Nat) : Int)
    omega
  · show sc2.toInt = ((s.2.2.2.2.2.1 + 1 : Nat) : Int)
    omega
  · show sh2 i = upd s.2.2.2.2.1 s.2.2.2.2.2.1 v i
    have hi' : i < s.2.2.2.2.2.1 + 1 := hi
    rw [hr, nnE h5]
    by_cases c : i = s.2.2.2.2.2.1
    · rw [c, updE, updE]
    · rw [updN c, updN c]; exact h5' i (by omega)
theorem ag_st (h : ag9 Q s ln bl sc tk sh rg sl) (hj : s.2.1 + 1 < Q.2.1 s.1) (hl : ln2.toInt = ln.toInt + 1) (hr : sl2 = upd sl x.toNat v) : ag9 Q (s.1, s.2.1 + 1, s.2.2.1, upd s.2.2.2.1 x.toNat v, s.2.2.2.2) ln2 bl sc tk sh rg sl2 := by
  obtain ⟨h1, h2, h3, h4, h5, h6, h7, h8⟩ := h
  refine ⟨h1, hj, ?_, h4, h5, h6, h7, fun i hi => ?_⟩
  · show ln2.toInt = ((fsm Q.2.1 s.1 + (s.2.1 + 1) : Nat) : Int)
    omega
  · show sl2 i = upd s.2.2.2.1 x.toNat v i
    rw [hr]; exact updW h8 i hi
theorem ag_go {g : Nat} (h : ag9 Q s ln bl sc tk sh rg sl) (hg : x = (g : Int)) (hg1 : g < Q.1) (hg2 : 0 < Q.2.1 g) (hl : ln2.toInt = (fsm Q.2.1 g : Int)) (hb : bl2.toInt = (g : Int)) : ag9 Q (go9 s x) ln2 bl2 sc tk sh rg sl := by
  obtain ⟨h1, h2, h3, h4, h5, h6, h7, h8⟩ := h
  have e : x.toNat = g := by rw [hg]; rfl
  unfold go9
  rw [e]
  exact ⟨hg1, hg2, hl, hb, h5, h6, h7, h8⟩
/-- what a step of the class leaves -/
def sc9 (Q : gPg) (inp : Nat → Int32) (gn : Nat) (s : gM9) (o1 : Int32) (o2 : Nat → Int32) (o3 o4 o5 : Int32) (o6 o7 : Nat → Int32) (o8 o9 : Int32) : Prop :=
  (∃ s2, st9 Q inp gn s = (none, s2) ∧ ag9 Q s2 o1 o8 o4 o3 o6 o2 o7 ∧ o5.toInt = -2 ∧ o9 = 0) ∨
  (∃ e a s2, st9 Q inp gn s = (some (e, a), s2) ∧ o5.toInt = e ∧ 0 ≤ e ∧ o9 = a ∧ ag8 s2 o4 o3 o6)
/-- what a run of the class leaves -/
def en9 (r : Int × Int32 × Nat × gM9) (an sc st tk en : Int32) (sh : Nat → Int32) : Prop := ((en.toInt = r.1 ∧ 0 ≤ r.1) ∨ (en.toInt = -2 ∧ r.1 = 4)) ∧ an = r.2.1 ∧ st.toInt = (r.2.2.1 : Int) ∧ ag8 r.2.2.2 sc tk sh
end MCH
