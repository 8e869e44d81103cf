/-- the signs in a row: kind, value, place, place behind -/
def tk (B : Int → Int) (n : Int) : Nat → Int × Int × Int × Int
  | 0 => ((sgn B n (skp B n 0 0) false).1, (sgn B n (skp B n 0 0) false).2.1, skp B n 0 0, (sgn B n (skp B n 0 0) false).2.2)
  | i + 1 => ((sgn B n (skp B n (tk B n i).2.2.2 0) (decide ((tk B n i).1 = 2 ∨ (tk B n i).1 = 4))).1, (sgn B n (skp B n (tk B n i).2.2.2 0) (decide ((tk B n i).1 = 2 ∨ (tk B n i).1 = 4))).2.1, skp B n (tk B n i).2.2.2 0, (sgn B n (skp B n (tk B n i).2.2.2 0) (decide ((tk B n i).1 = 2 ∨ (tk B n i).1 = 4))).2.2)
/-- a program: how many blocks, lines of each, the lines (operation, set, left, its number, right, its number), the goals of each -/
abbrev gPg := Nat × (Nat → Nat) × (Nat → Nat → Nat → Int) × (Nat → Nat → Int)
def mkL (o s a an r rn : Int) : Nat → Int
  | 0 => o
  | 1 => s
  | 2 => a
  | 3 => an
  | 4 => r
  | _ => rn
def pgO : gPg := (0, fun _ => 0, fun _ _ _ => 0, fun _ _ => -1)
def pgB (P : gPg) : gPg := (P.1 + 1, fun b => if b = P.1 then 0 else P.2.1 b, P.2.2.1, fun b i => if b = P.1 then -1 else P.2.2.2 b i)
def pgL (P : gPg) (l : Nat → Int) : gPg := (P.1, fun b => if b + 1 = P.1 then P.2.1 b + 1 else P.2.1 b, fun b j => if b + 1 = P.1 ∧ j = P.2.1 b then l else P.2.2.1 b j, P.2.2.2)
def pgG (P : gPg) (g : Int) : gPg := (P.1, P.2.1, P.2.2.1, fun b i => if b + 1 = P.1 ∧ i = (if P.2.2.2 b 0 = -1 then 0 else 1) then g else P.2.2.2 b i)
/-- the machine over signs: what is due, the register that is set, the left operand (register, number), the operation, rows begun, a rule broken, the program -/
abbrev gMs := Int × Int × Int × Int × Int × Int × Bool × gPg
def mLine (k v op rw : Int) (bk : Bool) (P : gPg) : Option gMs :=
  if k = 2 then some (4, v, -1, 0, op, rw + 1, bk || decide (160 < rw + 1), P)
  else if k = 9 then some (8, -1, -1, 0, op, rw + 1, bk || decide (160 < rw + 1), P)
  else if k = 10 then some (9, -1, -1, 0, op, rw, bk, P)
  else if k = 12 then some (10, -1, -1, 0, op, rw, bk, P)
  else if k = 11 then some (12, -1, -1, 0, op, rw, bk, pgL P (mkL 19 (-1) (-1) 0 (-1) 0))
  else none
def rgV (k v : Int) : Int := if k = 2 then v else -1
def nmW (k v : Int) : Int := if k = 4 then v else 0
def mst (k v : Int) : gMs → Option gMs
  | (du, st, lf, ln, op, rw, bk, P) =>
    if du ≤ 1 then (if k = 3 then some (2, st, lf, ln, op, rw, bk || decide (v ≠ (P.1 : Int)), pgB P) else none)
    else if du = 2 then (if k = 6 then some (3, st, lf, ln, op, rw, bk, P) else none)
    else if du = 3 then mLine k v op rw bk P
    else if du = 4 then (if k = 7 then some (5, st, lf, ln, op, rw, bk, P) else none)
    else if du = 5 then (if k = 8 then some (3, st, lf, ln, op, rw, bk, pgL P (mkL 15 st lf ln (-1) 0)) else if k = 2 ∨ k = 4 then some (6, st, rgV k v, nmW k v, op, rw, bk, P) else none)
    else if du = 6 then (if k = 5 then some (7, st, lf, ln, v, rw, bk, P) else mLine k v op rw bk (pgL P (mkL 14 st lf ln (-1) 0)))
    else if du = 7 then (if k = 2 ∨ k = 4 then some (3, st, lf, ln, op, rw, bk, pgL P (mkL op st lf ln (rgV k v) (nmW k v))) else none)
    else if du = 8 then (if k = 2 ∨ k = 4 then some (3, st, rgV k v, nmW k v, op, rw, bk, pgL P (mkL 16 st (rgV k v) (nmW k v) (-1) 0)) else none)
    else if du = 9 then (if k = 2 ∨ k = 4 then some (11, st, rgV k v, nmW k v, op, rw, bk, pgL P (mkL 20 st (rgV k v) (nmW k v) (-1) 0)) else none)
    else if du = 10 then (if k = 2 ∨ k = 4 then some (1, st, rgV k v, nmW k v, op, rw, bk, pgL P (mkL 21 st (rgV k v) (nmW k v) (-1) 0)) else none)
    else if du = 11 then (if k = 3 then some (12, st, lf, ln, op, rw, bk, pgG P v) else none)
    else (if k = 3 then some (1, st, lf, ln, op, rw, bk, pgG P v) else none)
def mrn (B : Int → Int) (n : Int) : Nat → Option gMs
  | 0 => some (0, -1, -1, 0, 0, 0, false, pgO)
  | i + 1 => (mrn B n i).bind (mst (tk B n i).1 (tk B n i).2.1)
/-- lines in front of block b -/
def fsm (len : Nat → Nat) : Nat → Nat
  | 0 => 0
  | b + 1 => fsm len b + len b
theorem fsm_c {l m : Nat → Nat} : ∀ {b : Nat}, (∀ c, c < b → l c = m c) → fsm l b = fsm m b
  | 0, _ => rfl
  | b + 1, h => by
    show fsm l b + l b = fsm m b + m b
    rw [fsm_c (fun c hc => h c (by omega)), h b (by omega)]
theorem fsm_mo {l : Nat → Nat} {b : Nat} : ∀ {c : Nat}, b ≤ c → fsm l b ≤ fsm l c
  | 0, h => by rw [show b = 0 by omega]; exact Nat.le_refl _
  | c + 1, h => by
    by_cases e : b = c + 1
    · rw [e]; exact Nat.le_refl _
    · have h1 := fsm_mo (l := l) (show b ≤ c by omega)
      show fsm l b ≤ fsm l c + l c
      omega
theorem fsm_lt {l : Nat → Nat} {b c j : Nat} (h : b < c) (hj : j < l b) : fsm l b + j < fsm l c := by
  have h1 := fsm_mo (l := l) (show b + 1 ≤ c from h)
  have h2 : fsm l (b + 1) = fsm l b + l b := rfl
  omega
/-- the arrays of a program of the class hold P -/
def cdP (bl li : Int32) (fi fg sg op st lf ln rt rn : Nat → Int32) (P : gPg) : Prop :=
  bl.toInt = (P.1 : Int) ∧ li.toInt = (fsm P.2.1 P.1 : Int) ∧
  (∀ b : Nat, b < P.1 → (fi b).toInt = (fsm P.2.1 b : Int) ∧ (fg b).toInt = P.2.2.2 b 0 ∧ (sg b).toInt = P.2.2.2 b 1) ∧
  (∀ b j : Nat, b < P.1 → j < P.2.1 b → (op (fsm P.2.1 b + j)).toInt = P.2.2.1 b j 0 ∧ (st (fsm P.2.1 b + j)).toInt = P.2.2.1 b j 1 ∧ (lf (fsm P.2.1 b + j)).toInt = P.2.2.1 b j 2 ∧ (ln (fsm P.2.1 b + j)).toInt = P.2.2.1 b j 3 ∧ (rt (fsm P.2.1 b + j)).toInt = P.2.2.1 b j 4 ∧ (rn (fsm P.2.1 b + j)).toInt = P.2.2.1 b j 5)
theorem updE {f : Nat → Int32} {i : Nat} {v : Int32} : upd f i v i = v := by unfold upd; rw [if_pos rfl]
theorem updN {f : Nat → Int32} {i j : Nat} {v : Int32} (h : j ≠ i) : upd f i v j = f j := by unfold upd; rw [if_neg h]
theorem nnE {z : Int32} {m : Nat} (h : z.toInt = (m : Int)) : z.toNatClampNeg = m := by
  have := g_nn (z := z) (by omega)
  omega
section CDP
variable {bl li x : Int32} {fi fg sg op st lf ln rt rn fi2 fg2 sg2 op2 st2 lf2 ln2 rt2 rn2 : Nat → Int32} {P : gPg}
theorem cdP_O (h1 : bl.toInt = 0) (h2 : li.toInt = 0) : cdP bl li fi fg sg op st lf ln rt rn pgO := ⟨h1, h2, fun b h => absurd h (Nat.not_lt_zero b), fun b j h => absurd h (Nat.not_lt_zero b)⟩
theorem cdP_B (h : cdP bl li fi fg sg op st lf ln rt rn P) (hx : x.toInt = bl.toInt + 1) (h1 : fi2 = upd fi bl.toNatClampNeg li) (h2 : fg2 = upd fg bl.toNatClampNeg (-1)) (h3 : sg2 = upd sg bl.toNatClampNeg (-1)) : cdP x li fi2 fg2 sg2 op st lf ln rt rn (pgB P) := by
  obtain ⟨c1, c2, c3, c4⟩ := h
  have e := nnE c1
  have m1 : Int32.toInt (-1) = -1 := by decide
  have f1 : ∀ b, b ≤ P.1 → fsm (fun b => if b = P.1 then 0 else P.2.1 b) b = fsm P.2.1 b := fun b hb => fsm_c (fun c hc => if_neg (by omega))
  refine ⟨?_, ?_, fun b hb => ?_, fun b j hb hj => ?_⟩
  · show x.toInt = ((P.1 + 1 : Nat) : Int); omega
  · show li.toInt = ((fsm (fun b => if b = P.1 then 0 else P.2.1 b) P.1 + (if P.1 = P.1 then 0 else P.2.1 P.1) : Nat) : Int)
    rw [f1 P.1 (Nat.le_refl _), if_pos rfl]; exact c2
  · show (fi2 b).toInt = (fsm (fun b => if b = P.1 then 0 else P.2.1 b) b : Int) ∧ (fg2 b).toInt = (if b = P.1 then -1 else P.2.2.2 b 0) ∧ (sg2 b).toInt = (if b = P.1 then -1 else P.2.2.2 b 1)
    have hb2 : b < P.1 + 1 := hb
    rw [f1 b (by omega), h1, h2, h3, e]
    by_cases q : b = P.1
    · rw [q, updE, updE, updE, if_pos rfl, if_pos rfl, m1]; exact ⟨c2, rfl, rfl⟩
    · rw [updN q, updN q, updN q, if_neg q, if_neg q]; exact c3 b (by omega)
  · have hb2 : b < P.1 + 1 := hb
    have hj2 : j < (if b = P.1 then 0 else P.2.1 b) := hj
    by_cases q : b = P.1
    · rw [if_pos q] at hj2; exact absurd hj2 (Nat.not_lt_zero j)
    · rw [if_neg q] at hj2
      have r := c4 b j (by omega) hj2
      show (op (fsm (fun b => if b = P.1 then 0 else P.2.1 b) b + j)).toInt = P.2.2.1 b j 0 ∧ _
      rw [f1 b (by omega)]
      refine ⟨r.1, ?_⟩
      show (st (fsm (fun b => if b = P.1 then 0 else P.2.1 b) b + j)).toInt = P.2.2.1 b j 1 ∧ (lf (fsm (fun b => if b = P.1 then 0 else P.2.1 b) b + j)).toInt = P.2.2.1 b j 2 ∧ (ln (fsm (fun b => if b = P.1 then 0 else P.2.1 b) b + j)).toInt = P.2.2.1 b j 3 ∧ (rt (fsm (fun b => if b = P.1 then 0 else P.2.1 b) b + j)).toInt = P.2.2.1 b j 4 ∧ (rn (fsm (fun b => if b = P.1 then 0 else P.2.1 b) b + j)).toInt = P.2.2.1 b j 5
      rw [f1 b (by omega)]
      exact r.2
theorem pgL_f {l : Nat → Int} {b : Nat} (hb : b < P.1) : fsm (pgL P l).2.1 b = fsm P.2.1 b := fsm_c (fun c hc => if_neg (by omega))
theorem cdP_L {o s a an r rn1 : Int32} (h : cdP bl li fi fg sg op st lf ln rt rn P) (hP : 0 < P.1) (hx : x.toInt = li.toInt + 1) (h1 : op2 = upd op li.toNatClampNeg o) (h2 : st2 = upd st li.toNatClampNeg s) (h3 : lf2 = upd lf li.toNatClampNeg a) (h4 : ln2 = upd ln li.toNatClampNeg an) (h5 : rt2 = upd rt li.toNatClampNeg r) (h6 : rn2 = upd rn li.toNatClampNeg rn1) : cdP bl x fi fg sg op2 st2 lf2 ln2 rt2 rn2 (pgL P (mkL o.toInt s.toInt a.toInt an.toInt r.toInt rn1.toInt)) := by
  obtain ⟨c1, c2, c3, c4⟩ := h
  have e := nnE c2
  have ed : P.1 = (P.1 - 1) + 1 := by omega
  have l1 : fsm P.2.1 P.1 = fsm P.2.1 (P.1 - 1) + P.2.1 (P.1 - 1) := by rw [ed]; rfl
  refine ⟨c1, ?_, fun b hb => ?_, fun b j hb hj => ?_⟩
  · show x.toInt = (fsm (pgL P _).2.1 P.1 : Int)
    rw [ed]
    show x.toInt = ((fsm (pgL P _).2.1 (P.1 - 1) + (if P.1 - 1 + 1 = P.1 then P.2.1 (P.1 - 1) + 1 else P.2.1 (P.1 - 1)) : Nat) : Int)
    rw [pgL_f (by omega), if_pos ed.symm]; omega
  · have hb2 : b < P.1 := hb
    rw [pgL_f hb2]; exact c3 b hb2
  · have hb2 : b < P.1 := hb
    rw [pgL_f hb2]
    have hj2 : j < (if b + 1 = P.1 then P.2.1 b + 1 else P.2.1 b) := hj
    by_cases q : b + 1 = P.1 ∧ j = P.2.1 b
    · have eb : b = P.1 - 1 := by omega
      have ei : fsm P.2.1 b + j = fsm P.2.1 P.1 := by rw [q.2, l1, eb]
      have el : (pgL P (mkL o.toInt s.toInt a.toInt an.toInt r.toInt rn1.toInt)).2.2.1 b j = mkL o.toInt s.toInt a.toInt an.toInt r.toInt rn1.toInt := if_pos q
      rw [el, ei, h1, h2, h3, h4, h5, h6, e, updE, updE, updE, updE, updE, updE]
      exact ⟨rfl, rfl, rfl, rfl, rfl, rfl⟩
    · have hj3 : j < P.2.1 b := by
        by_cases q2 : b + 1 = P.1
        · rw [if_pos q2] at hj2; have : j ≠ P.2.1 b := fun z => q ⟨q2, z⟩; omega
        · rw [if_neg q2] at hj2; exact hj2
      have el : (pgL P (mkL o.toInt s.toInt a.toInt an.toInt r.toInt rn1.toInt)).2.2.1 b j = P.2.2.1 b j := if_neg q
      have ne : fsm P.2.1 b + j ≠ fsm P.2.1 P.1 := by have := fsm_lt (l := P.2.1) hb2 hj3; omega
      rw [el, h1, h2, h3, h4, h5, h6, e, updN ne, updN ne, updN ne, updN ne, updN ne, updN ne]
      exact c4 b j hb2 hj3
theorem cdP_G0 {g : Int32} {i : Nat} (h : cdP bl li fi fg sg op st lf ln rt rn P) (hi : i + 1 = P.1) (h0 : P.2.2.2 i 0 = -1) (h1 : fg2 = upd fg i g) : cdP bl li fi fg2 sg op st lf ln rt rn (pgG P g.toInt) := by
  obtain ⟨c1, c2, c3, c4⟩ := h
  refine ⟨c1, c2, fun b hb => ?_, c4⟩
  have hb2 : b < P.1 := hb
  obtain ⟨d1, d2, d3⟩ := c3 b hb2
  show (fi b).toInt = (fsm P.2.1 b : Int) ∧ (fg2 b).toInt = (if b + 1 = P.1 ∧ 0 = (if P.2.2.2 b 0 = -1 then 0 else 1) then g.toInt else P.2.2.2 b 0) ∧ (sg b).toInt = (if b + 1 = P.1 ∧ 1 = (if P.2.2.2 b 0 = -1 then 0 else 1) then g.toInt else P.2.2.2 b 1)
  by_cases q : b = i
  · rw [q, h0, if_pos rfl, if_pos ⟨hi, rfl⟩, if_neg (fun z => absurd z.2 (by decide)), h1, updE]
    rw [q] at d1 d3
    exact ⟨d1, rfl, d3⟩
  · rw [if_neg (fun z => q (by omega)), if_neg (fun z => q (by omega)), h1, updN q]
    exact ⟨d1, d2, d3⟩
theorem cdP_G1 {g : Int32} {i : Nat} (h : cdP bl li fi fg sg op st lf ln rt rn P) (hi : i + 1 = P.1) (h0 : P.2.2.2 i 0 ≠ -1) (h1 : sg2 = upd sg i g) : cdP bl li fi fg sg2 op st lf ln rt rn (pgG P g.toInt) := by
  obtain ⟨c1, c2, c3, c4⟩ := h
  refine ⟨c1, c2, fun b hb => ?_, c4⟩
  have hb2 : b < P.1 := hb
  obtain ⟨d1, d2, d3⟩ := c3 b hb2
  show (fi b).toInt = (fsm P.2.1 b : Int) ∧ (fg b).toInt = (if b + 1 = P.1 ∧ 0 = (if P.2.2.2 b 0 = -1 then 0 else 1) then g.toInt else P.2.2.2 b 0) ∧ (sg2 b).toInt = (if b + 1 = P.1 ∧ 1 = (if P.2.2.2 b 0 = -1 then 0 else 1) then g.toInt else P.2.2.2 b 1)
  by_cases q : b = i
  · rw [q, if_neg h0, if_neg (fun z => absurd z.2 (by decide)), if_pos ⟨hi, rfl⟩, h1, updE]
    rw [q] at d1 d2
    exact ⟨d1, d2, rfl⟩
  · rw [if_neg (fun z => q (by omega)), if_neg (fun z => q (by omega)), h1, updN q]
    exact ⟨d1, d2, d3⟩
end CDP
