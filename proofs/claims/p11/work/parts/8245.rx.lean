/-! a program of the reference, row by row -/
section RFX
variable {D : va_G} {I : FieldType → ClassId} {P P1 : List Nat} {F F1 : Nat → va_E} {γ γ1 el el1 : Nat → Nat → Nat} {f c b j : Nat} {Q R : gPg} {l g : Nat → Int} {op a rA fi se : Int32} {K KF : List Nat}
def edR (l : Nat → Int) (op a rA : Int32) : Prop := (l 0 = 19 → op.toInt = 30) ∧ (l 0 = 20 → op.toInt = 31 ∧ opdE (l 2) (l 3) a rA) ∧ (l 0 = 21 → op.toInt = 32 ∧ opdE (l 2) (l 3) a rA)
def gLX (o : Int) (g : Nat → Int) (f s : Int32) : Prop := (o = 19 → f.toInt = g 0 ∧ s.toInt = g 0) ∧ (o = 20 → f.toInt = g 0 ∧ s.toInt = g 1)
theorem edE_i : edE l g op a rA fi se ↔ edR l op a rA ∧ gLX (l 0) g fi se := by
  constructor
  · rintro ⟨h1, h2, h3⟩
    exact ⟨⟨fun z => (h1 z).1, fun z => ⟨(h2 z).1, (h2 z).2.1⟩, h3⟩, fun z => (h1 z).2, fun z => (h2 z).2.2⟩
  · rintro ⟨⟨h1, h2, h3⟩, h4, h5⟩
    exact ⟨fun z => ⟨h1 z, h4 z⟩, fun z => ⟨(h2 z).1, (h2 z).2, h5 z⟩, h3⟩
/-- the cell e holds the line l: a row, or an end -/
def lnX (r : Bool) (l : Nat → Int) (e : va_E) : Prop := if r = true then rwF l (fI e 0) (fI e 1) (fI e 2) (fI e 3) (fI e 5) (fI e 6) (fI e 4) else edR l (fI e 0) (fI e 2) (fI e 5)
def rwB (Q : gPg) (i j : Nat) : Bool := decide (j + 1 < Q.2.1 i)
def lnQ (Q : gPg) (i j : Nat) (e : va_E) : Prop := lnX (rwB Q i j) (Q.2.2.1 i j) e
def rfX (γ el : Nat → Nat → Nat) (F : Nat → va_E) (c : Nat) (Q : gPg) : Prop := (fI (F c) 3).toInt = (Q.1 : Int) ∧ (∀ i, i < Q.1 → γ 2 (rwL γ el c i) + 1 = Q.2.1 i ∧ gLX (Q.2.2.1 i (Q.2.1 i - 1) 0) (Q.2.2.2 i) (fI (F (el (γ 14 c) i)) 2) (fI (F (el (γ 14 c) i)) 3)) ∧ rPl γ el F c Q.1 (lnQ Q)
theorem rfX_W : rfX γ el F c Q ↔ rfW γ el F c Q := by
  constructor
  · rintro ⟨h1, h2, h3⟩
    refine ⟨h1, trivial, fun i hi => ?_⟩
    obtain ⟨n1, n2⟩ := h2 i hi
    have n1' : γ 2 (γ 14 (el (γ 14 c) i)) + 1 = Q.2.1 i := n1
    refine ⟨by omega, ⟨by omega, fun k hk => ?_⟩, edE_i.mpr ⟨?_, n2⟩⟩
    · have q := h3 i hi k (by show k ≤ γ 2 (γ 14 (el (γ 14 c) i)); omega)
      have e : rAt γ el c i k = el (γ 14 (el (γ 14 c) i)) k := if_pos (show k < γ 2 (γ 14 (el (γ 14 c) i)) by omega)
      rw [e] at q
      unfold lnQ lnX rwB at q
      rw [if_pos (decide_eq_true (by omega))] at q
      exact q
    · have q := h3 i hi (Q.2.1 i - 1) (by show Q.2.1 i - 1 ≤ γ 2 (γ 14 (el (γ 14 c) i)); omega)
      have e : rAt γ el c i (Q.2.1 i - 1) = γ 15 (el (γ 14 c) i) := if_neg (show ¬ Q.2.1 i - 1 < γ 2 (γ 14 (el (γ 14 c) i)) by omega)
      rw [e] at q
      unfold lnQ lnX rwB at q
      rw [if_neg (by rw [decide_eq_true_iff]; omega)] at q
      exact q
  · rintro ⟨h1, -, h3⟩
    have hn : ∀ i, i < Q.1 → γ 2 (γ 14 (el (γ 14 c) i)) + 1 = Q.2.1 i := fun i hi => by
      obtain ⟨n0, ⟨n1, -⟩, -⟩ := h3 i hi
      omega
    refine ⟨h1, fun i hi => ⟨hn i hi, (edE_i.mp (h3 i hi).2.2).2⟩, fun i hi k hk => ?_⟩
    have hk' : k ≤ γ 2 (γ 14 (el (γ 14 c) i)) := hk
    have n := hn i hi
    obtain ⟨n0, ⟨n1, n2⟩, n3⟩ := h3 i hi
    unfold lnQ lnX rwB
    by_cases q : k + 1 < Q.2.1 i
    · have e : rAt γ el c i k = el (γ 14 (el (γ 14 c) i)) k := if_pos (show k < γ 2 (γ 14 (el (γ 14 c) i)) by omega)
      rw [e, if_pos (decide_eq_true q)]
      exact n2 k (by omega)
    · have e : rAt γ el c i k = γ 15 (el (γ 14 c) i) := if_neg (show ¬ k < γ 2 (γ 14 (el (γ 14 c) i)) by omega)
      rw [e, if_neg (by rw [decide_eq_true_iff]; exact q), show k = Q.2.1 i - 1 by omega]
      exact (edE_i.mp n3).1
/-- only what lies within its bounds counts -/
theorem rfX_c (h : rfX γ el F c Q) (h1 : R.1 = Q.1) (h2 : ∀ i, i < Q.1 → R.2.1 i = Q.2.1 i ∧ R.2.2.2 i = Q.2.2.2 i ∧ ∀ j, j < Q.2.1 i → R.2.2.1 i j = Q.2.2.1 i j) : rfX γ el F c R := by
  obtain ⟨a1, a2, a3⟩ := h
  refine ⟨by rw [h1]; exact a1, fun i hi => ?_, fun i hi k hk => ?_⟩
  · rw [h1] at hi
    obtain ⟨e1, e2, e3⟩ := h2 i hi
    have n := (a2 i hi).1
    rw [e1, e2, e3 _ (by omega)]
    exact a2 i hi
  · rw [h1] at hi
    obtain ⟨e1, e2, e3⟩ := h2 i hi
    have n := (a2 i hi).1
    have q := a3 i hi k hk
    unfold lnQ rwB at q ⊢
    rw [e1, e3 k (by omega)]
    exact q
/-- line j of block b another one of its kind -/
def pgSt (Q : gPg) (b j : Nat) (l : Nat → Int) : gPg := (Q.1, Q.2.1, fun d i => if d = b ∧ i = j then l else Q.2.2.1 d i, Q.2.2.2)
theorem rfX_put (hT : RS D I P F γ el) (hc : γ 0 c = 9) (hcf : γ 1 c = f) (h6 : γ 6 f = Q.1) (h : rfX γ el F c Q) (hB2 : ∀ i, i < Q.1 → γ 0 (el (γ 14 c) i) = 2) (hb : b < Q.1) (hj : j < Q.2.1 b) (n : ∀ x, x ≠ rAt γ el c b j → F1 x = F x) (hop : l 0 = Q.2.2.1 b j 0) (hl : lnX (rwB Q b j) l (F1 (rAt γ el c b j))) : rfX γ el F1 c (pgSt Q b j l) := by
  obtain ⟨a1, a2, a3⟩ := h
  have k1 := (rAt_k (j := j) hT hc hcf (show b < γ 6 f by omega)).1
  refine ⟨?_, fun i hi => ⟨(a2 i hi).1, ?_⟩, ?_⟩
  · rw [n c (fun e => by rw [← e, hc] at k1; cases k1)]; exact a1
  · rw [n (el (γ 14 c) i) (fun e => by rw [← e, hB2 i hi] at k1; cases k1)]
    show gLX ((if i = b ∧ Q.2.1 i - 1 = j then l else Q.2.2.1 i (Q.2.1 i - 1)) 0) _ _ _
    by_cases e : i = b ∧ Q.2.1 i - 1 = j
    · rw [if_pos e, hop]
      have q := (a2 i hi).2
      rw [e.2] at q
      rw [← e.1]; exact q
    · rw [if_neg e]; exact (a2 i hi).2
  · have m := (a2 b hb).1
    have a3' : rPl γ el F c (γ 6 f) (lnQ Q) := by rw [h6]; exact a3
    have r := rPl_put (R' := lnQ (pgSt Q b j l)) hT hc hcf a3' n rfl (by omega) (show j ≤ γ 2 (rwL γ el c b) by omega) (fun i k e ne he => by
      show lnX (rwB Q i k) (if i = b ∧ k = j then l else Q.2.2.1 i k) e
      rw [if_neg (fun z => ne.elim (fun y => y z.1) (fun y => y z.2))]
      exact he) (by
      show lnX (rwB Q b j) (if b = b ∧ j = j then l else Q.2.2.1 b j) _
      rw [if_pos ⟨rfl, rfl⟩]
      exact hl)
    rw [h6] at r
    exact r
/-- the shape of a row's cell, writing into it -/
def rwS (e : va_E) : Prop := ∃ op t a b s ra rb : Int32, e = .inr (20, [.int op, .int t, .int a, .int b, .int s, .int ra, .int rb])
theorem rwS_1 {x : Nat} {e : va_E} (h : rk_1 γ x e) : rwS e := by
  obtain ⟨op, t, a, b, s, ra, rb, he, -⟩ := h
  exact ⟨op, t, a, b, s, ra, rb, he⟩
theorem rwS_R {e : va_E} (h : rkR e) : rwS e := by
  obtain ⟨op, t, a, b, s, ra, rb, he, -⟩ := h
  exact ⟨op, t, a, b, s, ra, rb, he⟩
theorem cw_1 {e e1 : va_E} {y : Int32} (h : rwS e) (he : e1 = cF e 1 (.int y)) : rwS e1 ∧ fI e1 0 = fI e 0 ∧ fI e1 1 = y ∧ fI e1 2 = fI e 2 ∧ fI e1 3 = fI e 3 ∧ fI e1 4 = fI e 4 ∧ fI e1 5 = fI e 5 ∧ fI e1 6 = fI e 6 := by
  obtain ⟨op, t, a, b, s, ra, rb, h⟩ := h
  rw [he, h]
  exact ⟨⟨op, y, a, b, s, ra, rb, rfl⟩, rfl, rfl, rfl, rfl, rfl, rfl, rfl⟩
theorem cw_2 {e e1 : va_E} {y : Int32} (h : rwS e) (he : e1 = cF e 2 (.int y)) : rwS e1 ∧ fI e1 0 = fI e 0 ∧ fI e1 1 = fI e 1 ∧ fI e1 2 = y ∧ fI e1 3 = fI e 3 ∧ fI e1 4 = fI e 4 ∧ fI e1 5 = fI e 5 ∧ fI e1 6 = fI e 6 := by
  obtain ⟨op, t, a, b, s, ra, rb, h⟩ := h
  rw [he, h]
  exact ⟨⟨op, t, y, b, s, ra, rb, rfl⟩, rfl, rfl, rfl, rfl, rfl, rfl, rfl⟩
theorem cw_3 {e e1 : va_E} {y : Int32} (h : rwS e) (he : e1 = cF e 3 (.int y)) : rwS e1 ∧ fI e1 0 = fI e 0 ∧ fI e1 1 = fI e 1 ∧ fI e1 2 = fI e 2 ∧ fI e1 3 = y ∧ fI e1 4 = fI e 4 ∧ fI e1 5 = fI e 5 ∧ fI e1 6 = fI e 6 := by
  obtain ⟨op, t, a, b, s, ra, rb, h⟩ := h
  rw [he, h]
  exact ⟨⟨op, t, a, y, s, ra, rb, rfl⟩, rfl, rfl, rfl, rfl, rfl, rfl, rfl⟩
theorem cw_0 {e e1 : va_E} {y : Int32} (h : rwS e) (he : e1 = cF e 0 (.int y)) : rwS e1 ∧ fI e1 0 = y ∧ fI e1 1 = fI e 1 ∧ fI e1 2 = fI e 2 ∧ fI e1 3 = fI e 3 ∧ fI e1 4 = fI e 4 ∧ fI e1 5 = fI e 5 ∧ fI e1 6 = fI e 6 := by
  obtain ⟨op, t, a, b, s, ra, rb, h⟩ := h
  rw [he, h]
  exact ⟨⟨y, t, a, b, s, ra, rb, rfl⟩, rfl, rfl, rfl, rfl, rfl, rfl, rfl⟩
theorem cw_4 {e e1 : va_E} {y : Int32} (h : rwS e) (he : e1 = cF e 4 (.int y)) : rwS e1 ∧ fI e1 0 = fI e 0 ∧ fI e1 1 = fI e 1 ∧ fI e1 2 = fI e 2 ∧ fI e1 3 = fI e 3 ∧ fI e1 4 = y ∧ fI e1 5 = fI e 5 ∧ fI e1 6 = fI e 6 := by
  obtain ⟨op, t, a, b, s, ra, rb, h⟩ := h
  rw [he, h]
  exact ⟨⟨op, t, a, b, y, ra, rb, rfl⟩, rfl, rfl, rfl, rfl, rfl, rfl, rfl⟩
theorem cw_5 {e e1 : va_E} {y : Int32} (h : rwS e) (he : e1 = cF e 5 (.int y)) : rwS e1 ∧ fI e1 0 = fI e 0 ∧ fI e1 1 = fI e 1 ∧ fI e1 2 = fI e 2 ∧ fI e1 3 = fI e 3 ∧ fI e1 4 = fI e 4 ∧ fI e1 5 = y ∧ fI e1 6 = fI e 6 := by
  obtain ⟨op, t, a, b, s, ra, rb, h⟩ := h
  rw [he, h]
  exact ⟨⟨op, t, a, b, s, y, rb, rfl⟩, rfl, rfl, rfl, rfl, rfl, rfl, rfl⟩
/-- a name changed everywhere in a line -/
def lnO2 (r : Bool) (l : Nat → Int) : Prop := if r = true then rwO2 l else (edO2 l ∧ 19 ≤ l 0 ∧ l 0 ≤ 21)
def chA (e e1 : va_E) (w v : Int) : Prop := (((fI e 0).toInt ≠ 20 ∧ (fI e 0).toInt ≠ 21 ∧ (fI e 0).toInt ≠ 30 ∧ (fI e 5).toInt ≠ 0 ∧ (fI e 2).toInt = w) ∧ (fI e1 2).toInt = v) ∨ (((fI e 0).toInt = 20 ∨ (fI e 0).toInt = 21 ∨ (fI e 0).toInt = 30 ∨ (fI e 5).toInt = 0 ∨ (fI e 2).toInt ≠ w) ∧ fI e1 2 = fI e 2)
def chB (e e1 : va_E) (w v : Int) : Prop := ((0 < (fI e 0).toInt ∧ (fI e 0).toInt < 20 ∧ (fI e 6).toInt ≠ 0 ∧ (fI e 3).toInt = w) ∧ (fI e1 3).toInt = v) ∨ (((fI e 0).toInt ≤ 0 ∨ 20 ≤ (fI e 0).toInt ∨ (fI e 6).toInt = 0 ∨ (fI e 3).toInt ≠ w) ∧ fI e1 3 = fI e 3)
def chT (e e1 : va_E) (w v : Int) : Prop := (((fI e 0).toInt ≤ 21 ∧ (fI e 1).toInt = w) ∧ (fI e1 1).toInt = v) ∨ ((21 < (fI e 0).toInt ∨ (fI e 1).toInt ≠ w) ∧ fI e1 1 = fI e 1)
theorem rnV_c {w v x : Int} : (x = w ∧ rnV w v x = v) ∨ (x ≠ w ∧ rnV w v x = x) := by
  unfold rnV
  by_cases c : x = w
  · rw [if_pos c]; exact Or.inl ⟨c, rfl⟩
  · rw [if_neg c]; exact Or.inr ⟨c, rfl⟩
theorem rn_A {e e1 : va_E} {w v x y : Int} (hw : 0 ≤ w) (hv : 0 ≤ v) (o1 : (fI e 0).toInt ≠ 20) (o2 : (fI e 0).toInt ≠ 21) (o3 : (fI e 0).toInt ≠ 30) (h5 : fI e1 5 = fI e 5) (hA : chA e e1 w v) (h : opdE x y (fI e 2) (fI e 5)) : opdE (rnV w v x) y (fI e1 2) (fI e1 5) := by
  rw [h5]
  have r := rnV_c (w := w) (v := v) (x := x)
  rcases h with ⟨a1, a2, a3⟩ | ⟨a1, a2, a3⟩
  · refine Or.inl ⟨a1, ?_, by omega⟩
    rcases hA with ⟨⟨-, -, -, -, b5⟩, b6⟩ | ⟨b5, b6⟩
    · omega
    · rw [b6]; omega
  · refine Or.inr ⟨a1, by omega, ?_⟩
    rcases hA with ⟨⟨-, -, -, b4, b5⟩, b6⟩ | ⟨b5, b6⟩
    · omega
    · rw [b6]; exact a3
theorem rn_B {e e1 : va_E} {w v x y : Int} (hw : 0 ≤ w) (hv : 0 ≤ v) (o1 : 0 < (fI e 0).toInt) (o2 : (fI e 0).toInt < 20) (h6 : fI e1 6 = fI e 6) (hB : chB e e1 w v) (h : opdE x y (fI e 3) (fI e 6)) : opdE (rnV w v x) y (fI e1 3) (fI e1 6) := by
  rw [h6]
  have r := rnV_c (w := w) (v := v) (x := x)
  rcases h with ⟨a1, a2, a3⟩ | ⟨a1, a2, a3⟩
  · refine Or.inl ⟨a1, ?_, by omega⟩
    rcases hB with ⟨⟨-, -, -, b5⟩, b6⟩ | ⟨b5, b6⟩
    · omega
    · rw [b6]; omega
  · refine Or.inr ⟨a1, by omega, ?_⟩
    rcases hB with ⟨⟨-, -, b4, b5⟩, b6⟩ | ⟨b5, b6⟩
    · omega
    · rw [b6]; exact a3
theorem rn_T {e e1 : va_E} {w v x : Int} (o1 : (fI e 0).toInt ≤ 21) (hT : chT e e1 w v) (h : (fI e 1).toInt = x) : (fI e1 1).toInt = rnV w v x := by
  have r := rnV_c (w := w) (v := v) (x := x)
  rcases hT with ⟨⟨-, b5⟩, b6⟩ | ⟨b5, b6⟩
  · omega
  · rw [b6]; omega
theorem rn_ln {r : Bool} {e e1 : va_E} {w v : Int} (hw : 0 ≤ w) (hv : 0 ≤ v) (hO : lnO2 r l) (h : lnX r l e) (h0 : fI e1 0 = fI e 0) (h4 : fI e1 4 = fI e 4) (h5 : fI e1 5 = fI e 5) (h6 : fI e1 6 = fI e 6) (hA : chA e e1 w v) (hB : chB e e1 w v) (hT : chT e e1 w v) : lnX r (rnL w v l) e1 := by
  have q0 : rnL w v l 0 = l 0 := rfl
  have q1 : rnL w v l 1 = rnV w v (l 1) := rfl
  have q2 : rnL w v l 2 = rnV w v (l 2) := rfl
  have q3 : rnL w v l 3 = l 3 := rfl
  have q4 : rnL w v l 4 = rnV w v (l 4) := rfl
  have q5 : rnL w v l 5 = l 5 := rfl
  unfold lnX at h ⊢
  unfold lnO2 at hO
  cases r with
  | false =>
    rw [if_neg (by decide)] at h hO ⊢
    obtain ⟨e1', e2', e3'⟩ := h
    obtain ⟨-, o5, o6⟩ := hO
    unfold edR
    rw [q0, q2, q3, h0]
    refine ⟨e1', fun z => ⟨(e2' z).1, ?_⟩, fun z => ⟨(e3' z).1, ?_⟩⟩
    · have p := (e2' z).1
      exact rn_A hw hv (by omega) (by omega) (by omega) h5 hA (e2' z).2
    · have p := (e3' z).1
      exact rn_A hw hv (by omega) (by omega) (by omega) h5 hA (e3' z).2
  | true =>
    rw [if_pos rfl] at h hO ⊢
    obtain ⟨e1', e2', e3', e4', e5', e6'⟩ := h
    obtain ⟨o1, -⟩ := hO
    unfold rwF
    rw [q0, q1, q2, q3, q4, q5, h0, h4]
    refine ⟨fun z => ?_, fun z => ?_, fun z => ?_, fun z => ?_, fun z => ?_, fun z => ?_⟩
    · obtain ⟨p1, p2, p3, p4⟩ := e1' z
      exact ⟨p1, rn_T (by omega) hT p2, rn_A hw hv (by omega) (by omega) (by omega) h5 hA p3, rn_B hw hv (by omega) (by omega) h6 hB p4⟩
    · obtain ⟨p1, p2, p3⟩ := e2' z
      exact ⟨p1, rn_T (by omega) hT p2, rn_A hw hv (by omega) (by omega) (by omega) h5 hA p3⟩
    · obtain ⟨p1, p2⟩ := e3' z
      exact ⟨p1, rn_T (by omega) hT p2⟩
    · obtain ⟨p1, p2⟩ := e4' z
      exact ⟨p1, rn_A hw hv (by omega) (by omega) (by omega) h5 hA p2⟩
    · obtain ⟨p1, p2, p3⟩ := e5' z
      exact ⟨p1, rn_T (by omega) hT p2, p3⟩
    · obtain ⟨p1, p2, p3⟩ := e6' z
      exact ⟨p1, rn_A hw hv (by omega) (by omega) (by omega) h5 hA p2, p3⟩
/-- rows in front of line j of block b renamed -/
def pgRm (Q : gPg) (w v : Int) (b j : Nat) : gPg := (Q.1, Q.2.1, fun d i => if d < b ∨ (d = b ∧ i < j) then rnL w v (Q.2.2.1 d i) else Q.2.2.1 d i, Q.2.2.2)
theorem pgRm_l {w v : Int} : (pgRm Q w v b j).2.2.1 b j = Q.2.2.1 b j := if_neg (by omega)
theorem pgRm_s {w v : Int} : pgSt (pgRm Q w v b j) b j (rnL w v (Q.2.2.1 b j)) = pgRm Q w v b (j + 1) := by
  unfold pgSt pgRm
  congr 3
  funext d i
  show (if d = b ∧ i = j then rnL w v (Q.2.2.1 b j) else (if d < b ∨ (d = b ∧ i < j) then rnL w v (Q.2.2.1 d i) else Q.2.2.1 d i)) = if d < b ∨ (d = b ∧ i < j + 1) then rnL w v (Q.2.2.1 d i) else Q.2.2.1 d i
  by_cases e : d = b ∧ i = j
  · rw [if_pos e, if_pos (by omega), e.1, e.2]
  · rw [if_neg e]
    by_cases q : d < b ∨ (d = b ∧ i < j)
    · rw [if_pos q, if_pos (by omega)]
    · rw [if_neg q, if_neg (by omega)]
theorem qk_l (hO : qOk Q) (hb : b < Q.1) (hj : j < Q.2.1 b) : lnO2 (rwB Q b j) (Q.2.2.1 b j) := by
  obtain ⟨h0, h1, h2, h3⟩ := hO.2 b hb
  unfold lnO2 rwB
  by_cases e : j + 1 < Q.2.1 b
  · rw [if_pos (decide_eq_true e)]; exact h1 j e
  · rw [if_neg (by rw [decide_eq_true_iff]; exact e)]
    rw [show Q.2.1 b - 1 = j by omega] at h2 h3
    refine ⟨h2, ?_⟩
    rcases h3 with h3 | h3 | h3 <;> omega
end RFX
