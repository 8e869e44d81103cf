/-! merging: what it keeps of a program's form -/
section RFZ
variable {Q : gPg} {b k j : Nat} {w v : Int} {l : Nat → Int} {op t a bb rA rB s : Int32}
theorem qOk_dr (h : qOk Q) (hb : b < Q.1) (hk : k + 1 < Q.2.1 b) : qOk (pgDr Q b k) := by
  refine ⟨h.1, fun c hc => ?_⟩
  obtain ⟨h0, h1, h2, h3⟩ := h.2 c hc
  show blC2 (if c = b then Q.2.1 c - 1 else Q.2.1 c) (fun i => Q.2.2.1 c (if c = b ∧ k ≤ i then i + 1 else i)) (Q.2.2.2 c)
  by_cases e : c = b
  · subst e
    rw [if_pos rfl]
    have el : (if c = c ∧ k ≤ Q.2.1 c - 1 - 1 then Q.2.1 c - 1 - 1 + 1 else Q.2.1 c - 1 - 1) = Q.2.1 c - 1 := by rw [if_pos ⟨rfl, by omega⟩]; omega
    refine ⟨by omega, fun j hj => h1 _ ?_, ?_, ?_⟩
    · split <;> omega
    · show edO2 (Q.2.2.1 c (if c = c ∧ k ≤ Q.2.1 c - 1 - 1 then Q.2.1 c - 1 - 1 + 1 else Q.2.1 c - 1 - 1))
      rw [el]; exact h2
    · show edG (Q.2.2.1 c (if c = c ∧ k ≤ Q.2.1 c - 1 - 1 then Q.2.1 c - 1 - 1 + 1 else Q.2.1 c - 1 - 1) 0) _ _
      rw [el]; exact h3
  · rw [if_neg e]
    have el : ∀ i, (if c = b ∧ k ≤ i then i + 1 else i) = i := fun i => if_neg (fun z => e z.1)
    refine ⟨h0, fun j hj => ?_, ?_, ?_⟩
    · show rwO2 (Q.2.2.1 c (if c = b ∧ k ≤ j then j + 1 else j))
      rw [el]; exact h1 j hj
    · show edO2 (Q.2.2.1 c (if c = b ∧ k ≤ Q.2.1 c - 1 then Q.2.1 c - 1 + 1 else Q.2.1 c - 1))
      rw [el]; exact h2
    · show edG (Q.2.2.1 c (if c = b ∧ k ≤ Q.2.1 c - 1 then Q.2.1 c - 1 + 1 else Q.2.1 c - 1) 0) _ _
      rw [el]; exact h3
theorem rnV_b {x : Int} (hw : 0 ≤ w) (hv : 0 ≤ v) (hv2 : v ≤ 1999) : (x = -1 → rnV w v x = -1) ∧ (0 ≤ x → 0 ≤ rnV w v x) ∧ (x ≤ 1999 → rnV w v x ≤ 1999) ∧ (-1 ≤ x → -1 ≤ rnV w v x) := by
  unfold rnV
  by_cases c : x = w
  · rw [if_pos c]; exact ⟨fun z => by omega, fun _ => hv, fun _ => hv2, fun _ => by omega⟩
  · rw [if_neg c]; exact ⟨id, id, id, id⟩
theorem rwO2_rn (hw : 0 ≤ w) (hv : 0 ≤ v) (hv2 : v ≤ 1999) (h : rwO2 l) : rwO2 (rnL w v l) := by
  obtain ⟨o1, o2, o3, o4, o5, o6, o7⟩ := h
  have q1 := rnV_b (x := l 1) hw hv hv2
  have q2 := rnV_b (x := l 2) hw hv hv2
  have q4 := rnV_b (x := l 4) hw hv hv2
  refine ⟨o1, ⟨q2.2.2.2 o2.1, q2.2.2.1 o2.2⟩, ⟨q4.2.2.2 o3.1, q4.2.2.1 o3.2⟩, fun z => ⟨q1.2.1 (o4 z).1, q1.2.2.1 (o4 z).2⟩, fun z => q1.1 (o5 z), fun z => q2.1 (o6 z), fun z => q4.1 (o7 z)⟩
theorem edO2_rn (hw : 0 ≤ w) (hv : 0 ≤ v) (hv2 : v ≤ 1999) (h : edO2 l) : edO2 (rnL w v l) := by
  obtain ⟨o1, o2, o3, o4⟩ := h
  have q1 := rnV_b (x := l 1) hw hv hv2
  have q2 := rnV_b (x := l 2) hw hv hv2
  have q4 := rnV_b (x := l 4) hw hv hv2
  exact ⟨q1.1 o1, ⟨q2.2.2.2 o2.1, q2.2.2.1 o2.2⟩, q4.1 o3, fun z => q2.1 (o4 z)⟩
theorem qOk_rn (hw : 0 ≤ w) (hv : 0 ≤ v) (hv2 : v ≤ 1999) (h : qOk Q) : qOk (pgRn Q w v) := by
  refine ⟨h.1, fun c hc => ?_⟩
  obtain ⟨h0, h1, h2, h3⟩ := h.2 c hc
  exact ⟨h0, fun j hj => rwO2_rn hw hv hv2 (h1 j hj), edO2_rn hw hv hv2 h2, h3⟩
theorem mg_lt (hO : qOk Q) {k : Int} (h : mgb Q k b j) : j + 1 < Q.2.1 b := by
  obtain ⟨hb, hj, h0, -⟩ := h
  obtain ⟨-, -, -, h3⟩ := hO.2 b hb
  refine Classical.byContradiction fun n => ?_
  rw [show Q.2.1 b - 1 = j by omega] at h3
  rcases h3 with h3 | h3 | h3 <;> omega
theorem mg_b (hO : qOk Q) {k : Int} (h : mgb Q k b j) : 0 ≤ Q.2.2.1 b j 1 ∧ Q.2.2.1 b j 1 ≤ 1999 ∧ 0 ≤ Q.2.2.1 b j 2 ∧ Q.2.2.1 b j 2 ≤ 1999 := by
  have hl := mg_lt hO h
  obtain ⟨hb, hj, h0, h1, h2, -⟩ := h
  obtain ⟨-, g1, -, -⟩ := hO.2 b hb
  obtain ⟨o1, o2, o3, o4, -⟩ := g1 j hl
  have := o4 (Or.inl (by omega))
  omega
theorem qOk_mg (hO : qOk Q) {k : Int} (h : mgb Q k b j) : qOk (mg1 Q b j) := by
  have q := mg_b hO h
  exact qOk_rn (by omega) (by omega) (by omega) (qOk_dr hO h.1 (mg_lt hO h))
theorem rn_id : rnL w w l = l := by
  funext f
  unfold rnL rnV
  split
  · split
    · next h => exact h.symm
    · rfl
  · rfl
theorem mg_row (hO : rwO2 l) (h : rwF l op t a bb rA rB s) (hb : rA.toInt = 0 ∨ rA.toInt = 1) : (op.toInt = 0 ↔ l 0 = 14) ∧ (l 0 = 14 → t.toInt = l 1 ∧ ((rA.toInt = 0 ∧ l 2 = -1) ∨ (rA.toInt ≠ 0 ∧ a.toInt = l 2 ∧ 0 ≤ l 2))) := by
  obtain ⟨e1, e2, e3, e4, e5, e6⟩ := h
  obtain ⟨o1, o2, o3, o4, o5, o6, o7⟩ := hO
  unfold opdE at e1 e2 e4 e6
  have hx : l 0 ≤ 13 ∨ l 0 = 14 ∨ l 0 = 15 ∨ l 0 = 16 ∨ l 0 = 17 ∨ l 0 = 18 := by omega
  rcases hx with hx | hx | hx | hx | hx | hx
  · have p := (e1 hx).1
    exact ⟨by omega, fun z => by omega⟩
  · obtain ⟨p1, p2, p3⟩ := e2 hx
    exact ⟨by omega, fun _ => ⟨p2, by omega⟩⟩
  · have p := (e3 hx).1
    exact ⟨by omega, fun z => by omega⟩
  · have p := (e4 hx).1
    exact ⟨by omega, fun z => by omega⟩
  · have p := (e5 hx).1
    exact ⟨by omega, fun z => by omega⟩
  · have p := (e6 hx).1
    exact ⟨by omega, fun z => by omega⟩
end RFZ
