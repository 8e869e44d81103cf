/-! a program of the reference without the numbers of its operands -/
def rwF (l : Nat → Int) (op t a b rA rB s : Int32) : Prop := (l 0 ≤ 13 → op.toInt = l 0 + 1 ∧ t.toInt = l 1 ∧ opdE (l 2) (l 3) a rA ∧ opdE (l 4) (l 5) b rB) ∧ (l 0 = 14 → op.toInt = 0 ∧ t.toInt = l 1 ∧ opdE (l 2) (l 3) a rA) ∧ (l 0 = 15 → op.toInt = 20 ∧ t.toInt = l 1) ∧ (l 0 = 16 → op.toInt = 22 ∧ opdE (l 2) (l 3) a rA) ∧ (l 0 = 17 → op.toInt = 21 ∧ t.toInt = l 1 ∧ s.toInt = l 5) ∧ (l 0 = 18 → op.toInt = 23 ∧ opdE (l 2) (l 3) a rA ∧ s.toInt = l 5)
def rwO2 (l : Nat → Int) : Prop := (0 ≤ l 0 ∧ l 0 ≤ 18) ∧ (-1 ≤ l 2 ∧ l 2 ≤ 1999) ∧ (-1 ≤ l 4 ∧ l 4 ≤ 1999) ∧ (l 0 ≤ 15 ∨ l 0 = 17 → 0 ≤ l 1 ∧ l 1 ≤ 1999) ∧ (l 0 = 16 ∨ l 0 = 18 → l 1 = -1) ∧ (l 0 = 15 ∨ l 0 = 17 → l 2 = -1) ∧ (14 ≤ l 0 → l 4 = -1)
def edO2 (l : Nat → Int) : Prop := l 1 = -1 ∧ (-1 ≤ l 2 ∧ l 2 ≤ 1999) ∧ l 4 = -1 ∧ (l 0 = 19 → l 2 = -1)
def blC2 (n : Nat) (l : Nat → Nat → Int) (g : Nat → Int) : Prop := 0 < n ∧ (∀ j, j + 1 < n → rwO2 (l j)) ∧ edO2 (l (n - 1)) ∧ edG (l (n - 1) 0) (g 0) (g 1)
theorem rwO_2 {l : Nat → Int} (h : rwO l) : rwO2 l := by
  obtain ⟨o1, o2, o3, o4, o5, o6, o7⟩ := h
  exact ⟨by omega, by omega, by omega, fun z => by have := o4 (by omega); omega, fun z => o5 (by omega), fun z => o6 (by omega), o7⟩
theorem blC_2 {n : Nat} {l : Nat → Nat → Int} {g : Nat → Int} (h : blC n l g) : blC2 n l g := by
  obtain ⟨h0, h1, ⟨a1, a2, a3, a4⟩, h3⟩ := h
  exact ⟨h0, fun j hj => rwO_2 (h1 j hj), ⟨a1, by omega, a3, a4⟩, h3⟩
theorem rwE_w {l : Nat → Int} {op t a b rA rB s : Int32} (hO : rwO l) (h : rwE l op t a b rA rB) : rwF l op t a b rA rB s := by
  obtain ⟨h1, h2, h3, h4⟩ := h
  have o := hO.1
  exact ⟨h1, h2, h3, h4, fun z => by omega, fun z => by omega⟩
def rfRw (γ el : Nat → Nat → Nat) (F : Nat → va_E) (l : Nat) (L : Nat → Nat → Int) (m : Nat) : Prop := γ 2 l = m ∧ ∀ k, k < m → rwF (L k) (fI (F (el l k)) 0) (fI (F (el l k)) 1) (fI (F (el l k)) 2) (fI (F (el l k)) 3) (fI (F (el l k)) 5) (fI (F (el l k)) 6) (fI (F (el l k)) 4)
def rfBw (γ el : Nat → Nat → Nat) (F : Nat → va_E) (B n : Nat) (L : Nat → Nat → Int) (g : Nat → Int) : Prop := 0 < n ∧ rfRw γ el F (γ 14 B) L (n - 1) ∧ edE (L (n - 1)) g (fI (F (γ 15 B)) 0) (fI (F (γ 15 B)) 2) (fI (F (γ 15 B)) 5) (fI (F B) 2) (fI (F B) 3)
def rfW (γ el : Nat → Nat → Nat) (F : Nat → va_E) (c : Nat) (Q : gPg) : Prop := (fI (F c) 3).toInt = (Q.1 : Int) ∧ True ∧ ∀ b, b < Q.1 → rfBw γ el F (el (γ 14 c) b) (Q.2.1 b) (Q.2.2.1 b) (Q.2.2.2 b)
section RFW
variable {D : va_G} {I : FieldType → ClassId} {P : List Nat} {F F1 : Nat → va_E} {γ γ1 el el1 : Nat → Nat → Nat} {B n c m l : Nat} {L : Nat → Nat → Int} {g : Nat → Int} {Q : gPg}
theorem rfP_w (hb : ∀ b, b < Q.1 → blC (Q.2.1 b) (Q.2.2.1 b) (Q.2.2.2 b)) (h : rfP γ el F c Q) : rfW γ el F c Q := ⟨h.1, trivial, fun b hb1 => ⟨(h.2.2 b hb1).1, ⟨(h.2.2 b hb1).2.1.1, fun k hk => rwE_w ((hb b hb1).2.1 k (by have := (h.2.2 b hb1).1; omega)) ((h.2.2 b hb1).2.1.2 k hk)⟩, (h.2.2 b hb1).2.2⟩⟩
theorem rfRw_c (hT : RS D I P F γ el) (hl : γ 0 l = 3) (h : rfRw γ el F l L m) (hF : ∀ x, γ 0 x = 1 ∨ γ 0 x = 2 → F1 x = F x) (e2 : γ1 2 l = γ 2 l ∧ el1 l = el l) : rfRw γ1 el1 F1 l L m := by
  have k3 := (show rk_3 D I γ el F l from RS_o hT hl).2
  obtain ⟨h1, h2⟩ := h
  refine ⟨e2.1.trans h1, fun k hk => ?_⟩
  rw [e2.2, hF _ (Or.inl (k3 k (by omega)).1)]
  exact h2 k hk
theorem rfBw_c (hT : RS D I P F γ el) (hB : γ 0 B = 2) (h : rfBw γ el F B n L g) (hF : ∀ x, γ 0 x = 1 ∨ γ 0 x = 2 → F1 x = F x) (e14 : γ1 14 B = γ 14 B) (e15 : γ1 15 B = γ 15 B) (e2 : γ1 2 (γ 14 B) = γ 2 (γ 14 B) ∧ el1 (γ 14 B) = el (γ 14 B)) : rfBw γ1 el1 F1 B n L g := by
  obtain ⟨l, nn, p, s, v1, ⟨g1, g2, g3⟩, v3, v4, v5, -⟩ := show rk_2 γ B (F B) from RS_o hT hB
  obtain ⟨h0, h1, h3⟩ := h
  refine ⟨h0, ?_, ?_⟩
  · rw [e14]
    exact rfRw_c hT (by rw [g1]; exact v3) h1 hF e2
  · rw [e15, hF _ (Or.inl (by rw [g2]; exact v5)), hF B (Or.inr hB)]
    exact h3
end RFW
