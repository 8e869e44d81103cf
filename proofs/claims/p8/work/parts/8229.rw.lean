/-! a program of the reference without the numbers of its operands -/
def opdF (r : Int) (a rA : Int32) : Prop := (rA.toInt = 1 ∧ a.toInt = r ∧ 0 ≤ r) ∨ (rA.toInt = 0 ∧ r = -1)
def rwF (l : Nat → Int) (op t a b rA rB : Int32) : Prop := (l 0 ≤ 13 → op.toInt = l 0 + 1 ∧ t.toInt = l 1 ∧ opdF (l 2) a rA ∧ opdF (l 4) b rB) ∧ (l 0 = 14 → op.toInt = 0 ∧ t.toInt = l 1 ∧ opdF (l 2) a rA) ∧ (l 0 = 15 → op.toInt = 20 ∧ t.toInt = l 1) ∧ (l 0 = 16 → op.toInt = 22 ∧ opdF (l 2) a rA)
def edF (l : Nat → Int) (g : Nat → Int) (op a rA f s : Int32) : Prop := (l 0 = 19 → op.toInt = 30 ∧ f.toInt = g 0 ∧ s.toInt = g 0) ∧ (l 0 = 20 → op.toInt = 31 ∧ opdF (l 2) a rA ∧ f.toInt = g 0 ∧ s.toInt = g 1) ∧ (l 0 = 21 → op.toInt = 32 ∧ opdF (l 2) a rA)
theorem opdE_w {r nu : Int} {a rA : Int32} (h : opdE r nu a rA) : opdF r a rA := h.imp id (fun z => ⟨z.1, z.2.1⟩)
theorem rwE_w {l : Nat → Int} {op t a b rA rB : Int32} (h : rwE l op t a b rA rB) : rwF l op t a b rA rB := by
  obtain ⟨h1, h2, h3, h4⟩ := h
  exact ⟨fun z => ⟨(h1 z).1, (h1 z).2.1, opdE_w (h1 z).2.2.1, opdE_w (h1 z).2.2.2⟩, fun z => ⟨(h2 z).1, (h2 z).2.1, opdE_w (h2 z).2.2⟩, h3, fun z => ⟨(h4 z).1, opdE_w (h4 z).2⟩⟩
theorem edE_w {l g : Nat → Int} {op a rA f s : Int32} (h : edE l g op a rA f s) : edF l g op a rA f s := by
  obtain ⟨h1, h2, h3⟩ := h
  exact ⟨h1, fun z => ⟨(h2 z).1, opdE_w (h2 z).2.1, (h2 z).2.2⟩, fun z => ⟨(h3 z).1, opdE_w (h3 z).2⟩⟩
def rfRw (γ el : Nat → Nat → Nat) (F : Nat → va_E) (l : Nat) (L : Nat → Nat → Int) (m : Nat) : Prop := γ 2 l = m ∧ ∀ k, k < m → rwF (L k) (fI (F (el l k)) 0) (fI (F (el l k)) 1) (fI (F (el l k)) 2) (fI (F (el l k)) 3) (fI (F (el l k)) 5) (fI (F (el l k)) 6)
def rfBw (γ el : Nat → Nat → Nat) (F : Nat → va_E) (B n : Nat) (L : Nat → Nat → Int) (g : Nat → Int) : Prop := 0 < n ∧ rfRw γ el F (γ 14 B) L (n - 1) ∧ edF (L (n - 1)) g (fI (F (γ 15 B)) 0) (fI (F (γ 15 B)) 2) (fI (F (γ 15 B)) 5) (fI (F B) 2) (fI (F B) 3)
def rfW (γ el : Nat → Nat → Nat) (F : Nat → va_E) (c : Nat) (Q : gPg) : Prop := (fI (F c) 3).toInt = (Q.1 : Int) ∧ True ∧ ∀ b, b < Q.1 → rfBw γ el F (el (γ 14 c) b) (Q.2.1 b) (Q.2.2.1 b) (Q.2.2.2 b)
section RFW
variable {D : va_G} {I : FieldType → ClassId} {P : List Nat} {F F1 : Nat → va_E} {γ γ1 el el1 : Nat → Nat → Nat} {B n c m l : Nat} {L : Nat → Nat → Int} {g : Nat → Int} {Q : gPg}
theorem rfP_w (h : rfP γ el F c Q) : rfW γ el F c Q := ⟨h.1, trivial, fun b hb => ⟨(h.2.2 b hb).1, ⟨(h.2.2 b hb).2.1.1, fun k hk => rwE_w ((h.2.2 b hb).2.1.2 k hk)⟩, edE_w (h.2.2 b hb).2.2⟩⟩
theorem rfRw_c (hT : RS D I P F γ el) (hl : γ 0 l = 3) (h : rfRw γ el F l L m) (hF : ∀ x, γ 0 x = 1 ∨ γ 0 x = 2 → F1 x = F x) (e2 : γ1 2 l = γ 2 l ∧ el1 l = el l) : rfRw γ1 el1 F1 l L m := by
  have k3 := (show rk_3 D I γ el F l from RS_o hT hl).2
  obtain ⟨h1, h2⟩ := h
  refine ⟨e2.1.trans h1, fun k hk => ?_⟩
  rw [e2.2, hF _ (Or.inl (k3 k (by omega)).1)]
  exact h2 k hk
theorem rfBw_c (hT : RS D I P F γ el) (hB : γ 0 B = 2) (h : rfBw γ el F B n L g) (hF : ∀ x, γ 0 x = 1 ∨ γ 0 x = 2 → F1 x = F x) (e14 : γ1 14 B = γ 14 B) (e15 : γ1 15 B = γ 15 B) (e2 : γ1 2 (γ 14 B) = γ 2 (γ 14 B) ∧ el1 (γ 14 B) = el (γ 14 B)) : rfBw γ1 el1 F1 B n L g := by
  obtain ⟨l, nn, p, s, v1, ⟨g1, g2, g3⟩, v3, v4, v5, -⟩ := show rk_2 γ B (F B) from RS_o hT hB
  obtain ⟨h0, h1, h3⟩ := h
  refine ⟨h0, ?_, ?_⟩
  · rw [e14]
    exact rfRw_c hT (by rw [g1]; exact v3) h1 hF e2
  · rw [e15, hF _ (Or.inl (by rw [g2]; exact v5)), hF B (Or.inr hB)]
    exact h3
end RFW
