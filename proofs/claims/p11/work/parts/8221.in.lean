/-! a new array of the model: input -/
section INW
variable {D : va_G} {I : FieldType → ClassId} {P P1 : List Nat} {F F1 : Nat → va_E} {γ el : Nat → Nat → Nat} {A k f r28 r35 : Nat} {K KF : List Nat}
theorem rSk_nw (hT : RS D I P F γ el) (ha : A ∉ P) (hs : rSub P P1) (haP : A ∈ P1) (n : ∀ b, b ≠ A → F1 b = F b) (hfit : rFit D I (gNw γ A k) el F1 A k) : rSk f K KF D I P F γ el P1 F1 (gNw γ A k) el := by
  have h0 : γ 0 A = 0 := RS_new hT ha
  have ne : ∀ b, γ 0 b ≠ 0 → b ≠ A := fun b h e => h (by rw [e]; exact h0)
  have ej : ∀ j, j ≠ 0 → ∀ b, gNw γ A k j b = γ j b := fun j h b => congrFun (gNw_j h) b
  exact ⟨RS_nw hT ha hs haP (fun b h => n b (ne b h)) hfit, hs, ⟨fun a h _ => gNw_ne (ne a h), fun a h => ⟨by rw [gNw_ne (ne a h)]; exact h, ej 1 (by decide) a, ej 14 (by decide) a, ej 15 (by decide) a, ej 8 (by decide) a, ej 20 (by decide) a, ej 22 (by decide) a⟩, fun a _ _ => ⟨ej 2 (by decide) a, ej 13 (by decide) a, ej 17 (by decide) a, rfl⟩, ⟨gNw_j (by decide), gNw_j (by decide), gNw_j (by decide), gNw_j (by decide), gNw_j (by decide)⟩, fun g _ => ⟨ej 6 (by decide) g, ej 7 (by decide) g, ej 16 (by decide) g, ej 18 (by decide) g, ej 19 (by decide) g, ej 23 (by decide) g⟩⟩, fun a h _ => n a (ne a h)⟩
theorem mdK_nw (h0 : γ 0 A = 0) (h : mdK γ r28 r35) : mdK (gNw γ A 98) A r35 := by
  have e : ∀ b k, k ≠ 0 → rKd γ b k → rKd (gNw γ A 98) b k := fun b k hk h => by
    have h' : γ 0 b = k := h
    have hb : b ≠ A := fun z => by rw [z, h0] at h'; omega
    exact (gNw_ne hb).trans h'
  have e9 : gNw γ A 98 9 = γ 9 := gNw_j (by decide)
  have e1 : ∀ b, gNw γ A 98 1 b = γ 1 b := fun b => congrFun (gNw_j (by decide)) b
  obtain ⟨h1, h2, h3, h4, h5, h6, h7, h8, h9, h10, h11, h12, h13, h14, h15, h16, h17, h18, h19, h20, h21, h22, h23, h24⟩ := h
  unfold mdK rF1
  rw [e9]
  exact ⟨if_pos ⟨rfl, rfl⟩, e _ _ (by decide) h2, e _ _ (by decide) h3, e _ _ (by decide) h4, e _ _ (by decide) h5, e _ _ (by decide) h6, e _ _ (by decide) h7, e _ _ (by decide) h8, e _ _ (by decide) h9, e _ _ (by decide) h10, e _ _ (by decide) h11, e _ _ (by decide) h12, e _ _ (by decide) h13, e _ _ (by decide) h14, e _ _ (by decide) h15, e _ _ (by decide) h16, e _ _ (by decide) h17, e _ _ (by decide) h18, e _ _ (by decide) h19, e _ _ (by decide) h20, e _ _ (by decide) h21, (e1 _).trans h22, (e1 _).trans h23, (e1 _).trans h24⟩
end INW
def inP (D : va_G) (I : FieldType → ClassId) (P : List Nat) (F : Nat → va_E) (γ el : Nat → Nat → Nat) (m : Nat) : Option Value → va_W → Nat → Nat → Prop := fun r w dc ds => ∃ (P1 : List Nat) (F1 : Nat → va_E) (γ1 : Nat → Nat → Nat) (x : Int32),
  r = some (.int x) ∧ w = va_pl P1 F1 ∧ rSk 0 [] [10, 98] D I P F γ el P1 F1 γ1 el ∧ (∀ j, j ≠ 0 → γ1 j = γ j) ∧ fI (F1 m) 9 = fI (F m) 9 ∧ fI (F1 m) 10 = fI (F m) 10 ∧ (fI (F1 m) 32).toInt = 0 ∧ dc ≤ 1 ∧ 4 * (ds : Int) ≤ (fI (F m) 32).toInt ∧ fR (F1 m) 35 = fR (F m) 35 ∧ x.toInt = (fI (F m) 32).toInt / 4 ∧ (mO (F1 m)).2 = (mO (F m)).2 ∧ fI (F1 m) 34 = fI (F m) 34 ∧ ∃ ft, F (γ 9 31) = .inl (I .byte, 8192, .inl ft) ∧ ∃ p, F1 (fR (F1 m) 28) = .inl (I .int, ((fI (F m) 32).toInt / 4).toNat, .inl p) ∧ ∀ q, q < ((fI (F m) 32).toInt / 4).toNat → p q = i4 ft q 4
