/-! cells that no row of references holds -/
def rNg (e : va_E) : Prop := (∃ ci fs, e = .inr (ci, fs) ∧ ci ≠ 17 ∧ ci ≠ 20) ∨ ∃ a, e = .inl a
theorem rNg_o {e : va_E} {ci : Nat} {fs : List Value} (h : e = .inr (ci, fs)) (h1 : ci ≠ 17) (h2 : ci ≠ 20) : rNg e := Or.inl ⟨ci, fs, h, h1, h2⟩
theorem rNg_a {e : va_E} {a : ClassId × vp_A} (h : e = .inl a) : rNg e := Or.inr ⟨a, h⟩
theorem rNg_n {F : Nat → va_E} : ∀ b, b ∈ ([] : List Nat) → rNg (F b) := fun _ h => nomatch h
theorem rNg_c {F : Nat → va_E} {a : Nat} {W : List Nat} (h : rNg (F a)) (g : ∀ b, b ∈ W → rNg (F b)) : ∀ b, b ∈ a :: W → rNg (F b) := fun b hb => by
  rcases List.mem_cons.mp hb with rfl | hb
  · exact h
  · exact g b hb
theorem rEl_frG {P P1 W : List Nat} {F F1 : Nat → va_E} {f : Nat → Option Nat} (h : rEl P F f) (hs : rSub P P1) (hf : rFr W P F F1) (hw : ∀ b, b ∈ W → rNg (F b)) : rEl P1 F1 f := fun j w hj => by
  obtain ⟨h1, h2⟩ := h j w hj
  have hn : w ∉ W := fun z => by
    rcases hw w z with ⟨ci, fs, e, n1, n2⟩ | ⟨a, e⟩
    · rcases h2 with ⟨gs, e2⟩ | ⟨gs, e2⟩
      · rw [e] at e2; exact n1 (show ci = 17 from congrArg Prod.fst (Sum.inr.inj e2))
      · rw [e] at e2; exact n2 (show ci = 20 from congrArg Prod.fst (Sum.inr.inj e2))
    · rcases h2 with ⟨gs, e2⟩ | ⟨gs, e2⟩
      · rw [e] at e2; cases e2
      · rw [e] at e2; cases e2
  refine ⟨hs w h1, ?_⟩
  rw [hf w h1 hn]
  exact h2
