/-! a walk's step: kinds alone say which cells may have changed -/
def npk : List Nat := List.range' 10 86
def rFk (K : List Nat) (γ : Nat → Nat → Nat) (F F1 : Nat → va_E) : Prop := ∀ a, γ 0 a ≠ 0 → γ 0 a ∉ K → F1 a = F a
/-- cells of another family, and such as are of no program: as they were; 999 in KF: nothing is said of families -/
def rFg (f : Nat) (K : List Nat) (γ : Nat → Nat → Nat) (F F1 : Nat → va_E) : Prop := ∀ a, γ 0 a ≠ 0 → (γ 0 a ∉ K ∨ (999 ∉ K ∧ γ 1 a ≠ f ∧ (γ 0 a ≤ 9 ∨ 100 ≤ γ 0 a))) → F1 a = F a
/-- cells of other families: as they were -/
def rFs (γ : Nat → Nat → Nat) (f : Nat) (F F1 : Nat → va_E) : Prop := ∀ a, γ 0 a ≠ 0 → (γ 0 a ≤ 9 ∨ 100 ≤ γ 0 a) → γ 1 a ≠ f → F1 a = F a
section RFS
variable {γ : Nat → Nat → Nat} {F F1 F2 : Nat → va_E} {f g a k : Nat} {P : List Nat}
theorem rFs_rf : rFs γ f F F := fun _ _ _ _ => rfl
theorem rFs_put (h : rFs γ f F F1) (n : ∀ b, b ≠ a → F2 b = F1 b) (hf : γ 1 a = f) : rFs γ f F F2 := fun b h0 hb hn => (n b (fun e => hn (by rw [e]; exact hf))).trans (h b h0 hb hn)
theorem rFs_pn (h : rFs γ f F F1) (n : ∀ b, b ≠ a → F2 b = F1 b) (hk : rKd γ a k) (h1 : 10 ≤ k ∧ k < 100) : rFs γ f F F2 := fun b h0 hb hn => (n b (fun e => by
  have e2 : γ 0 a = k := hk
  rw [e, e2] at hb
  omega)).trans (h b h0 hb hn)
theorem rFs_0 (hs : rStr γ [] F F1) : rFs γ f F F1 := fun b h0 hb _ => hs b h0 (by omega) (fun z => nomatch z)
theorem rFs_tr (h : rFs γ f F F1) (g : rFs γ f F1 F2) : rFs γ f F F2 := fun b h0 hb hn => (g b h0 hb hn).trans (h b h0 hb hn)
theorem rFs_e (h : rFs γ g F F1) (e : g = f) : rFs γ f F F1 := e ▸ h
theorem rFs_1 (n : ∀ b, b ≠ a → F1 b = F b) (hf : γ 1 a = f) : rFs γ f F F1 := rFs_put rFs_rf n hf
theorem rFs_fn {D : va_G} {I : FieldType → ClassId} {el : Nat → Nat → Nat} (hT : RS D I P F1 γ el) (h : rFs γ f F F1) (n : rFr [a] P F1 F2) (hk : rKd γ a k) (h1 : 10 ≤ k ∧ k < 100) : rFs γ f F F2 := fun b h0 hb hn => (n b (hT.1 b h0) (nm_c (fun e => by
  have e2 : γ 0 a = k := hk
  rw [e, e2] at hb
  omega) nm_n)).trans (h b h0 hb hn)
end RFS
def rSk (f : Nat) (K KF : List Nat) (D : va_G) (I : FieldType → ClassId) (P : List Nat) (F : Nat → va_E) (γ el : Nat → Nat → Nat) (P1 : List Nat) (F1 : Nat → va_E) (γ1 el1 : Nat → Nat → Nat) : Prop :=
  RS D I P1 F1 γ1 el1 ∧ rSub P P1 ∧ rEx f K γ γ1 el el1 ∧ rFg f KF γ F F1
section RSK
variable {D : va_G} {I : FieldType → ClassId} {P P1 P2 : List Nat} {F F1 F2 : Nat → va_E} {γ el γ1 el1 γ2 el2 : Nat → Nat → Nat} {f a k : Nat} {K K2 KF KF2 : List Nat}
theorem rSk_rf (hT : RS D I P F γ el) : rSk f K KF D I P F γ el P F γ el := ⟨hT, rSub_rf, rEx_rf, fun _ _ _ => rfl⟩
theorem rSk_of (h : rSt f K KF D I P F γ el P1 F1 γ1 el1) : rSk f K KF D I P F γ el P1 F1 γ1 el1 := ⟨h.1, h.2.1, h.2.2.1, fun a h0 ha => h.2.2.2 a h0 (ha.elim Or.inl (fun z => Or.inr z.2))⟩
theorem rSk_tr (h : rSk f K KF D I P F γ el P1 F1 γ1 el1) (g : rSk f K2 KF2 D I P1 F1 γ1 el1 P2 F2 γ2 el2) (hk : ∀ j, j ∈ K2 → j ∈ K) (hkf : ∀ j, j ∈ KF2 → j ∈ KF) (hK : ∀ j, j ∈ K → j ∈ KF) : rSk f K KF D I P F γ el P2 F2 γ2 el2 :=
  ⟨g.1, rSub_tr h.2.1 g.2.1, rEx_tr h.2.2.1 g.2.2.1 hk, fun a h0 ha => by
    have h1 := (h.2.2.1.2.1 a h0).1
    refine Eq.trans ?_ (h.2.2.2 a h0 ha)
    rcases ha with ha | ⟨q1, q2, q3⟩
    · have hk0 := h.2.2.1.1 a h0 (Or.inr (fun z => ha (hK _ z)))
      exact g.2.2.2 a h1 (Or.inl (by rw [hk0]; exact fun z => ha (hkf _ z)))
    · have hk0 := h.2.2.1.1 a h0 (Or.inl q2)
      exact g.2.2.2 a h1 (Or.inr ⟨fun z => q1 (hkf _ z), by rw [(h.2.2.1.2.1 a h0).2.1]; exact q2, by rw [hk0]; exact q3⟩)⟩
theorem rSk_put (h : rSk f K KF D I P F γ el P1 F1 γ1 el1) (hT : RS D I P1 F2 γ1 el1) (n : ∀ b, b ≠ a → F2 b = F1 b) (hk : rKd γ1 a k) (hk2 : k ∈ KF) (hK : ∀ j, j ∈ K → j ∈ KF) (hfm : 999 ∈ KF ∨ γ1 1 a = f ∨ (10 ≤ k ∧ k < 100) := by first | exact Or.inl (by decide) | exact Or.inr (Or.inr (by decide))) : rSk f K KF D I P F γ el P1 F2 γ1 el1 :=
  rSk_tr h (K2 := []) (KF2 := KF) ⟨hT, rSub_rf, rEx_rf, fun b _ hb => n b (fun e => by
    have e2 : γ1 0 a = k := hk
    rcases hb with hb | ⟨q1, q2, q3⟩
    · exact hb (by rw [e, e2]; exact hk2)
    · rw [e] at q2
      rw [e, e2] at q3
      rcases hfm with z | z | z
      · exact q1 z
      · exact q2 z
      · omega)⟩ (fun _ z => nomatch z) (fun _ z => z) hK
theorem rSk_str {W : List Nat} (h : rSk f K KF D I P F γ el P1 F1 γ1 el1) (hT : RS D I P1 F2 γ1 el1) (hs : rStr γ1 W F1 F2) (hW : ∀ j, j ∈ W → j ∈ KF) (hN : ∀ j, j ∈ npk → j ∈ KF) (hK : ∀ j, j ∈ K → j ∈ KF) (hfm : W = [] ∨ rFs γ1 f F1 F2 := by exact Or.inl rfl) : rSk f K KF D I P F γ el P1 F2 γ1 el1 :=
  rSk_tr h (K2 := []) (KF2 := KF) ⟨hT, rSub_rf, rEx_rf, fun b h0 hb => by
    rcases hb with hb | ⟨q1, q2, q3⟩
    · by_cases q : γ1 0 b ≤ 9 ∨ 96 ≤ γ1 0 b
      · exact hs b h0 q (fun z => hb (hW _ z))
      · exact absurd (hN (γ1 0 b) (by unfold npk; rw [List.mem_range']; exact ⟨γ1 0 b - 10, by omega, by omega⟩)) hb
    · rcases hfm with z | z
      · exact hs b h0 (by omega) (by rw [z]; exact fun z => nomatch z)
      · exact z b h0 q3 q2⟩ (fun _ z => nomatch z) (fun _ z => z) hK
theorem rSk_k (h : rSk f K KF D I P F γ el P1 F1 γ1 el1) (hk : rKd γ a k) (h0 : k ≠ 0) (hK : k ∉ K) : rKd γ1 a k := by
  have e : γ 0 a = k := hk
  exact (h.2.2.1.1 a (by omega) (Or.inr (by rw [e]; exact hK))).trans e
theorem rSk_kf (h : rSk f K KF D I P F γ el P1 F1 γ1 el1) (hk : rKd γ a k) (h0 : k ≠ 0) (hf : γ 1 a ≠ f) : rKd γ1 a k := by
  have e : γ 0 a = k := hk
  exact (h.2.2.1.1 a (by omega) (Or.inl hf)).trans e
theorem rSk_s (h : rSk f K KF D I P F γ el P1 F1 γ1 el1) (hk : rKd γ a k) (h0 : k ≠ 0) : γ1 1 a = γ 1 a ∧ γ1 14 a = γ 14 a ∧ γ1 15 a = γ 15 a ∧ γ1 8 a = γ 8 a ∧ γ1 20 a = γ 20 a ∧ γ1 22 a = γ 22 a := (h.2.2.1.2.1 a (by unfold rKd at hk; omega)).2
theorem rSk_1 {g : Nat} (h : rSk f K KF D I P F γ el P1 F1 γ1 el1) (hk : rKd γ a k) (h0 : k ≠ 0) (hg : γ 1 a = g) : γ1 1 a = g := ((h.2.2.1.2.1 a (by unfold rKd at hk; omega)).2.1).trans hg
theorem rSk_F (h : rSk f K KF D I P F γ el P1 F1 γ1 el1) (hk : rKd γ a k) (h0 : k ≠ 0) (hK : k ∉ KF) : F1 a = F a := by
  have e : γ 0 a = k := hk
  exact h.2.2.2 a (by omega) (Or.inl (by rw [e]; exact hK))
theorem rSk_l (h : rSk f K KF D I P F γ el P1 F1 γ1 el1) (hk : rKd γ a k) (h0 : k ≠ 0) (hf : γ 1 a ≠ f) : γ1 2 a = γ 2 a ∧ γ1 13 a = γ 13 a ∧ γ1 17 a = γ 17 a ∧ el1 a = el a := h.2.2.1.2.2.1 a (by unfold rKd at hk; omega) hf
theorem rSk_9 (h : rSk f K KF D I P F γ el P1 F1 γ1 el1) : γ1 9 = γ 9 := h.2.2.1.2.2.2.1.1
theorem rSk_g {g : Nat} (h : rSk f K KF D I P F γ el P1 F1 γ1 el1) (hg : g ≠ f) : γ1 6 g = γ 6 g ∧ γ1 7 g = γ 7 g ∧ γ1 16 g = γ 16 g ∧ γ1 18 g = γ 18 g ∧ γ1 19 g = γ 19 g ∧ γ1 23 g = γ 23 g := h.2.2.1.2.2.2.2 g hg
/-- a program of another family is as before -/
theorem rSk_o {o i : Nat} (hT : RS D I P F γ el) (h : rSk f K KF D I P F γ el P1 F1 γ1 el1) (ho : γ 0 o = 9) (hf : γ 1 o ≠ f) : γ1 14 o = γ 14 o ∧ γ1 2 (γ 14 o) = γ 2 (γ 14 o) ∧ el1 (γ 14 o) = el (γ 14 o) ∧ (i < γ 2 (γ 14 o) → γ1 14 (el (γ 14 o) i) = γ 14 (el (γ 14 o) i) ∧ γ1 2 (γ 14 (el (γ 14 o) i)) = γ 2 (γ 14 (el (γ 14 o) i)) ∧ el1 (γ 14 (el (γ 14 o) i)) = el (γ 14 (el (γ 14 o) i))) := by
  obtain ⟨a21, a4, a41, a5, a51⟩ := rc_at hT ho rfl
  obtain ⟨l1, -, -, l4⟩ := rSk_l h (show rKd γ (γ 14 o) 4 from a4) (by decide) (by rw [a41]; exact hf)
  refine ⟨(rSk_s h (show rKd γ o 9 from ho) (by decide)).2.1, l1, l4, fun hi => ?_⟩
  obtain ⟨q, q1, -⟩ := (show rk_4 D I γ el F (γ 14 o) from RS_o hT a4).2 i hi
  have q0 : γ 0 (el (γ 14 o) i) ≠ 0 := by omega
  obtain ⟨r, r1, -⟩ := RS_lst hT a4 hi
  have r0 : γ 0 (γ 14 (el (γ 14 o) i)) ≠ 0 := by omega
  obtain ⟨s1, -, -, s4⟩ := h.2.2.1.2.2.1 _ r0 (by rw [r1, a41]; exact hf)
  exact ⟨(h.2.2.1.2.1 _ q0).2.2.1, s1, s4⟩
end RSK
section RSK2
variable {D : va_G} {I : FieldType → ClassId} {P P1 P2 : List Nat} {F F1 F2 : Nat → va_E} {γ el γ1 el1 γ2 el2 : Nat → Nat → Nat} {f a k : Nat} {K K2 KF KF2 : List Nat}
theorem rSk_fr (h : rSk f K KF D I P F γ el P1 F1 γ1 el1) (hT : RS D I P1 F2 γ1 el1) (n : rFr [a] P1 F1 F2) (hk : rKd γ1 a k) (hk2 : k ∈ KF) (hK : ∀ j, j ∈ K → j ∈ KF) (hfm : 999 ∈ KF ∨ γ1 1 a = f ∨ (10 ≤ k ∧ k < 100) := by first | exact Or.inl (by decide) | exact Or.inr (Or.inr (by decide))) : rSk f K KF D I P F γ el P1 F2 γ1 el1 :=
  rSk_tr h (K2 := []) (KF2 := KF) ⟨hT, rSub_rf, rEx_rf, fun b h0 hb => n b (h.1.1 b h0) (nm_c (fun e => by
    have e2 : γ1 0 a = k := hk
    rcases hb with hb | ⟨q1, q2, q3⟩
    · exact hb (by rw [e, e2]; exact hk2)
    · rw [e] at q2
      rw [e, e2] at q3
      rcases hfm with z | z | z
      · exact q1 z
      · exact q2 z
      · omega) nm_n)⟩ (fun _ z => nomatch z) (fun _ z => z) hK
theorem rBd_c {c B : Nat} (hT : RS D I P F γ el) (hc : γ 0 c = 9) (hf : γ 1 c = f) (h : rBd γ el f B) : γ 16 f ≤ B ∧ γ 2 (γ 14 c) ≤ 40 ∧ γ 2 (γ 15 c) ≤ B ∧ ∀ i, i < γ 2 (γ 14 c) → γ 2 (γ 14 (el (γ 14 c) i)) ≤ B := by
  obtain ⟨a21, a4, a41, a5, a51⟩ := rc_at hT hc hf
  obtain ⟨b1, b2, b3, b4, b5, b6⟩ := h
  rw [a21] at b2 b4 b6
  refine ⟨b1, b2, b4, fun i hi => ?_⟩
  obtain ⟨-, -, -, q⟩ := RS_lst hT a4 hi
  have := b6 i hi
  unfold rCp at q
  omega
end RSK2
