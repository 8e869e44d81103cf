/-! what a step of the programs keeps; the room of the lists -/
def rPhc (γ el : Nat → Nat → Nat) (lb lr : Nat) : Nat := 4 * γ 13 lb + 4 * γ 13 lr + 18 * γ 2 lr + 54 * γ 2 lb + rsum (fun i => 4 * γ 13 (γ 14 (el lb i))) (γ 2 lb)
/-- what was made for the lists of a family: cells at 18, slots at 1 -/
def rPh (γ el : Nat → Nat → Nat) (f : Nat) : Nat := rPhc γ el (γ 14 (γ 21 f)) (γ 15 (γ 21 f))
def rMc (γ el : Nat → Nat → Nat) (lb lr : Nat) : Nat := 9 * γ 17 lb + 9 * γ 17 lr + 18 * γ 2 lr + 54 * γ 2 lb + 300 + rsum (fun i => 9 * γ 17 (γ 14 (el lb i)) + 60) (γ 2 lb)
/-- more than that, by the largest sizes -/
def rM (γ el : Nat → Nat → Nat) (f : Nat) : Nat := rMc γ el (γ 14 (γ 21 f)) (γ 15 (γ 21 f))
def rEx (f : Nat) (K : List Nat) (γ γ1 el el1 : Nat → Nat → Nat) : Prop :=
  (∀ a, γ 0 a ≠ 0 → γ 1 a ≠ f ∨ γ 0 a ∉ K → γ1 0 a = γ 0 a) ∧
  (∀ a, γ 0 a ≠ 0 → γ1 0 a ≠ 0 ∧ γ1 1 a = γ 1 a ∧ γ1 14 a = γ 14 a ∧ γ1 15 a = γ 15 a ∧ γ1 8 a = γ 8 a ∧ γ1 20 a = γ 20 a ∧ γ1 22 a = γ 22 a) ∧
  (∀ a, γ 0 a ≠ 0 → γ 1 a ≠ f → γ1 2 a = γ 2 a ∧ γ1 13 a = γ 13 a ∧ γ1 17 a = γ 17 a ∧ el1 a = el a) ∧
  (γ1 9 = γ 9 ∧ γ1 10 = γ 10 ∧ γ1 11 = γ 11 ∧ γ1 12 = γ 12 ∧ γ1 21 = γ 21) ∧
  ∀ g, g ≠ f → γ1 6 g = γ 6 g ∧ γ1 7 g = γ 7 g ∧ γ1 16 g = γ 16 g ∧ γ1 18 g = γ 18 g ∧ γ1 19 g = γ 19 g ∧ γ1 23 g = γ 23 g
def rFf (f : Nat) (K : List Nat) (γ : Nat → Nat → Nat) (F F1 : Nat → va_E) : Prop := ∀ a, γ 0 a ≠ 0 → γ 0 a ∉ K ∨ (γ 1 a ≠ f ∧ (γ 0 a ≤ 9 ∨ 100 ≤ γ 0 a)) → F1 a = F a
def rNu (f : Nat) (γ γ1 : Nat → Nat → Nat) : Prop := γ1 6 f = γ 6 f ∧ γ1 7 f = γ 7 f ∧ γ1 19 f = γ 19 f ∧ γ1 23 f = γ 23 f
/-- a step of family f: kinds of K may change (in f), cells of the kinds KF (the programs' in f alone) -/
def rSt (f : Nat) (K KF : List Nat) (D : va_G) (I : FieldType → ClassId) (P : List Nat) (F : Nat → va_E) (γ el : Nat → Nat → Nat) (P1 : List Nat) (F1 : Nat → va_E) (γ1 el1 : Nat → Nat → Nat) : Prop :=
  RS D I P1 F1 γ1 el1 ∧ rSub P P1 ∧ rEx f K γ γ1 el el1 ∧ rFf f KF γ F F1
section RPH
variable {D : va_G} {I : FieldType → ClassId} {P P1 P2 : List Nat} {F F1 F2 : Nat → va_E} {γ el γ1 el1 γ2 el2 : Nat → Nat → Nat} {f a k : Nat} {K K2 KF KF2 : List Nat}
theorem rEx_rf : rEx f K γ γ el el := ⟨fun _ _ _ => rfl, fun _ h => ⟨h, rfl, rfl, rfl, rfl, rfl, rfl⟩, fun _ _ _ => ⟨rfl, rfl, rfl, rfl⟩, ⟨rfl, rfl, rfl, rfl, rfl⟩, fun _ _ => ⟨rfl, rfl, rfl, rfl, rfl, rfl⟩⟩
theorem rSt_rf (hT : RS D I P F γ el) : rSt f K KF D I P F γ el P F γ el := ⟨hT, rSub_rf, rEx_rf, fun _ _ _ => rfl⟩
theorem rEx_tr (h : rEx f K γ γ1 el el1) (g : rEx f K2 γ1 γ2 el1 el2) (hk : ∀ j, j ∈ K2 → j ∈ K) : rEx f K γ γ2 el el2 := by
  obtain ⟨a1, a2, a3, ⟨a4, a5, a6, a7, a8⟩, a9⟩ := h
  obtain ⟨b1, b2, b3, ⟨b4, b5, b6, b7, b8⟩, b9⟩ := g
  refine ⟨fun a h0 hx => ?_, fun a h0 => ?_, fun a h0 hf => ?_, ⟨b4.trans a4, b5.trans a5, b6.trans a6, b7.trans a7, b8.trans a8⟩, fun g hg => ?_⟩
  · obtain ⟨c0, c1, -⟩ := a2 a h0
    have e := a1 a h0 hx
    rw [b1 a c0 (by rw [c1, e]; rcases hx with hx | hx; exact Or.inl hx; exact Or.inr (fun z => hx (hk _ z))), e]
  · obtain ⟨c0, c1, c2, c3, c4, c5, c6⟩ := a2 a h0
    obtain ⟨d0, d1, d2, d3, d4, d5, d6⟩ := b2 a c0
    exact ⟨d0, d1.trans c1, d2.trans c2, d3.trans c3, d4.trans c4, d5.trans c5, d6.trans c6⟩
  · obtain ⟨c0, c1, -⟩ := a2 a h0
    obtain ⟨e1, e2, e3, e4⟩ := a3 a h0 hf
    obtain ⟨g1, g2, g3, g4⟩ := b3 a c0 (by rw [c1]; exact hf)
    exact ⟨g1.trans e1, g2.trans e2, g3.trans e3, g4.trans e4⟩
  · obtain ⟨e1, e2, e3, e4, e5, e6⟩ := a9 g hg
    obtain ⟨g1, g2, g3, g4, g5, g6⟩ := b9 g hg
    exact ⟨g1.trans e1, g2.trans e2, g3.trans e3, g4.trans e4, g5.trans e5, g6.trans e6⟩
/-- kinds that change lie in KF too: a cell whose kind changes to one outside counts as changed -/
theorem rFf_tr (hx : rEx f K γ γ1 el el1) (h : rFf f KF γ F F1) (g : rFf f KF2 γ1 F1 F2) (hk : ∀ j, j ∈ KF2 → j ∈ KF) (hK : ∀ j, j ∈ K → j ∈ KF ∧ (j ≤ 9 ∨ 100 ≤ j)) : rFf f KF γ F F2 := fun a h0 hx2 => by
  obtain ⟨c0, c1, -⟩ := hx.2.1 a h0
  have hkn : γ 1 a ≠ f ∨ γ 0 a ∉ K := by
    rcases hx2 with q | q
    · exact Or.inr (fun z => q (hK _ z).1)
    · exact Or.inl q.1
  have e := hx.1 a h0 hkn
  have e2 := h a h0 hx2
  refine (g a c0 ?_).trans e2
  rw [e, c1]
  rcases hx2 with q | q
  · exact Or.inl (fun z => q (hk _ z))
  · exact Or.inr q
theorem rSt_tr (h : rSt f K KF D I P F γ el P1 F1 γ1 el1) (g : rSt f K2 KF2 D I P1 F1 γ1 el1 P2 F2 γ2 el2) (hk : ∀ j, j ∈ K2 → j ∈ K) (hkf : ∀ j, j ∈ KF2 → j ∈ KF) (hK : ∀ j, j ∈ K → j ∈ KF ∧ (j ≤ 9 ∨ 100 ≤ j)) : rSt f K KF D I P F γ el P2 F2 γ2 el2 :=
  ⟨g.1, rSub_tr h.2.1 g.2.1, rEx_tr h.2.2.1 g.2.2.1 hk, rFf_tr h.2.2.1 h.2.2.2 g.2.2.2 hkf hK⟩
/-- a step that keeps the ghosts -/
theorem rSt_put (h : rSt f K KF D I P F γ el P1 F1 γ1 el1) (hT : RS D I P1 F2 γ1 el1) (n : ∀ b, b ≠ a → F2 b = F1 b) (hk : rKd γ1 a k) (hk2 : k ∈ KF) (hf : (9 < k ∧ k < 100) ∨ γ1 1 a = f) (hK : ∀ j, j ∈ K → j ∈ KF ∧ (j ≤ 9 ∨ 100 ≤ j)) : rSt f K KF D I P F γ el P1 F2 γ1 el1 :=
  rSt_tr h (K2 := []) (KF2 := KF) ⟨hT, rSub_rf, rEx_rf, fun b h0 hx => n b (fun e => by
    subst e
    unfold rKd at hk
    rw [hk] at hx
    rcases hx with hx | hx
    · exact hx hk2
    · rcases hf with hf | hf
      · omega
      · exact hx.1 hf)⟩ (fun _ z => nomatch z) (fun _ z => z) hK
theorem rSt_str (h : rSt f K KF D I P F γ el P1 F1 γ1 el1) (hT : RS D I P1 F2 γ1 el1) (W : List Nat) (hs : rStr γ1 W F1 F2) (hW : W = []) (hN : ∀ j, 9 < j → j < 100 → j ∈ KF ∨ 36 < j) (h36 : ∀ b, 36 < γ1 0 b → γ1 0 b < 100 → F2 b = F1 b) (hK : ∀ j, j ∈ K → j ∈ KF ∧ (j ≤ 9 ∨ 100 ≤ j)) : rSt f K KF D I P F γ el P1 F2 γ1 el1 :=
  rSt_tr h (K2 := []) (KF2 := KF) ⟨hT, rSub_rf, rEx_rf, fun b h0 hx => by
    subst hW
    by_cases q : γ1 0 b ≤ 9 ∨ 100 ≤ γ1 0 b
    · exact hs b h0 (by omega) (List.not_mem_nil)
    · rcases hN (γ1 0 b) (by omega) (by omega) with z | z
      · rcases hx with hx | hx
        · exact absurd z hx
        · exact absurd hx.2 q
      · exact h36 b z (by omega)⟩ (fun _ z => nomatch z) (fun _ z => z) hK
-- what a step gives of a cell
theorem rSt_k (h : rSt f K KF D I P F γ el P1 F1 γ1 el1) (hk : rKd γ a k) (h0 : k ≠ 0) (hK : k ∉ K) : rKd γ1 a k := by
  have e : γ 0 a = k := hk
  exact (h.2.2.1.1 a (by omega) (Or.inr (by rw [e]; exact hK))).trans e
theorem rSt_kf (h : rSt f K KF D I P F γ el P1 F1 γ1 el1) (hk : rKd γ a k) (h0 : k ≠ 0) (hf : γ 1 a ≠ f) : rKd γ1 a k := by
  have e : γ 0 a = k := hk
  exact (h.2.2.1.1 a (by omega) (Or.inl hf)).trans e
theorem rSt_s (h : rSt f K KF D I P F γ el P1 F1 γ1 el1) (hk : rKd γ a k) (h0 : k ≠ 0) : γ1 1 a = γ 1 a ∧ γ1 14 a = γ 14 a ∧ γ1 15 a = γ 15 a ∧ γ1 8 a = γ 8 a ∧ γ1 20 a = γ 20 a ∧ γ1 22 a = γ 22 a := (h.2.2.1.2.1 a (by unfold rKd at hk; omega)).2
theorem rSt_fm {b j : Nat} (h : rSt f K KF D I P F γ el P1 F1 γ1 el1) (hk : rKd γ a k) (h0 : k ≠ 0) (hb : rKd γ b j) (j0 : j ≠ 0) (z : rFm γ a b) : rFm γ1 a b := by
  unfold rFm at z ⊢
  rw [(rSt_s h hk h0).1, (rSt_s h hb j0).1]
  exact z
theorem rSt_F (h : rSt f K KF D I P F γ el P1 F1 γ1 el1) (hk : rKd γ a k) (h0 : k ≠ 0) (hK : k ∉ KF) : F1 a = F a := by
  have e : γ 0 a = k := hk
  exact h.2.2.2 a (by omega) (Or.inl (by rw [e]; exact hK))
theorem rSt_Ff (h : rSt f K KF D I P F γ el P1 F1 γ1 el1) (hk : rKd γ a k) (h0 : k ≠ 0) (hp : k ≤ 9 ∨ 100 ≤ k) (hf : γ 1 a ≠ f) : F1 a = F a := by
  have e : γ 0 a = k := hk
  exact h.2.2.2 a (by omega) (Or.inr ⟨hf, by omega⟩)
theorem rSt_l (h : rSt f K KF D I P F γ el P1 F1 γ1 el1) (hk : rKd γ a k) (h0 : k ≠ 0) (hf : γ 1 a ≠ f) : γ1 2 a = γ 2 a ∧ γ1 13 a = γ 13 a ∧ γ1 17 a = γ 17 a ∧ el1 a = el a := h.2.2.1.2.2.1 a (by unfold rKd at hk; omega) hf
theorem rsum_s {f g : Nat → Nat} {k n : Nat} (h : ∀ i, i < n → f i ≤ g i) (hk : k < n) : rsum f n + g k ≤ rsum g n + f k := by
  have h1 := rsum_u (f := f) (g := fun i => if i = k then g k else f i) n hk (fun i _ hne => if_neg hne)
  have h2 : rsum (fun i => if i = k then g k else f i) n ≤ rsum g n := rsum_le n (fun i hi => by
    show (if i = k then g k else f i) ≤ g i
    split
    · next e => rw [e]; exact Nat.le_refl _
    · exact h i hi)
  rw [if_pos rfl] at h1
  omega
theorem RS_lst {lb i : Nat} (hT : RS D I P F γ el) (h : γ 0 lb = 4) (hi : i < γ 2 lb) : (γ 0 (γ 14 (el lb i)) = 3 ∨ γ 0 (γ 14 (el lb i)) = 103) ∧ γ 1 (γ 14 (el lb i)) = γ 1 lb ∧ γ 20 (γ 14 (el lb i)) = el lb i ∧ rCp γ (γ 14 (el lb i)) := by
  have h4 : rk_4 D I γ el F lb := RS_o hT h
  obtain ⟨q, q1, -⟩ := h4.2 i hi
  have hc : ∀ l, γ 0 l = 3 ∨ γ 0 l = 103 → rCp γ l := fun l hl => by
    rcases hl with hl | hl
    · obtain ⟨⟨m, z, e, v1, v2, v3, v4, v5⟩, -⟩ := show rk_3 D I γ el F l from RS_o hT hl
      exact v5
    · obtain ⟨m, z, e, v1, v2, v3, v4, v5⟩ := show rkL D I γ el F 6 l from RS_o hT hl
      exact v5
  rcases q with q | q | q
  · obtain ⟨l', n', p', s', w1, w2, w3, w4, -⟩ := show rk_2 γ (el lb i) (F (el lb i)) from RS_o hT q
    rw [w2.1]; exact ⟨Or.inl w3, w4.trans q1, w2.2.2, hc l' (Or.inl w3)⟩
  · obtain ⟨l', n', p', s', w1, w2, w3, w4, -⟩ := show rk_202 γ (el lb i) (F (el lb i)) from RS_o hT q
    rw [w2.1]; exact ⟨Or.inl w3, w4.trans q1, w2.2.2, hc l' (Or.inl w3)⟩
  · obtain ⟨l', n', p', s', w1, w2, w3, w4, -⟩ := show rk_102 γ (el lb i) (F (el lb i)) from RS_o hT q
    rw [w2.1]; exact ⟨Or.inr w3, w4.trans q1, w2.2.2, hc l' (Or.inr w3)⟩
/-- the slack of the room -/
theorem rM_ge {c : Nat} (hT : RS D I P F γ el) (hc : γ 0 c = 9) (hf : γ 1 c = f) : rPh γ el f + 2 * γ 13 (γ 14 c) + 100 ≤ rM γ el f ∧ rPh γ el f + 2 * γ 13 (γ 15 c) + 100 ≤ rM γ el f ∧ ∀ i, i < γ 2 (γ 14 c) → rPh γ el f + 2 * γ 13 (γ 14 (el (γ 14 c) i)) + 100 ≤ rM γ el f := by
  obtain ⟨lb, lr, rn, md, w1, w2, w3, w4, w5, w6, -⟩ := show rk_9 γ el c (F c) from RS_o hT hc
  have e21 : γ 21 f = c := by rw [← hf]; exact w2.2.2
  unfold rPh rM
  rw [e21, w2.1, w2.2.1]
  obtain ⟨⟨m, z, e, v1, v2, v3, v4, v5⟩, -⟩ := show rk_4 D I γ el F lb from RS_o hT w3
  obtain ⟨⟨m', z', e', u1, u2, u3, u4, u5⟩, -⟩ := show rk_5 D I γ el F lr from RS_o hT w5
  have hle : ∀ i, i < γ 2 lb → 4 * γ 13 (γ 14 (el lb i)) ≤ 9 * γ 17 (γ 14 (el lb i)) + 60 ∧ 6 * γ 13 (γ 14 (el lb i)) ≤ 9 * γ 17 (γ 14 (el lb i)) + 60 := fun i hi => by
    obtain ⟨-, -, -, q⟩ := RS_lst hT w3 hi
    unfold rCp at q
    omega
  have hs := rsum_le (f := fun i => 4 * γ 13 (γ 14 (el lb i))) (g := fun i => 9 * γ 17 (γ 14 (el lb i)) + 60) (γ 2 lb) (fun i hi => (hle i hi).1)
  unfold rCp at v5 u5
  unfold rPhc rMc
  refine ⟨by omega, by omega, fun i hi => ?_⟩
  have hk := rsum_s (f := fun i => 4 * γ 13 (γ 14 (el lb i))) (g := fun i => 9 * γ 17 (γ 14 (el lb i)) + 60) (fun i hi => (hle i hi).1) hi
  have h2 := (hle i hi).2
  omega
/-- bounds of a family with few blocks -/
def rBd (γ el : Nat → Nat → Nat) (f B : Nat) : Prop := γ 16 f ≤ B ∧ γ 2 (γ 14 (γ 21 f)) ≤ 40 ∧ γ 17 (γ 14 (γ 21 f)) ≤ 40 ∧ γ 2 (γ 15 (γ 21 f)) ≤ B ∧ γ 17 (γ 15 (γ 21 f)) ≤ B ∧ ∀ i, i < γ 2 (γ 14 (γ 21 f)) → γ 17 (γ 14 (el (γ 14 (γ 21 f)) i)) ≤ B
theorem rM_bd {B : Nat} (h : rBd γ el f B) : rM γ el f ≤ 387 * B + 6000 := by
  obtain ⟨h1, h2, h3, h4, h5, h6⟩ := h
  unfold rM rMc
  have hs := rsum_b (f := fun i => 9 * γ 17 (γ 14 (el (γ 14 (γ 21 f)) i)) + 60) (B := 9 * B + 60) (γ 2 (γ 14 (γ 21 f))) (fun i hi => by have := h6 i hi; show 9 * _ + 60 ≤ _; omega)
  have hm : γ 2 (γ 14 (γ 21 f)) * (9 * B + 60) ≤ 40 * (9 * B + 60) := Nat.mul_le_mul_right _ h2
  omega
end RPH
