/-! an element taken out; a row of the store -/
def gDel (γ : Nat → Nat → Nat) (l k : Nat) : Nat → Nat → Nat
  | 2 => fun b => if b = l then γ 2 l - 1 else γ 2 b
  | 5 => fun b => if γ 4 b = l ∧ k < γ 5 b then γ 5 b - 1 else γ 5 b
  | j => γ j
def eDel (el : Nat → Nat → Nat) (l k : Nat) : Nat → Nat → Nat := fun a i => if a = l then (if i < k then el l i else el l (i + 1)) else el a i
theorem eDel_ne {el : Nat → Nat → Nat} {l k a : Nat} (h : a ≠ l) : eDel el l k a = el a := by funext i; unfold eDel; rw [if_neg h]
def gRow (γ : Nat → Nat → Nat) (f : Nat) : Nat → Nat → Nat
  | 16 => fun g => if g = f then γ 16 f + 1 else γ 16 g
  | 18 => fun g => if g = f then γ 18 f + 1 else γ 18 g
  | j => γ j
def gRwn (γ : Nat → Nat → Nat) (lr x e1 n1 f : Nat) : Nat → Nat → Nat
  | 0 => fun b => if b = x then 101 else if b = e1 then 8 else γ 0 b
  | 1 => fun b => if b = x then f else if b = e1 then f else γ 1 b
  | 2 => fun b => if b = lr then γ 2 lr + 1 else γ 2 b
  | 3 => fun b => if b = e1 then lr else γ 3 b
  | 8 => fun b => if b = x then γ 2 lr else γ 8 b
  | 13 => fun b => if b = lr then n1 else γ 13 b
  | 17 => fun b => if b = lr then max (γ 17 lr) (γ 2 lr + 1) else γ 17 b
  | 16 => fun g => if g = f then γ 16 f + 1 else γ 16 g
  | 18 => fun g => if g = f then γ 18 f + 1 else γ 18 g
  | 22 => fun b => if b = x then 0 else γ 22 b
  | j => γ j
section ROP2
variable {D : va_G} {I : FieldType → ClassId} {P P1 : List Nat} {F F1 : Nat → va_E} {γ el : Nat → Nat → Nat} {l x c e e1 n1 k lb lr : Nat} {rn md rn1 : Int32}
theorem RS_same_c {a c : Nat} (hT : RS D I P F γ el) (hc : γ 0 c = 9) (ha : γ 0 a = 9) (hf : γ 1 a = γ 1 c) : a = c := by
  have h1 := RS_code hT ha
  rw [hf] at h1
  exact h1.symm.trans (RS_code hT hc)
theorem RS_del3 {m1 z1 : Int32} {f1 : Nat → Option Nat} (hT : RS D I P F γ el) (hl : γ 0 l = 3) (hk : k < γ 2 l) (hc : γ 0 c = 9) (hcf : γ 1 c = γ 1 l)
    (he : γ 0 e = 6) (he3 : γ 3 e = l) (he1 : γ 1 e = γ 1 l) (hn : n1 = γ 13 l ∧ 10 ≤ n1) (d1 : γ 2 l ≤ n1) (d2 : (n1 : Int) ≤ 1000000)
    (hfr : ∀ b, γ 0 b ≠ 0 → b ≠ l → b ≠ e → F1 b = F b) (c1 : F1 l = .inr (4, [.int m1, .ref e, .int z1])) (c2 : z1.toInt = γ 2 l - 1) (c3 : F1 e = .inl (I (.object "java/lang/Object"), n1, .inr (.inr (.inr (.inr f1)))))
    (g1 : ∀ j, j < k → f1 j = some (el l j)) (g3 : ∀ j, k ≤ j → j + 1 < γ 2 l → f1 j = some (el l (j + 1))) (g4 : ∀ j w, f1 j = some w → rLK γ w) :
    RS D I P F1 (gDel γ l k) (eDel el l k) := by
  have hcl : c ≠ l := fun e => by rw [e] at hc; omega
  have hce : c ≠ e := fun q => by rw [← q] at he; omega
  have h3 : rk_3 D I γ el F l := RS_o hT hl
  have h9 : rk_9 γ el c (F c) := RS_o hT hc
  refine RS_gen (T := fun a => a = l ∨ a = e ∨ a = c) (γ 1 l) hT (fun a ha => hT.1 a ha) (fun a ha hTa => ?_) (fun a ha hTa => ⟨ha, rfl, hfr a ha (fun q => hTa (Or.inl q)) (fun q => hTa (Or.inr (Or.inl q)))⟩) (fun b hb hTb => ?_) (fun b _ _ => rfl) (fun b _ _ => rfl) (fun w h => h) (fun j b h0 hj => ?_) (fun j hj => ?_) (fun j g hg hj => ?_) (Or.inl (Nat.le_refl _)) (Or.inl ⟨Nat.le_refl _, Or.inl rfl⟩) (fun g _ h => h) (fun b h0 hTb => ?_) (fun e' he' hTe => ?_) (fun b h0 hTb hb => ?_) (fun a ha haf => ?_) (Or.inr ⟨fun b h0 => Or.inl rfl, fun b hb hne => absurd hb hne, fun b hb hne h22 => absurd hb hne⟩)
  · rcases hTa with rfl | rfl | rfl
    · have z2 : (gDel γ a k) 2 a = γ 2 a - 1 := if_pos rfl
      have ze : ∀ i, eDel el a k a i = if i < k then el a i else el a (i + 1) := fun i => if_pos rfl
      show rFit D I (gDel γ a k) (eDel el a k) F1 a (γ 0 a)
      rw [hl]
      obtain ⟨⟨m, z, e', q1, q2, q3, q4, q5⟩, q6⟩ := h3
      refine ⟨⟨m1, z1, e, c1, by rw [z2]; omega, by rw [z2]; omega, Or.inr ⟨he, ⟨he3, he1⟩, n1, f1, c3, by rw [z2]; omega, d2, hn, fun i hi => ?_, fun j w hj => g4 j w hj⟩, ?_⟩, fun i hi => ?_⟩
      · rw [z2] at hi
        rw [ze]
        split
        · next q => exact g1 i q
        · next q => exact g3 i (by omega) (by omega)
      · unfold rCp at q5 ⊢
        have z17 : (gDel γ a k) 17 a = γ 17 a := rfl
        have z13 : (gDel γ a k) 13 a = γ 13 a := rfl
        rw [z2, z17, z13]
        omega
      · rw [z2] at hi
        have hold : ∀ i', i' < γ 2 a → (i < k → i' = i) → (k ≤ i → i' = i + 1) → (gDel γ a k) 0 (el a i') = 1 ∧ (gDel γ a k) 1 (el a i') = (gDel γ a k) 1 a ∧ (gDel γ a k) 4 (el a i') = a ∧ (gDel γ a k) 5 (el a i') = i ∧ (gDel γ a k) 22 (el a i') = 0 := fun i' hi' r1 r2 => by
          obtain ⟨w1, w2, w3, w4, w5⟩ := q6 i' hi'
          refine ⟨w1, w2, w3, ?_, w5⟩
          show (if γ 4 (el a i') = a ∧ k < γ 5 (el a i') then γ 5 (el a i') - 1 else γ 5 (el a i')) = i
          rw [w3, w4]
          split <;> omega
        rw [ze]
        split
        · next q => exact hold i (by omega) (fun _ => rfl) (by omega)
        · next q => exact hold (i + 1) (by omega) (by omega) (fun _ => rfl)
    · show rFit D I (gDel γ l k) (eDel el l k) F1 a (γ 0 a)
      rw [he]
      exact trivial
    · show rFit D I (gDel γ l k) (eDel el l k) F1 a (γ 0 a)
      rw [hc]
      obtain ⟨lb, lr, rn, md, w1, w2, w3, w4, w5, w6, w7, w8, w9, w10, w11, w12, w13, w14, w15, w16, w17⟩ := h9
      unfold rKd at w3 w5
      have lbl : lb ≠ l := fun e => by rw [e] at w3; omega
      have lrl : lr ≠ l := fun e => by rw [e] at w5; omega
      have b2 : (gDel γ l k) 2 lb = γ 2 lb := if_neg lbl
      have r2 : (gDel γ l k) 2 lr = γ 2 lr := if_neg lrl
      refine ⟨lb, lr, rn, md, (hfr a (by omega) hcl hce).trans w1, w2, w3, w4, w5, w6, w7, by rw [r2]; exact w8, w9, by rw [b2]; exact w10, by rw [r2]; exact w11, by rw [b2]; exact w12, w13, by rw [eDel_ne lbl]; exact w14, by rw [eDel_ne lbl, b2]; exact w15, by rw [eDel_ne lrl, r2]; exact w16, w17.1, ?_⟩
      have hs : rsum (fun i => (gDel γ l k) 2 ((gDel γ l k) 14 (eDel el l k lb i))) md.toInt.toNat ≤ rsum (fun i => γ 2 (γ 14 (el lb i))) md.toInt.toNat := rsum_le _ (fun i hi => by
        rw [eDel_ne lbl]
        show (if γ 14 (el lb i) = l then γ 2 l - 1 else γ 2 (γ 14 (el lb i))) ≤ _
        split
        · next q => rw [q]; omega
        · exact Nat.le_refl _)
      have := w17.2
      have e16 : (gDel γ l k) 16 ((gDel γ l k) 1 a) = γ 16 (γ 1 a) := rfl
      have e18 : (gDel γ l k) 18 ((gDel γ l k) 1 a) = γ 18 (γ 1 a) := rfl
      rw [e16, e18]
      omega
  · rcases hTb with rfl | rfl | rfl
    · rfl
    · exact he1
    · exact hcf
  · rcases hj with rfl | rfl | rfl | rfl | rfl | rfl | rfl <;> rfl
  · rcases hj with rfl | rfl | rfl | rfl | rfl <;> rfl
  · rcases hj with rfl | rfl | rfl | rfl | rfl <;> rfl
  · have hl' : b ≠ l := fun e => hTb (Or.inl e)
    exact ⟨if_neg hl', rfl, rfl, eDel_ne hl'⟩
  · exact hfr e' (by omega) (fun q => by subst q; omega) (fun q => hTe (Or.inl (by rw [q]; exact he3)))
  · have h4' : γ 4 b ≠ l := fun e => hTb (Or.inl e)
    exact ⟨rfl, if_neg (fun q => h4' q.1)⟩
  · exact Or.inr (Or.inr (RS_same_c hT hc ha (by rw [haf, hcf])))
theorem RS_rowo (hT : RS D I P F γ el) (hc : γ 0 c = 9) (hF : F c = .inr (18, [.ref lb, .ref lr, .int rn, .int md])) (hlr : γ 15 c = lr) (hlt : rn.toInt < γ 2 lr) (hx : x = el lr rn.toInt.toNat)
    (hfr : ∀ b, γ 0 b ≠ 0 → b ≠ c → b ≠ x → F1 b = F b) (c1 : F1 c = .inr (18, [.ref lb, .ref lr, .int rn1, .int md])) (c2 : rn1.toInt = rn.toInt + 1) (c3 : rkR (F1 x)) :
    RS D I P F1 (gRow γ (γ 1 c)) el ∧ γ 0 x = 101 ∧ γ 1 x = γ 1 c ∧ γ 22 x = 0 ∧ γ 8 x = rn.toInt.toNat ∧ γ 16 (γ 1 c) = rn.toInt.toNat := by
  have h9 : rk_9 γ el c (F c) := RS_o hT hc
  obtain ⟨lb', lr', rn', md', w1, w2, w3, w4, w5, w6, w7, w8, w9, w10, w11, w12, w13, w14, w15, w16, w17⟩ := h9
  rw [hF] at w1
  injection w1 with w1
  injection w1 with _ w1
  injection w1 with a1 w1
  injection w1 with a2 w1
  injection w1 with a3 w1
  injection w1 with a4 _
  injection a1 with a1
  injection a2 with a2
  injection a3 with a3
  injection a4 with a4
  subst a1 a2 a3 a4
  unfold rKd at w3 w5
  have hlr5 : rk_5 D I γ el F lr := RS_o hT w5
  have hi : rn.toInt.toNat < γ 2 lr := by omega
  have hx0 : γ 0 x = 101 := by rw [hx]; exact w16 _ (by omega) hi
  obtain ⟨-, x1, x8, x22⟩ := hlr5.2 _ hi
  rw [← hx] at x1 x8 x22
  have x1c : γ 1 x = γ 1 c := x1.trans w6
  have hcx : c ≠ x := fun e => by rw [e] at hc; omega
  refine ⟨?_, hx0, x1c, x22, x8, by have := w17.1; omega⟩
  refine RS_gen (T := fun a => a = c ∨ a = x) (γ 1 c) hT (fun a ha => hT.1 a ha) (fun a ha hTa => ?_) (fun a ha hTa => ⟨ha, rfl, hfr a ha (fun q => hTa (Or.inl q)) (fun q => hTa (Or.inr q))⟩) (fun b hb hTb => ?_) (fun b _ _ => rfl) (fun b _ _ => rfl) (fun w h => h) (fun j b h0 hj => ?_) (fun j hj => ?_) (fun j g hg hj => ?_) (Or.inl (Nat.le_refl _)) (Or.inl ⟨Nat.le_refl _, Or.inl rfl⟩) (fun g _ h => h) (fun b h0 hTb => ⟨rfl, rfl, rfl, rfl⟩) (fun e' he' hTe => ?_) (fun b h0 hTb hb => ⟨rfl, rfl⟩) (fun a ha haf => Or.inl (RS_same_c hT hc ha haf)) (Or.inr ⟨fun b h0 => Or.inl rfl, fun b hb hne => absurd hb hne, fun b hb hne h22 => absurd hb hne⟩)
  · rcases hTa with rfl | rfl
    · show rFit D I (gRow γ (γ 1 a)) el F1 a (γ 0 a)
      rw [hc]
      have e16 : (gRow γ (γ 1 a)) 16 (γ 1 a) = γ 16 (γ 1 a) + 1 := if_pos rfl
      have e18 : (gRow γ (γ 1 a)) 18 (γ 1 a) = γ 18 (γ 1 a) + 1 := if_pos rfl
      refine ⟨lb, lr, rn1, md, c1, w2, w3, w4, w5, w6, by omega, by show rn1.toInt ≤ γ 2 lr; omega, w9, w10, w11, w12, w13, w14, w15, fun i hi hi2 => w16 i (by omega) hi2, ?_, ?_⟩
      · show rn1.toInt = ((gRow γ (γ 1 a)) 16 (γ 1 a) : Nat)
        rw [e16]
        have := w17.1
        omega
      · show rsum (fun i => γ 2 (γ 14 (el lb i))) md.toInt.toNat + (gRow γ (γ 1 a)) 18 (γ 1 a) ≤ (gRow γ (γ 1 a)) 16 (γ 1 a)
        rw [e16, e18]
        have := w17.2
        omega
    · show rFit D I (gRow γ (γ 1 c)) el F1 a (γ 0 a)
      rw [hx0]
      exact c3
  · rcases hTb with rfl | rfl
    · rfl
    · exact x1c
  · rcases hj with rfl | rfl | rfl | rfl | rfl | rfl | rfl <;> rfl
  · rcases hj with rfl | rfl | rfl | rfl | rfl <;> rfl
  · rcases hj with rfl | rfl | rfl | rfl | rfl
    · rfl
    · rfl
    · exact if_neg hg
    · exact if_neg hg
    · rfl
  · exact hfr e' (by omega) (fun q => by subst q; omega) (fun q => by subst q; omega)
end ROP2
