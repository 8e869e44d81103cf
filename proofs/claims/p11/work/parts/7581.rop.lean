/-! list operations on the programs: the state behind each -/
theorem rsum_one {f g : Nat → Nat} {p : Nat → Prop} : ∀ n, (∀ i j, i < n → j < n → p i → p j → i = j) → (∀ i, i < n → ¬ p i → g i = f i) → (∀ i, i < n → p i → g i ≤ f i + 1) → rsum g n ≤ rsum f n + 1
  | 0, _, _, _ => by show 0 ≤ 0 + 1; omega
  | n + 1, h1, h2, h3 => by
    show rsum g n + g n ≤ rsum f n + f n + 1
    by_cases hp : p n
    · have e : rsum g n = rsum f n := rsum_c n (fun i hi => h2 i (by omega) (fun q => by have := h1 i n (by omega) (by omega) q hp; omega))
      have := h3 n (by omega) hp
      omega
    · have e := rsum_one n (fun i j hi hj => h1 i j (by omega) (by omega)) (fun i hi => h2 i (by omega)) (fun i hi => h3 i (by omega))
      have := h2 n (by omega) hp
      omega
def gIns (γ : Nat → Nat → Nat) (l x e1 n1 k f : Nat) : Nat → Nat → Nat
  | 0 => fun b => if b = x then 1 else if b = e1 then 6 else γ 0 b
  | 1 => fun b => if b = e1 then γ 1 l else γ 1 b
  | 2 => fun b => if b = l then γ 2 l + 1 else γ 2 b
  | 3 => fun b => if b = e1 then l else γ 3 b
  | 4 => fun b => if b = x then l else γ 4 b
  | 5 => fun b => if b = x then k else if γ 4 b = l ∧ k ≤ γ 5 b then γ 5 b + 1 else γ 5 b
  | 13 => fun b => if b = l then n1 else γ 13 b
  | 17 => fun b => if b = l then max (γ 17 l) (γ 2 l + 1) else γ 17 b
  | 18 => fun g => if g = f then γ 18 f - 1 else γ 18 g
  | j => γ j
def eIns (el : Nat → Nat → Nat) (l k x : Nat) : Nat → Nat → Nat := fun a i => if a = l then (if i < k then el l i else if i = k then x else el l (i - 1)) else el a i
theorem eIns_ne {el : Nat → Nat → Nat} {l k x a : Nat} (h : a ≠ l) : eIns el l k x a = el a := by funext i; unfold eIns; rw [if_neg h]
section ROP
variable {D : va_G} {I : FieldType → ClassId} {P P1 : List Nat} {F F1 : Nat → va_E} {γ el : Nat → Nat → Nat} {l x c e1 n1 k : Nat}
theorem RS_code {a : Nat} (hT : RS D I P F γ el) (h : γ 0 a = 9) : γ 21 (γ 1 a) = a := by
  obtain ⟨lb, lr, rn, md, -, h2, -⟩ := show rk_9 γ el a (F a) from RS_o hT h
  exact h2.2.2
/-- the lists of different blocks are different -/
theorem RS_inj {lb i j : Nat} (hT : RS D I P F γ el) (h : γ 0 lb = 4) (hi : i < γ 2 lb) (hj : j < γ 2 lb) (e : γ 14 (el lb i) = γ 14 (el lb j)) : i = j := by
  have h4 : rk_4 D I γ el F lb := RS_o hT h
  have hb : ∀ i, i < γ 2 lb → γ 20 (γ 14 (el lb i)) = el lb i := fun i hi => by
    obtain ⟨q, -, -⟩ := h4.2 i hi
    rcases q with q | q | q
    · obtain ⟨l', n', p', s', w1, w2, -⟩ := show rk_2 γ (el lb i) (F (el lb i)) from RS_o hT q
      rw [w2.1]; exact w2.2.2
    · obtain ⟨l', n', p', s', w1, w2, -⟩ := show rk_202 γ (el lb i) (F (el lb i)) from RS_o hT q
      rw [w2.1]; exact w2.2.2
    · obtain ⟨l', n', p', s', w1, w2, -⟩ := show rk_102 γ (el lb i) (F (el lb i)) from RS_o hT q
      rw [w2.1]; exact w2.2.2
  have e2 : el lb i = el lb j := by rw [← hb i hi, ← hb j hj, e]
  rw [← (h4.2 i hi).2.2, ← (h4.2 j hj).2.2, e2]
theorem RS_ins3 {m1 z1 : Int32} {f1 : Nat → Option Nat} (hT : RS D I P F γ el) (hs : rSub P P1) (hl : γ 0 l = 3) (hx : γ 0 x = 101) (hxf : γ 1 x = γ 1 l) (hx22 : γ 22 x = 0) (hx8 : γ 8 x < γ 16 (γ 1 l)) (h18 : 0 < γ 18 (γ 1 l)) (hk : k ≤ γ 2 l)
    (hc : γ 0 c = 9) (hcf : γ 1 c = γ 1 l) (hx1 : rk_1 γ x (F x)) (he1 : (γ 0 e1 = 6 ∧ γ 3 e1 = l ∧ γ 1 e1 = γ 1 l) ∨ γ 0 e1 = 0) (heP : e1 ∈ P1)
    (hfr : ∀ b, γ 0 b ≠ 0 → b ≠ l → b ≠ e1 → F1 b = F b) (c1 : F1 l = .inr (4, [.int m1, .ref e1, .int z1])) (c2 : z1.toInt = γ 2 l + 1) (c3 : F1 e1 = .inl (I (.object "java/lang/Object"), n1, .inr (.inr (.inr (.inr f1)))))
    (d1 : γ 2 l + 1 ≤ n1) (d2 : (n1 : Int) ≤ 1000000) (d3 : 2 * n1 ≤ 3 * max (γ 17 l) (γ 2 l + 1) + 20) (d4 : 10 ≤ n1)
    (g1 : ∀ j, j < k → f1 j = some (el l j)) (g2 : f1 k = some x) (g3 : ∀ j, k ≤ j → j < γ 2 l → f1 (j + 1) = some (el l j)) (g4 : ∀ j w, f1 j = some w → rLK γ w ∨ w = x) :
    RS D I P1 F1 (gIns γ l x e1 n1 k (γ 1 l)) (eIns el l k x) := by
  have hle : l ≠ e1 := fun e => by rw [← e] at he1; omega
  have hxe : x ≠ e1 := fun e => by rw [← e] at he1; omega
  have hce : c ≠ e1 := fun e => by rw [← e] at he1; omega
  have hlx : l ≠ x := fun e => by rw [e] at hl; omega
  have hcx : c ≠ x := fun e => by rw [e] at hc; omega
  have hcl : c ≠ l := fun e => by rw [e] at hc; omega
  have h3 : rk_3 D I γ el F l := RS_o hT hl
  have h9 : rk_9 γ el c (F c) := RS_o hT hc
  have hrow : ∀ i, i < γ 2 l → el l i ≠ x := fun i hi e => by have := (h3.2 i hi).1; rw [e] at this; omega
  have hlk : ∀ w, rLK γ w → rLK (gIns γ l x e1 n1 k (γ 1 l)) w := fun w hw => by
    show (if w = x then 1 else if w = e1 then 6 else γ 0 w) = 1 ∨ _
    by_cases e : w = x
    · exact Or.inl (if_pos e)
    · have e2 : w ≠ e1 := fun e2 => by subst e2; unfold rLK at hw; omega
      unfold rLK at hw
      show (if w = x then 1 else if w = e1 then 6 else γ 0 w) = 1 ∨ (if w = x then 1 else if w = e1 then 6 else γ 0 w) = 2 ∨ (if w = x then 1 else if w = e1 then 6 else γ 0 w) = 101 ∨ (if w = x then 1 else if w = e1 then 6 else γ 0 w) = 102 ∨ (if w = x then 1 else if w = e1 then 6 else γ 0 w) = 202
      rw [if_neg e, if_neg e2]
      exact hw
  have k0 : ∀ b, b ≠ x → γ 0 b ≠ 0 → (gIns γ l x e1 n1 k (γ 1 l)) 0 b = γ 0 b := fun b hb h0 => by
    show (if b = x then 1 else if b = e1 then 6 else γ 0 b) = _
    rw [if_neg hb]
    split
    · next e => subst e; omega
    · rfl
  have k1 : ∀ b, γ 0 b ≠ 0 → (gIns γ l x e1 n1 k (γ 1 l)) 1 b = γ 1 b := fun b h0 => by
    show (if b = e1 then γ 1 l else γ 1 b) = _
    split
    · next e => subst e; omega
    · rfl
  have k3 : ∀ b, γ 0 b ≠ 0 → (gIns γ l x e1 n1 k (γ 1 l)) 3 b = γ 3 b := fun b h0 => by
    show (if b = e1 then l else γ 3 b) = _
    split
    · next e => subst e; omega
    · rfl
  refine RS_gen (T := fun a => a = l ∨ a = x ∨ a = e1 ∨ a = c) (γ 1 l) hT (fun a ha => ?_) (fun a ha hTa => ?_) (fun a ha hTa => ?_) (fun b hb hTb => ?_) (fun b h4 h100 => k0 b (fun e => by subst e; omega) (by omega)) (fun b h0 hb => k0 b (fun e => hb (by rw [e]; exact hxf)) h0) hlk (fun j b h0 hj => ?_) (fun j hj => ?_) (fun j g hg hj => ?_) (Or.inl (Nat.le_refl _)) (Or.inl ⟨Nat.le_refl _, Or.inl rfl⟩) (fun g _ h => h) (fun b h0 hTb => ?_) (fun e he hTe => ?_) (fun b h0 hTb hb => ?_) (fun a ha haf => ?_) (Or.inr ⟨fun b h0 => ?_, fun b hb hne => ?_, fun b hb hne h22 => ?_⟩)
  · -- P1
    by_cases e : a = e1
    · rw [e]; exact heP
    · refine hs a (hT.1 a ?_)
      by_cases ex : a = x
      · rw [ex]; omega
      · change (if a = x then 1 else if a = e1 then 6 else γ 0 a) ≠ 0 at ha
        rw [if_neg ex, if_neg e] at ha
        exact ha
  · -- fits
    rcases hTa with rfl | rfl | rfl | rfl
    · rw [k0 a hlx (by omega), hl]
      have z2 : (gIns γ a x e1 n1 k (γ 1 a)) 2 a = γ 2 a + 1 := if_pos rfl
      have z13 : (gIns γ a x e1 n1 k (γ 1 a)) 13 a = n1 := if_pos rfl
      have z17 : (gIns γ a x e1 n1 k (γ 1 a)) 17 a = max (γ 17 a) (γ 2 a + 1) := if_pos rfl
      have ze : ∀ i, eIns el a k x a i = if i < k then el a i else if i = k then x else el a (i - 1) := fun i => if_pos rfl
      refine ⟨⟨m1, z1, e1, c1, by rw [z2]; omega, by rw [z2]; omega, Or.inr ⟨?_, ⟨if_pos rfl, ?_⟩, n1, f1, c3, by rw [z2]; exact d1, d2, ⟨z13.symm, d4⟩, fun i hi => ?_, fun j w hj => ?_⟩, ?_⟩, fun i hi => ?_⟩
      · show (if e1 = x then 1 else if e1 = e1 then 6 else γ 0 e1) = 6
        rw [if_neg (Ne.symm hxe), if_pos rfl]
      · show (if e1 = e1 then γ 1 a else γ 1 e1) = (if a = e1 then γ 1 a else γ 1 a)
        rw [if_pos rfl, if_neg hle]
      · rw [z2] at hi
        rw [ze]
        split
        · next q => exact g1 i q
        · next q =>
          split
          · next q2 => rw [q2]; exact g2
          · next q2 =>
            have := g3 (i - 1) (by omega) (by omega)
            rw [Nat.sub_add_cancel (by omega)] at this
            exact this
      · rcases g4 j w hj with h | h
        · exact hlk w h
        · exact Or.inl (if_pos h)
      · unfold rCp
        rw [z2, z13, z17]
        omega
      · rw [z2] at hi
        have hold : ∀ i', i' < γ 2 a → (i < k → i' = i) → (k < i → i' + 1 = i) → i ≠ k → (gIns γ a x e1 n1 k (γ 1 a)) 0 (el a i') = 1 ∧ (gIns γ a x e1 n1 k (γ 1 a)) 1 (el a i') = (gIns γ a x e1 n1 k (γ 1 a)) 1 a ∧ (gIns γ a x e1 n1 k (γ 1 a)) 4 (el a i') = a ∧ (gIns γ a x e1 n1 k (γ 1 a)) 5 (el a i') = i ∧ (gIns γ a x e1 n1 k (γ 1 a)) 22 (el a i') = 0 := fun i' hi' q1 q2 q3 => by
          obtain ⟨w1, w2, w3, w4, w5⟩ := h3.2 i' hi'
          refine ⟨(k0 _ (hrow i' hi') (by omega)).trans w1, by rw [k1 _ (by omega), k1 a (by omega)]; exact w2, (if_neg (hrow i' hi')).trans w3, ?_, w5⟩
          show (if el a i' = x then k else if γ 4 (el a i') = a ∧ k ≤ γ 5 (el a i') then γ 5 (el a i') + 1 else γ 5 (el a i')) = i
          rw [if_neg (hrow i' hi'), w3, w4]
          split <;> omega
        rw [ze]
        split
        · next q => exact hold i (by omega) (fun _ => rfl) (by omega) (by omega)
        · next q =>
          split
          · next q2 =>
            subst q2
            exact ⟨if_pos rfl, by rw [k1 x (by omega), k1 a (by omega)]; exact hxf, if_pos rfl, if_pos rfl, hx22⟩
          · next q2 => exact hold (i - 1) (by omega) (by omega) (by omega) (by omega)
    · have e0 : (gIns γ l a e1 n1 k (γ 1 l)) 0 a = 1 := if_pos rfl
      rw [e0]
      obtain ⟨op, t, p, y, s, ra, rb, w1, w⟩ := hx1
      refine ⟨op, t, p, y, s, ra, rb, (hfr a (by omega) (Ne.symm hlx) hxe).trans w1, ?_⟩
      rw [k1 a (by omega)]
      exact w
    · have e0 : (gIns γ l x a n1 k (γ 1 l)) 0 a = 6 := (if_neg (Ne.symm hxe)).trans (if_pos rfl)
      rw [e0]
      exact trivial
    · rw [k0 a hcx (by omega), hc]
      obtain ⟨lb, lr, rn, md, w1, w2, w3, w4, w5, w6, w7, w8, w9, w10, w11, w12, w13, w14, w15, w16, w17⟩ := h9
      unfold rKd at w3 w5
      have lb0 : γ 0 lb ≠ 0 := by omega
      have lr0 : γ 0 lr ≠ 0 := by omega
      have lbl : lb ≠ l := fun e => by rw [e] at w3; omega
      have lrl : lr ≠ l := fun e => by rw [e] at w5; omega
      have hlb : rk_4 D I γ el F lb := RS_o hT w3
      have hlr : rk_5 D I γ el F lr := RS_o hT w5
      have b2 : (gIns γ l x e1 n1 k (γ 1 l)) 2 lb = γ 2 lb := if_neg lbl
      have r2 : (gIns γ l x e1 n1 k (γ 1 l)) 2 lr = γ 2 lr := if_neg lrl
      have kb : ∀ i, i < γ 2 lb → (gIns γ l x e1 n1 k (γ 1 l)) 0 (el lb i) = γ 0 (el lb i) := fun i hi => by
        have q := (hlb.2 i hi).1
        exact k0 _ (fun e => by rw [e] at q; omega) (by omega)
      have hsum : rsum (fun i => (gIns γ l x e1 n1 k (γ 1 l)) 2 (γ 14 (el lb i))) md.toInt.toNat ≤ rsum (fun i => γ 2 (γ 14 (el lb i))) md.toInt.toNat + 1 := by
        refine rsum_one (p := fun i => γ 14 (el lb i) = l) _ (fun i j hi hj q1 q2 => RS_inj hT w3 (by omega) (by omega) (q1.trans q2.symm)) (fun i hi q => if_neg q) (fun i hi q => ?_)
        show (if γ 14 (el lb i) = l then γ 2 l + 1 else γ 2 (γ 14 (el lb i))) ≤ _
        rw [if_pos q, q]
        exact Nat.le_refl _
      refine ⟨lb, lr, rn, md, (hfr a (by omega) hcl hce).trans w1, ⟨w2.1, w2.2.1, ?_⟩, (k0 lb (fun e => by rw [e] at w3; omega) lb0).trans w3, ?_, (k0 lr (fun e => by rw [e] at w5; omega) lr0).trans w5, ?_, w7, by rw [r2]; exact w8, w9, by rw [b2]; exact w10, by rw [r2]; exact w11, by rw [b2]; exact w12, ?_, fun i hi => ?_, fun i hi hi2 => ?_, fun i hi hi2 => ?_, ?_⟩
      · rw [k1 a (by omega)]; exact w2.2.2
      · unfold rFm at w4 ⊢; rw [k1 lb lb0, k1 a (by omega)]; exact w4
      · unfold rFm at w6 ⊢; rw [k1 lr lr0, k1 a (by omega)]; exact w6
      · rw [k1 a (by omega)]; exact w13
      · rw [eIns_ne lbl, kb i (by omega), k1 a (by omega)]; exact w14 i hi
      · rw [b2] at hi2; rw [eIns_ne lbl, kb i hi2]; exact w15 i hi hi2
      · rw [r2] at hi2
        rw [eIns_ne lrl]
        have q := w16 i hi hi2
        have q8 := (hlr.2 i hi2).2.2.1
        refine (k0 _ (fun e => ?_) (by omega)).trans q
        rw [e] at q8
        have := w17.1
        rw [hcf] at this
        omega
      · obtain ⟨q1, q2⟩ := w17
        unfold rCd
        rw [k1 a (by omega), hcf, eIns_ne lbl]
        rw [hcf] at q1 q2
        refine ⟨q1, ?_⟩
        have e18 : (gIns γ l x e1 n1 k (γ 1 l)) 18 (γ 1 l) = γ 18 (γ 1 l) - 1 := if_pos rfl
        have e16 : (gIns γ l x e1 n1 k (γ 1 l)) 16 (γ 1 l) = γ 16 (γ 1 l) := rfl
        rw [e18, e16]
        have hs2 : rsum (fun i => (gIns γ l x e1 n1 k (γ 1 l)) 2 ((gIns γ l x e1 n1 k (γ 1 l)) 14 (el lb i))) md.toInt.toNat ≤ rsum (fun i => γ 2 (γ 14 (el lb i))) md.toInt.toNat + 1 := hsum
        omega
  · -- untouched
    have hx' : a ≠ x := fun e => hTa (Or.inr (Or.inl e))
    have he' : a ≠ e1 := fun e => hTa (Or.inr (Or.inr (Or.inl e)))
    have hl' : a ≠ l := fun e => hTa (Or.inl e)
    change (if a = x then 1 else if a = e1 then 6 else γ 0 a) ≠ 0 at ha
    rw [if_neg hx', if_neg he'] at ha
    exact ⟨ha, k0 a hx' ha, hfr a ha hl' he'⟩
  · rcases hTb with rfl | rfl | rfl | rfl
    · rfl
    · exact hxf
    · omega
    · exact hcf
  · rcases hj with rfl | rfl | rfl | rfl | rfl | rfl | rfl
    · exact k1 b h0
    · exact k3 b h0
    · rfl
    · rfl
    · rfl
    · rfl
    · rfl
  · rcases hj with rfl | rfl | rfl | rfl | rfl <;> rfl
  · rcases hj with rfl | rfl | rfl | rfl | rfl
    · rfl
    · rfl
    · rfl
    · exact if_neg hg
    · rfl
  · have hl' : b ≠ l := fun e => hTb (Or.inl e)
    exact ⟨if_neg hl', if_neg hl', if_neg hl', eIns_ne hl'⟩
  · refine hfr e (by omega) (fun q => by subst q; omega) (fun q => hTe (Or.inl ?_))
    subst q
    omega
  · have hx' : b ≠ x := fun e => by subst e; omega
    have h4' : γ 4 b ≠ l := fun e => hTb (Or.inl e)
    refine ⟨if_neg hx', (if_neg hx').trans (if_neg (fun q => h4' q.1))⟩
  · have := RS_code hT ha
    have h2 := RS_code hT hc
    rw [haf] at this
    rw [hcf] at h2
    exact Or.inr (Or.inr (Or.inr (this.symm.trans h2)))
  · by_cases e : b = x
    · subst e
      have e0 : (gIns γ l b e1 n1 k (γ 1 l)) 0 b = 1 := if_pos rfl
      rw [e0]
      exact Or.inr (Or.inl ⟨hx, rfl⟩)
    · exact Or.inl (k0 b e h0)
  · exact absurd ((k0 b (fun e => by subst e; omega) (by omega)).trans hb) hne
  · by_cases e : b = x
    · subst e; omega
    · exact absurd ((k0 b e (by omega)).trans hb) hne
end ROP
