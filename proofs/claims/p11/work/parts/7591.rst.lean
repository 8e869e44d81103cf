/-! the steps, with what they keep and the room they take -/
section RST
variable {D : va_G} {I : FieldType → ClassId} {P P1 : List Nat} {F F1 : Nat → va_E} {γ el : Nat → Nat → Nat} {f l x c e e1 n1 k lb lr b n i : Nat} {rn md rn1 md1 : Int32}
theorem rc_at (hT : RS D I P F γ el) (hc : γ 0 c = 9) (hf : γ 1 c = f) : γ 21 f = c ∧ γ 0 (γ 14 c) = 4 ∧ γ 1 (γ 14 c) = f ∧ γ 0 (γ 15 c) = 5 ∧ γ 1 (γ 15 c) = f := by
  obtain ⟨lb, lr, rn, md, w1, w2, w3, w4, w5, w6, -⟩ := show rk_9 γ el c (F c) from RS_o hT hc
  rw [w2.1, w2.2.1]
  exact ⟨by rw [← hf]; exact w2.2.2, w3, w4.trans hf, w5, w6.trans hf⟩
theorem St_ins3 {m1 z1 : Int32} {f1 : Nat → Option Nat} (hT : RS D I P F γ el) (hs : rSub P P1) (hl : γ 0 l = 3) (hlf : γ 1 l = f) (hx : γ 0 x = 101) (hxf : γ 1 x = f) (hx22 : γ 22 x = 0) (hx8 : γ 8 x < γ 16 f) (h18 : 0 < γ 18 f) (hk : k ≤ γ 2 l)
    (hc : γ 0 c = 9) (hcf : γ 1 c = f) (hi : i < γ 2 (γ 14 c)) (hli : γ 14 (el (γ 14 c) i) = l) (hx1 : rk_1 γ x (F x)) (he1 : (γ 0 e1 = 6 ∧ γ 3 e1 = l ∧ γ 1 e1 = γ 1 l) ∨ γ 0 e1 = 0) (heP : e1 ∈ P1)
    (hfr : ∀ b, γ 0 b ≠ 0 → b ≠ l → b ≠ e1 → F1 b = F b) (c1 : F1 l = .inr (4, [.int m1, .ref e1, .int z1])) (c2 : z1.toInt = γ 2 l + 1) (c3 : F1 e1 = .inl (I (.object "java/lang/Object"), n1, .inr (.inr (.inr (.inr f1)))))
    (d1 : γ 2 l + 1 ≤ n1) (d2 : (n1 : Int) ≤ 1000000) (d3 : 2 * n1 ≤ 3 * max (γ 17 l) (γ 2 l + 1) + 20) (d4 : 10 ≤ n1)
    (g1 : ∀ j, j < k → f1 j = some (el l j)) (g2 : f1 k = some x) (g3 : ∀ j, k ≤ j → j < γ 2 l → f1 (j + 1) = some (el l j)) (g4 : ∀ j w, f1 j = some w → rLK γ w ∨ w = x) :
    rSt f [101] [3, 6, 101] D I P F γ el P1 F1 (gIns γ l x e1 n1 k f) (eIns el l k x) ∧ rPh (gIns γ l x e1 n1 k f) (eIns el l k x) f + 4 * γ 13 l = rPh γ el f + 4 * n1 ∧ rM (gIns γ l x e1 n1 k f) (eIns el l k x) f ≤ rM γ el f + 9 ∧ (∀ B, rBd γ el f B → rBd (gIns γ l x e1 n1 k f) (eIns el l k x) f B) := by
  subst hlf
  obtain ⟨a21, a4, a41, a5, a51⟩ := rc_at hT hc hcf
  have hR := RS_ins3 hT hs hl hx hxf hx22 hx8 h18 hk hc hcf hx1 he1 heP hfr c1 c2 c3 d1 d2 d3 d4 g1 g2 g3 g4
  have hlx : l ≠ x := fun e => by rw [e, hx] at hl; cases hl
  have hlb : γ 14 c ≠ l := fun e => by rw [e, hl] at a4; cases a4
  have hlr : γ 15 c ≠ l := fun e => by rw [e, hl] at a5; cases a5
  have k0 : ∀ b, b ≠ x → γ 0 b ≠ 0 → (gIns γ l x e1 n1 k (γ 1 l)) 0 b = γ 0 b := fun b hb h0 => by
    show (if b = x then 1 else if b = e1 then 6 else γ 0 b) = _
    rw [if_neg hb]
    split
    · next e => subst e; omega
    · rfl
  have k1 : ∀ b, γ 0 b ≠ 0 → (gIns γ l x e1 n1 k (γ 1 l)) 1 b = γ 1 b := fun b h0 => by
    show (if b = e1 then γ 1 l else γ 1 b) = _
    split
    · next e => subst e; omega
    · rfl
  have hex : rEx (γ 1 l) [101] γ (gIns γ l x e1 n1 k (γ 1 l)) el (eIns el l k x) := by
    refine ⟨fun b h0 hb => k0 b (fun q => ?_) h0, fun b h0 => ⟨?_, k1 b h0, rfl, rfl, rfl, rfl, rfl⟩, fun b h0 hb => ?_, ⟨rfl, rfl, rfl, rfl, rfl⟩, fun g hg => ⟨rfl, rfl, rfl, if_neg hg, rfl, rfl⟩⟩
    · rw [q] at hb
      rcases hb with hb | hb
      · exact hb hxf
      · exact hb (by rw [hx]; exact List.mem_cons_self)
    · by_cases q : b = x
      · rw [q, show (gIns γ l x e1 n1 k (γ 1 l)) 0 x = 1 from if_pos rfl]; decide
      · rw [k0 b q h0]; exact h0
    · have q : b ≠ l := fun q => hb (by rw [q])
      exact ⟨if_neg q, if_neg q, if_neg q, eIns_ne q⟩
  have h3 : rk_3 D I γ el F l := RS_o hT hl
  obtain ⟨⟨m', z', e', v1, v2, v3, v4, v5⟩, -⟩ := h3
  have s13 : ∀ j, j < γ 2 (γ 14 c) → j ≠ i → γ 14 (el (γ 14 c) j) ≠ l := fun j hj hne q => hne (RS_inj hT a4 hj hi (q.trans hli.symm))
  have z2b : (gIns γ l x e1 n1 k (γ 1 l)) 2 (γ 14 c) = γ 2 (γ 14 c) := if_neg hlb
  have z2r : (gIns γ l x e1 n1 k (γ 1 l)) 2 (γ 15 c) = γ 2 (γ 15 c) := if_neg hlr
  have z13b : (gIns γ l x e1 n1 k (γ 1 l)) 13 (γ 14 c) = γ 13 (γ 14 c) := if_neg hlb
  have z13r : (gIns γ l x e1 n1 k (γ 1 l)) 13 (γ 15 c) = γ 13 (γ 15 c) := if_neg hlr
  have z17b : (gIns γ l x e1 n1 k (γ 1 l)) 17 (γ 14 c) = γ 17 (γ 14 c) := if_neg hlb
  have z17r : (gIns γ l x e1 n1 k (γ 1 l)) 17 (γ 15 c) = γ 17 (γ 15 c) := if_neg hlr
  have z17l : (gIns γ l x e1 n1 k (γ 1 l)) 17 l = max (γ 17 l) (γ 2 l + 1) := if_pos rfl
  have z13l : (gIns γ l x e1 n1 k (γ 1 l)) 13 l = n1 := if_pos rfl
  have o21 : (gIns γ l x e1 n1 k (γ 1 l)) 21 (γ 1 l) = c := a21
  have o14 : (gIns γ l x e1 n1 k (γ 1 l)) 14 = γ 14 := rfl
  have o15 : (gIns γ l x e1 n1 k (γ 1 l)) 15 = γ 15 := rfl
  have o16 : (gIns γ l x e1 n1 k (γ 1 l)) 16 = γ 16 := rfl
  have u1 := rsum_u (f := fun j => 4 * γ 13 (γ 14 (el (γ 14 c) j))) (g := fun j => 4 * (gIns γ l x e1 n1 k (γ 1 l)) 13 (γ 14 (el (γ 14 c) j))) _ hi (fun j hj hne => by show 4 * _ = 4 * _; rw [show (gIns γ l x e1 n1 k (γ 1 l)) 13 (γ 14 (el (γ 14 c) j)) = γ 13 (γ 14 (el (γ 14 c) j)) from if_neg (s13 j hj hne)])
  have u2 := rsum_u (f := fun j => 9 * γ 17 (γ 14 (el (γ 14 c) j)) + 60) (g := fun j => 9 * (gIns γ l x e1 n1 k (γ 1 l)) 17 (γ 14 (el (γ 14 c) j)) + 60) _ hi (fun j hj hne => by show 9 * _ + 60 = 9 * _ + 60; rw [show (gIns γ l x e1 n1 k (γ 1 l)) 17 (γ 14 (el (γ 14 c) j)) = γ 17 (γ 14 (el (γ 14 c) j)) from if_neg (s13 j hj hne)])
  rw [hli, z13l] at u1
  rw [hli, z17l] at u2
  refine ⟨⟨hR, hs, hex, fun b h0 hb => hfr b h0 (fun q => ?_) (fun q => ?_)⟩, ?_, ?_, fun B hB => ?_⟩
  · rw [q, hl] at hb
    rcases hb with hb | hb
    · exact hb List.mem_cons_self
    · exact hb.1 rfl
  · rw [q] at hb h0
    have h6 := he1.resolve_right h0
    rw [h6.1, h6.2.2] at hb
    rcases hb with hb | hb
    · exact hb (by decide)
    · exact hb.1 rfl
  · unfold rPh rPhc
    rw [o21, o14, o15, a21, z2b, z2r, z13b, z13r, eIns_ne hlb]
    omega
  · unfold rM rMc
    rw [o21, o14, o15, a21, z2b, z2r, z17b, z17r, eIns_ne hlb]
    unfold rCp at v5
    omega
  · unfold rBd at hB ⊢
    rw [a21] at hB
    rw [o21, o14, o15, o16, z2b, z2r, z17b, z17r, eIns_ne hlb]
    obtain ⟨b1, b2, b3, b4, b5, b6⟩ := hB
    refine ⟨b1, b2, b3, b4, b5, fun j hj => ?_⟩
    by_cases q : j = i
    · rw [q, hli, z17l]
      have q1 := b6 i hi
      rw [hli] at q1
      -- the list's size is below the rows in use
      obtain ⟨lb, lr, rn, md, w1, w2, w3, w4, w5, w6, w7, w8, w9, w10, w11, w12, w13, w14, w15, w16, w17⟩ := show rk_9 γ el c (F c) from RS_o hT hc
      have hmd : i < md.toInt.toNat := by
        by_cases q2 : (i : Int) < md.toInt
        · omega
        · have hi' := hi
          rw [w2.1] at hi'
          have q3 := w15 i (by omega) hi'
          obtain ⟨l', n', p', s', y1, y2, y3, -⟩ := show rk_102 γ (el lb i) (F (el lb i)) from RS_o hT q3
          rw [w2.1] at hli
          rw [← hli, y2.1] at hl
          unfold rKd at y3
          omega
      have q4 := w17.2
      have q5 := rsum_t (f := fun i => γ 2 (γ 14 (el lb i))) hmd
      rw [w2.1] at hli
      rw [hli] at q5
      rw [hcf] at q4
      omega
    · rw [show (gIns γ l x e1 n1 k (γ 1 l)) 17 (γ 14 (el (γ 14 c) j)) = γ 17 (γ 14 (el (γ 14 c) j)) from if_neg (s13 j hj q)]
      exact b6 j hj
end RST
