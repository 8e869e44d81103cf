section RST2
variable {D : va_G} {I : FieldType → ClassId} {P P1 : List Nat} {F F1 : Nat → va_E} {γ el : Nat → Nat → Nat} {f l x c e e1 n1 k lb lr b n i : Nat} {rn md rn1 md1 : Int32}
theorem St_del3 {m1 z1 : Int32} {f1 : Nat → Option Nat} (hT : RS D I P F γ el) (hl : γ 0 l = 3) (hlf : γ 1 l = f) (hk : k < γ 2 l) (hc : γ 0 c = 9) (hcf : γ 1 c = f)
    (he : γ 0 e = 6) (he3 : γ 3 e = l) (he1 : γ 1 e = γ 1 l) (hn : n1 = γ 13 l ∧ 10 ≤ n1) (d1 : γ 2 l ≤ n1) (d2 : (n1 : Int) ≤ 1000000)
    (hfr : ∀ b, γ 0 b ≠ 0 → b ≠ l → b ≠ e → F1 b = F b) (c1 : F1 l = .inr (4, [.int m1, .ref e, .int z1])) (c2 : z1.toInt = γ 2 l - 1) (c3 : F1 e = .inl (I (.object "java/lang/Object"), n1, .inr (.inr (.inr (.inr f1)))))
    (g1 : ∀ j, j < k → f1 j = some (el l j)) (g3 : ∀ j, k ≤ j → j + 1 < γ 2 l → f1 j = some (el l (j + 1))) (g4 : ∀ j w, f1 j = some w → rLK γ w) :
    rSt f [] [3, 6] D I P F γ el P F1 (gDel γ l k) (eDel el l k) ∧ rPh (gDel γ l k) (eDel el l k) f = rPh γ el f ∧ rM (gDel γ l k) (eDel el l k) f = rM γ el f ∧ (∀ B, rBd γ el f B → rBd (gDel γ l k) (eDel el l k) f B) := by
  subst hlf
  obtain ⟨a21, a4, a41, a5, a51⟩ := rc_at hT hc hcf
  have hR := RS_del3 hT hl hk hc hcf he he3 he1 hn d1 d2 hfr c1 c2 c3 g1 g3 g4
  have hlb : γ 14 c ≠ l := fun e => by rw [e, hl] at a4; cases a4
  have hlr : γ 15 c ≠ l := fun e => by rw [e, hl] at a5; cases a5
  have o21 : (gDel γ l k) 21 (γ 1 l) = c := a21
  have o14 : (gDel γ l k) 14 = γ 14 := rfl
  have o15 : (gDel γ l k) 15 = γ 15 := rfl
  have o16 : (gDel γ l k) 16 = γ 16 := rfl
  have o13 : (gDel γ l k) 13 = γ 13 := rfl
  have o17 : (gDel γ l k) 17 = γ 17 := rfl
  have z2b : (gDel γ l k) 2 (γ 14 c) = γ 2 (γ 14 c) := if_neg hlb
  have z2r : (gDel γ l k) 2 (γ 15 c) = γ 2 (γ 15 c) := if_neg hlr
  refine ⟨⟨hR, rSub_rf, ⟨fun b _ _ => rfl, fun b h0 => ⟨h0, rfl, rfl, rfl, rfl, rfl, rfl⟩, fun b h0 hb => ⟨if_neg (fun q => hb (by rw [q])), rfl, rfl, eDel_ne (fun q => hb (by rw [q]))⟩, ⟨rfl, rfl, rfl, rfl, rfl⟩, fun g hg => ⟨rfl, rfl, rfl, rfl, rfl, rfl⟩⟩, fun b h0 hb => hfr b h0 (fun q => ?_) (fun q => ?_)⟩, ?_, ?_, fun B hB => ?_⟩
  · rw [q, hl] at hb
    rcases hb with hb | hb
    · exact hb List.mem_cons_self
    · exact hb.1 rfl
  · rw [q, he, he1] at hb
    rcases hb with hb | hb
    · exact hb (by decide)
    · exact hb.1 rfl
  · unfold rPh rPhc
    rw [o21, o14, o15, a21, o13, z2b, z2r, eDel_ne hlb]
  · unfold rM rMc
    rw [o21, o14, o15, a21, o17, z2b, z2r, eDel_ne hlb]
  · unfold rBd at hB ⊢
    rw [a21] at hB
    rw [o21, o14, o15, o16, o17, z2b, z2r, eDel_ne hlb]
    exact hB
/-- what a row out of the store is, and what it leaves -/
def rRq (D : va_G) (I : FieldType → ClassId) (P : List Nat) (F : Nat → va_E) (γ el : Nat → Nat → Nat) (f c : Nat) (P1 : List Nat) (F1 : Nat → va_E) (γ1 el1 : Nat → Nat → Nat) (x dc ds : Nat) : Prop :=
  rSt f [] [5, 8, 9, 101] D I P F γ el P1 F1 γ1 el1 ∧ γ1 0 x = 101 ∧ γ1 1 x = f ∧ γ1 22 x = 0 ∧ γ1 8 x = γ 16 f ∧ γ1 16 f = γ 16 f + 1 ∧ γ1 18 f = γ 18 f + 1 ∧ rNu f γ γ1 ∧ (∀ a, γ 0 a ≠ 0 → γ 0 a ≠ 5 → γ1 2 a = γ 2 a ∧ el1 a = el a) ∧ ((∀ a, γ 0 a ≠ 0 → γ1 4 a = γ 4 a ∧ γ1 5 a = γ 5 a) ∧ (fI (F1 x) 2).toInt = 0 ∧ (fI (F1 x) 3).toInt = 0) ∧ ((fI (F1 x) 5).toInt = 0 ∧ (fI (F1 x) 6).toInt = 0 ∧ (fI (F1 c) 3).toInt = (fI (F c) 3).toInt) ∧ (18 * dc + rPh γ el f ≤ rPh γ1 el1 f ∧ ds + rPh γ el f ≤ rPh γ1 el1 f) ∧ rM γ1 el1 f ≤ rM γ el f + 27 ∧ ∀ B, γ 16 f + 1 ≤ B → rBd γ el f B → rBd γ1 el1 f B
theorem St_rowo {dc ds : Nat} (hT : RS D I P F γ el) (hc : γ 0 c = 9) (hcf : γ 1 c = f) (hF : F c = .inr (18, [.ref lb, .ref lr, .int rn, .int md])) (hlr : γ 15 c = lr) (hlt : rn.toInt < γ 2 lr) (hx : x = el lr rn.toInt.toNat)
    (hfr : ∀ b, γ 0 b ≠ 0 → b ≠ c → b ≠ x → F1 b = F b) (c1 : F1 c = .inr (18, [.ref lb, .ref lr, .int rn1, .int md])) (c2 : rn1.toInt = rn.toInt + 1) (c3 : rkR (F1 x)) (c4 : (fI (F1 x) 5).toInt = 0 ∧ (fI (F1 x) 6).toInt = 0 ∧ (fI (F1 x) 2).toInt = 0 ∧ (fI (F1 x) 3).toInt = 0) (hdc : dc ≤ 0) (hds : ds ≤ 0) :
    rRq D I P F γ el f c P F1 (gRow γ f) el x dc ds := by
  subst hcf
  obtain ⟨hR, x0, x1, x22, x8, x16⟩ := RS_rowo hT hc hF hlr hlt hx hfr c1 c2 c3
  refine ⟨⟨hR, rSub_rf, ⟨fun b _ _ => rfl, fun b h0 => ⟨h0, rfl, rfl, rfl, rfl, rfl, rfl⟩, fun b h0 hb => ⟨rfl, rfl, rfl, rfl⟩, ⟨rfl, rfl, rfl, rfl, rfl⟩, fun g hg => ⟨rfl, rfl, if_neg hg, if_neg hg, rfl, rfl⟩⟩, fun b h0 hb => hfr b h0 (fun q => ?_) (fun q => ?_)⟩, x0, x1, x22, x8.trans x16.symm, if_pos rfl, if_pos rfl, ⟨rfl, rfl, rfl, rfl⟩, fun a _ _ => ⟨rfl, rfl⟩, ⟨fun a _ => ⟨rfl, rfl⟩, c4.2.2⟩, ⟨c4.1, c4.2.1, by rw [c1, hF]; rfl⟩, ⟨?_, ?_⟩, ?_, fun B h1 hB => ?_⟩
  · rw [q, hc] at hb
    rcases hb with hb | hb
    · exact hb (by decide)
    · exact hb.1 rfl
  · rw [q, x0, x1] at hb
    rcases hb with hb | hb
    · exact hb (by decide)
    · exact hb.1 rfl
  · show 18 * dc + rPh γ el (γ 1 c) ≤ rPh γ el (γ 1 c); omega
  · show ds + rPh γ el (γ 1 c) ≤ rPh γ el (γ 1 c); omega
  · show rM γ el (γ 1 c) ≤ _; omega
  · have e16 : (gRow γ (γ 1 c)) 16 (γ 1 c) = γ 16 (γ 1 c) + 1 := if_pos rfl
    exact ⟨by rw [e16]; exact h1, hB.2⟩
theorem St_rown {m1 z1 : Int32} {f1 : Nat → Option Nat} {dc ds : Nat} (hT : RS D I P F γ el) (hs : rSub P P1) (hc : γ 0 c = 9) (hcf : γ 1 c = f) (hF : F c = .inr (18, [.ref lb, .ref lr, .int rn, .int md])) (heq : rn.toInt = γ 2 lr) (hx : γ 0 x = 0) (hxP : x ∈ P1) (he1 : (γ 0 e1 = 8 ∧ γ 3 e1 = lr ∧ γ 1 e1 = γ 1 lr) ∨ γ 0 e1 = 0) (heP : e1 ∈ P1) (hxe : x ≠ e1)
    (hfr : ∀ b, γ 0 b ≠ 0 → b ≠ c → b ≠ lr → b ≠ e1 → F1 b = F b) (c1 : F1 c = .inr (18, [.ref lb, .ref lr, .int rn1, .int md])) (c2 : rn1.toInt = rn.toInt + 1) (c3 : rkR (F1 x)) (c4 : (fI (F1 x) 5).toInt = 0 ∧ (fI (F1 x) 6).toInt = 0 ∧ (fI (F1 x) 2).toInt = 0 ∧ (fI (F1 x) 3).toInt = 0)
    (q1 : F1 lr = .inr (4, [.int m1, .ref e1, .int z1])) (q2 : z1.toInt = γ 2 lr + 1) (q3 : F1 e1 = .inl (I (.object "java/lang/Object"), n1, .inr (.inr (.inr (.inr f1)))))
    (d1 : γ 2 lr + 1 ≤ n1) (d2 : (n1 : Int) ≤ 1000000) (d3 : 2 * n1 ≤ 3 * max (γ 17 lr) (γ 2 lr + 1) + 20) (d4 : 10 ≤ n1)
    (g1 : ∀ j, j < γ 2 lr → f1 j = some (el lr j)) (g2 : f1 (γ 2 lr) = some x) (g4 : ∀ j w, f1 j = some w → rLK γ w ∨ w = x) (hdc : 18 * dc + 4 * γ 13 lr ≤ 4 * n1 + 18) (hds : ds + 4 * γ 13 lr ≤ 4 * n1 + 18) :
    rRq D I P F γ el f c P1 F1 (gRwn γ lr x e1 n1 f) (eIns el lr (γ 2 lr) x) x dc ds := by
  subst hcf
  obtain ⟨hR, x16⟩ := RS_rown hT hs hc hF heq hx hxP he1 heP hxe hfr c1 c2 c3 q1 q2 q3 d1 d2 d3 d4 g1 g2 g4
  obtain ⟨w2, w3, w4, w5, w6, w7, w8, w9, w10, w11, w12, w13, w14, w15, w16, w17⟩ := rk9_at hF (show rk_9 γ el c (F c) from RS_o hT hc)
  obtain ⟨⟨m', z', e', v1, v2, v3, v4, v5⟩, -⟩ := show rk_5 D I γ el F lr from RS_o hT w5
  have nx : ∀ b, γ 0 b ≠ 0 → b ≠ x := fun b h q => h (by rw [q]; exact hx)
  have ne : ∀ b, γ 0 b ≠ 0 → b = e1 → γ 0 e1 = 8 ∧ γ 3 e1 = lr ∧ γ 1 e1 = γ 1 lr := fun b h q => he1.resolve_right (fun z => h (by rw [q]; exact z))
  have k0 : ∀ b, γ 0 b ≠ 0 → (gRwn γ lr x e1 n1 (γ 1 c)) 0 b = γ 0 b := fun b h0 => by
    show (if b = x then 101 else if b = e1 then 8 else γ 0 b) = _
    rw [if_neg (nx b h0)]
    split
    · next q => rw [q]; exact (ne b h0 q).1.symm
    · rfl
  have k1 : ∀ b, γ 0 b ≠ 0 → (gRwn γ lr x e1 n1 (γ 1 c)) 1 b = γ 1 b := fun b h0 => by
    show (if b = x then γ 1 c else if b = e1 then γ 1 c else γ 1 b) = _
    rw [if_neg (nx b h0)]
    split
    · next q => rw [q, (ne b h0 q).2.2]; exact w6.symm
    · rfl
  have hlblr : lb ≠ lr := fun q => by rw [q, w5] at w3; cases w3
  have a21 : γ 21 (γ 1 c) = c := w2.2.2
  have o21 : (gRwn γ lr x e1 n1 (γ 1 c)) 21 (γ 1 c) = c := a21
  have o14 : (gRwn γ lr x e1 n1 (γ 1 c)) 14 = γ 14 := rfl
  have o15 : (gRwn γ lr x e1 n1 (γ 1 c)) 15 = γ 15 := rfl
  have z2b : (gRwn γ lr x e1 n1 (γ 1 c)) 2 lb = γ 2 lb := if_neg hlblr
  have z2r : (gRwn γ lr x e1 n1 (γ 1 c)) 2 lr = γ 2 lr + 1 := if_pos rfl
  have z13b : (gRwn γ lr x e1 n1 (γ 1 c)) 13 lb = γ 13 lb := if_neg hlblr
  have z13r : (gRwn γ lr x e1 n1 (γ 1 c)) 13 lr = n1 := if_pos rfl
  have z17b : (gRwn γ lr x e1 n1 (γ 1 c)) 17 lb = γ 17 lb := if_neg hlblr
  have z17r : (gRwn γ lr x e1 n1 (γ 1 c)) 17 lr = max (γ 17 lr) (γ 2 lr + 1) := if_pos rfl
  have hne : ∀ i, i < γ 2 lb → γ 14 (el lb i) ≠ lr := fun i hi q => by
    obtain ⟨r, -⟩ := RS_lst hT w3 hi
    rw [q, w5] at r
    omega
  have s13 : rsum (fun i => 4 * (gRwn γ lr x e1 n1 (γ 1 c)) 13 (γ 14 (el lb i))) (γ 2 lb) = rsum (fun i => 4 * γ 13 (γ 14 (el lb i))) (γ 2 lb) := rsum_c _ (fun i hi => by show 4 * (gRwn γ lr x e1 n1 (γ 1 c)) 13 (γ 14 (el lb i)) = _; rw [show (gRwn γ lr x e1 n1 (γ 1 c)) 13 (γ 14 (el lb i)) = γ 13 (γ 14 (el lb i)) from if_neg (hne i hi)])
  have s17 : rsum (fun i => 9 * (gRwn γ lr x e1 n1 (γ 1 c)) 17 (γ 14 (el lb i)) + 60) (γ 2 lb) = rsum (fun i => 9 * γ 17 (γ 14 (el lb i)) + 60) (γ 2 lb) := rsum_c _ (fun i hi => by show 9 * (gRwn γ lr x e1 n1 (γ 1 c)) 17 (γ 14 (el lb i)) + 60 = _; rw [show (gRwn γ lr x e1 n1 (γ 1 c)) 17 (γ 14 (el lb i)) = γ 17 (γ 14 (el lb i)) from if_neg (hne i hi)])
  have hph : rPh (gRwn γ lr x e1 n1 (γ 1 c)) (eIns el lr (γ 2 lr) x) (γ 1 c) + 4 * γ 13 lr = rPh γ el (γ 1 c) + 4 * n1 + 18 := by
    unfold rPh rPhc
    rw [o21, o14, o15, a21, w2.1, w2.2.1, z2b, z2r, z13b, z13r, eIns_ne hlblr, s13]
    omega
  refine ⟨⟨hR, hs, ⟨fun b h0 _ => k0 b h0, fun b h0 => ⟨by rw [k0 b h0]; exact h0, k1 b h0, rfl, rfl, if_neg (nx b h0), rfl, if_neg (nx b h0)⟩, fun b h0 hb => ?_, ⟨rfl, rfl, rfl, rfl, rfl⟩, fun g hg => ⟨rfl, rfl, if_neg hg, if_neg hg, rfl, rfl⟩⟩, fun b h0 hb => hfr b h0 (fun q => ?_) (fun q => ?_) (fun q => ?_)⟩, if_pos rfl, if_pos rfl, if_pos rfl, ?_, if_pos rfl, if_pos rfl, ⟨rfl, rfl, rfl, rfl⟩, fun a h0 h5 => ?_, ⟨fun a _ => ⟨rfl, rfl⟩, c4.2.2⟩, ⟨c4.1, c4.2.1, by rw [c1, hF]; rfl⟩, ⟨by omega, by omega⟩, ?_, fun B h1 hB => ?_⟩
  · have q : b ≠ lr := fun q => hb (by rw [q]; exact w6)
    exact ⟨if_neg q, if_neg q, if_neg q, eIns_ne q⟩
  · rw [q, hc] at hb
    rcases hb with hb | hb
    · exact hb (by decide)
    · exact hb.1 rfl
  · rw [q, w5, w6] at hb
    rcases hb with hb | hb
    · exact hb (by decide)
    · exact hb.1 rfl
  · have h8 := ne b h0 q
    rw [q, h8.1, h8.2.2, w6] at hb
    rcases hb with hb | hb
    · exact hb (by decide)
    · exact hb.1 rfl
  · show (if x = x then γ 2 lr else γ 8 x) = _
    rw [if_pos rfl]
    omega
  · have q : a ≠ lr := fun q => h5 (by rw [q]; exact w5)
    exact ⟨if_neg q, eIns_ne q⟩
  · unfold rM rMc
    rw [o21, o14, o15, a21, w2.1, w2.2.1, z2b, z2r, z17b, z17r, eIns_ne hlblr, s17]
    unfold rCp at v5
    omega
  · unfold rBd at hB ⊢
    have e16 : (gRwn γ lr x e1 n1 (γ 1 c)) 16 (γ 1 c) = γ 16 (γ 1 c) + 1 := if_pos rfl
    rw [a21, w2.1, w2.2.1] at hB
    rw [o21, o14, o15, w2.1, w2.2.1, z2b, z2r, z17b, z17r, e16, eIns_ne hlblr]
    obtain ⟨b1, b2, b3, b4, b5, b6⟩ := hB
    refine ⟨h1, b2, b3, by omega, by omega, fun j hj => ?_⟩
    rw [show (gRwn γ lr x e1 n1 (γ 1 c)) 17 (γ 14 (el lb j)) = γ 17 (γ 14 (el lb j)) from if_neg (hne j hj)]
    exact b6 j hj
end RST2
