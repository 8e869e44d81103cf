/-- what a block out of the store is, and what it leaves -/
def rBq (D : va_G) (I : FieldType → ClassId) (P : List Nat) (F : Nat → va_E) (γ el : Nat → Nat → Nat) (f c : Nat) (P1 : List Nat) (F1 : Nat → va_E) (γ1 el1 : Nat → Nat → Nat) (b dc ds : Nat) : Prop :=
  rSt f [102, 103] [3, 4, 6, 7, 9, 102, 103] D I P F γ el P1 F1 γ1 el1 ∧ γ1 0 b = 202 ∧ γ1 1 b = f ∧ (∃ j, (fI (F1 c) 3).toInt = (j : Nat) + 1 ∧ (fI (F c) 3).toInt = (j : Nat) ∧ j < γ1 2 (γ 14 c) ∧ el1 (γ 14 c) j = b ∧ γ 2 (γ 14 c) ≤ γ1 2 (γ 14 c) ∧ ∀ i, i < j → el1 (γ 14 c) i = el (γ 14 c) i) ∧ γ1 2 (γ1 14 b) = 0 ∧ γ1 16 f = γ 16 f ∧ γ1 18 f = γ 18 f ∧ rNu f γ γ1 ∧ (∀ a, γ 0 a = 3 → γ1 2 a = γ 2 a ∧ el1 a = el a) ∧ (∀ a, γ 0 a ≠ 0 → γ1 4 a = γ 4 a ∧ γ1 5 a = γ 5 a) ∧ (18 * dc + rPh γ el f ≤ rPh γ1 el1 f ∧ ds + rPh γ el f ≤ rPh γ1 el1 f) ∧ rM γ1 el1 f ≤ rM γ el f + 123 ∧ ∀ B, (fI (F c) 3).toInt < 40 → rBd γ el f B → rBd γ1 el1 f B
section RST3
variable {D : va_G} {I : FieldType → ClassId} {P P1 : List Nat} {F F1 : Nat → va_E} {γ γ1 el : Nat → Nat → Nat} {f l x c e e1 n1 k lb lr b n i : Nat} {rn md rn1 md1 : Int32}
theorem St_blko {m1 p s : Int32} {E dc ds : Nat} (hT : RS D I P F γ el) (hc : γ 0 c = 9) (hcf : γ 1 c = f) (hF : F c = .inr (18, [.ref lb, .ref lr, .int rn, .int md])) (hv : γ 6 f = 0) (hlt : md.toInt < γ 2 lb) (hb : b = el lb md.toInt.toNat) (hFb : F b = .inr (17, [.ref l, .ref n, .int p, .int s]))
    (he : e = l ∨ (γ 0 e = 6 ∧ γ 3 e = l ∧ γ 1 e = γ 1 l)) (hfr : ∀ a, γ 0 a ≠ 0 → a ≠ c → a ≠ l → a ≠ e → F1 a = F a) (c1 : F1 c = .inr (18, [.ref lb, .ref lr, .int rn, .int md1])) (c2 : md1.toInt = md.toInt + 1)
    (q1 : F1 l = .inr (4, [.int m1, .ref E, .int 0])) (q2 : rEc D I γ F1 l e E) (hdc : dc ≤ 0) (hds : ds ≤ 0) :
    rBq D I P F γ el f c P F1 (gBlo γ b l) el b dc ds := by
  subst hcf
  obtain ⟨hR, b0, b1, b14, b15, b8⟩ := RS_blko hT hc hF hv hlt hb hFb he hfr c1 c2 q1 q2
  obtain ⟨w2, w3, w4, w5, w6, w7, w8, w9, w10, w11, w12, w13, w14, w15, w16, w17⟩ := rk9_at hF (show rk_9 γ el c (F c) from RS_o hT hc)
  obtain ⟨u1, u2, u3, u4, u5, u6, u7, u8⟩ := rk102_at hFb (show rk_102 γ b (F b) from RS_o hT b0)
  have hbl : b ≠ l := fun q => by rw [q, u2] at b0; cases b0
  have hlbl : lb ≠ l := fun q => by rw [q, u2] at w3; cases w3
  have hlrl : lr ≠ l := fun q => by rw [q, u2] at w5; cases w5
  have k0 : ∀ a, a ≠ b → a ≠ l → (gBlo γ b l) 0 a = γ 0 a := fun a h1 h2 => (if_neg h1).trans (if_neg h2)
  have kb : (gBlo γ b l) 0 b = 202 := if_pos rfl
  have kl : (gBlo γ b l) 0 l = 3 := (if_neg (Ne.symm hbl)).trans (if_pos rfl)
  have a21 : γ 21 (γ 1 c) = c := w2.2.2
  have o21 : (gBlo γ b l) 21 (γ 1 c) = c := a21
  have o14 : (gBlo γ b l) 14 = γ 14 := rfl
  have o15 : (gBlo γ b l) 15 = γ 15 := rfl
  have o13 : (gBlo γ b l) 13 = γ 13 := rfl
  have o17 : (gBlo γ b l) 17 = γ 17 := rfl
  have z2b : (gBlo γ b l) 2 lb = γ 2 lb := if_neg hlbl
  have z2r : (gBlo γ b l) 2 lr = γ 2 lr := if_neg hlrl
  have fc : (fI (F c) 3).toInt = md.toInt := by rw [hF]; rfl
  have fc1 : (fI (F1 c) 3).toInt = md1.toInt := by rw [c1]; rfl
  have hph : rPh (gBlo γ b l) el (γ 1 c) = rPh γ el (γ 1 c) := by
    unfold rPh rPhc
    rw [o21, o14, o15, o13, a21, w2.1, w2.2.1, z2b, z2r]
  have hM : rM (gBlo γ b l) el (γ 1 c) = rM γ el (γ 1 c) := by
    unfold rM rMc
    rw [o21, o14, o15, o17, a21, w2.1, w2.2.1, z2b, z2r]
  refine ⟨⟨hR, rSub_rf, ⟨fun a h0 ha => k0 a (fun q => ?_) (fun q => ?_), fun a h0 => ⟨?_, rfl, rfl, rfl, rfl, rfl, rfl⟩, fun a h0 ha => ⟨if_neg (fun q => ha (by rw [q]; exact u3.trans b1)), rfl, rfl, rfl⟩, ⟨rfl, rfl, rfl, rfl, rfl⟩, fun g hg => ⟨rfl, rfl, rfl, rfl, rfl, rfl⟩⟩, fun a h0 ha => hfr a h0 (fun q => ?_) (fun q => ?_) (fun q => ?_)⟩, kb, b1, ⟨md.toInt.toNat, by rw [fc1, c2]; omega, by rw [fc]; omega, by rw [w2.1, z2b]; omega, by rw [w2.1]; exact hb.symm, by rw [w2.1, z2b]; exact Nat.le_refl _, fun _ _ => rfl⟩, by rw [o14, b14]; exact if_pos rfl, rfl, rfl, ⟨rfl, rfl, rfl, rfl⟩, fun a ha => ⟨if_neg (fun q => by rw [q, u2] at ha; cases ha), rfl⟩, fun a _ => ⟨rfl, rfl⟩, ⟨by rw [hph]; omega, by rw [hph]; omega⟩, by rw [hM]; omega, fun B _ hB => ?_⟩
  · rw [q, b0, b1] at ha
    rcases ha with ha | ha
    · exact ha rfl
    · exact ha (by decide)
  · rw [q, u2, u3, b1] at ha
    rcases ha with ha | ha
    · exact ha rfl
    · exact ha (by decide)
  · by_cases q : a = b
    · rw [q, kb]; decide
    · by_cases q2 : a = l
      · rw [q2, kl]; decide
      · rw [k0 a q q2]; exact h0
  · rw [q, hc] at ha
    rcases ha with ha | ha
    · exact ha (by decide)
    · exact ha.1 rfl
  · rw [q, u2, u3, b1] at ha
    rcases ha with ha | ha
    · exact ha (by decide)
    · exact ha.1 rfl
  · rcases he with he | he
    · rw [q, he, u2, u3, b1] at ha
      rcases ha with ha | ha
      · exact ha (by decide)
      · exact ha.1 rfl
    · rw [q, he.1, he.2.2, u3, b1] at ha
      rcases ha with ha | ha
      · exact ha (by decide)
      · exact ha.1 rfl
  · unfold rBd at hB ⊢
    rw [a21, w2.1, w2.2.1] at hB
    rw [o21, o14, o15, o17, w2.1, w2.2.1, z2b, z2r]
    exact hB
theorem St_blkn {m1 z1 m2 p s : Int32} {f1 : Nat → Option Nat} {dc ds : Nat} (hT : RS D I P F γ el) (hs : rSub P P1) (hc : γ 0 c = 9) (hcf : γ 1 c = f) (hF : F c = .inr (18, [.ref lb, .ref lr, .int rn, .int md])) (hv : γ 6 f = 0) (heq : md.toInt = γ 2 lb)
    (hb : γ 0 b = 0) (hl : γ 0 l = 0) (hn : γ 0 n = 0) (hbl : b ≠ l) (hbn : b ≠ n) (hln : l ≠ n) (hbe : b ≠ e1) (hle : l ≠ e1) (hne : n ≠ e1) (hbP : b ∈ P1) (hlP : l ∈ P1) (hnP : n ∈ P1) (he1 : (γ 0 e1 = 7 ∧ γ 3 e1 = lb ∧ γ 1 e1 = γ 1 lb) ∨ γ 0 e1 = 0) (heP : e1 ∈ P1)
    (hfr : ∀ a, γ 0 a ≠ 0 → a ≠ c → a ≠ lb → a ≠ e1 → F1 a = F a) (c1 : F1 c = .inr (18, [.ref lb, .ref lr, .int rn, .int md1])) (c2 : md1.toInt = md.toInt + 1)
    (hFb : F1 b = .inr (17, [.ref l, .ref n, .int p, .int s])) (bp : gB p 0 39) (bs : gB s 0 39) (hFn : rkR (F1 n)) (hFl : F1 l = .inr (4, [.int m2, .ref (D.2 1002 1), .int 0]))
    (q1 : F1 lb = .inr (4, [.int m1, .ref e1, .int z1])) (q2 : z1.toInt = γ 2 lb + 1) (q3 : F1 e1 = .inl (I (.object "java/lang/Object"), n1, .inr (.inr (.inr (.inr f1)))))
    (d1 : γ 2 lb + 1 ≤ n1) (d2 : (n1 : Int) ≤ 1000000) (d3 : 2 * n1 ≤ 3 * max (γ 17 lb) (γ 2 lb + 1) + 20) (d4 : 10 ≤ n1)
    (g1 : ∀ j, j < γ 2 lb → f1 j = some (el lb j)) (g2 : f1 (γ 2 lb) = some b) (g4 : ∀ j w, f1 j = some w → rLK γ w ∨ w = b) (hdc : 18 * dc + 4 * γ 13 lb ≤ 4 * n1 + 54) (hds : ds + 4 * γ 13 lb ≤ 4 * n1 + 54) :
    rBq D I P F γ el f c P1 F1 (gBln γ lb b l n e1 n1 f) (eIns el lb (γ 2 lb) b) b dc ds := by
  subst hcf
  have hR := RS_blkn hT hs hc hF hv heq hb hl hn hbl hbn hln hbe hle hne hbP hlP hnP he1 heP hfr c1 c2 hFb bp bs hFn hFl q1 q2 q3 d1 d2 d3 d4 g1 g2 g4
  obtain ⟨w2, w3, w4, w5, w6, w7, w8, w9, w10, w11, w12, w13, w14, w15, w16, w17⟩ := rk9_at hF (show rk_9 γ el c (F c) from RS_o hT hc)
  obtain ⟨⟨m', z', e', v1, v2, v3, v4, v5⟩, -⟩ := show rk_4 D I γ el F lb from RS_o hT w3
  have nb : ∀ a, γ 0 a ≠ 0 → a ≠ b := fun a h q => h (q ▸ hb)
  have nl : ∀ a, γ 0 a ≠ 0 → a ≠ l := fun a h q => h (q ▸ hl)
  have nn : ∀ a, γ 0 a ≠ 0 → a ≠ n := fun a h q => h (q ▸ hn)
  have c0 : γ 0 c ≠ 0 := by rw [hc]; decide
  have lb0 : γ 0 lb ≠ 0 := by rw [w3]; decide
  have lr0 : γ 0 lr ≠ 0 := by rw [w5]; decide
  have hlrb : lr ≠ lb := fun q => by rw [q, w3] at w5; cases w5
  have ne1 : ∀ a, γ 0 a ≠ 0 → a = e1 → γ 0 e1 = 7 ∧ γ 3 e1 = lb ∧ γ 1 e1 = γ 1 lb := fun a h q => he1.resolve_right (fun z => h (q ▸ z))
  have k0 : ∀ a, γ 0 a ≠ 0 → (gBln γ lb b l n e1 n1 (γ 1 c)) 0 a = γ 0 a := fun a h => by
    show (if a = b then 202 else if a = l then 3 else if a = n then 101 else if a = e1 then 7 else γ 0 a) = _
    rw [if_neg (nb a h), if_neg (nl a h), if_neg (nn a h)]
    split
    · next q => rw [q]; exact (ne1 a h q).1.symm
    · rfl
  have k1 : ∀ a, γ 0 a ≠ 0 → (gBln γ lb b l n e1 n1 (γ 1 c)) 1 a = γ 1 a := fun a h => by
    show (if a = b ∨ a = l ∨ a = n ∨ a = e1 then γ 1 c else γ 1 a) = _
    by_cases q : a = e1
    · rw [if_pos (Or.inr (Or.inr (Or.inr q))), q, (ne1 a h q).2.2, w4]
    · exact if_neg (fun z => by rcases z with z | z | z | z; exact nb a h z; exact nl a h z; exact nn a h z; exact q z)
  have k2 : ∀ a, γ 0 a ≠ 0 → a ≠ lb → (gBln γ lb b l n e1 n1 (γ 1 c)) 2 a = γ 2 a := fun a h h2 => (if_neg (nl a h)).trans (if_neg h2)
  have k13 : ∀ a, γ 0 a ≠ 0 → a ≠ lb → (gBln γ lb b l n e1 n1 (γ 1 c)) 13 a = γ 13 a := fun a h h2 => (if_neg (nl a h)).trans (if_neg h2)
  have k17 : ∀ a, γ 0 a ≠ 0 → a ≠ lb → (gBln γ lb b l n e1 n1 (γ 1 c)) 17 a = γ 17 a := fun a h h2 => (if_neg (nl a h)).trans (if_neg h2)
  have k14 : ∀ a, γ 0 a ≠ 0 → (gBln γ lb b l n e1 n1 (γ 1 c)) 14 a = γ 14 a := fun a h => if_neg (nb a h)
  have k15 : ∀ a, γ 0 a ≠ 0 → (gBln γ lb b l n e1 n1 (γ 1 c)) 15 a = γ 15 a := fun a h => if_neg (nb a h)
  have z2 : (gBln γ lb b l n e1 n1 (γ 1 c)) 2 lb = γ 2 lb + 1 := (if_neg (nl lb lb0)).trans (if_pos rfl)
  have zl : (gBln γ lb b l n e1 n1 (γ 1 c)) 2 l = 0 := if_pos rfl
  have z13 : (gBln γ lb b l n e1 n1 (γ 1 c)) 13 lb = n1 := (if_neg (nl lb lb0)).trans (if_pos rfl)
  have z13l : (gBln γ lb b l n e1 n1 (γ 1 c)) 13 l = 0 := if_pos rfl
  have z17 : (gBln γ lb b l n e1 n1 (γ 1 c)) 17 lb = max (γ 17 lb) (γ 2 lb + 1) := (if_neg (nl lb lb0)).trans (if_pos rfl)
  have z17l : (gBln γ lb b l n e1 n1 (γ 1 c)) 17 l = 0 := if_pos rfl
  have y14 : (gBln γ lb b l n e1 n1 (γ 1 c)) 14 b = l := if_pos rfl
  have o21 : (gBln γ lb b l n e1 n1 (γ 1 c)) 21 (γ 1 c) = c := w2.2.2
  have o14 : (gBln γ lb b l n e1 n1 (γ 1 c)) 14 c = lb := (k14 c c0).trans w2.1
  have o15 : (gBln γ lb b l n e1 n1 (γ 1 c)) 15 c = lr := (k15 c c0).trans w2.2.1
  have ze : ∀ i, eIns el lb (γ 2 lb) b lb i = if i < γ 2 lb then el lb i else if i = γ 2 lb then b else el lb (i - 1) := fun i => if_pos rfl
  have zb : eIns el lb (γ 2 lb) b lb (γ 2 lb) = b := by rw [ze, if_neg (Nat.lt_irrefl _), if_pos rfl]
  have zo : ∀ i, i < γ 2 lb → eIns el lb (γ 2 lb) b lb i = el lb i := fun i hi => by rw [ze, if_pos hi]
  have lbi : ∀ i, i < γ 2 lb → γ 0 (el lb i) ≠ 0 := fun i hi q => by have := ((show rk_4 D I γ el F lb from RS_o hT w3).2 i hi).1; omega
  have lst : ∀ i, i < γ 2 lb → γ 0 (γ 14 (el lb i)) ≠ 0 ∧ γ 14 (el lb i) ≠ lb := fun i hi => by
    obtain ⟨r, -⟩ := RS_lst hT w3 hi
    exact ⟨by omega, fun q => by rw [q, w3] at r; omega⟩
  have s13 : rsum (fun i => 4 * (gBln γ lb b l n e1 n1 (γ 1 c)) 13 ((gBln γ lb b l n e1 n1 (γ 1 c)) 14 (eIns el lb (γ 2 lb) b lb i))) (γ 2 lb + 1) = rsum (fun i => 4 * γ 13 (γ 14 (el lb i))) (γ 2 lb) := by
    show rsum _ (γ 2 lb) + 4 * (gBln γ lb b l n e1 n1 (γ 1 c)) 13 ((gBln γ lb b l n e1 n1 (γ 1 c)) 14 (eIns el lb (γ 2 lb) b lb (γ 2 lb))) = _
    rw [zb, y14, z13l]
    refine rsum_c _ (fun i hi => ?_)
    show 4 * _ = 4 * _
    rw [zo i hi, k14 _ (lbi i hi), k13 _ (lst i hi).1 (lst i hi).2]
  have s17 : rsum (fun i => 9 * (gBln γ lb b l n e1 n1 (γ 1 c)) 17 ((gBln γ lb b l n e1 n1 (γ 1 c)) 14 (eIns el lb (γ 2 lb) b lb i)) + 60) (γ 2 lb + 1) = rsum (fun i => 9 * γ 17 (γ 14 (el lb i)) + 60) (γ 2 lb) + 60 := by
    show rsum _ (γ 2 lb) + (9 * (gBln γ lb b l n e1 n1 (γ 1 c)) 17 ((gBln γ lb b l n e1 n1 (γ 1 c)) 14 (eIns el lb (γ 2 lb) b lb (γ 2 lb))) + 60) = _
    rw [zb, y14, z17l]
    have h : rsum (fun i => 9 * (gBln γ lb b l n e1 n1 (γ 1 c)) 17 ((gBln γ lb b l n e1 n1 (γ 1 c)) 14 (eIns el lb (γ 2 lb) b lb i)) + 60) (γ 2 lb) = rsum (fun i => 9 * γ 17 (γ 14 (el lb i)) + 60) (γ 2 lb) := rsum_c _ (fun i hi => by
      show 9 * _ + 60 = 9 * _ + 60
      rw [zo i hi, k14 _ (lbi i hi), k17 _ (lst i hi).1 (lst i hi).2])
    rw [h]
  have fc : (fI (F c) 3).toInt = md.toInt := by rw [hF]; rfl
  have fc1 : (fI (F1 c) 3).toInt = md1.toInt := by rw [c1]; rfl
  have hph : rPh (gBln γ lb b l n e1 n1 (γ 1 c)) (eIns el lb (γ 2 lb) b) (γ 1 c) + 4 * γ 13 lb = rPh γ el (γ 1 c) + 4 * n1 + 54 := by
    unfold rPh rPhc
    rw [o21, o14, o15, w2.2.2, w2.1, w2.2.1, z2, k2 lr lr0 hlrb, z13, k13 lr lr0 hlrb, s13]
    omega
  refine ⟨⟨hR, hs, ⟨fun a h0 _ => k0 a h0, fun a h0 => ⟨by rw [k0 a h0]; exact h0, k1 a h0, k14 a h0, k15 a h0, if_neg (nb a h0), if_neg (nl a h0), if_neg (nn a h0)⟩, fun a h0 ha => ?_, ⟨rfl, rfl, rfl, rfl, rfl⟩, fun g hg => ⟨rfl, rfl, rfl, rfl, rfl, rfl⟩⟩, fun a h0 ha => hfr a h0 (fun q => ?_) (fun q => ?_) (fun q => ?_)⟩, if_pos rfl, if_pos (Or.inl rfl), ⟨md.toInt.toNat, by rw [fc1, c2]; omega, by rw [fc]; omega, by rw [w2.1, z2]; omega, ?_, by rw [w2.1, z2]; omega, fun i hi => by rw [w2.1]; exact zo i (by omega)⟩, by rw [y14]; exact zl, rfl, rfl, ⟨rfl, rfl, rfl, rfl⟩, fun a ha => ?_, fun a h0 => ⟨if_neg (nn a h0), rfl⟩, ⟨by omega, by omega⟩, ?_, fun B h40 hB => ?_⟩
  · have q : a ≠ lb := fun q => ha (by rw [q]; exact w4)
    exact ⟨k2 a h0 q, k13 a h0 q, k17 a h0 q, eIns_ne q⟩
  · rw [q, hc] at ha
    rcases ha with ha | ha
    · exact ha (by decide)
    · exact ha.1 rfl
  · rw [q, w3, w4] at ha
    rcases ha with ha | ha
    · exact ha (by decide)
    · exact ha.1 rfl
  · have h7 := ne1 a h0 q
    rw [q, h7.1, h7.2.2, w4] at ha
    rcases ha with ha | ha
    · exact ha (by decide)
    · exact ha.1 rfl
  · have e2 : md.toInt.toNat = γ 2 lb := by omega
    rw [w2.1, e2]
    exact zb
  · have a0 : γ 0 a ≠ 0 := by rw [ha]; decide
    have q : a ≠ lb := fun q => by rw [q, w3] at ha; cases ha
    exact ⟨k2 a a0 q, eIns_ne q⟩
  · unfold rM rMc
    rw [o21, o14, o15, w2.2.2, w2.1, w2.2.1, z2, k2 lr lr0 hlrb, z17, k17 lr lr0 hlrb, s17]
    unfold rCp at v5
    omega
  · rw [fc, heq] at h40
    unfold rBd at hB ⊢
    have e16 : (gBln γ lb b l n e1 n1 (γ 1 c)) 16 = γ 16 := rfl
    rw [w2.2.2, w2.1, w2.2.1] at hB
    rw [o21, o14, o15, z2, k2 lr lr0 hlrb, z17, k17 lr lr0 hlrb, e16]
    obtain ⟨b1, b2, b3, b4, b5, b6⟩ := hB
    refine ⟨b1, by omega, by omega, b4, b5, fun j hj => ?_⟩
    by_cases q : j = γ 2 lb
    · rw [q, zb, y14, z17l]; exact Nat.zero_le _
    · have hj2 : j < γ 2 lb := by omega
      rw [zo j hj2, k14 _ (lbi j hj2), k17 _ (lst j hj2).1 (lst j hj2).2]
      exact b6 j hj2
theorem St_seal {p s : Int32} (hT : RS D I P F γ el) (hb : γ 0 b = 202) (hbf : γ 1 b = f) (hF : F b = .inr (17, [.ref l, .ref n, .int p, .int s])) (hc : γ 0 c = 9) (hcf : γ 1 c = f) (hp : p.toInt < γ 19 f) (hs : s.toInt < γ 19 f) (hv : γ 6 f = 0) (hn1 : rk_1 γ n (F n)) : rSt f [101, 202] [101, 202] D I P F γ el P F (gSea γ b n) el := by
  subst hbf
  obtain ⟨u1, u2, u3, u4, u5, u6, u7, u8⟩ := rk202_at hF (show rk_202 γ b (F b) from RS_o hT hb)
  refine ⟨RS_seal hT hb hF hc hcf hp hs hv hn1, rSub_rf, ⟨fun a h0 ha => (if_neg (fun q => ?_)).trans (if_neg (fun q => ?_)), fun a h0 => ⟨?_, rfl, rfl, rfl, rfl, rfl, rfl⟩, fun a h0 ha => ⟨rfl, rfl, rfl, rfl⟩, ⟨rfl, rfl, rfl, rfl, rfl⟩, fun g hg => ⟨rfl, rfl, rfl, rfl, rfl, rfl⟩⟩, fun a h0 ha => rfl⟩
  · rw [q, hb] at ha
    rcases ha with ha | ha
    · exact ha rfl
    · exact ha (by decide)
  · rw [q, u4, u5] at ha
    rcases ha with ha | ha
    · exact ha rfl
    · exact ha (by decide)
  · show (if a = b then 2 else if a = n then 1 else γ 0 a) ≠ 0
    split
    · decide
    · split
      · decide
      · exact h0
theorem St_num (hT : RS D I P F γ el) (hc : γ 0 c = 9) (hcf : γ 1 c = f) (hj : ∀ j, j ≠ 6 → j ≠ 7 → j ≠ 19 → j ≠ 23 → γ1 j = γ j) (hg : ∀ j g, g ≠ f → γ1 j g = γ j g) (h7 : γ 7 f ≤ γ1 7 f) (h19 : γ 19 f ≤ γ1 19 f ∧ (γ1 6 f = γ 6 f ∨ γ1 6 f = 0 ∨ γ 19 f ≤ γ1 6 f)) (h23 : ∀ g, g < 2 → 0 < γ 6 g ∨ 0 < γ 23 g → 0 < γ1 6 g ∨ 0 < γ1 23 g)
    (h9 : ∀ lb lr rn md, F c = .inr (18, [.ref lb, .ref lr, .int rn, .int md]) → rk_9 γ el c (F c) → (γ1 6 f = 0 ∨ (md.toInt = γ1 6 f ∧ md.toInt ≤ 40 ∧ γ1 19 f ≤ γ1 6 f)) ∧ (∀ i : Nat, (i : Int) < md.toInt → γ 0 (el lb i) = 2 ∨ (γ1 6 f = 0 ∧ γ 0 (el lb i) = 202))) : rSt f [] [] D I P F γ el P F γ1 el := by
  have e : ∀ j, j ≠ 6 → j ≠ 7 → j ≠ 19 → j ≠ 23 → ∀ a, γ1 j a = γ j a := fun j h1 h2 h3 h4 a => by rw [hj j h1 h2 h3 h4]
  have e' : ∀ j, j ≠ 6 ∧ j ≠ 7 ∧ j ≠ 19 ∧ j ≠ 23 → ∀ a, γ1 j a = γ j a := fun j h a => e j h.1 h.2.1 h.2.2.1 h.2.2.2 a
  have ej : ∀ j, j ≠ 6 ∧ j ≠ 7 ∧ j ≠ 19 ∧ j ≠ 23 → γ1 j = γ j := fun j h => hj j h.1 h.2.1 h.2.2.1 h.2.2.2
  exact ⟨RS_num f hT hc hcf hj hg h7 h19 h23 h9, rSub_rf, ⟨fun a _ _ => e' 0 (by decide) a, fun a h0 => ⟨by rw [e' 0 (by decide)]; exact h0, e' 1 (by decide) a, e' 14 (by decide) a, e' 15 (by decide) a, e' 8 (by decide) a, e' 20 (by decide) a, e' 22 (by decide) a⟩, fun a h0 ha => ⟨e' 2 (by decide) a, e' 13 (by decide) a, e' 17 (by decide) a, rfl⟩, ⟨ej 9 (by decide), ej 10 (by decide), ej 11 (by decide), ej 12 (by decide), ej 21 (by decide)⟩, fun g h => ⟨hg 6 g h, hg 7 g h, hg 16 g h, hg 18 g h, hg 19 g h, hg 23 g h⟩⟩, fun a _ _ => rfl⟩
theorem St_beg (B : Nat) (hT : RS D I P F γ el) (hc : γ 0 c = 9) (hcf : γ 1 c = f) (hF : F c = .inr (18, [.ref lb, .ref lr, .int rn, .int md])) (hfr : ∀ a, γ 0 a ≠ 0 → a ≠ c → F1 a = F a) (c1 : F1 c = .inr (18, [.ref lb, .ref lr, .int 0, .int 0])) :
    rSt f [1, 2, 3, 202] [1, 2, 3, 9, 202] D I P F γ el P F1 (gBeg γ f B) el ∧ rPh (gBeg γ f B) el f = rPh γ el f ∧ rM (gBeg γ f B) el f = rM γ el f ∧ ∀ C, rBd γ el f C → rBd (gBeg γ f B) el f C := by
  subst hcf
  have hz : ∀ a, γ 0 a ≠ 0 → (gBeg γ (γ 1 c) B) 0 a ≠ 0 := fun a h0 => by
    show (if γ 1 a = γ 1 c then (if γ 0 a = 1 then 101 else if γ 0 a = 2 ∨ γ 0 a = 202 then 102 else if γ 0 a = 3 then 103 else γ 0 a) else γ 0 a) ≠ 0
    split
    · split
      · decide
      · split
        · decide
        · split
          · decide
          · exact h0
    · exact h0
  refine ⟨⟨RS_beg B hT hc hF hfr c1, rSub_rf, ⟨fun a h0 ha => ?_, fun a h0 => ⟨hz a h0, rfl, rfl, rfl, rfl, rfl, rfl⟩, fun a h0 ha => ⟨rfl, rfl, rfl, rfl⟩, ⟨rfl, rfl, rfl, rfl, rfl⟩, fun g hg => ⟨if_neg hg, if_neg hg, if_neg hg, if_neg hg, if_neg hg, if_neg hg⟩⟩, fun a h0 ha => hfr a h0 (fun q => ?_)⟩, rfl, rfl, fun C hC => ⟨?_, hC.2⟩⟩
  · by_cases q : γ 1 a = γ 1 c
    · have hk := ha.resolve_left (fun z => z q)
      have n1 : γ 0 a ≠ 1 := fun z => hk (by rw [z]; decide)
      have n2 : γ 0 a ≠ 2 := fun z => hk (by rw [z]; decide)
      have n3 : γ 0 a ≠ 3 := fun z => hk (by rw [z]; decide)
      have n4 : γ 0 a ≠ 202 := fun z => hk (by rw [z]; decide)
      show (if γ 1 a = γ 1 c then (if γ 0 a = 1 then 101 else if γ 0 a = 2 ∨ γ 0 a = 202 then 102 else if γ 0 a = 3 then 103 else γ 0 a) else γ 0 a) = γ 0 a
      rw [if_pos q, if_neg n1, if_neg (fun z => by rcases z with z | z; exact n2 z; exact n4 z), if_neg n3]
    · exact if_neg q
  · rw [q, hc] at ha
    rcases ha with ha | ha
    · exact ha (by decide)
    · exact ha.1 rfl
  · show (if γ 1 c = γ 1 c then 0 else _) ≤ C
    rw [if_pos rfl]
    exact Nat.zero_le _
end RST3
