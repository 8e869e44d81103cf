section ROP5
variable {D : va_G} {I : FieldType → ClassId} {P P1 : List Nat} {F F1 : Nat → va_E} {γ el : Nat → Nat → Nat} {l x c e e1 n1 k lb lr b n : Nat} {rn md rn1 md1 : Int32}
theorem RS_blkn {m1 z1 m2 p s : Int32} {f1 : Nat → Option Nat} (hT : RS D I P F γ el) (hs : rSub P P1) (hc : γ 0 c = 9) (hF : F c = .inr (18, [.ref lb, .ref lr, .int rn, .int md])) (hv : γ 6 (γ 1 c) = 0) (heq : md.toInt = γ 2 lb)
    (hb : γ 0 b = 0) (hl : γ 0 l = 0) (hn : γ 0 n = 0) (hbl : b ≠ l) (hbn : b ≠ n) (hln : l ≠ n) (hbe : b ≠ e1) (hle : l ≠ e1) (hne : n ≠ e1) (hbP : b ∈ P1) (hlP : l ∈ P1) (hnP : n ∈ P1) (he1 : (γ 0 e1 = 7 ∧ γ 3 e1 = lb ∧ γ 1 e1 = γ 1 lb) ∨ γ 0 e1 = 0) (heP : e1 ∈ P1)
    (hfr : ∀ a, γ 0 a ≠ 0 → a ≠ c → a ≠ lb → a ≠ e1 → F1 a = F a) (c1 : F1 c = .inr (18, [.ref lb, .ref lr, .int rn, .int md1])) (c2 : md1.toInt = md.toInt + 1)
    (hFb : F1 b = .inr (17, [.ref l, .ref n, .int p, .int s])) (bp : gB p 0 39) (bs : gB s 0 39) (hFn : rkR (F1 n)) (hFl : F1 l = .inr (4, [.int m2, .ref (D.2 1002 1), .int 0]))
    (q1 : F1 lb = .inr (4, [.int m1, .ref e1, .int z1])) (q2 : z1.toInt = γ 2 lb + 1) (q3 : F1 e1 = .inl (I (.object "java/lang/Object"), n1, .inr (.inr (.inr (.inr f1)))))
    (d1 : γ 2 lb + 1 ≤ n1) (d2 : (n1 : Int) ≤ 1000000) (d3 : 2 * n1 ≤ 3 * max (γ 17 lb) (γ 2 lb + 1) + 20) (d4 : 10 ≤ n1)
    (g1 : ∀ j, j < γ 2 lb → f1 j = some (el lb j)) (g2 : f1 (γ 2 lb) = some b) (g4 : ∀ j w, f1 j = some w → rLK γ w ∨ w = b) :
    RS D I P1 F1 (gBln γ lb b l n e1 n1 (γ 1 c)) (eIns el lb (γ 2 lb) b) := by
  obtain ⟨w2, w3, w4, w5, w6, w7, w8, w9, w10, w11, w12, w13, w14, w15, w16, w17⟩ := rk9_at hF (show rk_9 γ el c (F c) from RS_o hT hc)
  have h4 : rk_4 D I γ el F lb := RS_o hT w3
  have nb : ∀ a, γ 0 a ≠ 0 → a ≠ b := fun a h q => h (q ▸ hb)
  have nl : ∀ a, γ 0 a ≠ 0 → a ≠ l := fun a h q => h (q ▸ hl)
  have nn : ∀ a, γ 0 a ≠ 0 → a ≠ n := fun a h q => h (q ▸ hn)
  have c0 : γ 0 c ≠ 0 := by rw [hc]; decide
  have lb0 : γ 0 lb ≠ 0 := by rw [w3]; decide
  have lr0 : γ 0 lr ≠ 0 := by rw [w5]; decide
  have hlre : lr ≠ lb := fun q => by rw [q, w3] at w5; cases w5
  have hclb : c ≠ lb := fun q => by rw [q, w3] at hc; cases hc
  have ne1 : ∀ a, γ 0 a ≠ 0 → a = e1 → γ 0 e1 = 7 ∧ γ 3 e1 = lb ∧ γ 1 e1 = γ 1 lb := fun a h q => he1.resolve_right (fun z => h (q ▸ z))
  have hce : c ≠ e1 := fun q => by have := (ne1 c c0 q).1; rw [← q, hc] at this; cases this
  have hlbe : lb ≠ e1 := fun q => by have := (ne1 lb lb0 q).1; rw [← q, w3] at this; cases this
  generalize hγ1 : gBln γ lb b l n e1 n1 (γ 1 c) = γ1
  have k0 : ∀ a, γ 0 a ≠ 0 → γ1 0 a = γ 0 a := fun a h => by
    rw [← hγ1]
    show (if a = b then 202 else if a = l then 3 else if a = n then 101 else if a = e1 then 7 else γ 0 a) = _
    rw [if_neg (nb a h), if_neg (nl a h), if_neg (nn a h)]
    split
    · next q => rw [q]; exact (ne1 a h q).1.symm
    · rfl
  have k1 : ∀ a, γ 0 a ≠ 0 → γ1 1 a = γ 1 a := fun a h => by
    rw [← hγ1]
    show (if a = b ∨ a = l ∨ a = n ∨ a = e1 then γ 1 c else γ 1 a) = _
    by_cases q : a = e1
    · rw [if_pos (Or.inr (Or.inr (Or.inr q))), q, (ne1 a h q).2.2, w4]
    · exact if_neg (fun z => by rcases z with z | z | z | z; exact nb a h z; exact nl a h z; exact nn a h z; exact q z)
  have k3 : ∀ a, γ 0 a ≠ 0 → γ1 3 a = γ 3 a := fun a h => by
    rw [← hγ1]
    show (if a = e1 then lb else γ 3 a) = _
    split
    · next q => rw [q]; exact (ne1 a h q).2.1.symm
    · rfl
  have k4 : ∀ a, γ 0 a ≠ 0 → γ1 4 a = γ 4 a := fun a h => by rw [← hγ1]; exact if_neg (nn a h)
  have k5 : γ1 5 = γ 5 := by rw [← hγ1]; rfl
  have k8 : ∀ a, γ 0 a ≠ 0 → γ1 8 a = γ 8 a := fun a h => by rw [← hγ1]; exact if_neg (nb a h)
  have k14 : ∀ a, γ 0 a ≠ 0 → γ1 14 a = γ 14 a := fun a h => by rw [← hγ1]; exact if_neg (nb a h)
  have k15 : ∀ a, γ 0 a ≠ 0 → γ1 15 a = γ 15 a := fun a h => by rw [← hγ1]; exact if_neg (nb a h)
  have k20 : ∀ a, γ 0 a ≠ 0 → γ1 20 a = γ 20 a := fun a h => by rw [← hγ1]; exact if_neg (nl a h)
  have k22 : ∀ a, γ 0 a ≠ 0 → γ1 22 a = γ 22 a := fun a h => by rw [← hγ1]; exact if_neg (nn a h)
  have k2 : ∀ a, γ 0 a ≠ 0 → a ≠ lb → γ1 2 a = γ 2 a := fun a h h2 => by rw [← hγ1]; exact (if_neg (nl a h)).trans (if_neg h2)
  have k13 : ∀ a, γ 0 a ≠ 0 → a ≠ lb → γ1 13 a = γ 13 a := fun a h h2 => by rw [← hγ1]; exact (if_neg (nl a h)).trans (if_neg h2)
  have k17 : ∀ a, γ 0 a ≠ 0 → a ≠ lb → γ1 17 a = γ 17 a := fun a h h2 => by rw [← hγ1]; exact (if_neg (nl a h)).trans (if_neg h2)
  have kb : γ1 0 b = 202 := by rw [← hγ1]; exact if_pos rfl
  have kl : γ1 0 l = 3 := by rw [← hγ1]; exact (if_neg (Ne.symm hbl)).trans (if_pos rfl)
  have kn : γ1 0 n = 101 := by rw [← hγ1]; exact (if_neg (Ne.symm hbn)).trans ((if_neg (Ne.symm hln)).trans (if_pos rfl))
  have ke : γ1 0 e1 = 7 := by rw [← hγ1]; exact (if_neg (Ne.symm hbe)).trans ((if_neg (Ne.symm hle)).trans ((if_neg (Ne.symm hne)).trans (if_pos rfl)))
  have f1b : γ1 1 b = γ 1 c := by rw [← hγ1]; exact if_pos (Or.inl rfl)
  have f1l : γ1 1 l = γ 1 c := by rw [← hγ1]; exact if_pos (Or.inr (Or.inl rfl))
  have f1n : γ1 1 n = γ 1 c := by rw [← hγ1]; exact if_pos (Or.inr (Or.inr (Or.inl rfl)))
  have f1e : γ1 1 e1 = γ 1 c := by rw [← hγ1]; exact if_pos (Or.inr (Or.inr (Or.inr rfl)))
  have z2 : γ1 2 lb = γ 2 lb + 1 := by rw [← hγ1]; exact (if_neg (nl lb lb0)).trans (if_pos rfl)
  have zl : γ1 2 l = 0 := by rw [← hγ1]; exact if_pos rfl
  have z13 : γ1 13 lb = n1 := by rw [← hγ1]; exact (if_neg (nl lb lb0)).trans (if_pos rfl)
  have z13l : γ1 13 l = 0 := by rw [← hγ1]; exact if_pos rfl
  have z17 : γ1 17 lb = max (γ 17 lb) (γ 2 lb + 1) := by rw [← hγ1]; exact (if_neg (nl lb lb0)).trans (if_pos rfl)
  have z17l : γ1 17 l = 0 := by rw [← hγ1]; exact if_pos rfl
  have ze3 : γ1 3 e1 = lb := by rw [← hγ1]; exact if_pos rfl
  have y8 : γ1 8 b = γ 2 lb := by rw [← hγ1]; exact if_pos rfl
  have y14 : γ1 14 b = l := by rw [← hγ1]; exact if_pos rfl
  have y15 : γ1 15 b = n := by rw [← hγ1]; exact if_pos rfl
  have y20 : γ1 20 l = b := by rw [← hγ1]; exact if_pos rfl
  have y4 : γ1 4 n = b := by rw [← hγ1]; exact if_pos rfl
  have y22 : γ1 22 n = 1 := by rw [← hγ1]; exact if_pos rfl
  have kj : ∀ j, j = 6 ∨ j = 7 ∨ j = 9 ∨ j = 10 ∨ j = 11 ∨ j = 12 ∨ j = 16 ∨ j = 18 ∨ j = 19 ∨ j = 21 ∨ j = 23 → γ1 j = γ j := fun j hj => by
    rw [← hγ1]
    rcases hj with rfl | rfl | rfl | rfl | rfl | rfl | rfl | rfl | rfl | rfl | rfl <;> rfl
  have kk : ∀ a, γ1 0 a ≠ 0 → γ 0 a ≠ 0 ∨ a = b ∨ a = l ∨ a = n ∨ a = e1 := fun a ha => by
    by_cases q1 : a = b; exact Or.inr (Or.inl q1)
    by_cases q2 : a = l; exact Or.inr (Or.inr (Or.inl q2))
    by_cases q3 : a = n; exact Or.inr (Or.inr (Or.inr (Or.inl q3)))
    by_cases q4 : a = e1; exact Or.inr (Or.inr (Or.inr (Or.inr q4)))
    rw [← hγ1] at ha
    change (if a = b then 202 else if a = l then 3 else if a = n then 101 else if a = e1 then 7 else γ 0 a) ≠ 0 at ha
    rw [if_neg q1, if_neg q2, if_neg q3, if_neg q4] at ha
    exact Or.inl ha
  clear hγ1
  have hlk : ∀ w, rLK γ w → rLK γ1 w := fun w hw => by
    have h0 : γ 0 w ≠ 0 := by unfold rLK at hw; omega
    unfold rLK at hw ⊢
    rw [k0 w h0]
    exact hw
  have ze : ∀ i, eIns el lb (γ 2 lb) b lb i = if i < γ 2 lb then el lb i else if i = γ 2 lb then b else el lb (i - 1) := fun i => if_pos rfl
  have zb : eIns el lb (γ 2 lb) b lb (γ 2 lb) = b := by rw [ze, if_neg (Nat.lt_irrefl _), if_pos rfl]
  have zo : ∀ i, i < γ 2 lb → eIns el lb (γ 2 lb) b lb i = el lb i := fun i hi => by rw [ze, if_pos hi]
  have lbi : ∀ i, i < γ 2 lb → γ 0 (el lb i) ≠ 0 := fun i hi q => by have := (h4.2 i hi).1; omega
  refine RS_gen (T := fun a => a = c ∨ a = lb ∨ a = b ∨ a = l ∨ a = n ∨ a = e1) (γ 1 c) hT (fun a ha => ?_) (fun a ha hTa => ?_) (fun a ha hTa => ?_) (fun a h0 hTa => ?_) (fun a h4 _ => k0 a (by omega)) (fun a h0 _ => k0 a h0) hlk (fun j a h0 hj => ?_) (fun j hj => kj j (by omega)) (fun j g hg hj => congrFun (kj j (by omega)) g) (Or.inl (Nat.le_of_eq (congrFun (kj 7 (by decide)) _).symm)) (Or.inl ⟨Nat.le_of_eq (congrFun (kj 19 (by decide)) _).symm, Or.inl (congrFun (kj 6 (by decide)) _)⟩) (fun g _ h => by rw [kj 6 (by decide), kj 23 (by decide)]; exact h) (fun a h0 hTa => ?_) (fun e' he' hTe => ?_) (fun a h0 hTa ha => ⟨k4 a h0, congrFun k5 a⟩) (fun a ha haf => Or.inl (RS_same_c hT hc ha haf)) (Or.inr ⟨fun a h0 => Or.inl (k0 a h0), fun a ha hne => absurd ((k0 a (by rw [ha]; decide)).trans ha) hne, fun a ha hne h22 => absurd ((k0 a (by rw [ha]; decide)).trans ha) hne⟩)
  · rcases kk a ha with h | rfl | rfl | rfl | rfl
    · exact hs a (hT.1 a h)
    · exact hbP
    · exact hlP
    · exact hnP
    · exact heP
  · by_cases ec : a = c
    · rw [ec, k0 c c0, hc]
      clear hTa ec ha
      refine ⟨lb, lr, rn, md1, c1, ⟨(k14 c c0).trans w2.1, (k15 c c0).trans w2.2.1, by rw [k1 c c0, kj 21 (by decide)]; exact w2.2.2⟩, (k0 lb lb0).trans w3, ?_, (k0 lr lr0).trans w5, ?_, w7, by rw [k2 lr lr0 hlre]; exact w8, by rw [c2]; omega, by rw [z2, c2, heq]; omega, by rw [k2 lr lr0 hlre]; exact w11, ?_, Or.inl (by rw [k1 c c0, kj 6 (by decide)]; exact hv), fun i hi => ?_, fun i hi hi2 => ?_, fun i hi hi2 => ?_, ?_⟩
      · unfold rFm; rw [k1 lb lb0, k1 c c0]; exact w4
      · unfold rFm; rw [k1 lr lr0, k1 c c0]; exact w6
      · rw [z2]; clear w14 w15 w16 w17 g1 g4 hfr; omega
      · rw [c2, heq] at hi
        by_cases q : i = γ 2 lb
        · rw [q, zb]
          exact Or.inr ⟨by rw [k1 c c0, kj 6 (by decide)]; exact hv, kb⟩
        · have hi3 : i < γ 2 lb := by omega
          rw [zo i hi3, k0 _ (lbi i hi3), k1 c c0, kj 6 (by decide)]
          exact w14 i (by rw [heq]; exact_mod_cast hi3)
      · rw [z2] at hi2
        rw [c2, heq] at hi
        omega
      · rw [k2 lr lr0 hlre] at hi2
        rw [eIns_ne hlre]
        have v := w16 i hi hi2
        exact (k0 _ (by rw [v]; decide)).trans v
      · unfold rCd
        rw [k1 c c0, kj 16 (by decide), kj 18 (by decide)]
        refine ⟨w17.1, ?_⟩
        have e1 : md1.toInt.toNat = md.toInt.toNat + 1 := by omega
        have e2 : md.toInt.toNat = γ 2 lb := by omega
        have hsum : rsum (fun i => γ1 2 (γ1 14 (eIns el lb (γ 2 lb) b lb i))) md.toInt.toNat = rsum (fun i => γ 2 (γ 14 (el lb i))) md.toInt.toNat := rsum_c _ (fun i hi => by
          have hi3 : i < γ 2 lb := by omega
          show γ1 2 (γ1 14 (eIns el lb (γ 2 lb) b lb i)) = _
          rw [zo i hi3, k14 _ (lbi i hi3)]
          have r2 : γ 0 (γ 14 (el lb i)) = 3 := by
            rcases w14 i (by omega) with r | ⟨-, r⟩
            · obtain ⟨l', n', p', s', v1, v2, v3, -⟩ := show rk_2 γ (el lb i) (F (el lb i)) from RS_o hT r
              rw [v2.1]; exact v3
            · obtain ⟨l', n', p', s', v1, v2, v3, -⟩ := show rk_202 γ (el lb i) (F (el lb i)) from RS_o hT r
              rw [v2.1]; exact v3
          exact k2 _ (by rw [r2]; decide) (fun q => by rw [q, w3] at r2; cases r2))
        rw [e1]
        show rsum (fun i => γ1 2 (γ1 14 (eIns el lb (γ 2 lb) b lb i))) md.toInt.toNat + γ1 2 (γ1 14 (eIns el lb (γ 2 lb) b lb md.toInt.toNat)) + γ 18 (γ 1 c) ≤ γ 16 (γ 1 c)
        rw [hsum, e2, zb, y14, zl, ← e2]
        exact w17.2
    by_cases elb : a = lb
    · rw [elb, k0 lb lb0, w3]
      clear hTa ec ha
      refine ⟨⟨m1, z1, e1, q1, by rw [z2]; exact q2, by rw [z2]; clear w14 w15 w16 w17 g1 g4 hfr; omega, Or.inr ⟨ke, ⟨ze3, by rw [f1e, k1 lb lb0, w4]⟩, n1, f1, q3, by rw [z2]; exact d1, d2, ⟨z13.symm, d4⟩, fun i hi => ?_, fun j w hj => ?_⟩, ?_⟩, fun i hi => ?_⟩
      · rw [z2] at hi
        by_cases q : i = γ 2 lb
        · rw [q, zb]; exact g2
        · rw [zo i (by omega)]; exact g1 i (by omega)
      · rcases g4 j w hj with h | h
        · exact hlk w h
        · rw [h]; exact Or.inr (Or.inr (Or.inr (Or.inr kb)))
      · unfold rCp
        rw [z2, z13, z17]
        clear w14 w15 w16 w17 g1 g4 hfr
        omega
      · rw [z2] at hi
        by_cases q : i = γ 2 lb
        · rw [q, zb, kb, f1b, k1 lb lb0, y8]
          exact ⟨Or.inr (Or.inl rfl), w4.symm, rfl⟩
        · have hi3 : i < γ 2 lb := by omega
          rw [zo i hi3, k0 _ (lbi i hi3), k1 _ (lbi i hi3), k1 lb lb0, k8 _ (lbi i hi3)]
          exact h4.2 i hi3
    by_cases eb : a = b
    · rw [eb, kb]
      exact ⟨l, n, p, s, hFb, ⟨y14, y15, y20⟩, kl, f1l.trans f1b.symm, kn, f1n.trans f1b.symm, ⟨y4, y22⟩, bp, bs⟩
    by_cases el' : a = l
    · rw [el', kl]
      exact ⟨⟨m2, 0, D.2 1002 1, hFl, by rw [zl]; rfl, by rw [zl]; decide, Or.inl ⟨rfl, zl, z13l⟩, by unfold rCp; rw [zl, z13l, z17l]; decide⟩, fun i hi => by rw [zl] at hi; cases hi⟩
    by_cases en : a = n
    · rw [en, kn]
      exact hFn
    · have ee : a = e1 := by rcases hTa with h | h | h | h | h | h; exact absurd h ec; exact absurd h elb; exact absurd h eb; exact absurd h el'; exact absurd h en; exact h
      rw [ee, ke]
      exact trivial
  · rcases kk a ha with h | h | h | h | h
    · exact ⟨h, k0 a h, hfr a h (fun q => hTa (Or.inl q)) (fun q => hTa (Or.inr (Or.inl q))) (fun q => hTa (Or.inr (Or.inr (Or.inr (Or.inr (Or.inr q))))))⟩
    · exact absurd (Or.inr (Or.inr (Or.inl h))) hTa
    · exact absurd (Or.inr (Or.inr (Or.inr (Or.inl h)))) hTa
    · exact absurd (Or.inr (Or.inr (Or.inr (Or.inr (Or.inl h))))) hTa
    · exact absurd (Or.inr (Or.inr (Or.inr (Or.inr (Or.inr h))))) hTa
  · rcases hTa with rfl | rfl | h | h | h | h
    · rfl
    · exact w4
    · exact absurd h (nb a h0)
    · exact absurd h (nl a h0)
    · exact absurd h (nn a h0)
    · rw [h, (ne1 a h0 h).2.2]; exact w4
  · rcases hj with rfl | rfl | rfl | rfl | rfl | rfl | rfl
    · exact k1 a h0
    · exact k3 a h0
    · exact k8 a h0
    · exact k14 a h0
    · exact k15 a h0
    · exact k20 a h0
    · exact k22 a h0
  · have hne : a ≠ lb := fun q => hTa (Or.inr (Or.inl q))
    exact ⟨k2 a h0 hne, k13 a h0 hne, k17 a h0 hne, eIns_ne hne⟩
  · refine hfr e' (by omega) (fun q => by rw [q, hc] at he'; omega) (fun q => by rw [q, w3] at he'; omega) (fun q => hTe (Or.inr (Or.inl ?_)))
    rw [q]
    exact (ne1 e' (by omega) q).2.1
end ROP5
