section
/-! the law: the model's calls that change its ghosts: input, list -/
section GLG
variable {l : Launch} {R : Room} {Qf : gFin} {k : gKey} {pc cs sl i m : Nat} {L : List (Nat × Value)} {st : List Value} {D : va_G} {I : FieldType → ClassId} {X : va_W} {P : List Nat} {F : Nat → va_E} {γ el : Nat → Nat → Nat} {n : Int}
theorem Gm_input (hl0 : l.stackTraces = false) (d : decode k.1 pc = .ok (.invokevirtual i, 3)) (hw : gCw (gV D I) R k.2.2.1 i yX17_input cX17_input 3 (some FieldType.int) 1 20 0) (w2 : Cond.instanceMethod yX17_input ∈ (gV D I).2.2.2.2) (w3 : Cond.selects yX17_input.cls yX17_input yX17_input ∈ (gV D I).2.2.2.2)
    (h : mdS D I m n P F γ el) (hcs : cs + 1 ≤ R.cells) (hsl : sl + 2048 ≤ R.slots) (hcat : (st.map fun u => u.category).sum ≤ 8)
    (kk : ∀ (P1 : List Nat) (F1 : Nat → va_E) (γ2 : Nat → Nat → Nat) (z : Int32) (dc ds : Nat), mdS D I m 0 P1 F1 γ2 el → (∀ j, j ≠ 0 → j ≠ 12 → γ2 j = γ j) → wDN γ2 F1 = wDN γ F → lRN γ2 F1 m = lRN γ F m → dc ≤ 1 → 4 * (ds : Int) ≤ n → z.toInt = n / 4 → kpT m γ el F γ2 el F1 → kpG m γ el F γ2 el F1 → (mO (F1 m)).2 = (mO (F m)).2 → fI (F1 m) 34 = fI (F m) 34 → kpS m γ F F1 → (∃ ft, F (γ 9 31) = .inl (I .byte, 8192, .inl ft) ∧ ∃ p, F1 (fR (F1 m) 28) = .inl (I .int, (n / 4).toNat, .inl p) ∧ ∀ q, q < (n / 4).toNat → p q = i4 ft q 4) → G (gV D I) l R Qf k (pc + 3) L (.int z :: st) (X ++ va_pl P1 F1) (cs + dc) (sl + ds)) :
    G (gV D I) l R Qf k pc L (.ref m :: st) (X ++ va_pl P F) cs sl := by
  obtain ⟨s1, s2, s3, s4, s5, s6, s7, s8, s9⟩ := id h
  obtain ⟨r28, r35, v9, v10, v11, v12, v13, v14, v23, v24, v25, v26, v27, v30, v32, v33, v34, he, -, -, -⟩ := rk10_m (show rk_10 γ (F m) from RS_o s1 s2)
  obtain ⟨c27, c28, c29⟩ := md_k s1 s2
  refine Gf_2V (As := []) (gV_ok D I) (cp_input l hl0 D I s1 s2) d hw w2 w3 (s1.1 m (by omega)) he rfl hcs hsl hcat (fun r w dc ds hp => ?_) (fun _ _ _ _ _ z => z.elim)
  obtain ⟨P1, F1, γ1, z, rfl, rfl, hk, hj, e9, e10, e32, hdc, hds, e35, ex, eO, e34, ft, eft, p, ep, epq⟩ := hp
  have m1 : γ1 0 m = 10 := rSk_k hk (show rKd γ m 10 from s2) (by decide) (by decide)
  have fW : F1 (γ 9 29) = F (γ 9 29) := rSk_F hk (show rKd γ (γ 9 29) 28 from c28) (by decide) (by decide)
  have hj2 : ∀ j, j ≠ 0 → j ≠ 12 → γ1 j = γ j := fun j h _ => hj j h
  obtain ⟨γ2, g1, g2, g3, g4⟩ := mdS_k hk.1 m1 e32 (by rw [e9, hj 6 (by decide), hj 16 (by decide)]; exact s4) (by rw [e10, hj 6 (by decide)]; exact s5) (by rw [hj 7 (by decide)]; exact s6) (rBd_j hj2 s7) (rBd_j hj2 s8)
  have hj3 : ∀ j, j ≠ 0 → j ≠ 12 → γ2 j = γ j := fun j h h12 => (g2 j h h12).trans (hj j h)
  refine kk P1 F1 γ2 z dc ds g1 hj3 ?_ ?_ hdc (by rw [← s3]; exact hds) (by rw [← s3]; exact ex) (kpT_tr (kpT_i h hk hj (by rw [e9])) (kpT_j g2)) (kpG_tr ⟨by rw [e10], gvR_sk h hk (by decide) (by decide)⟩ (kpG_j g2)) eO e34 (kpS_sk h hk (by decide) (by decide) e35) ⟨ft, eft, p, by rw [← s3]; exact ep, fun q hq => epq q (by rw [s3]; exact hq)⟩
  · rw [g3]; unfold wDN; rw [hj 9 (by decide), hj 12 (by decide), fW]
  · rw [g4]; unfold lRN; rw [hj 12 (by decide), e35]
theorem Gm_list {C mc ms : Nat} {gi : Int32} (hl0 : l.stackTraces = false) (d : decode k.1 pc = .ok (.invokevirtual i, 3)) (hw : gCw (gV D I) R k.2.2.1 i yX17_list__ cX17_list__ 3 (some FieldType.int) 9 230 1) (w2 : Cond.instanceMethod yX17_list__ ∈ (gV D I).2.2.2.2) (w3 : Cond.selects yX17_list__.cls yX17_list__ yX17_list__ ∈ (gV D I).2.2.2.2)
    (h : mdS D I m n P F γ el) (hC0 : (fI (F m) 9).toInt = 0 ∨ 52 * γ 16 0 + 2400 ≤ C) (hC1 : 52 * γ 16 1 + 2400 ≤ C) (hr : rmW mc ms (wDN γ F) C) (h2C : 2 * C ≤ ms) (h64 : 64 ≤ lRN γ F m) (hcs : cs + mc ≤ R.cells) (hsl : sl + ms ≤ R.slots) (hcat : (st.map fun u => u.category).sum ≤ 8)
    (kk : ∀ (P1 : List Nat) (F1 : Nat → va_E) (γ2 : Nat → Nat → Nat) (z : Int32) (dc ds : Nat), mdS D I m n P1 F1 γ2 el → (∀ j, j ≠ 0 → j ≠ 12 → γ2 j = γ j) → lsC (wDN γ F) (lRN γ F m) (wDN γ2 F1) (lRN γ2 F1 m) C dc ds → kpT m γ el F γ2 el F1 → kpG m γ el F γ2 el F1 → ((mO (F1 m)).1.1, (mO (F1 m)).2) = ((mO (F m)).1.1, (mO (F m)).2) → F1 (fR (F m) 28) = F (fR (F m) 28) → F1 (γ 9 22) = F (γ 9 22) → lsM γ el F m gi z F1 → G (gV D I) l R Qf k (pc + 3) L (.int z :: st) (X ++ va_pl P1 F1) (cs + dc) (sl + ds)) :
    G (gV D I) l R Qf k pc L (.int gi :: .ref m :: st) (X ++ va_pl P F) cs sl := by
  obtain ⟨s1, s2, s3, s4, s5, s6, s7, s8, s9⟩ := id h
  obtain ⟨r28, r35, v9, v10, v11, v12, v13, v14, v23, v24, v25, v26, v27, v30, v32, v33, v34, he, -, -, -⟩ := rk10_m (show rk_10 γ (F m) from RS_o s1 s2)
  refine Gf_2V (As := [.int gi]) (gV_ok D I) (cp_lsb l hl0 D I (C := C) (gi := gi) s1 s2 (s4.imp id (fun q => q.1)) s5 hC0 hC1 hr h2C h64) d hw w2 w3 (s1.1 m (by omega)) he rfl hcs hsl hcat (fun r w dc ds hp => ?_) (fun _ _ _ _ _ z => z.elim)
  obtain ⟨P1, F1, γ1, z, n1, L1, rfl, rfl, hT1, hs1, hst, hj, hk, e9, e10, e32, eO, en, eL, hc, hM⟩ := hp
  have m1 : γ1 0 m = 10 := (hk m (by omega)).1.trans s2
  obtain ⟨γ2, g1, g2, g3, g4⟩ := mdS_k (n := n) hT1 m1 (by rw [e32]; exact s3) (by rw [e9, hj 6 (by decide) (by decide), hj 16 (by decide) (by decide)]; exact s4) (by rw [e10, hj 6 (by decide) (by decide)]; exact s5) (by rw [hj 7 (by decide) (by decide)]; exact s6) (rBd_j hj s7) (rBd_j hj s8)
  have a1 : wDN γ2 F1 = n1 := by rw [g3]; unfold wDN; rw [hj 9 (by decide) (by decide)]; exact en
  have a2 : lRN γ2 F1 m = L1 := by rw [g4]; exact eL
  exact kk P1 F1 γ2 z dc ds g1 (fun j h0 h12 => (g2 j h0 h12).trans (hj j h0 h12)) (by rw [a1, a2]; exact hc) (kpT_tr (kpT_tr (kpT_W h hst (by decide) (by rw [e9])) (kpT_j hj)) (kpT_j g2)) (kpG_tr (kpG_tr (kpG_t h hst (by decide) (by rw [e10])) (kpG_j hj)) (kpG_j g2)) eO (hst _ (by have q := m28_9 s1 s2; omega) (Or.inr (by have q := m28_9 s1 s2; omega)) (by rw [m28_9 s1 s2]; decide)) (hst _ (by have q := k22_o s1 s2; omega) (Or.inr (by have q := k22_o s1 s2; omega)) (by rw [k22_o s1 s2]; decide)) hM
end GLG
end
section
/-! what a step of one program leaves of another -/
section RFM
variable {D : va_G} {I : FieldType → ClassId} {P P1 : List Nat} {F F1 : Nat → va_E} {γ el γ1 el1 : Nat → Nat → Nat} {f c g : Nat} {K KF : List Nat}
theorem rSk_fam (hT : RS D I P F γ el) (h : rSk f K KF D I P F γ el P1 F1 γ1 el1) (hc : γ 0 c = 9) (hg : γ 1 c = g) (hne : g ≠ f) : rPh γ1 el1 g = rPh γ el g ∧ rM γ1 el1 g = rM γ el g ∧ (∀ B, rBd γ el g B → rBd γ1 el1 g B) ∧ γ1 6 g = γ 6 g ∧ γ1 7 g = γ 7 g ∧ γ1 16 g = γ 16 g := by
  obtain ⟨lb, lr, rn, md, w1, w2, w3, w4, w5, w6, -⟩ := show rk_9 γ el c (F c) from RS_o hT hc
  obtain ⟨x1, x2, x3, x4, x5⟩ := h.2.2.1
  have e21 : γ 21 g = c := by rw [← hg]; exact w2.2.2
  have E21 : γ1 21 g = c := by rw [x4.2.2.2.2]; exact e21
  have c14 : γ1 14 c = lb := ((x2 c (by omega)).2.2.1).trans w2.1
  have c15 : γ1 15 c = lr := ((x2 c (by omega)).2.2.2.1).trans w2.2.1
  have kb : γ 0 lb = 4 := w3
  have kr : γ 0 lr = 5 := w5
  have fb : γ 1 lb = g := Eq.trans w4 hg
  have fr : γ 1 lr = g := Eq.trans w6 hg
  obtain ⟨b2, b13, b17, bel⟩ := x3 lb (by omega) (by rw [fb]; exact hne)
  obtain ⟨r2, r13, r17, rel⟩ := x3 lr (by omega) (by rw [fr]; exact hne)
  obtain ⟨-, y6⟩ := show rk_4 D I γ el F lb from RS_o hT w3
  have he : ∀ i, i < γ 2 lb → γ1 13 (γ1 14 (el1 lb i)) = γ 13 (γ 14 (el lb i)) ∧ γ1 17 (γ1 14 (el1 lb i)) = γ 17 (γ 14 (el lb i)) := fun i hi => by
    have k0 : γ 0 (el lb i) ≠ 0 := by rcases (y6 i hi).1 with q | q | q <;> omega
    obtain ⟨q1, q2, -, -⟩ := RS_lst hT w3 hi
    have kl : γ 0 (γ 14 (el lb i)) ≠ 0 := by rcases q1 with q | q <;> omega
    have fl : γ 1 (γ 14 (el lb i)) ≠ f := by rw [q2, fb]; exact hne
    obtain ⟨z2, z13, z17, -⟩ := x3 _ kl fl
    rw [bel, (x2 _ k0).2.2.1]
    exact ⟨z13, z17⟩
  have s1 : rsum (fun i => 4 * γ1 13 (γ1 14 (el1 lb i))) (γ 2 lb) = rsum (fun i => 4 * γ 13 (γ 14 (el lb i))) (γ 2 lb) := Nat.le_antisymm (rsum_le _ (fun i hi => by have := (he i hi).1; show 4 * _ ≤ 4 * _; omega)) (rsum_le _ (fun i hi => by have := (he i hi).1; show 4 * _ ≤ 4 * _; omega))
  have s2 : rsum (fun i => 9 * γ1 17 (γ1 14 (el1 lb i)) + 60) (γ 2 lb) = rsum (fun i => 9 * γ 17 (γ 14 (el lb i)) + 60) (γ 2 lb) := Nat.le_antisymm (rsum_le _ (fun i hi => by have := (he i hi).2; show 9 * _ + 60 ≤ 9 * _ + 60; omega)) (rsum_le _ (fun i hi => by have := (he i hi).2; show 9 * _ + 60 ≤ 9 * _ + 60; omega))
  obtain ⟨g6, g7, g16, -⟩ := x5 g hne
  refine ⟨?_, ?_, fun B hB => ?_, g6, g7, g16⟩
  · unfold rPh
    rw [E21, e21, c14, c15, w2.1, w2.2.1]
    unfold rPhc
    rw [b13, r13, r2, b2, s1]
  · unfold rM
    rw [E21, e21, c14, c15, w2.1, w2.2.1]
    unfold rMc
    rw [b17, r17, r2, b2, s2]
  · unfold rBd at hB ⊢
    rw [e21, w2.1, w2.2.1] at hB
    rw [E21, c14, c15, g16, b2, b17, r2, r17]
    exact ⟨hB.1, hB.2.1, hB.2.2.1, hB.2.2.2.1, hB.2.2.2.2.1, fun i hi => by rw [(he i hi).2]; exact hB.2.2.2.2.2 i hi⟩
end RFM
end
section
/-! the law: give and text of the model -/
section GLV
variable {l : Launch} {R : Room} {Qf : gFin} {k : gKey} {pc cs sl i m : Nat} {L : List (Nat × Value)} {st : List Value} {D : va_G} {I : FieldType → ClassId} {X : va_W} {P P1 : List Nat} {F F1 : Nat → va_E} {γ el γ1 el1 : Nat → Nat → Nat} {n : Int} {f : Nat} {K KF : List Nat}
theorem md_c (hT : RS D I P F γ el) (hm : γ 0 m = 10) : (γ 0 (γ 9 6) = 9 ∧ γ 0 (γ 9 7) = 9 ∧ γ 0 (γ 9 8) = 9) ∧ γ 1 (γ 9 6) = 0 ∧ γ 1 (γ 9 7) = 1 ∧ γ 1 (γ 9 8) = 2 := by
  obtain ⟨r28, r35, v9, v10, v11, v12, v13, v14, v23, v24, v25, v26, v27, v30, v32, v33, v34, he, hM1, hK, hM2⟩ := rk10_m (show rk_10 γ (F m) from RS_o hT hm)
  obtain ⟨k0, k1, k2, k3, k4, k5, k6, k7, k8, k9, k10, k11, k12, k13, k14, k15, k16, k17, k18, kW, k20, k21, k22, k23⟩ := hK
  exact ⟨⟨k8, k9, k10⟩, k21, k22, k23⟩
theorem wl_s (h : mdS D I m n P F γ el) (hk : rSk f K KF D I P F γ el P1 F1 γ1 el1) (hm1 : γ1 0 m = 10) (h11 : (11 : Nat) ∉ K) (h36 : (36 : Nat) ∉ K) (h27 : (96 : Nat) ∉ K) (e35 : fR (F1 m) 35 = fR (F m) 35) : wDN γ1 F1 = wDN γ F ∧ lRN γ1 F1 m = lRN γ F m := by
  obtain ⟨s1, s2, s3, s4, s5, s6, s7, s8, s9⟩ := id h
  obtain ⟨c27, c28, c29⟩ := md_k hk.1 hm1
  have g9 : γ1 9 = γ 9 := hk.2.2.1.2.2.2.1.1
  have g12 : γ1 12 = γ 12 := hk.2.2.1.2.2.2.1.2.2.2.1
  constructor
  · have q : γ 12 (fR (F1 (γ1 9 29)) 0) = wDN γ F := by
      have nk : ∀ j, j ≠ 0 → j ≠ 29 → j ∉ K → γ 0 (fR (F1 (γ1 9 29)) 0) ≠ j := fun j h0 h29 hj e => by
        have := hk.2.2.1.1 _ (by rw [e]; exact h0) (Or.inr (by rw [e]; exact hj))
        rw [c29, e] at this
        exact h29 this.symm
      exact s9.2 _ (nk 11 (by decide) (by decide) h11) (nk 36 (by decide) (by decide) h36) (nk 96 (by decide) (by decide) h27)
    unfold wDN at q ⊢
    rw [g12]
    exact q
  · unfold lRN; rw [g12, e35]
theorem Gm_give {kk' : Int32} (hl0 : l.stackTraces = false) (d : decode k.1 pc = .ok (.invokevirtual i, 3)) (hw : gCw (gV D I) R k.2.2.1 i yX17_give cX17_give 3 (some FieldType.int) 11 251 1) (w2 : Cond.instanceMethod yX17_give ∈ (gV D I).2.2.2.2) (w3 : Cond.selects yX17_give.cls yX17_give yX17_give ∈ (gV D I).2.2.2.2)
    (h : mdS D I m n P F γ el) (hcs : cs + ((387 * 4061 + 6000) - rPh γ el 1) / 18 ≤ R.cells) (hsl : sl + ((387 * 4061 + 6000) - rPh γ el 1) ≤ R.slots) (hcat : (st.map fun u => u.category).sum ≤ 8)
    (kk : ∀ (P1 : List Nat) (F1 : Nat → va_E) (γ2 el1 : Nat → Nat → Nat) (z : Int32) (dc ds : Nat), mdS D I m n P1 F1 γ2 el1 → rPh γ2 el1 0 = rPh γ el 0 → rM γ2 el1 0 = rM γ el 0 → rPh γ2 el1 2 = rPh γ el 2 → 18 * dc + rPh γ el 1 ≤ rPh γ2 el1 1 → ds + rPh γ el 1 ≤ rPh γ2 el1 1 → wDN γ2 F1 = wDN γ F → lRN γ2 F1 m = lRN γ F m → kpT m γ el F γ2 el1 F1 → kpI m F F1 → kpS m γ F F1 → ((kk'.toInt < 1 ∨ 32 < kk'.toInt) ∨ (fI (F m) 9).toInt = 0 → kpG m γ el F γ2 el1 F1) → ((fI (F m) 9).toInt ≠ 0 → ∀ Q, pgR γ el F Q → (∃ (B : Int → Int) (n : Int), bOk B n ∧ okP B n Q) → gvB γ2 el1 F1 m Q kk' z (fI (F1 m) 30)) → G (gV D I) l R Qf k (pc + 3) L (.int z :: st) (X ++ va_pl P1 F1) (cs + dc) (sl + ds)) :
    G (gV D I) l R Qf k pc L (.int kk' :: .ref m :: st) (X ++ va_pl P F) cs sl := by
  obtain ⟨s1, s2, s3, s4, s5, s6, s7, s8, s9⟩ := id h
  obtain ⟨r28, r35, v9, v10, v11, v12, v13, v14, v23, v24, v25, v26, v27, v30, v32, v33, v34, he, -, -, -⟩ := rk10_m (show rk_10 γ (F m) from RS_o s1 s2)
  obtain ⟨⟨c6, c7, c8⟩, f6, f7, f8⟩ := md_c s1 s2
  refine Gf_2V (As := [.int kk']) (gV_ok D I) (cg_658028_SpillForgeModel_give l hl0 D I γ el 1 0 4061 P F m kk' (γ 9 7) (γ 9 6) s1 s2 c7 c6 rfl rfl f7 f6 (by decide) s7 (by decide) rfl rfl s4 s6 (by decide) s5) d hw w2 w3 (s1.1 m (by omega)) he rfl hcs hsl hcat (fun r w dc ds hp => ?_) (fun _ _ _ _ _ z => z.elim)
  obtain ⟨P1, F1, γ1, el1, z, rfl, rfl, hk, ⟨d1, d2⟩, hB, -, h10, hmk, htr⟩ := hp
  have m1 : γ1 0 m = 10 := rSk_k hk (show rKd γ m 10 from s2) (by decide) (by decide)
  obtain ⟨p0, q0, -, g60, g70, g160⟩ := rSk_fam s1 hk c6 f6 (by decide)
  obtain ⟨p2, q2, b2, -⟩ := rSk_fam s1 hk c8 f8 (by decide)
  have e32 : (fI (F1 m) 32).toInt = (fI (F m) 32).toInt := congrArg Prod.fst hmk.2
  have e35 : fR (F1 m) 35 = fR (F m) 35 := congrArg (fun z => z.2.1) hmk.2
  have eO : mO (F1 m) = mO (F m) := congrArg (fun z => z.2.2) hmk.2
  obtain ⟨a1, a2⟩ := wl_s h hk m1 (by decide) (by decide) (by decide) e35
  obtain ⟨γ2, g1, g2, t1, t2⟩ := mdS_k (n := n) hk.1 m1 (e32.trans s3) (by rw [hmk.1, g60, g160]; exact s4) h10 (by rw [g70]; exact s6) hB (b2 _ s8)
  refine kk P1 F1 γ2 el1 z dc ds g1 ?_ ?_ ?_ ?_ ?_ (t1.trans a1) (t2.trans a2) (kpT_tr (kpT_sk h hk (by decide) (by decide +kernel) (by decide +kernel) hmk.1) (kpT_j g2)) (kpI_sk h hk (by decide +kernel) eO) (kpS_sk h hk (by decide +kernel) (by decide +kernel) e35) (fun bad => by
    obtain ⟨k1, k2, k3, k4⟩ := gi_k s1 s2 htr bad
    have g2' : ∀ j, j ≠ 0 → j ≠ 12 → γ2 j = γ j := fun j y1 y2 => (g2 j y1 y2).trans (congrFun k1 j)
    rw [k2]
    exact kpG_tr (kpG_t (W := []) h (fun b _ hb _ => k3 b (fun e => by rw [e, s2] at hb; omega)) ⟨List.not_mem_nil, List.not_mem_nil, List.not_mem_nil⟩ (by rw [k4])) (kpG_j g2')) (fun hn Q hq hW => by
    obtain ⟨B, nn, hB, hP⟩ := hW
    obtain ⟨e6, e2, -⟩ := rf_6 s1 c6 f6 (s4.resolve_left hn).1 hq.1.1
    obtain ⟨-, w2, w3, -, -, w6⟩ := okP_f hB hP
    refine gvB_of (f := 1) g2 (congrFun (rSk_9 hk).symm 7) ?_
    exact giv_r s1 s2 c7 f7 c6 f6 (by decide) e6 hq.1 hq.2.1 w6 (gvI_Z hB hP) w2 w3 (T100 w6) e2 htr hn)
  · rw [(rPh_j2 (el := el1) (f := 0) g2).1]; exact p0
  · rw [(rPh_j2 (el := el1) (f := 0) g2).2]; exact q0
  · rw [(rPh_j2 (el := el1) (f := 2) g2).1]; exact p2
  · rw [(rPh_j2 (el := el1) (f := 1) g2).1]; exact d1
  · rw [(rPh_j2 (el := el1) (f := 1) g2).1]; exact d2
end GLV
end
section
/-! the law: text of the model -/
section GLT
variable {l : Launch} {R : Room} {Qf : gFin} {k : gKey} {pc cs sl i m M mc ms : Nat} {L : List (Nat × Value)} {st : List Value} {D : va_G} {I : FieldType → ClassId} {X : va_W} {P : List Nat} {F : Nat → va_E} {γ el : Nat → Nat → Nat} {n : Int}
theorem Gm_text (hl0 : l.stackTraces = false) (d : decode k.1 pc = .ok (.invokevirtual i, 3)) (hw : gCwT (gV D I) R k.2.2.1 i yX17_text cX17_text 3 (some FieldType.int) [(12, 57, 60, 409)] 13 340 0) (w2 : Cond.instanceMethod yX17_text ∈ (gV D I).2.2.2.2) (w3 : Cond.selects yX17_text.cls yX17_text yX17_text ∈ (gV D I).2.2.2.2)
    (h : mdS D I m n P F γ el) (hM : (rM γ el 0 : Int) + 41 * n + 600 ≤ M) (hM9 : M ≤ 2000000) (hMC : (M : Int) + 360 * n + 1200 ≤ 18 * (mc : Int) + (rPh γ el 0 : Int)) (hMS : (M : Int) + 232 * n + 1400 ≤ (ms : Int) + (rPh γ el 0 : Int)) (hcs : cs + mc ≤ R.cells) (hsl : sl + ms ≤ R.slots) (hcat : (st.map fun u => u.category).sum ≤ 8)
    (kk : ∀ (P1 : List Nat) (F1 : Nat → va_E) (γ2 el1 : Nat → Nat → Nat) (z : Int32) (dc ds : Nat), mdS D I m 0 P1 F1 γ2 el1 → rPh γ2 el1 1 = rPh γ el 1 → rPh γ2 el1 2 = rPh γ el 2 → 18 * (dc : Int) + (rPh γ el 0 : Int) ≤ (rPh γ2 el1 0 : Int) + 360 * n + 1100 → (ds : Int) + (rPh γ el 0 : Int) ≤ (rPh γ2 el1 0 : Int) + 232 * n + 1100 → (rM γ2 el1 0 : Int) ≤ (rM γ el 0 : Int) + 41 * n + 300 → wDN γ2 F1 = wDN γ F → lRN γ2 F1 m = lRN γ F m → γ2 9 = γ 9 → F1 (γ 9 31) = F (γ 9 31) → (∃ ft, F (γ 9 31) = .inl (I .byte, 8192, .inl ft) ∧ txQ γ2 el1 F1 m (γ 9 6) (bA ft n) n) → ((fI (F m) 10).toInt ≠ 0 → ∀ Q, gvR γ el F Q → gvR γ2 el1 F1 Q) → kpI m F F1 → kpS m γ F F1 → (((fI (F1 m) 9).toInt = 0 ∧ fI (F1 m) 10 = fI (F m) 10) ∨ ((fI (F1 m) 9).toInt = 1 ∧ (fI (F1 m) 10).toInt = 0)) → G (gV D I) l R Qf k (pc + 3) L (.int z :: st) (X ++ va_pl P1 F1) (cs + dc) (sl + ds)) :
    G (gV D I) l R Qf k pc L (.ref m :: st) (X ++ va_pl P F) cs sl := by
  obtain ⟨s1, s2, s3, s4, s5, s6, s7, s8, s9⟩ := id h
  obtain ⟨r28, r35, v9, v10, v11, v12, v13, v14, v23, v24, v25, v26, v27, v30, v32, v33, v34, he, -, -, -⟩ := rk10_m (show rk_10 γ (F m) from RS_o s1 s2)
  obtain ⟨⟨c6, c7, c8⟩, f6, f7, f8⟩ := md_c s1 s2
  rw [← s3] at hM hMC hMS
  refine Gf_2VW (As := []) (gV_ok D I) (cp_text l hl0 D I s1 s2 hM hM9 hMC hMS) d hw w2 w3 (s1.1 m (by omega)) he rfl hcs hsl hcat (fun r w dc ds hp => ?_) (fun _ _ _ _ _ z => z.elim)
  obtain ⟨P1, F1, γ1, el1, z, rfl, rfl, hk, h7, h9, h10, e32, k1, k2, k3, e35, ft, hft, -, htx, eO, eF⟩ := hp
  have m1 : γ1 0 m = 10 := rSk_k hk (show rKd γ m 10 from s2) (by decide) (by decide)
  obtain ⟨p1, q1, b1, g61, -, -⟩ := rSk_fam s1 hk c7 f7 (by decide)
  obtain ⟨p2, q2, b2, -⟩ := rSk_fam s1 hk c8 f8 (by decide)
  obtain ⟨a1, a2⟩ := wl_s h hk m1 (by decide) (by decide) (by decide) e35
  obtain ⟨γ2, g1, g2, t1, t2⟩ := mdS_k (n := 0) hk.1 m1 e32 h9 (h10.elim Or.inl (fun q => by rw [q, g61]; exact s5)) h7 (b1 _ s7) (b2 _ s8)
  have j0 := rPh_j2 (el := el1) (f := 0) g2
  rw [s3] at k1 k2 k3
  refine kk P1 F1 γ2 el1 z dc ds g1 ?_ ?_ ?_ ?_ ?_ (t1.trans a1) (t2.trans a2) ((g2 9 (by decide) (by decide)).trans (rSk_9 hk)) (rSk_F hk (show rKd γ _ 99 from (md_6 s1 s2).2.2.1) (by decide) (by decide)) ⟨ft, hft, by rw [s3] at htx; exact txQ_j g2 htx⟩ (fun hn Q hq => by have q := gvR_sk h hk (by decide) (by decide) hn Q hq; exact ⟨by rw [g2 9 (by decide) (by decide)]; exact rfW_j g2 q.1, q.2⟩) (kpI_sk h hk (by decide) eO) (kpS_sk h hk (by decide) (by decide) e35) eF
  · rw [(rPh_j2 (el := el1) (f := 1) g2).1]; exact p1
  · rw [(rPh_j2 (el := el1) (f := 2) g2).1]; exact p2
  · rw [j0.1]; exact k1
  · rw [j0.1]; exact k2
  · rw [j0.2]; exact k3
end GLT
end
section
/-! the law: look of the model -/
section GLK
variable {l : Launch} {R : Room} {Qf : gFin} {k : gKey} {pc cs sl i m : Nat} {L : List (Nat × Value)} {st : List Value} {D : va_G} {I : FieldType → ClassId} {X : va_W} {P : List Nat} {F : Nat → va_E} {γ el : Nat → Nat → Nat} {n : Int}
theorem Gm_look {kk' wh : Int32} (hl0 : l.stackTraces = false) (d : decode k.1 pc = .ok (.invokevirtual i, 3)) (hw : gCw (gV D I) R k.2.2.1 i yX17_look cX17_look 3 (some FieldType.int) 9 196 2) (w2 : Cond.instanceMethod yX17_look ∈ (gV D I).2.2.2.2) (w3 : Cond.selects yX17_look.cls yX17_look yX17_look ∈ (gV D I).2.2.2.2)
    (h : mdS D I m n P F γ el) (hcs : cs + ((387 * 2160 + 6000) - rPh γ el 2) / 18 ≤ R.cells) (hsl : sl + ((387 * 2160 + 6000) - rPh γ el 2) ≤ R.slots) (hcat : (st.map fun u => u.category).sum ≤ 8)
    (kk : ∀ (P1 : List Nat) (F1 : Nat → va_E) (γ2 el1 : Nat → Nat → Nat) (z : Int32) (dc ds : Nat), mdS D I m n P1 F1 γ2 el1 → rPh γ2 el1 0 = rPh γ el 0 → rM γ2 el1 0 = rM γ el 0 → rPh γ2 el1 1 = rPh γ el 1 → 18 * dc + rPh γ el 2 ≤ rPh γ2 el1 2 → ds + rPh γ el 2 ≤ rPh γ2 el1 2 → wDN γ2 F1 = wDN γ F → lRN γ2 F1 m = lRN γ F m → kp9 m γ el F γ2 el1 F1 → G (gV D I) l R Qf k (pc + 3) L (.int z :: st) (X ++ va_pl P1 F1) (cs + dc) (sl + ds)) :
    G (gV D I) l R Qf k pc L (.int wh :: .int kk' :: .ref m :: st) (X ++ va_pl P F) cs sl := by
  obtain ⟨s1, s2, s3, s4, s5, s6, s7, s8, s9⟩ := id h
  obtain ⟨r28, r35, v9, v10, v11, v12, v13, v14, v23, v24, v25, v26, v27, v30, v32, v33, v34, he, -, -, -⟩ := rk10_m (show rk_10 γ (F m) from RS_o s1 s2)
  obtain ⟨⟨c6, c7, c8⟩, f6, f7, f8⟩ := md_c s1 s2
  refine Gf_2V (As := [.int kk', .int wh]) (gV_ok D I) (cg_589610_SpillForgeModel_look l hl0 D I γ el 2 0 2160 P F m kk' wh (γ 9 8) (γ 9 6) s1 s2 c8 c6 rfl rfl f8 f6 (by decide) s8 (by decide) rfl rfl s4 s6 (by decide)) d hw w2 w3 (s1.1 m (by omega)) he rfl hcs hsl hcat (fun r w dc ds hp => ?_) (fun _ _ _ _ _ z => z.elim)
  obtain ⟨P1, F1, γ1, el1, z, rfl, rfl, hk, ⟨d1, d2⟩, hB, e10, hmk, -⟩ := hp
  have m1 : γ1 0 m = 10 := rSk_k hk (show rKd γ m 10 from s2) (by decide) (by decide)
  obtain ⟨p0, q0, -, g60, g70, g160⟩ := rSk_fam s1 hk c6 f6 (by decide)
  obtain ⟨p2, q2, b2, g61, -⟩ := rSk_fam s1 hk c7 f7 (by decide)
  have e32 : (fI (F1 m) 32).toInt = (fI (F m) 32).toInt := congrArg Prod.fst hmk.2
  have e35 : fR (F1 m) 35 = fR (F m) 35 := congrArg (fun z => z.2.1) hmk.2
  obtain ⟨a1, a2⟩ := wl_s h hk m1 (by decide) (by decide) (by decide) e35
  obtain ⟨γ2, g1, g2, t1, t2⟩ := mdS_k (n := n) hk.1 m1 (e32.trans s3) (by rw [hmk.1, g60, g160]; exact s4) (by rw [e10, g61]; exact s5) (by rw [g70]; exact s6) (b2 _ s7) hB
  refine kk P1 F1 γ2 el1 z dc ds g1 ?_ ?_ ?_ ?_ ?_ (t1.trans a1) (t2.trans a2) ⟨kpT_tr (kpT_sk h hk (by decide) (by decide +kernel) (by decide +kernel) hmk.1) (kpT_j g2), kpG_tr ⟨by rw [e10], gvR_sk h hk (by decide) (by decide +kernel)⟩ (kpG_j g2), kpI_sk h hk (by decide +kernel) (congrArg (fun z => z.2.2) hmk.2), kpS_sk h hk (by decide +kernel) (by decide +kernel) e35⟩
  · rw [(rPh_j2 (el := el1) (f := 0) g2).1]; exact p0
  · rw [(rPh_j2 (el := el1) (f := 0) g2).2]; exact q0
  · rw [(rPh_j2 (el := el1) (f := 1) g2).1]; exact p2
  · rw [(rPh_j2 (el := el1) (f := 2) g2).1]; exact d1
  · rw [(rPh_j2 (el := el1) (f := 2) g2).1]; exact d2
end GLK
end
section
theorem dr_cL_law_23 : decode cL_law 23 = .ok (.iload 4, 2) := by decide +kernel
theorem dr_cL_law_25 : decode cL_law 25 = .ok (.aload_n 0, 1) := by decide +kernel
theorem dr_cL_law_26 : decode cL_law 26 = .ok (.arraylength, 1) := by decide +kernel
theorem dr_cL_law_27 : decode cL_law 27 = .ok (.bipush 6, 2) := by decide +kernel
theorem dr_cL_law_29 : decode cL_law 29 = .ok (.isub, 1) := by decide +kernel
theorem dr_cL_law_30 : decode cL_law 30 = .ok (.if_icmp .gt 517, 3) := by decide +kernel
theorem dr_cL_law_547 : decode cL_law 547 = .ok (.iconst 1, 1) := by decide +kernel
theorem dr_cL_law_548 : decode cL_law 548 = .ok (.ireturn, 1) := by decide +kernel
theorem dr_cL_law_262 : decode cL_law 262 = .ok (.aload_n 1, 1) := by decide +kernel
theorem dr_cL_law_263 : decode cL_law 263 = .ok (.aload_n 0, 1) := by decide +kernel
theorem dr_cL_law_264 : decode cL_law 264 = .ok (.iload 4, 2) := by decide +kernel
theorem dr_cL_law_266 : decode cL_law 266 = .ok (.iconst 1, 1) := by decide +kernel
theorem dr_cL_law_267 : decode cL_law 267 = .ok (.iadd, 1) := by decide +kernel
theorem dr_cL_law_268 : decode cL_law 268 = .ok (.iaload, 1) := by decide +kernel
theorem dr_cL_law_269 : decode cL_law 269 = .ok (.aload_n 3, 1) := by decide +kernel
theorem dr_cL_law_270 : decode cL_law 270 = .ok (.invokestatic 79, 3) := by decide +kernel
theorem wr_5_197 : (Jvm.Cond.methodLink "SpillForgeLaw" (79 : Nat) ({ cls := "SpillForgeLaw", name := "count", desc := "(LSpillForge;I[J)I" } : Jvm.MethodName)) ∈ gw := gw_5 197 rfl rfl
theorem wr_1_0 : (Jvm.Cond.initialized "SpillForgeLaw") ∈ gw := gw_1 0 rfl rfl
theorem wr_5_199 : (Jvm.Cond.codeWith ({ cls := "SpillForgeLaw", name := "count", desc := "(LSpillForge;I[J)I" } : Jvm.MethodName) method_6_code (4 : Nat) (Option.some Jvm.ClassFile.FieldType.int) [((0 : Nat), (9 : Nat), (12 : Nat), (19 : Nat))]) ∈ gw := gw_5 199 rfl rfl
theorem wr_5_198 : (Jvm.Cond.static ({ cls := "SpillForgeLaw", name := "count", desc := "(LSpillForge;I[J)I" } : Jvm.MethodName)) ∈ gw := gw_5 198 rfl rfl
theorem dr_cL_law_273 : decode cL_law 273 = .ok (.istore 5, 2) := by decide +kernel
theorem dr_cL_law_275 : decode cL_law 275 = .ok (.aload_n 2, 1) := by decide +kernel
theorem dr_cL_law_276 : decode cL_law 276 = .ok (.aload_n 0, 1) := by decide +kernel
theorem dr_cL_law_277 : decode cL_law 277 = .ok (.iload 4, 2) := by decide +kernel
theorem dr_cL_law_279 : decode cL_law 279 = .ok (.iconst 1, 1) := by decide +kernel
theorem dr_cL_law_280 : decode cL_law 280 = .ok (.iadd, 1) := by decide +kernel
theorem dr_cL_law_281 : decode cL_law 281 = .ok (.iaload, 1) := by decide +kernel
theorem dr_cL_law_282 : decode cL_law 282 = .ok (.invokevirtual 81, 3) := by decide +kernel
theorem wr_11_71 : (Jvm.Cond.methodLink "SpillForgeLaw" (81 : Nat) ({ cls := "SpillForgeModel", name := "count", desc := "(I)I" } : Jvm.MethodName)) ∈ gw := gw_11 71 rfl rfl
theorem wr_11_74 : (Jvm.Cond.code ({ cls := "SpillForgeModel", name := "count", desc := "(I)I" } : Jvm.MethodName) prog_14_method_45_code (2 : Nat) (Option.some Jvm.ClassFile.FieldType.int)) ∈ gw := gw_11 74 rfl rfl
theorem wr_11_72 : (Jvm.Cond.instanceMethod ({ cls := "SpillForgeModel", name := "count", desc := "(I)I" } : Jvm.MethodName)) ∈ gw := gw_11 72 rfl rfl
theorem wr_11_73 : (Jvm.Cond.selects "SpillForgeModel" ({ cls := "SpillForgeModel", name := "count", desc := "(I)I" } : Jvm.MethodName) ({ cls := "SpillForgeModel", name := "count", desc := "(I)I" } : Jvm.MethodName)) ∈ gw := gw_11 73 rfl rfl
theorem dr_cL_law_285 : decode cL_law 285 = .ok (.istore 6, 2) := by decide +kernel
theorem dr_cL_law_287 : decode cL_law 287 = .ok (.goto 254, 3) := by decide +kernel
theorem dr_cL_law_386 : decode cL_law 386 = .ok (.aload_n 1, 1) := by decide +kernel
theorem dr_cL_law_387 : decode cL_law 387 = .ok (.aload_n 0, 1) := by decide +kernel
theorem dr_cL_law_388 : decode cL_law 388 = .ok (.iload 4, 2) := by decide +kernel
theorem dr_cL_law_390 : decode cL_law 390 = .ok (.iconst 1, 1) := by decide +kernel
theorem dr_cL_law_391 : decode cL_law 391 = .ok (.iadd, 1) := by decide +kernel
theorem dr_cL_law_392 : decode cL_law 392 = .ok (.iaload, 1) := by decide +kernel
theorem dr_cL_law_393 : decode cL_law 393 = .ok (.aload_n 3, 1) := by decide +kernel
theorem dr_cL_law_394 : decode cL_law 394 = .ok (.invokestatic 90, 3) := by decide +kernel
theorem wr_6_112 : (Jvm.Cond.methodLink "SpillForgeLaw" (90 : Nat) ({ cls := "SpillForgeLaw", name := "told", desc := "(LSpillForge;I[J)I" } : Jvm.MethodName)) ∈ gw := gw_6 112 rfl rfl
theorem wr_6_114 : (Jvm.Cond.codeWith ({ cls := "SpillForgeLaw", name := "told", desc := "(LSpillForge;I[J)I" } : Jvm.MethodName) method_9_code (4 : Nat) (Option.some Jvm.ClassFile.FieldType.int) [((0 : Nat), (9 : Nat), (12 : Nat), (19 : Nat))]) ∈ gw := gw_6 114 rfl rfl
theorem wr_6_113 : (Jvm.Cond.static ({ cls := "SpillForgeLaw", name := "told", desc := "(LSpillForge;I[J)I" } : Jvm.MethodName)) ∈ gw := gw_6 113 rfl rfl
theorem dr_cL_law_397 : decode cL_law 397 = .ok (.istore 5, 2) := by decide +kernel
theorem dr_cL_law_399 : decode cL_law 399 = .ok (.aload_n 2, 1) := by decide +kernel
theorem dr_cL_law_400 : decode cL_law 400 = .ok (.aload_n 0, 1) := by decide +kernel
theorem dr_cL_law_401 : decode cL_law 401 = .ok (.iload 4, 2) := by decide +kernel
theorem dr_cL_law_403 : decode cL_law 403 = .ok (.iconst 1, 1) := by decide +kernel
theorem dr_cL_law_404 : decode cL_law 404 = .ok (.iadd, 1) := by decide +kernel
theorem dr_cL_law_405 : decode cL_law 405 = .ok (.iaload, 1) := by decide +kernel
theorem dr_cL_law_406 : decode cL_law 406 = .ok (.invokevirtual 92, 3) := by decide +kernel
theorem wr_11_109 : (Jvm.Cond.methodLink "SpillForgeLaw" (92 : Nat) ({ cls := "SpillForgeModel", name := "told", desc := "(I)I" } : Jvm.MethodName)) ∈ gw := gw_11 109 rfl rfl
theorem wr_11_112 : (Jvm.Cond.code ({ cls := "SpillForgeModel", name := "told", desc := "(I)I" } : Jvm.MethodName) prog_14_method_48_code (2 : Nat) (Option.some Jvm.ClassFile.FieldType.int)) ∈ gw := gw_11 112 rfl rfl
theorem wr_11_110 : (Jvm.Cond.instanceMethod ({ cls := "SpillForgeModel", name := "told", desc := "(I)I" } : Jvm.MethodName)) ∈ gw := gw_11 110 rfl rfl
theorem wr_11_111 : (Jvm.Cond.selects "SpillForgeModel" ({ cls := "SpillForgeModel", name := "told", desc := "(I)I" } : Jvm.MethodName) ({ cls := "SpillForgeModel", name := "told", desc := "(I)I" } : Jvm.MethodName)) ∈ gw := gw_11 111 rfl rfl
theorem dr_cL_law_409 : decode cL_law 409 = .ok (.istore 6, 2) := by decide +kernel
theorem dr_cL_law_411 : decode cL_law 411 = .ok (.goto 130, 3) := by decide +kernel
theorem dr_cL_law_414 : decode cL_law 414 = .ok (.aload_n 1, 1) := by decide +kernel
theorem dr_cL_law_415 : decode cL_law 415 = .ok (.aload_n 0, 1) := by decide +kernel
theorem dr_cL_law_416 : decode cL_law 416 = .ok (.iload 4, 2) := by decide +kernel
theorem dr_cL_law_418 : decode cL_law 418 = .ok (.iconst 1, 1) := by decide +kernel
theorem dr_cL_law_419 : decode cL_law 419 = .ok (.iadd, 1) := by decide +kernel
theorem dr_cL_law_420 : decode cL_law 420 = .ok (.iaload, 1) := by decide +kernel
theorem dr_cL_law_421 : decode cL_law 421 = .ok (.aload_n 3, 1) := by decide +kernel
theorem dr_cL_law_422 : decode cL_law 422 = .ok (.invokestatic 93, 3) := by decide +kernel
theorem wr_6_136 : (Jvm.Cond.methodLink "SpillForgeLaw" (93 : Nat) ({ cls := "SpillForgeLaw", name := "shown", desc := "(LSpillForge;I[J)I" } : Jvm.MethodName)) ∈ gw := gw_6 136 rfl rfl
theorem wr_6_138 : (Jvm.Cond.codeWith ({ cls := "SpillForgeLaw", name := "shown", desc := "(LSpillForge;I[J)I" } : Jvm.MethodName) method_10_code (4 : Nat) (Option.some Jvm.ClassFile.FieldType.int) [((0 : Nat), (9 : Nat), (12 : Nat), (13 : Nat))]) ∈ gw := gw_6 138 rfl rfl
theorem wr_6_137 : (Jvm.Cond.static ({ cls := "SpillForgeLaw", name := "shown", desc := "(LSpillForge;I[J)I" } : Jvm.MethodName)) ∈ gw := gw_6 137 rfl rfl
theorem dr_cL_law_425 : decode cL_law 425 = .ok (.istore 5, 2) := by decide +kernel
theorem dr_cL_law_427 : decode cL_law 427 = .ok (.aload_n 2, 1) := by decide +kernel
theorem dr_cL_law_428 : decode cL_law 428 = .ok (.aload_n 0, 1) := by decide +kernel
theorem dr_cL_law_429 : decode cL_law 429 = .ok (.iload 4, 2) := by decide +kernel
theorem dr_cL_law_431 : decode cL_law 431 = .ok (.iconst 1, 1) := by decide +kernel
theorem dr_cL_law_432 : decode cL_law 432 = .ok (.iadd, 1) := by decide +kernel
theorem dr_cL_law_433 : decode cL_law 433 = .ok (.iaload, 1) := by decide +kernel
theorem dr_cL_law_434 : decode cL_law 434 = .ok (.invokevirtual 95, 3) := by decide +kernel
theorem wr_11_113 : (Jvm.Cond.methodLink "SpillForgeLaw" (95 : Nat) ({ cls := "SpillForgeModel", name := "shown", desc := "(I)I" } : Jvm.MethodName)) ∈ gw := gw_11 113 rfl rfl
theorem wr_11_116 : (Jvm.Cond.code ({ cls := "SpillForgeModel", name := "shown", desc := "(I)I" } : Jvm.MethodName) prog_14_method_49_code (2 : Nat) (Option.some Jvm.ClassFile.FieldType.int)) ∈ gw := gw_11 116 rfl rfl
theorem wr_11_114 : (Jvm.Cond.instanceMethod ({ cls := "SpillForgeModel", name := "shown", desc := "(I)I" } : Jvm.MethodName)) ∈ gw := gw_11 114 rfl rfl
theorem wr_11_115 : (Jvm.Cond.selects "SpillForgeModel" ({ cls := "SpillForgeModel", name := "shown", desc := "(I)I" } : Jvm.MethodName) ({ cls := "SpillForgeModel", name := "shown", desc := "(I)I" } : Jvm.MethodName)) ∈ gw := gw_11 115 rfl rfl
theorem dr_cL_law_437 : decode cL_law 437 = .ok (.istore 6, 2) := by decide +kernel
theorem dr_cL_law_439 : decode cL_law 439 = .ok (.goto 102, 3) := by decide +kernel
theorem dr_cL_law_486 : decode cL_law 486 = .ok (.aload_n 1, 1) := by decide +kernel
theorem dr_cL_law_487 : decode cL_law 487 = .ok (.aload_n 0, 1) := by decide +kernel
theorem dr_cL_law_488 : decode cL_law 488 = .ok (.iload 4, 2) := by decide +kernel
theorem dr_cL_law_490 : decode cL_law 490 = .ok (.iconst 1, 1) := by decide +kernel
theorem dr_cL_law_491 : decode cL_law 491 = .ok (.iadd, 1) := by decide +kernel
theorem dr_cL_law_492 : decode cL_law 492 = .ok (.iaload, 1) := by decide +kernel
theorem dr_cL_law_493 : decode cL_law 493 = .ok (.aload_n 3, 1) := by decide +kernel
theorem dr_cL_law_494 : decode cL_law 494 = .ok (.invokestatic 100, 3) := by decide +kernel
theorem wr_6_217 : (Jvm.Cond.methodLink "SpillForgeLaw" (100 : Nat) ({ cls := "SpillForgeLaw", name := "word", desc := "(LSpillForge;I[J)I" } : Jvm.MethodName)) ∈ gw := gw_6 217 rfl rfl
theorem wr_6_219 : (Jvm.Cond.codeWith ({ cls := "SpillForgeLaw", name := "word", desc := "(LSpillForge;I[J)I" } : Jvm.MethodName) method_12_code (4 : Nat) (Option.some Jvm.ClassFile.FieldType.int) [((0 : Nat), (8 : Nat), (11 : Nat), (13 : Nat))]) ∈ gw := gw_6 219 rfl rfl
theorem wr_6_218 : (Jvm.Cond.static ({ cls := "SpillForgeLaw", name := "word", desc := "(LSpillForge;I[J)I" } : Jvm.MethodName)) ∈ gw := gw_6 218 rfl rfl
theorem dr_cL_law_497 : decode cL_law 497 = .ok (.istore 5, 2) := by decide +kernel
theorem dr_cL_law_499 : decode cL_law 499 = .ok (.aload_n 2, 1) := by decide +kernel
theorem dr_cL_law_500 : decode cL_law 500 = .ok (.aload_n 0, 1) := by decide +kernel
theorem dr_cL_law_501 : decode cL_law 501 = .ok (.iload 4, 2) := by decide +kernel
theorem dr_cL_law_503 : decode cL_law 503 = .ok (.iconst 1, 1) := by decide +kernel
theorem dr_cL_law_504 : decode cL_law 504 = .ok (.iadd, 1) := by decide +kernel
theorem dr_cL_law_505 : decode cL_law 505 = .ok (.iaload, 1) := by decide +kernel
theorem dr_cL_law_506 : decode cL_law 506 = .ok (.invokevirtual 102, 3) := by decide +kernel
theorem wr_11_219 : (Jvm.Cond.methodLink "SpillForgeLaw" (102 : Nat) ({ cls := "SpillForgeModel", name := "word", desc := "(I)J" } : Jvm.MethodName)) ∈ gw := gw_11 219 rfl rfl
theorem wr_11_222 : (Jvm.Cond.code ({ cls := "SpillForgeModel", name := "word", desc := "(I)J" } : Jvm.MethodName) prog_14_method_51_code (5 : Nat) (Option.some Jvm.ClassFile.FieldType.long)) ∈ gw := gw_11 222 rfl rfl
theorem wr_11_220 : (Jvm.Cond.instanceMethod ({ cls := "SpillForgeModel", name := "word", desc := "(I)J" } : Jvm.MethodName)) ∈ gw := gw_11 220 rfl rfl
theorem wr_11_221 : (Jvm.Cond.selects "SpillForgeModel" ({ cls := "SpillForgeModel", name := "word", desc := "(I)J" } : Jvm.MethodName) ({ cls := "SpillForgeModel", name := "word", desc := "(I)J" } : Jvm.MethodName)) ∈ gw := gw_11 221 rfl rfl
theorem dr_cL_law_509 : decode cL_law 509 = .ok (.lstore 6, 2) := by decide +kernel
theorem dr_cL_law_511 : decode cL_law 511 = .ok (.aload_n 2, 1) := by decide +kernel
theorem dr_cL_law_512 : decode cL_law 512 = .ok (.invokevirtual 103, 3) := by decide +kernel
theorem wr_7_183 : (Jvm.Cond.methodLink "SpillForgeLaw" (103 : Nat) ({ cls := "SpillForgeModel", name := "thrown", desc := "()I" } : Jvm.MethodName)) ∈ gw := gw_7 183 rfl rfl
theorem wr_7_186 : (Jvm.Cond.code ({ cls := "SpillForgeModel", name := "thrown", desc := "()I" } : Jvm.MethodName) prog_14_method_36_code (1 : Nat) (Option.some Jvm.ClassFile.FieldType.int)) ∈ gw := gw_7 186 rfl rfl
theorem wr_7_184 : (Jvm.Cond.instanceMethod ({ cls := "SpillForgeModel", name := "thrown", desc := "()I" } : Jvm.MethodName)) ∈ gw := gw_7 184 rfl rfl
theorem wr_7_185 : (Jvm.Cond.selects "SpillForgeModel" ({ cls := "SpillForgeModel", name := "thrown", desc := "()I" } : Jvm.MethodName) ({ cls := "SpillForgeModel", name := "thrown", desc := "()I" } : Jvm.MethodName)) ∈ gw := gw_7 185 rfl rfl
theorem dr_cL_law_515 : decode cL_law 515 = .ok (.iload 5, 2) := by decide +kernel
theorem dr_cL_law_538 : decode cL_law 538 = .ok (.goto 3, 3) := by decide +kernel
theorem dr_cL_law_517 : decode cL_law 517 = .ok (.if_icmp .eq 5, 3) := by decide +kernel
theorem dr_cL_law_522 : decode cL_law 522 = .ok (.iload 5, 2) := by decide +kernel
theorem dr_cL_law_524 : decode cL_law 524 = .ok (.ifCond .ne 14, 3) := by decide +kernel
theorem dr_cL_law_527 : decode cL_law 527 = .ok (.aload_n 3, 1) := by decide +kernel
theorem dr_cL_law_528 : decode cL_law 528 = .ok (.iconst 0, 1) := by decide +kernel
theorem dr_cL_law_529 : decode cL_law 529 = .ok (.laload, 1) := by decide +kernel
theorem dr_cL_law_530 : decode cL_law 530 = .ok (.lload 6, 2) := by decide +kernel
theorem dr_cL_law_532 : decode cL_law 532 = .ok (.lcmp, 1) := by decide +kernel
theorem dr_cL_law_533 : decode cL_law 533 = .ok (.ifCond .eq 5, 3) := by decide +kernel
theorem dr_cL_law_180 : decode cL_law 180 = .ok (.aload_n 1, 1) := by decide +kernel
theorem dr_cL_law_181 : decode cL_law 181 = .ok (.aload_n 0, 1) := by decide +kernel
theorem dr_cL_law_182 : decode cL_law 182 = .ok (.iload 4, 2) := by decide +kernel
theorem dr_cL_law_184 : decode cL_law 184 = .ok (.iconst 1, 1) := by decide +kernel
theorem dr_cL_law_185 : decode cL_law 185 = .ok (.iadd, 1) := by decide +kernel
theorem dr_cL_law_186 : decode cL_law 186 = .ok (.iaload, 1) := by decide +kernel
theorem dr_cL_law_187 : decode cL_law 187 = .ok (.aload_n 3, 1) := by decide +kernel
theorem dr_cL_law_188 : decode cL_law 188 = .ok (.invokestatic 63, 3) := by decide +kernel
theorem wr_5_31 : (Jvm.Cond.methodLink "SpillForgeLaw" (63 : Nat) ({ cls := "SpillForgeLaw", name := "end", desc := "(LSpillForge;I[J)I" } : Jvm.MethodName)) ∈ gw := gw_5 31 rfl rfl
theorem wr_5_33 : (Jvm.Cond.codeWith ({ cls := "SpillForgeLaw", name := "end", desc := "(LSpillForge;I[J)I" } : Jvm.MethodName) method_4_code (4 : Nat) (Option.some Jvm.ClassFile.FieldType.int) [((0 : Nat), (9 : Nat), (12 : Nat), (19 : Nat))]) ∈ gw := gw_5 33 rfl rfl
theorem wr_5_32 : (Jvm.Cond.static ({ cls := "SpillForgeLaw", name := "end", desc := "(LSpillForge;I[J)I" } : Jvm.MethodName)) ∈ gw := gw_5 32 rfl rfl
theorem dr_cL_law_191 : decode cL_law 191 = .ok (.istore 5, 2) := by decide +kernel
theorem dr_cL_law_193 : decode cL_law 193 = .ok (.aload_n 2, 1) := by decide +kernel
theorem dr_cL_law_194 : decode cL_law 194 = .ok (.aload_n 0, 1) := by decide +kernel
theorem dr_cL_law_195 : decode cL_law 195 = .ok (.iload 4, 2) := by decide +kernel
theorem dr_cL_law_197 : decode cL_law 197 = .ok (.iconst 1, 1) := by decide +kernel
theorem dr_cL_law_198 : decode cL_law 198 = .ok (.iadd, 1) := by decide +kernel
theorem dr_cL_law_199 : decode cL_law 199 = .ok (.iaload, 1) := by decide +kernel
theorem dr_cL_law_200 : decode cL_law 200 = .ok (.invokevirtual 66, 3) := by decide +kernel
theorem wr_7_199 : (Jvm.Cond.methodLink "SpillForgeLaw" (66 : Nat) ({ cls := "SpillForgeModel", name := "end", desc := "(I)I" } : Jvm.MethodName)) ∈ gw := gw_7 199 rfl rfl
theorem wr_7_202 : (Jvm.Cond.code ({ cls := "SpillForgeModel", name := "end", desc := "(I)I" } : Jvm.MethodName) prog_14_method_40_code (2 : Nat) (Option.some Jvm.ClassFile.FieldType.int)) ∈ gw := gw_7 202 rfl rfl
theorem wr_7_200 : (Jvm.Cond.instanceMethod ({ cls := "SpillForgeModel", name := "end", desc := "(I)I" } : Jvm.MethodName)) ∈ gw := gw_7 200 rfl rfl
theorem wr_7_201 : (Jvm.Cond.selects "SpillForgeModel" ({ cls := "SpillForgeModel", name := "end", desc := "(I)I" } : Jvm.MethodName) ({ cls := "SpillForgeModel", name := "end", desc := "(I)I" } : Jvm.MethodName)) ∈ gw := gw_7 201 rfl rfl
theorem dr_cL_law_203 : decode cL_law 203 = .ok (.istore 6, 2) := by decide +kernel
theorem dr_cL_law_205 : decode cL_law 205 = .ok (.goto 336, 3) := by decide +kernel
theorem dr_cL_law_104 : decode cL_law 104 = .ok (.aload_n 1, 1) := by decide +kernel
theorem dr_cL_law_105 : decode cL_law 105 = .ok (.aload_n 0, 1) := by decide +kernel
theorem dr_cL_law_106 : decode cL_law 106 = .ok (.iload 4, 2) := by decide +kernel
theorem dr_cL_law_108 : decode cL_law 108 = .ok (.iconst 1, 1) := by decide +kernel
theorem dr_cL_law_109 : decode cL_law 109 = .ok (.iadd, 1) := by decide +kernel
theorem dr_cL_law_110 : decode cL_law 110 = .ok (.iaload, 1) := by decide +kernel
theorem dr_cL_law_111 : decode cL_law 111 = .ok (.aload_n 0, 1) := by decide +kernel
theorem dr_cL_law_112 : decode cL_law 112 = .ok (.iload 4, 2) := by decide +kernel
theorem dr_cL_law_114 : decode cL_law 114 = .ok (.iconst 2, 1) := by decide +kernel
theorem dr_cL_law_115 : decode cL_law 115 = .ok (.iadd, 1) := by decide +kernel
theorem dr_cL_law_116 : decode cL_law 116 = .ok (.iaload, 1) := by decide +kernel
theorem dr_cL_law_117 : decode cL_law 117 = .ok (.aload_n 0, 1) := by decide +kernel
theorem dr_cL_law_118 : decode cL_law 118 = .ok (.iload 4, 2) := by decide +kernel
theorem dr_cL_law_120 : decode cL_law 120 = .ok (.iconst 3, 1) := by decide +kernel
theorem dr_cL_law_121 : decode cL_law 121 = .ok (.iadd, 1) := by decide +kernel
theorem dr_cL_law_122 : decode cL_law 122 = .ok (.iaload, 1) := by decide +kernel
theorem dr_cL_law_123 : decode cL_law 123 = .ok (.aload_n 0, 1) := by decide +kernel
theorem dr_cL_law_124 : decode cL_law 124 = .ok (.iload 4, 2) := by decide +kernel
theorem dr_cL_law_126 : decode cL_law 126 = .ok (.iconst 4, 1) := by decide +kernel
theorem dr_cL_law_127 : decode cL_law 127 = .ok (.iadd, 1) := by decide +kernel
theorem dr_cL_law_128 : decode cL_law 128 = .ok (.iaload, 1) := by decide +kernel
theorem dr_cL_law_129 : decode cL_law 129 = .ok (.aload_n 0, 1) := by decide +kernel
theorem dr_cL_law_130 : decode cL_law 130 = .ok (.iload 4, 2) := by decide +kernel
theorem dr_cL_law_132 : decode cL_law 132 = .ok (.iconst 5, 1) := by decide +kernel
theorem dr_cL_law_133 : decode cL_law 133 = .ok (.iadd, 1) := by decide +kernel
theorem dr_cL_law_134 : decode cL_law 134 = .ok (.iaload, 1) := by decide +kernel
theorem dr_cL_law_135 : decode cL_law 135 = .ok (.aload_n 3, 1) := by decide +kernel
theorem dr_cL_law_136 : decode cL_law 136 = .ok (.invokestatic 57, 3) := by decide +kernel
theorem wr_4_183 : (Jvm.Cond.methodLink "SpillForgeLaw" (57 : Nat) ({ cls := "SpillForgeLaw", name := "feed", desc := "(LSpillForge;IIIII[J)I" } : Jvm.MethodName)) ∈ gw := gw_4 183 rfl rfl
theorem wr_4_185 : (Jvm.Cond.codeWith ({ cls := "SpillForgeLaw", name := "feed", desc := "(LSpillForge;IIIII[J)I" } : Jvm.MethodName) method_3_code (8 : Nat) (Option.some Jvm.ClassFile.FieldType.int) [((0 : Nat), (16 : Nat), (19 : Nat), (13 : Nat))]) ∈ gw := gw_4 185 rfl rfl
theorem wr_4_184 : (Jvm.Cond.static ({ cls := "SpillForgeLaw", name := "feed", desc := "(LSpillForge;IIIII[J)I" } : Jvm.MethodName)) ∈ gw := gw_4 184 rfl rfl
theorem dr_cL_law_139 : decode cL_law 139 = .ok (.istore 5, 2) := by decide +kernel
theorem dr_cL_law_141 : decode cL_law 141 = .ok (.aload_n 2, 1) := by decide +kernel
theorem dr_cL_law_142 : decode cL_law 142 = .ok (.aload_n 0, 1) := by decide +kernel
theorem dr_cL_law_143 : decode cL_law 143 = .ok (.iload 4, 2) := by decide +kernel
theorem dr_cL_law_145 : decode cL_law 145 = .ok (.iconst 1, 1) := by decide +kernel
theorem dr_cL_law_146 : decode cL_law 146 = .ok (.iadd, 1) := by decide +kernel
theorem dr_cL_law_147 : decode cL_law 147 = .ok (.iaload, 1) := by decide +kernel
theorem dr_cL_law_148 : decode cL_law 148 = .ok (.aload_n 0, 1) := by decide +kernel
theorem dr_cL_law_149 : decode cL_law 149 = .ok (.iload 4, 2) := by decide +kernel
theorem dr_cL_law_151 : decode cL_law 151 = .ok (.iconst 2, 1) := by decide +kernel
theorem dr_cL_law_152 : decode cL_law 152 = .ok (.iadd, 1) := by decide +kernel
theorem dr_cL_law_153 : decode cL_law 153 = .ok (.iaload, 1) := by decide +kernel
theorem dr_cL_law_154 : decode cL_law 154 = .ok (.aload_n 0, 1) := by decide +kernel
theorem dr_cL_law_155 : decode cL_law 155 = .ok (.iload 4, 2) := by decide +kernel
theorem dr_cL_law_157 : decode cL_law 157 = .ok (.iconst 3, 1) := by decide +kernel
theorem dr_cL_law_158 : decode cL_law 158 = .ok (.iadd, 1) := by decide +kernel
theorem dr_cL_law_159 : decode cL_law 159 = .ok (.iaload, 1) := by decide +kernel
theorem dr_cL_law_160 : decode cL_law 160 = .ok (.aload_n 0, 1) := by decide +kernel
theorem dr_cL_law_161 : decode cL_law 161 = .ok (.iload 4, 2) := by decide +kernel
theorem dr_cL_law_163 : decode cL_law 163 = .ok (.iconst 4, 1) := by decide +kernel
theorem dr_cL_law_164 : decode cL_law 164 = .ok (.iadd, 1) := by decide +kernel
theorem dr_cL_law_165 : decode cL_law 165 = .ok (.iaload, 1) := by decide +kernel
theorem dr_cL_law_166 : decode cL_law 166 = .ok (.aload_n 0, 1) := by decide +kernel
theorem dr_cL_law_167 : decode cL_law 167 = .ok (.iload 4, 2) := by decide +kernel
theorem dr_cL_law_169 : decode cL_law 169 = .ok (.iconst 5, 1) := by decide +kernel
theorem dr_cL_law_170 : decode cL_law 170 = .ok (.iadd, 1) := by decide +kernel
theorem dr_cL_law_171 : decode cL_law 171 = .ok (.iaload, 1) := by decide +kernel
theorem dr_cL_law_172 : decode cL_law 172 = .ok (.invokevirtual 62, 3) := by decide +kernel
theorem wr_7_187 : (Jvm.Cond.methodLink "SpillForgeLaw" (62 : Nat) ({ cls := "SpillForgeModel", name := "feed", desc := "(IIIII)I" } : Jvm.MethodName)) ∈ gw := gw_7 187 rfl rfl
theorem wr_7_190 : (Jvm.Cond.code ({ cls := "SpillForgeModel", name := "feed", desc := "(IIIII)I" } : Jvm.MethodName) prog_14_method_38_code (6 : Nat) (Option.some Jvm.ClassFile.FieldType.int)) ∈ gw := gw_7 190 rfl rfl
theorem wr_7_188 : (Jvm.Cond.instanceMethod ({ cls := "SpillForgeModel", name := "feed", desc := "(IIIII)I" } : Jvm.MethodName)) ∈ gw := gw_7 188 rfl rfl
theorem wr_7_189 : (Jvm.Cond.selects "SpillForgeModel" ({ cls := "SpillForgeModel", name := "feed", desc := "(IIIII)I" } : Jvm.MethodName) ({ cls := "SpillForgeModel", name := "feed", desc := "(IIIII)I" } : Jvm.MethodName)) ∈ gw := gw_7 189 rfl rfl
theorem dr_cL_law_175 : decode cL_law 175 = .ok (.istore 6, 2) := by decide +kernel
theorem dr_cL_law_177 : decode cL_law 177 = .ok (.goto 364, 3) := by decide +kernel
theorem dr_cL_law_208 : decode cL_law 208 = .ok (.aload_n 1, 1) := by decide +kernel
theorem dr_cL_law_209 : decode cL_law 209 = .ok (.invokevirtual 67, 3) := by decide +kernel
theorem wr_2_232 : (Jvm.Cond.methodLink "SpillForgeLaw" (67 : Nat) ({ cls := "SpillForge", name := "text", desc := "()I" } : Jvm.MethodName)) ∈ gw := gw_2 232 rfl rfl
theorem wr_2_235 : (Jvm.Cond.code ({ cls := "SpillForge", name := "text", desc := "()I" } : Jvm.MethodName) prog_1_method_4_code (2 : Nat) (Option.some Jvm.ClassFile.FieldType.int)) ∈ gw := gw_2 235 rfl rfl
theorem wr_2_233 : (Jvm.Cond.instanceMethod ({ cls := "SpillForge", name := "text", desc := "()I" } : Jvm.MethodName)) ∈ gw := gw_2 233 rfl rfl
theorem wr_2_234 : (Jvm.Cond.selects "SpillForge" ({ cls := "SpillForge", name := "text", desc := "()I" } : Jvm.MethodName) ({ cls := "SpillForge", name := "text", desc := "()I" } : Jvm.MethodName)) ∈ gw := gw_2 234 rfl rfl
theorem dr_cL_law_212 : decode cL_law 212 = .ok (.pop, 1) := by decide +kernel
theorem dr_cL_law_213 : decode cL_law 213 = .ok (.aload_n 2, 1) := by decide +kernel
theorem dr_cL_law_214 : decode cL_law 214 = .ok (.invokevirtual 71, 3) := by decide +kernel
theorem wr_7_203 : (Jvm.Cond.methodLink "SpillForgeLaw" (71 : Nat) ({ cls := "SpillForgeModel", name := "text", desc := "()I" } : Jvm.MethodName)) ∈ gw := gw_7 203 rfl rfl
theorem wr_7_206 : (Jvm.Cond.codeWith ({ cls := "SpillForgeModel", name := "text", desc := "()I" } : Jvm.MethodName) prog_14_method_41_code (3 : Nat) (Option.some Jvm.ClassFile.FieldType.int) [((12 : Nat), (57 : Nat), (60 : Nat), (409 : Nat))]) ∈ gw := gw_7 206 rfl rfl
theorem wr_7_204 : (Jvm.Cond.instanceMethod ({ cls := "SpillForgeModel", name := "text", desc := "()I" } : Jvm.MethodName)) ∈ gw := gw_7 204 rfl rfl
theorem wr_7_205 : (Jvm.Cond.selects "SpillForgeModel" ({ cls := "SpillForgeModel", name := "text", desc := "()I" } : Jvm.MethodName) ({ cls := "SpillForgeModel", name := "text", desc := "()I" } : Jvm.MethodName)) ∈ gw := gw_7 205 rfl rfl
theorem dr_cL_law_217 : decode cL_law 217 = .ok (.pop, 1) := by decide +kernel
theorem dr_cL_law_218 : decode cL_law 218 = .ok (.goto 323, 3) := by decide +kernel
theorem dr_cL_law_221 : decode cL_law 221 = .ok (.aload_n 1, 1) := by decide +kernel
theorem dr_cL_law_222 : decode cL_law 222 = .ok (.invokevirtual 72, 3) := by decide +kernel
theorem wr_4_168 : (Jvm.Cond.methodLink "SpillForgeLaw" (72 : Nat) ({ cls := "SpillForge", name := "input", desc := "()I" } : Jvm.MethodName)) ∈ gw := gw_4 168 rfl rfl
theorem wr_4_171 : (Jvm.Cond.code ({ cls := "SpillForge", name := "input", desc := "()I" } : Jvm.MethodName) prog_1_method_5_code (2 : Nat) (Option.some Jvm.ClassFile.FieldType.int)) ∈ gw := gw_4 171 rfl rfl
theorem wr_4_169 : (Jvm.Cond.instanceMethod ({ cls := "SpillForge", name := "input", desc := "()I" } : Jvm.MethodName)) ∈ gw := gw_4 169 rfl rfl
theorem wr_4_170 : (Jvm.Cond.selects "SpillForge" ({ cls := "SpillForge", name := "input", desc := "()I" } : Jvm.MethodName) ({ cls := "SpillForge", name := "input", desc := "()I" } : Jvm.MethodName)) ∈ gw := gw_4 170 rfl rfl
theorem dr_cL_law_225 : decode cL_law 225 = .ok (.pop, 1) := by decide +kernel
theorem dr_cL_law_226 : decode cL_law 226 = .ok (.aload_n 2, 1) := by decide +kernel
theorem dr_cL_law_227 : decode cL_law 227 = .ok (.invokevirtual 75, 3) := by decide +kernel
theorem wr_10_124 : (Jvm.Cond.methodLink "SpillForgeLaw" (75 : Nat) ({ cls := "SpillForgeModel", name := "input", desc := "()I" } : Jvm.MethodName)) ∈ gw := gw_10 124 rfl rfl
theorem wr_10_127 : (Jvm.Cond.code ({ cls := "SpillForgeModel", name := "input", desc := "()I" } : Jvm.MethodName) prog_14_method_42_code (3 : Nat) (Option.some Jvm.ClassFile.FieldType.int)) ∈ gw := gw_10 127 rfl rfl
theorem wr_10_125 : (Jvm.Cond.instanceMethod ({ cls := "SpillForgeModel", name := "input", desc := "()I" } : Jvm.MethodName)) ∈ gw := gw_10 125 rfl rfl
theorem wr_10_126 : (Jvm.Cond.selects "SpillForgeModel" ({ cls := "SpillForgeModel", name := "input", desc := "()I" } : Jvm.MethodName) ({ cls := "SpillForgeModel", name := "input", desc := "()I" } : Jvm.MethodName)) ∈ gw := gw_10 126 rfl rfl
theorem dr_cL_law_230 : decode cL_law 230 = .ok (.pop, 1) := by decide +kernel
theorem dr_cL_law_231 : decode cL_law 231 = .ok (.goto 310, 3) := by decide +kernel
theorem dr_cL_law_234 : decode cL_law 234 = .ok (.aload_n 1, 1) := by decide +kernel
theorem dr_cL_law_235 : decode cL_law 235 = .ok (.aload_n 0, 1) := by decide +kernel
theorem dr_cL_law_236 : decode cL_law 236 = .ok (.iload 4, 2) := by decide +kernel
theorem dr_cL_law_238 : decode cL_law 238 = .ok (.iconst 1, 1) := by decide +kernel
theorem dr_cL_law_239 : decode cL_law 239 = .ok (.iadd, 1) := by decide +kernel
theorem dr_cL_law_240 : decode cL_law 240 = .ok (.iaload, 1) := by decide +kernel
theorem dr_cL_law_241 : decode cL_law 241 = .ok (.aload_n 3, 1) := by decide +kernel
theorem dr_cL_law_242 : decode cL_law 242 = .ok (.invokestatic 76, 3) := by decide +kernel
theorem wr_5_55 : (Jvm.Cond.methodLink "SpillForgeLaw" (76 : Nat) ({ cls := "SpillForgeLaw", name := "give", desc := "(LSpillForge;I[J)I" } : Jvm.MethodName)) ∈ gw := gw_5 55 rfl rfl
theorem wr_5_57 : (Jvm.Cond.codeWith ({ cls := "SpillForgeLaw", name := "give", desc := "(LSpillForge;I[J)I" } : Jvm.MethodName) method_5_code (4 : Nat) (Option.some Jvm.ClassFile.FieldType.int) [((0 : Nat), (9 : Nat), (12 : Nat), (19 : Nat)), ((0 : Nat), (9 : Nat), (15 : Nat), (24 : Nat))]) ∈ gw := gw_5 57 rfl rfl
theorem wr_5_56 : (Jvm.Cond.static ({ cls := "SpillForgeLaw", name := "give", desc := "(LSpillForge;I[J)I" } : Jvm.MethodName)) ∈ gw := gw_5 56 rfl rfl
theorem dr_cL_law_245 : decode cL_law 245 = .ok (.istore 5, 2) := by decide +kernel
theorem dr_cL_law_247 : decode cL_law 247 = .ok (.aload_n 2, 1) := by decide +kernel
theorem dr_cL_law_248 : decode cL_law 248 = .ok (.aload_n 0, 1) := by decide +kernel
theorem dr_cL_law_249 : decode cL_law 249 = .ok (.iload 4, 2) := by decide +kernel
theorem dr_cL_law_251 : decode cL_law 251 = .ok (.iconst 1, 1) := by decide +kernel
theorem dr_cL_law_252 : decode cL_law 252 = .ok (.iadd, 1) := by decide +kernel
theorem dr_cL_law_253 : decode cL_law 253 = .ok (.iaload, 1) := by decide +kernel
theorem dr_cL_law_254 : decode cL_law 254 = .ok (.invokevirtual 78, 3) := by decide +kernel
theorem wr_10_128 : (Jvm.Cond.methodLink "SpillForgeLaw" (78 : Nat) ({ cls := "SpillForgeModel", name := "give", desc := "(I)I" } : Jvm.MethodName)) ∈ gw := gw_10 128 rfl rfl
theorem wr_10_131 : (Jvm.Cond.code ({ cls := "SpillForgeModel", name := "give", desc := "(I)I" } : Jvm.MethodName) prog_14_method_43_code (3 : Nat) (Option.some Jvm.ClassFile.FieldType.int)) ∈ gw := gw_10 131 rfl rfl
theorem wr_10_129 : (Jvm.Cond.instanceMethod ({ cls := "SpillForgeModel", name := "give", desc := "(I)I" } : Jvm.MethodName)) ∈ gw := gw_10 129 rfl rfl
theorem wr_10_130 : (Jvm.Cond.selects "SpillForgeModel" ({ cls := "SpillForgeModel", name := "give", desc := "(I)I" } : Jvm.MethodName) ({ cls := "SpillForgeModel", name := "give", desc := "(I)I" } : Jvm.MethodName)) ∈ gw := gw_10 130 rfl rfl
theorem dr_cL_law_257 : decode cL_law 257 = .ok (.istore 6, 2) := by decide +kernel
theorem dr_cL_law_259 : decode cL_law 259 = .ok (.goto 282, 3) := by decide +kernel
theorem dr_cL_law_290 : decode cL_law 290 = .ok (.aload_n 1, 1) := by decide +kernel
theorem dr_cL_law_291 : decode cL_law 291 = .ok (.aload_n 0, 1) := by decide +kernel
theorem dr_cL_law_292 : decode cL_law 292 = .ok (.iload 4, 2) := by decide +kernel
theorem dr_cL_law_294 : decode cL_law 294 = .ok (.iconst 1, 1) := by decide +kernel
theorem dr_cL_law_295 : decode cL_law 295 = .ok (.iadd, 1) := by decide +kernel
theorem dr_cL_law_296 : decode cL_law 296 = .ok (.iaload, 1) := by decide +kernel
theorem dr_cL_law_297 : decode cL_law 297 = .ok (.aload_n 0, 1) := by decide +kernel
theorem dr_cL_law_298 : decode cL_law 298 = .ok (.iload 4, 2) := by decide +kernel
theorem dr_cL_law_300 : decode cL_law 300 = .ok (.iconst 2, 1) := by decide +kernel
theorem dr_cL_law_301 : decode cL_law 301 = .ok (.iadd, 1) := by decide +kernel
theorem dr_cL_law_302 : decode cL_law 302 = .ok (.iaload, 1) := by decide +kernel
theorem dr_cL_law_303 : decode cL_law 303 = .ok (.aload_n 3, 1) := by decide +kernel
theorem dr_cL_law_304 : decode cL_law 304 = .ok (.invokestatic 82, 3) := by decide +kernel
theorem wr_6_13 : (Jvm.Cond.methodLink "SpillForgeLaw" (82 : Nat) ({ cls := "SpillForgeLaw", name := "look", desc := "(LSpillForge;II[J)I" } : Jvm.MethodName)) ∈ gw := gw_6 13 rfl rfl
theorem wr_6_15 : (Jvm.Cond.codeWith ({ cls := "SpillForgeLaw", name := "look", desc := "(LSpillForge;II[J)I" } : Jvm.MethodName) method_7_code (5 : Nat) (Option.some Jvm.ClassFile.FieldType.int) [((0 : Nat), (10 : Nat), (13 : Nat), (24 : Nat)), ((0 : Nat), (10 : Nat), (17 : Nat), (19 : Nat)), ((0 : Nat), (10 : Nat), (21 : Nat), (33 : Nat))]) ∈ gw := gw_6 15 rfl rfl
theorem wr_6_14 : (Jvm.Cond.static ({ cls := "SpillForgeLaw", name := "look", desc := "(LSpillForge;II[J)I" } : Jvm.MethodName)) ∈ gw := gw_6 14 rfl rfl
theorem dr_cL_law_307 : decode cL_law 307 = .ok (.istore 5, 2) := by decide +kernel
theorem dr_cL_law_309 : decode cL_law 309 = .ok (.aload_n 2, 1) := by decide +kernel
theorem dr_cL_law_310 : decode cL_law 310 = .ok (.aload_n 0, 1) := by decide +kernel
theorem dr_cL_law_311 : decode cL_law 311 = .ok (.iload 4, 2) := by decide +kernel
theorem dr_cL_law_313 : decode cL_law 313 = .ok (.iconst 1, 1) := by decide +kernel
theorem dr_cL_law_314 : decode cL_law 314 = .ok (.iadd, 1) := by decide +kernel
theorem dr_cL_law_315 : decode cL_law 315 = .ok (.iaload, 1) := by decide +kernel
theorem dr_cL_law_316 : decode cL_law 316 = .ok (.aload_n 0, 1) := by decide +kernel
theorem dr_cL_law_317 : decode cL_law 317 = .ok (.iload 4, 2) := by decide +kernel
theorem dr_cL_law_319 : decode cL_law 319 = .ok (.iconst 2, 1) := by decide +kernel
theorem dr_cL_law_320 : decode cL_law 320 = .ok (.iadd, 1) := by decide +kernel
theorem dr_cL_law_321 : decode cL_law 321 = .ok (.iaload, 1) := by decide +kernel
theorem dr_cL_law_322 : decode cL_law 322 = .ok (.invokevirtual 85, 3) := by decide +kernel
theorem wr_11_83 : (Jvm.Cond.methodLink "SpillForgeLaw" (85 : Nat) ({ cls := "SpillForgeModel", name := "look", desc := "(II)I" } : Jvm.MethodName)) ∈ gw := gw_11 83 rfl rfl
theorem wr_11_86 : (Jvm.Cond.code ({ cls := "SpillForgeModel", name := "look", desc := "(II)I" } : Jvm.MethodName) prog_14_method_46_code (3 : Nat) (Option.some Jvm.ClassFile.FieldType.int)) ∈ gw := gw_11 86 rfl rfl
theorem wr_11_84 : (Jvm.Cond.instanceMethod ({ cls := "SpillForgeModel", name := "look", desc := "(II)I" } : Jvm.MethodName)) ∈ gw := gw_11 84 rfl rfl
theorem wr_11_85 : (Jvm.Cond.selects "SpillForgeModel" ({ cls := "SpillForgeModel", name := "look", desc := "(II)I" } : Jvm.MethodName) ({ cls := "SpillForgeModel", name := "look", desc := "(II)I" } : Jvm.MethodName)) ∈ gw := gw_11 85 rfl rfl
theorem dr_cL_law_325 : decode cL_law 325 = .ok (.istore 6, 2) := by decide +kernel
theorem dr_cL_law_327 : decode cL_law 327 = .ok (.goto 214, 3) := by decide +kernel
theorem dr_cL_law_345 : decode cL_law 345 = .ok (.aload_n 0, 1) := by decide +kernel
theorem dr_cL_law_346 : decode cL_law 346 = .ok (.iload 4, 2) := by decide +kernel
theorem dr_cL_law_348 : decode cL_law 348 = .ok (.iconst 2, 1) := by decide +kernel
theorem dr_cL_law_349 : decode cL_law 349 = .ok (.iadd, 1) := by decide +kernel
theorem dr_cL_law_350 : decode cL_law 350 = .ok (.iaload, 1) := by decide +kernel
theorem dr_cL_law_351 : decode cL_law 351 = .ok (.aload_n 3, 1) := by decide +kernel
theorem dr_cL_law_352 : decode cL_law 352 = .ok (.invokestatic 86, 3) := by decide +kernel
theorem wr_6_55 : (Jvm.Cond.methodLink "SpillForgeLaw" (86 : Nat) ({ cls := "SpillForgeLaw", name := "run", desc := "(LSpillForge;ZI[J)I" } : Jvm.MethodName)) ∈ gw := gw_6 55 rfl rfl
theorem wr_6_57 : (Jvm.Cond.codeWith ({ cls := "SpillForgeLaw", name := "run", desc := "(LSpillForge;ZI[J)I" } : Jvm.MethodName) method_8_code (5 : Nat) (Option.some Jvm.ClassFile.FieldType.int) [((0 : Nat), (10 : Nat), (13 : Nat), (19 : Nat)), ((0 : Nat), (10 : Nat), (17 : Nat), (24 : Nat))]) ∈ gw := gw_6 57 rfl rfl
theorem wr_6_56 : (Jvm.Cond.static ({ cls := "SpillForgeLaw", name := "run", desc := "(LSpillForge;ZI[J)I" } : Jvm.MethodName)) ∈ gw := gw_6 56 rfl rfl
theorem dr_cL_law_355 : decode cL_law 355 = .ok (.istore 5, 2) := by decide +kernel
theorem dr_cL_law_357 : decode cL_law 357 = .ok (.aload_n 2, 1) := by decide +kernel
theorem dr_cL_law_372 : decode cL_law 372 = .ok (.aload_n 0, 1) := by decide +kernel
theorem dr_cL_law_373 : decode cL_law 373 = .ok (.iload 4, 2) := by decide +kernel
theorem dr_cL_law_375 : decode cL_law 375 = .ok (.iconst 2, 1) := by decide +kernel
theorem dr_cL_law_376 : decode cL_law 376 = .ok (.iadd, 1) := by decide +kernel
theorem dr_cL_law_377 : decode cL_law 377 = .ok (.iaload, 1) := by decide +kernel
theorem dr_cL_law_378 : decode cL_law 378 = .ok (.invokevirtual 89, 3) := by decide +kernel
theorem wr_11_87 : (Jvm.Cond.methodLink "SpillForgeLaw" (89 : Nat) ({ cls := "SpillForgeModel", name := "run", desc := "(ZI)I" } : Jvm.MethodName)) ∈ gw := gw_11 87 rfl rfl
theorem wr_11_90 : (Jvm.Cond.code ({ cls := "SpillForgeModel", name := "run", desc := "(ZI)I" } : Jvm.MethodName) prog_14_method_47_code (3 : Nat) (Option.some Jvm.ClassFile.FieldType.int)) ∈ gw := gw_11 90 rfl rfl
theorem wr_11_88 : (Jvm.Cond.instanceMethod ({ cls := "SpillForgeModel", name := "run", desc := "(ZI)I" } : Jvm.MethodName)) ∈ gw := gw_11 88 rfl rfl
theorem wr_11_89 : (Jvm.Cond.selects "SpillForgeModel" ({ cls := "SpillForgeModel", name := "run", desc := "(ZI)I" } : Jvm.MethodName) ({ cls := "SpillForgeModel", name := "run", desc := "(ZI)I" } : Jvm.MethodName)) ∈ gw := gw_11 89 rfl rfl
theorem dr_cL_law_381 : decode cL_law 381 = .ok (.istore 6, 2) := by decide +kernel
theorem dr_cL_law_383 : decode cL_law 383 = .ok (.goto 158, 3) := by decide +kernel
theorem dr_cL_law_358 : decode cL_law 358 = .ok (.aload_n 0, 1) := by decide +kernel
theorem dr_cL_law_359 : decode cL_law 359 = .ok (.iload 4, 2) := by decide +kernel
theorem dr_cL_law_361 : decode cL_law 361 = .ok (.iconst 1, 1) := by decide +kernel
theorem dr_cL_law_362 : decode cL_law 362 = .ok (.iadd, 1) := by decide +kernel
theorem dr_cL_law_363 : decode cL_law 363 = .ok (.iaload, 1) := by decide +kernel
theorem dr_cL_law_364 : decode cL_law 364 = .ok (.ifCond .eq 7, 3) := by decide +kernel
theorem dr_cL_law_371 : decode cL_law 371 = .ok (.iconst 0, 1) := by decide +kernel
theorem dr_cL_law_367 : decode cL_law 367 = .ok (.iconst 1, 1) := by decide +kernel
theorem dr_cL_law_368 : decode cL_law 368 = .ok (.goto 4, 3) := by decide +kernel
theorem dr_cL_law_330 : decode cL_law 330 = .ok (.aload_n 1, 1) := by decide +kernel
theorem dr_cL_law_331 : decode cL_law 331 = .ok (.aload_n 0, 1) := by decide +kernel
theorem dr_cL_law_332 : decode cL_law 332 = .ok (.iload 4, 2) := by decide +kernel
theorem dr_cL_law_334 : decode cL_law 334 = .ok (.iconst 1, 1) := by decide +kernel
theorem dr_cL_law_335 : decode cL_law 335 = .ok (.iadd, 1) := by decide +kernel
theorem dr_cL_law_336 : decode cL_law 336 = .ok (.iaload, 1) := by decide +kernel
theorem dr_cL_law_337 : decode cL_law 337 = .ok (.ifCond .eq 7, 3) := by decide +kernel
theorem dr_cL_law_344 : decode cL_law 344 = .ok (.iconst 0, 1) := by decide +kernel
theorem dr_cL_law_340 : decode cL_law 340 = .ok (.iconst 1, 1) := by decide +kernel
theorem dr_cL_law_341 : decode cL_law 341 = .ok (.goto 4, 3) := by decide +kernel
theorem dr_cL_law_457 : decode cL_law 457 = .ok (.aload_n 3, 1) := by decide +kernel
theorem dr_cL_law_458 : decode cL_law 458 = .ok (.invokestatic 96, 3) := by decide +kernel
theorem wr_6_148 : (Jvm.Cond.methodLink "SpillForgeLaw" (96 : Nat) ({ cls := "SpillForgeLaw", name := "list", desc := "(LSpillForge;Z[J)I" } : Jvm.MethodName)) ∈ gw := gw_6 148 rfl rfl
theorem wr_6_150 : (Jvm.Cond.codeWith ({ cls := "SpillForgeLaw", name := "list", desc := "(LSpillForge;Z[J)I" } : Jvm.MethodName) method_11_code (4 : Nat) (Option.some Jvm.ClassFile.FieldType.int) [((0 : Nat), (9 : Nat), (12 : Nat), (24 : Nat))]) ∈ gw := gw_6 150 rfl rfl
theorem wr_6_149 : (Jvm.Cond.static ({ cls := "SpillForgeLaw", name := "list", desc := "(LSpillForge;Z[J)I" } : Jvm.MethodName)) ∈ gw := gw_6 149 rfl rfl
theorem dr_cL_law_461 : decode cL_law 461 = .ok (.istore 5, 2) := by decide +kernel
theorem dr_cL_law_463 : decode cL_law 463 = .ok (.aload_n 2, 1) := by decide +kernel
theorem dr_cL_law_478 : decode cL_law 478 = .ok (.invokevirtual 99, 3) := by decide +kernel
theorem wr_11_117 : (Jvm.Cond.methodLink "SpillForgeLaw" (99 : Nat) ({ cls := "SpillForgeModel", name := "list", desc := "(Z)I" } : Jvm.MethodName)) ∈ gw := gw_11 117 rfl rfl
theorem wr_11_120 : (Jvm.Cond.code ({ cls := "SpillForgeModel", name := "list", desc := "(Z)I" } : Jvm.MethodName) prog_14_method_50_code (3 : Nat) (Option.some Jvm.ClassFile.FieldType.int)) ∈ gw := gw_11 120 rfl rfl
theorem wr_11_118 : (Jvm.Cond.instanceMethod ({ cls := "SpillForgeModel", name := "list", desc := "(Z)I" } : Jvm.MethodName)) ∈ gw := gw_11 118 rfl rfl
theorem wr_11_119 : (Jvm.Cond.selects "SpillForgeModel" ({ cls := "SpillForgeModel", name := "list", desc := "(Z)I" } : Jvm.MethodName) ({ cls := "SpillForgeModel", name := "list", desc := "(Z)I" } : Jvm.MethodName)) ∈ gw := gw_11 119 rfl rfl
theorem dr_cL_law_481 : decode cL_law 481 = .ok (.istore 6, 2) := by decide +kernel
theorem dr_cL_law_483 : decode cL_law 483 = .ok (.goto 58, 3) := by decide +kernel
theorem dr_cL_law_464 : decode cL_law 464 = .ok (.aload_n 0, 1) := by decide +kernel
theorem dr_cL_law_465 : decode cL_law 465 = .ok (.iload 4, 2) := by decide +kernel
theorem dr_cL_law_467 : decode cL_law 467 = .ok (.iconst 1, 1) := by decide +kernel
theorem dr_cL_law_468 : decode cL_law 468 = .ok (.iadd, 1) := by decide +kernel
theorem dr_cL_law_469 : decode cL_law 469 = .ok (.iaload, 1) := by decide +kernel
theorem dr_cL_law_470 : decode cL_law 470 = .ok (.ifCond .eq 7, 3) := by decide +kernel
theorem dr_cL_law_477 : decode cL_law 477 = .ok (.iconst 0, 1) := by decide +kernel
theorem dr_cL_law_473 : decode cL_law 473 = .ok (.iconst 1, 1) := by decide +kernel
theorem dr_cL_law_474 : decode cL_law 474 = .ok (.goto 4, 3) := by decide +kernel
theorem dr_cL_law_442 : decode cL_law 442 = .ok (.aload_n 1, 1) := by decide +kernel
theorem dr_cL_law_443 : decode cL_law 443 = .ok (.aload_n 0, 1) := by decide +kernel
theorem dr_cL_law_444 : decode cL_law 444 = .ok (.iload 4, 2) := by decide +kernel
theorem dr_cL_law_446 : decode cL_law 446 = .ok (.iconst 1, 1) := by decide +kernel
theorem dr_cL_law_447 : decode cL_law 447 = .ok (.iadd, 1) := by decide +kernel
theorem dr_cL_law_448 : decode cL_law 448 = .ok (.iaload, 1) := by decide +kernel
theorem dr_cL_law_449 : decode cL_law 449 = .ok (.ifCond .eq 7, 3) := by decide +kernel
theorem dr_cL_law_456 : decode cL_law 456 = .ok (.iconst 0, 1) := by decide +kernel
theorem dr_cL_law_452 : decode cL_law 452 = .ok (.iconst 1, 1) := by decide +kernel
theorem dr_cL_law_453 : decode cL_law 453 = .ok (.goto 4, 3) := by decide +kernel
theorem dr_cL_law_33 : decode cL_law 33 = .ok (.aload_n 0, 1) := by decide +kernel
theorem dr_cL_law_34 : decode cL_law 34 = .ok (.iload 4, 2) := by decide +kernel
theorem dr_cL_law_36 : decode cL_law 36 = .ok (.iaload, 1) := by decide +kernel
theorem dr_cL_law_37 : decode cL_law 37 = .ok (.bipush 15, 2) := by decide +kernel
theorem dr_cL_law_39 : decode cL_law 39 = .ok (.iand, 1) := by decide +kernel
theorem dr_cL_law_40 : decode cL_law 40 = .ok (.tableswitch 501 0 11 #[64, 140, 168, 181, 194, 222, 250, 290, 346, 374, 402, 446], 64) := by decide +kernel
theorem dr_cL_law_541 : decode cL_law 541 = .ok (.iinc 4 6, 3) := by decide +kernel
theorem dr_cL_law_544 : decode cL_law 544 = .ok (.goto (-521), 3) := by decide +kernel
/-! the law's loop -/
abbrev lwK (b M : Nat) (xs : Nat → Int32) : gKey := gL cL_law 8 "SpillForgeLaw" (some .boolean) "law" b M xs
abbrev lwV (b x m o : Nat) (iv : Int32) : List (Nat × Value) := [(4, .int iv), (3, .ref o), (2, .ref m), (1, .ref x), (0, .ref b)]
abbrev lwO (I : FieldType → ClassId) (o : Nat) (f : Nat → Int64) : va_W := [(o, .inl (I .long, 1, .inr (.inl f)))]
abbrev lwF : gFin := fun below args s _ => lw_Z below args s
def lwN (l : Launch) (D : va_G) (I : FieldType → ClassId) (b M : Nat) (xs : Nat → Int32) (x m o : Nat) (iv : Int32) (j : Nat) : Prop :=
  ∀ (A : va_W) (f : Nat → Int64) (P : List Nat) (F : Nat → va_E) (γ el : Nat → Nat → Nat) (n : Int) (cv : gCv) (cs sl : Nat), clS D I x A n cv → mdS D I m n P F γ el → LK9 I cv n m γ el F → lwR γ el F m n (j + 1) cs sl →
    G (gV D I) l room_1 lwF (lwK b M xs) 541 (lwV b x m o iv) [] ((A ++ lwO I o f) ++ va_pl P F) cs sl
section LWL
variable {l : Launch} {D : va_G} {I : FieldType → ClassId} {b M x m o j cs sl cs2 sl2 : Nat} {xs : Nat → Int32} {iv : Int32} {A : va_W} {f : Nat → Int64} {P : List Nat} {F F1 : Nat → va_E} {γ el γ2 el2 : Nat → Nat → Nat} {n n1 : Int} {cv : gCv}
theorem lw_ph (h : mdS D I m n P F γ el) : rPh γ el 0 + 100 ≤ rM γ el 0 ∧ rPh γ el 1 ≤ 1078104 ∧ rPh γ el 2 ≤ 576240 := by
  obtain ⟨s1, s2, s3, s4, s5, s6, s7, s8, s9⟩ := id h
  obtain ⟨⟨c6, c7, c8⟩, f6, f7, f8⟩ := md_c s1 s2
  have a0 := (rM_ge s1 c6 f6).1
  have a1 := rPh_bd s1 c7 f7 s7
  have a2 := rPh_bd s1 c8 f8 s8
  exact ⟨by omega, by omega, by omega⟩
theorem lw_ub (h : lwR γ el F m n j cs sl) (hp : rPh γ el 0 + 100 ≤ rM γ el 0 ∧ rPh γ el 1 ≤ 1078104 ∧ rPh γ el 2 ≤ 576240) (hj : j ≤ 512) : cs + 30000 ≤ 601024 ∧ sl + 900000 ≤ 7293034 := by
  unfold lwR at h
  omega
/-- a call that keeps the ghosts -/
theorem lwR_t (h : lwR γ el F m n j cs sl) (e1 : wDN γ F1 = wDN γ F) (e2 : lRN γ F1 m = lRN γ F m) (hn : 0 ≤ n1) (hn8 : n1 ≤ 8192) (hn2 : n1 ≤ n ∨ n1 = n + 20) (hc : cs2 ≤ cs + 2) (hs : sl2 ≤ sl + 10) : lwR γ el F1 m n1 (j + 1) cs2 sl2 := by
  unfold lwR at h ⊢
  rw [e1, e2]
  omega
/-- one that changes kinds and lengths alone -/
theorem lwR_j (h : lwR γ el F m n j cs sl) (hj : ∀ j, j ≠ 0 → j ≠ 12 → γ2 j = γ j) (hn : 0 ≤ n1) (hn2 : n1 ≤ n) (hw : wDN γ F ≤ wDN γ2 F1) (hw2 : wDN γ2 F1 ≤ 427160) (hl : lRN γ F m ≤ lRN γ2 F1 m) (hl2 : lRN γ2 F1 m ≤ 427144)
    (hc : 18 * (cs2 : Int) + 9 * (wDN γ F : Int) + (lRN γ F m : Int) ≤ 18 * (cs : Int) + 9 * (wDN γ2 F1 : Int) + (lRN γ2 F1 m : Int) + 36) (hs : (sl2 : Int) + 2 * (wDN γ F : Int) + 2 * (lRN γ F m : Int) ≤ (sl : Int) + 2 * (wDN γ2 F1 : Int) + 2 * (lRN γ2 F1 m : Int) + 10 + 232 * (n - n1)) : lwR γ2 el F1 m n1 (j + 1) cs2 sl2 := by
  have j0 := rPh_j2 (el := el) (f := 0) hj
  have j1 := rPh_j2 (el := el) (f := 1) hj
  have j2 := rPh_j2 (el := el) (f := 2) hj
  unfold lwR at h ⊢
  rw [j0.1, j0.2, j1.1, j2.1]
  omega
/-- give, look, text: the programs change -/
theorem lwR_g (h : lwR γ el F m n j cs sl) (hn : 0 ≤ n1) (hn2 : n1 ≤ n) (hM : (rM γ2 el2 0 : Int) ≤ (rM γ el 0 : Int) + 41 * (n - n1) + 800)
    (hc : 18 * (cs2 : Int) + (rPh γ el 0 : Int) + (rPh γ el 1 : Int) + (rPh γ el 2 : Int) ≤ 18 * (cs : Int) + (rPh γ2 el2 0 : Int) + (rPh γ2 el2 1 : Int) + (rPh γ2 el2 2 : Int) + 36 + 360 * (n - n1) + 1200)
    (hs : (sl2 : Int) + (rPh γ el 0 : Int) + (rPh γ el 1 : Int) + (rPh γ el 2 : Int) ≤ (sl : Int) + (rPh γ2 el2 0 : Int) + (rPh γ2 el2 1 : Int) + (rPh γ2 el2 2 : Int) + 10 + 232 * (n - n1) + 1200)
    (e1 : wDN γ2 F1 = wDN γ F) (e2 : lRN γ2 F1 m = lRN γ F m) : lwR γ2 el2 F1 m n1 (j + 1) cs2 sl2 := by
  unfold lwR at h ⊢
  rw [e1, e2]
  omega
theorem lw_in {c : Int32} {q : Int} (hi : iv.toInt = 6 * (j : Int)) (hM : M ≤ 3072) (hj : 6 * j + 6 ≤ M) (hc : c.toInt = q) (h0 : 0 ≤ q) (h5 : q ≤ 5) : vp_in (iv + c) M := by
  have e : (iv + c).toInt = iv.toInt + c.toInt := gI_add rfl (show gB iv 0 3072 from ⟨by omega, by omega⟩) (show gB c 0 5 from ⟨by omega, by omega⟩) (by decide) (by decide)
  exact gB_inr (by omega) (by omega)
theorem lw_0 {X Y : va_W} {z : Nat × va_E} : ((X ++ [z]) ++ Y)[X.length]? = some z := by
  rw [List.append_assoc, List.getElem?_append_right (Nat.le_refl _), Nat.sub_self]; rfl
theorem Gm_thrown {R : Room} {Qf : gFin} {k : gKey} {pc i : Nat} {L : List (Nat × Value)} {st : List Value} {X : va_W} (hl0 : l.stackTraces = false) (d : decode k.1 pc = .ok (.invokevirtual i, 3)) (hw : gCw (gV D I) R k.2.2.1 i yX17_thrown cX17_thrown 1 (some FieldType.int) 0 0 0) (w2 : Cond.instanceMethod yX17_thrown ∈ (gV D I).2.2.2.2) (w3 : Cond.selects yX17_thrown.cls yX17_thrown yX17_thrown ∈ (gV D I).2.2.2.2)
    (h : mdS D I m n P F γ el) (hcs : cs ≤ R.cells) (hsl : sl ≤ R.slots) (hcat : (st.map fun u => u.category).sum ≤ 8)
    (kk : ∀ z : Int32, z.toInt = (fI (F m) 30).toInt → G (gV D I) l R Qf k (pc + 3) L (.int z :: st) (X ++ va_pl P F) cs sl) :
    G (gV D I) l R Qf k pc L (.ref m :: st) (X ++ va_pl P F) cs sl := by
  obtain ⟨s1, s2, s3, s4, s5, s6, s7, s8, s9⟩ := id h
  obtain ⟨r28, r35, v9, v10, v11, v12, v13, v14, v23, v24, v25, v26, v27, v30, v32, v33, v34, he, -, -, -⟩ := rk10_m (show rk_10 γ (F m) from RS_o s1 s2)
  refine Gf_2V (As := []) (gV_ok D I) (ct_581387_SpillForgeModel_thrown l hl0 D I γ el P F m s1 s2) d hw w2 w3 (s1.1 m (by omega)) he rfl hcs hsl hcat (fun r w dc ds hp => ?_) (fun _ _ _ _ _ z => z.elim)
  obtain ⟨z, rfl, rfl, hdc, hds, e, -⟩ := hp
  exact G_widen (cs' := cs) (sl' := sl) (by omega) (by omega) (kk z e)
theorem lw_head (hM : M ≤ 3072) (hi : iv.toInt = 6 * (j : Int)) (hj : j ≤ 512) (hu : cs ≤ 601024) (hs : sl ≤ 7293034) {ws : va_W} (kk : 6 * j + 6 ≤ M → G (gV D I) l room_1 lwF (lwK b M xs) 33 (lwV b x m o iv) [] ws cs sl) : G (gV D I) l room_1 lwF (lwK b M xs) 23 (lwV b x m o iv) [] ws cs sl := by
  have z6 : Int32.toInt 6 = 6 := by decide
  refine G_iload 0 dr_cL_law_23 rfl ?_
  refine G_aload_n 4 dr_cL_law_25 rfl ?_
  refine G_slen dr_cL_law_26 (G_nam fun z hz => ?_)
  have ez : z.toInt = (M : Nat) := gI_ofM hz (by omega)
  refine G_bipush 6 dr_cL_law_27 (by decide +kernel) ?_
  refine G_isub dr_cL_law_29 (G_nam fun y hy => ?_)
  have ey := gI_subK hy (by rw [z6]; omega) (by rw [z6]; omega)
  rw [z6] at ey
  refine G_icmp_gt 547 dr_cL_law_30 (by decide +kernel) (fun _ => ?_) (fun hc => ?_)
  · refine G_iconst 1 dr_cL_law_547 (by decide +kernel) ?_
    exact G_lend dr_cL_law_548 hu hs
  · have hle : iv.toInt ≤ y.toInt := Int.not_lt.mp (fun q => hc (Int32.lt_iff_toInt_lt.mpr q))
    exact kk (by omega)
set_option maxHeartbeats 1000000 in
theorem lw_b5 (hl0 : l.stackTraces = false) (ii : ∀ (c : Int32) (q : Int), c.toInt = q → 0 ≤ q → q ≤ 5 → vp_in (iv + c) M) (hx : clS D I x A n cv) (h : mdS D I m n P F γ el) (hl : LK9 I cv n m γ el F) (hr : lwR γ el F m n j cs sl) (hj : j ≤ 511) (kk : lwN l D I b M xs x m o iv j) :
    G (gV D I) l room_1 lwF (lwK b M xs) 262 (lwV b x m o iv) [] ((A ++ lwO I o f) ++ va_pl P F) cs sl := by
  obtain ⟨u1, u2⟩ := lw_ub hr (lw_ph h) (by omega)
  have n0 := hr.1
  have n8 := hr.2.1
  refine G_aload_n 3 dr_cL_law_262 rfl ?_
  refine G_aload_n 4 dr_cL_law_263 rfl ?_
  refine G_iload 0 dr_cL_law_264 rfl ?_
  refine G_iconst 1 dr_cL_law_266 (by decide +kernel) ?_
  refine G_iadd dr_cL_law_267 ?_
  refine G_sld dr_cL_law_268 (ii 1 1 (by decide) (by decide) (by decide)) ?_
  refine G_aload_n 1 dr_cL_law_269 rfl ?_
  refine Gf_1S (As := [.ref x, .int (xs (iv + 1).toNatClampNeg), .ref o]) (gV_ok D I) (cw_count l hl0 D I hx) dr_cL_law_270 ⟨wr_5_197, wr_1_0, wr_5_199, by decide, rfl, (Nat.le_of_ble_eq_true rfl), (Nat.le_of_ble_eq_true rfl)⟩ wr_5_198 (show cs + 1 ≤ 601024 by omega) (show sl + 6 ≤ 7293034 by omega) (Nat.le_of_ble_eq_true rfl) (fun r w hp => ?_) (fun _ _ _ z => z.elim)
  obtain ⟨A1, k1, f1, rfl, rfl, hq⟩ := hp
  change G _ _ _ _ _ _ _ (.int k1 :: []) _ _ _
  refine G_istore (L' := (5, .int k1) :: lwV b x m o iv) dr_cL_law_273 (Nat.le_of_ble_eq_true rfl) rfl ?_
  refine G_aload_n 3 dr_cL_law_275 rfl ?_
  refine G_aload_n 5 dr_cL_law_276 rfl ?_
  refine G_iload 1 dr_cL_law_277 rfl ?_
  refine G_iconst 1 dr_cL_law_279 (by decide +kernel) ?_
  refine G_iadd dr_cL_law_280 ?_
  refine G_sld dr_cL_law_281 (ii 1 1 (by decide) (by decide) (by decide)) ?_
  refine Gm_count hl0 dr_cL_law_282 ⟨wr_11_71, wr_1_14, wr_11_74, by decide, rfl, (Nat.le_of_ble_eq_true rfl), (Nat.le_of_ble_eq_true rfl)⟩ wr_11_72 wr_11_73 h (show cs + 1 ≤ 601024 by omega) (show sl + 6 ≤ 7293034 by omega) (Nat.le_of_ble_eq_true rfl) (fun F1 z n1 g1 g2 g3 g4 gk => ?_)
  refine G_istore (L' := (6, .int z) :: (5, .int k1) :: lwV b x m o iv) dr_cL_law_285 (Nat.le_of_ble_eq_true rfl) rfl ?_
  refine G_goto 541 dr_cL_law_287 (by decide +kernel) ?_
  refine G_lv [2, 3, 4, 5, 6] rfl ?_
  exact kk A1 f1 P F1 γ el n1 cv _ _ (by rw [g4]; exact hq) g1 (by rw [g4]; exact LK9_k hl gk) (lwR_t hr g2 g3 (by omega) (by omega) (by omega) (by omega) (by omega))
set_option maxHeartbeats 1000000 in
theorem lw_b8 (hl0 : l.stackTraces = false) (ii : ∀ (c : Int32) (q : Int), c.toInt = q → 0 ≤ q → q ≤ 5 → vp_in (iv + c) M) (hx : clS D I x A n cv) (h : mdS D I m n P F γ el) (hl : LK9 I cv n m γ el F) (hr : lwR γ el F m n j cs sl) (hj : j ≤ 511) (kk : lwN l D I b M xs x m o iv j) :
    G (gV D I) l room_1 lwF (lwK b M xs) 386 (lwV b x m o iv) [] ((A ++ lwO I o f) ++ va_pl P F) cs sl := by
  obtain ⟨u1, u2⟩ := lw_ub hr (lw_ph h) (by omega)
  have n0 := hr.1
  have n8 := hr.2.1
  refine G_aload_n 3 dr_cL_law_386 rfl ?_
  refine G_aload_n 4 dr_cL_law_387 rfl ?_
  refine G_iload 0 dr_cL_law_388 rfl ?_
  refine G_iconst 1 dr_cL_law_390 (by decide +kernel) ?_
  refine G_iadd dr_cL_law_391 ?_
  refine G_sld dr_cL_law_392 (ii 1 1 (by decide) (by decide) (by decide)) ?_
  refine G_aload_n 1 dr_cL_law_393 rfl ?_
  refine Gf_1S (As := [.ref x, .int (xs (iv + 1).toNatClampNeg), .ref o]) (gV_ok D I) (cw_told l hl0 D I hx) dr_cL_law_394 ⟨wr_6_112, wr_1_0, wr_6_114, by decide, rfl, (Nat.le_of_ble_eq_true rfl), (Nat.le_of_ble_eq_true rfl)⟩ wr_6_113 (show cs + 1 ≤ 601024 by omega) (show sl + 6 ≤ 7293034 by omega) (Nat.le_of_ble_eq_true rfl) (fun r w hp => ?_) (fun _ _ _ z => z.elim)
  obtain ⟨A1, k1, f1, rfl, rfl, hq⟩ := hp
  change G _ _ _ _ _ _ _ (.int k1 :: []) _ _ _
  refine G_istore (L' := (5, .int k1) :: lwV b x m o iv) dr_cL_law_397 (Nat.le_of_ble_eq_true rfl) rfl ?_
  refine G_aload_n 3 dr_cL_law_399 rfl ?_
  refine G_aload_n 5 dr_cL_law_400 rfl ?_
  refine G_iload 1 dr_cL_law_401 rfl ?_
  refine G_iconst 1 dr_cL_law_403 (by decide +kernel) ?_
  refine G_iadd dr_cL_law_404 ?_
  refine G_sld dr_cL_law_405 (ii 1 1 (by decide) (by decide) (by decide)) ?_
  refine Gm_told hl0 dr_cL_law_406 ⟨wr_11_109, wr_1_14, wr_11_112, by decide, rfl, (Nat.le_of_ble_eq_true rfl), (Nat.le_of_ble_eq_true rfl)⟩ wr_11_110 wr_11_111 h (show cs + 1 ≤ 601024 by omega) (show sl + 6 ≤ 7293034 by omega) (Nat.le_of_ble_eq_true rfl) (fun F1 z n1 g1 g2 g3 g4 gk gM => ?_)
  refine G_istore (L' := (6, .int z) :: (5, .int k1) :: lwV b x m o iv) dr_cL_law_409 (Nat.le_of_ble_eq_true rfl) rfl ?_
  refine G_goto 541 dr_cL_law_411 (by decide +kernel) ?_
  refine G_lv [2, 3, 4, 5, 6] rfl ?_
  exact kk A1 f1 P F1 γ el n1 cv _ _ (by rw [g4]; exact hq.1) g1 (by rw [g4]; exact LK9_k hl gk) (lwR_t hr g2 g3 (by omega) (by omega) (by omega) (by omega) (by omega))
set_option maxHeartbeats 1000000 in
theorem lw_b9 (hl0 : l.stackTraces = false) (ii : ∀ (c : Int32) (q : Int), c.toInt = q → 0 ≤ q → q ≤ 5 → vp_in (iv + c) M) (hx : clS D I x A n cv) (h : mdS D I m n P F γ el) (hl : LK9 I cv n m γ el F) (hr : lwR γ el F m n j cs sl) (hj : j ≤ 511) (kk : lwN l D I b M xs x m o iv j) :
    G (gV D I) l room_1 lwF (lwK b M xs) 414 (lwV b x m o iv) [] ((A ++ lwO I o f) ++ va_pl P F) cs sl := by
  obtain ⟨u1, u2⟩ := lw_ub hr (lw_ph h) (by omega)
  have n0 := hr.1
  have n8 := hr.2.1
  refine G_aload_n 3 dr_cL_law_414 rfl ?_
  refine G_aload_n 4 dr_cL_law_415 rfl ?_
  refine G_iload 0 dr_cL_law_416 rfl ?_
  refine G_iconst 1 dr_cL_law_418 (by decide +kernel) ?_
  refine G_iadd dr_cL_law_419 ?_
  refine G_sld dr_cL_law_420 (ii 1 1 (by decide) (by decide) (by decide)) ?_
  refine G_aload_n 1 dr_cL_law_421 rfl ?_
  refine Gf_1S (As := [.ref x, .int (xs (iv + 1).toNatClampNeg), .ref o]) (gV_ok D I) (cw_shown l hl0 D I hx) dr_cL_law_422 ⟨wr_6_136, wr_1_0, wr_6_138, by decide, rfl, (Nat.le_of_ble_eq_true rfl), (Nat.le_of_ble_eq_true rfl)⟩ wr_6_137 (show cs + 1 ≤ 601024 by omega) (show sl + 6 ≤ 7293034 by omega) (Nat.le_of_ble_eq_true rfl) (fun r w hp => ?_) (fun _ _ _ z => z.elim)
  obtain ⟨A1, k1, f1, rfl, rfl, hq⟩ := hp
  change G _ _ _ _ _ _ _ (.int k1 :: []) _ _ _
  refine G_istore (L' := (5, .int k1) :: lwV b x m o iv) dr_cL_law_425 (Nat.le_of_ble_eq_true rfl) rfl ?_
  refine G_aload_n 3 dr_cL_law_427 rfl ?_
  refine G_aload_n 5 dr_cL_law_428 rfl ?_
  refine G_iload 1 dr_cL_law_429 rfl ?_
  refine G_iconst 1 dr_cL_law_431 (by decide +kernel) ?_
  refine G_iadd dr_cL_law_432 ?_
  refine G_sld dr_cL_law_433 (ii 1 1 (by decide) (by decide) (by decide)) ?_
  refine Gm_shown hl0 dr_cL_law_434 ⟨wr_11_113, wr_1_14, wr_11_116, by decide, rfl, (Nat.le_of_ble_eq_true rfl), (Nat.le_of_ble_eq_true rfl)⟩ wr_11_114 wr_11_115 h (show cs + 1 ≤ 601024 by omega) (show sl + 6 ≤ 7293034 by omega) (Nat.le_of_ble_eq_true rfl) (fun F1 z n1 g1 g2 g3 g4 gk gM => ?_)
  refine G_istore (L' := (6, .int z) :: (5, .int k1) :: lwV b x m o iv) dr_cL_law_437 (Nat.le_of_ble_eq_true rfl) rfl ?_
  refine G_goto 541 dr_cL_law_439 (by decide +kernel) ?_
  refine G_lv [2, 3, 4, 5, 6] rfl ?_
  exact kk A1 f1 P F1 γ el n1 cv _ _ (by rw [g4]; exact hq.1) g1 (by rw [g4]; exact LK9_k hl gk) (lwR_t hr g2 g3 (by omega) (by omega) (by omega) (by omega) (by omega))
set_option maxHeartbeats 1000000 in
theorem lw_b11 (hl0 : l.stackTraces = false) (ii : ∀ (c : Int32) (q : Int), c.toInt = q → 0 ≤ q → q ≤ 5 → vp_in (iv + c) M) (hx : clS D I x A n cv) (h : mdS D I m n P F γ el) (hl : LK9 I cv n m γ el F) (hr : lwR γ el F m n j cs sl) (hj : j ≤ 511) (kk : lwN l D I b M xs x m o iv j) :
    G (gV D I) l room_1 lwF (lwK b M xs) 486 (lwV b x m o iv) [] ((A ++ lwO I o f) ++ va_pl P F) cs sl := by
  obtain ⟨u1, u2⟩ := lw_ub hr (lw_ph h) (by omega)
  have n0 := hr.1
  have n8 := hr.2.1
  refine G_aload_n 3 dr_cL_law_486 rfl ?_
  refine G_aload_n 4 dr_cL_law_487 rfl ?_
  refine G_iload 0 dr_cL_law_488 rfl ?_
  refine G_iconst 1 dr_cL_law_490 (by decide +kernel) ?_
  refine G_iadd dr_cL_law_491 ?_
  refine G_sld dr_cL_law_492 (ii 1 1 (by decide) (by decide) (by decide)) ?_
  refine G_aload_n 1 dr_cL_law_493 rfl ?_
  refine Gf_1S (As := [.ref x, .int (xs (iv + 1).toNatClampNeg), .ref o]) (gV_ok D I) (cw_word l hl0 D I hx) dr_cL_law_494 ⟨wr_6_217, wr_1_0, wr_6_219, by decide, rfl, (Nat.le_of_ble_eq_true rfl), (Nat.le_of_ble_eq_true rfl)⟩ wr_6_218 (show cs + 1 ≤ 601024 by omega) (show sl + 6 ≤ 7293034 by omega) (Nat.le_of_ble_eq_true rfl) (fun r w hp => ?_) (fun _ _ _ z => z.elim)
  obtain ⟨A1, k1, f1, rfl, rfl, hq⟩ := hp
  change G _ _ _ _ _ _ _ (.int k1 :: []) _ _ _
  refine G_istore (L' := (5, .int k1) :: lwV b x m o iv) dr_cL_law_497 (Nat.le_of_ble_eq_true rfl) rfl ?_
  refine G_aload_n 3 dr_cL_law_499 rfl ?_
  refine G_aload_n 5 dr_cL_law_500 rfl ?_
  refine G_iload 1 dr_cL_law_501 rfl ?_
  refine G_iconst 1 dr_cL_law_503 (by decide +kernel) ?_
  refine G_iadd dr_cL_law_504 ?_
  refine G_sld dr_cL_law_505 (ii 1 1 (by decide) (by decide) (by decide)) ?_
  refine Gm_word hl0 dr_cL_law_506 ⟨wr_11_219, wr_1_14, wr_11_222, by decide, rfl, (Nat.le_of_ble_eq_true rfl), (Nat.le_of_ble_eq_true rfl)⟩ wr_11_220 wr_11_221 h (show cs + 1 ≤ 601024 by omega) (show sl + 6 ≤ 7293034 by omega) (Nat.le_of_ble_eq_true rfl) (fun F1 z n1 g1 g2 g3 g4 gk gM => ?_)
  have hE := wd_q hl.2.2.2.2 gM hq.2
  have hc1 := hq.1
  have hl1 := LK9_k hl gk
  refine G_lstore (L' := (6, .long z) :: (5, .int k1) :: lwV b x m o iv) dr_cL_law_509 (Nat.le_of_ble_eq_true rfl) rfl ?_
  refine G_aload_n 4 dr_cL_law_511 rfl ?_
  have hR := lwR_t (n1 := n1) (F1 := F1) (cs2 := cs + 1) (sl2 := sl + 6) hr g2 g3 (by omega) (by omega) (by omega) (by omega) (by omega)
  refine Gm_thrown hl0 dr_cL_law_512 ⟨wr_7_183, wr_1_14, wr_7_186, by decide, rfl, (Nat.le_of_ble_eq_true rfl), (Nat.le_of_ble_eq_true rfl)⟩ wr_7_184 wr_7_185 g1 (show _ ≤ 601024 by omega) (show _ ≤ 7293034 by omega) (Nat.le_of_ble_eq_true rfl) (fun t ht => ?_)
  refine G_iload 1 dr_cL_law_515 rfl ?_
  have ek : t = k1 := Int32.toInt_inj.mp (ht.trans (congrArg Int32.toInt hE.1))
  have k9 : G (gV D I) l room_1 lwF (lwK b M xs) 538 ((6, .long z) :: (5, .int k1) :: lwV b x m o iv) [] ((A1 ++ lwO I o f1) ++ va_pl P F1) (cs + 1) (sl + 6) := by
    refine G_goto 541 dr_cL_law_538 (by decide +kernel) ?_
    refine G_lv [2, 3, 4, 5, 6] rfl ?_
    exact kk A1 f1 P F1 γ el n1 cv _ _ (by rw [g4]; exact hc1) g1 (by rw [g4]; exact hl1) hR
  refine G_icmp_eq 522 dr_cL_law_517 (by decide +kernel) (fun _ => ?_) (fun hc => absurd ek hc)
  refine G_iload 1 dr_cL_law_522 rfl ?_
  refine G_if_ne 538 dr_cL_law_524 (by decide +kernel) (fun _ => k9) (fun hc => ?_)
  have b5 := hE.2 hc
  refine G_aload_n 3 dr_cL_law_527 rfl ?_
  refine G_iconst 0 dr_cL_law_528 (by decide +kernel) ?_
  refine G_lald A1.length 2 dr_cL_law_529 lw_0 rfl gB_in1 ?_
  refine G_lload 0 dr_cL_law_530 rfl ?_
  refine G_lcmp dr_cL_law_532 ?_
  have e0 : lg_cmp (f1 (Int32.toNatClampNeg 0)) z = 0 := by
    rw [show f1 (Int32.toNatClampNeg 0) = z from b5]
    exact gl_refl _
  exact G_if_eq 538 dr_cL_law_533 (by decide +kernel) (fun _ => k9) (fun hc => absurd e0 hc)
set_option maxHeartbeats 1000000 in
theorem lw_b1 (hl0 : l.stackTraces = false) (ii : ∀ (c : Int32) (q : Int), c.toInt = q → 0 ≤ q → q ≤ 5 → vp_in (iv + c) M) (hx : clS D I x A n cv) (h : mdS D I m n P F γ el) (hl : LK9 I cv n m γ el F) (hr : lwR γ el F m n j cs sl) (hj : j ≤ 511) (kk : lwN l D I b M xs x m o iv j) :
    G (gV D I) l room_1 lwF (lwK b M xs) 180 (lwV b x m o iv) [] ((A ++ lwO I o f) ++ va_pl P F) cs sl := by
  obtain ⟨u1, u2⟩ := lw_ub hr (lw_ph h) (by omega)
  have n0 := hr.1
  have n8 := hr.2.1
  refine G_aload_n 3 dr_cL_law_180 rfl ?_
  refine G_aload_n 4 dr_cL_law_181 rfl ?_
  refine G_iload 0 dr_cL_law_182 rfl ?_
  refine G_iconst 1 dr_cL_law_184 (by decide +kernel) ?_
  refine G_iadd dr_cL_law_185 ?_
  refine G_sld dr_cL_law_186 (ii 1 1 (by decide) (by decide) (by decide)) ?_
  refine G_aload_n 1 dr_cL_law_187 rfl ?_
  refine Gf_1S (As := [.ref x, .int (xs (iv + 1).toNatClampNeg), .ref o]) (gV_ok D I) (cw_end l hl0 D I hx) dr_cL_law_188 ⟨wr_5_31, wr_1_0, wr_5_33, by decide, rfl, (Nat.le_of_ble_eq_true rfl), (Nat.le_of_ble_eq_true rfl)⟩ wr_5_32 (show cs + 1 ≤ 601024 by omega) (show sl + 6 ≤ 7293034 by omega) (Nat.le_of_ble_eq_true rfl) (fun r w hp => ?_) (fun _ _ _ z => z.elim)
  obtain ⟨A1, k1, f1, rfl, rfl, hq⟩ := hp
  change G _ _ _ _ _ _ _ (.int k1 :: []) _ _ _
  refine G_istore (L' := (5, .int k1) :: lwV b x m o iv) dr_cL_law_191 (Nat.le_of_ble_eq_true rfl) rfl ?_
  refine G_aload_n 3 dr_cL_law_193 rfl ?_
  refine G_aload_n 5 dr_cL_law_194 rfl ?_
  refine G_iload 1 dr_cL_law_195 rfl ?_
  refine G_iconst 1 dr_cL_law_197 (by decide +kernel) ?_
  refine G_iadd dr_cL_law_198 ?_
  refine G_sld dr_cL_law_199 (ii 1 1 (by decide) (by decide) (by decide)) ?_
  refine Gm_end hl0 dr_cL_law_200 ⟨wr_7_199, wr_1_14, wr_7_202, by decide, rfl, (Nat.le_of_ble_eq_true rfl), (Nat.le_of_ble_eq_true rfl)⟩ wr_7_200 wr_7_201 h (show cs + 1 ≤ 601024 by omega) (show sl + 6 ≤ 7293034 by omega) (Nat.le_of_ble_eq_true rfl) (fun F1 z n1 g1 g2 g3 g4 gk => ?_)
  refine G_istore (L' := (6, .int z) :: (5, .int k1) :: lwV b x m o iv) dr_cL_law_203 (Nat.le_of_ble_eq_true rfl) rfl ?_
  refine G_goto 541 dr_cL_law_205 (by decide +kernel) ?_
  refine G_lv [2, 3, 4, 5, 6] rfl ?_
  rcases g4 with ⟨a1, a2, a3, a4, a5⟩ | ⟨a1, a2, a3⟩
  · rcases hq with ⟨b1, b2, b3, b4⟩ | ⟨b1, b2, b3⟩
    · exact kk A1 f1 P F1 γ el n1 cv _ _ (by rw [a3]; exact b4) g1 (LK9_n (LK9_k hl gk) (by omega)) (lwR_t hr g2 g3 (by omega) (by omega) (by omega) (by omega) (by omega))
    · omega
  · rcases hq with ⟨b1, b2, b3, b4⟩ | ⟨b1, b2, b3⟩
    · omega
    · exact kk A1 f1 P F1 γ el n1 cv _ _ (by rw [a2]; exact b3) g1 (by rw [a2]; exact LK9_k hl gk) (lwR_t hr g2 g3 (by omega) (by omega) (by omega) (by omega) (by omega))
set_option maxHeartbeats 1000000 in
theorem lw_b0 (hl0 : l.stackTraces = false) (ii : ∀ (c : Int32) (q : Int), c.toInt = q → 0 ≤ q → q ≤ 5 → vp_in (iv + c) M) (hx : clS D I x A n cv) (h : mdS D I m n P F γ el) (hl : LK9 I cv n m γ el F) (hr : lwR γ el F m n j cs sl) (hj : j ≤ 511) (kk : lwN l D I b M xs x m o iv j) :
    G (gV D I) l room_1 lwF (lwK b M xs) 104 (lwV b x m o iv) [] ((A ++ lwO I o f) ++ va_pl P F) cs sl := by
  obtain ⟨u1, u2⟩ := lw_ub hr (lw_ph h) (by omega)
  have n0 := hr.1
  have n8 := hr.2.1
  refine G_aload_n 3 dr_cL_law_104 rfl ?_
  refine G_aload_n 4 dr_cL_law_105 rfl ?_
  refine G_iload 0 dr_cL_law_106 rfl ?_
  refine G_iconst 1 dr_cL_law_108 (by decide +kernel) ?_
  refine G_iadd dr_cL_law_109 ?_
  refine G_sld dr_cL_law_110 (ii 1 1 (by decide) (by decide) (by decide)) ?_
  refine G_aload_n 4 dr_cL_law_111 rfl ?_
  refine G_iload 0 dr_cL_law_112 rfl ?_
  refine G_iconst 2 dr_cL_law_114 (by decide +kernel) ?_
  refine G_iadd dr_cL_law_115 ?_
  refine G_sld dr_cL_law_116 (ii 2 2 (by decide) (by decide) (by decide)) ?_
  refine G_aload_n 4 dr_cL_law_117 rfl ?_
  refine G_iload 0 dr_cL_law_118 rfl ?_
  refine G_iconst 3 dr_cL_law_120 (by decide +kernel) ?_
  refine G_iadd dr_cL_law_121 ?_
  refine G_sld dr_cL_law_122 (ii 3 3 (by decide) (by decide) (by decide)) ?_
  refine G_aload_n 4 dr_cL_law_123 rfl ?_
  refine G_iload 0 dr_cL_law_124 rfl ?_
  refine G_iconst 4 dr_cL_law_126 (by decide +kernel) ?_
  refine G_iadd dr_cL_law_127 ?_
  refine G_sld dr_cL_law_128 (ii 4 4 (by decide) (by decide) (by decide)) ?_
  refine G_aload_n 4 dr_cL_law_129 rfl ?_
  refine G_iload 0 dr_cL_law_130 rfl ?_
  refine G_iconst 5 dr_cL_law_132 (by decide +kernel) ?_
  refine G_iadd dr_cL_law_133 ?_
  refine G_sld dr_cL_law_134 (ii 5 5 (by decide) (by decide) (by decide)) ?_
  refine G_aload_n 1 dr_cL_law_135 rfl ?_
  refine Gf_1S (As := [.ref x, .int (xs (iv + 1).toNatClampNeg), .int (xs (iv + 2).toNatClampNeg), .int (xs (iv + 3).toNatClampNeg), .int (xs (iv + 4).toNatClampNeg), .int (xs (iv + 5).toNatClampNeg), .ref o]) (gV_ok D I) (cw_feed l hl0 D I hx) dr_cL_law_136 ⟨wr_4_183, wr_1_0, wr_4_185, by decide, rfl, (Nat.le_of_ble_eq_true rfl), (Nat.le_of_ble_eq_true rfl)⟩ wr_4_184 (show cs + 1 ≤ 601024 by omega) (show sl + 6 ≤ 7293034 by omega) (Nat.le_of_ble_eq_true rfl) (fun r w hp => ?_) (fun _ _ _ z => z.elim)
  obtain ⟨A1, k1, f1, rfl, rfl, hq⟩ := hp
  change G _ _ _ _ _ _ _ (.int k1 :: []) _ _ _
  refine G_istore (L' := (5, .int k1) :: lwV b x m o iv) dr_cL_law_139 (Nat.le_of_ble_eq_true rfl) rfl ?_
  refine G_aload_n 3 dr_cL_law_141 rfl ?_
  refine G_aload_n 5 dr_cL_law_142 rfl ?_
  refine G_iload 1 dr_cL_law_143 rfl ?_
  refine G_iconst 1 dr_cL_law_145 (by decide +kernel) ?_
  refine G_iadd dr_cL_law_146 ?_
  refine G_sld dr_cL_law_147 (ii 1 1 (by decide) (by decide) (by decide)) ?_
  refine G_aload_n 5 dr_cL_law_148 rfl ?_
  refine G_iload 1 dr_cL_law_149 rfl ?_
  refine G_iconst 2 dr_cL_law_151 (by decide +kernel) ?_
  refine G_iadd dr_cL_law_152 ?_
  refine G_sld dr_cL_law_153 (ii 2 2 (by decide) (by decide) (by decide)) ?_
  refine G_aload_n 5 dr_cL_law_154 rfl ?_
  refine G_iload 1 dr_cL_law_155 rfl ?_
  refine G_iconst 3 dr_cL_law_157 (by decide +kernel) ?_
  refine G_iadd dr_cL_law_158 ?_
  refine G_sld dr_cL_law_159 (ii 3 3 (by decide) (by decide) (by decide)) ?_
  refine G_aload_n 5 dr_cL_law_160 rfl ?_
  refine G_iload 1 dr_cL_law_161 rfl ?_
  refine G_iconst 4 dr_cL_law_163 (by decide +kernel) ?_
  refine G_iadd dr_cL_law_164 ?_
  refine G_sld dr_cL_law_165 (ii 4 4 (by decide) (by decide) (by decide)) ?_
  refine G_aload_n 5 dr_cL_law_166 rfl ?_
  refine G_iload 1 dr_cL_law_167 rfl ?_
  refine G_iconst 5 dr_cL_law_169 (by decide +kernel) ?_
  refine G_iadd dr_cL_law_170 ?_
  refine G_sld dr_cL_law_171 (ii 5 5 (by decide) (by decide) (by decide)) ?_
  refine Gm_feed hl0 dr_cL_law_172 ⟨wr_7_187, wr_1_14, wr_7_190, by decide, rfl, (Nat.le_of_ble_eq_true rfl), (Nat.le_of_ble_eq_true rfl)⟩ wr_7_188 wr_7_189 h (show cs + 1 ≤ 601024 by omega) (show sl + 6 ≤ 7293034 by omega) (Nat.le_of_ble_eq_true rfl) (fun F1 z n1 g1 g2 g3 g4 ks k9 k10 kO kt => ?_)
  refine G_istore (L' := (6, .int z) :: (5, .int k1) :: lwV b x m o iv) dr_cL_law_175 (Nat.le_of_ble_eq_true rfl) rfl ?_
  refine G_goto 541 dr_cL_law_177 (by decide +kernel) ?_
  refine G_lv [2, 3, 4, 5, 6] rfl ?_
  rcases g4 with ⟨a1, a2, a3, a4⟩ | ⟨a1, a2, a3⟩
  · rcases hq with ⟨b1, b2, s, z1, z2, B, b3, b4, b5⟩ | ⟨b1, b2, b3⟩
    · exact kk A1 f1 P F1 γ el n1 (B, cv.2) _ _ (by rw [a3]; exact b4) g1 (by rw [a3]; exact LK9_f h g1.1 hl ks k9 k10 kO kt n0 a1 b3 b5) (lwR_t hr g2 g3 (by omega) (by omega) (by omega) (by omega) (by omega))
    · omega
  · rcases hq with ⟨b1, b2, s, z1, z2, B, b3, b4, b5⟩ | ⟨b1, b2, b3⟩
    · omega
    · exact kk A1 f1 P F1 γ el n1 cv _ _ (by rw [a2]; exact b3) g1 (by rw [a2]; exact LK9_f1 h g1.1 hl ks k9 k10 kO kt a1) (lwR_t hr g2 g3 (by omega) (by omega) (by omega) (by omega) (by omega))
theorem lw_t9 {nn : Nat} (hr : lwR γ el F m n j cs sl) (hnn : (nn : Int) = n) (hj : j ≤ 511) : rM γ el 0 + 41 * nn + 600 ≤ 2000000 := by
  unfold lwR at hr
  omega
theorem lw_tx {nn : Nat} (hr : lwR γ el F m n j cs sl) (hp : rPh γ el 0 + 100 ≤ rM γ el 0 ∧ rPh γ el 1 ≤ 1078104 ∧ rPh γ el 2 ≤ 576240) (hj : j ≤ 511) (hnn : (nn : Int) = n) : cs + 0 + ((rM γ el 0 + 41 * nn + 600 + 360 * nn + 1200 - rPh γ el 0) / 18 + 1) ≤ 601024 ∧ sl + 0 + (rM γ el 0 + 41 * nn + 600 + 232 * nn + 1400 - rPh γ el 0) ≤ 7293034 := by
  unfold lwR at hr
  omega
theorem lw_gv (hr : lwR γ el F m n j cs sl) (hp : rPh γ el 0 + 100 ≤ rM γ el 0 ∧ rPh γ el 1 ≤ 1078104 ∧ rPh γ el 2 ≤ 576240) (hj : j ≤ 511) : cs + 1 + ((387 * 4061 + 6000) - rPh γ el 1) / 18 ≤ 601024 ∧ sl + 6 + ((387 * 4061 + 6000) - rPh γ el 1) ≤ 7293034 := by
  unfold lwR at hr
  omega
theorem lw_lk (hr : lwR γ el F m n j cs sl) (hp : rPh γ el 0 + 100 ≤ rM γ el 0 ∧ rPh γ el 1 ≤ 1078104 ∧ rPh γ el 2 ≤ 576240) (hj : j ≤ 511) : cs + 1 + ((387 * 2160 + 6000) - rPh γ el 2) / 18 ≤ 601024 ∧ sl + 6 + ((387 * 2160 + 6000) - rPh γ el 2) ≤ 7293034 := by
  unfold lwR at hr
  omega
theorem lw_ls (hr : lwR γ el F m n j cs sl) (hp : rPh γ el 0 + 100 ≤ rM γ el 0 ∧ rPh γ el 1 ≤ 1078104 ∧ rPh γ el 2 ≤ 576240) (hj : j ≤ 511) : cs + 1 + (213572 + 10 - wDN γ F / 2) ≤ 601024 ∧ sl + 6 + (6 * 213572 + 200 - 2 * wDN γ F) ≤ 7293034 ∧ rmW (213572 + 10 - wDN γ F / 2) (6 * 213572 + 200 - 2 * wDN γ F) (wDN γ F) 213572 ∧ 2 * 213572 ≤ 6 * 213572 + 200 - 2 * wDN γ F ∧ 64 ≤ lRN γ F m := by
  unfold lwR at hr
  unfold rmW
  omega
theorem lwR_l {dc ds : Nat} (hr : lwR γ el F m n j cs sl) (hj : ∀ j, j ≠ 0 → j ≠ 12 → γ2 j = γ j) (hc : lsC (wDN γ F) (lRN γ F m) (wDN γ2 F1) (lRN γ2 F1 m) 213572 dc ds) : lwR γ2 el F1 m n (j + 1) (cs + 1 + dc) (sl + 6 + ds) := by
  obtain ⟨q1, q2, q3, q4, q5, q6⟩ := hc
  have a1 : wDN γ F ≤ 427160 := hr.2.2.2.2.2.2.1
  have a2 : lRN γ F m ≤ 427144 := hr.2.2.2.2.2.2.2.2
  exact lwR_j hr hj hr.1 (Int.le_refl _) q1 (by omega) q3 (by omega) (by omega) (by omega)
set_option maxHeartbeats 1000000 in
theorem lw_b2 (hl0 : l.stackTraces = false) (ii : ∀ (c : Int32) (q : Int), c.toInt = q → 0 ≤ q → q ≤ 5 → vp_in (iv + c) M) (hx : clS D I x A n cv) (h : mdS D I m n P F γ el) (hl : LK9 I cv n m γ el F) (hr : lwR γ el F m n j cs sl) (hj : j ≤ 511) (kk : lwN l D I b M xs x m o iv j) :
    G (gV D I) l room_1 lwF (lwK b M xs) 208 (lwV b x m o iv) [] ((A ++ lwO I o f) ++ va_pl P F) cs sl := by
  obtain ⟨u1, u2⟩ := lw_ub hr (lw_ph h) (by omega)
  have n0 := hr.1
  have n8 := hr.2.1
  rw [List.append_assoc]
  refine G_aload_n 3 dr_cL_law_208 rfl ?_
  refine Gl_text hl0 dr_cL_law_209 ⟨wr_2_232, wr_1_1, wr_2_235, by decide, rfl, (Nat.le_of_ble_eq_true rfl), (Nat.le_of_ble_eq_true rfl)⟩ wr_2_233 wr_2_234 hx (show cs + 0 ≤ 601024 by omega) (show sl + 0 ≤ 7293034 by omega) (Nat.le_of_ble_eq_true rfl) (fun A1 z1 c1 hc hcx hcg => ?_)
  rw [← List.append_assoc]
  refine G_pop dr_cL_law_212 rfl ?_
  refine G_aload_n 2 dr_cL_law_213 rfl ?_
  obtain ⟨nn, hnn⟩ : ∃ nn : Nat, (nn : Int) = n := ⟨n.toNat, by omega⟩
  obtain ⟨r1, r2⟩ := lw_tx hr (lw_ph h) hj hnn
  refine Gm_text (M := rM γ el 0 + 41 * nn + 600) (mc := (rM γ el 0 + 41 * nn + 600 + 360 * nn + 1200 - rPh γ el 0) / 18 + 1) (ms := rM γ el 0 + 41 * nn + 600 + 232 * nn + 1400 - rPh γ el 0) hl0 dr_cL_law_214 ⟨wr_7_203, wr_1_14, wr_7_206, by decide, rfl, (Nat.le_of_ble_eq_true rfl), (Nat.le_of_ble_eq_true rfl)⟩ wr_7_204 wr_7_205 h (by omega) (lw_t9 hr hnn hj) (by omega) (by omega) r1 r2 (Nat.le_of_ble_eq_true rfl) (fun P1 F1 γ2 el1 z dc ds g1 g2 g3 g4 g5 g6 g7 g8 k9 kt kx kG kI kS k10 => ?_)
  refine G_pop dr_cL_law_217 rfl ?_
  refine G_goto 541 dr_cL_law_218 (by decide +kernel) ?_
  exact kk A1 f P1 F1 γ2 el1 0 c1 _ _ hc g1 (LK9_x hl n0 hcx hcg k9 kt kx kG kI kS k10) (lwR_g hr (by omega) (by omega) (by omega) (by rw [g2, g3]; omega) (by rw [g2, g3]; omega) g7 g8)
set_option maxHeartbeats 1000000 in
theorem lw_b3 (hl0 : l.stackTraces = false) (ii : ∀ (c : Int32) (q : Int), c.toInt = q → 0 ≤ q → q ≤ 5 → vp_in (iv + c) M) (hx : clS D I x A n cv) (h : mdS D I m n P F γ el) (hl : LK9 I cv n m γ el F) (hr : lwR γ el F m n j cs sl) (hj : j ≤ 511) (kk : lwN l D I b M xs x m o iv j) :
    G (gV D I) l room_1 lwF (lwK b M xs) 221 (lwV b x m o iv) [] ((A ++ lwO I o f) ++ va_pl P F) cs sl := by
  obtain ⟨u1, u2⟩ := lw_ub hr (lw_ph h) (by omega)
  have n0 := hr.1
  have n8 := hr.2.1
  rw [List.append_assoc]
  refine G_aload_n 3 dr_cL_law_221 rfl ?_
  refine Gl_input hl0 dr_cL_law_222 ⟨wr_4_168, wr_1_1, wr_4_171, by decide, rfl, (Nat.le_of_ble_eq_true rfl), (Nat.le_of_ble_eq_true rfl)⟩ wr_4_169 wr_4_170 hx (show cs + 0 ≤ 601024 by omega) (show sl + 0 ≤ 7293034 by omega) (Nat.le_of_ble_eq_true rfl) (fun A1 z1 c1 hc e1 hci => ?_)
  rw [← List.append_assoc]
  refine G_pop dr_cL_law_225 rfl ?_
  refine G_aload_n 2 dr_cL_law_226 rfl ?_
  refine Gm_input hl0 dr_cL_law_227 ⟨wr_10_124, wr_1_14, wr_10_127, by decide, rfl, (Nat.le_of_ble_eq_true rfl), (Nat.le_of_ble_eq_true rfl)⟩ wr_10_125 wr_10_126 h (show cs + 0 + 1 ≤ 601024 by omega) (show sl + 0 + 2048 ≤ 7293034 by omega) (Nat.le_of_ble_eq_true rfl) (fun P1 F1 γ2 z dc ds g1 g2 g3 g4 g5 g6 e2 gk gG gO g34 gS gx => ?_)
  refine G_pop dr_cL_law_230 rfl ?_
  refine G_goto 541 dr_cL_law_231 (by decide +kernel) ?_
  have a1 : wDN γ F ≤ 427160 := hr.2.2.2.2.2.2.1
  have a2 : lRN γ F m ≤ 427144 := hr.2.2.2.2.2.2.2.2
  exact kk A1 f P1 F1 γ2 el 0 c1 _ _ hc g1 (LK9_i hl n0 hci gk gG gO g34 gS gx) (lwR_j hr g2 (by omega) (by omega) (by omega) (by omega) (by omega) (by omega) (by rw [g3, g4]; omega) (by rw [g3, g4]; omega))
set_option maxHeartbeats 1000000 in
theorem lw_b4 (hl0 : l.stackTraces = false) (ii : ∀ (c : Int32) (q : Int), c.toInt = q → 0 ≤ q → q ≤ 5 → vp_in (iv + c) M) (hx : clS D I x A n cv) (h : mdS D I m n P F γ el) (hl : LK9 I cv n m γ el F) (hr : lwR γ el F m n j cs sl) (hj : j ≤ 511) (kk : lwN l D I b M xs x m o iv j) :
    G (gV D I) l room_1 lwF (lwK b M xs) 234 (lwV b x m o iv) [] ((A ++ lwO I o f) ++ va_pl P F) cs sl := by
  obtain ⟨u1, u2⟩ := lw_ub hr (lw_ph h) (by omega)
  have n0 := hr.1
  have n8 := hr.2.1
  refine G_aload_n 3 dr_cL_law_234 rfl ?_
  refine G_aload_n 4 dr_cL_law_235 rfl ?_
  refine G_iload 0 dr_cL_law_236 rfl ?_
  refine G_iconst 1 dr_cL_law_238 (by decide +kernel) ?_
  refine G_iadd dr_cL_law_239 ?_
  refine G_sld dr_cL_law_240 (ii 1 1 (by decide) (by decide) (by decide)) ?_
  refine G_aload_n 1 dr_cL_law_241 rfl ?_
  refine Gf_1S (As := [.ref x, .int (xs (iv + 1).toNatClampNeg), .ref o]) (gV_ok D I) (cw_give l hl0 D I hx) dr_cL_law_242 ⟨wr_5_55, wr_1_0, wr_5_57, by decide, rfl, (Nat.le_of_ble_eq_true rfl), (Nat.le_of_ble_eq_true rfl)⟩ wr_5_56 (show cs + 1 ≤ 601024 by omega) (show sl + 6 ≤ 7293034 by omega) (Nat.le_of_ble_eq_true rfl) (fun r w hp => ?_) (fun _ _ _ z => z.elim)
  obtain ⟨A1, k1, f1, rfl, rfl, hq⟩ := hp
  change G _ _ _ _ _ _ _ (.int k1 :: []) _ _ _
  refine G_istore (L' := (5, .int k1) :: lwV b x m o iv) dr_cL_law_245 (Nat.le_of_ble_eq_true rfl) rfl ?_
  refine G_aload_n 3 dr_cL_law_247 rfl ?_
  refine G_aload_n 5 dr_cL_law_248 rfl ?_
  refine G_iload 1 dr_cL_law_249 rfl ?_
  refine G_iconst 1 dr_cL_law_251 (by decide +kernel) ?_
  refine G_iadd dr_cL_law_252 ?_
  refine G_sld dr_cL_law_253 (ii 1 1 (by decide) (by decide) (by decide)) ?_
  obtain ⟨r1, r2⟩ := lw_gv hr (lw_ph h) hj
  refine Gm_give hl0 dr_cL_law_254 ⟨wr_10_128, wr_1_14, wr_10_131, by decide, rfl, (Nat.le_of_ble_eq_true rfl), (Nat.le_of_ble_eq_true rfl)⟩ wr_10_129 wr_10_130 h r1 r2 (Nat.le_of_ble_eq_true rfl) (fun P1 F1 γ2 el1 z dc ds g1 g2 g3 g4 g5 g6 g7 g8 gk gI gS gG gA => ?_)
  refine G_istore (L' := (6, .int z) :: (5, .int k1) :: lwV b x m o iv) dr_cL_law_257 (Nat.le_of_ble_eq_true rfl) rfl ?_
  refine G_goto 541 dr_cL_law_259 (by decide +kernel) ?_
  refine G_lv [2, 3, 4, 5, 6] rfl ?_
  obtain ⟨c1, hc1, hl1⟩ := LK9_g hl gk gI gS gG gA hq
  exact kk A1 f1 P1 F1 γ2 el1 n c1 _ _ hc1 g1 hl1 (lwR_g hr n0 (Int.le_refl _) (by rw [g3]; omega) (by rw [g2, g4]; omega) (by rw [g2, g4]; omega) g7 g8)
set_option maxHeartbeats 1000000 in
theorem lw_b6 (hl0 : l.stackTraces = false) (ii : ∀ (c : Int32) (q : Int), c.toInt = q → 0 ≤ q → q ≤ 5 → vp_in (iv + c) M) (hx : clS D I x A n cv) (h : mdS D I m n P F γ el) (hl : LK9 I cv n m γ el F) (hr : lwR γ el F m n j cs sl) (hj : j ≤ 511) (kk : lwN l D I b M xs x m o iv j) :
    G (gV D I) l room_1 lwF (lwK b M xs) 290 (lwV b x m o iv) [] ((A ++ lwO I o f) ++ va_pl P F) cs sl := by
  obtain ⟨u1, u2⟩ := lw_ub hr (lw_ph h) (by omega)
  have n0 := hr.1
  have n8 := hr.2.1
  refine G_aload_n 3 dr_cL_law_290 rfl ?_
  refine G_aload_n 4 dr_cL_law_291 rfl ?_
  refine G_iload 0 dr_cL_law_292 rfl ?_
  refine G_iconst 1 dr_cL_law_294 (by decide +kernel) ?_
  refine G_iadd dr_cL_law_295 ?_
  refine G_sld dr_cL_law_296 (ii 1 1 (by decide) (by decide) (by decide)) ?_
  refine G_aload_n 4 dr_cL_law_297 rfl ?_
  refine G_iload 0 dr_cL_law_298 rfl ?_
  refine G_iconst 2 dr_cL_law_300 (by decide +kernel) ?_
  refine G_iadd dr_cL_law_301 ?_
  refine G_sld dr_cL_law_302 (ii 2 2 (by decide) (by decide) (by decide)) ?_
  refine G_aload_n 1 dr_cL_law_303 rfl ?_
  refine Gf_1S (As := [.ref x, .int (xs (iv + 1).toNatClampNeg), .int (xs (iv + 2).toNatClampNeg), .ref o]) (gV_ok D I) (cw_look l hl0 D I hx) dr_cL_law_304 ⟨wr_6_13, wr_1_0, wr_6_15, by decide, rfl, (Nat.le_of_ble_eq_true rfl), (Nat.le_of_ble_eq_true rfl)⟩ wr_6_14 (show cs + 1 ≤ 601024 by omega) (show sl + 6 ≤ 7293034 by omega) (Nat.le_of_ble_eq_true rfl) (fun r w hp => ?_) (fun _ _ _ z => z.elim)
  obtain ⟨A1, k1, f1, rfl, rfl, hq⟩ := hp
  change G _ _ _ _ _ _ _ (.int k1 :: []) _ _ _
  refine G_istore (L' := (5, .int k1) :: lwV b x m o iv) dr_cL_law_307 (Nat.le_of_ble_eq_true rfl) rfl ?_
  refine G_aload_n 3 dr_cL_law_309 rfl ?_
  refine G_aload_n 5 dr_cL_law_310 rfl ?_
  refine G_iload 1 dr_cL_law_311 rfl ?_
  refine G_iconst 1 dr_cL_law_313 (by decide +kernel) ?_
  refine G_iadd dr_cL_law_314 ?_
  refine G_sld dr_cL_law_315 (ii 1 1 (by decide) (by decide) (by decide)) ?_
  refine G_aload_n 5 dr_cL_law_316 rfl ?_
  refine G_iload 1 dr_cL_law_317 rfl ?_
  refine G_iconst 2 dr_cL_law_319 (by decide +kernel) ?_
  refine G_iadd dr_cL_law_320 ?_
  refine G_sld dr_cL_law_321 (ii 2 2 (by decide) (by decide) (by decide)) ?_
  obtain ⟨r1, r2⟩ := lw_lk hr (lw_ph h) hj
  refine Gm_look hl0 dr_cL_law_322 ⟨wr_11_83, wr_1_14, wr_11_86, by decide, rfl, (Nat.le_of_ble_eq_true rfl), (Nat.le_of_ble_eq_true rfl)⟩ wr_11_84 wr_11_85 h r1 r2 (Nat.le_of_ble_eq_true rfl) (fun P1 F1 γ2 el1 z dc ds g1 g2 g3 g4 g5 g6 g7 g8 gk => ?_)
  refine G_istore (L' := (6, .int z) :: (5, .int k1) :: lwV b x m o iv) dr_cL_law_325 (Nat.le_of_ble_eq_true rfl) rfl ?_
  refine G_goto 541 dr_cL_law_327 (by decide +kernel) ?_
  refine G_lv [2, 3, 4, 5, 6] rfl ?_
  exact kk A1 f1 P1 F1 γ2 el1 n cv _ _ hq.1 g1 (LK9_k hl gk) (lwR_g hr n0 (Int.le_refl _) (by rw [g3]; omega) (by rw [g2, g4]; omega) (by rw [g2, g4]; omega) g7 g8)
set_option maxHeartbeats 1000000 in
theorem lw_b7 (hl0 : l.stackTraces = false) (ii : ∀ (c : Int32) (q : Int), c.toInt = q → 0 ≤ q → q ≤ 5 → vp_in (iv + c) M) (hx : clS D I x A n cv) (h : mdS D I m n P F γ el) (hl : LK9 I cv n m γ el F) (hr : lwR γ el F m n j cs sl) (hj : j ≤ 511) (kk : lwN l D I b M xs x m o iv j) :
    G (gV D I) l room_1 lwF (lwK b M xs) 330 (lwV b x m o iv) [] ((A ++ lwO I o f) ++ va_pl P F) cs sl := by
  obtain ⟨u1, u2⟩ := lw_ub hr (lw_ph h) (by omega)
  have n0 := hr.1
  have n8 := hr.2.1
  have k1 : ∀ b1 : Int32, gB b1 0 1 → ((b1 = 0 ∧ (xs (iv + 1).toNatClampNeg) = 0) ∨ (b1 = 1 ∧ ¬ (xs (iv + 1).toNatClampNeg) = 0)) → G (gV D I) l room_1 lwF (lwK b M xs) 345 (lwV b x m o iv) [.int b1, .ref x] ((A ++ lwO I o f) ++ va_pl P F) cs sl := fun b1 hb1 eb1 => by
    refine G_aload_n 4 dr_cL_law_345 rfl ?_
    refine G_iload 0 dr_cL_law_346 rfl ?_
    refine G_iconst 2 dr_cL_law_348 (by decide +kernel) ?_
    refine G_iadd dr_cL_law_349 ?_
    refine G_sld dr_cL_law_350 (ii 2 2 (by decide) (by decide) (by decide)) ?_
    refine G_aload_n 1 dr_cL_law_351 rfl ?_
    refine Gf_1S (As := [.ref x, .int b1, .int (xs (iv + 2).toNatClampNeg), .ref o]) (gV_ok D I) (cw_run l hl0 D I hb1 hx) dr_cL_law_352 ⟨wr_6_55, wr_1_0, wr_6_57, by decide, rfl, (Nat.le_of_ble_eq_true rfl), (Nat.le_of_ble_eq_true rfl)⟩ wr_6_56 (show cs + 1 ≤ 601024 by omega) (show sl + 6 ≤ 7293034 by omega) (Nat.le_of_ble_eq_true rfl) (fun r w hp => ?_) (fun _ _ _ z => z.elim)
    obtain ⟨A1, k1, f1, rfl, rfl, hq⟩ := hp
    change G _ _ _ _ _ _ _ (.int k1 :: []) _ _ _
    refine G_istore (L' := (5, .int k1) :: lwV b x m o iv) dr_cL_law_355 (Nat.le_of_ble_eq_true rfl) rfl ?_
    refine G_aload_n 3 dr_cL_law_357 rfl ?_
    have k2 : ∀ b2 : Int32, gB b2 0 1 → ((b2 = 0 ∧ (xs (iv + 1).toNatClampNeg) = 0) ∨ (b2 = 1 ∧ ¬ (xs (iv + 1).toNatClampNeg) = 0)) → G (gV D I) l room_1 lwF (lwK b M xs) 372 ((5, .int k1) :: lwV b x m o iv) [.int b2, .ref m] ((A1 ++ lwO I o f1) ++ va_pl P F) (cs + 1) (sl + 6) := fun b2 hb2 eb2 => by
      refine G_aload_n 5 dr_cL_law_372 rfl ?_
      refine G_iload 1 dr_cL_law_373 rfl ?_
      refine G_iconst 2 dr_cL_law_375 (by decide +kernel) ?_
      refine G_iadd dr_cL_law_376 ?_
      refine G_sld dr_cL_law_377 (ii 2 2 (by decide) (by decide) (by decide)) ?_
      refine Gm_run hb2 hl0 dr_cL_law_378 ⟨wr_11_87, wr_1_14, wr_11_90, by decide, rfl, (Nat.le_of_ble_eq_true rfl), (Nat.le_of_ble_eq_true rfl)⟩ wr_11_88 wr_11_89 h (show cs + 1 ≤ 601024 by omega) (show sl + 6 ≤ 7293034 by omega) (Nat.le_of_ble_eq_true rfl) (fun F1 z n1 g1 g2 g3 g4 gT gG gs gM => ?_)
      have eb : b2 = b1 := by
        rcases eb1 with ⟨y1, y2⟩ | ⟨y1, y2⟩
        · rcases eb2 with ⟨y3, y4⟩ | ⟨y3, y4⟩
          · exact y3.trans y1.symm
          · exact absurd y2 y4
        · rcases eb2 with ⟨y3, y4⟩ | ⟨y3, y4⟩
          · exact absurd y4 y2
          · exact y3.trans y1.symm
      rw [eb] at gM
      obtain ⟨c1, hc1, hl1, hE⟩ := rn_q h g1.1 hl gT gG gs gM hq
      refine G_istore (L' := (6, .int z) :: (5, .int k1) :: lwV b x m o iv) dr_cL_law_381 (Nat.le_of_ble_eq_true rfl) rfl ?_
      refine G_goto 541 dr_cL_law_383 (by decide +kernel) ?_
      refine G_lv [2, 3, 4, 5, 6] rfl ?_
      exact kk A1 f1 P F1 γ el n1 c1 _ _ (by rw [g4]; exact hc1) g1 (by rw [g4]; exact hl1) (lwR_t hr g2 g3 (by omega) (by omega) (by omega) (by omega) (by omega))
    refine G_aload_n 5 dr_cL_law_358 rfl ?_
    refine G_iload 1 dr_cL_law_359 rfl ?_
    refine G_iconst 1 dr_cL_law_361 (by decide +kernel) ?_
    refine G_iadd dr_cL_law_362 ?_
    refine G_sld dr_cL_law_363 (ii 1 1 (by decide) (by decide) (by decide)) ?_
    refine G_if_eq 371 dr_cL_law_364 (by decide +kernel) (fun e => ?_) (fun e => ?_)
    · exact G_iconst 0 dr_cL_law_371 (by decide +kernel) (k2 0 ⟨show (0 : Int) ≤ Int32.toInt 0 by decide, show Int32.toInt 0 ≤ 1 by decide⟩ (Or.inl ⟨rfl, e⟩))
    · refine G_iconst 1 dr_cL_law_367 (by decide +kernel) ?_
      exact G_goto 372 dr_cL_law_368 (by decide +kernel) (k2 1 ⟨show (0 : Int) ≤ Int32.toInt 1 by decide, show Int32.toInt 1 ≤ 1 by decide⟩ (Or.inr ⟨rfl, e⟩))
  refine G_aload_n 3 dr_cL_law_330 rfl ?_
  refine G_aload_n 4 dr_cL_law_331 rfl ?_
  refine G_iload 0 dr_cL_law_332 rfl ?_
  refine G_iconst 1 dr_cL_law_334 (by decide +kernel) ?_
  refine G_iadd dr_cL_law_335 ?_
  refine G_sld dr_cL_law_336 (ii 1 1 (by decide) (by decide) (by decide)) ?_
  refine G_if_eq 344 dr_cL_law_337 (by decide +kernel) (fun e => ?_) (fun e => ?_)
  · exact G_iconst 0 dr_cL_law_344 (by decide +kernel) (k1 0 ⟨show (0 : Int) ≤ Int32.toInt 0 by decide, show Int32.toInt 0 ≤ 1 by decide⟩ (Or.inl ⟨rfl, e⟩))
  · refine G_iconst 1 dr_cL_law_340 (by decide +kernel) ?_
    exact G_goto 345 dr_cL_law_341 (by decide +kernel) (k1 1 ⟨show (0 : Int) ≤ Int32.toInt 1 by decide, show Int32.toInt 1 ≤ 1 by decide⟩ (Or.inr ⟨rfl, e⟩))
set_option maxHeartbeats 1000000 in
theorem lw_b10 (hl0 : l.stackTraces = false) (ii : ∀ (c : Int32) (q : Int), c.toInt = q → 0 ≤ q → q ≤ 5 → vp_in (iv + c) M) (hx : clS D I x A n cv) (h : mdS D I m n P F γ el) (hl : LK9 I cv n m γ el F) (hr : lwR γ el F m n j cs sl) (hj : j ≤ 511) (kk : lwN l D I b M xs x m o iv j) :
    G (gV D I) l room_1 lwF (lwK b M xs) 442 (lwV b x m o iv) [] ((A ++ lwO I o f) ++ va_pl P F) cs sl := by
  obtain ⟨u1, u2⟩ := lw_ub hr (lw_ph h) (by omega)
  have n0 := hr.1
  have n8 := hr.2.1
  have k1 : ∀ b1 : Int32, gB b1 0 1 → ((b1 = 0 ∧ (xs (iv + 1).toNatClampNeg) = 0) ∨ (b1 = 1 ∧ ¬ (xs (iv + 1).toNatClampNeg) = 0)) → G (gV D I) l room_1 lwF (lwK b M xs) 457 (lwV b x m o iv) [.int b1, .ref x] ((A ++ lwO I o f) ++ va_pl P F) cs sl := fun b1 hb1 eb1 => by
    refine G_aload_n 1 dr_cL_law_457 rfl ?_
    refine Gf_1S (As := [.ref x, .int b1, .ref o]) (gV_ok D I) (cw_list l hl0 D I hb1 hx) dr_cL_law_458 ⟨wr_6_148, wr_1_0, wr_6_150, by decide, rfl, (Nat.le_of_ble_eq_true rfl), (Nat.le_of_ble_eq_true rfl)⟩ wr_6_149 (show cs + 1 ≤ 601024 by omega) (show sl + 6 ≤ 7293034 by omega) (Nat.le_of_ble_eq_true rfl) (fun r w hp => ?_) (fun _ _ _ z => z.elim)
    obtain ⟨A1, k1, f1, rfl, rfl, hq⟩ := hp
    change G _ _ _ _ _ _ _ (.int k1 :: []) _ _ _
    refine G_istore (L' := (5, .int k1) :: lwV b x m o iv) dr_cL_law_461 (Nat.le_of_ble_eq_true rfl) rfl ?_
    refine G_aload_n 3 dr_cL_law_463 rfl ?_
    have k2 : ∀ b2 : Int32, gB b2 0 1 → ((b2 = 0 ∧ (xs (iv + 1).toNatClampNeg) = 0) ∨ (b2 = 1 ∧ ¬ (xs (iv + 1).toNatClampNeg) = 0)) → G (gV D I) l room_1 lwF (lwK b M xs) 478 ((5, .int k1) :: lwV b x m o iv) [.int b2, .ref m] ((A1 ++ lwO I o f1) ++ va_pl P F) (cs + 1) (sl + 6) := fun b2 hb2 eb2 => by
      obtain ⟨r1, r2, r3, r4, r5⟩ := lw_ls hr (lw_ph h) hj
      obtain ⟨s1, s2, s3, s4, s5, s6, s7, s8, s9⟩ := id h
      have t16 := s7.1
      refine Gm_list (C := 213572) hl0 dr_cL_law_478 ⟨wr_11_117, wr_1_14, wr_11_120, by decide, rfl, (Nat.le_of_ble_eq_true rfl), (Nat.le_of_ble_eq_true rfl)⟩ wr_11_118 wr_11_119 h (s4.imp id (fun q => by have := q.2; omega)) (by omega) r3 r4 r5 r1 r2 (Nat.le_of_ble_eq_true rfl) (fun P1 F1 γ2 z dc ds g1 g2 g3 gT gG gO g28 g22 gM => ?_)
      have eb : b2 = b1 := by
        rcases eb1 with ⟨y1, y2⟩ | ⟨y1, y2⟩
        · rcases eb2 with ⟨y3, y4⟩ | ⟨y3, y4⟩
          · exact y3.trans y1.symm
          · exact absurd y2 y4
        · rcases eb2 with ⟨y3, y4⟩ | ⟨y3, y4⟩
          · exact absurd y4 y2
          · exact y3.trans y1.symm
      rw [eb] at gM
      obtain ⟨c1, hc1, hl1, hE⟩ := ls_q h hl gT gG gO g28 g22 gM hq
      refine G_istore (L' := (6, .int z) :: (5, .int k1) :: lwV b x m o iv) dr_cL_law_481 (Nat.le_of_ble_eq_true rfl) rfl ?_
      refine G_goto 541 dr_cL_law_483 (by decide +kernel) ?_
      refine G_lv [2, 3, 4, 5, 6] rfl ?_
      exact kk A1 f1 P1 F1 γ2 el n c1 _ _ hc1 g1 hl1 (lwR_l hr g2 g3)
    refine G_aload_n 5 dr_cL_law_464 rfl ?_
    refine G_iload 1 dr_cL_law_465 rfl ?_
    refine G_iconst 1 dr_cL_law_467 (by decide +kernel) ?_
    refine G_iadd dr_cL_law_468 ?_
    refine G_sld dr_cL_law_469 (ii 1 1 (by decide) (by decide) (by decide)) ?_
    refine G_if_eq 477 dr_cL_law_470 (by decide +kernel) (fun e => ?_) (fun e => ?_)
    · exact G_iconst 0 dr_cL_law_477 (by decide +kernel) (k2 0 ⟨show (0 : Int) ≤ Int32.toInt 0 by decide, show Int32.toInt 0 ≤ 1 by decide⟩ (Or.inl ⟨rfl, e⟩))
    · refine G_iconst 1 dr_cL_law_473 (by decide +kernel) ?_
      exact G_goto 478 dr_cL_law_474 (by decide +kernel) (k2 1 ⟨show (0 : Int) ≤ Int32.toInt 1 by decide, show Int32.toInt 1 ≤ 1 by decide⟩ (Or.inr ⟨rfl, e⟩))
  refine G_aload_n 3 dr_cL_law_442 rfl ?_
  refine G_aload_n 4 dr_cL_law_443 rfl ?_
  refine G_iload 0 dr_cL_law_444 rfl ?_
  refine G_iconst 1 dr_cL_law_446 (by decide +kernel) ?_
  refine G_iadd dr_cL_law_447 ?_
  refine G_sld dr_cL_law_448 (ii 1 1 (by decide) (by decide) (by decide)) ?_
  refine G_if_eq 456 dr_cL_law_449 (by decide +kernel) (fun e => ?_) (fun e => ?_)
  · exact G_iconst 0 dr_cL_law_456 (by decide +kernel) (k1 0 ⟨show (0 : Int) ≤ Int32.toInt 0 by decide, show Int32.toInt 0 ≤ 1 by decide⟩ (Or.inl ⟨rfl, e⟩))
  · refine G_iconst 1 dr_cL_law_452 (by decide +kernel) ?_
    exact G_goto 457 dr_cL_law_453 (by decide +kernel) (k1 1 ⟨show (0 : Int) ≤ Int32.toInt 1 by decide, show Int32.toInt 1 ≤ 1 by decide⟩ (Or.inr ⟨rfl, e⟩))
set_option maxHeartbeats 1000000 in
theorem lw_body (hl0 : l.stackTraces = false) (ii : ∀ (c : Int32) (q : Int), c.toInt = q → 0 ≤ q → q ≤ 5 → vp_in (iv + c) M) (hx : clS D I x A n cv) (h : mdS D I m n P F γ el) (hl : LK9 I cv n m γ el F) (hr : lwR γ el F m n j cs sl) (hj : j ≤ 511) (kk : lwN l D I b M xs x m o iv j) (i0 : vp_in iv M) :
    G (gV D I) l room_1 lwF (lwK b M xs) 33 (lwV b x m o iv) [] ((A ++ lwO I o f) ++ va_pl P F) cs sl := by
  refine G_aload_n 4 dr_cL_law_33 rfl ?_
  refine G_iload 0 dr_cL_law_34 rfl ?_
  refine G_sld dr_cL_law_36 i0 ?_
  refine G_bipush 15 dr_cL_law_37 (by decide +kernel) ?_
  refine G_iand dr_cL_law_39 (G_nam fun z hz => ?_)
  obtain ⟨z0, z1⟩ := gB_and hz (gBl (show Int32.toInt 15 = 15 by decide)) (by decide)
  by_cases h11 : z.toInt ≤ 11
  · rcases (show z.toInt = 0 ∨ z.toInt = 1 ∨ z.toInt = 2 ∨ z.toInt = 3 ∨ z.toInt = 4 ∨ z.toInt = 5 ∨ z.toInt = 6 ∨ z.toInt = 7 ∨ z.toInt = 8 ∨ z.toInt = 9 ∨ z.toInt = 10 ∨ z.toInt = 11 by omega) with e | e | e | e | e | e | e | e | e | e | e | e
    · exact G_tableIn (o := 64) 104 dr_cL_law_40 (by omega) (by omega) (by rw [e]; rfl) (by decide) (lw_b0 hl0 ii hx h hl hr hj kk)
    · exact G_tableIn (o := 140) 180 dr_cL_law_40 (by omega) (by omega) (by rw [e]; rfl) (by decide) (lw_b1 hl0 ii hx h hl hr hj kk)
    · exact G_tableIn (o := 168) 208 dr_cL_law_40 (by omega) (by omega) (by rw [e]; rfl) (by decide) (lw_b2 hl0 ii hx h hl hr hj kk)
    · exact G_tableIn (o := 181) 221 dr_cL_law_40 (by omega) (by omega) (by rw [e]; rfl) (by decide) (lw_b3 hl0 ii hx h hl hr hj kk)
    · exact G_tableIn (o := 194) 234 dr_cL_law_40 (by omega) (by omega) (by rw [e]; rfl) (by decide) (lw_b4 hl0 ii hx h hl hr hj kk)
    · exact G_tableIn (o := 222) 262 dr_cL_law_40 (by omega) (by omega) (by rw [e]; rfl) (by decide) (lw_b5 hl0 ii hx h hl hr hj kk)
    · exact G_tableIn (o := 250) 290 dr_cL_law_40 (by omega) (by omega) (by rw [e]; rfl) (by decide) (lw_b6 hl0 ii hx h hl hr hj kk)
    · exact G_tableIn (o := 290) 330 dr_cL_law_40 (by omega) (by omega) (by rw [e]; rfl) (by decide) (lw_b7 hl0 ii hx h hl hr hj kk)
    · exact G_tableIn (o := 346) 386 dr_cL_law_40 (by omega) (by omega) (by rw [e]; rfl) (by decide) (lw_b8 hl0 ii hx h hl hr hj kk)
    · exact G_tableIn (o := 374) 414 dr_cL_law_40 (by omega) (by omega) (by rw [e]; rfl) (by decide) (lw_b9 hl0 ii hx h hl hr hj kk)
    · exact G_tableIn (o := 402) 442 dr_cL_law_40 (by omega) (by omega) (by rw [e]; rfl) (by decide) (lw_b10 hl0 ii hx h hl hr hj kk)
    · exact G_tableIn (o := 446) 486 dr_cL_law_40 (by omega) (by omega) (by rw [e]; rfl) (by decide) (lw_b11 hl0 ii hx h hl hr hj kk)
  · refine G_tableOut 541 dr_cL_law_40 (Or.inr (by omega)) (by decide) ?_
    have n0 := hr.1
    have n8 := hr.2.1
    exact kk A f P F γ el n cv cs sl hx h hl (lwR_t hr rfl rfl n0 n8 (Or.inl (Int.le_refl _)) (by omega) (by omega))
theorem lw_loop (hl0 : l.stackTraces = false) (hM : M ≤ 3072) : ∀ (t j : Nat) (iv : Int32) (A : va_W) (f : Nat → Int64) (P : List Nat) (F : Nat → va_E) (γ el : Nat → Nat → Nat) (n : Int) (cv : gCv) (cs sl : Nat), M < 6 * j + 6 + t → j ≤ 512 → iv.toInt = 6 * (j : Int) → clS D I x A n cv → mdS D I m n P F γ el → LK9 I cv n m γ el F → lwR γ el F m n j cs sl →
    G (gV D I) l room_1 lwF (lwK b M xs) 23 (lwV b x m o iv) [] ((A ++ lwO I o f) ++ va_pl P F) cs sl := by
  intro t
  induction t with
  | zero =>
    intro j iv A f P F γ el n cv cs sl ht hj hi hx h hl hr
    obtain ⟨u1, u2⟩ := lw_ub hr (lw_ph h) hj
    exact lw_head hM hi hj (by omega) (by omega) (fun h6 => absurd h6 (by omega))
  | succ t ih =>
    intro j iv A f P F γ el n cv cs sl ht hj hi hx h hl hr
    obtain ⟨u1, u2⟩ := lw_ub hr (lw_ph h) hj
    refine lw_head hM hi hj (by omega) (by omega) (fun h6 => ?_)
    refine lw_body hl0 (fun c q hc h0 h5 => lw_in hi hM h6 hc h0 h5) hx h hl hr (by omega) (fun A2 f2 P2 F2 γ2 el2 n2 cv2 cs2 sl2 hx2 h2 hl2 hr2 => ?_) (gB_inr (by omega) (by omega))
    refine G_iinc (iv + Int32.ofInt 6) 0 dr_cL_law_541 rfl rfl (Nat.le_of_ble_eq_true rfl) rfl ?_
    refine G_goto 23 dr_cL_law_544 (by decide +kernel) ?_
    have ei : (iv + Int32.ofInt 6).toInt = iv.toInt + 6 := gI_inc rfl (by decide) (show gB iv 0 3072 from ⟨by omega, by omega⟩) (by decide) (by decide)
    exact ih (j + 1) _ A2 f2 P2 F2 γ2 el2 n2 cv2 cs2 sl2 (by omega) (by omega) (by rw [ei, hi]; omega) hx2 h2 hl2 hr2
end LWL
end
