/-! the law: the model's calls that change its ghosts: input, list -/
section GLG
variable {l : Launch} {R : Room} {Qf : gFin} {k : gKey} {pc cs sl i m : Nat} {L : List (Nat × Value)} {st : List Value} {D : va_G} {I : FieldType → ClassId} {X : va_W} {P : List Nat} {F : Nat → va_E} {γ el : Nat → Nat → Nat} {n : Int}
theorem Gm_input (hl0 : l.stackTraces = false) (d : decode k.1 pc = .ok (.invokevirtual i, 3)) (hw : gCw (gV D I) R k.2.2.1 i yX17_input cX17_input 3 (some FieldType.int) 1 20 0) (w2 : Cond.instanceMethod yX17_input ∈ (gV D I).2.2.2.2) (w3 : Cond.selects yX17_input.cls yX17_input yX17_input ∈ (gV D I).2.2.2.2)
    (h : mdS D I m n P F γ el) (hcs : cs + 1 ≤ R.cells) (hsl : sl + 2048 ≤ R.slots) (hcat : (st.map fun u => u.category).sum ≤ 8)
    (kk : ∀ (P1 : List Nat) (F1 : Nat → va_E) (γ2 : Nat → Nat → Nat) (z : Int32) (dc ds : Nat), mdS D I m 0 P1 F1 γ2 el → (∀ j, j ≠ 0 → j ≠ 12 → γ2 j = γ j) → wDN γ2 F1 = wDN γ F → lRN γ2 F1 m = lRN γ F m → dc ≤ 1 → 4 * (ds : Int) ≤ n → z.toInt = n / 4 → kpT m γ el F γ2 el F1 → kpG m γ el F γ2 el F1 → (mO (F1 m)).2 = (mO (F m)).2 → fI (F1 m) 34 = fI (F m) 34 → kpS m γ F F1 → (∃ ft, F (γ 9 31) = .inl (I .byte, 8192, .inl ft) ∧ ∃ p, F1 (fR (F1 m) 28) = .inl (I .int, (n / 4).toNat, .inl p) ∧ ∀ q, q < (n / 4).toNat → p q = i4 ft q 4) → G (gV D I) l R Qf k (pc + 3) L (.int z :: st) (X ++ va_pl P1 F1) (cs + dc) (sl + ds)) :
    G (gV D I) l R Qf k pc L (.ref m :: st) (X ++ va_pl P F) cs sl := by
  obtain ⟨s1, s2, s3, s4, s5, s6, s7, s8, s9⟩ := id h
  obtain ⟨r28, r35, v9, v10, v11, v12, v13, v14, v23, v24, v25, v26, v27, v30, v32, v33, v34, he, -, -, -⟩ := rk10_m (show rk_10 γ (F m) from RS_o s1 s2)
  obtain ⟨c27, c28, c29⟩ := md_k s1 s2
  refine Gf_2V (As := []) (gV_ok D I) (cp_input l hl0 D I s1 s2) d hw w2 w3 (s1.1 m (by omega)) he rfl hcs hsl hcat (fun r w dc ds hp => ?_) (fun _ _ _ _ _ z => z.elim)
  obtain ⟨P1, F1, γ1, z, rfl, rfl, hk, hj, e9, e10, e32, hdc, hds, e35, ex, eO, e34, ft, eft, p, ep, epq⟩ := hp
  have m1 : γ1 0 m = 10 := rSk_k hk (show rKd γ m 10 from s2) (by decide) (by decide)
  have fW : F1 (γ 9 29) = F (γ 9 29) := rSk_F hk (show rKd γ (γ 9 29) 28 from c28) (by decide) (by decide)
  have hj2 : ∀ j, j ≠ 0 → j ≠ 12 → γ1 j = γ j := fun j h _ => hj j h
  obtain ⟨γ2, g1, g2, g3, g4⟩ := mdS_k hk.1 m1 e32 (by rw [e9, hj 6 (by decide), hj 16 (by decide)]; exact s4) (by rw [e10, hj 6 (by decide)]; exact s5) (by rw [hj 7 (by decide)]; exact s6) (rBd_j hj2 s7) (rBd_j hj2 s8)
  have hj3 : ∀ j, j ≠ 0 → j ≠ 12 → γ2 j = γ j := fun j h h12 => (g2 j h h12).trans (hj j h)
  refine kk P1 F1 γ2 z dc ds g1 hj3 ?_ ?_ hdc (by rw [← s3]; exact hds) (by rw [← s3]; exact ex) (kpT_tr (kpT_i h hk hj (by rw [e9])) (kpT_j g2)) (kpG_tr ⟨by rw [e10], gvR_sk h hk (by decide) (by decide)⟩ (kpG_j g2)) eO e34 (kpS_sk h hk (by decide) (by decide) e35) ⟨ft, eft, p, by rw [← s3]; exact ep, fun q hq => epq q (by rw [s3]; exact hq)⟩
  · rw [g3]; unfold wDN; rw [hj 9 (by decide), hj 12 (by decide), fW]
  · rw [g4]; unfold lRN; rw [hj 12 (by decide), e35]
theorem Gm_list {C mc ms : Nat} {gi : Int32} (hl0 : l.stackTraces = false) (d : decode k.1 pc = .ok (.invokevirtual i, 3)) (hw : gCw (gV D I) R k.2.2.1 i yX17_list__ cX17_list__ 3 (some FieldType.int) 9 230 1) (w2 : Cond.instanceMethod yX17_list__ ∈ (gV D I).2.2.2.2) (w3 : Cond.selects yX17_list__.cls yX17_list__ yX17_list__ ∈ (gV D I).2.2.2.2)
    (h : mdS D I m n P F γ el) (hC0 : (fI (F m) 9).toInt = 0 ∨ 52 * γ 16 0 + 2400 ≤ C) (hC1 : 52 * γ 16 1 + 2400 ≤ C) (hr : rmW mc ms (wDN γ F) C) (h2C : 2 * C ≤ ms) (h64 : 64 ≤ lRN γ F m) (hcs : cs + mc ≤ R.cells) (hsl : sl + ms ≤ R.slots) (hcat : (st.map fun u => u.category).sum ≤ 8)
    (kk : ∀ (P1 : List Nat) (F1 : Nat → va_E) (γ2 : Nat → Nat → Nat) (z : Int32) (dc ds : Nat), mdS D I m n P1 F1 γ2 el → (∀ j, j ≠ 0 → j ≠ 12 → γ2 j = γ j) → lsC (wDN γ F) (lRN γ F m) (wDN γ2 F1) (lRN γ2 F1 m) C dc ds → kpT m γ el F γ2 el F1 → kpG m γ el F γ2 el F1 → ((mO (F1 m)).1.1, (mO (F1 m)).2) = ((mO (F m)).1.1, (mO (F m)).2) → F1 (fR (F m) 28) = F (fR (F m) 28) → F1 (γ 9 22) = F (γ 9 22) → lsM γ el F m gi z F1 → G (gV D I) l R Qf k (pc + 3) L (.int z :: st) (X ++ va_pl P1 F1) (cs + dc) (sl + ds)) :
    G (gV D I) l R Qf k pc L (.int gi :: .ref m :: st) (X ++ va_pl P F) cs sl := by
  obtain ⟨s1, s2, s3, s4, s5, s6, s7, s8, s9⟩ := id h
  obtain ⟨r28, r35, v9, v10, v11, v12, v13, v14, v23, v24, v25, v26, v27, v30, v32, v33, v34, he, -, -, -⟩ := rk10_m (show rk_10 γ (F m) from RS_o s1 s2)
  refine Gf_2V (As := [.int gi]) (gV_ok D I) (cp_lsb l hl0 D I (C := C) (gi := gi) s1 s2 (s4.imp id (fun q => q.1)) s5 hC0 hC1 hr h2C h64) d hw w2 w3 (s1.1 m (by omega)) he rfl hcs hsl hcat (fun r w dc ds hp => ?_) (fun _ _ _ _ _ z => z.elim)
  obtain ⟨P1, F1, γ1, z, n1, L1, rfl, rfl, hT1, hs1, hst, hj, hk, e9, e10, e32, eO, en, eL, hc, hM⟩ := hp
  have m1 : γ1 0 m = 10 := (hk m (by omega)).1.trans s2
  obtain ⟨γ2, g1, g2, g3, g4⟩ := mdS_k (n := n) hT1 m1 (by rw [e32]; exact s3) (by rw [e9, hj 6 (by decide) (by decide), hj 16 (by decide) (by decide)]; exact s4) (by rw [e10, hj 6 (by decide) (by decide)]; exact s5) (by rw [hj 7 (by decide) (by decide)]; exact s6) (rBd_j hj s7) (rBd_j hj s8)
  have a1 : wDN γ2 F1 = n1 := by rw [g3]; unfold wDN; rw [hj 9 (by decide) (by decide)]; exact en
  have a2 : lRN γ2 F1 m = L1 := by rw [g4]; exact eL
  exact kk P1 F1 γ2 z dc ds g1 (fun j h0 h12 => (g2 j h0 h12).trans (hj j h0 h12)) (by rw [a1, a2]; exact hc) (kpT_tr (kpT_tr (kpT_W h hst (by decide) (by rw [e9])) (kpT_j hj)) (kpT_j g2)) (kpG_tr (kpG_tr (kpG_t h hst (by decide) (by rw [e10])) (kpG_j hj)) (kpG_j g2)) eO (hst _ (by have q := m28_9 s1 s2; omega) (Or.inr (by have q := m28_9 s1 s2; omega)) (by rw [m28_9 s1 s2]; decide)) (hst _ (by have q := k22_o s1 s2; omega) (Or.inr (by have q := k22_o s1 s2; omega)) (by rw [k22_o s1 s2]; decide)) hM
end GLG
