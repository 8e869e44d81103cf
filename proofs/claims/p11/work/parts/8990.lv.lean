/-! the law: give and text of the model -/
section GLV
variable {l : Launch} {R : Room} {Qf : gFin} {k : gKey} {pc cs sl i m : Nat} {L : List (Nat × Value)} {st : List Value} {D : va_G} {I : FieldType → ClassId} {X : va_W} {P P1 : List Nat} {F F1 : Nat → va_E} {γ el γ1 el1 : Nat → Nat → Nat} {n : Int} {f : Nat} {K KF : List Nat}
theorem md_c (hT : RS D I P F γ el) (hm : γ 0 m = 10) : (γ 0 (γ 9 6) = 9 ∧ γ 0 (γ 9 7) = 9 ∧ γ 0 (γ 9 8) = 9) ∧ γ 1 (γ 9 6) = 0 ∧ γ 1 (γ 9 7) = 1 ∧ γ 1 (γ 9 8) = 2 := by
  obtain ⟨r28, r35, v9, v10, v11, v12, v13, v14, v23, v24, v25, v26, v27, v30, v32, v33, v34, he, hM1, hK, hM2⟩ := rk10_m (show rk_10 γ (F m) from RS_o hT hm)
  obtain ⟨k0, k1, k2, k3, k4, k5, k6, k7, k8, k9, k10, k11, k12, k13, k14, k15, k16, k17, k18, kW, k20, k21, k22, k23⟩ := hK
  exact ⟨⟨k8, k9, k10⟩, k21, k22, k23⟩
theorem wl_s (h : mdS D I m n P F γ el) (hk : rSk f K KF D I P F γ el P1 F1 γ1 el1) (hm1 : γ1 0 m = 10) (h11 : (11 : Nat) ∉ K) (h36 : (36 : Nat) ∉ K) (h27 : (96 : Nat) ∉ K) (e35 : fR (F1 m) 35 = fR (F m) 35) : wDN γ1 F1 = wDN γ F ∧ lRN γ1 F1 m = lRN γ F m := by
  obtain ⟨s1, s2, s3, s4, s5, s6, s7, s8, s9⟩ := id h
  obtain ⟨c27, c28, c29⟩ := md_k hk.1 hm1
  have g9 : γ1 9 = γ 9 := hk.2.2.1.2.2.2.1.1
  have g12 : γ1 12 = γ 12 := hk.2.2.1.2.2.2.1.2.2.2.1
  constructor
  · have q : γ 12 (fR (F1 (γ1 9 29)) 0) = wDN γ F := by
      have nk : ∀ j, j ≠ 0 → j ≠ 29 → j ∉ K → γ 0 (fR (F1 (γ1 9 29)) 0) ≠ j := fun j h0 h29 hj e => by
        have := hk.2.2.1.1 _ (by rw [e]; exact h0) (Or.inr (by rw [e]; exact hj))
        rw [c29, e] at this
        exact h29 this.symm
      exact s9.2 _ (nk 11 (by decide) (by decide) h11) (nk 36 (by decide) (by decide) h36) (nk 96 (by decide) (by decide) h27)
    unfold wDN at q ⊢
    rw [g12]
    exact q
  · unfold lRN; rw [g12, e35]
theorem Gm_give {kk' : Int32} (hl0 : l.stackTraces = false) (d : decode k.1 pc = .ok (.invokevirtual i, 3)) (hw : gCw (gV D I) R k.2.2.1 i yX17_give cX17_give 3 (some FieldType.int) 11 251 1) (w2 : Cond.instanceMethod yX17_give ∈ (gV D I).2.2.2.2) (w3 : Cond.selects yX17_give.cls yX17_give yX17_give ∈ (gV D I).2.2.2.2)
    (h : mdS D I m n P F γ el) (hcs : cs + ((387 * 4061 + 6000) - rPh γ el 1) / 18 ≤ R.cells) (hsl : sl + ((387 * 4061 + 6000) - rPh γ el 1) ≤ R.slots) (hcat : (st.map fun u => u.category).sum ≤ 8)
    (kk : ∀ (P1 : List Nat) (F1 : Nat → va_E) (γ2 el1 : Nat → Nat → Nat) (z : Int32) (dc ds : Nat), mdS D I m n P1 F1 γ2 el1 → rPh γ2 el1 0 = rPh γ el 0 → rM γ2 el1 0 = rM γ el 0 → rPh γ2 el1 2 = rPh γ el 2 → 18 * dc + rPh γ el 1 ≤ rPh γ2 el1 1 → ds + rPh γ el 1 ≤ rPh γ2 el1 1 → wDN γ2 F1 = wDN γ F → lRN γ2 F1 m = lRN γ F m → kpT m γ el F γ2 el1 F1 → kpI m F F1 → kpS m γ F F1 → ((kk'.toInt < 1 ∨ 32 < kk'.toInt) ∨ (fI (F m) 9).toInt = 0 → kpG m γ el F γ2 el1 F1) → ((fI (F m) 9).toInt ≠ 0 → ∀ Q, pgR γ el F Q → (∃ (B : Int → Int) (n : Int), bOk B n ∧ okP B n Q) → gvB γ2 el1 F1 m Q kk' z (fI (F1 m) 30)) → G (gV D I) l R Qf k (pc + 3) L (.int z :: st) (X ++ va_pl P1 F1) (cs + dc) (sl + ds)) :
    G (gV D I) l R Qf k pc L (.int kk' :: .ref m :: st) (X ++ va_pl P F) cs sl := by
  obtain ⟨s1, s2, s3, s4, s5, s6, s7, s8, s9⟩ := id h
  obtain ⟨r28, r35, v9, v10, v11, v12, v13, v14, v23, v24, v25, v26, v27, v30, v32, v33, v34, he, -, -, -⟩ := rk10_m (show rk_10 γ (F m) from RS_o s1 s2)
  obtain ⟨⟨c6, c7, c8⟩, f6, f7, f8⟩ := md_c s1 s2
  refine Gf_2V (As := [.int kk']) (gV_ok D I) (cg_658028_SpillForgeModel_give l hl0 D I γ el 1 0 4061 P F m kk' (γ 9 7) (γ 9 6) s1 s2 c7 c6 rfl rfl f7 f6 (by decide) s7 (by decide) rfl rfl s4 s6 (by decide) s5) d hw w2 w3 (s1.1 m (by omega)) he rfl hcs hsl hcat (fun r w dc ds hp => ?_) (fun _ _ _ _ _ z => z.elim)
  obtain ⟨P1, F1, γ1, el1, z, rfl, rfl, hk, ⟨d1, d2⟩, hB, -, h10, hmk, htr⟩ := hp
  have m1 : γ1 0 m = 10 := rSk_k hk (show rKd γ m 10 from s2) (by decide) (by decide)
  obtain ⟨p0, q0, -, g60, g70, g160⟩ := rSk_fam s1 hk c6 f6 (by decide)
  obtain ⟨p2, q2, b2, -⟩ := rSk_fam s1 hk c8 f8 (by decide)
  have e32 : (fI (F1 m) 32).toInt = (fI (F m) 32).toInt := congrArg Prod.fst hmk.2
  have e35 : fR (F1 m) 35 = fR (F m) 35 := congrArg (fun z => z.2.1) hmk.2
  have eO : mO (F1 m) = mO (F m) := congrArg (fun z => z.2.2) hmk.2
  obtain ⟨a1, a2⟩ := wl_s h hk m1 (by decide) (by decide) (by decide) e35
  obtain ⟨γ2, g1, g2, t1, t2⟩ := mdS_k (n := n) hk.1 m1 (e32.trans s3) (by rw [hmk.1, g60, g160]; exact s4) h10 (by rw [g70]; exact s6) hB (b2 _ s8)
  refine kk P1 F1 γ2 el1 z dc ds g1 ?_ ?_ ?_ ?_ ?_ (t1.trans a1) (t2.trans a2) (kpT_tr (kpT_sk h hk (by decide) (by decide +kernel) (by decide +kernel) hmk.1) (kpT_j g2)) (kpI_sk h hk (by decide +kernel) eO) (kpS_sk h hk (by decide +kernel) (by decide +kernel) e35) (fun bad => by
    obtain ⟨k1, k2, k3, k4⟩ := gi_k s1 s2 htr bad
    have g2' : ∀ j, j ≠ 0 → j ≠ 12 → γ2 j = γ j := fun j y1 y2 => (g2 j y1 y2).trans (congrFun k1 j)
    rw [k2]
    exact kpG_tr (kpG_t (W := []) h (fun b _ hb _ => k3 b (fun e => by rw [e, s2] at hb; omega)) ⟨List.not_mem_nil, List.not_mem_nil, List.not_mem_nil⟩ (by rw [k4])) (kpG_j g2')) (fun hn Q hq hW => by
    obtain ⟨B, nn, hB, hP⟩ := hW
    obtain ⟨e6, e2, -⟩ := rf_6 s1 c6 f6 (s4.resolve_left hn).1 hq.1.1
    obtain ⟨-, w2, w3, -, -, w6⟩ := okP_f hB hP
    refine gvB_of (f := 1) g2 (congrFun (rSk_9 hk).symm 7) ?_
    exact giv_r s1 s2 c7 f7 c6 f6 (by decide) e6 hq.1 hq.2.1 w6 (gvI_Z hB hP) w2 w3 (T100 w6) e2 htr hn)
  · rw [(rPh_j2 (el := el1) (f := 0) g2).1]; exact p0
  · rw [(rPh_j2 (el := el1) (f := 0) g2).2]; exact q0
  · rw [(rPh_j2 (el := el1) (f := 2) g2).1]; exact p2
  · rw [(rPh_j2 (el := el1) (f := 1) g2).1]; exact d1
  · rw [(rPh_j2 (el := el1) (f := 1) g2).1]; exact d2
end GLV
