/-! the law: text of the model -/
section GLT
variable {l : Launch} {R : Room} {Qf : gFin} {k : gKey} {pc cs sl i m M mc ms : Nat} {L : List (Nat × Value)} {st : List Value} {D : va_G} {I : FieldType → ClassId} {X : va_W} {P : List Nat} {F : Nat → va_E} {γ el : Nat → Nat → Nat} {n : Int}
theorem Gm_text (hl0 : l.stackTraces = false) (d : decode k.1 pc = .ok (.invokevirtual i, 3)) (hw : gCwT (gV D I) R k.2.2.1 i yX17_text cX17_text 3 (some FieldType.int) [(12, 57, 60, 409)] 13 340 0) (w2 : Cond.instanceMethod yX17_text ∈ (gV D I).2.2.2.2) (w3 : Cond.selects yX17_text.cls yX17_text yX17_text ∈ (gV D I).2.2.2.2)
    (h : mdS D I m n P F γ el) (hM : (rM γ el 0 : Int) + 41 * n + 600 ≤ M) (hM9 : M ≤ 2000000) (hMC : (M : Int) + 360 * n + 1200 ≤ 18 * (mc : Int) + (rPh γ el 0 : Int)) (hMS : (M : Int) + 232 * n + 1400 ≤ (ms : Int) + (rPh γ el 0 : Int)) (hcs : cs + mc ≤ R.cells) (hsl : sl + ms ≤ R.slots) (hcat : (st.map fun u => u.category).sum ≤ 8)
    (kk : ∀ (P1 : List Nat) (F1 : Nat → va_E) (γ2 el1 : Nat → Nat → Nat) (z : Int32) (dc ds : Nat), mdS D I m 0 P1 F1 γ2 el1 → rPh γ2 el1 1 = rPh γ el 1 → rPh γ2 el1 2 = rPh γ el 2 → 18 * (dc : Int) + (rPh γ el 0 : Int) ≤ (rPh γ2 el1 0 : Int) + 360 * n + 1100 → (ds : Int) + (rPh γ el 0 : Int) ≤ (rPh γ2 el1 0 : Int) + 232 * n + 1100 → (rM γ2 el1 0 : Int) ≤ (rM γ el 0 : Int) + 41 * n + 300 → wDN γ2 F1 = wDN γ F → lRN γ2 F1 m = lRN γ F m → γ2 9 = γ 9 → F1 (γ 9 31) = F (γ 9 31) → (∃ ft, F (γ 9 31) = .inl (I .byte, 8192, .inl ft) ∧ txQ γ2 el1 F1 m (γ 9 6) (bA ft n) n) → ((fI (F m) 10).toInt ≠ 0 → ∀ Q, gvR γ el F Q → gvR γ2 el1 F1 Q) → kpI m F F1 → kpS m γ F F1 → (((fI (F1 m) 9).toInt = 0 ∧ fI (F1 m) 10 = fI (F m) 10) ∨ ((fI (F1 m) 9).toInt = 1 ∧ (fI (F1 m) 10).toInt = 0)) → G (gV D I) l R Qf k (pc + 3) L (.int z :: st) (X ++ va_pl P1 F1) (cs + dc) (sl + ds)) :
    G (gV D I) l R Qf k pc L (.ref m :: st) (X ++ va_pl P F) cs sl := by
  obtain ⟨s1, s2, s3, s4, s5, s6, s7, s8, s9⟩ := id h
  obtain ⟨r28, r35, v9, v10, v11, v12, v13, v14, v23, v24, v25, v26, v27, v30, v32, v33, v34, he, -, -, -⟩ := rk10_m (show rk_10 γ (F m) from RS_o s1 s2)
  obtain ⟨⟨c6, c7, c8⟩, f6, f7, f8⟩ := md_c s1 s2
  rw [← s3] at hM hMC hMS
  refine Gf_2VW (As := []) (gV_ok D I) (cp_text l hl0 D I s1 s2 hM hM9 hMC hMS) d hw w2 w3 (s1.1 m (by omega)) he rfl hcs hsl hcat (fun r w dc ds hp => ?_) (fun _ _ _ _ _ z => z.elim)
  obtain ⟨P1, F1, γ1, el1, z, rfl, rfl, hk, h7, h9, h10, e32, k1, k2, k3, e35, ft, hft, -, htx, eO, eF⟩ := hp
  have m1 : γ1 0 m = 10 := rSk_k hk (show rKd γ m 10 from s2) (by decide) (by decide)
  obtain ⟨p1, q1, b1, g61, -, -⟩ := rSk_fam s1 hk c7 f7 (by decide)
  obtain ⟨p2, q2, b2, -⟩ := rSk_fam s1 hk c8 f8 (by decide)
  obtain ⟨a1, a2⟩ := wl_s h hk m1 (by decide) (by decide) (by decide) e35
  obtain ⟨γ2, g1, g2, t1, t2⟩ := mdS_k (n := 0) hk.1 m1 e32 h9 (h10.elim Or.inl (fun q => by rw [q, g61]; exact s5)) h7 (b1 _ s7) (b2 _ s8)
  have j0 := rPh_j2 (el := el1) (f := 0) g2
  rw [s3] at k1 k2 k3
  refine kk P1 F1 γ2 el1 z dc ds g1 ?_ ?_ ?_ ?_ ?_ (t1.trans a1) (t2.trans a2) ((g2 9 (by decide) (by decide)).trans (rSk_9 hk)) (rSk_F hk (show rKd γ _ 99 from (md_6 s1 s2).2.2.1) (by decide) (by decide)) ⟨ft, hft, by rw [s3] at htx; exact txQ_j g2 htx⟩ (fun hn Q hq => by have q := gvR_sk h hk (by decide) (by decide) hn Q hq; exact ⟨by rw [g2 9 (by decide) (by decide)]; exact rfW_j g2 q.1, q.2⟩) (kpI_sk h hk (by decide) eO) (kpS_sk h hk (by decide) (by decide) e35) eF
  · rw [(rPh_j2 (el := el1) (f := 1) g2).1]; exact p1
  · rw [(rPh_j2 (el := el1) (f := 2) g2).1]; exact p2
  · rw [j0.1]; exact k1
  · rw [j0.1]; exact k2
  · rw [j0.2]; exact k3
end GLT
