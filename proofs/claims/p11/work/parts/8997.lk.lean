/-! the law: look of the model -/
section GLK
variable {l : Launch} {R : Room} {Qf : gFin} {k : gKey} {pc cs sl i m : Nat} {L : List (Nat × Value)} {st : List Value} {D : va_G} {I : FieldType → ClassId} {X : va_W} {P : List Nat} {F : Nat → va_E} {γ el : Nat → Nat → Nat} {n : Int}
theorem Gm_look {kk' wh : Int32} (hl0 : l.stackTraces = false) (d : decode k.1 pc = .ok (.invokevirtual i, 3)) (hw : gCw (gV D I) R k.2.2.1 i yX17_look cX17_look 3 (some FieldType.int) 9 196 2) (w2 : Cond.instanceMethod yX17_look ∈ (gV D I).2.2.2.2) (w3 : Cond.selects yX17_look.cls yX17_look yX17_look ∈ (gV D I).2.2.2.2)
    (h : mdS D I m n P F γ el) (hcs : cs + ((387 * 2160 + 6000) - rPh γ el 2) / 18 ≤ R.cells) (hsl : sl + ((387 * 2160 + 6000) - rPh γ el 2) ≤ R.slots) (hcat : (st.map fun u => u.category).sum ≤ 8)
    (kk : ∀ (P1 : List Nat) (F1 : Nat → va_E) (γ2 el1 : Nat → Nat → Nat) (z : Int32) (dc ds : Nat), mdS D I m n P1 F1 γ2 el1 → rPh γ2 el1 0 = rPh γ el 0 → rM γ2 el1 0 = rM γ el 0 → rPh γ2 el1 1 = rPh γ el 1 → 18 * dc + rPh γ el 2 ≤ rPh γ2 el1 2 → ds + rPh γ el 2 ≤ rPh γ2 el1 2 → wDN γ2 F1 = wDN γ F → lRN γ2 F1 m = lRN γ F m → kp9 m γ el F γ2 el1 F1 → G (gV D I) l R Qf k (pc + 3) L (.int z :: st) (X ++ va_pl P1 F1) (cs + dc) (sl + ds)) :
    G (gV D I) l R Qf k pc L (.int wh :: .int kk' :: .ref m :: st) (X ++ va_pl P F) cs sl := by
  obtain ⟨s1, s2, s3, s4, s5, s6, s7, s8, s9⟩ := id h
  obtain ⟨r28, r35, v9, v10, v11, v12, v13, v14, v23, v24, v25, v26, v27, v30, v32, v33, v34, he, -, -, -⟩ := rk10_m (show rk_10 γ (F m) from RS_o s1 s2)
  obtain ⟨⟨c6, c7, c8⟩, f6, f7, f8⟩ := md_c s1 s2
  refine Gf_2V (As := [.int kk', .int wh]) (gV_ok D I) (cg_589610_SpillForgeModel_look l hl0 D I γ el 2 0 2160 P F m kk' wh (γ 9 8) (γ 9 6) s1 s2 c8 c6 rfl rfl f8 f6 (by decide) s8 (by decide) rfl rfl s4 s6 (by decide)) d hw w2 w3 (s1.1 m (by omega)) he rfl hcs hsl hcat (fun r w dc ds hp => ?_) (fun _ _ _ _ _ z => z.elim)
  obtain ⟨P1, F1, γ1, el1, z, rfl, rfl, hk, ⟨d1, d2⟩, hB, e10, hmk, -⟩ := hp
  have m1 : γ1 0 m = 10 := rSk_k hk (show rKd γ m 10 from s2) (by decide) (by decide)
  obtain ⟨p0, q0, -, g60, g70, g160⟩ := rSk_fam s1 hk c6 f6 (by decide)
  obtain ⟨p2, q2, b2, g61, -⟩ := rSk_fam s1 hk c7 f7 (by decide)
  have e32 : (fI (F1 m) 32).toInt = (fI (F m) 32).toInt := congrArg Prod.fst hmk.2
  have e35 : fR (F1 m) 35 = fR (F m) 35 := congrArg (fun z => z.2.1) hmk.2
  obtain ⟨a1, a2⟩ := wl_s h hk m1 (by decide) (by decide) (by decide) e35
  obtain ⟨γ2, g1, g2, t1, t2⟩ := mdS_k (n := n) hk.1 m1 (e32.trans s3) (by rw [hmk.1, g60, g160]; exact s4) (by rw [e10, g61]; exact s5) (by rw [g70]; exact s6) (b2 _ s7) hB
  refine kk P1 F1 γ2 el1 z dc ds g1 ?_ ?_ ?_ ?_ ?_ (t1.trans a1) (t2.trans a2) ⟨kpT_tr (kpT_sk h hk (by decide) (by decide +kernel) (by decide +kernel) hmk.1) (kpT_j g2), kpG_tr ⟨by rw [e10], gvR_sk h hk (by decide) (by decide +kernel)⟩ (kpG_j g2), kpI_sk h hk (by decide +kernel) (congrArg (fun z => z.2.2) hmk.2), kpS_sk h hk (by decide +kernel) (by decide +kernel) e35⟩
  · rw [(rPh_j2 (el := el1) (f := 0) g2).1]; exact p0
  · rw [(rPh_j2 (el := el1) (f := 0) g2).2]; exact q0
  · rw [(rPh_j2 (el := el1) (f := 1) g2).1]; exact p2
  · rw [(rPh_j2 (el := el1) (f := 2) g2).1]; exact d1
  · rw [(rPh_j2 (el := el1) (f := 2) g2).1]; exact d2
end GLK
