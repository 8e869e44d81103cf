/-! the law: the model's calls that keep its ghosts -/
section GLM
variable {l : Launch} {R : Room} {Qf : gFin} {k : gKey} {pc cs sl i m : Nat} {L : List (Nat × Value)} {st : List Value} {D : va_G} {I : FieldType → ClassId} {X : va_W} {P : List Nat} {F : Nat → va_E} {γ el : Nat → Nat → Nat} {n : Int}
theorem Gm_told {a1 : Int32} (hl0 : l.stackTraces = false) (d : decode k.1 pc = .ok (.invokevirtual i, 3)) (hw : gCw (gV D I) R k.2.2.1 i yX17_told cX17_told 2 (some FieldType.int) 1 21 1) (w2 : Cond.instanceMethod yX17_told ∈ (gV D I).2.2.2.2) (w3 : Cond.selects yX17_told.cls yX17_told yX17_told ∈ (gV D I).2.2.2.2)
    (h : mdS D I m n P F γ el) (hcs : cs ≤ R.cells) (hsl : sl ≤ R.slots) (hcat : (st.map fun u => u.category).sum ≤ 8)
    (kk : ∀ (F1 : Nat → va_E) (z : Int32) (n1 : Int), mdS D I m n1 P F1 γ el → wDN γ F1 = wDN γ F → lRN γ F1 m = lRN γ F m → n1 = n → kp9 m γ el F γ el F1 → tdM F m a1 z F1 → G (gV D I) l R Qf k (pc + 3) L (.int z :: st) (X ++ va_pl P F1) cs sl) :
    G (gV D I) l R Qf k pc L (.int a1 :: .ref m :: st) (X ++ va_pl P F) cs sl := by
  obtain ⟨s1, s2, s3, s4, s5, s6, s7, s8, s9⟩ := id h
  obtain ⟨r28, r35, v9, v10, v11, v12, v13, v14, v23, v24, v25, v26, v27, v30, v32, v33, v34, he, -, -, -⟩ := rk10_m (show rk_10 γ (F m) from RS_o s1 s2)
  refine Gf_2V (As := [.int a1]) (gV_ok D I) (ct_580927_SpillForgeModel_told l hl0 D I γ el P F m a1 s1 s2) d hw w2 w3 (s1.1 m (by omega)) he rfl hcs hsl hcat (fun r w dc ds hp => ?_) (fun _ _ _ _ _ z => z.elim)
  obtain ⟨F1, z, rfl, rfl, hT, hs, hdc, hds, y9, y10, y32, ht⟩ := hp
  have iM := isMd_o (show rk_10 γ (F m) from RS_o s1 s2)
  have n31 : m ≠ γ 9 31 := Ne.symm (md_6 s1 s2).2.2.2
  have n22 : γ 9 22 ≠ m := fun e => by have q := k22_o s1 s2; rw [e] at q; omega
  have n35 : fR (F m) 35 ≠ m := fun e => by have q := (md_k s1 s2).1; rw [e] at q; omega
  refine G_widen (cs' := cs) (sl' := sl) (by omega) (by omega) ?_
  obtain ⟨g1, g2, g3⟩ := mdS_t h hT y9 y10 (n1 := n) (y32.trans s3)
  exact kk F1 z n g1 g2 g3 rfl (kp9_t h hT hs y9 y10 (told_9 iM n31 ht).2) (told_r iM ht)
theorem Gm_shown {a1 : Int32} (hl0 : l.stackTraces = false) (d : decode k.1 pc = .ok (.invokevirtual i, 3)) (hw : gCw (gV D I) R k.2.2.1 i yX17_shown cX17_shown 2 (some FieldType.int) 1 21 1) (w2 : Cond.instanceMethod yX17_shown ∈ (gV D I).2.2.2.2) (w3 : Cond.selects yX17_shown.cls yX17_shown yX17_shown ∈ (gV D I).2.2.2.2)
    (h : mdS D I m n P F γ el) (hcs : cs ≤ R.cells) (hsl : sl ≤ R.slots) (hcat : (st.map fun u => u.category).sum ≤ 8)
    (kk : ∀ (F1 : Nat → va_E) (z : Int32) (n1 : Int), mdS D I m n1 P F1 γ el → wDN γ F1 = wDN γ F → lRN γ F1 m = lRN γ F m → n1 = n → kp9 m γ el F γ el F1 → shM γ F m a1 z F1 → G (gV D I) l R Qf k (pc + 3) L (.int z :: st) (X ++ va_pl P F1) cs sl) :
    G (gV D I) l R Qf k pc L (.int a1 :: .ref m :: st) (X ++ va_pl P F) cs sl := by
  obtain ⟨s1, s2, s3, s4, s5, s6, s7, s8, s9⟩ := id h
  obtain ⟨r28, r35, v9, v10, v11, v12, v13, v14, v23, v24, v25, v26, v27, v30, v32, v33, v34, he, -, -, -⟩ := rk10_m (show rk_10 γ (F m) from RS_o s1 s2)
  refine Gf_2V (As := [.int a1]) (gV_ok D I) (ct_581167_SpillForgeModel_shown l hl0 D I γ el P F m a1 s1 s2) d hw w2 w3 (s1.1 m (by omega)) he rfl hcs hsl hcat (fun r w dc ds hp => ?_) (fun _ _ _ _ _ z => z.elim)
  obtain ⟨F1, z, rfl, rfl, hT, hs, hdc, hds, y9, y10, y32, ht⟩ := hp
  have iM := isMd_o (show rk_10 γ (F m) from RS_o s1 s2)
  have n31 : m ≠ γ 9 31 := Ne.symm (md_6 s1 s2).2.2.2
  have n22 : γ 9 22 ≠ m := fun e => by have q := k22_o s1 s2; rw [e] at q; omega
  have n35 : fR (F m) 35 ≠ m := fun e => by have q := (md_k s1 s2).1; rw [e] at q; omega
  refine G_widen (cs' := cs) (sl' := sl) (by omega) (by omega) ?_
  obtain ⟨g1, g2, g3⟩ := mdS_t h hT y9 y10 (n1 := n) (y32.trans s3)
  exact kk F1 z n g1 g2 g3 rfl (kp9_t h hT hs y9 y10 (shown_9 iM n31 ht).2) (shn_r iM n22 ht)
theorem Gm_word {a1 : Int32} (hl0 : l.stackTraces = false) (d : decode k.1 pc = .ok (.invokevirtual i, 3)) (hw : gCw (gV D I) R k.2.2.1 i yX17_word_ cX17_word_ 5 (some FieldType.long) 1 21 1) (w2 : Cond.instanceMethod yX17_word_ ∈ (gV D I).2.2.2.2) (w3 : Cond.selects yX17_word_.cls yX17_word_ yX17_word_ ∈ (gV D I).2.2.2.2)
    (h : mdS D I m n P F γ el) (hcs : cs ≤ R.cells) (hsl : sl ≤ R.slots) (hcat : (st.map fun u => u.category).sum ≤ 8)
    (kk : ∀ (F1 : Nat → va_E) (z : Int64) (n1 : Int), mdS D I m n1 P F1 γ el → wDN γ F1 = wDN γ F → lRN γ F1 m = lRN γ F m → n1 = n → kp9 m γ el F γ el F1 → wdM F m a1 z F1 → G (gV D I) l R Qf k (pc + 3) L (.long z :: st) (X ++ va_pl P F1) cs sl) :
    G (gV D I) l R Qf k pc L (.int a1 :: .ref m :: st) (X ++ va_pl P F) cs sl := by
  obtain ⟨s1, s2, s3, s4, s5, s6, s7, s8, s9⟩ := id h
  obtain ⟨r28, r35, v9, v10, v11, v12, v13, v14, v23, v24, v25, v26, v27, v30, v32, v33, v34, he, -, -, -⟩ := rk10_m (show rk_10 γ (F m) from RS_o s1 s2)
  refine Gf_2V (As := [.int a1]) (gV_ok D I) (ct_589236_SpillForgeModel_word l hl0 D I γ el P F m a1 s1 s2) d hw w2 w3 (s1.1 m (by omega)) he rfl hcs hsl hcat (fun r w dc ds hp => ?_) (fun _ _ _ _ _ z => z.elim)
  obtain ⟨F1, z, rfl, rfl, hT, hs, hdc, hds, y9, y10, y32, ht⟩ := hp
  have iM := isMd_o (show rk_10 γ (F m) from RS_o s1 s2)
  have n31 : m ≠ γ 9 31 := Ne.symm (md_6 s1 s2).2.2.2
  have n22 : γ 9 22 ≠ m := fun e => by have q := k22_o s1 s2; rw [e] at q; omega
  have n35 : fR (F m) 35 ≠ m := fun e => by have q := (md_k s1 s2).1; rw [e] at q; omega
  refine G_widen (cs' := cs) (sl' := sl) (by omega) (by omega) ?_
  obtain ⟨g1, g2, g3⟩ := mdS_t h hT y9 y10 (n1 := n) (y32.trans s3)
  exact kk F1 z n g1 g2 g3 rfl (kp9_t h hT hs y9 y10 (word_9 iM n31 ht).2) (wrd_r iM n35 ht)
theorem Gm_count {a1 : Int32} (hl0 : l.stackTraces = false) (d : decode k.1 pc = .ok (.invokevirtual i, 3)) (hw : gCw (gV D I) R k.2.2.1 i yX17_count_ cX17_count_ 2 (some FieldType.int) 7 163 1) (w2 : Cond.instanceMethod yX17_count_ ∈ (gV D I).2.2.2.2) (w3 : Cond.selects yX17_count_.cls yX17_count_ yX17_count_ ∈ (gV D I).2.2.2.2)
    (h : mdS D I m n P F γ el) (hcs : cs ≤ R.cells) (hsl : sl ≤ R.slots) (hcat : (st.map fun u => u.category).sum ≤ 8)
    (kk : ∀ (F1 : Nat → va_E) (z : Int32) (n1 : Int), mdS D I m n1 P F1 γ el → wDN γ F1 = wDN γ F → lRN γ F1 m = lRN γ F m → n1 = n → kp9 m γ el F γ el F1 → G (gV D I) l R Qf k (pc + 3) L (.int z :: st) (X ++ va_pl P F1) cs sl) :
    G (gV D I) l R Qf k pc L (.int a1 :: .ref m :: st) (X ++ va_pl P F) cs sl := by
  obtain ⟨s1, s2, s3, s4, s5, s6, s7, s8, s9⟩ := id h
  obtain ⟨r28, r35, v9, v10, v11, v12, v13, v14, v23, v24, v25, v26, v27, v30, v32, v33, v34, he, -, -, -⟩ := rk10_m (show rk_10 γ (F m) from RS_o s1 s2)
  refine Gf_2V (As := [.int a1]) (gV_ok D I) (ct_588534_SpillForgeModel_count l hl0 D I γ el P F m a1 s1 s2 (s4.imp id (fun q => q.1)) s5) d hw w2 w3 (s1.1 m (by omega)) he rfl hcs hsl hcat (fun r w dc ds hp => ?_) (fun _ _ _ _ _ z => z.elim)
  obtain ⟨F1, z, rfl, rfl, hT, hs, hdc, hds, y9, y10, y32, ht⟩ := hp
  have iM := isMd_o (show rk_10 γ (F m) from RS_o s1 s2)
  have n31 : m ≠ γ 9 31 := Ne.symm (md_6 s1 s2).2.2.2
  have n22 : γ 9 22 ≠ m := fun e => by have q := k22_o s1 s2; rw [e] at q; omega
  have n35 : fR (F m) 35 ≠ m := fun e => by have q := (md_k s1 s2).1; rw [e] at q; omega
  refine G_widen (cs' := cs) (sl' := sl) (by omega) (by omega) ?_
  obtain ⟨g1, g2, g3⟩ := mdS_t h hT y9 y10 (n1 := n) (y32.trans s3)
  exact kk F1 z n g1 g2 g3 rfl (kp9_t h hT hs y9 y10 (count_9 iM n31 ht).2)
theorem Gm_run {a1 a2 : Int32} (hb : gB a1 0 1) (hl0 : l.stackTraces = false) (d : decode k.1 pc = .ok (.invokevirtual i, 3)) (hw : gCw (gV D I) R k.2.2.1 i yX17_run_ cX17_run_ 3 (some FieldType.int) 5 111 2) (w2 : Cond.instanceMethod yX17_run_ ∈ (gV D I).2.2.2.2) (w3 : Cond.selects yX17_run_.cls yX17_run_ yX17_run_ ∈ (gV D I).2.2.2.2)
    (h : mdS D I m n P F γ el) (hcs : cs ≤ R.cells) (hsl : sl ≤ R.slots) (hcat : (st.map fun u => u.category).sum ≤ 8)
    (kk : ∀ (F1 : Nat → va_E) (z : Int32) (n1 : Int), mdS D I m n1 P F1 γ el → wDN γ F1 = wDN γ F → lRN γ F1 m = lRN γ F m → n1 = n → kpT m γ el F γ el F1 → kpG m γ el F γ el F1 → rStr γ [97] F F1 → rnM I γ el F m a1 a2 z F1 → G (gV D I) l R Qf k (pc + 3) L (.int z :: st) (X ++ va_pl P F1) cs sl) :
    G (gV D I) l R Qf k pc L (.int a2 :: .int a1 :: .ref m :: st) (X ++ va_pl P F) cs sl := by
  obtain ⟨s1, s2, s3, s4, s5, s6, s7, s8, s9⟩ := id h
  obtain ⟨r28, r35, v9, v10, v11, v12, v13, v14, v23, v24, v25, v26, v27, v30, v32, v33, v34, he, -, -, -⟩ := rk10_m (show rk_10 γ (F m) from RS_o s1 s2)
  refine Gf_2V (As := [.int a1, .int a2]) (gV_ok D I) (ct_588004_SpillForgeModel_run l hl0 D I γ el P F m a1 a2 s1 s2 hb (s4.imp id (fun q => q.1)) s5) d hw w2 w3 (s1.1 m (by omega)) he rfl hcs hsl hcat (fun r w dc ds hp => ?_) (fun _ _ _ _ _ z => z.elim)
  obtain ⟨F1, z, rfl, rfl, hT, hs, hdc, hds, -, y9, y10, y32, ht⟩ := hp
  have iM := isMd_o (show rk_10 γ (F m) from RS_o s1 s2)
  have n31 : m ≠ γ 9 31 := Ne.symm (md_6 s1 s2).2.2.2
  have n22 : γ 9 22 ≠ m := fun e => by have q := k22_o s1 s2; rw [e] at q; omega
  have n35 : fR (F m) 35 ≠ m := fun e => by have q := (md_k s1 s2).1; rw [e] at q; omega
  refine G_widen (cs' := cs) (sl' := sl) (by omega) (by omega) ?_
  obtain ⟨g1, g2, g3⟩ := mdS_t h hT y9 y10 (n1 := n) (y32.trans s3)
  exact kk F1 z n g1 g2 g3 rfl (kpT_W h hs (by decide) y9) (kpG_t h hs (by decide) y10) hs (run2_r s1 s2 ht)
theorem Gm_feed {a1 a2 a3 a4 a5 : Int32} (hl0 : l.stackTraces = false) (d : decode k.1 pc = .ok (.invokevirtual i, 3)) (hw : gCw (gV D I) R k.2.2.1 i yX17_feed cX17_feed 6 (some FieldType.int) 1 23 5) (w2 : Cond.instanceMethod yX17_feed ∈ (gV D I).2.2.2.2) (w3 : Cond.selects yX17_feed.cls yX17_feed yX17_feed ∈ (gV D I).2.2.2.2)
    (h : mdS D I m n P F γ el) (hcs : cs ≤ R.cells) (hsl : sl ≤ R.slots) (hcat : (st.map fun u => u.category).sum ≤ 8)
    (kk : ∀ (F1 : Nat → va_E) (z : Int32) (n1 : Int), mdS D I m n1 P F1 γ el → wDN γ F1 = wDN γ F → lRN γ F1 m = lRN γ F m → ((n ≤ 8172 ∧ z.toInt = n + 20 ∧ n1 = n + 20 ∧ (fI (F1 m) 30).toInt = 0) ∨ (8172 < n ∧ n1 = n ∧ (fI (F1 m) 30).toInt = 1)) → rStr γ [99] F F1 → (fI (F1 m) 9).toInt = (fI (F m) 9).toInt → (fI (F1 m) 10).toInt = (fI (F m) 10).toInt → mO (F1 m) = mO (F m) → tr_RModel_feed D I γ el P F m a1 a2 a3 a4 a5 z F1 → G (gV D I) l R Qf k (pc + 3) L (.int z :: st) (X ++ va_pl P F1) cs sl) :
    G (gV D I) l R Qf k pc L (.int a5 :: .int a4 :: .int a3 :: .int a2 :: .int a1 :: .ref m :: st) (X ++ va_pl P F) cs sl := by
  obtain ⟨s1, s2, s3, s4, s5, s6, s7, s8, s9⟩ := id h
  obtain ⟨r28, r35, v9, v10, v11, v12, v13, v14, v23, v24, v25, v26, v27, v30, v32, v33, v34, he, -, -, -⟩ := rk10_m (show rk_10 γ (F m) from RS_o s1 s2)
  refine Gf_2V (As := [.int a1, .int a2, .int a3, .int a4, .int a5]) (gV_ok D I) (ct_581448_SpillForgeModel_feed l hl0 D I γ el P F m a1 a2 a3 a4 a5 s1 s2) d hw w2 w3 (s1.1 m (by omega)) he rfl hcs hsl hcat (fun r w dc ds hp => ?_) (fun _ _ _ _ _ z => z.elim)
  obtain ⟨F1, z, rfl, rfl, hT, hs, hdc, hds, -, yc, y9, y10, ht⟩ := hp
  have iM := isMd_o (show rk_10 γ (F m) from RS_o s1 s2)
  have n31 : m ≠ γ 9 31 := Ne.symm (md_6 s1 s2).2.2.2
  have n22 : γ 9 22 ≠ m := fun e => by have q := k22_o s1 s2; rw [e] at q; omega
  have n35 : fR (F m) 35 ≠ m := fun e => by have q := (md_k s1 s2).1; rw [e] at q; omega
  refine G_widen (cs' := cs) (sl' := sl) (by omega) (by omega) ?_
  rcases yc with ⟨c1, c2, c3, c4⟩ | ⟨c1, c2, c3⟩
  · obtain ⟨g1, g2, g3⟩ := mdS_t h hT y9 y10 c3
    exact kk F1 z _ g1 g2 g3 (Or.inl ⟨by omega, by omega, by omega, c4⟩) hs y9 y10 (feed_9 iM n31 ht).2 ht
  · obtain ⟨g1, g2, g3⟩ := mdS_t h hT y9 y10 (c3.trans s3)
    exact kk F1 z n g1 g2 g3 (Or.inr ⟨by omega, rfl, c2⟩) hs y9 y10 (feed_9 iM n31 ht).2 ht
theorem Gm_end {a1 : Int32} (hl0 : l.stackTraces = false) (d : decode k.1 pc = .ok (.invokevirtual i, 3)) (hw : gCw (gV D I) R k.2.2.1 i yX17_end cX17_end 2 (some FieldType.int) 1 21 1) (w2 : Cond.instanceMethod yX17_end ∈ (gV D I).2.2.2.2) (w3 : Cond.selects yX17_end.cls yX17_end yX17_end ∈ (gV D I).2.2.2.2)
    (h : mdS D I m n P F γ el) (hcs : cs ≤ R.cells) (hsl : sl ≤ R.slots) (hcat : (st.map fun u => u.category).sum ≤ 8)
    (kk : ∀ (F1 : Nat → va_E) (z : Int32) (n1 : Int), mdS D I m n1 P F1 γ el → wDN γ F1 = wDN γ F → lRN γ F1 m = lRN γ F m → ((0 ≤ a1.toInt ∧ a1.toInt ≤ n ∧ n1 = a1.toInt ∧ z.toInt = a1.toInt ∧ (fI (F1 m) 30).toInt = 0) ∨ ((a1.toInt < 0 ∨ n < a1.toInt) ∧ n1 = n ∧ (fI (F1 m) 30).toInt = 1)) → kp9 m γ el F γ el F1 → G (gV D I) l R Qf k (pc + 3) L (.int z :: st) (X ++ va_pl P F1) cs sl) :
    G (gV D I) l R Qf k pc L (.int a1 :: .ref m :: st) (X ++ va_pl P F) cs sl := by
  obtain ⟨s1, s2, s3, s4, s5, s6, s7, s8, s9⟩ := id h
  obtain ⟨r28, r35, v9, v10, v11, v12, v13, v14, v23, v24, v25, v26, v27, v30, v32, v33, v34, he, -, -, -⟩ := rk10_m (show rk_10 γ (F m) from RS_o s1 s2)
  refine Gf_2V (As := [.int a1]) (gV_ok D I) (ct_582457_SpillForgeModel_end l hl0 D I γ el P F m a1 s1 s2) d hw w2 w3 (s1.1 m (by omega)) he rfl hcs hsl hcat (fun r w dc ds hp => ?_) (fun _ _ _ _ _ z => z.elim)
  obtain ⟨F1, z, rfl, rfl, hT, hs, hdc, hds, -, yc, y9, y10, ht⟩ := hp
  have iM := isMd_o (show rk_10 γ (F m) from RS_o s1 s2)
  have n31 : m ≠ γ 9 31 := Ne.symm (md_6 s1 s2).2.2.2
  have n22 : γ 9 22 ≠ m := fun e => by have q := k22_o s1 s2; rw [e] at q; omega
  have n35 : fR (F m) 35 ≠ m := fun e => by have q := (md_k s1 s2).1; rw [e] at q; omega
  refine G_widen (cs' := cs) (sl' := sl) (by omega) (by omega) ?_
  rcases yc with ⟨c1, c2, c3, c4, c5⟩ | ⟨c1, c2, c3⟩
  · obtain ⟨g1, g2, g3⟩ := mdS_t h hT y9 y10 c4
    exact kk F1 z _ g1 g2 g3 (Or.inl ⟨by omega, by omega, rfl, c3, c5⟩) (kp9_t h hT hs y9 y10 (end_9 iM n31 ht).2)
  · obtain ⟨g1, g2, g3⟩ := mdS_t h hT y9 y10 (c3.trans s3)
    exact kk F1 z n g1 g2 g3 (Or.inr ⟨by omega, rfl, c2⟩) (kp9_t h hT hs y9 y10 (end_9 iM n31 ht).2)
end GLM
