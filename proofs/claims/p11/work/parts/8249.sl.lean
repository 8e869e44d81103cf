/-! the current line: what it uses, what is written into it -/
section SLN
variable {l : Nat → Int} {e e1 : va_E} {r : Bool} {y : Int32} {t : Int} {S : gSp6} {R : gPg} {b i : Nat}
theorem lnU_X (hO : lnO2 r l) (h : lnX r l e) : lnU l (fI e 0) (fI e 1) (fI e 2) (fI e 3) (fI e 5) (fI e 6) := by
  unfold lnX at h
  unfold lnO2 at hO
  cases r with
  | true =>
    rw [if_pos rfl] at h hO
    exact lnU_r hO h
  | false =>
    rw [if_neg (by decide)] at h hO
    obtain ⟨e1, e2, e3⟩ := h
    obtain ⟨⟨o1, o2, o3, o4⟩, o5, o6⟩ := hO
    unfold opdE at e2 e3
    have hx : l 0 = 19 ∨ l 0 = 20 ∨ l 0 = 21 := by omega
    rcases hx with hx | hx | hx
    · have p := e1 hx
      have q := o4 hx
      clear e1 e2 e3
      exact ⟨by omega, by omega, by omega⟩
    · obtain ⟨p1, p2⟩ := e2 hx
      clear e1 e2 e3
      exact ⟨by omega, by omega, by omega⟩
    · obtain ⟨p1, p2⟩ := e3 hx
      clear e1 e2 e3
      exact ⟨by omega, by omega, by omega⟩
theorem set_A (hO : lnO2 r l) (h : lnX r l e) (hs : rwS e) (he : e1 = cF e 2 (.int y)) (hu : 0 ≤ l 2) (hy : y.toInt = t) (ht : 0 ≤ t) : lnX r (mkL (l 0) (l 1) t (l 3) (l 4) (l 5)) e1 := by
  obtain ⟨-, f0, f1, f2, f3, f4, f5, f6⟩ := cw_2 hs he
  unfold lnX at h ⊢
  unfold lnO2 at hO
  cases r with
  | true =>
    rw [if_pos rfl] at h hO ⊢
    rw [f0, f1, f2, f3, f4, f5, f6]
    obtain ⟨e1, e2, e3, e4, e5, e6⟩ := h
    obtain ⟨o1, o2, o3, o4, o5, o6, o7⟩ := hO
    unfold opdE at e1 e2 e4 e6
    refine ⟨fun (z : l 0 ≤ 13) => ?_, fun (z : l 0 = 14) => ?_, fun (z : l 0 = 15) => e3 z, fun (z : l 0 = 16) => ?_, fun (z : l 0 = 17) => e5 z, fun (z : l 0 = 18) => ?_⟩
    · obtain ⟨p1, p2, p3, p4⟩ := e1 z
      exact ⟨p1, p2, Or.inl ⟨by omega, hy, ht⟩, p4⟩
    · obtain ⟨p1, p2, p3⟩ := e2 z
      exact ⟨p1, p2, Or.inl ⟨by omega, hy, ht⟩⟩
    · obtain ⟨p1, p3⟩ := e4 z
      exact ⟨p1, Or.inl ⟨by omega, hy, ht⟩⟩
    · obtain ⟨p1, p3, p4⟩ := e6 z
      exact ⟨p1, Or.inl ⟨by omega, hy, ht⟩, p4⟩
  | false =>
    rw [if_neg (by decide)] at h hO ⊢
    rw [f0, f2, f5]
    obtain ⟨e1, e2, e3⟩ := h
    unfold opdE at e2 e3
    refine ⟨fun (z : l 0 = 19) => e1 z, fun (z : l 0 = 20) => ?_, fun (z : l 0 = 21) => ?_⟩
    · obtain ⟨p1, p2⟩ := e2 z
      exact ⟨p1, Or.inl ⟨by omega, hy, ht⟩⟩
    · obtain ⟨p1, p2⟩ := e3 z
      exact ⟨p1, Or.inl ⟨by omega, hy, ht⟩⟩
theorem set_B (hO : lnO2 r l) (h : lnX r l e) (hs : rwS e) (he : e1 = cF e 3 (.int y)) (hu : 0 ≤ l 4) (hy : y.toInt = t) (ht : 0 ≤ t) : lnX r (mkL (l 0) (l 1) (l 2) (l 3) t (l 5)) e1 := by
  obtain ⟨-, f0, f1, f2, f3, f4, f5, f6⟩ := cw_3 hs he
  unfold lnX at h ⊢
  unfold lnO2 at hO
  cases r with
  | true =>
    rw [if_pos rfl] at h hO ⊢
    rw [f0, f1, f2, f3, f4, f5, f6]
    obtain ⟨e1, e2, e3, e4, e5, e6⟩ := h
    obtain ⟨o1, o2, o3, o4, o5, o6, o7⟩ := hO
    refine ⟨fun (z : l 0 ≤ 13) => ?_, fun (z : l 0 = 14) => e2 z, fun (z : l 0 = 15) => e3 z, fun (z : l 0 = 16) => e4 z, fun (z : l 0 = 17) => e5 z, fun (z : l 0 = 18) => e6 z⟩
    obtain ⟨p1, p2, p3, p4⟩ := e1 z
    unfold opdE at p4
    exact ⟨p1, p2, p3, Or.inl ⟨by omega, hy, ht⟩⟩
  | false =>
    rw [if_neg (by decide)] at hO
    have := hO.1.2.2.1
    omega
theorem set_T (hO : lnO2 r l) (h : lnX r l e) (hs : rwS e) (he : e1 = cF e 1 (.int y)) (hu : 0 ≤ l 1) (hy : y.toInt = t) : lnX r (mkL (l 0) t (l 2) (l 3) (l 4) (l 5)) e1 := by
  obtain ⟨-, f0, f1, f2, f3, f4, f5, f6⟩ := cw_1 hs he
  unfold lnX at h ⊢
  unfold lnO2 at hO
  cases r with
  | true =>
    rw [if_pos rfl] at h hO ⊢
    rw [f0, f1, f2, f3, f4, f5, f6]
    obtain ⟨e1, e2, e3, e4, e5, e6⟩ := h
    obtain ⟨o1, o2, o3, o4, o5, o6, o7⟩ := hO
    refine ⟨fun (z : l 0 ≤ 13) => ?_, fun (z : l 0 = 14) => ?_, fun (z : l 0 = 15) => ?_, fun (z : l 0 = 16) => e4 z, fun (z : l 0 = 17) => ?_, fun (z : l 0 = 18) => e6 z⟩
    · obtain ⟨p1, p2, p3, p4⟩ := e1 z
      exact ⟨p1, hy, p3, p4⟩
    · obtain ⟨p1, p2, p3⟩ := e2 z
      exact ⟨p1, hy, p3⟩
    · obtain ⟨p1, p2⟩ := e3 z
      exact ⟨p1, hy⟩
    · obtain ⟨p1, p2, p3⟩ := e5 z
      exact ⟨p1, hy, p3⟩
  | false =>
    rw [if_neg (by decide)] at hO
    have := hO.1.1
    omega
theorem lnO2_A (hO : lnO2 r l) (hu : 0 ≤ l 2) (ht : 0 ≤ t) (ht2 : t ≤ 1999) : lnO2 r (mkL (l 0) (l 1) t (l 3) (l 4) (l 5)) := by
  unfold lnO2 at hO ⊢
  cases r with
  | true =>
    rw [if_pos rfl] at hO ⊢
    obtain ⟨o1, o2, o3, o4, o5, o6, o7⟩ := hO
    refine ⟨o1, ⟨by show -1 ≤ t; omega, ht2⟩, o3, o4, o5, fun (z : l 0 = 15 ∨ l 0 = 17) => ?_, o7⟩
    have := o6 z
    omega
  | false =>
    rw [if_neg (by decide)] at hO ⊢
    obtain ⟨⟨o1, o2, o3, o4⟩, o5, o6⟩ := hO
    refine ⟨⟨o1, ⟨by show -1 ≤ t; omega, ht2⟩, o3, fun (z : l 0 = 19) => ?_⟩, o5, o6⟩
    have := o4 z
    omega
theorem lnO2_B (hO : lnO2 r l) (hu : 0 ≤ l 4) (ht : 0 ≤ t) (ht2 : t ≤ 1999) : lnO2 r (mkL (l 0) (l 1) (l 2) (l 3) t (l 5)) := by
  unfold lnO2 at hO ⊢
  cases r with
  | true =>
    rw [if_pos rfl] at hO ⊢
    obtain ⟨o1, o2, o3, o4, o5, o6, o7⟩ := hO
    refine ⟨o1, o2, ⟨by show -1 ≤ t; omega, ht2⟩, o4, o5, o6, fun (z : 14 ≤ l 0) => ?_⟩
    have := o7 z
    omega
  | false =>
    rw [if_neg (by decide)] at hO
    have := hO.1.2.2.1
    omega
theorem rwB_mid (hi : i < R.2.1 b) : rwB (mid S R b i) b (S.1.2.1 b) = rwB R b i := by
  unfold rwB
  rw [mid_len]
  exact decide_eq_decide.mpr (by omega)
end SLN
section SLO
variable {l l2 : Nat → Int} {e : va_E} {r : Bool} {so : Nat → Int} {S : gSp6} {n : Nat}
theorem lnO2_6 (hO : lnO2 r l) (h6 : ∀ f, f < 6 → l2 f = l f) : lnO2 r l2 := by
  have e0 := h6 0 (by decide)
  have e1 := h6 1 (by decide)
  have e2 := h6 2 (by decide)
  have e4 := h6 4 (by decide)
  unfold lnO2 rwO2 edO2 at hO ⊢
  rw [e0, e1, e2, e4]
  exact hO
theorem lnO2_b (hO : lnO2 r l) : (-1 ≤ l 1 ∧ l 1 ≤ 1999) ∧ (-1 ≤ l 2 ∧ l 2 ≤ 1999) ∧ (-1 ≤ l 4 ∧ l 4 ≤ 1999) := by
  unfold lnO2 at hO
  cases r with
  | true =>
    rw [if_pos rfl] at hO
    obtain ⟨o1, o2, o3, o4, o5, o6, o7⟩ := hO
    refine ⟨?_, o2, o3⟩
    by_cases c : l 0 ≤ 15 ∨ l 0 = 17
    · have := o4 c; omega
    · have := o5 (by omega); omega
  | false =>
    rw [if_neg (by decide)] at hO
    obtain ⟨⟨o1, o2, o3, o4⟩, -⟩ := hO
    exact ⟨by omega, o2, by omega⟩
theorem lnO2_le1 (hO : lnO2 r l) : l 1 ≤ 1999 := (lnO2_b hO).1.2
theorem lnO2_le2 (hO : lnO2 r l) : l 2 ≤ 1999 := (lnO2_b hO).2.1.2
theorem lnO2_le4 (hO : lnO2 r l) : l 4 ≤ 1999 := (lnO2_b hO).2.2.2
theorem lnO2_ge4 (hO : lnO2 r l) : -1 ≤ l 4 := (lnO2_b hO).2.2.1
theorem slf_p {x : Int} (h : ¬ slf so x = -1) : 0 ≤ x ∧ x < 100 := by
  unfold slf at h
  by_cases c : 0 ≤ x ∧ x < 100
  · exact c
  · rw [if_neg c] at h; exact absurd rfl h
theorem lnO2_V (hO : lnO2 r l) (h1 : 100 ≤ n) (h2 : n ≤ 1999) : lnO2 r (mkL (l 0) (l 1) (ldV so (l 2) n) (l 3) (l 4) (l 5)) := by
  unfold ldV
  by_cases c : slf so (l 2) = -1
  · rw [if_pos c]; exact lnO2_6 hO (fun f hf => mk6 hf)
  · rw [if_neg c]; exact lnO2_A hO (slf_p c).1 (by omega) (by omega)
theorem lnO2_W (hO : lnO2 r l) (h1 : 100 ≤ S.2) (h2 : (spR so l S).2 ≤ 720) : lnO2 r (mkL (l 0) (l 1) (ldV so (l 2) S.2) (l 3) (spV so l S) (l 5)) := by
  have n1 : S.2 ≤ (spR so l S).2 ∧ (ldN so (l 2) S).2 ≤ (spR so l S).2 := by
    unfold spR
    split
    · exact ⟨ldN_le, Nat.le_refl _⟩
    · exact ⟨Nat.le_trans ldN_le ldN_le, ldN_le⟩
  have n2 : S.2 ≤ (ldN so (l 2) S).2 := ldN_le
  have hV := lnO2_V (so := so) hO h1 (by omega)
  unfold spV
  by_cases c : l 4 = l 2
  · rw [if_pos c]
    by_cases d : slf so (l 2) = -1
    · have e : ldV so (l 2) S.2 = l 2 := if_pos d
      rw [e] at hV ⊢
      rw [c] at hV
      exact hV
    · have e : ldV so (l 2) S.2 = (S.2 : Int) := if_neg d
      rw [e] at hV ⊢
      exact lnO2_B (l := mkL (l 0) (l 1) (S.2 : Int) (l 3) (l 4) (l 5)) hV (by show 0 ≤ l 4; rw [c]; exact (slf_p d).1) (by omega) (by omega)
  · rw [if_neg c]
    by_cases d : slf so (l 4) = -1
    · rw [show ldV so (l 4) (ldN so (l 2) S).2 = l 4 from if_pos d]
      exact hV
    · rw [show ldV so (l 4) (ldN so (l 2) S).2 = ((ldN so (l 2) S).2 : Int) from if_neg d]
      exact lnO2_B (l := mkL (l 0) (l 1) (ldV so (l 2) S.2) (l 3) (l 4) (l 5)) hV (by show 0 ≤ l 4; exact (slf_p d).1) (by omega) (by omega)
theorem lnX_17 (hO : lnO2 r l) (h : lnX r l e) (h21 : (fI e 0).toInt = 21) : l 0 = 17 := by
  unfold lnX at h
  unfold lnO2 at hO
  cases r with
  | true =>
    rw [if_pos rfl] at h hO
    obtain ⟨e1, e2, e3, e4, e5, e6⟩ := h
    have o1 := hO.1
    refine Classical.byContradiction fun n => ?_
    have hx : l 0 ≤ 13 ∨ l 0 = 14 ∨ l 0 = 15 ∨ l 0 = 16 ∨ l 0 = 18 := by omega
    rcases hx with hx | hx | hx | hx | hx
    · have := (e1 hx).1; omega
    · have := (e2 hx).1; omega
    · have := (e3 hx).1; omega
    · have := (e4 hx).1; omega
    · have := (e6 hx).1; omega
  | false =>
    rw [if_neg (by decide)] at h hO
    obtain ⟨e1, e2, e3⟩ := h
    have o5 := hO.2
    have hx : l 0 = 19 ∨ l 0 = 20 ∨ l 0 = 21 := by omega
    rcases hx with hx | hx | hx
    · have := e1 hx; omega
    · have := (e2 hx).1; omega
    · have := (e3 hx).1; omega
end SLO
section SLR
variable {D : va_G} {I : FieldType → ClassId} {P : List Nat} {F F1 F2 F3 F4 : Nat → va_E} {γ el : Nat → Nat → Nat} {q y m : Nat} {x s : Int32}
theorem rs_7 (hT : RS D I P F γ el) (k : γ 0 y = 1) (n : ∀ b, b ≠ y → F1 b = F b) (e : F1 y = cF (F y) 1 (.int x)) (h0 : 0 ≤ x.toInt) (h1 : x.toInt ≤ 1999) : RS D I P F1 γ el := by
  refine RS_ow (W := [y]) hT rSub_rf (fun b _ hb => n b (fun z => hb (z ▸ List.mem_cons_self))) (wm_c (Or.inr ?_) wm_n)
  rw [k]
  refine ⟨by decide, ?_⟩
  obtain ⟨op, t, a, b, s', ra, rb, he, r1, r2, r3⟩ := show rk_1 γ y (F y) from RS_o hT k
  exact ⟨op, x, a, b, s', ra, rb, by rw [e, he]; rfl, r1, ⟨h0, h1⟩, r3⟩
theorem rs_9 (hT : RS D I P F γ el) (hm : γ 0 m = 10) (n : ∀ b, b ≠ m → F1 b = F b) (e : F1 m = cF (F m) 14 (.int x)) (h0 : 0 ≤ x.toInt) (h1 : x.toInt ≤ 2000) : RS D I P F1 γ el := by
  obtain ⟨r28, r35, v9, v10, v11, v12, v13, v14, v23, v24, v25, v26, v27, v30, v32, v33, v34, he, ⟨m1, m2, m3, m4, m5⟩, hK, hM2⟩ := rk10_m (show rk_10 γ (F m) from RS_o hT hm)
  rw [he] at e
  exact RS_md hT hm n (v14 := x) e ⟨m1, m2, m3, ⟨h0, h1⟩, m5⟩ hK hM2
theorem rs_20 (hT : RS D I P F γ el) (k : γ 0 y = 101) (n : ∀ b, b ≠ y → F4 b = F b) (e1 : F1 y = cF (F y) 0 (.int 23)) (e2 : F2 y = cF (F1 y) 4 (.int s)) (e3 : F3 y = cF (F2 y) 2 (.int x)) (e4 : F4 y = cF (F3 y) 5 (.int 1)) (s0 : 0 ≤ s.toInt) (s1 : s.toInt ≤ 1999) (h0 : 0 ≤ x.toInt) (h1 : x.toInt ≤ 1999) : RS D I P F4 γ el := by
  refine RS_ow (W := [y]) hT rSub_rf (fun b _ hb => n b (fun z => hb (z ▸ List.mem_cons_self))) (wm_c (Or.inr (fit_101 k ?_)) wm_n)
  obtain ⟨op, t, a, b, s', ra, rb, he, r1, r2, r3, r4, r5, r6, r7, r8⟩ := show rkR (F y) from RS_o hT k
  exact ⟨23, t, x, b, s, 1, rb, by rw [e4, e3, e2, e1, he]; rfl, ⟨by decide, by decide⟩, r2, ⟨s0, s1⟩, ⟨by decide, by decide⟩, r5, Or.inr (by decide), Or.inr ⟨h0, h1⟩, r8⟩
end SLR
