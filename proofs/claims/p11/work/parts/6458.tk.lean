section TK
variable {B : Int → Int} {n : Int}
theorem tk_b (hB : bOk B n) : ∀ i : Nat, 0 ≤ (tk B n i).2.2.1 ∧ (tk B n i).2.2.1 ≤ n ∧ (tk B n i).2.2.1 ≤ (tk B n i).2.2.2 ∧ (tk B n i).2.2.2 ≤ n ∧ ((tk B n i).1 = 1 ↔ (tk B n i).2.2.1 = n) ∧ ((tk B n i).1 ≠ 1 → (tk B n i).2.2.1 < (tk B n i).2.2.2) ∧ tkO (tk B n i).1 (tk B n i).2.1
  | 0 => by
    have s := skp_le (B := B) (n := n) (i := 0) (r := 0) hB.1
    have q := sgn_b (p := skp B n 0 0) (aft := false) hB s.1 s.2
    exact ⟨s.1, s.2, q.2.2.1, q.2.2.2.1, q.1, fun z => q.2.1 (fun e => z (q.1.mpr e)), q.2.2.2.2⟩
  | i + 1 => by
    obtain ⟨h1, h2, h3, h4, -⟩ := tk_b hB i
    have s := skp_le (B := B) (n := n) (i := (tk B n i).2.2.2) (r := 0) h4
    have q := sgn_b (p := skp B n (tk B n i).2.2.2 0) (aft := decide ((tk B n i).1 = 2 ∨ (tk B n i).1 = 4)) hB (by omega) s.2
    exact ⟨(by show 0 ≤ skp B n (tk B n i).2.2.2 0; omega), s.2, q.2.2.1, q.2.2.2.1, q.1, fun z => q.2.1 (fun e => z (q.1.mpr e)), q.2.2.2.2⟩
theorem tk_s (hB : bOk B n) (i : Nat) : (tk B n i).2.2.2 ≤ (tk B n (i + 1)).2.2.1 := (skp_le (B := B) (n := n) (i := (tk B n i).2.2.2) (r := 0) (tk_b hB i).2.2.2.1).1
theorem mst_1 {v : Int} (s : gMs) : mst 1 v s = none := by
  obtain ⟨du, st, lf, ln, op, rw, bk, P⟩ := s
  have hl : ∀ Q, mLine 1 v op rw bk Q = none := fun Q => by
    unfold mLine
    rw [if_neg (by decide), if_neg (by decide), if_neg (by decide), if_neg (by decide), if_neg (by decide)]
  have e24 : ¬ ((1 : Int) = 2 ∨ (1 : Int) = 4) := by decide
  simp only [mst, hl, if_neg e24, if_neg (show ¬ (1 : Int) = 3 by decide), if_neg (show ¬ (1 : Int) = 6 by decide), if_neg (show ¬ (1 : Int) = 7 by decide), if_neg (show ¬ (1 : Int) = 8 by decide), if_neg (show ¬ (1 : Int) = 5 by decide), ite_self]
theorem mrn_s {i : Nat} {s : gMs} (h : mrn B n (i + 1) = some s) : ∃ t, mrn B n i = some t ∧ mst (tk B n i).1 (tk B n i).2.1 t = some s := by
  have h2 : (mrn B n i).bind (mst (tk B n i).1 (tk B n i).2.1) = some s := h
  cases e : mrn B n i with
  | none => rw [e] at h2; cases h2
  | some t => rw [e] at h2; exact ⟨t, rfl, h2⟩
theorem mrn_e {i : Nat} {t : gMs} (h : mrn B n i = some t) : mrn B n (i + 1) = mst (tk B n i).1 (tk B n i).2.1 t := by
  show (mrn B n i).bind (mst (tk B n i).1 (tk B n i).2.1) = _
  rw [h]; rfl
theorem mrn_n {i : Nat} (h : mrn B n i = none) : ∀ j, i ≤ j → mrn B n j = none := by
  intro j hj
  induction j with
  | zero => have e : i = 0 := by omega
            rw [e] at h; exact h
  | succ j ih =>
    by_cases e : i = j + 1
    · rw [← e]; exact h
    · have := ih (by omega)
      show (mrn B n j).bind _ = none
      rw [this]; rfl
theorem mst_el {Q : gMs → Prop} {k v du st lf ln op rw : Int} {bk : Bool} {P : gPg} {s : gMs} (h : mst k v (du, st, lf, ln, op, rw, bk, P) = some s)
    (h1 : Q (2, st, lf, ln, op, rw, bk || decide (v ≠ (P.1 : Int)), pgB P)) (h2 : Q (3, st, lf, ln, op, rw, bk, P)) (h3 : ∀ s, mLine k v op rw bk P = some s → Q s) (h4 : Q (5, st, lf, ln, op, rw, bk, P))
    (h5 : Q (3, st, lf, ln, op, rw, bk, pgL P (mkL 15 st lf ln (-1) 0))) (h5' : Q (6, st, rgV k v, nmW k v, op, rw, bk, P)) (h6 : Q (7, st, lf, ln, v, rw, bk, P)) (h6' : ∀ s, mLine k v op rw bk (pgL P (mkL 14 st lf ln (-1) 0)) = some s → Q s)
    (h7 : Q (3, st, lf, ln, op, rw, bk, pgL P (mkL op st lf ln (rgV k v) (nmW k v)))) (h8 : Q (3, st, rgV k v, nmW k v, op, rw, bk, pgL P (mkL 16 st (rgV k v) (nmW k v) (-1) 0))) (h9 : Q (11, st, rgV k v, nmW k v, op, rw, bk, pgL P (mkL 20 st (rgV k v) (nmW k v) (-1) 0)))
    (h10 : Q (1, st, rgV k v, nmW k v, op, rw, bk, pgL P (mkL 21 st (rgV k v) (nmW k v) (-1) 0))) (h11 : Q (12, st, lf, ln, op, rw, bk, pgG P v)) (h12 : Q (1, st, lf, ln, op, rw, bk, pgG P v)) : Q s := by
  have hs : ∀ {c : Prop} [Decidable c] {x : gMs}, (if c then some x else none) = some s → Q x → Q s := fun {c} _ {x} h hx => by
    by_cases e : c
    · rw [if_pos e] at h; cases h; exact hx
    · rw [if_neg e] at h; cases h
  simp only [mst] at h
  by_cases d0 : du ≤ 1
  · rw [if_pos d0] at h
    exact hs h h1
  rw [if_neg d0] at h
  by_cases d1 : du = 2
  · rw [if_pos d1] at h
    exact hs h h2
  rw [if_neg d1] at h
  by_cases d2 : du = 3
  · rw [if_pos d2] at h
    exact h3 s h
  rw [if_neg d2] at h
  by_cases d3 : du = 4
  · rw [if_pos d3] at h
    exact hs h h4
  rw [if_neg d3] at h
  by_cases d4 : du = 5
  · rw [if_pos d4] at h
    by_cases c : k = 8
    · rw [if_pos c] at h; cases h; exact h5
    · rw [if_neg c] at h; exact hs h h5'
  rw [if_neg d4] at h
  by_cases d5 : du = 6
  · rw [if_pos d5] at h
    by_cases c : k = 5
    · rw [if_pos c] at h; cases h; exact h6
    · rw [if_neg c] at h; exact h6' s h
  rw [if_neg d5] at h
  by_cases d6 : du = 7
  · rw [if_pos d6] at h
    exact hs h h7
  rw [if_neg d6] at h
  by_cases d7 : du = 8
  · rw [if_pos d7] at h
    exact hs h h8
  rw [if_neg d7] at h
  by_cases d8 : du = 9
  · rw [if_pos d8] at h
    exact hs h h9
  rw [if_neg d8] at h
  by_cases d9 : du = 10
  · rw [if_pos d9] at h
    exact hs h h10
  rw [if_neg d9] at h
  by_cases d10 : du = 11
  · rw [if_pos d10] at h
    exact hs h h11
  rw [if_neg d10] at h
  exact hs h h12
theorem mLine_el {Q : gMs → Prop} {k v op rw : Int} {bk : Bool} {P : gPg} {s : gMs} (h : mLine k v op rw bk P = some s) (h1 : Q (4, v, -1, 0, op, rw + 1, bk || decide (160 < rw + 1), P)) (h2 : Q (8, -1, -1, 0, op, rw + 1, bk || decide (160 < rw + 1), P)) (h3 : Q (9, -1, -1, 0, op, rw, bk, P)) (h4 : Q (10, -1, -1, 0, op, rw, bk, P)) (h5 : Q (12, -1, -1, 0, op, rw, bk, pgL P (mkL 19 (-1) (-1) 0 (-1) 0))) : Q s := by
  unfold mLine at h
  by_cases d0 : k = 2
  · rw [if_pos d0] at h; cases h; exact h1
  rw [if_neg d0] at h
  by_cases d1 : k = 9
  · rw [if_pos d1] at h; cases h; exact h2
  rw [if_neg d1] at h
  by_cases d2 : k = 10
  · rw [if_pos d2] at h; cases h; exact h3
  rw [if_neg d2] at h
  by_cases d3 : k = 12
  · rw [if_pos d3] at h; cases h; exact h4
  rw [if_neg d3] at h
  by_cases d4 : k = 11
  · rw [if_pos d4] at h; cases h; exact h5
  rw [if_neg d4] at h
  cases h
theorem mrn_w (hB : bOk B n) : ∀ {i : Nat} {s : gMs}, mrn B n i = some s → mwf s ∧ (i : Int) ≤ (tk B n i).2.2.1 ∧ s.2.2.2.2.2.1 ≤ (i : Int)
  | 0, s, h => by
    cases h
    exact ⟨mwf_0, (tk_b hB 0).1, by decide⟩
  | i + 1, s, h => by
    obtain ⟨t, h1, h2⟩ := mrn_s h
    obtain ⟨w1, w2, w3⟩ := mrn_w hB h1
    have b := tk_b hB i
    have hk : (tk B n i).1 ≠ 1 := fun z => by rw [z, mst_1] at h2; cases h2
    have b6 := b.2.2.2.2.2.1 hk
    have b7 := tk_s hB i
    refine ⟨mst_wf b.2.2.2.2.2.2 w1 h2, by omega, ?_⟩
    have r : s.2.2.2.2.2.1 ≤ t.2.2.2.2.2.1 + 1 := by
      obtain ⟨du, st, lf, ln, op, rw, bk, P⟩ := t
      have z0 : rw ≤ rw + 1 := by omega
      have hl : ∀ (Q : gPg) (s : gMs), mLine (tk B n i).1 (tk B n i).2.1 op rw bk Q = some s → s.2.2.2.2.2.1 ≤ rw + 1 := fun Q s h => mLine_el (Q := fun s => s.2.2.2.2.2.1 ≤ rw + 1) h (Int.le_refl _) (Int.le_refl _) z0 z0 z0
      exact mst_el (Q := fun s => s.2.2.2.2.2.1 ≤ rw + 1) h2 z0 z0 (hl _) z0 z0 z0 z0 (hl _) z0 z0 z0 z0 z0 z0
    omega
end TK
