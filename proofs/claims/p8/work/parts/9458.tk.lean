section TK
variable {B : Int → Int} {n : Int}
theorem tk_b (hB : bOk B n) : ∀ i : Nat, 0 ≤ (tk B n i).2.2.1 ∧ (tk B n i).2.2.1 ≤ n ∧ (tk B n i).2.2.1 ≤ (tk B n i).2.2.2 ∧ (tk B n i).2.2.2 ≤ n ∧ ((tk B n i).1 = 1 ↔ (tk B n i).2.2.1 = n) ∧ ((tk B n i).1 ≠ 1 → (tk B n i).2.2.1 < (tk B n i).2.2.2) ∧ tkO (tk B n i).1 (tk B n i).2.1
  | 0 => by
    have s := skp_le (B := B) (n := n) (i := 0) (r := 0) hB.1
    have q := sgn_b (p := skp B n 0 0) (aft := false) hB s.1 s.2
    exact ⟨s.1, s.2, q.2.2.1, q.2.2.2.1, q.1, fun z => q.2.1 (fun e => z (q.1.mpr e)), q.2.2.2.2⟩
  | i + 1 => by
    obtain ⟨h1, h2, h3, h4, -⟩ := tk_b hB i
    have s := skp_le (B := B) (n := n) (i := (tk B n i).2.2.2) (r := 0) h4
    have q := sgn_b (p := skp B n (tk B n i).2.2.2 0) (aft := decide ((tk B n i).1 = 2 ∨ (tk B n i).1 = 4)) hB (by omega) s.2
    exact ⟨(by show 0 ≤ skp B n (tk B n i).2.2.2 0; omega), s.2, q.2.2.1, q.2.2.2.1, q.1, fun z => q.2.1 (fun e => z (q.1.mpr e)), q.2.2.2.2⟩
theorem tk_s (hB : bOk B n) (i : Nat) : (tk B n i).2.2.2 ≤ (tk B n (i + 1)).2.2.1 := (skp_le (B := B) (n := n) (i := (tk B n i).2.2.2) (r := 0) (tk_b hB i).2.2.2.1).1
theorem mst_1 {v : Int} (s : gMs) : mst 1 v s = none := by
  obtain ⟨du, st, lf, ln, op, rw, bk, P⟩ := s
  have hl : ∀ Q, mLine 1 v op rw bk Q = none := fun Q => by
    unfold mLine
    rw [if_neg (by decide), if_neg (by decide), if_neg (by decide), if_neg (by decide), if_neg (by decide)]
  have e24 : ¬ ((1 : Int) = 2 ∨ (1 : Int) = 4) := by decide
  simp only [mst, hl, if_neg e24, if_neg (show ¬ (1 : Int) = 3 by decide), if_neg (show ¬ (1 : Int) = 6 by decide), if_neg (show ¬ (1 : Int) = 7 by decide), if_neg (show ¬ (1 : Int) = 8 by decide), if_neg (show ¬ (1 : Int) = 5 by decide), ite_self]
theorem mrn_s {i : Nat} {s : gMs} (h : mrn B n (i + 1) = some s) : ∃ t, mrn B n i = some t ∧ mst (tk B n i).1 (tk B n i).2.1 t = some s := by
  have h2 : (mrn B n i).bind (mst (tk B n i).1 (tk B n i).2.1) = some s := h
  cases e : mrn B n i with
  | none => rw [e] at h2; cases h2
  | some t => rw [e] at h2; exact ⟨t, rfl, h2⟩
theorem mrn_e {i : Nat} {t : gMs} (h : mrn B n i = some t) : mrn B n (i + 1) = mst (tk B n i).1 (tk B n i).2.1 t := by
  show (mrn B n i).bind (mst (tk B n i).1 (tk B n i).2.1) = _
  rw [h]; rfl
theorem mrn_n {i : Nat} (h : mrn B n i = none) : ∀ j, i ≤ j → mrn B n j = none := by
  intro j hj
  induction j with
  | zero => have e : i = 0 := by omega
            rw [e] at h; exact h
  | succ j ih =>
    by_cases e : i = j + 1
    · rw [← e]; exact h
    · have := ih (by omega)
      show (mrn B n j).bind _ = none
      rw [this]; rfl
theorem mrn_w (hB : bOk B n) : ∀ {i : Nat} {s : gMs}, mrn B n i = some s → mwf s ∧ (i : Int) ≤ (tk B n i).2.2.1 ∧ s.2.2.2.2.2.1 ≤ (i : Int)
  | 0, s, h => by
    cases h
    exact ⟨mwf_0, (tk_b hB 0).1, by decide⟩
  | i + 1, s, h => by
    obtain ⟨t, h1, h2⟩ := mrn_s h
    obtain ⟨w1, w2, w3⟩ := mrn_w hB h1
    have b := tk_b hB i
    have hk : (tk B n i).1 ≠ 1 := fun z => by rw [z, mst_1] at h2; cases h2
    have b6 := b.2.2.2.2.2.1 hk
    have b7 := tk_s hB i
    refine ⟨mst_wf b.2.2.2.2.2.2 w1 h2, by omega, ?_⟩
    have r : s.2.2.2.2.2.1 ≤ t.2.2.2.2.2.1 + 1 := by
      obtain ⟨du, st, lf, ln, op, rw, bk, P⟩ := t
      have hl : ∀ {Q : gPg} {k v : Int}, mLine k v op rw bk Q = some s → s.2.2.2.2.2.1 ≤ rw + 1 := fun {Q k v} h => by
        unfold mLine at h
        split at h
        · cases h; exact Int.le_refl _
        · split at h
          · cases h; exact Int.le_refl _
          · split at h
            · cases h; show rw ≤ rw + 1; omega
            · split at h
              · cases h; show rw ≤ rw + 1; omega
              · split at h
                · cases h; show rw ≤ rw + 1; omega
                · cases h
      have hs : ∀ {c : Prop} [Decidable c] {x : gMs}, (if c then some x else none) = some s → x.2.2.2.2.2.1 ≤ rw + 1 → s.2.2.2.2.2.1 ≤ rw + 1 := fun {c} _ {x} h hx => by
        split at h
        · cases h; exact hx
        · cases h
      have z0 : rw ≤ rw + 1 := by omega
      simp only [mst] at h2
      show s.2.2.2.2.2.1 ≤ rw + 1
      split at h2
      · exact hs h2 z0
      split at h2
      · exact hs h2 z0
      split at h2
      · exact hl h2
      split at h2
      · exact hs h2 z0
      split at h2
      · split at h2
        · cases h2; exact z0
        · exact hs h2 z0
      split at h2
      · split at h2
        · cases h2; exact z0
        · exact hl h2
      split at h2
      · exact hs h2 z0
      split at h2
      · exact hs h2 z0
      split at h2
      · exact hs h2 z0
      split at h2
      · exact hs h2 z0
      split at h2
      · exact hs h2 z0
      · exact hs h2 z0
    omega
end TK
