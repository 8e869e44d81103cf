/-- how many below n -/
noncomputable def cntP (T : Nat → Prop) : Nat → Nat
  | 0 => 0
  | n + 1 => cntP T n + @ite Nat (T n) (Classical.propDecidable (T n)) 1 0
section CHN
variable {T U : Nat → Prop}
theorem cntP_le : ∀ n, cntP T n ≤ n
  | 0 => Nat.le_refl _
  | n + 1 => by
    have h := cntP_le n
    show cntP T n + @ite Nat (T n) (Classical.propDecidable (T n)) 1 0 ≤ n + 1
    by_cases c : T n
    · rw [if_pos c]; omega
    · rw [if_neg c]; omega
theorem cntP_mo : ∀ n, (∀ b, b < n → T b → U b) → cntP T n ≤ cntP U n
  | 0, _ => Nat.le_refl _
  | n + 1, h => by
    have h1 := cntP_mo n (fun b hb => h b (by omega))
    show cntP T n + @ite Nat (T n) (Classical.propDecidable (T n)) 1 0 ≤ cntP U n + @ite Nat (U n) (Classical.propDecidable (U n)) 1 0
    by_cases c : T n
    · rw [if_pos c, if_pos (h n (Nat.lt_succ_self n) c)]; omega
    · rw [if_neg c]; omega
theorem cntP_lt : ∀ n, (∀ b, b < n → T b → U b) → (∃ b, b < n ∧ U b ∧ ¬ T b) → cntP T n < cntP U n
  | 0, _, h => by obtain ⟨b, hb, _⟩ := h; omega
  | n + 1, h, ⟨b, hb, hu, ht⟩ => by
    show cntP T n + @ite Nat (T n) (Classical.propDecidable (T n)) 1 0 < cntP U n + @ite Nat (U n) (Classical.propDecidable (U n)) 1 0
    by_cases e : b = n
    · have h1 := cntP_mo n (fun b hb => h b (by omega))
      rw [e] at hu ht
      rw [if_neg ht, if_pos hu]; omega
    · have h1 := cntP_lt n (fun b hb => h b (by omega)) ⟨b, by omega, hu, ht⟩
      by_cases c : T n
      · rw [if_pos c, if_pos (h n (Nat.lt_succ_self n) c)]; omega
      · rw [if_neg c]; omega
theorem cntP_c : ∀ n, (∀ b, b < n → (T b ↔ U b)) → cntP T n = cntP U n := fun n h => Nat.le_antisymm (cntP_mo n (fun b hb => (h b hb).mp)) (cntP_mo n (fun b hb => (h b hb).mpr))
end CHN
/-- rows of growing sets of numbers below n: from the n-th on nothing comes any more -/
theorem chn_st (T : Nat → Nat → Prop) (n : Nat) (mo : ∀ p b, T p b → T (p + 1) b) (de : ∀ p, (∀ b, b < n → T (p + 1) b → T p b) → ∀ b, b < n → T (p + 2) b → T (p + 1) b) : ∀ b, b < n → T (n + 1) b → T n b := by
  by_cases st : ∀ b, b < n → T (n + 1) b → T n b
  · exact st
  · exfalso
    have up : ∀ m p, p + m = n → (∀ b, b < n → T (p + 1) b → T p b) → ∀ b, b < n → T (n + 1) b → T n b := by
      intro m
      induction m with
      | zero => intro p hp h; rw [show p = n by omega] at h; exact h
      | succ m ih => intro p hp h; exact ih (p + 1) (by omega) (de p h)
    have gr : ∀ p, p ≤ n + 1 → p ≤ cntP (T p) n := by
      intro p
      induction p with
      | zero => intro _; exact Nat.zero_le _
      | succ p ih =>
        intro hp
        have h1 := ih (by omega)
        have h2 : ∃ b, b < n ∧ T (p + 1) b ∧ ¬ T p b := by
          by_cases q : ∃ b, b < n ∧ T (p + 1) b ∧ ¬ T p b
          · exact q
          · exfalso
            refine st (up (n - p) p (by omega) (fun b hb h => ?_))
            by_cases z : T p b
            · exact z
            · exact absurd ⟨b, hb, h, z⟩ q
        have h3 := cntP_lt n (fun b _ => mo p b) h2
        omega
    have h1 := gr (n + 1) (Nat.le_refl _)
    have h2 := cntP_le (T := T (n + 1)) n
    omega
