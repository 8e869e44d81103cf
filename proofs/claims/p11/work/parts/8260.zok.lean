/-! what is given out can be run -/
section ZOK
variable {Q R : gPg} {k : Int} {dp : Nat → Nat} {so : Nat → Int} {nm sl b j n m v : Nat} {p : Nat → Nat} {J : Nat → Nat → Prop}
theorem soO_mg (h : soO Q sl) (hm : mgb Q k b j) : soO (mg1 Q b j) sl := fun d i hd hi h17 => by
  have hi2 : i < if d = b then Q.2.1 d - 1 else Q.2.1 d := hi
  have hx : (if d = b ∧ j ≤ i then i + 1 else i) < Q.2.1 d := by
    by_cases e : d = b
    · rw [if_pos e] at hi2; split <;> omega
    · rw [if_neg e] at hi2; rw [if_neg (fun z => e z.1)]; exact hi2
  exact h d _ hd hx h17
theorem soO_MG : ∀ {m : Nat} {Q R : gPg}, soO Q sl → MGn k m Q R → soO R sl
  | 0, _, _, h, g => by rw [g.1]; exact h
  | m + 1, _, _, h, ⟨b, j, q, g⟩ => soO_MG (soO_mg h q.1) g
theorem soO_m (h : soO R sl) (hl : sl ≤ m) : soO R m := fun b j hb hj h17 => by
  have := h b j hb hj h17
  omega
def sL6 (sl : Nat) (l : Nat → Int) (_ : Nat) : Prop := l 0 = 17 ∨ l 0 = 18 → 0 ≤ l 5 ∧ l 5 < (sl : Int)
theorem sL_m : ∀ (l : Nat → Int) (a c : Nat), a ≤ c → sL6 sl l a → sL6 sl l c := fun _ _ _ _ h => h
theorem sL_N {x : Int} {s : gSp6} (hs : ∀ x, slf so x = -1 ∨ (0 ≤ slf so x ∧ slf so x < (sl : Int))) (h : allL (sL6 sl) s) : allL (sL6 sl) (ldN so x s) := by
  unfold ldN
  by_cases c : slf so x = -1
  · rw [if_pos c]; exact h
  · rw [if_neg c]; exact allL_L sL_m h (Nat.le_succ _) (fun _ => (hs x).resolve_left c)
theorem sL_Ln {l : Nat → Int} {s : gSp6} (hs : ∀ x, slf so x = -1 ∨ (0 ≤ slf so x ∧ slf so x < (sl : Int))) (hl : sL6 sl l 0) (h : allL (sL6 sl) s) : allL (sL6 sl) (spLn so l s) := by
  have r : allL (sL6 sl) (spR so l s) := by
    unfold spR
    split
    · exact sL_N hs h
    · exact sL_N hs (sL_N hs h)
  unfold spLn spW
  by_cases c : slf so (l 1) = -1
  · rw [if_pos c]; exact allL_L sL_m r (Nat.le_refl _) hl
  · rw [if_neg c]
    have a1 := allL_L (l := mkL (l 0) ((spR so l s).2 : Int) (ldV so (l 2) s.2) (l 3) (spV so l s) (l 5)) (m := (spR so l s).2 + 1) sL_m r (Nat.le_succ _) hl
    exact allL_L (s := (pgL (spR so l s).1 (mkL (l 0) ((spR so l s).2 : Int) (ldV so (l 2) s.2) (l 3) (spV so l s) (l 5)), (spR so l s).2 + 1)) sL_m a1 (Nat.le_refl _) (fun _ => (hs (l 1)).resolve_left c)
theorem sL_B {ls : Nat → Nat → Int} {s : gSp6} (hs : ∀ x, slf so x = -1 ∨ (0 ≤ slf so x ∧ slf so x < (sl : Int))) (h : allL (sL6 sl) s) : ∀ m, (∀ j, j < m → sL6 sl (ls j) 0) → allL (sL6 sl) (spB so ls m s)
  | 0, _ => h
  | m + 1, hl => sL_Ln hs (hl m (Nat.lt_succ_self m)) (sL_B hs h m (fun j hj => hl j (by omega)))
theorem sL_P (hs : ∀ x, slf so x = -1 ∨ (0 ≤ slf so x ∧ slf so x < (sl : Int))) : ∀ b, (∀ c j, c < b → j < R.2.1 c → sL6 sl (R.2.2.1 c j) 0) → allL (sL6 sl) (spP so R nm b)
  | 0, _ => fun b j hb _ => absurd hb (Nat.not_lt_zero b)
  | b + 1, h => sL_B (s := (pgOL R (spP so R nm b).1, (spP so R nm b).2)) hs (allL_OL (sL_P hs b (fun c j hc => h c j (by omega)))) (R.2.1 b) (fun j hj => h b j (Nat.lt_succ_self b) hj)
theorem soO_P (hs : ∀ x, slf so x = -1 ∨ (0 ≤ slf so x ∧ slf so x < (sl : Int))) (h : soO R sl) : soO (spP so R nm R.1).1 sl := fun b i hb hi h17 => sL_P hs R.1 (fun c j hc hj => h c j hc hj) b i hb hi h17
theorem soU_b {U : Nat → Prop} (x : Int) : slf (soU U sl) x = -1 ∨ (0 ≤ slf (soU U sl) x ∧ slf (soU U sl) x < ((sl + cntP U 100 : Nat) : Int)) := by
  unfold slf
  by_cases c : 0 ≤ x ∧ x < 100
  · rw [if_pos c]
    by_cases u : U x.toNat
    · rw [soU_p u]
      have := cntP_s u (show x.toNat < 100 by omega)
      exact Or.inr ⟨by omega, by omega⟩
    · exact Or.inl (soU_0 u)
  · exact Or.inl (if_neg c)
theorem cntP_2 {A B C : Nat → Prop} : ∀ n, (∀ b, b < n → A b → C b) → (∀ b, b < n → B b → C b) → (∀ b, b < n → A b → ¬ B b) → cntP A n + cntP B n ≤ cntP C n
  | 0, _, _, _ => Nat.le_refl _
  | n + 1, h1, h2, h3 => by
    have i := cntP_2 n (fun b hb => h1 b (by omega)) (fun b hb => h2 b (by omega)) (fun b hb => h3 b (by omega))
    show cntP A n + @ite Nat (A n) (Classical.propDecidable (A n)) 1 0 + (cntP B n + @ite Nat (B n) (Classical.propDecidable (B n)) 1 0) ≤ cntP C n + @ite Nat (C n) (Classical.propDecidable (C n)) 1 0
    by_cases a : A n
    · rw [if_pos a, if_neg (h3 n (Nat.lt_succ_self n) a), if_pos (h1 n (Nat.lt_succ_self n) a)]; omega
    · rw [if_neg a]
      by_cases c : B n
      · rw [if_pos c, if_pos (h2 n (Nat.lt_succ_self n) c)]; omega
      · rw [if_neg c]; omega
theorem TA_p {w : Nat → Int32} : ∀ {n : Nat} {T : Nat → Prop} {lf : Nat → Int32} {p : Nat → Nat}, TA J w k n T lf p → ∀ v, T v → ∃ i, i < n ∧ p i = v
  | 0, _, _, _, h, v, hv => absurd hv (h v)
  | n + 1, T, lf, p, ⟨h1, h2, h3⟩, v, hv => by
    by_cases e : v = p 0
    · exact ⟨0, Nat.succ_pos n, e.symm⟩
    · obtain ⟨i, q1, q2⟩ := TA_p h3 v ⟨hv, e⟩
      exact ⟨i + 1, by omega, q2⟩
theorem clN_p : ∀ t, (∀ s, s < t → (lcl J (clN J k p n s) (p (n - 1 - s)) : Int) < k) → ∀ s, s < t → 0 ≤ clN J k p n t (p (n - 1 - s))
  | 0, _, s, hs => absurd hs (Nat.not_lt_zero s)
  | t + 1, h, s, hs => by
    show 0 ≤ @ite Int (p (n - 1 - s) = p (n - 1 - t) ∧ (lcl J (clN J k p n t) (p (n - 1 - t)) : Int) < k) (Classical.propDecidable _) (lcl J (clN J k p n t) (p (n - 1 - t)) : Int) (clN J k p n t (p (n - 1 - s)))
    by_cases c : p (n - 1 - s) = p (n - 1 - t) ∧ (lcl J (clN J k p n t) (p (n - 1 - t)) : Int) < k
    · rw [if_pos c]; omega
    · rw [if_neg c]
      by_cases e : s = t
      · exact absurd ⟨by rw [e], h t (Nat.lt_succ_self t)⟩ c
      · exact clN_p t (fun s hs => h s (by omega)) s (by omega)
theorem col_ok {w : Nat → Int32} {T : Nat → Prop} {lf : Nat → Int32} (hk : 0 ≤ k) (h : TA J w k n T lf p) (hb : ¬ bdN J k p n n) (hv : T v) : 0 ≤ clN J k p n n v ∧ clN J k p n n v < k := by
  obtain ⟨i, h1, h2⟩ := TA_p h v hv
  have q := clN_p (J := J) (k := k) (p := p) (n := n) n (fun s hs => Int.not_le.mp (fun z => hb ⟨s, hs, z⟩)) (n - 1 - i) (by omega)
  rw [show n - 1 - (n - 1 - i) = i by omega, h2] at q
  have q2 := (clN_b (J := J) (p := p) (n := n) hk n v).2
  exact ⟨q, by omega⟩
/-- what is given out -/
def okZ (k : Int) (Z : gPg × (Nat → Int) × Nat) : Prop := qOk Z.1 ∧ (∃ nm, gvI Z.1 nm) ∧ soO Z.1 Z.2.2 ∧ Z.2.2 ≤ 100 ∧ ∀ v, Sd Z.1 false 2000 v → 0 ≤ Z.2.1 v ∧ Z.2.1 v < k
theorem GVr_ok (hk : 0 ≤ k) : ∀ {f t : Nat} {Q : gPg} {nm sl : Nat} {r : Int} {Z : gPg × (Nat → Int) × Nat}, qOk Q → gvI Q nm → soO Q sl → sl + cntP (Sd Q false 2000) 100 ≤ 100 → GVr k dp f t Q nm sl r Z → r ≠ -1 → okZ k Z
  | 0, _, _, _, _, _, _, _, _, _, _, h, hr => absurd h.1 hr
  | f + 1, t, Q, nm, sl, r, Z, hO, hI, hS, hC, ⟨R, n, p, ⟨⟨m, hm⟩, ta⟩, h⟩, hr => by
    obtain ⟨gR, sR⟩ := gvI_m hI hm
    have OR := qOk_MG hO hm
    have sO := soO_MG hS hm
    have cR := cntP_mo (T := Sd R false 2000) (U := Sd Q false 2000) 100 (fun v _ => sR v)
    rcases h with ⟨a1, a2, a3⟩ | ⟨a1, a2, a3, a4⟩ | ⟨a1, a2, a3⟩
    · rw [a3]
      exact ⟨OR, ⟨nm, gR⟩, sO, by show sl ≤ 100; omega, fun v hv => col_ok hk ta a1 hv⟩
    · exact absurd a3 hr
    · obtain ⟨qi1, qi2, qi3, qi4⟩ := spP_i (so := soU (unc R (clN (JJ R) k p n n)) sl) gR
      refine GVr_ok hk (qOk_sp gR.2.1 OR qi3) qi2 (soO_P soU_b (soO_m sO (Nat.le_add_right _ _))) ?_ a3 hr
      have c2 := cntP_2 (A := unc R (clN (JJ R) k p n n)) (B := Sd (spP (soU (unc R (clN (JJ R) k p n n)) sl) R nm R.1).1 false 2000) (C := Sd R false 2000) 100 (fun v _ hu => hu.1) (fun v hv hs => (nw_Sd qi1 hs hv).2) (fun v hv hu hs => by
        have e := (nw_Sd qi1 hs hv).1
        rw [soU_p hu] at e
        omega)
      omega
theorem exl {T : Nat → Prop} (n : Nat) : T n → ∃ c, c ≤ n ∧ T c ∧ ∀ d, d < c → ¬ T d := by
  refine Nat.strongRecOn n (fun n ih h => ?_)
  by_cases q : ∃ d, d < n ∧ T d
  · obtain ⟨d, h1, h2⟩ := q
    obtain ⟨c, a1, a2, a3⟩ := ih d h1 h2
    exact ⟨c, by omega, a2, a3⟩
  · exact ⟨n, Nat.le_refl _, h, fun d hd z => q ⟨d, hd, z⟩⟩
theorem shN_b : ∀ t u, u < t → 0 ≤ shN J t u ∧ shN J t u ≤ (u : Int)
  | 0, u, h => absurd h (Nat.not_lt_zero u)
  | t + 1, u, h => by
    by_cases e : u = t
    · rw [e, shN_e]
      obtain ⟨c, a1, a2, a3⟩ := exl (T := fun c => ∀ u, J t u → shN J t u ≠ (c : Int)) t (fun u hu z => by
        by_cases q : u < t
        · have := (shN_b t u q).2
          omega
        · rw [shN_hi t (by omega)] at z; omega)
      have lc : lcl J (shN J t) t = c := lcl_e ⟨a2, fun d hd => Classical.byContradiction fun z => a3 d hd (fun u hu y => z ⟨u, hu, y⟩)⟩
      rw [lc]
      exact ⟨by omega, by omega⟩
    · rw [shN_n e]; exact shN_b t u (by omega)
theorem fn_run {Z : gPg × (Nat → Int) × Nat} (hk : k ≤ 32) (h : okZ k Z) : rnP (fnP Z) := by
  obtain ⟨⟨g1, g2⟩, ⟨nm, i1, i2, i3, i4, i5, i6⟩, h3, h4, h5⟩ := h
  have cm : ∀ b j f, b < Z.1.1 → j < Z.1.2.1 b → (f = 1 ∨ f = 2 ∨ f = 4) → Z.1.2.2.1 b j f ≤ 1999 → (cM Z.2.1 (Z.1.2.2.1 b j f) = Z.1.2.2.1 b j f ∧ Z.1.2.2.1 b j f < 0) ∨ (0 ≤ Z.1.2.2.1 b j f ∧ 0 ≤ cM Z.2.1 (Z.1.2.2.1 b j f) ∧ cM Z.2.1 (Z.1.2.2.1 b j f) < k) := fun b j f hb hj hf h19 => by
    unfold cM
    by_cases c : 0 ≤ Z.1.2.2.1 b j f
    · rw [if_pos c]
      exact Or.inr ⟨c, h5 _ (Sd_f hb hj hf c (by omega))⟩
    · rw [if_neg c]; exact Or.inl ⟨rfl, by omega⟩
  refine ⟨⟨i6, i5⟩, g1, fun b hb => ?_, ?_⟩
  · obtain ⟨e0, e1, e2, e3⟩ := g2 b hb
    refine ⟨e0, fun j hj => ?_, ?_, e3⟩
    · obtain ⟨r0, r2, r4, r1, r1', r2', r4'⟩ := e1 j hj
      have hj1 : j + 1 < Z.1.2.1 b := hj
      have hj2 : j < Z.1.2.1 b := by omega
      have m2 := cm b j 2 hb hj2 (Or.inr (Or.inl rfl)) r2.2
      have m4 := cm b j 4 hb hj2 (Or.inr (Or.inr rfl)) r4.2
      show (0 ≤ Z.1.2.2.1 b j 0 ∧ Z.1.2.2.1 b j 0 ≤ 18) ∧ (-1 ≤ cM Z.2.1 (Z.1.2.2.1 b j 2) ∧ cM Z.2.1 (Z.1.2.2.1 b j 2) ≤ 99) ∧ (-1 ≤ cM Z.2.1 (Z.1.2.2.1 b j 4) ∧ cM Z.2.1 (Z.1.2.2.1 b j 4) ≤ 99) ∧ (Z.1.2.2.1 b j 0 ≤ 15 ∨ Z.1.2.2.1 b j 0 = 17 → 0 ≤ cM Z.2.1 (Z.1.2.2.1 b j 1) ∧ cM Z.2.1 (Z.1.2.2.1 b j 1) ≤ 99) ∧ (Z.1.2.2.1 b j 0 = 17 ∨ Z.1.2.2.1 b j 0 = 18 → 0 ≤ shL _ (rmL Z.2.1 (Z.1.2.2.1 b j)) 5 ∧ shL _ (rmL Z.2.1 (Z.1.2.2.1 b j)) 5 ≤ 99)
      refine ⟨r0, by omega, by omega, fun z => ?_, fun z => ?_⟩
      · have m1 := cm b j 1 hb hj2 (Or.inl rfl) (r1 z).2
        have := (r1 z).1
        omega
      · rw [show shL (shN (Jn (rmP Z.1 Z.2.1) true 2000) Z.2.2) (rmL Z.2.1 (Z.1.2.2.1 b j)) 5 = shN (Jn (rmP Z.1 Z.2.1) true 2000) Z.2.2 (Z.1.2.2.1 b j 5).toNat from shL_5 (l := rmL Z.2.1 (Z.1.2.2.1 b j)) z]
        show 0 ≤ shN _ Z.2.2 (Z.1.2.2.1 b j 5).toNat ∧ shN _ Z.2.2 (Z.1.2.2.1 b j 5).toNat ≤ 99
        have q := h3 b j hb hj2 z
        have q2 := shN_b (J := Jn (rmP Z.1 Z.2.1) true 2000) Z.2.2 (Z.1.2.2.1 b j 5).toNat (by omega)
        omega
    · obtain ⟨d1, d2, d4, d5⟩ := e2
      have hj2 : Z.1.2.1 b - 1 < Z.1.2.1 b := by omega
      have m2 := cm b _ 2 hb hj2 (Or.inr (Or.inl rfl)) d2.2
      show cM Z.2.1 (Z.1.2.2.1 b (Z.1.2.1 b - 1) 1) = -1 ∧ (-1 ≤ cM Z.2.1 (Z.1.2.2.1 b (Z.1.2.1 b - 1) 2) ∧ cM Z.2.1 (Z.1.2.2.1 b (Z.1.2.1 b - 1) 2) ≤ 99) ∧ cM Z.2.1 (Z.1.2.2.1 b (Z.1.2.1 b - 1) 4) = -1 ∧ (Z.1.2.2.1 b (Z.1.2.1 b - 1) 0 = 19 → cM Z.2.1 (Z.1.2.2.1 b (Z.1.2.1 b - 1) 2) = -1)
      rw [d1, d4]
      refine ⟨if_neg (by decide), by omega, if_neg (by decide), fun z => ?_⟩
      rw [d5 z]; exact if_neg (by decide)
  · show fsm Z.1.2.1 Z.1.1 ≤ 920
    unfold lsm at i4
    omega
theorem qOk_rm {Z : gPg × (Nat → Int) × Nat} (hk : k ≤ 32) (h : okZ k Z) : qOk (rmP Z.1 Z.2.1) := by
  obtain ⟨⟨g1, g2⟩, -, -, -, h5⟩ := h
  have cm : ∀ b j f, b < Z.1.1 → j < Z.1.2.1 b → (f = 1 ∨ f = 2 ∨ f = 4) → Z.1.2.2.1 b j f ≤ 1999 → (cM Z.2.1 (Z.1.2.2.1 b j f) = Z.1.2.2.1 b j f ∧ Z.1.2.2.1 b j f < 0) ∨ (0 ≤ Z.1.2.2.1 b j f ∧ 0 ≤ cM Z.2.1 (Z.1.2.2.1 b j f) ∧ cM Z.2.1 (Z.1.2.2.1 b j f) < k) := fun b j f hb hj hf h19 => by
    unfold cM
    by_cases c : 0 ≤ Z.1.2.2.1 b j f
    · rw [if_pos c]
      exact Or.inr ⟨c, h5 _ (Sd_f hb hj hf c (by omega))⟩
    · rw [if_neg c]; exact Or.inl ⟨rfl, by omega⟩
  refine ⟨g1, fun b hb => ?_⟩
  obtain ⟨e0, e1, e2, e3⟩ := g2 b hb
  refine ⟨e0, fun j hj => ?_, ?_, e3⟩
  · obtain ⟨r0, r2, r4, r1, r1', r2', r4'⟩ := e1 j hj
    have hj2 : j < Z.1.2.1 b := by
      have hj' : j + 1 < Z.1.2.1 b := hj
      omega
    have m2 := cm b j 2 hb hj2 (Or.inr (Or.inl rfl)) r2.2
    have m4 := cm b j 4 hb hj2 (Or.inr (Or.inr rfl)) r4.2
    show (0 ≤ Z.1.2.2.1 b j 0 ∧ Z.1.2.2.1 b j 0 ≤ 18) ∧ (-1 ≤ cM Z.2.1 (Z.1.2.2.1 b j 2) ∧ cM Z.2.1 (Z.1.2.2.1 b j 2) ≤ 1999) ∧ (-1 ≤ cM Z.2.1 (Z.1.2.2.1 b j 4) ∧ cM Z.2.1 (Z.1.2.2.1 b j 4) ≤ 1999) ∧ (Z.1.2.2.1 b j 0 ≤ 15 ∨ Z.1.2.2.1 b j 0 = 17 → 0 ≤ cM Z.2.1 (Z.1.2.2.1 b j 1) ∧ cM Z.2.1 (Z.1.2.2.1 b j 1) ≤ 1999) ∧ (Z.1.2.2.1 b j 0 = 16 ∨ Z.1.2.2.1 b j 0 = 18 → cM Z.2.1 (Z.1.2.2.1 b j 1) = -1) ∧ (Z.1.2.2.1 b j 0 = 15 ∨ Z.1.2.2.1 b j 0 = 17 → cM Z.2.1 (Z.1.2.2.1 b j 2) = -1) ∧ (14 ≤ Z.1.2.2.1 b j 0 → cM Z.2.1 (Z.1.2.2.1 b j 4) = -1)
    refine ⟨r0, by omega, by omega, fun z => ?_, fun z => ?_, fun z => ?_, fun z => ?_⟩
    · have m1 := cm b j 1 hb hj2 (Or.inl rfl) (r1 z).2
      have := (r1 z).1
      omega
    · rw [r1' z]; exact if_neg (by decide)
    · rw [r2' z]; exact if_neg (by decide)
    · rw [r4' z]; exact if_neg (by decide)
  · obtain ⟨d1, d2, d4, d5⟩ := e2
    have hj2 : Z.1.2.1 b - 1 < Z.1.2.1 b := by omega
    have m2 := cm b _ 2 hb hj2 (Or.inr (Or.inl rfl)) d2.2
    show cM Z.2.1 (Z.1.2.2.1 b (Z.1.2.1 b - 1) 1) = -1 ∧ (-1 ≤ cM Z.2.1 (Z.1.2.2.1 b (Z.1.2.1 b - 1) 2) ∧ cM Z.2.1 (Z.1.2.2.1 b (Z.1.2.1 b - 1) 2) ≤ 1999) ∧ cM Z.2.1 (Z.1.2.2.1 b (Z.1.2.1 b - 1) 4) = -1 ∧ (Z.1.2.2.1 b (Z.1.2.1 b - 1) 0 = 19 → cM Z.2.1 (Z.1.2.2.1 b (Z.1.2.1 b - 1) 2) = -1)
    rw [d1, d4]
    refine ⟨if_neg (by decide), by omega, if_neg (by decide), fun z => ?_⟩
    rw [d5 z]; exact if_neg (by decide)
theorem soO_Z (hb : ∀ b, b < Q.1 → blC (Q.2.1 b) (Q.2.2.1 b) (Q.2.2.2 b)) : soO (pgZ Q) 0 := fun b i hb1 hi h17 => by
  have old : ∀ b j, b < Q.1 → j < Q.2.1 b → ¬ (Q.2.2.1 b j 0 = 17 ∨ Q.2.2.1 b j 0 = 18) := fun b j h1 h2 => by
    obtain ⟨c0, c1, c2, c3⟩ := hb b h1
    by_cases e : j + 1 < Q.2.1 b
    · have := (c1 j e).1; omega
    · rw [show Q.2.1 b - 1 = j by omega] at c3
      rcases c3 with c3 | c3 | c3 <;> omega
  have hi2 : i < if b = 0 then cntP (lz Q) 100 + Q.2.1 0 else Q.2.1 b := hi
  have h17' : (if b = 0 then (if i < cntP (lz Q) 100 then mkL 14 (nthT (lz Q) 100 i : Int) (-1) 0 (-1) 0 else Q.2.2.1 0 (i - cntP (lz Q) 100)) else Q.2.2.1 b i) 0 = 17 ∨ (if b = 0 then (if i < cntP (lz Q) 100 then mkL 14 (nthT (lz Q) 100 i : Int) (-1) 0 (-1) 0 else Q.2.2.1 0 (i - cntP (lz Q) 100)) else Q.2.2.1 b i) 0 = 18 := h17
  have hb2 : b < Q.1 := hb1
  by_cases e : b = 0
  · rw [if_pos e] at hi2 h17'
    by_cases g : i < cntP (lz Q) 100
    · rw [if_pos g] at h17'
      rcases h17' with z | z
      · exact absurd (show (14 : Int) = 17 from z) (by decide)
      · exact absurd (show (14 : Int) = 18 from z) (by decide)
    · rw [if_neg g] at h17'; exact absurd h17' (old 0 _ (by omega) (by omega))
  · rw [if_neg e] at hi2 h17'
    exact absurd h17' (old b i hb2 hi2)
/-- of a program that was read -/
theorem GVr_okP {B : Int → Int} {n : Int} {f t : Nat} {r : Int} {Z : gPg × (Nat → Int) × Nat} (hk : 0 ≤ k) (hB : bOk B n) (hP : okP B n Q) (h : GVr k dp f t (pgZ Q) 100 0 r Z) (hr : r ≠ -1) : okZ k Z := by
  obtain ⟨w1, w2, w3, w4, w5, w6⟩ := okP_f hB hP
  refine GVr_ok hk (qZ ⟨w5, fun b hb => blC_2 (w6 b hb)⟩ w3) (gvI_Z hB hP) (soO_Z w6) ?_ h hr
  have := cntP_le (T := Sd (pgZ Q) false 2000) 100
  omega
/-- a program that was read can be run -/
theorem rnP_P {B : Int → Int} {n : Int} (hB : bOk B n) (hP : okP B n Q) : rnP Q := by
  obtain ⟨w1, w2, w3, w4, w5, w6⟩ := okP_f hB hP
  refine ⟨⟨w3, w2⟩, w5, fun b hb => ?_, by omega⟩
  obtain ⟨c0, c1, c2, c3⟩ := w6 b hb
  refine ⟨c0, fun j hj => ?_, c2, c3⟩
  obtain ⟨r0, r2, r4, r1, -⟩ := c1 j hj
  exact ⟨by omega, r2, r4, fun z => r1 (by omega), fun z => by omega⟩
end ZOK
