/-! loads and stores put into a program, in its middle -/
section SPM
variable {so : Nat → Int} {R Q : gPg} {S T : gSp6} {b i j d : Nat} {l lc : Nat → Int}
/-- lines 0 to i of block b done: S; the rest as it was -/
def mid (S : gSp6) (R : gPg) (b i : Nat) : gPg := (R.1, fun d => if d < b then S.1.2.1 d else if d = b then S.1.2.1 b + (R.2.1 b - i) else R.2.1 d, fun d j => if d < b then S.1.2.2.1 d j else if d = b then (if j < S.1.2.1 b then S.1.2.2.1 b j else R.2.2.1 b (j - S.1.2.1 b + i)) else R.2.2.1 d j, R.2.2.2)
/-- lines that agree within what counts -/
def pgAq (Q R : gPg) : Prop := R.1 = Q.1 ∧ ∀ i, i < Q.1 → R.2.1 i = Q.2.1 i ∧ R.2.2.2 i = Q.2.2.2 i ∧ ∀ j, j < Q.2.1 i → R.2.2.1 i j = Q.2.2.1 i j
theorem mid_len : (mid S R b i).2.1 b = S.1.2.1 b + (R.2.1 b - i) := by
  show (if b < b then S.1.2.1 b else if b = b then S.1.2.1 b + (R.2.1 b - i) else R.2.1 b) = _
  rw [if_neg (Nat.lt_irrefl b), if_pos rfl]
theorem mid_cur : (mid S R b i).2.2.1 b (S.1.2.1 b) = R.2.2.1 b i := by
  show (if b < b then S.1.2.2.1 b (S.1.2.1 b) else if b = b then (if S.1.2.1 b < S.1.2.1 b then S.1.2.2.1 b (S.1.2.1 b) else R.2.2.1 b (S.1.2.1 b - S.1.2.1 b + i)) else R.2.2.1 b (S.1.2.1 b)) = _
  rw [if_neg (Nat.lt_irrefl b), if_pos rfl, if_neg (Nat.lt_irrefl _), show S.1.2.1 b - S.1.2.1 b + i = i by omega]
/-- pgL in the last block -/
theorem L_len (h : S.1.1 = b + 1) : (pgL S.1 l).2.1 b = S.1.2.1 b + 1 := by
  show (if b + 1 = S.1.1 then S.1.2.1 b + 1 else S.1.2.1 b) = _
  rw [if_pos h.symm]
theorem L_oth (h : S.1.1 = b + 1) (hd : d < b) : (pgL S.1 l).2.1 d = S.1.2.1 d ∧ (pgL S.1 l).2.2.1 d = S.1.2.2.1 d := by
  refine ⟨?_, funext fun j => ?_⟩
  · show (if d + 1 = S.1.1 then S.1.2.1 d + 1 else S.1.2.1 d) = _
    rw [if_neg (by omega)]
  · show (if d + 1 = S.1.1 ∧ j = S.1.2.1 d then l else S.1.2.2.1 d j) = _
    rw [if_neg (fun z => by omega)]
theorem L_ln (h : S.1.1 = b + 1) : (pgL S.1 l).2.2.1 b j = if j = S.1.2.1 b then l else S.1.2.2.1 b j := by
  show (if b + 1 = S.1.1 ∧ j = S.1.2.1 b then l else S.1.2.2.1 b j) = _
  by_cases c : j = S.1.2.1 b
  · rw [if_pos ⟨h.symm, c⟩, if_pos c]
  · rw [if_neg (fun z => c z.2), if_neg c]
/-- a line put in front of the current one -/
theorem mid_ins {n : Nat} (h : S.1.1 = b + 1) (hi : i < R.2.1 b) (hb : b < R.1) : pgAq (pgIns (pgSt (mid S R b i) b (S.1.2.1 b) lc) b (S.1.2.1 b) l) (pgSt (mid (pgL S.1 l, n) R b i) b (S.1.2.1 b + 1) lc) := by
  refine ⟨rfl, fun d hd => ?_⟩
  have e0 : (pgL S.1 l).2.1 b = S.1.2.1 b + 1 := L_len h
  rcases Nat.lt_trichotomy d b with q | q | q
  · obtain ⟨o1, o2⟩ := L_oth (l := l) h q
    refine ⟨?_, rfl, fun j hj => ?_⟩
    · show (if d < b then (pgL S.1 l).2.1 d else _) = (if d = b then (if d < b then S.1.2.1 d else _) + 1 else (if d < b then S.1.2.1 d else _))
      rw [if_pos q, if_neg (by omega), if_pos q, o1]
    · show (if d = b ∧ j = S.1.2.1 b + 1 then lc else (if d < b then (pgL S.1 l).2.2.1 d j else _)) = (if d = b then _ else (if d = b ∧ j = S.1.2.1 b then lc else (if d < b then S.1.2.2.1 d j else _)))
      rw [if_neg (fun z => by omega), if_pos q, if_neg (by omega), if_neg (fun z => by omega), if_pos q, o2]
  · subst q
    refine ⟨?_, rfl, fun j hj => ?_⟩
    · show (if d < d then _ else if d = d then (pgL S.1 l).2.1 d + (R.2.1 d - i) else _) = (if d = d then (if d < d then _ else if d = d then S.1.2.1 d + (R.2.1 d - i) else _) + 1 else _)
      rw [if_neg (Nat.lt_irrefl d), if_pos rfl, if_pos rfl, if_neg (Nat.lt_irrefl d), if_pos rfl, e0]
      omega
    · show (if d = d ∧ j = S.1.2.1 d + 1 then lc else (if d < d then _ else if d = d then (if j < (pgL S.1 l).2.1 d then (pgL S.1 l).2.2.1 d j else R.2.2.1 d (j - (pgL S.1 l).2.1 d + i)) else _)) = (if d = d then (if j < S.1.2.1 d then (if d = d ∧ j = S.1.2.1 d then lc else (if d < d then _ else if d = d then (if j < S.1.2.1 d then S.1.2.2.1 d j else R.2.2.1 d (j - S.1.2.1 d + i)) else _)) else if j = S.1.2.1 d then l else (if d = d ∧ j - 1 = S.1.2.1 d then lc else (if d < d then _ else if d = d then (if j - 1 < S.1.2.1 d then S.1.2.2.1 d (j - 1) else R.2.2.1 d (j - 1 - S.1.2.1 d + i)) else _))) else _)
      simp only [if_neg (Nat.lt_irrefl d), if_true, true_and, e0]
      rw [L_ln h]
      by_cases c1 : j < S.1.2.1 d
      · rw [if_neg (by omega), if_pos (by omega), if_neg (by omega), if_pos c1, if_neg (by omega), if_pos c1]
      · by_cases c2 : j = S.1.2.1 d
        · rw [if_neg (by omega), if_pos (by omega), if_pos c2, if_neg c1, if_pos c2]
        · have a4 : ¬ j < S.1.2.1 d + 1 := by omega
          by_cases c3 : j = S.1.2.1 d + 1
          · have a3 : j - 1 = S.1.2.1 d := by omega
            simp only [if_neg c1, if_neg c2, if_pos c3, if_pos a3, if_neg a4]
          · have a3 : ¬ j - 1 = S.1.2.1 d := by omega
            have a5 : ¬ j - 1 < S.1.2.1 d := by omega
            have e9 : j - (S.1.2.1 d + 1) + i = j - 1 - S.1.2.1 d + i := by omega
            simp only [if_neg c1, if_neg c2, if_neg c3, if_neg a3, if_neg a4, if_neg a5, e9]
  · refine ⟨?_, rfl, fun j hj => ?_⟩
    · show (if d < b then _ else if d = b then _ else R.2.1 d) = (if d = b then _ else (if d < b then _ else if d = b then _ else R.2.1 d))
      rw [if_neg (by omega), if_neg (by omega), if_neg (by omega), if_neg (by omega), if_neg (by omega)]
    · show (if d = b ∧ j = S.1.2.1 b + 1 then lc else (if d < b then _ else if d = b then _ else R.2.2.1 d j)) = (if d = b then _ else (if d = b ∧ j = S.1.2.1 b then lc else (if d < b then _ else if d = b then _ else R.2.2.1 d j)))
      rw [if_neg (fun z => by omega), if_neg (by omega), if_neg (by omega), if_neg (by omega), if_neg (fun z => by omega), if_neg (by omega), if_neg (by omega)]
/-- the current line done -/
theorem mid_nxt {n : Nat} (h : S.1.1 = b + 1) (hi : i < R.2.1 b) : pgAq (pgSt (mid S R b i) b (S.1.2.1 b) l) (mid (pgL S.1 l, n) R b (i + 1)) := by
  refine ⟨rfl, fun d hd => ?_⟩
  have e0 : (pgL S.1 l).2.1 b = S.1.2.1 b + 1 := L_len h
  rcases Nat.lt_trichotomy d b with q | q | q
  · obtain ⟨o1, o2⟩ := L_oth (l := l) h q
    refine ⟨?_, rfl, fun j hj => ?_⟩
    · show (if d < b then (pgL S.1 l).2.1 d else _) = (if d < b then S.1.2.1 d else _)
      rw [if_pos q, if_pos q, o1]
    · show (if d < b then (pgL S.1 l).2.2.1 d j else _) = (if d = b ∧ j = S.1.2.1 b then l else (if d < b then S.1.2.2.1 d j else _))
      rw [if_pos q, if_neg (fun z => by omega), if_pos q, o2]
  · subst q
    refine ⟨?_, rfl, fun j hj => ?_⟩
    · show (if d < d then _ else if d = d then (pgL S.1 l).2.1 d + (R.2.1 d - (i + 1)) else _) = (if d < d then _ else if d = d then S.1.2.1 d + (R.2.1 d - i) else _)
      rw [if_neg (Nat.lt_irrefl d), if_pos rfl, if_neg (Nat.lt_irrefl d), if_pos rfl, e0]
      omega
    · show (if d < d then _ else if d = d then (if j < (pgL S.1 l).2.1 d then (pgL S.1 l).2.2.1 d j else R.2.2.1 d (j - (pgL S.1 l).2.1 d + (i + 1))) else _) = (if d = d ∧ j = S.1.2.1 d then l else (if d < d then _ else if d = d then (if j < S.1.2.1 d then S.1.2.2.1 d j else R.2.2.1 d (j - S.1.2.1 d + i)) else _))
      simp only [if_neg (Nat.lt_irrefl d), if_true, true_and, e0]
      rw [L_ln h]
      by_cases c1 : j < S.1.2.1 d
      · rw [if_pos (by omega), if_neg (by omega), if_neg (by omega), if_pos c1]
      · by_cases c2 : j = S.1.2.1 d
        · rw [if_pos (by omega), if_pos c2, if_pos c2]
        · rw [if_neg (by omega), if_neg c2, if_neg c1, show j - (S.1.2.1 d + 1) + (i + 1) = j - S.1.2.1 d + i by omega]
  · refine ⟨?_, rfl, fun j hj => ?_⟩
    · show (if d < b then _ else if d = b then _ else R.2.1 d) = (if d < b then _ else if d = b then _ else R.2.1 d)
      rw [if_neg (by omega), if_neg (by omega), if_neg (by omega), if_neg (by omega)]
    · show (if d < b then _ else if d = b then _ else R.2.2.1 d j) = (if d = b ∧ j = S.1.2.1 b then l else (if d < b then _ else if d = b then _ else R.2.2.1 d j))
      rw [if_neg (by omega), if_neg (by omega), if_neg (fun z => by omega), if_neg (by omega), if_neg (by omega)]
/-- a line behind the current one, which is done (a store) -/
theorem mid_sto {n : Nat} (h : S.1.1 = b + 1) (hi : i + 1 < R.2.1 b) : pgAq (pgIns (pgSt (mid S R b i) b (S.1.2.1 b) lc) b (S.1.2.1 b + 1) l) (mid (pgL (pgL S.1 lc) l, n) R b (i + 1)) := by
  have h1 : (pgL S.1 lc, n).1.1 = b + 1 := h
  have e1 : (pgL S.1 lc).2.1 b = S.1.2.1 b + 1 := L_len h
  have e2 : (pgL (pgL S.1 lc) l).2.1 b = S.1.2.1 b + 2 := by rw [L_len (S := (pgL S.1 lc, n)) h1, e1]
  refine ⟨rfl, fun d hd => ?_⟩
  rcases Nat.lt_trichotomy d b with q | q | q
  · obtain ⟨o1, o2⟩ := L_oth (l := lc) h q
    obtain ⟨o3, o4⟩ := L_oth (S := (pgL S.1 lc, n)) (l := l) h1 q
    refine ⟨?_, rfl, fun j hj => ?_⟩
    · show (if d < b then (pgL (pgL S.1 lc) l).2.1 d else _) = (if d = b then (if d < b then S.1.2.1 d else _) + 1 else (if d < b then S.1.2.1 d else _))
      rw [if_pos q, if_neg (by omega), if_pos q, o3, o1]
    · show (if d < b then (pgL (pgL S.1 lc) l).2.2.1 d j else _) = (if d = b then _ else (if d = b ∧ j = S.1.2.1 b then lc else (if d < b then S.1.2.2.1 d j else _)))
      rw [if_pos q, if_neg (by omega), if_neg (fun z => by omega), if_pos q, o4, o2]
  · subst q
    refine ⟨?_, rfl, fun j hj => ?_⟩
    · show (if d < d then _ else if d = d then (pgL (pgL S.1 lc) l).2.1 d + (R.2.1 d - (i + 1)) else _) = (if d = d then (if d < d then _ else if d = d then S.1.2.1 d + (R.2.1 d - i) else _) + 1 else _)
      rw [if_neg (Nat.lt_irrefl d), if_pos rfl, if_pos rfl, if_neg (Nat.lt_irrefl d), if_pos rfl, e2]
      omega
    · show (if d < d then _ else if d = d then (if j < (pgL (pgL S.1 lc) l).2.1 d then (pgL (pgL S.1 lc) l).2.2.1 d j else R.2.2.1 d (j - (pgL (pgL S.1 lc) l).2.1 d + (i + 1))) else _) = (if d = d then (if j < S.1.2.1 d + 1 then (if d = d ∧ j = S.1.2.1 d then lc else (if d < d then _ else if d = d then (if j < S.1.2.1 d then S.1.2.2.1 d j else R.2.2.1 d (j - S.1.2.1 d + i)) else _)) else if j = S.1.2.1 d + 1 then l else (if d = d ∧ j - 1 = S.1.2.1 d then lc else (if d < d then _ else if d = d then (if j - 1 < S.1.2.1 d then S.1.2.2.1 d (j - 1) else R.2.2.1 d (j - 1 - S.1.2.1 d + i)) else _))) else _)
      simp only [if_neg (Nat.lt_irrefl d), if_true, true_and, e2]
      rw [L_ln (S := (pgL S.1 lc, n)) h1, e1, L_ln h]
      by_cases c1 : j < S.1.2.1 d
      · rw [if_pos (by omega), if_neg (by omega), if_neg (by omega), if_pos (by omega), if_neg (by omega), if_pos c1]
      · by_cases c2 : j = S.1.2.1 d
        · rw [if_pos (by omega), if_neg (by omega), if_pos c2, if_pos (by omega), if_pos c2]
        · by_cases c3 : j = S.1.2.1 d + 1
          · rw [if_pos (by omega), if_pos c3, if_neg (by omega), if_pos c3]
          · rw [if_neg (by omega), if_neg (by omega), if_neg c3, if_neg (by omega), if_neg (by omega), show j - (S.1.2.1 d + 2) + (i + 1) = j - 1 - S.1.2.1 d + i by omega]
  · refine ⟨?_, rfl, fun j hj => ?_⟩
    · show (if d < b then _ else if d = b then _ else R.2.1 d) = (if d = b then _ else (if d < b then _ else if d = b then _ else R.2.1 d))
      rw [if_neg (by omega), if_neg (by omega), if_neg (by omega), if_neg (by omega), if_neg (by omega)]
    · show (if d < b then _ else if d = b then _ else R.2.2.1 d j) = (if d = b then _ else (if d = b ∧ j = S.1.2.1 b then lc else (if d < b then _ else if d = b then _ else R.2.2.1 d j)))
      rw [if_neg (by omega), if_neg (by omega), if_neg (by omega), if_neg (fun z => by omega), if_neg (by omega), if_neg (by omega)]
theorem rfX_A {γ el : Nat → Nat → Nat} {F : Nat → va_E} {c : Nat} (h : rfX γ el F c Q) (ha : pgAq Q R) : rfX γ el F c R := rfX_c h ha.1 ha.2
end SPM
section SPN
variable {γ el : Nat → Nat → Nat} {F : Nat → va_E} {c : Nat} {Q R : gPg} {so : Nat → Int} {l l2 : Nat → Int} {S : gSp6} {e : va_E} {r : Bool} {b i j : Nat}
theorem lnX_6 (h : lnX r l e) (h6 : ∀ f, f < 6 → l2 f = l f) : lnX r l2 e := by
  unfold lnX at h ⊢
  have e0 := h6 0 (by decide)
  have e1 := h6 1 (by decide)
  have e2 := h6 2 (by decide)
  have e3 := h6 3 (by decide)
  have e4 := h6 4 (by decide)
  have e5 := h6 5 (by decide)
  cases r with
  | false =>
    rw [if_neg (by decide)] at h ⊢
    unfold edR at h ⊢
    rw [e0, e2, e3]; exact h
  | true =>
    rw [if_pos rfl] at h ⊢
    unfold rwF at h ⊢
    rw [e0, e1, e2, e3, e4, e5]; exact h
theorem rfX_6 (h : rfX γ el F c Q) (h1 : R.1 = Q.1) (h2 : ∀ i, i < Q.1 → R.2.1 i = Q.2.1 i ∧ R.2.2.2 i = Q.2.2.2 i ∧ ∀ j, j < Q.2.1 i → ∀ f, f < 6 → R.2.2.1 i j f = Q.2.2.1 i j f) : rfX γ el F c R := by
  obtain ⟨a1, a2, a3⟩ := h
  refine ⟨by rw [h1]; exact a1, fun i hi => ?_, fun i hi k hk => ?_⟩
  · rw [h1] at hi
    obtain ⟨e1, e2, e3⟩ := h2 i hi
    have n := (a2 i hi).1
    rw [e1, e2, e3 _ (by omega) 0 (by decide)]
    exact a2 i hi
  · rw [h1] at hi
    obtain ⟨e1, e2, e3⟩ := h2 i hi
    have n := (a2 i hi).1
    have q := a3 i hi k hk
    unfold lnQ rwB at q ⊢
    rw [e1]
    exact lnX_6 q (fun f hf => e3 k (by omega) f hf)
theorem mk6 {f : Nat} (hf : f < 6) : mkL (l 0) (l 1) (l 2) (l 3) (l 4) (l 5) f = l f := by
  match f, hf with
  | 0, _ => rfl
  | 1, _ => rfl
  | 2, _ => rfl
  | 3, _ => rfl
  | 4, _ => rfl
  | 5, _ => rfl
/-- the current line as it is -/
theorem rfX_cur (h : rfX γ el F c Q) (hl : ∀ f, f < 6 → l f = Q.2.2.1 b j f) : rfX γ el F c (pgSt Q b j l) := rfX_6 h rfl (fun i hi => ⟨rfl, rfl, fun k hk f hf => by
  show (if i = b ∧ k = j then l else Q.2.2.1 i k) f = Q.2.2.1 i k f
  by_cases e : i = b ∧ k = j
  · rw [if_pos e, hl f hf, e.1, e.2]
  · rw [if_neg e]⟩)
theorem pgSt_2 : pgSt (pgSt Q b j l) b j l2 = pgSt Q b j l2 := by
  unfold pgSt
  congr 3
  funext d k
  by_cases e : d = b ∧ k = j
  · rw [if_pos e, if_pos e]
  · rw [if_neg e, if_neg e]; exact if_neg e
theorem pgSt_l : (pgSt Q b j l).2.2.1 b j = l := if_pos ⟨rfl, rfl⟩
theorem ldN_b {x : Int} (h : S.1.1 = b + 1) : (ldN so x S).1.1 = b + 1 := by
  unfold ldN
  split
  · exact h
  · exact h
theorem spR_b (h : S.1.1 = b + 1) : (spR so l S).1.1 = b + 1 := by
  unfold spR
  split
  · exact ldN_b h
  · exact ldN_b (ldN_b h)
end SPN
