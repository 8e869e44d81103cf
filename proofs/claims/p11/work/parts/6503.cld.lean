/-! giving out, over programs: taking a graph apart, putting it together -/
section CLD
variable {T : Nat → Prop} {w lf : Nat → Int32} {J : Nat → Nat → Prop} {k : Int} {v u n m b : Nat} {p q : Nat → Nat} {col : Nat → Int}
/-- r costs less than b -/
def chp (w lf : Nat → Int32) (r b : Nat) : Prop := (lg_cmp ((w r).toInt64 * (lf b).toInt64) ((w b).toInt64 * (lf r).toInt64)).toInt < 0
/-- the cheapest of those below n, temporaries last -/
noncomputable def bsF (T : Nat → Prop) (w lf : Nat → Int32) : Nat → Option Nat
  | 0 => none
  | n + 1 => @ite (Option Nat) (T n) (Classical.propDecidable _) ((bsF T w lf n).elim (some n) (fun b => @ite (Option Nat) ((100 ≤ n ∧ b < 100) ∨ ¬ chp w lf n b) (Classical.propDecidable _) (some b) (some n))) (bsF T w lf n)
theorem bsF_0 (h : ¬ T n) : bsF T w lf (n + 1) = bsF T w lf n := if_neg h
theorem bsF_1 (h : T n) (h2 : bsF T w lf n = none) : bsF T w lf (n + 1) = some n := by
  show @ite (Option Nat) (T n) (Classical.propDecidable _) ((bsF T w lf n).elim (some n) _) _ = _
  rw [if_pos h, h2]; rfl
theorem bsF_2 (h : T n) (h2 : bsF T w lf n = some b) (h3 : (100 ≤ n ∧ b < 100) ∨ ¬ chp w lf n b) : bsF T w lf (n + 1) = some b := by
  show @ite (Option Nat) (T n) (Classical.propDecidable _) ((bsF T w lf n).elim (some n) _) _ = _
  rw [if_pos h, h2]
  exact if_pos h3
theorem bsF_3 (h : T n) (h2 : bsF T w lf n = some b) (h3 : ¬ ((100 ≤ n ∧ b < 100) ∨ ¬ chp w lf n b)) : bsF T w lf (n + 1) = some n := by
  show @ite (Option Nat) (T n) (Classical.propDecidable _) ((bsF T w lf n).elim (some n) _) _ = _
  rw [if_pos h, h2]
  exact if_neg h3
theorem bsF_k : ∀ d, (∀ u, n ≤ u → u < n + d → ¬ T u) → bsF T w lf (n + d) = bsF T w lf n
  | 0, _ => rfl
  | d + 1, h => by
    rw [show n + (d + 1) = (n + d) + 1 by omega, bsF_0 (h (n + d) (by omega) (by omega))]
    exact bsF_k d (fun u h1 h2 => h u h1 (by omega))
theorem bsF_s (hm : n ≤ m) (h : ∀ u, n ≤ u → u < m → ¬ T u) : bsF T w lf m = bsF T w lf n := by
  have := bsF_k (T := T) (w := w) (lf := lf) (n := n) (m - n) (fun u h1 h2 => h u h1 (by omega))
  rwa [show n + (m - n) = m by omega] at this
theorem bsF_t (hb : b < 100) (h2 : bsF T w lf n = some b) (h : ∀ u, n ≤ u → T u → 100 ≤ u) : ∀ d, bsF T w lf (n + d) = some b
  | 0 => h2
  | d + 1 => by
    have i := bsF_t hb h2 h d
    by_cases c : T (n + d)
    · exact bsF_2 c i (Or.inl ⟨h _ (Nat.le_add_right n d) c, hb⟩)
    · exact (bsF_0 c).trans i
/-- v is the next to be taken -/
def isNx (T : Nat → Prop) (w lf : Nat → Int32) (k : Int) (v : Nat) : Prop := (T v ∧ (lf v).toInt < k ∧ ∀ u, u < v → T u → k ≤ (lf u).toInt) ∨ ((∀ u, T u → k ≤ (lf u).toInt) ∧ bsF T w lf 2000 = some v)
theorem isNx_u (h : isNx T w lf k v) (h2 : isNx T w lf k u) : v = u := by
  rcases h with ⟨a1, a2, a3⟩ | ⟨a1, a2⟩
  · rcases h2 with ⟨b1, b2, b3⟩ | ⟨b1, b2⟩
    · rcases Nat.lt_trichotomy v u with c | c | c
      · have := b3 v c a1; omega
      · exact c
      · have := a3 u c b1; omega
    · have := b1 v a1; omega
  · rcases h2 with ⟨b1, b2, b3⟩ | ⟨b1, b2⟩
    · have := a1 u b1; omega
    · rw [a2] at b2; exact Option.some.inj b2
noncomputable def lfD (J : Nat → Nat → Prop) (lf : Nat → Int32) (v : Nat) : Nat → Int32 := fun q => @ite Int32 (J v q) (Classical.propDecidable _) (lf q - 1) (lf q)
/-- p is the row in which n are taken, until none is left -/
def TA (J : Nat → Nat → Prop) (w : Nat → Int32) (k : Int) : Nat → (Nat → Prop) → (Nat → Int32) → (Nat → Nat) → Prop
  | 0, T, _, _ => ∀ v, ¬ T v
  | n + 1, T, lf, p => T (p 0) ∧ isNx T w lf k (p 0) ∧ TA J w k n (fun u => T u ∧ u ≠ p 0) (lfD J lf (p 0)) (fun i => p (i + 1))
theorem TA_u : ∀ {n m : Nat} {T : Nat → Prop} {lf : Nat → Int32} {p q : Nat → Nat}, TA J w k n T lf p → TA J w k m T lf q → n = m ∧ ∀ i, i < n → p i = q i
  | 0, 0, _, _, _, _, _, _ => ⟨rfl, fun i hi => absurd hi (Nat.not_lt_zero i)⟩
  | 0, _ + 1, _, _, _, q, h, h2 => absurd h2.1 (h (q 0))
  | _ + 1, 0, _, _, p, _, h, h2 => absurd h.1 (h2 (p 0))
  | n + 1, m + 1, T, lf, p, q, ⟨_, h1, h2⟩, ⟨_, g1, g2⟩ => by
    have e := isNx_u h1 g1
    rw [← e] at g2
    obtain ⟨r1, r2⟩ := TA_u h2 g2
    refine ⟨by omega, fun i hi => ?_⟩
    cases i with
    | zero => exact e
    | succ i => exact r2 i (by omega)
/-- c is the least colour that none around v has -/
def isLc (J : Nat → Nat → Prop) (col : Nat → Int) (v c : Nat) : Prop := (∀ u, J v u → col u ≠ (c : Int)) ∧ ∀ d, d < c → ∃ u, J v u ∧ col u = (d : Int)
theorem isLc_u {c d : Nat} (h : isLc J col v c) (h2 : isLc J col v d) : c = d := by
  rcases Nat.lt_trichotomy c d with q | q | q
  · obtain ⟨u, h3, h4⟩ := h2.2 c q
    exact absurd h4 (h.1 u h3)
  · exact q
  · obtain ⟨u, h3, h4⟩ := h.2 d q
    exact absurd h4 (h2.1 u h3)
noncomputable def lcl (J : Nat → Nat → Prop) (col : Nat → Int) (v : Nat) : Nat := @Classical.epsilon Nat ⟨0⟩ (isLc J col v)
theorem lcl_e {c : Nat} (h : isLc J col v c) : lcl J col v = c := isLc_u (@Classical.epsilon_spec Nat (isLc J col v) ⟨c, h⟩) h
/-- the colours when t of the n on the pile have been put back -/
noncomputable def clN (J : Nat → Nat → Prop) (k : Int) (p : Nat → Nat) (n : Nat) : Nat → Nat → Int
  | 0 => fun _ => -1
  | t + 1 => fun u => @ite Int (u = p (n - 1 - t) ∧ (lcl J (clN J k p n t) (p (n - 1 - t)) : Int) < k) (Classical.propDecidable _) (lcl J (clN J k p n t) (p (n - 1 - t)) : Int) (clN J k p n t u)
/-- one of the first t found none -/
def bdN (J : Nat → Nat → Prop) (k : Int) (p : Nat → Nat) (n t : Nat) : Prop := ∃ s, s < t ∧ k ≤ (lcl J (clN J k p n s) (p (n - 1 - s)) : Int)
theorem clN_c (h : ∀ i, i < n → p i = q i) : ∀ t, t ≤ n → clN J k p n t = clN J k q n t
  | 0, _ => rfl
  | t + 1, ht => by
    have i := clN_c h t (by omega)
    have e := h (n - 1 - t) (by omega)
    show (fun u => @ite Int (u = p (n - 1 - t) ∧ (lcl J (clN J k p n t) (p (n - 1 - t)) : Int) < k) (Classical.propDecidable _) (lcl J (clN J k p n t) (p (n - 1 - t)) : Int) (clN J k p n t u)) = (fun u => @ite Int (u = q (n - 1 - t) ∧ (lcl J (clN J k q n t) (q (n - 1 - t)) : Int) < k) (Classical.propDecidable _) (lcl J (clN J k q n t) (q (n - 1 - t)) : Int) (clN J k q n t u))
    rw [i, e]
theorem bdN_c (h : ∀ i, i < n → p i = q i) : bdN J k p n n ↔ bdN J k q n n := by
  have z : ∀ {p q : Nat → Nat}, (∀ i, i < n → p i = q i) → bdN J k p n n → bdN J k q n n := fun {p q} h ⟨s, h1, h2⟩ => by
    refine ⟨s, h1, ?_⟩
    rw [← clN_c h s (by omega), ← h (n - 1 - s) (by omega)]
    exact h2
  exact ⟨z h, z (fun i hi => (h i hi).symm)⟩
theorem clN_b (hk : 0 ≤ k) : ∀ t u, -1 ≤ clN J k p n t u ∧ (clN J k p n t u < k ∨ clN J k p n t u = -1)
  | 0, _ => ⟨Int.le_refl _, Or.inr rfl⟩
  | t + 1, u => by
    have i := clN_b hk t u
    show -1 ≤ @ite Int (u = p (n - 1 - t) ∧ (lcl J (clN J k p n t) (p (n - 1 - t)) : Int) < k) (Classical.propDecidable _) (lcl J (clN J k p n t) (p (n - 1 - t)) : Int) (clN J k p n t u) ∧ (@ite Int (u = p (n - 1 - t) ∧ (lcl J (clN J k p n t) (p (n - 1 - t)) : Int) < k) (Classical.propDecidable _) (lcl J (clN J k p n t) (p (n - 1 - t)) : Int) (clN J k p n t u) < k ∨ @ite Int (u = p (n - 1 - t) ∧ (lcl J (clN J k p n t) (p (n - 1 - t)) : Int) < k) (Classical.propDecidable _) (lcl J (clN J k p n t) (p (n - 1 - t)) : Int) (clN J k p n t u) = -1)
    by_cases c : u = p (n - 1 - t) ∧ (lcl J (clN J k p n t) (p (n - 1 - t)) : Int) < k
    · rw [if_pos c]; exact ⟨by omega, Or.inl c.2⟩
    · rw [if_neg c]; exact i
end CLD
