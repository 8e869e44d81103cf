/-! giving out, over programs: what the rounds keep, where they begin -/
section GVP
variable {so so2 : Nat → Int} {l : Nat → Int} {Q R P : gPg} {s : gSp6} {nm n v sl : Nat} {k : Int} {U : Nat → Prop}
theorem spLn_c (h1 : slf so (l 1) = slf so2 (l 1)) (h2 : slf so (l 2) = slf so2 (l 2)) (h4 : slf so (l 4) = slf so2 (l 4)) : spLn so l s = spLn so2 l s := by
  simp only [spLn, spW, spV, spR, ldN, ldV, h1, h2, h4]
theorem spB_c {ls : Nat → Nat → Int} : ∀ m, (∀ j, j < m → ∀ f, f = 1 ∨ f = 2 ∨ f = 4 → slf so (ls j f) = slf so2 (ls j f)) → spB so ls m s = spB so2 ls m s
  | 0, _ => rfl
  | m + 1, h => by
    show spLn so (ls m) (spB so ls m s) = spLn so2 (ls m) (spB so2 ls m s)
    rw [spB_c m (fun j hj => h j (by omega))]
    exact spLn_c (h m (Nat.lt_succ_self m) 1 (Or.inl rfl)) (h m (Nat.lt_succ_self m) 2 (Or.inr (Or.inl rfl))) (h m (Nat.lt_succ_self m) 4 (Or.inr (Or.inr rfl)))
theorem spP_c : ∀ b, (∀ c j, c < b → j < Q.2.1 c → ∀ f, f = 1 ∨ f = 2 ∨ f = 4 → slf so (Q.2.2.1 c j f) = slf so2 (Q.2.2.1 c j f)) → spP so Q nm b = spP so2 Q nm b
  | 0, _ => rfl
  | b + 1, h => by
    show spB so (Q.2.2.1 b) (Q.2.1 b) (pgOL Q (spP so Q nm b).1, (spP so Q nm b).2) = spB so2 (Q.2.2.1 b) (Q.2.1 b) (pgOL Q (spP so2 Q nm b).1, (spP so2 Q nm b).2)
    rw [spP_c b (fun c j hc => h c j (by omega))]
    exact spB_c _ (fun j hj => h b j (Nat.lt_succ_self b) hj)
/-- a name in a line stands in the program -/
theorem Sd_f {b j f : Nat} (hb : b < Q.1) (hj : j < Q.2.1 b) (hf : f = 1 ∨ f = 2 ∨ f = 4) (h0 : 0 ≤ Q.2.2.1 b j f) (h1 : Q.2.2.1 b j f < 2000) : Sd Q false 2000 (Q.2.2.1 b j f).toNat := by
  refine ⟨by omega, b, j, hb, hj, ?_⟩
  unfold usR seR
  rw [if_neg (by decide), if_neg (by decide)]
  rcases hf with e | e | e
  · rw [e] at h0 ⊢; exact Or.inr (by omega)
  · rw [e] at h0 ⊢; exact Or.inl (Or.inl (by omega))
  · rw [e] at h0 ⊢; exact Or.inl (Or.inr (by omega))
theorem f_Sd (h : Sd Q false n v) : ∃ b j f, b < Q.1 ∧ j < Q.2.1 b ∧ (f = 1 ∨ f = 2 ∨ f = 4) ∧ Q.2.2.1 b j f = (v : Int) := by
  obtain ⟨-, b, j, h1, h2, h3⟩ := h
  unfold usR seR at h3
  rw [if_neg (by decide), if_neg (by decide)] at h3
  rcases h3 with (h3 | h3) | h3
  · exact ⟨b, j, 2, h1, h2, Or.inr (Or.inl rfl), h3⟩
  · exact ⟨b, j, 4, h1, h2, Or.inr (Or.inr rfl), h3⟩
  · exact ⟨b, j, 1, h1, h2, Or.inl rfl, h3⟩
theorem nw_Sd {X : Nat → Prop} (h : allL (nwL6 so X) s) (hv : Sd s.1 false n v) (h100 : v < 100) : so v = -1 ∧ X v := by
  obtain ⟨b, j, f, h1, h2, h3, h4⟩ := f_Sd hv
  have q := (h b j h1 h2 f h3).2
  rw [h4] at q
  exact q (by omega) (by omega)
theorem nw_nm {X : Nat → Prop} (h : allL (nwL6 so X) s) : nmO s.1 s.2 := fun b j hb hj => ⟨(h b j hb hj 1 (Or.inl rfl)).1, (h b j hb hj 2 (Or.inr (Or.inl rfl))).1, (h b j hb hj 4 (Or.inr (Or.inr rfl))).1⟩
/-- what holds of the program of a round -/
def gvI (Q : gPg) (nm : Nat) : Prop := nmO Q nm ∧ 100 ≤ nm ∧ nm + osm Q ≤ 720 ∧ lsm Q + osm Q ≤ 920 ∧ Q.1 ≤ 40 ∧ 0 < Q.1
theorem gvI_m {m : Nat} (h : gvI Q nm) (hm : MGn k m Q R) : gvI R nm ∧ ∀ v, Sd R false 2000 v → Sd Q false 2000 v := by
  obtain ⟨h1, h2, h3, h4, h5, h6⟩ := h
  obtain ⟨r1, r2, r3, r4, r5⟩ := MGn_f h1 h1 hm
  exact ⟨⟨r1, h2, by omega, by omega, by omega, by omega⟩, r5⟩
theorem spP_i (h : gvI R nm) : allL (nwL6 so (Sd R false 2000)) (spP so R nm R.1) ∧ gvI (spP so R nm R.1).1 (spP so R nm R.1).2 ∧ (spP so R nm R.1).2 ≤ 720 ∧ lsm (spP so R nm R.1).1 ≤ 920 := by
  obtain ⟨h1, h2, h3, h4, h5, h6⟩ := h
  obtain ⟨k1, k2, k3, k4⟩ := spP_k (so := so) (Q := R) h2 R.1
  have a := spP_a (so := so) (Q := R) (X := Sd R false 2000) h2 R.1 (fun c j hc hj f hf => by
    have q := h1 c j hc hj
    have hl : R.2.2.1 c j f < (nm : Int) := by
      rcases hf with e | e | e
      · rw [e]; exact q.1
      · rw [e]; exact q.2.1
      · rw [e]; exact q.2.2
    exact ⟨hl, fun z1 z2 => Sd_f hc hj hf z1 (by omega)⟩)
  have e1 : fsm (fun b => fsm (fun j => occ (R.2.2.1 b j)) (R.2.1 b)) R.1 = osm R := rfl
  have e2 : fsm R.2.1 R.1 = lsm R := rfl
  rw [e1] at k3 k4
  rw [e2] at k4
  exact ⟨a, ⟨nw_nm a, k2, by omega, by omega, by omega, by omega⟩, by omega, by omega⟩
theorem soU_n (h : soU U sl v = -1) : ¬ U v := fun z => by
  unfold soU at h
  rw [if_pos z] at h
  omega
theorem soU_p (h : U v) : soU U sl v = ((sl + cntP U v : Nat) : Int) := if_pos h
theorem soU_0 (h : ¬ U v) : soU U sl v = -1 := if_neg h
/-- where they begin -/
theorem fsm_ap {f : Nat → Nat} {z : Nat} : ∀ n, fsm f (z + n) = fsm f z + fsm (fun i => f (z + i)) n
  | 0 => rfl
  | n + 1 => by
    have i := fsm_ap (f := f) (z := z) n
    show fsm f (z + n) + f (z + n) = fsm f z + (fsm (fun i => f (z + i)) n + f (z + n))
    omega
theorem fsm_1 {f : Nat → Nat} : ∀ n, (∀ i, i < n → f i ≤ 1) → fsm f n ≤ n
  | 0, _ => Nat.le_refl _
  | n + 1, h => Nat.add_le_add (fsm_1 n (fun i hi => h i (by omega))) (h n (Nat.lt_succ_self n))
theorem fsm_3 {f : Nat → Nat} : ∀ n, (∀ i, i < n → f i ≤ 3) → fsm f n ≤ 3 * n
  | 0, _ => Nat.le_refl _
  | n + 1, h => by
    have i := fsm_3 n (fun i hi => h i (by omega))
    have q := h n (Nat.lt_succ_self n)
    show fsm f n + f n ≤ 3 * (n + 1)
    omega
theorem fsm_32 {f g : Nat → Nat} : ∀ n, (∀ i, i < n → f i + 2 ≤ 3 * g i) → fsm f n + 2 * n ≤ 3 * fsm g n
  | 0, _ => Nat.le_refl _
  | n + 1, h => by
    have i := fsm_32 (f := f) (g := g) n (fun i hi => h i (by omega))
    have q := h n (Nat.lt_succ_self n)
    show fsm f n + f n + 2 * (n + 1) ≤ 3 * (fsm g n + g n)
    omega
theorem occ_3 : occ l ≤ 3 := by
  have a := oc1_le (x := l 1)
  have b := oc1_le (x := l 2)
  have c := oc1_le (x := l 4)
  unfold occ
  omega
theorem osm_P (hb : ∀ b, b < P.1 → blC (P.2.1 b) (P.2.2.1 b) (P.2.2.2 b)) : osm P + 2 * P.1 ≤ 3 * lsm P := by
  unfold osm lsm
  refine fsm_32 P.1 (fun b hb1 => ?_)
  obtain ⟨c0, c1, c2, c3⟩ := hb b hb1
  obtain ⟨m, em⟩ : ∃ m, P.2.1 b = m + 1 := ⟨P.2.1 b - 1, by omega⟩
  rw [em] at c2 ⊢
  show fsm (fun j => occ (P.2.2.1 b j)) m + occ (P.2.2.1 b m) + 2 ≤ 3 * (m + 1)
  have i := fsm_3 (f := fun j => occ (P.2.2.1 b j)) m (fun i hi => occ_3)
  rw [show m + 1 - 1 = m from rfl] at c2
  have e : occ (P.2.2.1 b m) ≤ 1 := by
    unfold occ
    rw [c2.1, c2.2.2.1, oc1_n]
    have := oc1_le (x := P.2.2.1 b m 2)
    omega
  omega
theorem nthT_l6 {T : Nat → Prop} {i : Nat} : ∀ k, nthT T (k + 1) i ≤ k
  | 0 => by
    show @ite Nat (T 0 ∧ cntP T 0 = i) (Classical.propDecidable _) 0 (nthT T 0 i) ≤ 0
    split
    · exact Nat.le_refl _
    · exact Nat.le_refl _
  | k + 1 => by
    have q := nthT_l6 (T := T) (i := i) k
    show @ite Nat (T (k + 1) ∧ cntP T (k + 1) = i) (Classical.propDecidable _) (k + 1) (nthT T (k + 1) i) ≤ k + 1
    split
    · exact Nat.le_refl _
    · omega
theorem osm_Z (h0 : 0 < P.1) : osm (pgZ P) ≤ 100 + osm P ∧ lsm (pgZ P) ≤ 100 + lsm P := by
  obtain ⟨m, em⟩ : ∃ m, P.1 = 1 + m := ⟨P.1 - 1, by omega⟩
  have cz := cntP_le (T := lz P) 100
  constructor
  · unfold osm
    show fsm (fun b => fsm (fun j => occ (if b = 0 then (if j < cntP (lz P) 100 then mkL 14 (nthT (lz P) 100 j : Int) (-1) 0 (-1) 0 else P.2.2.1 0 (j - cntP (lz P) 100)) else P.2.2.1 b j)) (if b = 0 then cntP (lz P) 100 + P.2.1 0 else P.2.1 b)) P.1 ≤ 100 + fsm (fun b => fsm (fun j => occ (P.2.2.1 b j)) (P.2.1 b)) P.1
    rw [em, fsm_ap m, fsm_ap m]
    have e1 : fsm (fun i => (fun b => fsm (fun j => occ (if b = 0 then (if j < cntP (lz P) 100 then mkL 14 (nthT (lz P) 100 j : Int) (-1) 0 (-1) 0 else P.2.2.1 0 (j - cntP (lz P) 100)) else P.2.2.1 b j)) (if b = 0 then cntP (lz P) 100 + P.2.1 0 else P.2.1 b)) (1 + i)) m = fsm (fun i => (fun b => fsm (fun j => occ (P.2.2.1 b j)) (P.2.1 b)) (1 + i)) m := by
      refine fsm_c (fun c hc => ?_)
      have ne : ¬ 1 + c = 0 := by omega
      simp only [if_neg ne]
    have e2 : fsm (fun j => occ (if (0 : Nat) = 0 then (if j < cntP (lz P) 100 then mkL 14 (nthT (lz P) 100 j : Int) (-1) 0 (-1) 0 else P.2.2.1 0 (j - cntP (lz P) 100)) else P.2.2.1 0 j)) (if (0 : Nat) = 0 then cntP (lz P) 100 + P.2.1 0 else P.2.1 0) ≤ 100 + fsm (fun j => occ (P.2.2.1 0 j)) (P.2.1 0) := by
      rw [if_pos rfl, fsm_ap]
      have a := fsm_1 (f := fun j => occ (if (0 : Nat) = 0 then (if j < cntP (lz P) 100 then mkL 14 (nthT (lz P) 100 j : Int) (-1) 0 (-1) 0 else P.2.2.1 0 (j - cntP (lz P) 100)) else P.2.2.1 0 j)) (cntP (lz P) 100) (fun i hi => by
        show occ (if (0 : Nat) = 0 then (if i < cntP (lz P) 100 then mkL 14 (nthT (lz P) 100 i : Int) (-1) 0 (-1) 0 else P.2.2.1 0 (i - cntP (lz P) 100)) else P.2.2.1 0 i) ≤ 1
        rw [if_pos rfl, if_pos hi, occ_mk, oc1_n]
        have := oc1_le (x := (nthT (lz P) 100 i : Int))
        omega)
      have c : fsm (fun i => (fun j => occ (if (0 : Nat) = 0 then (if j < cntP (lz P) 100 then mkL 14 (nthT (lz P) 100 j : Int) (-1) 0 (-1) 0 else P.2.2.1 0 (j - cntP (lz P) 100)) else P.2.2.1 0 j)) (cntP (lz P) 100 + i)) (P.2.1 0) = fsm (fun j => occ (P.2.2.1 0 j)) (P.2.1 0) := by
        refine fsm_c (fun i hi => ?_)
        show occ (if (0 : Nat) = 0 then (if cntP (lz P) 100 + i < cntP (lz P) 100 then mkL 14 (nthT (lz P) 100 (cntP (lz P) 100 + i) : Int) (-1) 0 (-1) 0 else P.2.2.1 0 (cntP (lz P) 100 + i - cntP (lz P) 100)) else P.2.2.1 0 (cntP (lz P) 100 + i)) = _
        rw [if_pos rfl, if_neg (by omega), show cntP (lz P) 100 + i - cntP (lz P) 100 = i by omega]
      exact Nat.le_trans (Nat.add_le_add a (Nat.le_of_eq c)) (Nat.add_le_add_right cz _)
    have s1 : ∀ f : Nat → Nat, fsm f 1 = f 0 := fun f => Nat.zero_add _
    rw [s1, s1, e1]
    exact Nat.le_trans (Nat.add_le_add_right e2 _) (Nat.le_of_eq (Nat.add_assoc _ _ _))
  · unfold lsm
    show fsm (fun b => if b = 0 then cntP (lz P) 100 + P.2.1 0 else P.2.1 b) P.1 ≤ 100 + fsm P.2.1 P.1
    rw [em, fsm_ap m, fsm_ap m]
    have e1 : fsm (fun i => (fun b => if b = 0 then cntP (lz P) 100 + P.2.1 0 else P.2.1 b) (1 + i)) m = fsm (fun i => P.2.1 (1 + i)) m := fsm_c (fun c hc => if_neg (by omega))
    have s1 : ∀ f : Nat → Nat, fsm f 1 = f 0 := fun f => Nat.zero_add _
    rw [s1, s1, e1, if_pos rfl]
    omega
theorem nmO_P (hb : ∀ b, b < P.1 → blC (P.2.1 b) (P.2.2.1 b) (P.2.2.2 b)) : nmO P 100 := fun b j h1 h2 => by
  show P.2.2.1 b j 1 < (100 : Int) ∧ P.2.2.1 b j 2 < (100 : Int) ∧ P.2.2.1 b j 4 < (100 : Int)
  obtain ⟨c0, c1, c2, c3⟩ := hb b h1
  by_cases e : j + 1 < P.2.1 b
  · obtain ⟨a1, a2, a3, a4, a5, a6⟩ := c1 j e
    refine ⟨?_, by omega, by omega⟩
    by_cases g : P.2.2.1 b j 0 ≤ 15
    · have := a4 g; omega
    · have := a5 (by omega); omega
  · rw [show P.2.1 b - 1 = j by omega] at c2
    obtain ⟨a1, a2, a3, a4⟩ := c2
    exact ⟨by omega, by omega, by omega⟩
theorem nmO_Z (hb : ∀ b, b < P.1 → blC (P.2.1 b) (P.2.2.1 b) (P.2.2.2 b)) : nmO (pgZ P) 100 := by
  have old : ∀ b j, b < P.1 → j < P.2.1 b → P.2.2.1 b j 1 < (100 : Int) ∧ P.2.2.1 b j 2 < (100 : Int) ∧ P.2.2.1 b j 4 < (100 : Int) := nmO_P hb
  intro b j h1 h2
  have h2' : j < if b = 0 then cntP (lz P) 100 + P.2.1 0 else P.2.1 b := h2
  have h1' : b < P.1 := h1
  show (if b = 0 then (if j < cntP (lz P) 100 then mkL 14 (nthT (lz P) 100 j : Int) (-1) 0 (-1) 0 else P.2.2.1 0 (j - cntP (lz P) 100)) else P.2.2.1 b j) 1 < ((100 : Nat) : Int) ∧ (if b = 0 then (if j < cntP (lz P) 100 then mkL 14 (nthT (lz P) 100 j : Int) (-1) 0 (-1) 0 else P.2.2.1 0 (j - cntP (lz P) 100)) else P.2.2.1 b j) 2 < ((100 : Nat) : Int) ∧ (if b = 0 then (if j < cntP (lz P) 100 then mkL 14 (nthT (lz P) 100 j : Int) (-1) 0 (-1) 0 else P.2.2.1 0 (j - cntP (lz P) 100)) else P.2.2.1 b j) 4 < ((100 : Nat) : Int)
  by_cases e : b = 0
  · rw [if_pos e] at h2' ⊢
    by_cases g : j < cntP (lz P) 100
    · rw [if_pos g]
      have q : nthT (lz P) 100 j ≤ 99 := nthT_l6 (T := lz P) (i := j) 99
      exact ⟨by show (nthT (lz P) 100 j : Int) < 100; omega, by show (-1 : Int) < 100; omega, by show (-1 : Int) < 100; omega⟩
    · rw [if_neg g]
      exact old 0 _ (by omega) (by omega)
  · rw [if_neg e] at h2' ⊢
    exact old b j h1' h2'
theorem gvI_Z {B : Int → Int} {n : Int} (hB : bOk B n) (h : okP B n P) : gvI (pgZ P) 100 := by
  obtain ⟨f1, f2, f3, f4, f5, f6⟩ := okP_f hB h
  have l1 : lsm P ≤ 160 + P.1 := by
    obtain ⟨j, st, lf, ln, op, rw, h1, h2, h3⟩ := h
    obtain ⟨⟨-, -, w3, -, w5, -, -, -, -, -, -, w12, w13, -⟩, -⟩ := mrn_w hB h1
    have w := w5 rfl
    unfold lsm
    omega
  have o := osm_P f6
  obtain ⟨z1, z2⟩ := osm_Z f3
  exact ⟨nmO_Z f6, Nat.le_refl _, by omega, by omega, f2, f3⟩
end GVP
