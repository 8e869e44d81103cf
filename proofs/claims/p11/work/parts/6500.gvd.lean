/-! giving out, over programs: counts, who is joined whatever the number of names, degrees; merging -/
section CNT
variable {T U : Nat → Prop} {n z : Nat}
theorem cntP_c6 (h : ∀ b, b < n → (T b ↔ U b)) : cntP T n = cntP U n :=
  Nat.le_antisymm (cntP_mo n (fun b hb => (h b hb).mp)) (cntP_mo n (fun b hb => (h b hb).mpr))
theorem cntP_n (h : ∀ b, b < n → ¬ T b) : cntP T n = 0 := by
  have h1 := cntP_mo (T := T) (U := fun _ => False) n (fun b hb => h b hb)
  have h2 : ∀ m, cntP (fun _ => False) m = 0 := fun m => by
    induction m with
    | zero => rfl
    | succ m ih =>
      show cntP (fun _ => False) m + @ite Nat False (Classical.propDecidable False) 1 0 = 0
      rw [ih, if_neg id]
  have h3 := h2 n
  omega
theorem cntP_x : ∀ n, z < n → (∀ b, b < n → b ≠ z → (T b ↔ U b)) → T z → ¬ U z → cntP T n = cntP U n + 1
  | 0, hz, _, _, _ => absurd hz (Nat.not_lt_zero z)
  | n + 1, hz, h, ht, hu => by
    show cntP T n + @ite Nat (T n) (Classical.propDecidable (T n)) 1 0 = cntP U n + @ite Nat (U n) (Classical.propDecidable (U n)) 1 0 + 1
    by_cases e : z = n
    · rw [e] at ht hu
      rw [if_pos ht, if_neg hu, cntP_c6 (fun b hb => h b (by omega) (by omega))]
    · have i := cntP_x n (by omega) (fun b hb => h b (by omega)) ht hu
      have q := h n (Nat.lt_succ_self n) (fun c => e c.symm)
      by_cases c : T n
      · rw [if_pos c, if_pos (q.mp c)]; omega
      · rw [if_neg c, if_neg (fun x => c (q.mpr x))]; omega
theorem cntP_add : ∀ m, cntP T (n + m) = cntP T n + cntP (fun i => T (n + i)) m
  | 0 => rfl
  | m + 1 => by
    have i := cntP_add m
    show cntP T (n + m) + @ite Nat (T (n + m)) (Classical.propDecidable (T (n + m))) 1 0 = cntP T n + (cntP (fun i => T (n + i)) m + @ite Nat (T (n + m)) (Classical.propDecidable (T (n + m))) 1 0)
    omega
theorem cntP_z (m : Nat) (h : ∀ b, n ≤ b → ¬ T b) : cntP T (n + m) = cntP T n := by
  rw [cntP_add m, cntP_n (T := fun i => T (n + i)) (fun b _ => h (n + b) (Nat.le_add_right n b)), Nat.add_zero]
theorem cntP_zz {m : Nat} (hm : n ≤ m) (h : ∀ b, n ≤ b → ¬ T b) : cntP T m = cntP T n := by
  have := cntP_z (m - n) h
  rwa [show n + (m - n) = m by omega] at this
end CNT
section GVD
variable {Q R : gPg} {v u n Nm b j c i : Nat} {sl : Bool}
/-- joined, whatever the number of names -/
def JJ (Q : gPg) (v u : Nat) : Prop := Jn Q false 2000 v u
/-- all names are below n -/
def nmO (Q : gPg) (n : Nat) : Prop := ∀ b j, b < Q.1 → j < Q.2.1 b → Q.2.2.1 b j 1 < (n : Int) ∧ Q.2.2.1 b j 2 < (n : Int) ∧ Q.2.2.1 b j 4 < (n : Int)
theorem Lv_us6 (h : Lv Q sl v b j) : ∃ c i, c < Q.1 ∧ i < Q.2.1 c ∧ usR sl (Q.2.2.1 c i) v :=
  h (fun _ _ => ∃ c i, c < Q.1 ∧ i < Q.2.1 c ∧ usR sl (Q.2.2.1 c i) v) (fun b j h1 h2 h3 => ⟨b, j, h1, h2, h3⟩) (fun _ _ _ _ _ h => h) (fun _ _ _ _ _ _ _ h => h)
theorem us_lt (hn : nmO Q n) (hc : c < Q.1) (hi : i < Q.2.1 c) (h : usR false (Q.2.2.1 c i) u) : u < n := by
  have q := hn c i hc hi
  unfold usR at h
  rw [if_neg (by decide)] at h
  omega
theorem se_lt (hn : nmO Q n) (hc : c < Q.1) (hi : i < Q.2.1 c) (h : seR false (Q.2.2.1 c i) u) : u < n := by
  have q := hn c i hc hi
  unfold seR at h
  rw [if_neg (by decide)] at h
  omega
theorem jdA_i {m : Nat} (hn : nmO Q n) (hN : n ≤ m) (hb : b < Q.1) (hj : j < Q.2.1 b) (h : jdA Q false Nm b j v u) : jdA Q false m b j v u ∧ v < n ∧ u < n := by
  obtain ⟨h1, h2, h3, h4, h5⟩ := h
  have a := se_lt hn hb hj h3
  obtain ⟨c, i, q1, q2, q3⟩ := Lv_us6 h4
  have d := us_lt hn q1 q2 q3
  exact ⟨⟨by omega, by omega, h3, h4, h5⟩, a, d⟩
theorem Jn_i {m : Nat} (hn : nmO Q n) (hN : n ≤ m) (h : Jn Q false Nm v u) : Jn Q false m v u ∧ v < n ∧ u < n := by
  obtain ⟨b, j, h1, h2, h3 | h3⟩ := h
  · have q := jdA_i hn hN h1 h2 h3
    exact ⟨⟨b, j, h1, h2, Or.inl q.1⟩, q.2⟩
  · have q := jdA_i hn hN h1 h2 h3
    exact ⟨⟨b, j, h1, h2, Or.inr q.1⟩, q.2.2, q.2.1⟩
theorem Jn_JJ (hn : nmO Q n) (hN : n ≤ Nm) (h2 : n ≤ 2000) : Jn Q false Nm v u ↔ JJ Q v u := ⟨fun h => (Jn_i hn h2 h).1, fun h => (Jn_i hn hN h).1⟩
theorem JJ_lt (h : JJ Q v u) : v < 2000 ∧ u < 2000 := by
  obtain ⟨b, j, -, -, h3 | h3⟩ := h
  · exact ⟨h3.1, h3.2.1⟩
  · exact ⟨h3.2.1, h3.1⟩
theorem JJ_n (hn : nmO Q n) (h2 : n ≤ 2000) (h : JJ Q v u) : v < n ∧ u < n := (Jn_i hn h2 h).2
theorem JJ_nn (hn : nmO Q n) (h : JJ Q v u) : v < n ∧ u < n := by
  by_cases c : n ≤ 2000
  · exact JJ_n hn c h
  · have := JJ_lt h; omega
theorem JJ_s (h : JJ Q v u) : JJ Q u v := by
  obtain ⟨b, j, h1, h2, h3⟩ := h
  exact ⟨b, j, h1, h2, h3.symm⟩
theorem Sd_i {m : Nat} (hn : nmO Q n) (hN : n ≤ m) (h : Sd Q false Nm v) : Sd Q false m v ∧ v < n := by
  obtain ⟨h1, b, j, h2, h3, h4⟩ := h
  have a : v < n := h4.elim (fun q => us_lt hn h2 h3 q) (fun q => se_lt hn h2 h3 q)
  exact ⟨⟨by omega, b, j, h2, h3, h4⟩, a⟩
theorem isD_w {T : Nat → Prop} {W V : Nat} {d : Int} (h : isD T W d) (hW : W ≤ V) (hT : ∀ v, 64 * W ≤ v → ¬ T v) : isD T V d := by
  obtain ⟨f, a, h1, h2⟩ := h
  refine ⟨fun i => if i < a + W then f i else 0, a, fun v hv => ?_, ?_⟩
  · by_cases c : v < 64 * W
    · have e : gbit (fun i => if i < a + W then f i else 0) (64 * a + v) = gbit f (64 * a + v) := by
        unfold gbit
        dsimp only
        rw [if_pos (show (64 * a + v) / 64 < a + W by omega)]
      rw [e]; exact h1 v c
    · have e : gbit (fun i => if i < a + W then f i else 0) (64 * a + v) = false := gbit_0 (if_neg (by omega))
      rw [e]
      exact ⟨fun z => (nomatch z), fun z => absurd z (hT v (by omega))⟩
  · have e1 := bsm_z (f := fun i => if i < a + W then f i else 0) (a := a) (W := W) (k := V - W) (fun w p _ => if_neg (by omega))
    rw [show W + (V - W) = V by omega] at e1
    rw [e1, h2]
    exact bsm_c (fun w hw => (if_pos (show a + w < a + W by omega)).symm)
theorem isD_c {T U : Nat → Prop} {W : Nat} {d : Int} (h : isD T W d) (hT : ∀ v, v < 64 * W → (T v ↔ U v)) : isD U W d := by
  obtain ⟨f, a, h1, h2⟩ := h
  exact ⟨f, a, fun v hv => (h1 v hv).trans (hT v hv), h2⟩
/-- how many are joined to v -/
noncomputable def dgc (Q : gPg) (v : Nat) : Int32 := @Classical.epsilon Int32 ⟨0⟩ (fun d => isD (JJ Q v) 32 d.toInt)
theorem dgc_e {d : Int32} (h : isD (JJ Q v) 32 d.toInt) : d = dgc Q v := by
  have q : isD (JJ Q v) 32 (dgc Q v).toInt := @Classical.epsilon_spec Int32 (fun d => isD (JJ Q v) 32 d.toInt) ⟨d, h⟩
  exact Int32.toInt_inj.mp (isD_u h q (Nat.le_refl _) (fun w hw z => by have := (JJ_lt z).2; omega))
/-- r is joined to v or u and, were these one, to k or more -/
def crw (J : Nat → Nat → Prop) (d : Nat → Int32) (k : Int) (v u r : Nat) : Prop := (J v r ∧ J u r ∧ k ≤ (d r - 1).toInt) ∨ (¬ (J v r ∧ J u r) ∧ (J v r ∨ J u r) ∧ k ≤ (d r).toInt)
def mgc (Q : gPg) (k : Int) (v u : Nat) : Prop := v < 100 ∧ u < 100 ∧ ¬ JJ Q v u ∧ (cntP (crw (JJ Q) (dgc Q) k v u) 2048 : Int) < k
/-- line j of block b copies a register and may be merged -/
def mgb (Q : gPg) (k : Int) (b j : Nat) : Prop := b < Q.1 ∧ j < Q.2.1 b ∧ Q.2.2.1 b j 0 = 14 ∧ 0 ≤ Q.2.2.1 b j 1 ∧ 0 ≤ Q.2.2.1 b j 2 ∧ (Q.2.2.1 b j 1 = Q.2.2.1 b j 2 ∨ mgc Q k (Q.2.2.1 b j 1).toNat (Q.2.2.1 b j 2).toNat)
def fsM (Q : gPg) (k : Int) (b j : Nat) : Prop := mgb Q k b j ∧ ∀ c i, mgb Q k c i → b < c ∨ (b = c ∧ j ≤ i)
theorem fsM_u {k : Int} (h : fsM Q k b j) (h2 : fsM Q k c i) : b = c ∧ j = i := by
  have a := h.2 c i h2.1
  have d := h2.2 b j h.1
  omega
def rnV (w v : Int) (x : Int) : Int := if x = w then v else x
def rnL (w v : Int) (l : Nat → Int) : Nat → Int := fun f => if f = 1 ∨ f = 2 ∨ f = 4 then rnV w v (l f) else l f
def pgDr (Q : gPg) (b j : Nat) : gPg := (Q.1, fun c => if c = b then Q.2.1 c - 1 else Q.2.1 c, fun c i => Q.2.2.1 c (if c = b ∧ j ≤ i then i + 1 else i), Q.2.2.2)
def pgRn (Q : gPg) (w v : Int) : gPg := (Q.1, Q.2.1, fun c i => rnL w v (Q.2.2.1 c i), Q.2.2.2)
def mg1 (Q : gPg) (b j : Nat) : gPg := pgRn (pgDr Q b j) (max (Q.2.2.1 b j 1) (Q.2.2.1 b j 2)) (min (Q.2.2.1 b j 1) (Q.2.2.1 b j 2))
/-- n merges, one after the other, until there is none -/
def MGn (k : Int) : Nat → gPg → gPg → Prop
  | 0, Q, R => R = Q ∧ ∀ b j, ¬ mgb Q k b j
  | n + 1, Q, R => ∃ b j, fsM Q k b j ∧ MGn k n (mg1 Q b j) R
theorem MGn_u {k : Int} : ∀ {n m : Nat} {Q R S : gPg}, MGn k n Q R → MGn k m Q S → n = m ∧ R = S
  | 0, 0, _, _, _, h, h2 => ⟨rfl, h.1.trans h2.1.symm⟩
  | 0, _ + 1, _, _, _, h, ⟨b, j, q, _⟩ => absurd q.1 (h.2 b j)
  | _ + 1, 0, _, _, _, ⟨b, j, q, _⟩, h => absurd q.1 (h.2 b j)
  | n + 1, m + 1, _, _, _, ⟨b, j, q, h⟩, ⟨c, i, q2, h2⟩ => by
    obtain ⟨e1, e2⟩ := fsM_u q q2
    rw [← e1, ← e2] at h2
    have r := MGn_u h h2
    exact ⟨by rw [r.1], r.2⟩
theorem nmO_dr (hn : nmO Q n) : nmO (pgDr Q b j) n := fun c i hc hi => by
  have hi2 : i < if c = b then Q.2.1 c - 1 else Q.2.1 c := hi
  refine hn c (if c = b ∧ j ≤ i then i + 1 else i) hc ?_
  by_cases e : c = b
  · rw [if_pos e] at hi2; split <;> omega
  · rw [if_neg e] at hi2; rw [if_neg (fun z => e z.1)]; exact hi2
theorem rnV_lt {w v x N : Int} (hx : x < N) (hv : v < N) : rnV w v x < N := by unfold rnV; split <;> assumption
theorem nmO_rn {w v : Int} (hn : nmO Q n) (hv : v < (n : Int)) : nmO (pgRn Q w v) n := fun c i hc hi => by
  obtain ⟨a1, a2, a3⟩ := hn c i hc hi
  exact ⟨rnV_lt a1 hv, rnV_lt a2 hv, rnV_lt a3 hv⟩
theorem nmO_mg (hn : nmO Q n) (hb : b < Q.1) (hj : j < Q.2.1 b) : nmO (mg1 Q b j) n := by
  obtain ⟨a1, a2, a3⟩ := hn b j hb hj
  exact nmO_rn (nmO_dr hn) (by omega)
theorem fsm_ex {l : Nat → Nat} : ∀ {N i : Nat}, i < fsm l N → ∃ b j, b < N ∧ j < l b ∧ i = fsm l b + j
  | 0, i, h => absurd h (Nat.not_lt_zero i)
  | N + 1, i, h => by
    by_cases c : i < fsm l N
    · obtain ⟨b, j, h1, h2, h3⟩ := fsm_ex c
      exact ⟨b, j, by omega, h2, h3⟩
    · have q : i < fsm l N + l N := h
      exact ⟨N, i - fsm l N, Nat.lt_succ_self N, by omega, by omega⟩
theorem fsm_u {l : Nat → Nat} {b c i j : Nat} (hj : j < l b) (hi : i < l c) (h : fsm l b + j = fsm l c + i) : b = c ∧ j = i := by
  rcases Nat.lt_trichotomy b c with q | q | q
  · have := fsm_lt q hj; omega
  · rw [q] at h; exact ⟨q, by omega⟩
  · have := fsm_lt q hi; omega
theorem fsm_dr {l : Nat → Nat} {b : Nat} (hb : 0 < l b) : ∀ c, fsm (fun c => if c = b then l c - 1 else l c) c = if c ≤ b then fsm l c else fsm l c - 1
  | 0 => by rw [if_pos (Nat.zero_le b)]; rfl
  | c + 1 => by
    show fsm (fun c => if c = b then l c - 1 else l c) c + (if c = b then l c - 1 else l c) = _
    rw [fsm_dr hb c]
    have e : fsm l (c + 1) = fsm l c + l c := rfl
    by_cases q : c = b
    · rw [if_pos (show c ≤ b by omega), if_pos q, if_neg (by omega), e, q]; omega
    · rw [if_neg q]
      by_cases p : c < b
      · rw [if_pos (show c ≤ b by omega), if_pos (by omega), e]
      · rw [if_neg (show ¬ c ≤ b by omega), if_neg (by omega), e]
        have := fsm_mo (l := l) (show b + 1 ≤ c by omega)
        have e2 : fsm l (b + 1) = fsm l b + l b := rfl
        omega
end GVD
