/-! how long a listing is -/
section WT
variable {so : Nat → Int} {x : Int} {l g : Nat → Int} {Q R P : gPg} {nm b j v n : Nat} {s : gSp6} {k : Int} {w : (Nat → Int) → Nat} {dp : Nat → Nat}
/-- letters of an operand, of a line, at most; and what its registers may cost in loads and stores -/
def cwO (x : Int) : Nat := if 0 ≤ x then 3 else 11
def cwL (l : Nat → Int) : Nat := if l 0 ≤ 13 then 11 + cwO (l 2) + cwO (l 4) else if l 0 = 14 then 7 + cwO (l 2) else if l 0 = 15 then 9 else if l 0 = 16 then 6 + cwO (l 2) else if l 0 ≤ 18 then 14 else if l 0 = 19 then 9 else if l 0 = 20 then 12 + cwO (l 2) else 5 + cwO (l 2)
def cwt (l : Nat → Int) : Nat := cwL l + 14 * occ l
def wsm (w : (Nat → Int) → Nat) (Q : gPg) : Nat := fsm (fun b => fsm (fun j => w (Q.2.2.1 b j)) (Q.2.1 b)) Q.1
theorem wsm_L (h : 0 < Q.1) : wsm w (pgL Q l) = wsm w Q + w l := by
  obtain ⟨m, em⟩ : ∃ m, Q.1 = m + 1 := ⟨Q.1 - 1, by omega⟩
  unfold wsm
  show fsm (fun b => fsm (fun j => w (if b + 1 = Q.1 ∧ j = Q.2.1 b then l else Q.2.2.1 b j)) (if b + 1 = Q.1 then Q.2.1 b + 1 else Q.2.1 b)) Q.1 = _
  rw [em]
  show fsm (fun b => fsm (fun j => w (if b + 1 = m + 1 ∧ j = Q.2.1 b then l else Q.2.2.1 b j)) (if b + 1 = m + 1 then Q.2.1 b + 1 else Q.2.1 b)) m + fsm (fun j => w (if m + 1 = m + 1 ∧ j = Q.2.1 m then l else Q.2.2.1 m j)) (if m + 1 = m + 1 then Q.2.1 m + 1 else Q.2.1 m) = fsm (fun b => fsm (fun j => w (Q.2.2.1 b j)) (Q.2.1 b)) m + fsm (fun j => w (Q.2.2.1 m j)) (Q.2.1 m) + w l
  rw [if_pos rfl]
  have e1 : fsm (fun b => fsm (fun j => w (if b + 1 = m + 1 ∧ j = Q.2.1 b then l else Q.2.2.1 b j)) (if b + 1 = m + 1 then Q.2.1 b + 1 else Q.2.1 b)) m = fsm (fun b => fsm (fun j => w (Q.2.2.1 b j)) (Q.2.1 b)) m := by
    refine fsm_c (fun c hc => ?_)
    rw [if_neg (show ¬ c + 1 = m + 1 by omega)]
    exact fsm_c (fun j hj => by rw [if_neg (fun z => by omega)])
  have e2 : fsm (fun j => w (if m + 1 = m + 1 ∧ j = Q.2.1 m then l else Q.2.2.1 m j)) (Q.2.1 m + 1) = fsm (fun j => w (Q.2.2.1 m j)) (Q.2.1 m) + w l := by
    show fsm (fun j => w (if m + 1 = m + 1 ∧ j = Q.2.1 m then l else Q.2.2.1 m j)) (Q.2.1 m) + w (if m + 1 = m + 1 ∧ Q.2.1 m = Q.2.1 m then l else Q.2.2.1 m (Q.2.1 m)) = _
    rw [if_pos ⟨rfl, rfl⟩]
    congr 1
    exact fsm_c (fun j hj => by rw [if_neg (fun z => by omega)])
  rw [e1, e2]
  omega
theorem wsm_OL : wsm w (pgOL Q R) = wsm w R := by
  unfold wsm
  show fsm (fun b => fsm (fun j => w (R.2.2.1 b j)) (if b = R.1 then 0 else R.2.1 b)) R.1 + fsm (fun j => w (R.2.2.1 R.1 j)) (if R.1 = R.1 then 0 else R.2.1 R.1) = _
  rw [if_pos rfl]
  show fsm (fun b => fsm (fun j => w (R.2.2.1 b j)) (if b = R.1 then 0 else R.2.1 b)) R.1 + 0 = _
  rw [Nat.add_zero]
  exact fsm_c (fun c hc => by rw [if_neg (show ¬ c = R.1 by omega)])
theorem cwO_e {y : Int} (h : (0 ≤ x ∧ 0 ≤ y) ∨ (x < 0 ∧ y < 0)) : cwO x = cwO y := by
  unfold cwO
  rcases h with ⟨a, c⟩ | ⟨a, c⟩
  · rw [if_pos a, if_pos c]
  · rw [if_neg (by omega), if_neg (by omega)]
theorem cwL_e {m : Nat → Int} (h0 : m 0 = l 0) (h2 : cwO (m 2) = cwO (l 2)) (h4 : cwO (m 4) = cwO (l 4)) : cwL m = cwL l := by
  unfold cwL
  rw [h0, h2, h4]
theorem cwL_s (h : l 0 = 17 ∨ l 0 = 18) : cwL l = 14 := by
  unfold cwL
  rw [if_neg (by omega), if_neg (by omega), if_neg (by omega), if_neg (by omega), if_pos (by omega)]
theorem slf_w (h : ¬ slf so x = -1) : 0 ≤ x ∧ x < 100 := by
  unfold slf at h
  by_cases d : 0 ≤ x ∧ x < 100
  · exact d
  · rw [if_neg d] at h; exact absurd rfl h
theorem ldV_w : cwO (ldV so x nm) = cwO x := by
  unfold ldV
  by_cases c : slf so x = -1
  · rw [if_pos c]
  · rw [if_neg c]
    have d := slf_w c
    exact cwO_e (Or.inl ⟨by omega, d.1⟩)
theorem ldN_w (h0 : 0 < s.1.1) (h1 : 100 ≤ s.2) : wsm cwt (ldN so x s).1 = wsm cwt s.1 + 14 * (if slf so x = -1 then 0 else 1) := by
  unfold ldN
  by_cases c : slf so x = -1
  · rw [if_pos c, if_pos c] <;> omega
  · rw [if_neg c, if_neg c]
    show wsm cwt (pgL s.1 (mkL 17 (s.2 : Int) (-1) 0 (-1) (slf so x))) = _
    rw [wsm_L h0]
    have e : cwt (mkL 17 (s.2 : Int) (-1) 0 (-1) (slf so x)) = 14 := by
      unfold cwt
      rw [cwL_s (l := mkL 17 (s.2 : Int) (-1) 0 (-1) (slf so x)) (Or.inl rfl), occ_mk, oc1_h (show (100 : Int) ≤ (s.2 : Int) by omega), oc1_n] <;> rfl
    omega
theorem spV_w : cwO (spV so l s) = cwO (l 4) := by
  unfold spV
  by_cases c : l 4 = l 2
  · rw [if_pos c, ldV_w, c]
  · rw [if_neg c, ldV_w]
theorem spW_w {a c : Int} (h0 : 0 < s.1.1) (h1 : 100 ≤ s.2) (ha : cwO a = cwO (l 2)) (hc : cwO c = cwO (l 4)) : wsm cwt (spW so l a c s).1 ≤ wsm cwt s.1 + (cwL l + 14 * (oc1 (l 1) + oc1 a + oc1 c)) := by
  unfold spW
  by_cases q : slf so (l 1) = -1
  · rw [if_pos q]
    show wsm cwt (pgL s.1 (mkL (l 0) (l 1) a (l 3) c (l 5))) ≤ _
    rw [wsm_L h0]
    have e : cwt (mkL (l 0) (l 1) a (l 3) c (l 5)) = cwL l + 14 * (oc1 (l 1) + oc1 a + oc1 c) := by
      unfold cwt
      rw [occ_mk, cwL_e (l := l) (m := mkL (l 0) (l 1) a (l 3) c (l 5)) rfl ha hc]
    omega
  · rw [if_neg q]
    have o1 := oc1_s q
    have h2 : oc1 (s.2 : Int) = 0 := oc1_h (by omega)
    show wsm cwt (pgL (pgL s.1 (mkL (l 0) (s.2 : Int) a (l 3) c (l 5))) (mkL 18 (-1) (s.2 : Int) 0 (-1) (slf so (l 1)))) ≤ _
    rw [wsm_L (show 0 < (pgL s.1 _).1 from h0), wsm_L h0]
    have e : cwt (mkL (l 0) (s.2 : Int) a (l 3) c (l 5)) = cwL l + 14 * (oc1 a + oc1 c) := by
      unfold cwt
      rw [occ_mk, cwL_e (l := l) (m := mkL (l 0) (s.2 : Int) a (l 3) c (l 5)) rfl ha hc, h2] <;> omega
    have e2 : cwt (mkL 18 (-1) (s.2 : Int) 0 (-1) (slf so (l 1))) = 14 := by
      unfold cwt
      rw [cwL_s (l := mkL 18 (-1) (s.2 : Int) 0 (-1) (slf so (l 1))) (Or.inr rfl), occ_mk, h2, oc1_n] <;> rfl
    omega
theorem spLn_w (h0 : 0 < s.1.1) (h1 : 100 ≤ s.2) : wsm cwt (spLn so l s).1 ≤ wsm cwt s.1 + cwt l := by
  unfold spLn
  have w := spW_w (so := so) (l := l) (a := ldV so (l 2) s.2) (c := spV so l s) (spR_1 (so := so) (l := l) h0) (spR_2 h1) ldV_w spV_w
  have r : wsm cwt (spR so l s).1 = wsm cwt s.1 + 14 * ((if slf so (l 2) = -1 then 0 else 1) + (if l 4 = l 2 then 0 else if slf so (l 4) = -1 then 0 else 1)) := by
    unfold spR
    by_cases c : l 4 = l 2
    · rw [if_pos c, if_pos c, ldN_w h0 h1]
      omega
    · rw [if_neg c, if_neg c, ldN_w (ldN_1 h0) (ldN_2 h1), ldN_w h0 h1] <;> omega
  have e2 := ldV_o (so := so) (x := l 2) h1
  have e4 : oc1 (spV so l s) + (if l 4 = l 2 then 0 else if slf so (l 4) = -1 then 0 else 1) ≤ oc1 (l 4) := by
    unfold spV
    by_cases c : l 4 = l 2
    · rw [if_pos c, if_pos c, c]; omega
    · rw [if_neg c, if_neg c]
      have := ldV_o (so := so) (x := l 4) (ldN_2 (so := so) (x := l 2) h1)
      omega
  have e9 : cwt l = cwL l + 14 * (oc1 (l 1) + oc1 (l 2) + oc1 (l 4)) := rfl
  omega
theorem spB_w {ls : Nat → Nat → Int} (h0 : 0 < s.1.1) (h1 : 100 ≤ s.2) : ∀ m, wsm cwt (spB so ls m s).1 ≤ wsm cwt s.1 + fsm (fun j => cwt (ls j)) m
  | 0 => Nat.le_refl _
  | m + 1 => by
    have i : wsm cwt (spB so ls m s).1 ≤ wsm cwt s.1 + fsm (fun j => cwt (ls j)) m := spB_w h0 h1 m
    obtain ⟨-, i2, i3⟩ := spB_k (so := so) (ls := ls) h0 h1 m
    have q := spLn_w (so := so) (l := ls m) i2 i3
    show wsm cwt (spLn so (ls m) (spB so ls m s)).1 ≤ wsm cwt s.1 + (fsm (fun j => cwt (ls j)) m + cwt (ls m))
    omega
theorem spP_w (h1 : 100 ≤ nm) : ∀ b, wsm cwt (spP so Q nm b).1 ≤ fsm (fun b => fsm (fun j => cwt (Q.2.2.1 b j)) (Q.2.1 b)) b
  | 0 => Nat.le_refl _
  | b + 1 => by
    have i : wsm cwt (spP so Q nm b).1 ≤ fsm (fun b => fsm (fun j => cwt (Q.2.2.1 b j)) (Q.2.1 b)) b := spP_w h1 b
    obtain ⟨-, i2, -, -⟩ := spP_k (so := so) (Q := Q) h1 b
    have q : wsm cwt (spP so Q nm (b + 1)).1 ≤ wsm cwt (pgOL Q (spP so Q nm b).1) + fsm (fun j => cwt (Q.2.2.1 b j)) (Q.2.1 b) := spB_w (so := so) (ls := Q.2.2.1 b) (s := (pgOL Q (spP so Q nm b).1, (spP so Q nm b).2)) (Nat.succ_pos _) i2 (Q.2.1 b)
    have e : wsm cwt (pgOL Q (spP so Q nm b).1) = wsm cwt (spP so Q nm b).1 := wsm_OL
    show wsm cwt (spP so Q nm (b + 1)).1 ≤ fsm (fun b => fsm (fun j => cwt (Q.2.2.1 b j)) (Q.2.1 b)) b + fsm (fun j => cwt (Q.2.2.1 b j)) (Q.2.1 b)
    omega
/-- merging -/
theorem cwO_rn {u y : Int} (h : u = y ∨ (0 ≤ u ∧ 0 ≤ y)) : cwO (rnV u y x) = cwO x := by
  unfold rnV
  by_cases c : x = u
  · rw [if_pos c]
    rcases h with h | ⟨h1, h2⟩
    · rw [← h, c]
    · exact cwO_e (Or.inl ⟨h2, by omega⟩)
  · rw [if_neg c]
theorem wsm_mg (h : mgb Q k b j) : wsm cwt (mg1 Q b j) ≤ wsm cwt Q := by
  obtain ⟨hb, hj, h0, h1, h2, h3⟩ := h
  have hw : max (Q.2.2.1 b j 1) (Q.2.2.1 b j 2) = min (Q.2.2.1 b j 1) (Q.2.2.1 b j 2) ∨ (max (Q.2.2.1 b j 1) (Q.2.2.1 b j 2) < 100 ∧ min (Q.2.2.1 b j 1) (Q.2.2.1 b j 2) < 100 ∧ 0 ≤ max (Q.2.2.1 b j 1) (Q.2.2.1 b j 2) ∧ 0 ≤ min (Q.2.2.1 b j 1) (Q.2.2.1 b j 2)) := by
    rcases h3 with h3 | h3
    · exact Or.inl (by omega)
    · have a := h3.1
      have c := h3.2.1
      exact Or.inr (by omega)
  have hw2 : max (Q.2.2.1 b j 1) (Q.2.2.1 b j 2) = min (Q.2.2.1 b j 1) (Q.2.2.1 b j 2) ∨ (0 ≤ max (Q.2.2.1 b j 1) (Q.2.2.1 b j 2) ∧ 0 ≤ min (Q.2.2.1 b j 1) (Q.2.2.1 b j 2)) := Or.inr ⟨by omega, by omega⟩
  have oe : ∀ l : Nat → Int, cwt (rnL (max (Q.2.2.1 b j 1) (Q.2.2.1 b j 2)) (min (Q.2.2.1 b j 1) (Q.2.2.1 b j 2)) l) = cwt l := fun l => by
    have o : occ (rnL (max (Q.2.2.1 b j 1) (Q.2.2.1 b j 2)) (min (Q.2.2.1 b j 1) (Q.2.2.1 b j 2)) l) = occ l := by
      show oc1 (rnV _ _ (l 1)) + oc1 (rnV _ _ (l 2)) + oc1 (rnV _ _ (l 4)) = _
      rw [oc1_rn hw, oc1_rn hw, oc1_rn hw]
      rfl
    unfold cwt
    rw [o, cwL_e (l := l) (m := rnL (max (Q.2.2.1 b j 1) (Q.2.2.1 b j 2)) (min (Q.2.2.1 b j 1) (Q.2.2.1 b j 2)) l) rfl (cwO_rn hw2) (cwO_rn hw2)]
  unfold wsm
  refine fsm_le Q.1 (fun c hc => ?_)
  show fsm (fun i => cwt (rnL _ _ (Q.2.2.1 c (if c = b ∧ j ≤ i then i + 1 else i)))) (if c = b then Q.2.1 c - 1 else Q.2.1 c) ≤ fsm (fun j => cwt (Q.2.2.1 c j)) (Q.2.1 c)
  by_cases e : c = b
  · rw [if_pos e]
    have q := fsm_sh (f := fun i => cwt (Q.2.2.1 c i)) (j := j) (Q.2.1 c - 1)
    rw [show Q.2.1 c - 1 + 1 = Q.2.1 c by rw [e]; omega] at q
    refine Nat.le_trans (Nat.le_of_eq (fsm_c (fun i hi => ?_))) q
    rw [oe]
    by_cases d : j ≤ i
    · rw [if_pos ⟨e, d⟩, if_pos d]
    · rw [if_neg (fun z => d z.2), if_neg d]
  · rw [if_neg e]
    refine Nat.le_of_eq (fsm_c (fun i hi => ?_))
    rw [oe, if_neg (fun z => e z.1)]
theorem MGn_w : ∀ {m : Nat} {Q R : gPg}, MGn k m Q R → wsm cwt R ≤ wsm cwt Q
  | 0, _, _, h => by rw [h.1]; exact Nat.le_refl _
  | m + 1, Q, R, ⟨b, j, q, h⟩ => Nat.le_trans (MGn_w h) (wsm_mg q.1)
theorem GVr_w : ∀ {f t : Nat} {Q : gPg} {nm sl : Nat} {r : Int} {Z : gPg × (Nat → Int) × Nat}, gvI Q nm → GVr k dp f t Q nm sl r Z → r ≠ -1 → wsm cwt Z.1 ≤ wsm cwt Q
  | 0, _, _, _, _, _, _, _, h, hr => absurd h.1 hr
  | f + 1, t, Q, nm, sl, r, Z, hI, ⟨R, n, p, ⟨⟨m, hm⟩, ta⟩, h⟩, hr => by
    obtain ⟨gR, -⟩ := gvI_m hI hm
    have w1 := MGn_w hm
    rcases h with ⟨a1, a2, a3⟩ | ⟨a1, a2, a3, a4⟩ | ⟨a1, a2, a3⟩
    · rw [a3]; exact w1
    · exact absurd a3 hr
    · obtain ⟨qi1, qi2, qi3, qi4⟩ := spP_i (so := soU (unc R (clN (JJ R) k p n n)) sl) gR
      have w2 := GVr_w qi2 a3 hr
      have w3 : wsm cwt (spP (soU (unc R (clN (JJ R) k p n n)) sl) R nm R.1).1 ≤ wsm cwt R := spP_w (so := soU (unc R (clN (JJ R) k p n n)) sl) (Q := R) gR.2.1 R.1
      omega
/-- where it begins -/
theorem fsm_k {f : Nat → Nat} {q : Nat} : ∀ n, (∀ i, i < n → f i ≤ q) → fsm f n ≤ q * n
  | 0, _ => Nat.zero_le _
  | n + 1, h => by
    have i := fsm_k (f := f) (q := q) n (fun i hi => h i (by omega))
    have c := h n (Nat.lt_succ_self n)
    show fsm f n + f n ≤ q * (n + 1)
    rw [Nat.mul_succ]
    omega
theorem cwO_1 : cwO x + 14 * oc1 x ≤ 17 := by
  have o := oc1_le (x := x)
  unfold cwO
  by_cases c : 0 ≤ x
  · rw [if_pos c]; omega
  · rw [if_neg c]
    have e : oc1 x = 0 := if_neg (fun z => c z.1)
    omega
theorem cwO_11 : cwO x ≤ 11 := by
  unfold cwO
  split <;> omega
theorem cwt_r (h : l 0 ≤ 16) : cwt l ≤ 59 := by
  have a := cwO_1 (x := l 2)
  have c := cwO_1 (x := l 4)
  have o1 := oc1_le (x := l 1)
  have o2 := oc1_le (x := l 2)
  have o4 := oc1_le (x := l 4)
  unfold cwt occ cwL
  by_cases h1 : l 0 ≤ 13
  · rw [if_pos h1]; omega
  · rw [if_neg h1]
    by_cases h2 : l 0 = 14
    · rw [if_pos h2]; omega
    · rw [if_neg h2]
      by_cases h3 : l 0 = 15
      · rw [if_pos h3]; omega
      · rw [if_neg h3, if_pos (by omega)]; omega
theorem cwt_e (h : 19 ≤ l 0) (h1 : l 1 = -1) (h4 : l 4 = -1) : cwt l ≤ 29 := by
  have a := cwO_1 (x := l 2)
  have o2 := oc1_le (x := l 2)
  unfold cwt occ cwL
  rw [h1, h4, oc1_n, if_neg (by omega), if_neg (by omega), if_neg (by omega), if_neg (by omega), if_neg (by omega)]
  by_cases h2 : l 0 = 19
  · rw [if_pos h2]; omega
  · rw [if_neg h2]
    by_cases h3 : l 0 = 20
    · rw [if_pos h3]; omega
    · rw [if_neg h3]; omega
theorem fsm_59 {f g : Nat → Nat} : ∀ n, (∀ i, i < n → f i + 30 ≤ 59 * g i) → fsm f n + 30 * n ≤ 59 * fsm g n
  | 0, _ => Nat.le_refl _
  | n + 1, h => by
    have i := fsm_59 (f := f) (g := g) n (fun i hi => h i (by omega))
    have q := h n (Nat.lt_succ_self n)
    show fsm f n + f n + 30 * (n + 1) ≤ 59 * (fsm g n + g n)
    omega
theorem wsm_P (hb : ∀ b, b < P.1 → blC (P.2.1 b) (P.2.2.1 b) (P.2.2.2 b)) : wsm cwt P + 30 * P.1 ≤ 59 * lsm P := by
  unfold wsm lsm
  refine fsm_59 P.1 (fun b hb1 => ?_)
  obtain ⟨c0, c1, c2, c3⟩ := hb b hb1
  obtain ⟨m, em⟩ : ∃ m, P.2.1 b = m + 1 := ⟨P.2.1 b - 1, by omega⟩
  rw [em] at c1 c2 c3 ⊢
  rw [show m + 1 - 1 = m from rfl] at c2 c3
  show fsm (fun j => cwt (P.2.2.1 b j)) m + cwt (P.2.2.1 b m) + 30 ≤ 59 * (m + 1)
  have i := fsm_k (f := fun j => cwt (P.2.2.1 b j)) (q := 59) m (fun i hi => cwt_r (by have := (c1 i (by omega)).1; omega))
  have e := cwt_e (l := P.2.2.1 b m) (by unfold edG at c3; omega) c2.1 c2.2.2.1
  omega
theorem wsm_Z (h0 : 0 < P.1) : wsm cwt (pgZ P) ≤ 3200 + wsm cwt P := by
  obtain ⟨m, em⟩ : ∃ m, P.1 = 1 + m := ⟨P.1 - 1, by omega⟩
  have cz := cntP_le (T := lz P) 100
  unfold wsm
  show fsm (fun b => fsm (fun j => cwt (if b = 0 then (if j < cntP (lz P) 100 then mkL 14 (nthT (lz P) 100 j : Int) (-1) 0 (-1) 0 else P.2.2.1 0 (j - cntP (lz P) 100)) else P.2.2.1 b j)) (if b = 0 then cntP (lz P) 100 + P.2.1 0 else P.2.1 b)) P.1 ≤ 3200 + fsm (fun b => fsm (fun j => cwt (P.2.2.1 b j)) (P.2.1 b)) P.1
  rw [em, fsm_ap m, fsm_ap m]
  have e1 : fsm (fun i => (fun b => fsm (fun j => cwt (if b = 0 then (if j < cntP (lz P) 100 then mkL 14 (nthT (lz P) 100 j : Int) (-1) 0 (-1) 0 else P.2.2.1 0 (j - cntP (lz P) 100)) else P.2.2.1 b j)) (if b = 0 then cntP (lz P) 100 + P.2.1 0 else P.2.1 b)) (1 + i)) m = fsm (fun i => (fun b => fsm (fun j => cwt (P.2.2.1 b j)) (P.2.1 b)) (1 + i)) m := by
    refine fsm_c (fun c hc => ?_)
    have ne : ¬ 1 + c = 0 := by omega
    simp only [if_neg ne]
  have e2 : fsm (fun j => cwt (if (0 : Nat) = 0 then (if j < cntP (lz P) 100 then mkL 14 (nthT (lz P) 100 j : Int) (-1) 0 (-1) 0 else P.2.2.1 0 (j - cntP (lz P) 100)) else P.2.2.1 0 j)) (if (0 : Nat) = 0 then cntP (lz P) 100 + P.2.1 0 else P.2.1 0) ≤ 3200 + fsm (fun j => cwt (P.2.2.1 0 j)) (P.2.1 0) := by
    rw [if_pos rfl, fsm_ap]
    have a := fsm_k (f := fun j => cwt (if (0 : Nat) = 0 then (if j < cntP (lz P) 100 then mkL 14 (nthT (lz P) 100 j : Int) (-1) 0 (-1) 0 else P.2.2.1 0 (j - cntP (lz P) 100)) else P.2.2.1 0 j)) (q := 32) (cntP (lz P) 100) (fun i hi => by
      show cwt (if (0 : Nat) = 0 then (if i < cntP (lz P) 100 then mkL 14 (nthT (lz P) 100 i : Int) (-1) 0 (-1) 0 else P.2.2.1 0 (i - cntP (lz P) 100)) else P.2.2.1 0 i) ≤ 32
      rw [if_pos rfl, if_pos hi]
      unfold cwt
      have o := oc1_le (x := (nthT (lz P) 100 i : Int))
      have e : cwL (mkL 14 (nthT (lz P) 100 i : Int) (-1) 0 (-1) 0) = 18 := rfl
      rw [e, occ_mk, oc1_n]
      omega)
    have c : fsm (fun i => (fun j => cwt (if (0 : Nat) = 0 then (if j < cntP (lz P) 100 then mkL 14 (nthT (lz P) 100 j : Int) (-1) 0 (-1) 0 else P.2.2.1 0 (j - cntP (lz P) 100)) else P.2.2.1 0 j)) (cntP (lz P) 100 + i)) (P.2.1 0) = fsm (fun j => cwt (P.2.2.1 0 j)) (P.2.1 0) := by
      refine fsm_c (fun i hi => ?_)
      show cwt (if (0 : Nat) = 0 then (if cntP (lz P) 100 + i < cntP (lz P) 100 then mkL 14 (nthT (lz P) 100 (cntP (lz P) 100 + i) : Int) (-1) 0 (-1) 0 else P.2.2.1 0 (cntP (lz P) 100 + i - cntP (lz P) 100)) else P.2.2.1 0 (cntP (lz P) 100 + i)) = _
      rw [if_pos rfl, if_neg (by omega), show cntP (lz P) 100 + i - cntP (lz P) 100 = i by omega]
    exact Nat.le_trans (Nat.add_le_add a (Nat.le_of_eq c)) (Nat.add_le_add_right (Nat.le_trans (Nat.mul_le_mul_left 32 cz) (Nat.le_refl 3200)) _)
  have s1 : ∀ f : Nat → Nat, fsm f 1 = f 0 := fun f => Nat.zero_add _
  rw [s1, s1, e1]
  exact Nat.le_trans (Nat.add_le_add_right e2 _) (Nat.le_of_eq (Nat.add_assoc _ _ _))
theorem wsm_0 {B : Int → Int} {n : Int} (hB : bOk B n) (h : okP B n P) : wsm cwt P ≤ 10600 ∧ P.1 ≤ 40 ∧ wsm cwt (pgZ P) ≤ 13800 := by
  obtain ⟨f1, f2, f3, f4, f5, f6⟩ := okP_f hB h
  have l1 : lsm P ≤ 160 + P.1 := by
    obtain ⟨j, st, lf, ln, op, rw, h1, h2, h3⟩ := h
    obtain ⟨⟨-, -, w3, -, w5, -, -, -, -, -, -, w12, w13, -⟩, -⟩ := mrn_w hB h1
    have w := w5 rfl
    unfold lsm
    omega
  have a := wsm_P f6
  have c := wsm_Z f3
  exact ⟨by omega, f2, by omega⟩
/-! stores: what they keep is a register -/
def stL6 (l : Nat → Int) (_ : Nat) : Prop := l 0 = 18 → 0 ≤ l 2
def stQ (Q : gPg) : Prop := ∀ b j, b < Q.1 → j < Q.2.1 b → stL6 (Q.2.2.1 b j) 0
theorem stL_m : ∀ (l : Nat → Int) (a c : Nat), a ≤ c → stL6 l a → stL6 l c := fun _ _ _ _ h => h
theorem stQ_mg (h : stQ Q) (hm : mgb Q k b j) : stQ (mg1 Q b j) := fun d i hd hi h18 => by
  have hi2 : i < if d = b then Q.2.1 d - 1 else Q.2.1 d := hi
  have hx : (if d = b ∧ j ≤ i then i + 1 else i) < Q.2.1 d := by
    by_cases e : d = b
    · rw [if_pos e] at hi2; split <;> omega
    · rw [if_neg e] at hi2; rw [if_neg (fun z => e z.1)]; exact hi2
  have q : 0 ≤ Q.2.2.1 d (if d = b ∧ j ≤ i then i + 1 else i) 2 := h d _ hd hx h18
  obtain ⟨-, -, -, m1, m2, -⟩ := hm
  show 0 ≤ rnV (max (Q.2.2.1 b j 1) (Q.2.2.1 b j 2)) (min (Q.2.2.1 b j 1) (Q.2.2.1 b j 2)) (Q.2.2.1 d (if d = b ∧ j ≤ i then i + 1 else i) 2)
  unfold rnV
  by_cases c : Q.2.2.1 d (if d = b ∧ j ≤ i then i + 1 else i) 2 = max (Q.2.2.1 b j 1) (Q.2.2.1 b j 2)
  · rw [if_pos c]; omega
  · rw [if_neg c]; exact q
theorem stQ_MG : ∀ {m : Nat} {Q R : gPg}, stQ Q → MGn k m Q R → stQ R
  | 0, _, _, h, g => by rw [g.1]; exact h
  | m + 1, _, _, h, ⟨b, j, q, g⟩ => stQ_MG (stQ_mg h q.1) g
theorem ldV_p (h : 0 ≤ x) : 0 ≤ ldV so x nm := by
  unfold ldV
  by_cases c : slf so x = -1
  · rw [if_pos c]; exact h
  · rw [if_neg c]; omega
theorem st_N (h : allL stL6 s) : allL stL6 (ldN so x s) := by
  unfold ldN
  by_cases c : slf so x = -1
  · rw [if_pos c]; exact h
  · rw [if_neg c]; exact allL_L stL_m h (Nat.le_succ _) (fun z => absurd (show (17 : Int) = 18 from z) (by decide))
theorem st_Ln (hl : stL6 l 0) (h : allL stL6 s) : allL stL6 (spLn so l s) := by
  have r : allL stL6 (spR so l s) := by
    unfold spR
    split
    · exact st_N h
    · exact st_N (st_N h)
  unfold spLn spW
  by_cases c : slf so (l 1) = -1
  · rw [if_pos c]; exact allL_L stL_m r (Nat.le_refl _) (fun z => ldV_p (hl z))
  · rw [if_neg c]
    have a1 := allL_L (l := mkL (l 0) ((spR so l s).2 : Int) (ldV so (l 2) s.2) (l 3) (spV so l s) (l 5)) (m := (spR so l s).2 + 1) stL_m r (Nat.le_succ _) (fun z => ldV_p (hl z))
    exact allL_L (s := (pgL (spR so l s).1 (mkL (l 0) ((spR so l s).2 : Int) (ldV so (l 2) s.2) (l 3) (spV so l s) (l 5)), (spR so l s).2 + 1)) stL_m a1 (Nat.le_refl _) (fun _ => Int.natCast_nonneg _)
theorem st_B {ls : Nat → Nat → Int} (h : allL stL6 s) : ∀ m, (∀ j, j < m → stL6 (ls j) 0) → allL stL6 (spB so ls m s)
  | 0, _ => h
  | m + 1, hl => st_Ln (hl m (Nat.lt_succ_self m)) (st_B h m (fun j hj => hl j (by omega)))
theorem st_P : ∀ b, (∀ c j, c < b → j < R.2.1 c → stL6 (R.2.2.1 c j) 0) → allL stL6 (spP so R nm b)
  | 0, _ => fun b j hb _ => absurd hb (Nat.not_lt_zero b)
  | b + 1, h => st_B (s := (pgOL R (spP so R nm b).1, (spP so R nm b).2)) (allL_OL (st_P b (fun c j hc => h c j (by omega)))) (R.2.1 b) (fun j hj => h b j (Nat.lt_succ_self b) hj)
theorem GVr_st : ∀ {f t : Nat} {Q : gPg} {nm sl : Nat} {r : Int} {Z : gPg × (Nat → Int) × Nat}, stQ Q → GVr k dp f t Q nm sl r Z → r ≠ -1 → stQ Z.1
  | 0, _, _, _, _, _, _, _, h, hr => absurd h.1 hr
  | f + 1, t, Q, nm, sl, r, Z, hI, ⟨R, n, p, ⟨⟨m, hm⟩, ta⟩, h⟩, hr => by
    have w1 := stQ_MG hI hm
    rcases h with ⟨a1, a2, a3⟩ | ⟨a1, a2, a3, a4⟩ | ⟨a1, a2, a3⟩
    · rw [a3]; exact w1
    · exact absurd a3 hr
    · exact GVr_st (fun b i hb hi h18 => st_P R.1 (fun c j hc hj => w1 c j hc hj) b i hb hi h18) a3 hr
theorem st_rd (hb : ∀ b, b < P.1 → blC (P.2.1 b) (P.2.2.1 b) (P.2.2.2 b)) : stQ P := fun b j h1 h2 h18 => by
  obtain ⟨c0, c1, c2, c3⟩ := hb b h1
  by_cases e : j + 1 < P.2.1 b
  · have := (c1 j e).1; omega
  · rw [show P.2.1 b - 1 = j by omega] at c3
    unfold edG at c3
    omega
theorem st_Z (hb : ∀ b, b < P.1 → blC (P.2.1 b) (P.2.2.1 b) (P.2.2.2 b)) : stQ (pgZ P) := fun b i hb1 hi h18 => by
  have hi2 : i < if b = 0 then cntP (lz P) 100 + P.2.1 0 else P.2.1 b := hi
  have h18' : (if b = 0 then (if i < cntP (lz P) 100 then mkL 14 (nthT (lz P) 100 i : Int) (-1) 0 (-1) 0 else P.2.2.1 0 (i - cntP (lz P) 100)) else P.2.2.1 b i) 0 = 18 := h18
  show 0 ≤ (if b = 0 then (if i < cntP (lz P) 100 then mkL 14 (nthT (lz P) 100 i : Int) (-1) 0 (-1) 0 else P.2.2.1 0 (i - cntP (lz P) 100)) else P.2.2.1 b i) 2
  have hb2 : b < P.1 := hb1
  by_cases e : b = 0
  · rw [if_pos e] at hi2 h18' ⊢
    by_cases g : i < cntP (lz P) 100
    · rw [if_pos g] at h18'
      exact absurd (show (14 : Int) = 18 from h18') (by decide)
    · rw [if_neg g] at h18' ⊢
      exact st_rd hb 0 _ (by omega) (by omega) h18'
  · rw [if_neg e] at hi2 h18' ⊢
    exact st_rd hb b i hb2 hi2 h18'
/-- letters of a line -/
theorem zlO_l {y : Int} (h : x ≤ 99) : (zlO x y).length ≤ cwO x := by
  unfold zlO cwO
  by_cases c : 0 ≤ x
  · rw [if_pos c, if_pos c]
    have q := dgI_2 c h
    show (dgI x).length + 1 ≤ 3
    omega
  · rw [if_neg c, if_neg c]
    exact dgI_l
theorem zit_l {p : Prop} [Decidable p] {a b : List Int32} (ha : a.length ≤ 2) (hb : b.length ≤ 2) : (if p then a else b).length ≤ 2 := by
  by_cases c : p
  · rw [if_pos c]; exact ha
  · rw [if_neg c]; exact hb
theorem zlS_l {o : Int} : (zlS o).length ≤ 2 := by
  unfold zlS
  repeat refine zit_l (by decide) ?_
  decide
theorem zlR_l (h : rnO l) : (zlR l).length + 1 ≤ cwL l := by
  obtain ⟨o0, o2, o4, o1, o5⟩ := h
  have a2 := zlO_l (y := l 3) o2.2
  have a4 := zlO_l (y := l 5) o4.2
  have s0 := zlS_l (o := l 0)
  have c : l 0 ≤ 13 ∨ l 0 = 14 ∨ l 0 = 15 ∨ l 0 = 16 ∨ l 0 = 17 ∨ l 0 = 18 := by omega
  unfold zlR zlE cwL
  rcases c with c | c | c | c | c | c
  · have d1 := o1 (Or.inl (by omega))
    have d := dgI_2 d1.1 d1.2
    rw [if_neg (by omega), if_neg (by omega), if_neg (by omega), if_neg (by omega), if_pos c, if_pos c]
    simp only [List.length_append, List.length_cons, List.length_nil]
    omega
  · have d1 := o1 (Or.inl (by omega))
    have d := dgI_2 d1.1 d1.2
    rw [if_neg (by omega), if_neg (by omega), if_neg (by omega), if_neg (by omega), if_neg (by omega), if_neg (by omega), if_pos c]
    simp only [List.length_append, List.length_cons, List.length_nil]
    omega
  · have d1 := o1 (Or.inl (by omega))
    have d := dgI_2 d1.1 d1.2
    rw [if_neg (by omega), if_neg (by omega), if_pos c, if_neg (by omega), if_neg (by omega), if_pos c]
    simp only [List.length_append, List.length_cons, List.length_nil]
    omega
  · rw [if_pos c, if_neg (by omega), if_neg (by omega), if_neg (by omega), if_pos c]
    simp only [List.length_append, List.length_cons, List.length_nil]
    omega
  · have d1 := o1 (Or.inr c)
    have d := dgI_2 d1.1 d1.2
    have e1 := o5 (Or.inl c)
    have e := dgI_2 e1.1 e1.2
    rw [if_neg (by omega), if_neg (by omega), if_neg (by omega), if_pos c, if_neg (by omega), if_neg (by omega), if_neg (by omega), if_neg (by omega), if_pos (by omega)]
    simp only [List.length_append, List.length_cons, List.length_nil]
    omega
  · have e1 := o5 (Or.inr c)
    have e := dgI_2 e1.1 e1.2
    have f : (dgI (l 2)).length ≤ 2 ∨ l 2 = -1 := by
      by_cases g : 0 ≤ l 2
      · exact Or.inl (dgI_2 g o2.2)
      · exact Or.inr (by omega)
    have f2 : (dgI (l 2)).length ≤ 2 := by
      rcases f with f | f
      · exact f
      · rw [f]; decide +kernel
    rw [if_neg (by omega), if_pos c, if_neg (by omega), if_neg (by omega), if_neg (by omega), if_neg (by omega), if_pos (by omega)]
    simp only [List.length_append, List.length_cons, List.length_nil]
    omega
theorem zlF_l (h : edO l) (hG : edG (l 0) (g 0) (g 1)) : (zlF g l).length + 1 ≤ cwL l := by
  obtain ⟨o1, o2, o4, o5⟩ := h
  have a2 := zlO_l (y := l 3) o2.2
  unfold edG at hG
  unfold zlF cwL
  rcases hG with ⟨c, g0, g1, g2⟩ | ⟨c, g0, g1, g2, g3⟩ | ⟨c, g0, g1⟩
  · have d := dgI_2 g0 (show g 0 ≤ 99 by omega)
    rw [if_neg (by omega), if_pos c, if_neg (by omega), if_neg (by omega), if_neg (by omega), if_neg (by omega), if_neg (by omega), if_pos c]
    simp only [List.length_append, List.length_cons, List.length_nil]
    omega
  · have d := dgI_2 g0 (show g 0 ≤ 99 by omega)
    have e := dgI_2 g2 (show g 1 ≤ 99 by omega)
    rw [if_neg (by omega), if_neg (by omega), if_neg (by omega), if_neg (by omega), if_neg (by omega), if_neg (by omega), if_neg (by omega), if_neg (by omega), if_pos c]
    simp only [List.length_append, List.length_cons, List.length_nil]
    omega
  · rw [if_pos c, if_neg (by omega), if_neg (by omega), if_neg (by omega), if_neg (by omega), if_neg (by omega), if_neg (by omega), if_neg (by omega)]
    simp only [List.length_append, List.length_cons, List.length_nil]
    omega
theorem zlJ_l (hP : rnP Q) (hb : b < Q.1) : ∀ j, j ≤ Q.2.1 b → (zlJ Q b j).length ≤ fsm (fun i => cwL (Q.2.2.1 b i)) j
  | 0, _ => Nat.le_refl _
  | j + 1, h => by
    have i := zlJ_l hP hb j (by omega)
    show (zlJ Q b j ++ zlN (Q.2.2.2 b) (Q.2.2.1 b j)).length ≤ fsm (fun i => cwL (Q.2.2.1 b i)) j + cwL (Q.2.2.1 b j)
    rw [List.length_append]
    have q : (zlN (Q.2.2.2 b) (Q.2.2.1 b j)).length ≤ cwL (Q.2.2.1 b j) := by
      unfold zlN
      rcases rn_row hP hb (show j < Q.2.1 b by omega) with ⟨a1, a2, a3⟩ | ⟨a1, a2, a3, a4⟩
      · rw [if_pos a1, List.length_append]; exact zlR_l a3
      · rw [if_neg (by omega), List.length_append]; exact zlF_l a3 a4
    omega
theorem zlB_l (hP : rnP Q) : ∀ c, c ≤ Q.1 → (zlB Q c).length ≤ 5 * c + fsm (fun b => fsm (fun j => cwL (Q.2.2.1 b j)) (Q.2.1 b)) c
  | 0, _ => Nat.le_refl _
  | c + 1, h => by
    have i := zlB_l hP c (by omega)
    have q := zlJ_l hP (show c < Q.1 by omega) (Q.2.1 c) (Nat.le_refl _)
    have p1 := hP.1.2
    have d := dgI_2 (x := (c : Int)) (by omega) (by omega)
    show (zlB Q c ++ zlG Q c).length ≤ 5 * (c + 1) + (fsm (fun b => fsm (fun j => cwL (Q.2.2.1 b j)) (Q.2.1 b)) c + fsm (fun j => cwL (Q.2.2.1 c j)) (Q.2.1 c))
    unfold zlG
    simp only [List.length_append, List.length_cons, List.length_nil]
    omega
theorem wsm_c (h : ∀ b j, b < Q.1 → j < Q.2.1 b → cwL (Q.2.2.1 b j) ≤ cwt (R.2.2.1 b j)) (h1 : R.1 = Q.1) (h2 : R.2.1 = Q.2.1) : wsm cwL Q ≤ wsm cwt R := by
  unfold wsm
  rw [h1, h2]
  exact fsm_le Q.1 (fun b hb => fsm_le _ (fun j hj => h b j hb hj))
/-- a program that was read -/
theorem zl_rd {B : Int → Int} {n : Int} (hB : bOk B n) (h : okP B n P) : (zlB P P.1).length ≤ 16384 := by
  obtain ⟨a1, a2, -⟩ := wsm_0 hB h
  have q := zlB_l (rnP_P hB h) P.1 (Nat.le_refl _)
  have e : wsm cwL P ≤ wsm cwt P := wsm_c (fun b j _ _ => Nat.le_add_right _ _) rfl rfl
  unfold wsm at e
  unfold wsm at a1
  omega
/-- what is given out -/
theorem zl_fn {B : Int → Int} {n : Int} {f t : Nat} {r : Int} {Z : gPg × (Nat → Int) × Nat} (hk : 0 ≤ k) (hk2 : k ≤ 32) (hB : bOk B n) (hP : okP B n P) (h : GVr k dp f t (pgZ P) 100 0 r Z) (hr : r ≠ -1) : (zlB (fnP Z) (fnP Z).1).length ≤ 16384 := by
  have ok := GVr_okP hk hB hP h hr
  have w := GVr_w (gvI_Z hB hP) h hr
  obtain ⟨a1, a2, a3⟩ := wsm_0 hB hP
  have rn := fn_run hk2 ok
  have q := zlB_l rn (fnP Z).1 (Nat.le_refl _)
  have p1 := rn.1.2
  obtain ⟨-, ⟨nm, i1, i2, i3, i4, i5, i6⟩, -, -, h5⟩ := ok
  have cm : ∀ b j f, b < Z.1.1 → j < Z.1.2.1 b → (f = 1 ∨ f = 2 ∨ f = 4) → Z.1.2.2.1 b j f < 2000 → cwO (cM Z.2.1 (Z.1.2.2.1 b j f)) = cwO (Z.1.2.2.1 b j f) := fun b j f hb hj hf h19 => by
    unfold cM
    by_cases c : 0 ≤ Z.1.2.2.1 b j f
    · rw [if_pos c]
      exact cwO_e (Or.inl ⟨(h5 _ (Sd_f hb hj hf c h19)).1, c⟩)
    · rw [if_neg c]
  have e : wsm cwL (fnP Z) ≤ wsm cwt Z.1 := wsm_c (fun b j hb hj => by
    obtain ⟨m1, m2, m4⟩ := i1 b j hb hj
    have e1 : cwL ((fnP Z).2.2.1 b j) = cwL (Z.1.2.2.1 b j) := cwL_e rfl (cm b j 2 hb hj (Or.inr (Or.inl rfl)) (by omega)) (cm b j 4 hb hj (Or.inr (Or.inr rfl)) (by omega))
    rw [e1]
    exact Nat.le_add_right _ _) rfl rfl
  have e2 : fsm (fun b => fsm (fun j => cwL ((fnP Z).2.2.1 b j)) ((fnP Z).2.1 b)) (fnP Z).1 = wsm cwL (fnP Z) := rfl
  omega
theorem st_fn {B : Int → Int} {n : Int} {f t : Nat} {r : Int} {Z : gPg × (Nat → Int) × Nat} (hk : 0 ≤ k) (hB : bOk B n) (hP : okP B n P) (h : GVr k dp f t (pgZ P) 100 0 r Z) (hr : r ≠ -1) : stQ (fnP Z) := fun b j hb hj h18 => by
  have ok := GVr_okP hk hB hP h hr
  have q : 0 ≤ Z.1.2.2.1 b j 2 := GVr_st (st_Z (okP_f hB hP).2.2.2.2.2) h hr b j hb hj h18
  obtain ⟨-, ⟨nm, i1, i2, i3, i4, i5, i6⟩, -, -, h5⟩ := ok
  obtain ⟨m1, m2, m4⟩ := i1 b j hb hj
  show 0 ≤ cM Z.2.1 (Z.1.2.2.1 b j 2)
  unfold cM
  rw [if_pos q]
  exact (h5 _ (Sd_f hb hj (Or.inr (Or.inl rfl)) q (by omega))).1
end WT
