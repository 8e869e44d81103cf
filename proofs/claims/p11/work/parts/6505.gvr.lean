/-! giving out, over programs: slots, loads and stores, the rounds -/
section SPL
variable {so : Nat → Int} {x : Int} {l : Nat → Int} {Q R : gPg} {nm b j v n : Nat}
/-- the slot of x, or -1 -/
def slf (so : Nat → Int) (x : Int) : Int := if 0 ≤ x ∧ x < 100 then so x.toNat else -1
abbrev gSp6 := gPg × Nat
variable {s t : gSp6}
def ldN (so : Nat → Int) (x : Int) (s : gSp6) : gSp6 := if slf so x = -1 then s else (pgL s.1 (mkL 17 (s.2 : Int) (-1) 0 (-1) (slf so x)), s.2 + 1)
def ldV (so : Nat → Int) (x : Int) (nm : Nat) : Int := if slf so x = -1 then x else (nm : Int)
def spR (so : Nat → Int) (l : Nat → Int) (s : gSp6) : gSp6 := if l 4 = l 2 then ldN so (l 2) s else ldN so (l 4) (ldN so (l 2) s)
def spV (so : Nat → Int) (l : Nat → Int) (s : gSp6) : Int := if l 4 = l 2 then ldV so (l 2) s.2 else ldV so (l 4) (ldN so (l 2) s).2
def spW (so : Nat → Int) (l : Nat → Int) (a c : Int) (s : gSp6) : gSp6 :=
  if slf so (l 1) = -1 then (pgL s.1 (mkL (l 0) (l 1) a (l 3) c (l 5)), s.2)
  else (pgL (pgL s.1 (mkL (l 0) (s.2 : Int) a (l 3) c (l 5))) (mkL 18 (-1) (s.2 : Int) 0 (-1) (slf so (l 1))), s.2 + 1)
def spLn (so : Nat → Int) (l : Nat → Int) (s : gSp6) : gSp6 := spW so l (ldV so (l 2) s.2) (spV so l s) (spR so l s)
def spB (so : Nat → Int) (ls : Nat → Nat → Int) : Nat → gSp6 → gSp6
  | 0, s => s
  | j + 1, s => spLn so (ls j) (spB so ls j s)
def spP (so : Nat → Int) (Q : gPg) (nm : Nat) : Nat → gSp6
  | 0 => (pgO, nm)
  | b + 1 => spB so (Q.2.2.1 b) (Q.2.1 b) (pgOL Q (spP so Q nm b).1, (spP so Q nm b).2)
/-- registers named in a line, in a program -/
def oc1 (x : Int) : Nat := if 0 ≤ x ∧ x < 100 then 1 else 0
def occ (l : Nat → Int) : Nat := oc1 (l 1) + oc1 (l 2) + oc1 (l 4)
def osm (Q : gPg) : Nat := fsm (fun b => fsm (fun j => occ (Q.2.2.1 b j)) (Q.2.1 b)) Q.1
def lsm (Q : gPg) : Nat := fsm Q.2.1 Q.1
theorem oc1_h (h : 100 ≤ x) : oc1 x = 0 := if_neg (by omega)
theorem oc1_n : oc1 (-1) = 0 := by decide
theorem oc1_le : oc1 x ≤ 1 := by unfold oc1; split <;> omega
theorem oc1_s (h : ¬ slf so x = -1) : oc1 x = 1 := by
  unfold slf at h
  unfold oc1
  by_cases c : 0 ≤ x ∧ x < 100
  · rw [if_pos c]
  · rw [if_neg c] at h; exact absurd rfl h
theorem occ_mk {a c d e f g : Int} : occ (mkL a c d e f g) = oc1 c + oc1 d + oc1 f := rfl
theorem lsm_L (h : 0 < Q.1) : lsm (pgL Q l) = lsm Q + 1 := pgL_s h
theorem osm_L (h : 0 < Q.1) : osm (pgL Q l) = osm Q + occ l := by
  obtain ⟨m, em⟩ : ∃ m, Q.1 = m + 1 := ⟨Q.1 - 1, by omega⟩
  unfold osm
  show fsm (fun b => fsm (fun j => occ (if b + 1 = Q.1 ∧ j = Q.2.1 b then l else Q.2.2.1 b j)) (if b + 1 = Q.1 then Q.2.1 b + 1 else Q.2.1 b)) Q.1 = _
  rw [em]
  show fsm (fun b => fsm (fun j => occ (if b + 1 = m + 1 ∧ j = Q.2.1 b then l else Q.2.2.1 b j)) (if b + 1 = m + 1 then Q.2.1 b + 1 else Q.2.1 b)) m + fsm (fun j => occ (if m + 1 = m + 1 ∧ j = Q.2.1 m then l else Q.2.2.1 m j)) (if m + 1 = m + 1 then Q.2.1 m + 1 else Q.2.1 m) = fsm (fun b => fsm (fun j => occ (Q.2.2.1 b j)) (Q.2.1 b)) m + fsm (fun j => occ (Q.2.2.1 m j)) (Q.2.1 m) + occ l
  rw [if_pos rfl]
  have e1 : fsm (fun b => fsm (fun j => occ (if b + 1 = m + 1 ∧ j = Q.2.1 b then l else Q.2.2.1 b j)) (if b + 1 = m + 1 then Q.2.1 b + 1 else Q.2.1 b)) m = fsm (fun b => fsm (fun j => occ (Q.2.2.1 b j)) (Q.2.1 b)) m := by
    refine fsm_c (fun c hc => ?_)
    rw [if_neg (show ¬ c + 1 = m + 1 by omega)]
    exact fsm_c (fun j hj => by rw [if_neg (fun z => by omega)])
  have e2 : fsm (fun j => occ (if m + 1 = m + 1 ∧ j = Q.2.1 m then l else Q.2.2.1 m j)) (Q.2.1 m + 1) = fsm (fun j => occ (Q.2.2.1 m j)) (Q.2.1 m) + occ l := by
    show fsm (fun j => occ (if m + 1 = m + 1 ∧ j = Q.2.1 m then l else Q.2.2.1 m j)) (Q.2.1 m) + occ (if m + 1 = m + 1 ∧ Q.2.1 m = Q.2.1 m then l else Q.2.2.1 m (Q.2.1 m)) = _
    rw [if_pos ⟨rfl, rfl⟩]
    congr 1
    exact fsm_c (fun j hj => by rw [if_neg (fun z => by omega)])
  rw [e1, e2]
  omega
theorem lsm_OL : lsm (pgOL Q R) = lsm R := by
  unfold lsm
  show fsm (fun b => if b = R.1 then 0 else R.2.1 b) R.1 + (if R.1 = R.1 then 0 else R.2.1 R.1) = _
  rw [if_pos rfl, Nat.add_zero]
  exact fsm_c (fun c hc => if_neg (by omega))
theorem osm_OL : osm (pgOL Q R) = osm R := by
  unfold osm
  show fsm (fun b => fsm (fun j => occ (R.2.2.1 b j)) (if b = R.1 then 0 else R.2.1 b)) R.1 + fsm (fun j => occ (R.2.2.1 R.1 j)) (if R.1 = R.1 then 0 else R.2.1 R.1) = _
  rw [if_pos rfl]
  show fsm (fun b => fsm (fun j => occ (R.2.2.1 b j)) (if b = R.1 then 0 else R.2.1 b)) R.1 + 0 = _
  rw [Nat.add_zero]
  exact fsm_c (fun c hc => by rw [if_neg (show ¬ c = R.1 by omega)])
/-- what a step may do: blocks stay, names and lines grow, and no more than its line's places allow -/
def spK (c : Nat) (d : Nat) (s t : gSp6) : Prop := t.1.1 = s.1.1 ∧ s.2 ≤ t.2 ∧ lsm s.1 ≤ lsm t.1 ∧ t.2 + osm t.1 ≤ s.2 + osm s.1 + c ∧ lsm t.1 + osm t.1 ≤ lsm s.1 + osm s.1 + c + d
theorem spK_0 : spK 0 0 s s := ⟨rfl, Nat.le_refl _, Nat.le_refl _, Nat.le_refl _, Nat.le_refl _⟩
theorem spK_t {u : gSp6} {c d c1 d1 : Nat} (h : spK c d s t) (h2 : spK c1 d1 t u) : spK (c + c1) (d + d1) s u := by
  obtain ⟨a1, a2, a3, a4, a5⟩ := h
  obtain ⟨b1, b2, b3, b4, b5⟩ := h2
  exact ⟨b1.trans a1, by omega, by omega, by omega, by omega⟩
theorem spK_m {c d c1 d1 : Nat} (h : spK c d s t) (hc : c ≤ c1) (hd : d ≤ d1) : spK c1 d1 s t := by
  obtain ⟨a1, a2, a3, a4, a5⟩ := h
  exact ⟨a1, a2, a3, by omega, by omega⟩
theorem ldN_k (h0 : 0 < s.1.1) (h1 : 100 ≤ s.2) : spK (if slf so x = -1 then 0 else 1) 0 s (ldN so x s) := by
  unfold ldN
  by_cases c : slf so x = -1
  · rw [if_pos c, if_pos c]; exact spK_0
  · rw [if_neg c, if_neg c]
    have e1 : lsm (pgL s.1 (mkL 17 (s.2 : Int) (-1) 0 (-1) (slf so x))) = lsm s.1 + 1 := lsm_L h0
    have e2 : osm (pgL s.1 (mkL 17 (s.2 : Int) (-1) 0 (-1) (slf so x))) = osm s.1 := by
      rw [osm_L h0, occ_mk, oc1_h (show (100 : Int) ≤ (s.2 : Int) by omega), oc1_n]
      rfl
    exact ⟨rfl, Nat.le_succ _, by show lsm s.1 ≤ lsm (pgL s.1 _); omega, by show s.2 + 1 + osm (pgL s.1 _) ≤ _; omega, by show lsm (pgL s.1 _) + osm (pgL s.1 _) ≤ _; omega⟩
theorem ldN_1 (h0 : 0 < s.1.1) : 0 < (ldN so x s).1.1 := by
  unfold ldN
  split
  · exact h0
  · exact h0
theorem ldN_2 (h1 : 100 ≤ s.2) : 100 ≤ (ldN so x s).2 := by
  unfold ldN
  split
  · exact h1
  · show 100 ≤ s.2 + 1; omega
theorem ldV_o (hn : 100 ≤ nm) : oc1 (ldV so x nm) + (if slf so x = -1 then 0 else 1) = oc1 x := by
  unfold ldV
  by_cases c : slf so x = -1
  · rw [if_pos c, if_pos c, Nat.add_zero]
  · rw [if_neg c, if_neg c, oc1_h (by omega), oc1_s c]
theorem spR_1 (h0 : 0 < s.1.1) : 0 < (spR so l s).1.1 := by
  unfold spR
  split
  · exact ldN_1 h0
  · exact ldN_1 (ldN_1 h0)
theorem spR_2 (h1 : 100 ≤ s.2) : 100 ≤ (spR so l s).2 := by
  unfold spR
  split
  · exact ldN_2 h1
  · exact ldN_2 (ldN_2 h1)
theorem spW_k {a c : Int} (h0 : 0 < s.1.1) (h1 : 100 ≤ s.2) : spK (oc1 (l 1) + oc1 a + oc1 c) 1 s (spW so l a c s) := by
  unfold spW
  by_cases q : slf so (l 1) = -1
  · rw [if_pos q]
    have e1 : lsm (pgL s.1 (mkL (l 0) (l 1) a (l 3) c (l 5))) = lsm s.1 + 1 := lsm_L h0
    have e2 : osm (pgL s.1 (mkL (l 0) (l 1) a (l 3) c (l 5))) = osm s.1 + (oc1 (l 1) + oc1 a + oc1 c) := osm_L h0
    exact ⟨rfl, Nat.le_refl _, by show lsm s.1 ≤ lsm (pgL s.1 _); omega, by show s.2 + osm (pgL s.1 _) ≤ _; omega, by show lsm (pgL s.1 _) + osm (pgL s.1 _) ≤ _; omega⟩
  · rw [if_neg q]
    have o1 := oc1_s q
    have h2 : oc1 (s.2 : Int) = 0 := oc1_h (by omega)
    have e1 : lsm (pgL (pgL s.1 (mkL (l 0) (s.2 : Int) a (l 3) c (l 5))) (mkL 18 (-1) (s.2 : Int) 0 (-1) (slf so (l 1)))) = lsm s.1 + 2 := by rw [lsm_L (show 0 < (pgL s.1 _).1 from h0), lsm_L h0]
    have e2 : osm (pgL (pgL s.1 (mkL (l 0) (s.2 : Int) a (l 3) c (l 5))) (mkL 18 (-1) (s.2 : Int) 0 (-1) (slf so (l 1)))) = osm s.1 + (oc1 a + oc1 c) := by
      rw [osm_L (show 0 < (pgL s.1 _).1 from h0), osm_L h0, occ_mk, occ_mk, h2, oc1_n]
      omega
    exact ⟨rfl, Nat.le_succ _, by show lsm s.1 ≤ lsm (pgL (pgL s.1 _) _); omega, by show s.2 + 1 + osm (pgL (pgL s.1 _) _) ≤ _; omega, by show lsm (pgL (pgL s.1 _) _) + osm (pgL (pgL s.1 _) _) ≤ _; omega⟩
theorem spLn_k (h0 : 0 < s.1.1) (h1 : 100 ≤ s.2) : spK (occ l) 1 s (spLn so l s) := by
  unfold spLn
  have w := spW_k (so := so) (l := l) (a := ldV so (l 2) s.2) (c := spV so l s) (spR_1 (so := so) (l := l) h0) (spR_2 h1)
  have r : spK ((if slf so (l 2) = -1 then 0 else 1) + (if l 4 = l 2 then 0 else if slf so (l 4) = -1 then 0 else 1)) 0 s (spR so l s) := by
    unfold spR
    by_cases c : l 4 = l 2
    · rw [if_pos c, if_pos c]; exact ldN_k h0 h1
    · rw [if_neg c, if_neg c]; exact spK_t (ldN_k h0 h1) (ldN_k (ldN_1 h0) (ldN_2 h1))
  have e2 := ldV_o (so := so) (x := l 2) h1
  have e4 : oc1 (spV so l s) + (if l 4 = l 2 then 0 else if slf so (l 4) = -1 then 0 else 1) ≤ oc1 (l 4) := by
    unfold spV
    by_cases c : l 4 = l 2
    · rw [if_pos c, if_pos c, c]; omega
    · rw [if_neg c, if_neg c]
      have := ldV_o (so := so) (x := l 4) (ldN_2 (so := so) (x := l 2) h1)
      omega
  refine spK_m (spK_t r w) ?_ (by omega)
  unfold occ
  omega
theorem spLn_1 (h0 : 0 < s.1.1) (h1 : 100 ≤ s.2) : 0 < (spLn so l s).1.1 ∧ 100 ≤ (spLn so l s).2 := by
  have q := spLn_k (so := so) (l := l) h0 h1
  exact ⟨by rw [q.1]; exact h0, Nat.le_trans h1 q.2.1⟩
theorem spB_k {ls : Nat → Nat → Int} (h0 : 0 < s.1.1) (h1 : 100 ≤ s.2) : ∀ m, spK (fsm (fun j => occ (ls j)) m) m s (spB so ls m s) ∧ 0 < (spB so ls m s).1.1 ∧ 100 ≤ (spB so ls m s).2
  | 0 => ⟨spK_0, h0, h1⟩
  | m + 1 => by
    obtain ⟨i1, i2, i3⟩ := spB_k (ls := ls) h0 h1 m
    exact ⟨spK_t i1 (spLn_k i2 i3), spLn_1 i2 i3⟩
theorem spB_m {ls : Nat → Nat → Int} (h0 : 0 < s.1.1) (h1 : 100 ≤ s.2) : ∀ d m, (spB so ls m s).2 ≤ (spB so ls (m + d) s).2 ∧ lsm (spB so ls m s).1 ≤ lsm (spB so ls (m + d) s).1
  | 0, _ => ⟨Nat.le_refl _, Nat.le_refl _⟩
  | d + 1, m => by
    have i := spB_m (ls := ls) h0 h1 d m
    obtain ⟨-, i2, i3⟩ := spB_k (so := so) (ls := ls) h0 h1 (m + d)
    have q := spLn_k (so := so) (l := ls (m + d)) i2 i3
    exact ⟨Nat.le_trans i.1 q.2.1, Nat.le_trans i.2 q.2.2.1⟩
theorem spP_k (h1 : 100 ≤ nm) : ∀ b, (spP so Q nm b).1.1 = b ∧ 100 ≤ (spP so Q nm b).2 ∧ (spP so Q nm b).2 + osm (spP so Q nm b).1 ≤ nm + fsm (fun b => fsm (fun j => occ (Q.2.2.1 b j)) (Q.2.1 b)) b ∧ lsm (spP so Q nm b).1 + osm (spP so Q nm b).1 ≤ fsm Q.2.1 b + fsm (fun b => fsm (fun j => occ (Q.2.2.1 b j)) (Q.2.1 b)) b
  | 0 => ⟨rfl, h1, Nat.le_refl _, Nat.le_refl _⟩
  | b + 1 => by
    obtain ⟨i1, i2, i3, i4⟩ := spP_k h1 b
    have q := spB_k (so := so) (ls := Q.2.2.1 b) (s := (pgOL Q (spP so Q nm b).1, (spP so Q nm b).2)) (Nat.succ_pos _) i2 (Q.2.1 b)
    obtain ⟨⟨k1, k2, k3, k4, k5⟩, -, k7⟩ := q
    have e1 : lsm (pgOL Q (spP so Q nm b).1) = lsm (spP so Q nm b).1 := lsm_OL
    have e2 : osm (pgOL Q (spP so Q nm b).1) = osm (spP so Q nm b).1 := osm_OL
    have k4' : (spP so Q nm (b + 1)).2 + osm (spP so Q nm (b + 1)).1 ≤ (spP so Q nm b).2 + osm (pgOL Q (spP so Q nm b).1) + fsm (fun j => occ (Q.2.2.1 b j)) (Q.2.1 b) := k4
    have k5' : lsm (spP so Q nm (b + 1)).1 + osm (spP so Q nm (b + 1)).1 ≤ lsm (pgOL Q (spP so Q nm b).1) + osm (pgOL Q (spP so Q nm b).1) + fsm (fun j => occ (Q.2.2.1 b j)) (Q.2.1 b) + Q.2.1 b := k5
    refine ⟨?_, k7, ?_, ?_⟩
    · show (spB so (Q.2.2.1 b) (Q.2.1 b) (pgOL Q (spP so Q nm b).1, (spP so Q nm b).2)).1.1 = b + 1
      rw [k1]
      show (spP so Q nm b).1.1 + 1 = b + 1
      rw [i1]
    · show _ ≤ nm + (fsm (fun b => fsm (fun j => occ (Q.2.2.1 b j)) (Q.2.1 b)) b + fsm (fun j => occ (Q.2.2.1 b j)) (Q.2.1 b))
      omega
    · show _ ≤ fsm Q.2.1 b + Q.2.1 b + (fsm (fun b => fsm (fun j => occ (Q.2.2.1 b j)) (Q.2.1 b)) b + fsm (fun j => occ (Q.2.2.1 b j)) (Q.2.1 b))
      omega
theorem spP_m (h1 : 100 ≤ nm) : ∀ d b, (spP so Q nm b).2 ≤ (spP so Q nm (b + d)).2 ∧ lsm (spP so Q nm b).1 ≤ lsm (spP so Q nm (b + d)).1
  | 0, _ => ⟨Nat.le_refl _, Nat.le_refl _⟩
  | d + 1, b => by
    have i := spP_m h1 d b
    obtain ⟨-, i2, -, -⟩ := spP_k (so := so) (Q := Q) h1 (b + d)
    have q := (spB_k (so := so) (ls := Q.2.2.1 (b + d)) (s := (pgOL Q (spP so Q nm (b + d)).1, (spP so Q nm (b + d)).2)) (Nat.succ_pos _) i2 (Q.2.1 (b + d))).1
    have e1 : lsm (pgOL Q (spP so Q nm (b + d)).1) = lsm (spP so Q nm (b + d)).1 := lsm_OL
    have q3 : lsm (pgOL Q (spP so Q nm (b + d)).1) ≤ lsm (spP so Q nm (b + d + 1)).1 := q.2.2.1
    exact ⟨Nat.le_trans i.1 q.2.1, by rw [e1] at q3; exact Nat.le_trans i.2 q3⟩
/-- what every line of a program that is being put together keeps -/
def allL (C : (Nat → Int) → Nat → Prop) (s : gSp6) : Prop := ∀ b j, b < s.1.1 → j < s.1.2.1 b → C (s.1.2.2.1 b j) s.2
theorem allL_L {C : (Nat → Int) → Nat → Prop} {m : Nat} (hm : ∀ l a c, a ≤ c → C l a → C l c) (h : allL C s) (h2 : s.2 ≤ m) (hl : C l m) : allL C (pgL s.1 l, m) := fun b j hb hj => by
  have hj2 : j < if b + 1 = s.1.1 then s.1.2.1 b + 1 else s.1.2.1 b := hj
  show C (if b + 1 = s.1.1 ∧ j = s.1.2.1 b then l else s.1.2.2.1 b j) m
  by_cases c : b + 1 = s.1.1 ∧ j = s.1.2.1 b
  · rw [if_pos c]; exact hl
  · rw [if_neg c]
    refine hm _ _ _ h2 (h b j hb ?_)
    by_cases d : b + 1 = s.1.1
    · rw [if_pos d] at hj2
      have : j ≠ s.1.2.1 b := fun e => c ⟨d, e⟩
      omega
    · rw [if_neg d] at hj2; exact hj2
theorem allL_OL {C : (Nat → Int) → Nat → Prop} (h : allL C s) : allL C (pgOL Q s.1, s.2) := fun b j hb hj => by
  have hb2 : b < s.1.1 + 1 := hb
  have hj2 : j < if b = s.1.1 then 0 else s.1.2.1 b := hj
  by_cases c : b = s.1.1
  · rw [if_pos c] at hj2; exact absurd hj2 (Nat.not_lt_zero j)
  · rw [if_neg c] at hj2; exact h b j (by omega) hj2
/-- a line's names behind the loads and stores: below m, and if below 100, without a slot and named in Q -/
def nwL6 (so : Nat → Int) (X : Nat → Prop) (l : Nat → Int) (m : Nat) : Prop := ∀ f, f = 1 ∨ f = 2 ∨ f = 4 → l f < (m : Int) ∧ (0 ≤ l f → l f < 100 → so (l f).toNat = -1 ∧ X (l f).toNat)
theorem nwL_m {X : Nat → Prop} : ∀ (l : Nat → Int) (a c : Nat), a ≤ c → nwL6 so X l a → nwL6 so X l c := fun l a c h h1 f hf => ⟨by have := (h1 f hf).1; omega, (h1 f hf).2⟩
theorem nwL_mk {X : Nat → Prop} {a c d e f g : Int} {m : Nat} (hc : c < (m : Int) ∧ (0 ≤ c → c < 100 → so c.toNat = -1 ∧ X c.toNat)) (hd : d < (m : Int) ∧ (0 ≤ d → d < 100 → so d.toNat = -1 ∧ X d.toNat)) (hf : f < (m : Int) ∧ (0 ≤ f → f < 100 → so f.toNat = -1 ∧ X f.toNat)) : nwL6 so X (mkL a c d e f g) m := fun i hi => by
  rcases hi with q | q | q
  · rw [q]; exact hc
  · rw [q]; exact hd
  · rw [q]; exact hf
theorem nw_t {X : Nat → Prop} {m : Nat} (h1 : 100 ≤ n) (h2 : n < m) : (n : Int) < (m : Int) ∧ (0 ≤ (n : Int) → (n : Int) < 100 → so (n : Int).toNat = -1 ∧ X (n : Int).toNat) := ⟨by omega, fun _ z => by omega⟩
theorem nw_n {X : Nat → Prop} {m : Nat} : (-1 : Int) < (m : Int) ∧ (0 ≤ (-1 : Int) → (-1 : Int) < 100 → so (-1 : Int).toNat = -1 ∧ X (-1 : Int).toNat) := ⟨by omega, fun z _ => by omega⟩
theorem nw_v {X : Nat → Prop} {m : Nat} (h1 : 100 ≤ n) (h2 : n ≤ m) (hx : x < (n : Int)) (hX : 0 ≤ x → x < 100 → X x.toNat) (hm : slf so x = -1 ∨ n < m) : ldV so x n < (m : Int) ∧ (0 ≤ ldV so x n → ldV so x n < 100 → so (ldV so x n).toNat = -1 ∧ X (ldV so x n).toNat) := by
  unfold ldV
  by_cases c : slf so x = -1
  · rw [if_pos c]
    refine ⟨by omega, fun a d => ⟨?_, hX a d⟩⟩
    unfold slf at c
    rw [if_pos ⟨a, d⟩] at c
    exact c
  · rw [if_neg c]
    exact nw_t h1 (hm.elim (fun z => absurd z c) id)
theorem ldN_a {X : Nat → Prop} (h1 : 100 ≤ s.2) (h : allL (nwL6 so X) s) : allL (nwL6 so X) (ldN so x s) := by
  unfold ldN
  by_cases c : slf so x = -1
  · rw [if_pos c]; exact h
  · rw [if_neg c]; exact allL_L nwL_m h (Nat.le_succ _) (nwL_mk (nw_t h1 (Nat.lt_succ_self _)) nw_n nw_n)
theorem ldN_n (h : ¬ slf so x = -1) : (ldN so x s).2 = s.2 + 1 := by unfold ldN; rw [if_neg h]
theorem ldN_le : s.2 ≤ (ldN so x s).2 := by
  unfold ldN
  split
  · exact Nat.le_refl _
  · exact Nat.le_succ _
theorem spLn_a {X : Nat → Prop} (h0 : 100 ≤ s.2) (h : allL (nwL6 so X) s) (hl : ∀ f, f = 1 ∨ f = 2 ∨ f = 4 → l f < (s.2 : Int) ∧ (0 ≤ l f → l f < 100 → X (l f).toNat)) : allL (nwL6 so X) (spLn so l s) := by
  have l1 := hl 1 (Or.inl rfl)
  have l2 := hl 2 (Or.inr (Or.inl rfl))
  have l4 := hl 4 (Or.inr (Or.inr rfl))
  have n2 : s.2 ≤ (ldN so (l 2) s).2 := ldN_le
  have hr : allL (nwL6 so X) (spR so l s) ∧ 100 ≤ (spR so l s).2 ∧ s.2 ≤ (spR so l s).2 ∧ (ldN so (l 2) s).2 ≤ (spR so l s).2 := by
    unfold spR
    split
    · exact ⟨ldN_a h0 h, ldN_2 h0, n2, Nat.le_refl _⟩
    · exact ⟨ldN_a (ldN_2 h0) (ldN_a h0 h), ldN_2 (ldN_2 h0), Nat.le_trans n2 ldN_le, ldN_le⟩
  obtain ⟨r1, r2, r3, r4⟩ := hr
  have v2 : ∀ m, (spR so l s).2 ≤ m → (ldV so (l 2) s.2 < (m : Int) ∧ (0 ≤ ldV so (l 2) s.2 → ldV so (l 2) s.2 < 100 → so (ldV so (l 2) s.2).toNat = -1 ∧ X (ldV so (l 2) s.2).toNat)) := fun m hm => by
    refine nw_v h0 (by omega) l2.1 l2.2 ?_
    by_cases c : slf so (l 2) = -1
    · exact Or.inl c
    · have := ldN_n (s := s) c
      exact Or.inr (by omega)
  have v4 : ∀ m, (spR so l s).2 ≤ m → (spV so l s < (m : Int) ∧ (0 ≤ spV so l s → spV so l s < 100 → so (spV so l s).toNat = -1 ∧ X (spV so l s).toNat)) := fun m hm => by
    unfold spV
    by_cases c : l 4 = l 2
    · rw [if_pos c]; exact v2 m hm
    · rw [if_neg c]
      have e : spR so l s = ldN so (l 4) (ldN so (l 2) s) := by unfold spR; rw [if_neg c]
      rw [e] at hm
      refine nw_v (ldN_2 h0) (Nat.le_trans ldN_le hm) (by omega) l4.2 ?_
      by_cases d : slf so (l 4) = -1
      · exact Or.inl d
      · have := ldN_n (s := ldN so (l 2) s) d
        exact Or.inr (by omega)
  unfold spLn spW
  by_cases c : slf so (l 1) = -1
  · rw [if_pos c]
    refine allL_L nwL_m r1 (Nat.le_refl _) (nwL_mk ⟨by omega, fun a d => ⟨?_, l1.2 a d⟩⟩ (v2 _ (Nat.le_refl _)) (v4 _ (Nat.le_refl _)))
    unfold slf at c
    rw [if_pos ⟨a, d⟩] at c
    exact c
  · rw [if_neg c]
    have a1 := allL_L (l := mkL (l 0) ((spR so l s).2 : Int) (ldV so (l 2) s.2) (l 3) (spV so l s) (l 5)) nwL_m r1 (Nat.le_succ _) (nwL_mk (nw_t r2 (Nat.lt_succ_self _)) (v2 _ (Nat.le_succ _)) (v4 _ (Nat.le_succ _)))
    exact allL_L (s := (pgL (spR so l s).1 (mkL (l 0) ((spR so l s).2 : Int) (ldV so (l 2) s.2) (l 3) (spV so l s) (l 5)), (spR so l s).2 + 1)) nwL_m a1 (Nat.le_refl _) (nwL_mk nw_n (nw_t r2 (Nat.lt_succ_self _)) nw_n)
theorem spB_a {X : Nat → Prop} {ls : Nat → Nat → Int} (h0 : 0 < s.1.1) (h1 : 100 ≤ s.2) (h : allL (nwL6 so X) s) : ∀ m, (∀ j, j < m → ∀ f, f = 1 ∨ f = 2 ∨ f = 4 → ls j f < (s.2 : Int) ∧ (0 ≤ ls j f → ls j f < 100 → X (ls j f).toNat)) → allL (nwL6 so X) (spB so ls m s)
  | 0, _ => h
  | m + 1, hl => by
    obtain ⟨⟨-, k2, -⟩, -, i3⟩ := spB_k (so := so) (ls := ls) h0 h1 m
    refine spLn_a i3 (spB_a h0 h1 h m (fun j hj => hl j (by omega))) (fun f hf => ⟨?_, (hl m (Nat.lt_succ_self m) f hf).2⟩)
    have := (hl m (Nat.lt_succ_self m) f hf).1
    omega
theorem spP_a {X : Nat → Prop} (h1 : 100 ≤ nm) : ∀ b, (∀ c j, c < b → j < Q.2.1 c → ∀ f, f = 1 ∨ f = 2 ∨ f = 4 → Q.2.2.1 c j f < (nm : Int) ∧ (0 ≤ Q.2.2.1 c j f → Q.2.2.1 c j f < 100 → X (Q.2.2.1 c j f).toNat)) → allL (nwL6 so X) (spP so Q nm b)
  | 0, _ => fun b j hb _ => absurd hb (Nat.not_lt_zero b)
  | b + 1, h => by
    obtain ⟨-, i2, -, -⟩ := spP_k (so := so) (Q := Q) h1 b
    have m := (spP_m (so := so) (Q := Q) h1 b 0).1
    rw [Nat.zero_add] at m
    have m2 : nm ≤ (spP so Q nm b).2 := m
    refine spB_a (s := (pgOL Q (spP so Q nm b).1, (spP so Q nm b).2)) (Nat.succ_pos _) i2 (allL_OL (spP_a h1 b (fun c j hc => h c j (by omega)))) (Q.2.1 b) (fun j hj f hf => ⟨?_, (h b j (Nat.lt_succ_self b) hj f hf).2⟩)
    have := (h b j (Nat.lt_succ_self b) hj f hf).1
    show Q.2.2.1 b j f < ((spP so Q nm b).2 : Int)
    omega
end SPL
section GVR
variable {Q R S : gPg} {k : Int} {dp : Nat → Nat} {nm sl b j n m v : Nat} {p q : Nat → Nat}
theorem bsF_in {T : Nat → Prop} {w lf : Nat → Int32} {b : Nat} : ∀ n, bsF T w lf n = some b → T b
  | 0, h => (nomatch h)
  | n + 1, h => by
    by_cases c : T n
    · cases e : bsF T w lf n with
      | none => rw [bsF_1 c e] at h; cases h; exact c
      | some d =>
        by_cases g : (100 ≤ n ∧ d < 100) ∨ ¬ chp w lf n d
        · rw [bsF_2 c e g] at h; cases h; exact bsF_in n e
        · rw [bsF_3 c e g] at h; cases h; exact c
    · rw [bsF_0 c] at h; exact bsF_in n h
theorem bsF_c {T : Nat → Prop} {w lf w2 lf2 : Nat → Int32} (h : ∀ v, T v → w v = w2 v ∧ lf v = lf2 v) : ∀ n, bsF T w lf n = bsF T w2 lf2 n
  | 0 => rfl
  | n + 1 => by
    have i := bsF_c h n
    by_cases c : T n
    · cases e : bsF T w lf n with
      | none => rw [bsF_1 c e, bsF_1 c (i.symm.trans e)]
      | some d =>
        have td := bsF_in n e
        have ec : chp w lf n d ↔ chp w2 lf2 n d := by
          unfold chp
          rw [(h n c).1, (h n c).2, (h d td).1, (h d td).2]
        by_cases g : (100 ≤ n ∧ d < 100) ∨ ¬ chp w lf n d
        · rw [bsF_2 c e g, bsF_2 c (i.symm.trans e) (g.imp id (fun z y => z (ec.mpr y)))]
        · rw [bsF_3 c e g, bsF_3 c (i.symm.trans e) (fun z => g (z.imp id (fun z y => z (ec.mp y))))]
    · rw [bsF_0 c, bsF_0 c, i]
theorem isNx_c {T : Nat → Prop} {w lf w2 lf2 : Nat → Int32} (h : ∀ v, T v → w v = w2 v ∧ lf v = lf2 v) (hn : isNx T w lf k v) : isNx T w2 lf2 k v := by
  rcases hn with ⟨a1, a2, a3⟩ | ⟨a1, a2⟩
  · exact Or.inl ⟨a1, by rw [← (h v a1).2]; exact a2, fun u hu ht => by rw [← (h u ht).2]; exact a3 u hu ht⟩
  · exact Or.inr ⟨fun u ht => by rw [← (h u ht).2]; exact a1 u ht, by rw [← bsF_c h]; exact a2⟩
theorem TA_c {J : Nat → Nat → Prop} {w w2 : Nat → Int32} : ∀ {n : Nat} {T : Nat → Prop} {lf lf2 : Nat → Int32} {p : Nat → Nat}, (∀ v, T v → w v = w2 v ∧ lf v = lf2 v) → TA J w k n T lf p → TA J w2 k n T lf2 p
  | 0, _, _, _, _, _, h => h
  | n + 1, T, lf, lf2, p, h, ⟨h1, h2, h3⟩ => by
    refine ⟨h1, isNx_c h h2, TA_c (fun v hv => ⟨(h v hv.1).1, ?_⟩) h3⟩
    unfold lfD
    rw [(h v hv.1).2]
/-- one round: merged into R, taken apart in the order p -/
def rnd (k : Int) (dp : Nat → Nat) (Q R : gPg) (n : Nat) (p : Nat → Nat) : Prop := (∃ m, MGn k m Q R) ∧ TA (JJ R) (fun v => wPg R dp v R.1) k n (Sd R false 2000) (dgc R) p
theorem rnd_u (h : rnd k dp Q R n p) (h2 : rnd k dp Q S m q) : R = S ∧ n = m ∧ ∀ i, i < n → p i = q i := by
  obtain ⟨⟨a, h3⟩, h4⟩ := h
  obtain ⟨⟨c, g3⟩, g4⟩ := h2
  obtain ⟨-, e⟩ := MGn_u h3 g3
  rw [← e] at g4
  exact ⟨e, TA_u h4 g4⟩
/-- without a colour -/
def unc (R : gPg) (col : Nat → Int) (v : Nat) : Prop := Sd R false 2000 v ∧ col v = -1
noncomputable def soU (U : Nat → Prop) (sl : Nat) (v : Nat) : Int := @ite Int (U v) (Classical.propDecidable _) ((sl + cntP U v : Nat) : Int) (-1)
/-- the rounds: r the answer, Z what is given out -/
def GVr (k : Int) (dp : Nat → Nat) : Nat → Nat → gPg → Nat → Nat → Int → (gPg × (Nat → Int) × Nat) → Prop
  | 0, _, _, _, _, r, Z => r = -1 ∧ Z = (pgO, fun _ => -1, 0)
  | f + 1, t, Q, nm, sl, r, Z => ∃ R n p, rnd k dp Q R n p ∧
    ((¬ bdN (JJ R) k p n n ∧ r = (t : Int) ∧ Z = (R, clN (JJ R) k p n n, sl)) ∨
     (bdN (JJ R) k p n n ∧ (∃ v, 100 ≤ v ∧ unc R (clN (JJ R) k p n n) v) ∧ r = -1 ∧ Z = (pgO, fun _ => -1, 0)) ∨
     (bdN (JJ R) k p n n ∧ (∀ v, 100 ≤ v → ¬ unc R (clN (JJ R) k p n n) v) ∧ GVr k dp f (t + 1) (spP (soU (unc R (clN (JJ R) k p n n)) sl) R nm R.1).1 (spP (soU (unc R (clN (JJ R) k p n n)) sl) R nm R.1).2 (sl + cntP (unc R (clN (JJ R) k p n n)) 100) r Z))
theorem GVr_u : ∀ {f t : Nat} {Q : gPg} {nm sl : Nat} {r r2 : Int} {Z Z2 : gPg × (Nat → Int) × Nat}, GVr k dp f t Q nm sl r Z → GVr k dp f t Q nm sl r2 Z2 → r = r2 ∧ Z = Z2
  | 0, _, _, _, _, _, _, _, _, h, h2 => ⟨h.1.trans h2.1.symm, h.2.trans h2.2.symm⟩
  | f + 1, t, Q, nm, sl, r, r2, Z, Z2, ⟨R, n, p, h1, h2⟩, ⟨S, m, q, g1, g2⟩ => by
    obtain ⟨e1, e2, e3⟩ := rnd_u h1 g1
    subst e1
    subst e2
    rw [← clN_c e3 n (Nat.le_refl _), ← bdN_c e3] at g2
    rcases h2 with ⟨a1, a2, a3⟩ | ⟨a1, a2, a3, a4⟩ | ⟨a1, a2, a3⟩
    · rcases g2 with ⟨c1, c2, c3⟩ | ⟨c1, _⟩ | ⟨c1, _⟩
      · exact ⟨a2.trans c2.symm, a3.trans c3.symm⟩
      · exact absurd c1 a1
      · exact absurd c1 a1
    · rcases g2 with ⟨c1, _⟩ | ⟨c1, c2, c3, c4⟩ | ⟨c1, c2, c3⟩
      · exact absurd a1 c1
      · exact ⟨a3.trans c3.symm, a4.trans c4.symm⟩
      · obtain ⟨v, v1, v2⟩ := a2
        exact absurd v2 (c2 v v1)
    · rcases g2 with ⟨c1, _⟩ | ⟨c1, c2, c3, c4⟩ | ⟨c1, c2, c3⟩
      · exact absurd a1 c1
      · obtain ⟨v, v1, v2⟩ := c2
        exact absurd v2 (a2 v v1)
      · exact GVr_u a3 c3
/-- merging takes places away -/
theorem oc1_rn {w u x : Int} (h : w = u ∨ (w < 100 ∧ u < 100 ∧ 0 ≤ w ∧ 0 ≤ u)) : oc1 (rnV w u x) = oc1 x := by
  unfold rnV
  by_cases c : x = w
  · rw [if_pos c]
    rcases h with h | ⟨h1, h2, h3, h4⟩
    · rw [← h, c]
    · unfold oc1; rw [if_pos ⟨h4, h2⟩, if_pos (by omega)]
  · rw [if_neg c]
theorem fsm_le {f g : Nat → Nat} : ∀ n, (∀ i, i < n → f i ≤ g i) → fsm f n ≤ fsm g n
  | 0, _ => Nat.le_refl _
  | n + 1, h => Nat.add_le_add (fsm_le n (fun i hi => h i (by omega))) (h n (Nat.lt_succ_self n))
theorem fsm_sh {f : Nat → Nat} {j : Nat} : ∀ n, fsm (fun i => f (if j ≤ i then i + 1 else i)) n ≤ fsm f (n + 1)
  | 0 => Nat.zero_le _
  | n + 1 => by
    have i := fsm_sh (f := f) (j := j) n
    show fsm (fun i => f (if j ≤ i then i + 1 else i)) n + f (if j ≤ n then n + 1 else n) ≤ fsm f (n + 1) + f (n + 1)
    by_cases c : j ≤ n
    · rw [if_pos c]; omega
    · rw [if_neg c]
      have e : fsm (fun i => f (if j ≤ i then i + 1 else i)) n = fsm f n := fsm_c (fun a ha => by rw [if_neg (by omega)])
      rw [e]
      show fsm f n + f n ≤ fsm f n + f n + f (n + 1)
      omega
theorem osm_mg (h : mgb Q k b j) : osm (mg1 Q b j) ≤ osm Q := by
  obtain ⟨hb, hj, h0, h1, h2, h3⟩ := h
  have hw : max (Q.2.2.1 b j 1) (Q.2.2.1 b j 2) = min (Q.2.2.1 b j 1) (Q.2.2.1 b j 2) ∨ (max (Q.2.2.1 b j 1) (Q.2.2.1 b j 2) < 100 ∧ min (Q.2.2.1 b j 1) (Q.2.2.1 b j 2) < 100 ∧ 0 ≤ max (Q.2.2.1 b j 1) (Q.2.2.1 b j 2) ∧ 0 ≤ min (Q.2.2.1 b j 1) (Q.2.2.1 b j 2)) := by
    rcases h3 with h3 | h3
    · exact Or.inl (by omega)
    · have a := h3.1
      have c := h3.2.1
      exact Or.inr (by omega)
  have oe : ∀ l : Nat → Int, occ (rnL (max (Q.2.2.1 b j 1) (Q.2.2.1 b j 2)) (min (Q.2.2.1 b j 1) (Q.2.2.1 b j 2)) l) = occ l := fun l => by
    show oc1 (rnV _ _ (l 1)) + oc1 (rnV _ _ (l 2)) + oc1 (rnV _ _ (l 4)) = _
    rw [oc1_rn hw, oc1_rn hw, oc1_rn hw]
    rfl
  unfold osm
  refine fsm_le Q.1 (fun c hc => ?_)
  show fsm (fun i => occ (rnL _ _ (Q.2.2.1 c (if c = b ∧ j ≤ i then i + 1 else i)))) (if c = b then Q.2.1 c - 1 else Q.2.1 c) ≤ fsm (fun j => occ (Q.2.2.1 c j)) (Q.2.1 c)
  by_cases e : c = b
  · rw [if_pos e]
    have q := fsm_sh (f := fun i => occ (Q.2.2.1 c i)) (j := j) (Q.2.1 c - 1)
    rw [show Q.2.1 c - 1 + 1 = Q.2.1 c by rw [e]; omega] at q
    refine Nat.le_trans (Nat.le_of_eq (fsm_c (fun i hi => ?_))) q
    rw [oe]
    by_cases d : j ≤ i
    · rw [if_pos ⟨e, d⟩, if_pos d]
    · rw [if_neg (fun z => d z.2), if_neg d]
  · rw [if_neg e]
    refine Nat.le_of_eq (fsm_c (fun i hi => ?_))
    rw [oe, if_neg (fun z => e z.1)]
theorem lsm_mg (h : mgb Q k b j) : lsm (mg1 Q b j) + 1 = lsm Q := by
  unfold lsm
  show fsm (fun c => if c = b then Q.2.1 c - 1 else Q.2.1 c) Q.1 + 1 = _
  have := h.2.1
  have hb := h.1
  rw [fsm_dr (l := Q.2.1) (b := b) (by omega) Q.1, if_neg (by omega)]
  have := fsm_lt h.1 h.2.1
  omega
theorem Sd_mg (h : mgb Q k b j) (hv : Sd (mg1 Q b j) false 2000 v) : Sd Q false 2000 v := by
  obtain ⟨hb, hj, h0, h1, h2, h3⟩ := h
  obtain ⟨v1, c, i, q1, q2, q3⟩ := hv
  have q2' : i < if c = b then Q.2.1 c - 1 else Q.2.1 c := q2
  have hi : (if c = b ∧ j ≤ i then i + 1 else i) < Q.2.1 c := by
    by_cases e : c = b
    · rw [if_pos e] at q2'; split <;> omega
    · rw [if_neg e] at q2'; rw [if_neg (fun z => e z.1)]; exact q2'
  have rn : ∀ x : Int, rnV (max (Q.2.2.1 b j 1) (Q.2.2.1 b j 2)) (min (Q.2.2.1 b j 1) (Q.2.2.1 b j 2)) x = (v : Int) → x = (v : Int) ∨ Q.2.2.1 b j 1 = (v : Int) ∨ Q.2.2.1 b j 2 = (v : Int) := fun x hx => by
    unfold rnV at hx
    by_cases e : x = max (Q.2.2.1 b j 1) (Q.2.2.1 b j 2)
    · rw [if_pos e] at hx; omega
    · rw [if_neg e] at hx; exact Or.inl hx
  have own : Q.2.2.1 b j 1 = (v : Int) ∨ Q.2.2.1 b j 2 = (v : Int) → Sd Q false 2000 v := fun z => by
    refine ⟨v1, b, j, hb, hj, ?_⟩
    unfold usR seR
    rw [if_neg (by decide), if_neg (by decide)]
    exact z.elim Or.inr (fun y => Or.inl (Or.inl y))
  have us : ∀ l : Nat → Int, usR false (rnL (max (Q.2.2.1 b j 1) (Q.2.2.1 b j 2)) (min (Q.2.2.1 b j 1) (Q.2.2.1 b j 2)) l) v ∨ seR false (rnL (max (Q.2.2.1 b j 1) (Q.2.2.1 b j 2)) (min (Q.2.2.1 b j 1) (Q.2.2.1 b j 2)) l) v → (usR false l v ∨ seR false l v) ∨ Q.2.2.1 b j 1 = (v : Int) ∨ Q.2.2.1 b j 2 = (v : Int) := fun l z => by
    unfold usR seR at z ⊢
    rw [if_neg (by decide), if_neg (by decide)] at z ⊢
    rcases z with (z | z) | z
    · exact (rn _ z).imp (fun y => Or.inl (Or.inl y)) id
    · exact (rn _ z).imp (fun y => Or.inl (Or.inr y)) id
    · exact (rn _ z).imp (fun y => Or.inr y) id
  exact (us _ q3).elim (fun z => ⟨v1, c, _, q1, hi, z⟩) own
theorem MGn_f (hn : nmO Q n) : ∀ {m : Nat} {Q R : gPg}, nmO Q n → MGn k m Q R → nmO R n ∧ osm R ≤ osm Q ∧ lsm R ≤ lsm Q ∧ R.1 = Q.1 ∧ ∀ v, Sd R false 2000 v → Sd Q false 2000 v
  | 0, _, _, hq, h => by rw [h.1]; exact ⟨hq, Nat.le_refl _, Nat.le_refl _, rfl, fun _ z => z⟩
  | m + 1, Q, R, hq, ⟨b, j, q, h⟩ => by
    obtain ⟨r1, r2, r3, r4, r5⟩ := MGn_f hn (nmO_mg hq q.1.1 q.1.2.1) h
    have o := osm_mg q.1
    have l := lsm_mg q.1
    exact ⟨r1, by omega, by omega, r4, fun v hv => Sd_mg q.1 (r5 v hv)⟩
end GVR
