/-! block by block; the form of a program with its loads and stores -/
section SQB
variable {so : Nat → Int} {R : gPg} {s t u : gSp6} {b d i n nm : Nat} {l : Nat → Int} {x : Int}
def sOth (b : Nat) (s t : gSp6) : Prop := t.1.1 = s.1.1 ∧ t.1.2.2.2 = s.1.2.2.2 ∧ ∀ d, d < b → t.1.2.1 d = s.1.2.1 d ∧ t.1.2.2.1 d = s.1.2.2.1 d
theorem sOth_0 : sOth b s s := ⟨rfl, rfl, fun _ _ => ⟨rfl, rfl⟩⟩
theorem sOth_t (h : sOth b s t) (h2 : sOth b t u) : sOth b s u := ⟨h2.1.trans h.1, h2.2.1.trans h.2.1, fun d hd => ⟨((h2.2.2 d hd).1).trans (h.2.2 d hd).1, ((h2.2.2 d hd).2).trans (h.2.2 d hd).2⟩⟩
theorem sOth_L (h : s.1.1 = b + 1) : sOth b s (pgL s.1 l, n) := ⟨rfl, rfl, fun d hd => L_oth h hd⟩
theorem sOth_N (h : s.1.1 = b + 1) : sOth b s (ldN so x s) := by
  unfold ldN
  split
  · exact sOth_0
  · exact sOth_L h
theorem sOth_R (h : s.1.1 = b + 1) : sOth b s (spR so l s) := by
  unfold spR
  split
  · exact sOth_N h
  · exact sOth_t (sOth_N h) (sOth_N (ldN_b h))
theorem sOth_W {a c : Int} (h : s.1.1 = b + 1) : sOth b s (spW so l a c s) := by
  unfold spW
  split
  · exact sOth_L h
  · exact sOth_t (t := (pgL s.1 (mkL (l 0) (s.2 : Int) a (l 3) c (l 5)), 0)) (sOth_L h) (sOth_L (s := (pgL s.1 (mkL (l 0) (s.2 : Int) a (l 3) c (l 5)), 0)) h)
theorem sOth_Ln (h : s.1.1 = b + 1) : sOth b s (spLn so l s) := sOth_t (sOth_R h) (sOth_W (spR_b h))
theorem sOth_B {ls : Nat → Nat → Int} (h : s.1.1 = b + 1) : ∀ m, sOth b s (spB so ls m s)
  | 0 => sOth_0
  | m + 1 => by
    have i := sOth_B (ls := ls) h m
    exact sOth_t i (sOth_Ln (i.1.trans h))
/-- the beginning of a block -/
def bgS (so : Nat → Int) (R : gPg) (nm b : Nat) : gSp6 := (pgOL R (spP so R nm b).1, (spP so R nm b).2)
theorem bgS_1 (h1 : 100 ≤ nm) : (bgS so R nm b).1.1 = b + 1 := by
  show (spP so R nm b).1.1 + 1 = b + 1
  rw [(spP_k (so := so) (Q := R) h1 b).1]
theorem bgS_0 (h1 : 100 ≤ nm) : (bgS so R nm b).1.2.1 b = 0 := by
  show (if b = (spP so R nm b).1.1 then 0 else (spP so R nm b).1.2.1 b) = 0
  rw [if_pos (spP_k (so := so) (Q := R) h1 b).1.symm]
theorem spP_s : spP so R nm (b + 1) = spB so (R.2.2.1 b) (R.2.1 b) (bgS so R nm b) := rfl
theorem spP_o (h1 : 100 ≤ nm) (hd : d < b) : (spP so R nm (b + 1)).1.2.1 d = (spP so R nm b).1.2.1 d ∧ (spP so R nm (b + 1)).1.2.2.1 d = (spP so R nm b).1.2.2.1 d := by
  have o := (sOth_B (so := so) (ls := R.2.2.1 b) (bgS_1 (so := so) (R := R) (b := b) h1) (R.2.1 b)).2.2 d hd
  rw [← spP_s] at o
  refine ⟨o.1.trans ?_, o.2⟩
  show (if d = (spP so R nm b).1.1 then 0 else (spP so R nm b).1.2.1 d) = _
  rw [(spP_k (so := so) (Q := R) h1 b).1, if_neg (by omega)]
theorem spP_g (h1 : 100 ≤ nm) : ∀ b d, d < b → (spP so R nm b).1.2.2.2 d = R.2.2.2 d
  | 0, d, hd => absurd hd (Nat.not_lt_zero d)
  | b + 1, d, hd => by
    have o := (sOth_B (so := so) (ls := R.2.2.1 b) (bgS_1 (so := so) (R := R) (b := b) h1) (R.2.1 b)).2.1
    rw [← spP_s] at o
    rw [o]
    have k := (spP_k (so := so) (Q := R) h1 b).1
    show (fun i => if d = (spP so R nm b).1.1 then R.2.2.2 d i else (spP so R nm b).1.2.2.2 d i) = R.2.2.2 d
    funext i
    by_cases e : d = b
    · rw [if_pos (by omega)]
    · rw [if_neg (by omega), spP_g h1 b d (by omega)]
/-- a block done, the next begun -/
theorem mid_blk (h1 : 100 ≤ nm) : pgAq (mid (spP so R nm (b + 1)) R b (R.2.1 b)) (mid (bgS so R nm (b + 1)) R (b + 1) 0) := by
  have k := (spP_k (so := so) (Q := R) h1 (b + 1)).1
  have z := bgS_0 (so := so) (R := R) (b := b + 1) h1
  have bl : ∀ d, d < b + 1 → (bgS so R nm (b + 1)).1.2.1 d = (spP so R nm (b + 1)).1.2.1 d := fun d hd => by
    show (if d = (spP so R nm (b + 1)).1.1 then 0 else (spP so R nm (b + 1)).1.2.1 d) = _
    rw [k, if_neg (by omega)]
  refine ⟨rfl, fun d hd => ?_⟩
  rcases Nat.lt_trichotomy d b with q | q | q
  · refine ⟨?_, rfl, fun j hj => ?_⟩
    · show (if d < b + 1 then (bgS so R nm (b + 1)).1.2.1 d else _) = (if d < b then (spP so R nm (b + 1)).1.2.1 d else _)
      rw [if_pos (by omega), if_pos q, bl d (by omega)]
    · show (if d < b + 1 then (spP so R nm (b + 1)).1.2.2.1 d j else _) = (if d < b then (spP so R nm (b + 1)).1.2.2.1 d j else _)
      rw [if_pos (by omega), if_pos q]
  · subst q
    refine ⟨?_, rfl, fun j hj => ?_⟩
    · show (if d < d + 1 then (bgS so R nm (d + 1)).1.2.1 d else _) = (if d < d then _ else if d = d then (spP so R nm (d + 1)).1.2.1 d + (R.2.1 d - R.2.1 d) else _)
      rw [if_pos (by omega), if_neg (Nat.lt_irrefl d), if_pos rfl, bl d (by omega)]
      omega
    · have hj2 : j < (if d < d then (spP so R nm (d + 1)).1.2.1 d else if d = d then (spP so R nm (d + 1)).1.2.1 d + (R.2.1 d - R.2.1 d) else R.2.1 d) := hj
      rw [if_neg (Nat.lt_irrefl d), if_pos rfl] at hj2
      show (if d < d + 1 then (spP so R nm (d + 1)).1.2.2.1 d j else _) = (if d < d then _ else if d = d then (if j < (spP so R nm (d + 1)).1.2.1 d then (spP so R nm (d + 1)).1.2.2.1 d j else _) else _)
      rw [if_pos (by omega), if_neg (Nat.lt_irrefl d), if_pos rfl, if_pos (by omega)]
  · refine ⟨?_, rfl, fun j hj => ?_⟩
    · show (if d < b + 1 then _ else if d = b + 1 then (bgS so R nm (b + 1)).1.2.1 (b + 1) + (R.2.1 (b + 1) - 0) else R.2.1 d) = (if d < b then _ else if d = b then _ else R.2.1 d)
      rw [if_neg (by omega), if_neg (show ¬ d < b by omega), if_neg (show ¬ d = b by omega)]
      by_cases e : d = b + 1
      · rw [if_pos e, z, e]; omega
      · rw [if_neg e]
    · show (if d < b + 1 then _ else if d = b + 1 then (if j < (bgS so R nm (b + 1)).1.2.1 (b + 1) then _ else R.2.2.1 (b + 1) (j - (bgS so R nm (b + 1)).1.2.1 (b + 1) + 0)) else R.2.2.1 d j) = (if d < b then _ else if d = b then _ else R.2.2.1 d j)
      rw [if_neg (by omega), if_neg (show ¬ d < b by omega), if_neg (show ¬ d = b by omega)]
      by_cases e : d = b + 1
      · rw [if_pos e, z, if_neg (Nat.not_lt_zero j), e]; rfl
      · rw [if_neg e]
theorem mid_bg (h1 : 100 ≤ nm) : pgAq R (mid (bgS so R nm 0) R 0 0) := by
  have z := bgS_0 (so := so) (R := R) (b := 0) h1
  refine ⟨rfl, fun d hd => ?_⟩
  by_cases q : d = 0
  · subst q
    refine ⟨?_, rfl, fun j hj => ?_⟩
    · show (if (0 : Nat) < 0 then (bgS so R nm 0).1.2.1 0 else if (0 : Nat) = 0 then (bgS so R nm 0).1.2.1 0 + (R.2.1 0 - 0) else R.2.1 0) = R.2.1 0
      rw [if_neg (Nat.lt_irrefl 0), if_pos rfl, z]; omega
    · show (if (0 : Nat) < 0 then (bgS so R nm 0).1.2.2.1 0 j else if (0 : Nat) = 0 then (if j < (bgS so R nm 0).1.2.1 0 then (bgS so R nm 0).1.2.2.1 0 j else R.2.2.1 0 (j - (bgS so R nm 0).1.2.1 0 + 0)) else R.2.2.1 0 j) = R.2.2.1 0 j
      rw [if_neg (Nat.lt_irrefl 0), if_pos rfl, z, if_neg (Nat.not_lt_zero j)]; rfl
  · refine ⟨?_, rfl, fun j hj => ?_⟩
    · show (if d < 0 then (bgS so R nm 0).1.2.1 d else if d = 0 then (bgS so R nm 0).1.2.1 0 + (R.2.1 0 - 0) else R.2.1 d) = R.2.1 d
      rw [if_neg (Nat.not_lt_zero d), if_neg q]
    · show (if d < 0 then (bgS so R nm 0).1.2.2.1 d j else if d = 0 then (if j < (bgS so R nm 0).1.2.1 0 then (bgS so R nm 0).1.2.2.1 0 j else R.2.2.1 0 (j - (bgS so R nm 0).1.2.1 0 + 0)) else R.2.2.1 d j) = R.2.2.1 d j
      rw [if_neg (Nat.not_lt_zero d), if_neg q]
theorem mid_end (h1 : 100 ≤ nm) : pgAq (mid (bgS so R nm R.1) R R.1 0) (spP so R nm R.1).1 := by
  have k := (spP_k (so := so) (Q := R) h1 R.1).1
  refine ⟨k, fun d hd => ?_⟩
  have hd2 : d < R.1 := hd
  refine ⟨?_, spP_g h1 R.1 d hd2, fun j hj => ?_⟩
  · show _ = (if d < R.1 then (if d = (spP so R nm R.1).1.1 then 0 else (spP so R nm R.1).1.2.1 d) else _)
    rw [if_pos hd2, k, if_neg (by omega)]
  · show _ = (if d < R.1 then (spP so R nm R.1).1.2.2.1 d j else _)
    rw [if_pos hd2]
/-- rows of the block that is being put together -/
def bkA (b : Nat) (s : gSp6) : Prop := ∀ j, j < s.1.2.1 b → rwO2 (s.1.2.2.1 b j)
theorem bkA_L (h : s.1.1 = b + 1) (ha : bkA b s) (hl : rwO2 l) : bkA b (pgL s.1 l, n) := fun j hj => by
  have e : (pgL s.1 l).2.1 b = s.1.2.1 b + 1 := L_len h
  have hj2 : j < (pgL s.1 l).2.1 b := hj
  rw [e] at hj2
  show rwO2 ((pgL s.1 l).2.2.1 b j)
  rw [L_ln h]
  by_cases c : j = s.1.2.1 b
  · rw [if_pos c]; exact hl
  · rw [if_neg c]; exact ha j (by omega)
theorem rwO2_17 {y : Int} (h : n ≤ 1999) : rwO2 (mkL 17 (n : Int) (-1) 0 (-1) y) := ⟨⟨by show (0 : Int) ≤ 17; decide, by show (17 : Int) ≤ 18; decide⟩, ⟨by show (-1 : Int) ≤ -1; decide, by show (-1 : Int) ≤ 1999; decide⟩, ⟨by show (-1 : Int) ≤ -1; decide, by show (-1 : Int) ≤ 1999; decide⟩, fun _ => ⟨by show (0 : Int) ≤ (n : Int); omega, by show (n : Int) ≤ 1999; omega⟩, fun z => by have z' : (17 : Int) = 16 ∨ (17 : Int) = 18 := z; omega, fun _ => rfl, fun _ => rfl⟩
theorem rwO2_18 {y : Int} (h : n ≤ 1999) : rwO2 (mkL 18 (-1) (n : Int) 0 (-1) y) := ⟨⟨by show (0 : Int) ≤ 18; decide, by show (18 : Int) ≤ 18; decide⟩, ⟨by show (-1 : Int) ≤ (n : Int); omega, by show (n : Int) ≤ 1999; omega⟩, ⟨by show (-1 : Int) ≤ -1; decide, by show (-1 : Int) ≤ 1999; decide⟩, fun z => by have z' : (18 : Int) ≤ 15 ∨ (18 : Int) = 17 := z; omega, fun _ => rfl, fun z => by have z' : (18 : Int) = 15 ∨ (18 : Int) = 17 := z; omega, fun _ => rfl⟩
theorem bkA_N (h : s.1.1 = b + 1) (hn : (ldN so x s).2 ≤ 720) (ha : bkA b s) : bkA b (ldN so x s) := by
  unfold ldN at hn ⊢
  by_cases c : slf so x = -1
  · rw [if_pos c]; exact ha
  · rw [if_neg c] at hn ⊢
    have hn2 : s.2 + 1 ≤ 720 := hn
    exact bkA_L h ha (rwO2_17 (by omega))
theorem spR_n : (ldN so (l 2) s).2 ≤ (spR so l s).2 := by
  unfold spR
  split
  · exact Nat.le_refl _
  · exact ldN_le
theorem bkA_R (h : s.1.1 = b + 1) (hn : (spR so l s).2 ≤ 720) (ha : bkA b s) : bkA b (spR so l s) := by
  have n1 := spR_n (so := so) (l := l) (s := s)
  unfold spR at hn ⊢
  by_cases c : l 4 = l 2
  · rw [if_pos c] at hn ⊢; exact bkA_N h hn ha
  · rw [if_neg c] at hn ⊢
    exact bkA_N (ldN_b h) hn (bkA_N h (Nat.le_trans ldN_le hn) ha)
theorem spW_n {a c : Int} : s.2 ≤ (spW so l a c s).2 := by
  unfold spW
  split
  · exact Nat.le_refl _
  · exact Nat.le_succ _
theorem bkA_Ln (h : s.1.1 = b + 1) (h1 : 100 ≤ s.2) (hn : (spLn so l s).2 ≤ 720) (hO : rwO2 l) (ha : bkA b s) : bkA b (spLn so l s) := by
  have n1 : (spR so l s).2 ≤ (spLn so l s).2 := spW_n
  have r := bkA_R (so := so) (l := l) h (by omega) ha
  have lw := lnO2_W (r := true) (so := so) (l := l) (S := s) (by unfold lnO2; rw [if_pos rfl]; exact hO) h1 (by omega)
  unfold lnO2 at lw
  rw [if_pos rfl] at lw
  unfold spLn spW at hn ⊢
  by_cases c : slf so (l 1) = -1
  · rw [if_pos c]
    exact bkA_L (spR_b h) r lw
  · rw [if_neg c] at hn ⊢
    have hn2 : (spR so l s).2 + 1 ≤ 720 := hn
    have p := (slf_p c).1
    have lw2 : rwO2 (mkL (l 0) ((spR so l s).2 : Int) (ldV so (l 2) s.2) (l 3) (spV so l s) (l 5)) := by
      obtain ⟨o1, o2, o3, o4, o5, o6, o7⟩ := lw
      refine ⟨o1, o2, o3, fun _ => ⟨by show (0 : Int) ≤ ((spR so l s).2 : Int); omega, by show ((spR so l s).2 : Int) ≤ 1999; omega⟩, fun z => ?_, o6, o7⟩
      have q : l 1 = -1 := o5 z
      omega
    exact bkA_L (s := (pgL (spR so l s).1 (mkL (l 0) ((spR so l s).2 : Int) (ldV so (l 2) s.2) (l 3) (spV so l s) (l 5)), 0)) (spR_b h) (bkA_L (spR_b h) r lw2) (rwO2_18 (by omega))
theorem bkA_B {ls : Nat → Nat → Int} (h : s.1.1 = b + 1) (h1 : 100 ≤ s.2) (ha : bkA b s) : ∀ m, (spB so ls m s).2 ≤ 720 → (∀ j, j < m → rwO2 (ls j)) → bkA b (spB so ls m s)
  | 0, _, _ => ha
  | m + 1, hn, hl => by
    have k := spB_k (so := so) (ls := ls) (s := s) (by omega) h1 m
    have n1 : (spB so ls m s).2 ≤ (spLn so (ls m) (spB so ls m s)).2 := (spLn_k k.2.1 k.2.2).2.1
    have hn2 : (spLn so (ls m) (spB so ls m s)).2 ≤ 720 := hn
    exact bkA_Ln (k.1.1.trans h) k.2.2 hn2 (hl m (Nat.lt_succ_self m)) (bkA_B h h1 ha m (by omega) (fun j hj => hl j (by omega)))
theorem qOk_sp (h1 : 100 ≤ nm) (hO : qOk R) (hn : (spP so R nm R.1).2 ≤ 720) : qOk (spP so R nm R.1).1 := by
  have k := (spP_k (so := so) (Q := R) h1 R.1).1
  have key : ∀ b, b ≤ R.1 → ∀ d, d < b → blC2 ((spP so R nm b).1.2.1 d) ((spP so R nm b).1.2.2.1 d) (R.2.2.2 d) := fun b => by
    induction b with
    | zero => exact fun _ d hd => absurd hd (Nat.not_lt_zero d)
    | succ b ih =>
      intro hb d hd
      by_cases e : d = b
      · subst e
        obtain ⟨g0, g1, g2, g3⟩ := hO.2 d (by omega)
        obtain ⟨m, em⟩ : ∃ m, R.2.1 d = m + 1 := ⟨R.2.1 d - 1, by omega⟩
        have b1 := bgS_1 (so := so) (R := R) (b := d) h1
        have b2 : 100 ≤ (bgS so R nm d).2 := (spP_k (so := so) (Q := R) h1 d).2.1
        have mm := (spP_m (so := so) (Q := R) h1 (R.1 - (d + 1)) (d + 1)).1
        rw [show d + 1 + (R.1 - (d + 1)) = R.1 by omega] at mm
        have s1 : spP so R nm (d + 1) = spLn so (R.2.2.1 d m) (spB so (R.2.2.1 d) m (bgS so R nm d)) := by rw [spP_s, em]; rfl
        have kk := spB_k (so := so) (ls := R.2.2.1 d) (s := bgS so R nm d) (by omega) b2 m
        have n1 : (spB so (R.2.2.1 d) m (bgS so R nm d)).2 ≤ (spLn so (R.2.2.1 d m) (spB so (R.2.2.1 d) m (bgS so R nm d))).2 := (spLn_k kk.2.1 kk.2.2).2.1
        have n2 : (spR so (R.2.2.1 d m) (spB so (R.2.2.1 d) m (bgS so R nm d))).2 ≤ (spLn so (R.2.2.1 d m) (spB so (R.2.2.1 d) m (bgS so R nm d))).2 := spW_n
        rw [s1] at mm
        have a0 : bkA d (bgS so R nm d) := fun j hj => by
          have z := bgS_0 (so := so) (R := R) (b := d) h1
          rw [z] at hj
          exact absurd hj (Nat.not_lt_zero j)
        have a1 := bkA_B (so := so) (ls := R.2.2.1 d) b1 b2 a0 m (by omega) (fun j hj => g1 j (by omega))
        have bb := kk.1.1.trans b1
        have a2 := bkA_R (so := so) (l := R.2.2.1 d m) bb (by omega) a1
        rw [em, show m + 1 - 1 = m from rfl] at g2 g3
        have eo : 19 ≤ R.2.2.1 d m 0 ∧ R.2.2.1 d m 0 ≤ 21 := by rcases g3 with g | g | g <;> omega
        have lw := lnO2_W (r := false) (so := so) (l := R.2.2.1 d m) (S := spB so (R.2.2.1 d) m (bgS so R nm d)) (by unfold lnO2; rw [if_neg (by decide)]; exact ⟨g2, eo⟩) kk.2.2 (by omega)
        unfold lnO2 at lw
        rw [if_neg (by decide)] at lw
        have c1 : slf so (R.2.2.1 d m 1) = -1 := slf_n (by have := g2.1; omega)
        have eL : spLn so (R.2.2.1 d m) (spB so (R.2.2.1 d) m (bgS so R nm d)) = (pgL (spR so (R.2.2.1 d m) (spB so (R.2.2.1 d) m (bgS so R nm d))).1 (mkL (R.2.2.1 d m 0) (R.2.2.1 d m 1) (ldV so (R.2.2.1 d m 2) (spB so (R.2.2.1 d) m (bgS so R nm d)).2) (R.2.2.1 d m 3) (spV so (R.2.2.1 d m) (spB so (R.2.2.1 d) m (bgS so R nm d))) (R.2.2.1 d m 5)), (spR so (R.2.2.1 d m) (spB so (R.2.2.1 d) m (bgS so R nm d))).2) := if_pos c1
        rw [s1, eL]
        have Rb := spR_b (so := so) (l := R.2.2.1 d m) bb
        have e1 := L_len (S := spR so (R.2.2.1 d m) (spB so (R.2.2.1 d) m (bgS so R nm d))) (l := mkL (R.2.2.1 d m 0) (R.2.2.1 d m 1) (ldV so (R.2.2.1 d m 2) (spB so (R.2.2.1 d) m (bgS so R nm d)).2) (R.2.2.1 d m 3) (spV so (R.2.2.1 d m) (spB so (R.2.2.1 d) m (bgS so R nm d))) (R.2.2.1 d m 5)) Rb
        show blC2 ((pgL _ _).2.1 d) ((pgL _ _).2.2.1 d) _
        rw [e1]
        refine ⟨Nat.succ_pos _, fun j hj => ?_, ?_, ?_⟩
        · rw [L_ln Rb, if_neg (by omega)]
          exact a2 j (by omega)
        · rw [show ∀ y : Nat, y + 1 - 1 = y from fun y => rfl, L_ln Rb, if_pos rfl]
          exact lw.1
        · rw [show ∀ y : Nat, y + 1 - 1 = y from fun y => rfl, L_ln Rb, if_pos rfl]
          exact g3
      · obtain ⟨o1, o2⟩ := spP_o (so := so) (R := R) h1 (show d < b by omega)
        rw [o1, o2]
        exact ih (by omega) d (by omega)
  refine ⟨fun b i hb hi hg => ?_, fun b hb => ?_⟩
  · rw [k] at hb ⊢
    rw [spP_g h1 R.1 b hb] at hg ⊢
    exact hO.1 b i hb hi hg
  · rw [k] at hb
    rw [spP_g h1 R.1 b hb]
    exact key R.1 (Nat.le_refl _) b hb
end SQB
