section
section TXC
variable {P : gPg} {B : Int → Int} {n : Int}
theorem lnO_B (h : lnO P) : lnO (pgB P) := fun b j hb hj => by
  have hb2 : b < P.1 + 1 := hb
  have hj2 : j < (if b = P.1 then 0 else P.2.1 b) := hj
  by_cases e : b = P.1
  · rw [if_pos e] at hj2; exact absurd hj2 (Nat.not_lt_zero j)
  · rw [if_neg e] at hj2; exact h b j (by omega) hj2
theorem lnO_L {a c d e f g : Int} (h : lnO P) : lnO (pgL P (mkL a c d e f g)) := fun b j hb hj => by
  have hb2 : b < P.1 := hb
  by_cases q : b + 1 = P.1
  · obtain ⟨e1, e2, e3, _⟩ := pgL_l (P := P) (l := mkL a c d e f g) q
    rw [e1] at hj
    by_cases z : j = P.2.1 b
    · rw [z, e3]; rfl
    · rw [e2 j (by omega)]; exact h b j hb2 (by omega)
  · obtain ⟨e1, e2, _⟩ := pgL_o (P := P) (l := mkL a c d e f g) q
    rw [e1] at hj
    rw [e2]; exact h b j hb2 hj
theorem lnO_G {g : Int} (h : lnO P) : lnO (pgG P g) := h
theorem lnO_st {s s' : gMs} {k v : Int} (h : lnO s.2.2.2.2.2.2.2) (hm : mst k v s = some s') : lnO s'.2.2.2.2.2.2.2 := by
  obtain ⟨du, st, lf, ln, op, rw, bk, P⟩ := s
  have h0 : lnO P := h
  have hl : ∀ (Q : gPg), lnO Q → ∀ s, mLine k v op rw bk Q = some s → lnO s.2.2.2.2.2.2.2 := fun Q hq s h => mLine_el (Q := fun s => lnO s.2.2.2.2.2.2.2) h hq hq hq hq (lnO_L hq)
  exact mst_el (Q := fun s => lnO s.2.2.2.2.2.2.2) hm (lnO_B h0) h0 (hl _ h0) h0 (lnO_L h0) h0 h0 (hl _ (lnO_L h0)) (lnO_L h0) (lnO_L h0) (lnO_L h0) (lnO_L h0) (lnO_G h0) (lnO_G h0)
theorem mrn_l : ∀ {i : Nat} {s : gMs}, mrn B n i = some s → lnO s.2.2.2.2.2.2.2
  | 0, s, h => by cases h; exact fun b j hb => absurd hb (Nat.not_lt_zero b)
  | i + 1, s, h => by
    obtain ⟨t, h1, h2⟩ := mrn_s h
    exact lnO_st (mrn_l h1) h2
/-- what holds of a program that was read -/
theorem okP_f (hB : bOk B n) (h : okP B n P) : lnO P ∧ P.1 ≤ 40 ∧ 0 < P.1 ∧ fsm P.2.1 P.1 ≤ 200 ∧ glO P ∧ ∀ b, b < P.1 → blC (P.2.1 b) (P.2.2.1 b) (P.2.2.2 b) := by
  obtain ⟨j, st, lf, ln, op, rw, h1, h2, h3⟩ := h
  have hl := mrn_l h1
  obtain ⟨⟨-, -, w3, -, w5, -, -, -, -, -, -, w12, w13, -⟩, -⟩ := mrn_w hB h1
  have w := w5 rfl
  refine ⟨hl, w.1, w3 (by decide), by omega, h3, fun b hb => ?_⟩
  by_cases e : b + 1 = P.1
  · exact w13 rfl b e
  · exact w12 b (by omega)
theorem okP_u {Q : gPg} (h : okP B n P) (h2 : okP B n Q) : P = Q := by
  obtain ⟨j, _, _, _, _, _, h1, hf, _⟩ := h
  obtain ⟨i, _, _, _, _, _, g1, gf, _⟩ := h2
  have e := fin_u h1 hf g1 gf
  rw [e, h1] at g1
  cases g1
  rfl
theorem cut0 {n x : Int32} (hn : 0 ≤ n.toInt) (h : tr_Tape_cutTo 0 n x) : x.toInt = 0 := by
  refine h (fun x => x.toInt = 0) ?_
  · intro x1 x2 h1 h2
    have z := px_0
    omega
theorem tx_tr {Tape_size : Int32} {Reader_op : Int32} {Reader_set : Int32} {Reader_left : Int32} {Reader_leftNumber : Int32} {Giver_names : Int32} {Giver_slots : Int32} {Giver_sharedSlots : Int32} {Giver_spilled : Int32} {Giver_merged : Int32} {Giver_isDone : Int32} {Tape_bytes : Nat → Int32} {Reader_goalPlaces : Nat → Int32} {Code_first : Nat → Int32} {Code_firstGoal : Nat → Int32} {Code_secondGoal : Nat → Int32} {Code_op : Nat → Int32} {Code_set : Nat → Int32} {Code_left : Nat → Int32} {Code_leftNumber : Nat → Int32} {Code_right : Nat → Int32} {Code_rightNumber : Nat → Int32} {Loops_goals : Nat → Int64} {Loops_sources : Nat → Int64} {Loops_depth : Nat → Int32} {Graph_names : Int32} {Graph_words : Int32} {Giver_firstWeight : Nat → Int32} {Giver_firstDegree : Nat → Int32} {Giver_liveBefore : Nat → Int32} {Giver_slotOf : Nat → Int32} {Code_blocks : Int32} {Code_lines : Int32} {Code_isFull : Int32} {Live_names : Int32} {Live_words : Int32} {Live_ofSlots : Int32} {Graph_joined : Nat → Int64} {Graph_standing : Nat → Int64} {Graph_degree : Nat → Int32} {Colouring_weight : Nat → Int32} {Code_first2 : Nat → Int32} {Code_firstGoal2 : Nat → Int32} {Code_secondGoal2 : Nat → Int32} {Code_op2 : Nat → Int32} {Code_set2 : Nat → Int32} {Code_left2 : Nat → Int32} {Code_leftNumber2 : Nat → Int32} {Code_right2 : Nat → Int32} {Code_rightNumber2 : Nat → Int32} {Live_in : Nat → Int64} {Live_used : Nat → Int64} {Live_set : Nat → Int64} {Live_now : Nat → Int64} {o1 : Int32} {o2 : Int32} {o3 : Int32} {o4 : Int32} {o5 : Int32} {o6 : Int32} {o7 : Int64} {o8 : Int32} {o9 : Int32} {o10 : Int32} {o11 : Int32} {o12 : Int32} {o13 : Int32} {o14 : Int32} {o15 : Int32} {o16 : Int32} {o17 : Int32} {o18 : Int32} {o19 : Int32} {o20 : Int32} {o21 : Nat → Int32} {o22 : Nat → Int32} {o23 : Nat → Int32} {o24 : Nat → Int32} {o25 : Nat → Int32} {o26 : Nat → Int32} {o27 : Nat → Int32} {o28 : Nat → Int32} {o29 : Nat → Int32} {o30 : Nat → Int32} {o31 : Int32} {o32 : Int32} {o33 : Int32} {o34 : Int32} {o35 : Int32} {o36 : Int32} {o37 : Nat → Int64} {o38 : Nat → Int64} {o39 : Nat → Int32} {o40 : Int32} {o41 : Int32} {o42 : Nat → Int32} {o43 : Nat → Int32} {o44 : Nat → Int32} {o45 : Nat → Int32} {o46 : Int32} {o47 : Int32} {o48 : Int32} {o49 : Int32} {o50 : Int32} {o51 : Int32} {o52 : Nat → Int64} {o53 : Nat → Int64} {o54 : Nat → Int32} {o55 : Nat → Int32} {o56 : Nat → Int32} {o57 : Nat → Int32} {o58 : Nat → Int32} {o59 : Nat → Int32} {o60 : Nat → Int32} {o61 : Nat → Int32} {o62 : Nat → Int32} {o63 : Nat → Int32} {o64 : Nat → Int32} {o65 : Nat → Int64} {o66 : Nat → Int64} {o67 : Nat → Int64} {o68 : Nat → Int64} (hn : 0 ≤ Tape_size.toInt) (hn2 : Tape_size.toInt ≤ 8192) (h : tr_SpillForge_text Tape_size Reader_op Reader_set Reader_left Reader_leftNumber Giver_names Giver_slots Giver_sharedSlots Giver_spilled Giver_merged Giver_isDone Tape_bytes Reader_goalPlaces Code_first Code_firstGoal Code_secondGoal Code_op Code_set Code_left Code_leftNumber Code_right Code_rightNumber Loops_goals Loops_sources Loops_depth Graph_names Graph_words Giver_firstWeight Giver_firstDegree Giver_liveBefore Giver_slotOf Code_blocks Code_lines Code_isFull Live_names Live_words Live_ofSlots Graph_joined Graph_standing Graph_degree Colouring_weight Code_first2 Code_firstGoal2 Code_secondGoal2 Code_op2 Code_set2 Code_left2 Code_leftNumber2 Code_right2 Code_rightNumber2 Live_in Live_used Live_set Live_now o1 o2 o3 o4 o5 o6 o7 o8 o9 o10 o11 o12 o13 o14 o15 o16 o17 o18 o19 o20 o21 o22 o23 o24 o25 o26 o27 o28 o29 o30 o31 o32 o33 o34 o35 o36 o37 o38 o39 o40 o41 o42 o43 o44 o45 o46 o47 o48 o49 o50 o51 o52 o53 o54 o55 o56 o57 o58 o59 o60 o61 o62 o63 o64 o65 o66 o67 o68) : o3.toInt = 0 ∧ ((o2.toInt = 1 ∧ o1.toInt = -1 ∧ ∃ P, okP (bA Tape_bytes Tape_size.toInt) Tape_size.toInt P ∧ cdP o14 o15 o22 o23 o24 o25 o26 o27 o28 o29 o30 P ∧ lkS P o39 o42 o43 o44) ∨ (o2.toInt = 0 ∧ 0 ≤ o1.toInt ∧ ∀ P, ¬ okP (bA Tape_bytes Tape_size.toInt) Tape_size.toInt P)) := by
  have hB := bOk_bA (f := Tape_bytes) hn
  refine h (fun o1 o2 o3 o4 o5 o6 o7 o8 o9 o10 o11 o12 o13 o14 o15 o16 o17 o18 o19 o20 o21 o22 o23 o24 o25 o26 o27 o28 o29 o30 o31 o32 o33 o34 o35 o36 o37 o38 o39 o40 o41 o42 o43 o44 o45 o46 o47 o48 o49 o50 o51 o52 o53 o54 o55 o56 o57 o58 o59 o60 o61 o62 o63 o64 o65 o66 o67 o68 => o3.toInt = 0 ∧ ((o2.toInt = 1 ∧ o1.toInt = -1 ∧ ∃ P, okP (bA Tape_bytes Tape_size.toInt) Tape_size.toInt P ∧ cdP o14 o15 o22 o23 o24 o25 o26 o27 o28 o29 o30 P ∧ lkS P o39 o42 o43 o44) ∨ (o2.toInt = 0 ∧ 0 ≤ o1.toInt ∧ ∀ P, ¬ okP (bA Tape_bytes Tape_size.toInt) Tape_size.toInt P))) ?_ ?_
  · intro x1 x2 x3 x4 x5 x6 x7 x8 x9 x10 x11 x12 x13 x14 x15 x16 x17 x18 x19 x20 x21 x22 x23 x24 x25 x26 x27 x28 x29 h1 h2 h3 h4 h5 h6 h7 h8 h9 h10
    have z := cut0 hn h9
    have r := rI_tr hn hn2 h7
    refine ⟨z, ?_⟩
    rcases r with ⟨r1, -⟩ | ⟨r1, r2⟩
    · exact absurd r1 h10
    · exact Or.inr ⟨px_0, r1, r2⟩
  · intro x1 x2 x3 x4 x5 x6 x7 x8 x9 x10 x11 x12 x13 x14 x15 x16 x17 x18 x19 x20 x21 x22 x23 x24 x25 x26 x27 x28 x29 x30 x31 x32 x33 x34 x35 x36 x37 x38 x39 x40 x41 x42 x43 x44 x45 x46 x47 x48 x49 x50 x51 x52 x53 x54 x55 x56 x57 x58 x59 x60 x61 x62 x63 x64 x65 x66 x67 h1 h2 h3 h4 h5 h6 h7 h8 h9 h10 h11 h12 h13 h14 h15 h16 h17 h18 h19 h20 h21 h22 h23 h24 h25 h26
    have z := cut0 hn h9
    have r := rI_tr hn hn2 h7
    refine ⟨z, ?_⟩
    rcases r with ⟨r1, P, r2, r3⟩ | ⟨r1, -⟩
    · obtain ⟨k1, k2, k3, k4, k5, k6⟩ := okP_f hB r2
      have dp := lo_tr r3.1 k2 (fun b hb => (r3.2.2.1 b hb).2) k5 h11
      exact Or.inl ⟨px_1, r1, P, r2, r3, sv_tr r3 k1 k2 k3 k4 (fun b hb => dp b (by omega)) h26⟩
    · omega
theorem stf_1 {a : Int32} {f : Nat → Int32} (h : tr_Giver_stoodFirst a f 1) : ∃ m : Nat, a.toInt = (m : Int) ∧ m < 100 ∧ (f m).toInt ≠ -1 := by
  have q : (1 : Int32).toInt = 1 → ∃ m : Nat, a.toInt = (m : Int) ∧ m < 100 ∧ (f m).toInt ≠ -1 := by
    refine h (fun r => r.toInt = 1 → ∃ m : Nat, a.toInt = (m : Int) ∧ m < 100 ∧ (f m).toInt ≠ -1) ?_ ?_ ?_ ?_
    · intro h1
      exact fun z => absurd z (by decide)
    · intro h1 h2
      exact fun z => absurd z (by decide)
    · intro x1 h1 h2 h3 h4
      exact fun z => absurd z (by decide)
    · intro x1 h1 h2 h3 h4
      intro _
      have em : a.toInt = ((a.toInt.toNat : Nat) : Int) := (Int.toNat_of_nonneg h1).symm
      rw [nnE em] at h3
      exact ⟨a.toInt.toNat, em, by omega, by rw [← h3]; exact h4⟩
  exact q (by decide)
theorem fwt_tr {a r : Int32} {f : Nat → Int32} {m : Nat} (h : tr_Giver_firstWeight a f r) (ha : a.toInt = (m : Int)) (hm : m < 100) : r = f m := by
  refine h (fun r => r = f m) ?_ ?_ ?_
  · intro h1
    omega
  · intro h1 h2
    omega
  · intro x1 h1 h2 h3
    rw [nnE ha] at h3; exact h3
theorem fdg_tr {a r : Int32} {f : Nat → Int32} {m : Nat} (h : tr_Giver_firstDegree a f r) (ha : a.toInt = (m : Int)) (hm : m < 100) : r = f m := by
  refine h (fun r => r = f m) ?_ ?_ ?_
  · intro h1
    omega
  · intro h1 h2
    omega
  · intro x1 h1 h2 h3
    rw [nnE ha] at h3; exact h3
theorem lvb_tr {a r : Int32} {f : Nat → Int32} {m : Nat} (h : tr_Giver_liveBefore a f r) (ha : a.toInt = (m : Int)) (hm : m < 40) : r = f m := by
  refine h (fun r => r = f m) ?_ ?_ ?_
  · intro h1
    omega
  · intro h1 h2
    omega
  · intro x1 h1 h2 h3
    rw [nnE ha] at h3; exact h3
theorem lk_c {a1 : Int32} {a2 : Int32} {SpillForge_hasProgram : Int32} {Code_blocks : Int32} {Loops_depth : Nat → Int32} {Giver_firstWeight : Nat → Int32} {Giver_firstDegree : Nat → Int32} {Giver_liveBefore : Nat → Int32} {o1 : Int32} (hb : Code_blocks.toInt = (P.1 : Int)) (h40 : P.1 ≤ 40) (hk : lkS P Loops_depth Giver_firstWeight Giver_firstDegree Giver_liveBefore) (h : tr_SpillForge_look a1 a2 SpillForge_hasProgram Code_blocks Loops_depth Giver_firstWeight Giver_firstDegree Giver_liveBefore o1) : (a2.toInt = 0 ∧ ∃ v : Nat, a1.toInt = (v : Int) ∧ v < 100 ∧ Sd (pgZ P) false 100 v ∧ o1 = wPg (pgZ P) (dpt P) v P.1) ∨ (a2.toInt = 1 ∧ ∃ v : Nat, a1.toInt = (v : Int) ∧ v < 100 ∧ Sd (pgZ P) false 100 v ∧ isD (Jn (pgZ P) false 100 v) 2 o1.toInt) ∨ (a2.toInt = 2 ∧ ∃ b : Nat, a1.toInt = (b : Int) ∧ b < P.1 ∧ isD (fun v => v < 100 ∧ Lv P false v b 0) 2 o1.toInt) ∨ (a2.toInt = 3 ∧ ∃ b : Nat, a1.toInt = (b : Int) ∧ b < P.1 ∧ o1.toInt = (dpt P b : Int)) := by
  obtain ⟨k1, k2, k3⟩ := hk
  refine h (fun o1 => (a2.toInt = 0 ∧ ∃ v : Nat, a1.toInt = (v : Int) ∧ v < 100 ∧ Sd (pgZ P) false 100 v ∧ o1 = wPg (pgZ P) (dpt P) v P.1) ∨ (a2.toInt = 1 ∧ ∃ v : Nat, a1.toInt = (v : Int) ∧ v < 100 ∧ Sd (pgZ P) false 100 v ∧ isD (Jn (pgZ P) false 100 v) 2 o1.toInt) ∨ (a2.toInt = 2 ∧ ∃ b : Nat, a1.toInt = (b : Int) ∧ b < P.1 ∧ isD (fun v => v < 100 ∧ Lv P false v b 0) 2 o1.toInt) ∨ (a2.toInt = 3 ∧ ∃ b : Nat, a1.toInt = (b : Int) ∧ b < P.1 ∧ o1.toInt = (dpt P b : Int))) ?_ ?_ ?_ ?_ ?_ ?_ ?_ ?_ ?_ ?_
  · intro x1 h1 h2 h3 h4 h5 h6 h7 h8
    omega
  · intro x1 h1 h2 h3 h4 h5 h6 h7 h8
    omega
  · intro x1 h1 h2 h3 h4 h5 h6 h7 h8
    have em : a1.toInt = ((a1.toInt.toNat : Nat) : Int) := (Int.toNat_of_nonneg h5).symm
    have hbb : a1.toInt.toNat < P.1 := by omega
    exact Or.inr (Or.inr (Or.inl ⟨h7, a1.toInt.toNat, em, hbb, by rw [lvb_tr h8 em (by omega)]; exact k2 _ hbb⟩))
  · intro x1 h1 h2 h3 h4 h5 h6 h7 h8 h9 h10
    have em : a1.toInt = ((a1.toInt.toNat : Nat) : Int) := (Int.toNat_of_nonneg h5).symm
    have hbb : a1.toInt.toNat < P.1 := by omega
    exact Or.inr (Or.inr (Or.inr ⟨by omega, a1.toInt.toNat, em, hbb, by rw [ld_tr h10 em (by omega)]; exact k1 _ hbb⟩))
  · intro x1 h1 h2 h3 h4 h5 h6 h7
    obtain ⟨m, s1, s2, s3⟩ := stf_1 h5
    obtain ⟨f1, f2, f3⟩ := k3 m s2
    have sd : Sd (pgZ P) false 100 m := Classical.byContradiction (fun z => s3 (by rw [f3 z]; exact px_m1))
    exact Or.inl ⟨h6, m, s1, s2, sd, (fwt_tr h7 s1 s2).trans f1⟩
  · intro x1 h1 h2 h3 h4 h5 h6 h7
    obtain ⟨m, s1, s2, s3⟩ := stf_1 h5
    obtain ⟨f1, f2, f3⟩ := k3 m s2
    have sd : Sd (pgZ P) false 100 m := Classical.byContradiction (fun z => s3 (by rw [f3 z]; exact px_m1))
    exact Or.inr (Or.inl ⟨h6, m, s1, s2, sd, by rw [fdg_tr h7 s1 s2]; exact f2 sd⟩)
  · intro h1 h2 h3 h4 h5 h6 h7
    omega
  · intro x1 h1 h2 h3 h4 h5 h6 h7
    omega
  · intro h1 h2 h3 h4 h5 h6 h7 h8 h9
    omega
  · intro x1 h1 h2 h3 h4 h5 h6 h7 h8 h9
    omega
end TXC
end
section
/-! giving out, over programs: counts, who is joined whatever the number of names, degrees; merging -/
section CNT
variable {T U : Nat → Prop} {n z : Nat}
theorem cntP_c6 (h : ∀ b, b < n → (T b ↔ U b)) : cntP T n = cntP U n :=
  Nat.le_antisymm (cntP_mo n (fun b hb => (h b hb).mp)) (cntP_mo n (fun b hb => (h b hb).mpr))
theorem cntP_n (h : ∀ b, b < n → ¬ T b) : cntP T n = 0 := by
  have h1 := cntP_mo (T := T) (U := fun _ => False) n (fun b hb => h b hb)
  have h2 : ∀ m, cntP (fun _ => False) m = 0 := fun m => by
    induction m with
    | zero => rfl
    | succ m ih =>
      show cntP (fun _ => False) m + @ite Nat False (Classical.propDecidable False) 1 0 = 0
      rw [ih, if_neg id]
  have h3 := h2 n
  omega
theorem cntP_x : ∀ n, z < n → (∀ b, b < n → b ≠ z → (T b ↔ U b)) → T z → ¬ U z → cntP T n = cntP U n + 1
  | 0, hz, _, _, _ => absurd hz (Nat.not_lt_zero z)
  | n + 1, hz, h, ht, hu => by
    show cntP T n + @ite Nat (T n) (Classical.propDecidable (T n)) 1 0 = cntP U n + @ite Nat (U n) (Classical.propDecidable (U n)) 1 0 + 1
    by_cases e : z = n
    · rw [e] at ht hu
      rw [if_pos ht, if_neg hu, cntP_c6 (fun b hb => h b (by omega) (by omega))]
    · have i := cntP_x n (by omega) (fun b hb => h b (by omega)) ht hu
      have q := h n (Nat.lt_succ_self n) (fun c => e c.symm)
      by_cases c : T n
      · rw [if_pos c, if_pos (q.mp c)]; omega
      · rw [if_neg c, if_neg (fun x => c (q.mpr x))]; omega
theorem cntP_add : ∀ m, cntP T (n + m) = cntP T n + cntP (fun i => T (n + i)) m
  | 0 => rfl
  | m + 1 => by
    have i := cntP_add m
    show cntP T (n + m) + @ite Nat (T (n + m)) (Classical.propDecidable (T (n + m))) 1 0 = cntP T n + (cntP (fun i => T (n + i)) m + @ite Nat (T (n + m)) (Classical.propDecidable (T (n + m))) 1 0)
    omega
theorem cntP_z (m : Nat) (h : ∀ b, n ≤ b → ¬ T b) : cntP T (n + m) = cntP T n := by
  rw [cntP_add m, cntP_n (T := fun i => T (n + i)) (fun b _ => h (n + b) (Nat.le_add_right n b)), Nat.add_zero]
theorem cntP_zz {m : Nat} (hm : n ≤ m) (h : ∀ b, n ≤ b → ¬ T b) : cntP T m = cntP T n := by
  have := cntP_z (m - n) h
  rwa [show n + (m - n) = m by omega] at this
end CNT
section GVD
variable {Q R : gPg} {v u n Nm b j c i : Nat} {sl : Bool}
/-- joined, whatever the number of names -/
def JJ (Q : gPg) (v u : Nat) : Prop := Jn Q false 2000 v u
/-- all names are below n -/
def nmO (Q : gPg) (n : Nat) : Prop := ∀ b j, b < Q.1 → j < Q.2.1 b → Q.2.2.1 b j 1 < (n : Int) ∧ Q.2.2.1 b j 2 < (n : Int) ∧ Q.2.2.1 b j 4 < (n : Int)
theorem Lv_us6 (h : Lv Q sl v b j) : ∃ c i, c < Q.1 ∧ i < Q.2.1 c ∧ usR sl (Q.2.2.1 c i) v :=
  h (fun _ _ => ∃ c i, c < Q.1 ∧ i < Q.2.1 c ∧ usR sl (Q.2.2.1 c i) v) (fun b j h1 h2 h3 => ⟨b, j, h1, h2, h3⟩) (fun _ _ _ _ _ h => h) (fun _ _ _ _ _ _ _ h => h)
theorem us_lt (hn : nmO Q n) (hc : c < Q.1) (hi : i < Q.2.1 c) (h : usR false (Q.2.2.1 c i) u) : u < n := by
  have q := hn c i hc hi
  unfold usR at h
  rw [if_neg (by decide)] at h
  omega
theorem se_lt (hn : nmO Q n) (hc : c < Q.1) (hi : i < Q.2.1 c) (h : seR false (Q.2.2.1 c i) u) : u < n := by
  have q := hn c i hc hi
  unfold seR at h
  rw [if_neg (by decide)] at h
  omega
theorem jdA_i {m : Nat} (hn : nmO Q n) (hN : n ≤ m) (hb : b < Q.1) (hj : j < Q.2.1 b) (h : jdA Q false Nm b j v u) : jdA Q false m b j v u ∧ v < n ∧ u < n := by
  obtain ⟨h1, h2, h3, h4, h5⟩ := h
  have a := se_lt hn hb hj h3
  obtain ⟨c, i, q1, q2, q3⟩ := Lv_us6 h4
  have d := us_lt hn q1 q2 q3
  exact ⟨⟨by omega, by omega, h3, h4, h5⟩, a, d⟩
theorem Jn_i {m : Nat} (hn : nmO Q n) (hN : n ≤ m) (h : Jn Q false Nm v u) : Jn Q false m v u ∧ v < n ∧ u < n := by
  obtain ⟨b, j, h1, h2, h3 | h3⟩ := h
  · have q := jdA_i hn hN h1 h2 h3
    exact ⟨⟨b, j, h1, h2, Or.inl q.1⟩, q.2⟩
  · have q := jdA_i hn hN h1 h2 h3
    exact ⟨⟨b, j, h1, h2, Or.inr q.1⟩, q.2.2, q.2.1⟩
theorem Jn_JJ (hn : nmO Q n) (hN : n ≤ Nm) (h2 : n ≤ 2000) : Jn Q false Nm v u ↔ JJ Q v u := ⟨fun h => (Jn_i hn h2 h).1, fun h => (Jn_i hn hN h).1⟩
theorem JJ_lt (h : JJ Q v u) : v < 2000 ∧ u < 2000 := by
  obtain ⟨b, j, -, -, h3 | h3⟩ := h
  · exact ⟨h3.1, h3.2.1⟩
  · exact ⟨h3.2.1, h3.1⟩
theorem JJ_n (hn : nmO Q n) (h2 : n ≤ 2000) (h : JJ Q v u) : v < n ∧ u < n := (Jn_i hn h2 h).2
theorem JJ_nn (hn : nmO Q n) (h : JJ Q v u) : v < n ∧ u < n := by
  by_cases c : n ≤ 2000
  · exact JJ_n hn c h
  · have := JJ_lt h; omega
theorem JJ_s (h : JJ Q v u) : JJ Q u v := by
  obtain ⟨b, j, h1, h2, h3⟩ := h
  exact ⟨b, j, h1, h2, h3.symm⟩
theorem Sd_i {m : Nat} (hn : nmO Q n) (hN : n ≤ m) (h : Sd Q false Nm v) : Sd Q false m v ∧ v < n := by
  obtain ⟨h1, b, j, h2, h3, h4⟩ := h
  have a : v < n := h4.elim (fun q => us_lt hn h2 h3 q) (fun q => se_lt hn h2 h3 q)
  exact ⟨⟨by omega, b, j, h2, h3, h4⟩, a⟩
theorem isD_w {T : Nat → Prop} {W V : Nat} {d : Int} (h : isD T W d) (hW : W ≤ V) (hT : ∀ v, 64 * W ≤ v → ¬ T v) : isD T V d := by
  obtain ⟨f, a, h1, h2⟩ := h
  refine ⟨fun i => if i < a + W then f i else 0, a, fun v hv => ?_, ?_⟩
  · by_cases c : v < 64 * W
    · have e : gbit (fun i => if i < a + W then f i else 0) (64 * a + v) = gbit f (64 * a + v) := by
        unfold gbit
        dsimp only
        rw [if_pos (show (64 * a + v) / 64 < a + W by omega)]
      rw [e]; exact h1 v c
    · have e : gbit (fun i => if i < a + W then f i else 0) (64 * a + v) = false := gbit_0 (if_neg (by omega))
      rw [e]
      exact ⟨fun z => (nomatch z), fun z => absurd z (hT v (by omega))⟩
  · have e1 := bsm_z (f := fun i => if i < a + W then f i else 0) (a := a) (W := W) (k := V - W) (fun w p _ => if_neg (by omega))
    rw [show W + (V - W) = V by omega] at e1
    rw [e1, h2]
    exact bsm_c (fun w hw => (if_pos (show a + w < a + W by omega)).symm)
theorem isD_c {T U : Nat → Prop} {W : Nat} {d : Int} (h : isD T W d) (hT : ∀ v, v < 64 * W → (T v ↔ U v)) : isD U W d := by
  obtain ⟨f, a, h1, h2⟩ := h
  exact ⟨f, a, fun v hv => (h1 v hv).trans (hT v hv), h2⟩
/-- how many are joined to v -/
noncomputable def dgc (Q : gPg) (v : Nat) : Int32 := @Classical.epsilon Int32 ⟨0⟩ (fun d => isD (JJ Q v) 32 d.toInt)
theorem dgc_e {d : Int32} (h : isD (JJ Q v) 32 d.toInt) : d = dgc Q v := by
  have q : isD (JJ Q v) 32 (dgc Q v).toInt := @Classical.epsilon_spec Int32 (fun d => isD (JJ Q v) 32 d.toInt) ⟨d, h⟩
  exact Int32.toInt_inj.mp (isD_u h q (Nat.le_refl _) (fun w hw z => by have := (JJ_lt z).2; omega))
/-- r is joined to v or u and, were these one, to k or more -/
def crw (J : Nat → Nat → Prop) (d : Nat → Int32) (k : Int) (v u r : Nat) : Prop := (J v r ∧ J u r ∧ k ≤ (d r - 1).toInt) ∨ (¬ (J v r ∧ J u r) ∧ (J v r ∨ J u r) ∧ k ≤ (d r).toInt)
def mgc (Q : gPg) (k : Int) (v u : Nat) : Prop := v < 100 ∧ u < 100 ∧ ¬ JJ Q v u ∧ (cntP (crw (JJ Q) (dgc Q) k v u) 2048 : Int) < k
/-- line j of block b copies a register and may be merged -/
def mgb (Q : gPg) (k : Int) (b j : Nat) : Prop := b < Q.1 ∧ j < Q.2.1 b ∧ Q.2.2.1 b j 0 = 14 ∧ 0 ≤ Q.2.2.1 b j 1 ∧ 0 ≤ Q.2.2.1 b j 2 ∧ (Q.2.2.1 b j 1 = Q.2.2.1 b j 2 ∨ mgc Q k (Q.2.2.1 b j 1).toNat (Q.2.2.1 b j 2).toNat)
def fsM (Q : gPg) (k : Int) (b j : Nat) : Prop := mgb Q k b j ∧ ∀ c i, mgb Q k c i → b < c ∨ (b = c ∧ j ≤ i)
theorem fsM_u {k : Int} (h : fsM Q k b j) (h2 : fsM Q k c i) : b = c ∧ j = i := by
  have a := h.2 c i h2.1
  have d := h2.2 b j h.1
  omega
def rnV (w v : Int) (x : Int) : Int := if x = w then v else x
def rnL (w v : Int) (l : Nat → Int) : Nat → Int := fun f => if f = 1 ∨ f = 2 ∨ f = 4 then rnV w v (l f) else l f
def pgDr (Q : gPg) (b j : Nat) : gPg := (Q.1, fun c => if c = b then Q.2.1 c - 1 else Q.2.1 c, fun c i => Q.2.2.1 c (if c = b ∧ j ≤ i then i + 1 else i), Q.2.2.2)
def pgRn (Q : gPg) (w v : Int) : gPg := (Q.1, Q.2.1, fun c i => rnL w v (Q.2.2.1 c i), Q.2.2.2)
def mg1 (Q : gPg) (b j : Nat) : gPg := pgRn (pgDr Q b j) (max (Q.2.2.1 b j 1) (Q.2.2.1 b j 2)) (min (Q.2.2.1 b j 1) (Q.2.2.1 b j 2))
/-- n merges, one after the other, until there is none -/
def MGn (k : Int) : Nat → gPg → gPg → Prop
  | 0, Q, R => R = Q ∧ ∀ b j, ¬ mgb Q k b j
  | n + 1, Q, R => ∃ b j, fsM Q k b j ∧ MGn k n (mg1 Q b j) R
theorem MGn_u {k : Int} : ∀ {n m : Nat} {Q R S : gPg}, MGn k n Q R → MGn k m Q S → n = m ∧ R = S
  | 0, 0, _, _, _, h, h2 => ⟨rfl, h.1.trans h2.1.symm⟩
  | 0, _ + 1, _, _, _, h, ⟨b, j, q, _⟩ => absurd q.1 (h.2 b j)
  | _ + 1, 0, _, _, _, ⟨b, j, q, _⟩, h => absurd q.1 (h.2 b j)
  | n + 1, m + 1, _, _, _, ⟨b, j, q, h⟩, ⟨c, i, q2, h2⟩ => by
    obtain ⟨e1, e2⟩ := fsM_u q q2
    rw [← e1, ← e2] at h2
    have r := MGn_u h h2
    exact ⟨by rw [r.1], r.2⟩
theorem nmO_dr (hn : nmO Q n) : nmO (pgDr Q b j) n := fun c i hc hi => by
  have hi2 : i < if c = b then Q.2.1 c - 1 else Q.2.1 c := hi
  refine hn c (if c = b ∧ j ≤ i then i + 1 else i) hc ?_
  by_cases e : c = b
  · rw [if_pos e] at hi2; split <;> omega
  · rw [if_neg e] at hi2; rw [if_neg (fun z => e z.1)]; exact hi2
theorem rnV_lt {w v x N : Int} (hx : x < N) (hv : v < N) : rnV w v x < N := by unfold rnV; split <;> assumption
theorem nmO_rn {w v : Int} (hn : nmO Q n) (hv : v < (n : Int)) : nmO (pgRn Q w v) n := fun c i hc hi => by
  obtain ⟨a1, a2, a3⟩ := hn c i hc hi
  exact ⟨rnV_lt a1 hv, rnV_lt a2 hv, rnV_lt a3 hv⟩
theorem nmO_mg (hn : nmO Q n) (hb : b < Q.1) (hj : j < Q.2.1 b) : nmO (mg1 Q b j) n := by
  obtain ⟨a1, a2, a3⟩ := hn b j hb hj
  exact nmO_rn (nmO_dr hn) (by omega)
theorem fsm_ex {l : Nat → Nat} : ∀ {N i : Nat}, i < fsm l N → ∃ b j, b < N ∧ j < l b ∧ i = fsm l b + j
  | 0, i, h => absurd h (Nat.not_lt_zero i)
  | N + 1, i, h => by
    by_cases c : i < fsm l N
    · obtain ⟨b, j, h1, h2, h3⟩ := fsm_ex c
      exact ⟨b, j, by omega, h2, h3⟩
    · have q : i < fsm l N + l N := h
      exact ⟨N, i - fsm l N, Nat.lt_succ_self N, by omega, by omega⟩
theorem fsm_u {l : Nat → Nat} {b c i j : Nat} (hj : j < l b) (hi : i < l c) (h : fsm l b + j = fsm l c + i) : b = c ∧ j = i := by
  rcases Nat.lt_trichotomy b c with q | q | q
  · have := fsm_lt q hj; omega
  · rw [q] at h; exact ⟨q, by omega⟩
  · have := fsm_lt q hi; omega
theorem fsm_dr {l : Nat → Nat} {b : Nat} (hb : 0 < l b) : ∀ c, fsm (fun c => if c = b then l c - 1 else l c) c = if c ≤ b then fsm l c else fsm l c - 1
  | 0 => by rw [if_pos (Nat.zero_le b)]; rfl
  | c + 1 => by
    show fsm (fun c => if c = b then l c - 1 else l c) c + (if c = b then l c - 1 else l c) = _
    rw [fsm_dr hb c]
    have e : fsm l (c + 1) = fsm l c + l c := rfl
    by_cases q : c = b
    · rw [if_pos (show c ≤ b by omega), if_pos q, if_neg (by omega), e, q]; omega
    · rw [if_neg q]
      by_cases p : c < b
      · rw [if_pos (show c ≤ b by omega), if_pos (by omega), e]
      · rw [if_neg (show ¬ c ≤ b by omega), if_neg (by omega), e]
        have := fsm_mo (l := l) (show b + 1 ≤ c by omega)
        have e2 : fsm l (b + 1) = fsm l b + l b := rfl
        omega
end GVD
end
section
section MGC
variable {Q : gPg} {W Nm b j v u w : Nat}
/-- the class's graph is that of Q -/
def gfC (Q : gPg) (Nm W : Nat) (nam wor : Int32) (jo sd : Nat → Int64) (dg : Nat → Int32) : Prop :=
  nam.toInt = (Nm : Int) ∧ wor.toInt = (W : Int) ∧ Nm ≤ 64 * W ∧ W ≤ 12 ∧ nmO Q Nm ∧ (∀ x y, x < Nm → y < 64 * W → (gbit jo (64 * (x * W) + y) = true ↔ JJ Q x y)) ∧ (∀ v, v < 64 * W → (gbit sd v = true ↔ Sd Q false 2000 v)) ∧ (∀ v, v < Nm → dg v = dgc Q v)
theorem JJ_W {x y : Nat} (hn : nmO Q Nm) (hW : Nm ≤ 64 * W) (hW2 : W ≤ 12) : JJ Q x y → x < 64 * W ∧ y < 64 * W := fun h => by
  have := JJ_lt h
  by_cases c : Nm ≤ 2000
  · have q := JJ_n hn c h
    omega
  · omega
theorem gfC_b {a2 : Int32} {a3 : Int32} {Code_blocks : Int32} {Code_lines : Int32} {Graph_joined : Nat → Int64} {Graph_standing : Nat → Int64} {Graph_degree : Nat → Int32} {Code_first : Nat → Int32} {Code_firstGoal : Nat → Int32} {Code_secondGoal : Nat → Int32} {Code_op : Nat → Int32} {Code_set : Nat → Int32} {Code_left : Nat → Int32} {Code_right : Nat → Int32} {Code_rightNumber : Nat → Int32} {Live_in : Nat → Int64} {Live_used : Nat → Int64} {Live_set : Nat → Int64} {Live_now : Nat → Int64} {o1 : Int32} {o2 : Int32} {o3 : Int32} {o4 : Int32} {o5 : Int32} {o6 : Nat → Int64} {o7 : Nat → Int64} {o8 : Nat → Int32} {o9 : Nat → Int64} {o10 : Nat → Int64} {o11 : Nat → Int64} {o12 : Nat → Int64} {cln : Nat → Int32} (hc : cdP Code_blocks Code_lines Code_first Code_firstGoal Code_secondGoal Code_op Code_set Code_left cln Code_right Code_rightNumber Q) (hN : a2.toInt = (Nm : Int)) (hN2 : Nm ≤ 720) (ha : a3.toInt = 0) (hn : nmO Q Nm) (h : tr_Graph_build a2 a3 Code_blocks Code_lines Graph_joined Graph_standing Graph_degree Code_first Code_firstGoal Code_secondGoal Code_op Code_set Code_left Code_right Code_rightNumber Live_in Live_used Live_set Live_now o1 o2 o3 o4 o5 o6 o7 o8 o9 o10 o11 o12) : gfC Q Nm ((Nm + 63) / 64) o1 o2 o6 o7 o8 := by
  obtain ⟨e1, e2, -, -, e3, e4, e5, -⟩ := gb_tr (sl := false) hc hN hN2 (by rw [ha]; decide) h
  have hW : Nm ≤ 64 * ((Nm + 63) / 64) := by omega
  refine ⟨e1, e2, hW, by omega, hn, fun x y hx hy => (e3 x y hx hy).trans (Jn_JJ hn (Nat.le_refl _) (by omega)), fun v hv => (e4 v hv).trans ⟨fun z => (Sd_i hn (by omega) z).1, fun z => (Sd_i hn (Nat.le_refl _) z).1⟩, fun v hv => dgc_e ?_⟩
  refine isD_c (isD_w (e5 v hv) (show (Nm + 63) / 64 ≤ 32 by omega) (fun y hy z => ?_)) (fun y hy => Jn_JJ hn (Nat.le_refl _) (by omega))
  have := (Jn_i hn (Nat.le_refl _) z).2.2
  omega
theorem and1 {x y : Int64} (hv : y = x &&& 1) : y = bif x.toBitVec.getLsbD 0 then 1 else 0 := by
  have o : ∀ n, (1 : Int64).toBitVec.getLsbD n = decide (n = 0) := fun n => by
    show (1#64).getLsbD n = _
    rw [BitVec.getLsbD_one]; simp
  cases hb : x.toBitVec.getLsbD 0
  · refine bit_eq (fun n hn => ?_)
    rw [bit_and hv, o]
    by_cases c : n = 0
    · rw [c, hb]; rfl
    · simp [c]
  · refine bit_eq (fun n hn => ?_)
    rw [bit_and hv]
    show _ = (1 : Int64).toBitVec.getLsbD n
    rw [o]
    by_cases c : n = 0
    · rw [c, hb]; rfl
    · simp [c]
theorem lsh1 {x y t : Int64} {i r : Int32} {z : Nat} (hy : y = (x.toUInt64 >>> (i.toInt64.toUInt64 &&& Int64.toUInt64 63)).toInt64) (ht : t = y &&& 1) (hr : r = t.toInt32) (hi : i.toInt = (z : Int)) (hz : z < 64) : r = bif x.toBitVec.getLsbD z then 1 else 0 := by
  have e1 : (i.toInt64.toUInt64 &&& Int64.toUInt64 63) = (i.toInt64 &&& 63).toUInt64 := rfl
  rw [e1, lb_Qcnt i (by omega), hi, Int.toNat_natCast] at hy
  have b0 : y.toBitVec.getLsbD 0 = x.toBitVec.getLsbD z := by
    rw [hy]
    show (x.toBitVec >>> ((Int64.ofNat (z % 64)).toBitVec % 64#64)).getLsbD 0 = _
    have h5 : ((Int64.ofNat (z % 64)).toBitVec % 64#64).toNat = z := by
      show ((z % 64) % 2 ^ 64) % 64 = z
      omega
    show (x.toBitVec >>> ((Int64.ofNat (z % 64)).toBitVec % 64#64).toNat).getLsbD 0 = _
    rw [BitVec.getLsbD_ushiftRight, h5, Nat.add_zero]
  have q := and1 ht
  rw [b0] at q
  rw [hr, q]
  cases x.toBitVec.getLsbD z <;> rfl
theorem cb57 {l5_1 : Int32} {Graph_degree : Nat → Int32} {c1 : Int64} {c2 : Int64} {a3 : Int32} {s1 : Int32} {s2 : Int64} {s3 : Int32} {k : Nat} {e1 : Int32} (hw : l5_1.toInt = (w : Int)) (hw2 : w < 12) (h : tl_Graph_canBeOne_57 l5_1 Graph_degree c1 c2 a3 s1 s2 s3 k e1) : ∀ n : Nat, s1.toInt = (n : Int) → (∀ i, i < n → s2.toBitVec.getLsbD i = false) → 0 ≤ s3.toInt → s3.toInt ≤ 2000 + (n : Int) → e1.toInt = s3.toInt + (cntP (fun i => s2.toBitVec.getLsbD i = true ∧ a3.toInt ≤ (bif (c1.toBitVec.getLsbD i && c2.toBitVec.getLsbD i) then Graph_degree (64 * w + i) - 1 else Graph_degree (64 * w + i)).toInt) 64 : Int) := by
  refine h (fun s1 s2 s3 _ e1 => ∀ n : Nat, s1.toInt = (n : Int) → (∀ i, i < n → s2.toBitVec.getLsbD i = false) → 0 ≤ s3.toInt → s3.toInt ≤ 2000 + (n : Int) → e1.toInt = s3.toInt + (cntP (fun i => s2.toBitVec.getLsbD i = true ∧ a3.toInt ≤ (bif (c1.toBitVec.getLsbD i && c2.toBitVec.getLsbD i) then Graph_degree (64 * w + i) - 1 else Graph_degree (64 * w + i)).toInt) 64 : Int)) ?_ ?_ ?_ ?_
  · intro l12_2 l10_2 l4_2 h1 h2
    intro n hn hz _ _
    rw [cntP_n (fun i hi z => by have q := z.1; rw [hz i (by omega)] at q; cases q)]
    exact (Int.add_zero _).symm
  · intro l12_2 l10_2 l4_2 h1 h2 h3
    intro n hn hz _ _
    rw [cntP_n (fun i hi z => by have q := z.1; rw [h3] at q; simp at q)]
    exact (Int.add_zero _).symm
  · intro l12_2 l10_2 l4_2 x1 x2 x3 x4 x5 x6 x7 x8 x9 x10 x11 x12 x13 k e1 h1 h2 h3 h4 h5 h6 h7 h8 h9 h10 h11 h12 h13 h14 h15 h16 h17 h18 ih
    intro n hn hz p1 p2
    obtain ⟨z, z1, z2, z3, z4⟩ := lw_tr h3 h5
    have zn : n ≤ z := by
      by_cases c : z < n
      · rw [hz z c] at z3; cases z3
      · omega
    have n64 : n < 64 := by omega
    have cl := bit_neg1 h6 h7 z1 z3 z4
    have hz' : ∀ i, i < n + 1 → x3.toBitVec.getLsbD i = false := fun i hi => by
      rw [cl i (by omega)]
      by_cases c : i = z
      · simp [c]
      · rw [z4 i (by omega), Bool.false_and]
    have e5 : x5.toNatClampNeg = 64 * w + z := nnE (by omega)
    have e10 := lsh1 h12 h13 h14 z2 z1
    rw [bit_and h11] at e10
    have e11 : x11 = bif (c1.toBitVec.getLsbD z && c2.toBitVec.getLsbD z) then Graph_degree (64 * w + z) - 1 else Graph_degree (64 * w + z) := by
      rw [h15, e10, h10, e5]
      cases (c1.toBitVec.getLsbD z && c2.toBitVec.getLsbD z)
      · exact Int32.sub_zero _
      · rfl
    rw [e11] at h16
    have oth : ∀ b, b < 64 → b ≠ z → ((l10_2.toBitVec.getLsbD b = true ∧ a3.toInt ≤ (bif (c1.toBitVec.getLsbD b && c2.toBitVec.getLsbD b) then Graph_degree (64 * w + b) - 1 else Graph_degree (64 * w + b)).toInt) ↔ (x3.toBitVec.getLsbD b = true ∧ a3.toInt ≤ (bif (c1.toBitVec.getLsbD b && c2.toBitVec.getLsbD b) then Graph_degree (64 * w + b) - 1 else Graph_degree (64 * w + b)).toInt)) := fun b hb hbz => by
      rw [cl b hb]
      simp [hbz]
    have nz : ¬ (x3.toBitVec.getLsbD z = true ∧ a3.toInt ≤ (bif (c1.toBitVec.getLsbD z && c2.toBitVec.getLsbD z) then Graph_degree (64 * w + z) - 1 else Graph_degree (64 * w + z)).toInt) := fun q => by
      have q1 := q.1
      rw [cl z z1] at q1
      simp at q1
    have i1 := ih (n + 1) (by omega) hz' (by omega) (by omega)
    have cx := cntP_c6 (T := fun i => l10_2.toBitVec.getLsbD i = true ∧ a3.toInt ≤ (bif (c1.toBitVec.getLsbD i && c2.toBitVec.getLsbD i) then Graph_degree (64 * w + i) - 1 else Graph_degree (64 * w + i)).toInt) (U := fun i => x3.toBitVec.getLsbD i = true ∧ a3.toInt ≤ (bif (c1.toBitVec.getLsbD i && c2.toBitVec.getLsbD i) then Graph_degree (64 * w + i) - 1 else Graph_degree (64 * w + i)).toInt) (n := 64) (fun b hb => by
      by_cases c : b = z
      · rw [c]
        exact ⟨fun q => absurd q.2 (by omega), fun q => absurd q nz⟩
      · exact oth b hb c)
    omega
  · intro l12_2 l10_2 l4_2 x1 x2 x3 x4 x5 x6 x7 x8 x9 x10 x11 x12 x13 k e1 h1 h2 h3 h4 h5 h6 h7 h8 h9 h10 h11 h12 h13 h14 h15 h16 h17 h18 ih
    intro n hn hz p1 p2
    obtain ⟨z, z1, z2, z3, z4⟩ := lw_tr h3 h5
    have zn : n ≤ z := by
      by_cases c : z < n
      · rw [hz z c] at z3; cases z3
      · omega
    have n64 : n < 64 := by omega
    have cl := bit_neg1 h6 h7 z1 z3 z4
    have hz' : ∀ i, i < n + 1 → x3.toBitVec.getLsbD i = false := fun i hi => by
      rw [cl i (by omega)]
      by_cases c : i = z
      · simp [c]
      · rw [z4 i (by omega), Bool.false_and]
    have e5 : x5.toNatClampNeg = 64 * w + z := nnE (by omega)
    have e10 := lsh1 h12 h13 h14 z2 z1
    rw [bit_and h11] at e10
    have e11 : x11 = bif (c1.toBitVec.getLsbD z && c2.toBitVec.getLsbD z) then Graph_degree (64 * w + z) - 1 else Graph_degree (64 * w + z) := by
      rw [h15, e10, h10, e5]
      cases (c1.toBitVec.getLsbD z && c2.toBitVec.getLsbD z)
      · exact Int32.sub_zero _
      · rfl
    rw [e11] at h16
    have oth : ∀ b, b < 64 → b ≠ z → ((l10_2.toBitVec.getLsbD b = true ∧ a3.toInt ≤ (bif (c1.toBitVec.getLsbD b && c2.toBitVec.getLsbD b) then Graph_degree (64 * w + b) - 1 else Graph_degree (64 * w + b)).toInt) ↔ (x3.toBitVec.getLsbD b = true ∧ a3.toInt ≤ (bif (c1.toBitVec.getLsbD b && c2.toBitVec.getLsbD b) then Graph_degree (64 * w + b) - 1 else Graph_degree (64 * w + b)).toInt)) := fun b hb hbz => by
      rw [cl b hb]
      simp [hbz]
    have nz : ¬ (x3.toBitVec.getLsbD z = true ∧ a3.toInt ≤ (bif (c1.toBitVec.getLsbD z && c2.toBitVec.getLsbD z) then Graph_degree (64 * w + z) - 1 else Graph_degree (64 * w + z)).toInt) := fun q => by
      have q1 := q.1
      rw [cl z z1] at q1
      simp at q1
    have a12 : x12.toInt = l4_2.toInt + 1 := by have q := px_add h17 (by rw [px_1]; omega) (by rw [px_1]; omega); rw [px_1] at q; exact q
    have i1 := ih (n + 1) (by omega) hz' (by omega) (by omega)
    have cx := cntP_x (T := fun i => l10_2.toBitVec.getLsbD i = true ∧ a3.toInt ≤ (bif (c1.toBitVec.getLsbD i && c2.toBitVec.getLsbD i) then Graph_degree (64 * w + i) - 1 else Graph_degree (64 * w + i)).toInt) (U := fun i => x3.toBitVec.getLsbD i = true ∧ a3.toInt ≤ (bif (c1.toBitVec.getLsbD i && c2.toBitVec.getLsbD i) then Graph_degree (64 * w + i) - 1 else Graph_degree (64 * w + i)).toInt) 64 z1 oth ⟨z3, h16⟩ nz
    omega
theorem cb6 {Graph_words : Int32} {a1 : Int32} {Graph_joined : Nat → Int64} {a2 : Int32} {Graph_degree : Nat → Int32} {a3 : Int32} {s1 : Int32} {s2 : Int32} {k : Nat} {e1 : Int32} {nam : Int32} {sd : Nat → Int64} (hg : gfC Q Nm W nam Graph_words Graph_joined sd Graph_degree) (hv : a1.toInt = (v : Int)) (hu : a2.toInt = (u : Int)) (hv2 : v < Nm) (hu2 : u < Nm) (h : tl_Graph_canBeOne_6 Graph_words a1 Graph_joined a2 Graph_degree a3 s1 s2 k e1) : ∀ m : Nat, s1.toInt = (m : Int) → m ≤ W → s2.toInt = (cntP (crw (JJ Q) (dgc Q) a3.toInt v u) (64 * m) : Int) → e1.toInt = (cntP (crw (JJ Q) (dgc Q) a3.toInt v u) (64 * W) : Int) := by
  obtain ⟨-, gW, gN, gW2, gn, gJ, -, gd⟩ := hg
  refine h (fun s1 s2 _ e1 => ∀ m : Nat, s1.toInt = (m : Int) → m ≤ W → s2.toInt = (cntP (crw (JJ Q) (dgc Q) a3.toInt v u) (64 * m) : Int) → e1.toInt = (cntP (crw (JJ Q) (dgc Q) a3.toInt v u) (64 * W) : Int)) ?_ ?_
  · intro l5_1 l4_1 h1 h2
    intro m hm hmW hs
    rw [hs, show m = W by omega]
  · intro l5_1 l4_1 x1 x2 x3 x4 x5 x6 x7 x8 x9 k e1 h1 h2 h3 h4 h5 h6 h7 h8 h9 h10 h11 ih
    intro m hm hmW hs
    have ep : x1.toInt = ((v * W : Nat) : Int) := by rw [h3, hv, gW]; exact (Int.natCast_mul _ _).symm
    have eq : x4.toInt = ((u * W : Nat) : Int) := by rw [h6, hu, gW]; exact (Int.natCast_mul _ _).symm
    have ei : x2.toNatClampNeg = v * W + m := nnE (by omega)
    have ej : x5.toNatClampNeg = u * W + m := nnE (by omega)
    rw [ei] at h5
    rw [ej] at h8
    have hmW2 : m < W := by omega
    have bv : ∀ i, i < 64 → (x3.toBitVec.getLsbD i = true ↔ JJ Q v (64 * m + i)) := fun i hi => by
      rw [← gJ v (64 * m + i) hv2 (by omega)]
      unfold gbit
      rw [h5, show (64 * (v * W) + (64 * m + i)) / 64 = v * W + m by omega, show (64 * (v * W) + (64 * m + i)) % 64 = i by omega]
    have bu : ∀ i, i < 64 → (x6.toBitVec.getLsbD i = true ↔ JJ Q u (64 * m + i)) := fun i hi => by
      rw [← gJ u (64 * m + i) hu2 (by omega)]
      unfold gbit
      rw [h8, show (64 * (u * W) + (64 * m + i)) / 64 = u * W + m by omega, show (64 * (u * W) + (64 * m + i)) % 64 = i by omega]
    have le := cntP_le (T := crw (JJ Q) (dgc Q) a3.toInt v u) (64 * m)
    have st := cb57 hm (by omega) h10 0 (by decide) (fun i hi => absurd hi (Nat.not_lt_zero i)) (by omega) (by omega)
    have cc := cntP_c6 (T := fun i => x7.toBitVec.getLsbD i = true ∧ a3.toInt ≤ (bif (x3.toBitVec.getLsbD i && x6.toBitVec.getLsbD i) then Graph_degree (64 * m + i) - 1 else Graph_degree (64 * m + i)).toInt) (U := fun i => crw (JJ Q) (dgc Q) a3.toInt v u (64 * m + i)) (n := 64) (fun i hi => by
      rw [bit_or h9]
      have q1 := bv i hi
      have q2 := bu i hi
      unfold crw
      rw [← q1, ← q2]
      have qd : x3.toBitVec.getLsbD i = true ∨ x6.toBitVec.getLsbD i = true → Graph_degree (64 * m + i) = dgc Q (64 * m + i) := fun z => gd _ (z.elim (fun y => (JJ_nn gn (q1.mp y)).2) (fun y => (JJ_nn gn (q2.mp y)).2))
      cases ha : x3.toBitVec.getLsbD i <;> cases hb : x6.toBitVec.getLsbD i
      · simp
      · have d := qd (Or.inr hb)
        simp [d]
      · have d := qd (Or.inl ha)
        simp [d]
      · have d := qd (Or.inl ha)
        simp [d])
    refine ih (m + 1) (by omega) (by omega) ?_
    rw [show 64 * (m + 1) = 64 * m + 64 by omega, cntP_add 64, st, cc, hs, Int.natCast_add]
theorem cbo_tr {a1 : Int32} {a2 : Int32} {a3 : Int32} {Graph_words : Int32} {Graph_joined : Nat → Int64} {Graph_degree : Nat → Int32} {o1 : Int32} {nam : Int32} {sd : Nat → Int64} (hg : gfC Q Nm W nam Graph_words Graph_joined sd Graph_degree) (hv : a1.toInt = (v : Int)) (hu : a2.toInt = (u : Int)) (hv2 : v < Nm) (hu2 : u < Nm) (h : tr_Graph_canBeOne a1 a2 a3 Graph_words Graph_joined Graph_degree o1) : o1.toInt ≠ 0 ↔ (cntP (crw (JJ Q) (dgc Q) a3.toInt v u) 2048 : Int) < a3.toInt := by
  have z : cntP (crw (JJ Q) (dgc Q) a3.toInt v u) 2048 = cntP (crw (JJ Q) (dgc Q) a3.toInt v u) (64 * W) := by
    refine cntP_zz (by have := hg.2.2.2.1; omega) (fun r hr q => ?_)
    have hl : JJ Q v r ∨ JJ Q u r := q.elim (fun y => Or.inl y.1) (fun y => y.2.1)
    have hN := hg.2.2.1
    have := hl.elim (fun y => (JJ_nn hg.2.2.2.2.1 y).2) (fun y => (JJ_nn hg.2.2.2.2.1 y).2)
    omega
  refine h (fun o1 => o1.toInt ≠ 0 ↔ (cntP (crw (JJ Q) (dgc Q) a3.toInt v u) 2048 : Int) < a3.toInt) ?_ ?_
  · intro x1 h1 h2
    have q := cb6 hg hv hu hv2 hu2 h1 0 (by decide) (Nat.zero_le _) (by rfl)
    rw [z, ← q, px_0]
    exact ⟨fun y => absurd rfl y, fun y => by omega⟩
  · intro x1 h1 h2
    have q := cb6 hg hv hu hv2 hu2 h1 0 (by decide) (Nat.zero_le _) (by rfl)
    rw [z, ← q, px_1]
    exact ⟨fun _ => h2, fun _ => by decide⟩
theorem arj_tr {a1 : Int32} {a2 : Int32} {Graph_names : Int32} {Graph_words : Int32} {Graph_joined : Nat → Int64} {o1 : Int32} {sd : Nat → Int64} {dg : Nat → Int32} (hg : gfC Q Nm W Graph_names Graph_words Graph_joined sd dg) (hv : a1.toInt = (v : Int)) (hu : a2.toInt = (u : Int)) (hv2 : v < Nm) (hu2 : u < Nm) (h : tr_Graph_areJoined a1 a2 Graph_names Graph_words Graph_joined o1) : o1.toInt ≠ 0 ↔ JJ Q v u := by
  obtain ⟨gN, gW, gNW, gW2, gn, gJ, -, gd⟩ := hg
  refine h (fun o1 => o1.toInt ≠ 0 ↔ JJ Q v u) ?_ ?_ ?_ ?_ ?_ ?_
  · intro h1
    omega
  · intro h1 h2
    omega
  · intro h1 h2 h3
    omega
  · intro h1 h2 h3 h4
    omega
  · intro x1 x2 x3 x4 x5 x6 h1 h2 h3 h4 h5 h6 h7 h8 h9 h10 h11
    have ep : x1.toInt = ((v * W : Nat) : Int) := by rw [h5, hv, gW]; exact (Int.natCast_mul _ _).symm
    have tb := tst_bit (f := Graph_joined) (a := v * W) (m := u) (i := x3) (by omega) hu h8 h9 h10
    have gj := gJ v u hv2 (by omega)
    rw [px_0]
    exact ⟨fun y => absurd rfl y, fun y => by rw [← gj, tb.mp h11] at y; cases y⟩
  · intro x1 x2 x3 x4 x5 x6 h1 h2 h3 h4 h5 h6 h7 h8 h9 h10 h11
    have ep : x1.toInt = ((v * W : Nat) : Int) := by rw [h5, hv, gW]; exact (Int.natCast_mul _ _).symm
    have tb := tst_bit (f := Graph_joined) (a := v * W) (m := u) (i := x3) (by omega) hu h8 h9 h10
    have gj := gJ v u hv2 (by omega)
    rw [px_1]
    refine ⟨fun _ => gj.mp ?_, fun _ => by decide⟩
    cases e : gbit Graph_joined (64 * (v * W) + u)
    · exact absurd (tb.mpr e) h11
    · rfl
theorem cmg_tr {a1 : Int32} {a2 : Int32} {a3 : Int32} {Graph_names : Int32} {Graph_words : Int32} {Graph_joined : Nat → Int64} {Graph_degree : Nat → Int32} {o1 : Int32} {sd : Nat → Int64} (hg : gfC Q Nm W Graph_names Graph_words Graph_joined sd Graph_degree) (hv : a1.toInt = (v : Int)) (hu : a2.toInt = (u : Int)) (hv2 : v < Nm) (hu2 : u < Nm) (h : tr_Giver_canMerge a1 a2 a3 Graph_names Graph_words Graph_joined Graph_degree o1) : o1.toInt ≠ 0 ↔ v = u ∨ mgc Q a3.toInt v u := by
  refine h (fun o1 => o1.toInt ≠ 0 ↔ v = u ∨ mgc Q a3.toInt v u) ?_ ?_ ?_ ?_ ?_ ?_
  · intro h1
    rw [px_1]
    exact ⟨fun _ => Or.inl (by omega), fun _ => by decide⟩
  · intro h1 h2
    rw [px_0]
    exact ⟨fun y => absurd rfl y, fun y => y.elim (fun z => by omega) (fun z => by have a := z.1; have b := z.2.1; omega)⟩
  · intro h1 h2 h3
    rw [px_0]
    exact ⟨fun y => absurd rfl y, fun y => y.elim (fun z => by omega) (fun z => by have a := z.1; have b := z.2.1; omega)⟩
  · intro x1 h1 h2 h3 h4 h5 h6 h7
    have qa := arj_tr hg hv hu hv2 hu2 h4
    have qc := cbo_tr hg hv hu hv2 hu2 h6
    rw [px_0] at qa
    have q0 : ¬ JJ Q v u := fun z => qa.mpr z rfl
    rw [px_0]
    exact ⟨fun y => absurd rfl y, fun y => y.elim (fun z => by omega) (fun z => absurd h7 (qc.mpr z.2.2.2))⟩
  · intro x1 h1 h2 h3 h4 h5 h6 h7
    have qa := arj_tr hg hv hu hv2 hu2 h4
    have qc := cbo_tr hg hv hu hv2 hu2 h6
    rw [px_0] at qa
    have q0 : ¬ JJ Q v u := fun z => qa.mpr z rfl
    rw [px_1]
    exact ⟨fun _ => Or.inr ⟨by omega, by omega, q0, qc.mp h7⟩, fun _ => by decide⟩
  · intro h1 h2 h3 h4
    have qa := arj_tr hg hv hu hv2 hu2 h4
    rw [px_1] at qa
    have q1 := qa.mp (by decide)
    rw [px_0]
    exact ⟨fun y => absurd rfl y, fun y => y.elim (fun z => by omega) (fun z => absurd q1 z.2.2.1)⟩
theorem ntm_tl {Code_lines : Int32} {Code_op : Nat → Int32} {Code_set : Nat → Int32} {Code_left : Nat → Int32} {a1 : Int32} {Graph_names : Int32} {Graph_words : Int32} {Graph_joined : Nat → Int64} {Graph_degree : Nat → Int32} {s1 : Int32} {k : Nat} {e1 : Int32} {sd : Nat → Int64} {bl : Int32} {fi fg sg cln crt crn : Nat → Int32} (hc : cdP bl Code_lines fi fg sg Code_op Code_set Code_left cln crt crn Q) (hg : gfC Q Nm W Graph_names Graph_words Graph_joined sd Graph_degree) (h : tl_Giver_nextToMerge_2 Code_lines Code_op Code_set Code_left a1 Graph_names Graph_words Graph_joined Graph_degree s1 k e1) : ∀ i : Nat, s1.toInt = (i : Int) → (k = 58 → ∀ b j, i ≤ fsm Q.2.1 b + j → ¬ mgb Q a1.toInt b j) ∧ (k = 50 → ∃ b j, e1.toInt = ((fsm Q.2.1 b + j : Nat) : Int) ∧ mgb Q a1.toInt b j ∧ ∀ c l, mgb Q a1.toInt c l → i ≤ fsm Q.2.1 c + l → fsm Q.2.1 b + j ≤ fsm Q.2.1 c + l) := by
  have gn := hg.2.2.2.2.1
  have stp : ∀ {i : Nat} {k : Nat} {e1 : Int32}, (∀ b j, i = fsm Q.2.1 b + j → ¬ mgb Q a1.toInt b j) → ((k = 58 → ∀ b j, i + 1 ≤ fsm Q.2.1 b + j → ¬ mgb Q a1.toInt b j) ∧ (k = 50 → ∃ b j, e1.toInt = ((fsm Q.2.1 b + j : Nat) : Int) ∧ mgb Q a1.toInt b j ∧ ∀ c l, mgb Q a1.toInt c l → i + 1 ≤ fsm Q.2.1 c + l → fsm Q.2.1 b + j ≤ fsm Q.2.1 c + l)) → ((k = 58 → ∀ b j, i ≤ fsm Q.2.1 b + j → ¬ mgb Q a1.toInt b j) ∧ (k = 50 → ∃ b j, e1.toInt = ((fsm Q.2.1 b + j : Nat) : Int) ∧ mgb Q a1.toInt b j ∧ ∀ c l, mgb Q a1.toInt c l → i ≤ fsm Q.2.1 c + l → fsm Q.2.1 b + j ≤ fsm Q.2.1 c + l)) := fun {i k e1} h0 h1 => by
    refine ⟨fun z b j hb hm => ?_, fun z => ?_⟩
    · by_cases c : i = fsm Q.2.1 b + j
      · exact h0 b j c hm
      · exact h1.1 z b j (by omega) hm
    · obtain ⟨b, j, q1, q2, q3⟩ := h1.2 z
      refine ⟨b, j, q1, q2, fun c l hm hl => ?_⟩
      by_cases e : i = fsm Q.2.1 c + l
      · exact absurd hm (h0 c l e)
      · exact q3 c l hm (by omega)
  refine h (fun s1 k e1 => ∀ i : Nat, s1.toInt = (i : Int) → (k = 58 → ∀ b j, i ≤ fsm Q.2.1 b + j → ¬ mgb Q a1.toInt b j) ∧ (k = 50 → ∃ b j, e1.toInt = ((fsm Q.2.1 b + j : Nat) : Int) ∧ mgb Q a1.toInt b j ∧ ∀ c l, mgb Q a1.toInt c l → i ≤ fsm Q.2.1 c + l → fsm Q.2.1 b + j ≤ fsm Q.2.1 c + l)) ?_ ?_ ?_ ?_
  · intro l2_1 h1 h2
    intro i hi
    refine ⟨fun _ b j hb hm => ?_, fun z => (nomatch z)⟩
    have q := fsm_lt hm.1 hm.2.1
    have := hc.2.1
    omega
  · intro l2_1 x1 k e1 h1 h2 h3 h4 ih
    intro i hi
    have hl := hc.2.1
    obtain ⟨b, j, hb, hj, ei⟩ := fsm_ex (l := Q.2.1) (N := Q.1) (i := i) (by omega)
    have en : l2_1.toNatClampNeg = fsm Q.2.1 b + j := nnE (by omega)
    obtain ⟨d0, d1, d2, d3, d4, d5⟩ := hc.2.2.2 b j hb hj
    have cp := cpR_tr h3
    rw [en, d0, d1, d2] at cp
    have un : ∀ c l, i = fsm Q.2.1 c + l → mgb Q a1.toInt c l → b = c ∧ j = l := fun c l hl hm => fsm_u hj hm.2.1 (by omega)
    rcases cp with ⟨c0, -⟩ | ⟨-, c1⟩
    · exact absurd c0 (by decide)
    refine stp (fun c l e hm => ?_) (ih (i + 1) (by omega))
    obtain ⟨u1, u2⟩ := un c l e hm
    rw [← u1, ← u2] at hm
    exact c1 ⟨hm.2.2.1, hm.2.2.2.1, hm.2.2.2.2.1⟩
  · intro l2_1 x1 x2 x3 x4 k e1 h1 h2 h3 h4 h5 h6 h7 h8 h9 ih
    intro i hi
    have hl := hc.2.1
    obtain ⟨b, j, hb, hj, ei⟩ := fsm_ex (l := Q.2.1) (N := Q.1) (i := i) (by omega)
    have en : l2_1.toNatClampNeg = fsm Q.2.1 b + j := nnE (by omega)
    obtain ⟨d0, d1, d2, d3, d4, d5⟩ := hc.2.2.2 b j hb hj
    have cp := cpR_tr h3
    rw [en, d0, d1, d2] at cp
    have un : ∀ c l, i = fsm Q.2.1 c + l → mgb Q a1.toInt c l → b = c ∧ j = l := fun c l hl hm => fsm_u hj hm.2.1 (by omega)
    rcases cp with ⟨-, c1, c2, c3⟩ | ⟨c0, -⟩
    case inr => exact absurd c0 (by decide)
    rw [en] at h4 h5
    rw [← h4] at d1
    rw [← h5] at d2
    have nn := gn b j hb hj
    have cm := cmg_tr (v := (Q.2.2.1 b j 1).toNat) (u := (Q.2.2.1 b j 2).toNat) hg (by omega) (by omega) (by omega) (by omega) h7
    have mi : mgb Q a1.toInt b j ↔ x3.toInt ≠ 0 := by
      rw [cm]
      exact ⟨fun z => z.2.2.2.2.2.imp (fun y => by rw [y]) id, fun z => ⟨hb, hj, c1, c2, c3, z.imp (fun y => by omega) id⟩⟩
    refine stp (fun c l e hm => ?_) (ih (i + 1) (by omega))
    obtain ⟨u1, u2⟩ := un c l e hm
    rw [← u1, ← u2] at hm
    exact mi.mp hm h8
  · intro l2_1 x1 x2 x3 h1 h2 h3 h4 h5 h6 h7 h8
    intro i hi
    have hl := hc.2.1
    obtain ⟨b, j, hb, hj, ei⟩ := fsm_ex (l := Q.2.1) (N := Q.1) (i := i) (by omega)
    have en : l2_1.toNatClampNeg = fsm Q.2.1 b + j := nnE (by omega)
    obtain ⟨d0, d1, d2, d3, d4, d5⟩ := hc.2.2.2 b j hb hj
    have cp := cpR_tr h3
    rw [en, d0, d1, d2] at cp
    have un : ∀ c l, i = fsm Q.2.1 c + l → mgb Q a1.toInt c l → b = c ∧ j = l := fun c l hl hm => fsm_u hj hm.2.1 (by omega)
    rcases cp with ⟨-, c1, c2, c3⟩ | ⟨c0, -⟩
    case inr => exact absurd c0 (by decide)
    rw [en] at h4 h5
    rw [← h4] at d1
    rw [← h5] at d2
    have nn := gn b j hb hj
    have cm := cmg_tr (v := (Q.2.2.1 b j 1).toNat) (u := (Q.2.2.1 b j 2).toNat) hg (by omega) (by omega) (by omega) (by omega) h7
    have mi : mgb Q a1.toInt b j ↔ x3.toInt ≠ 0 := by
      rw [cm]
      exact ⟨fun z => z.2.2.2.2.2.imp (fun y => by rw [y]) id, fun z => ⟨hb, hj, c1, c2, c3, z.imp (fun y => by omega) id⟩⟩
    exact ⟨fun z => (nomatch z), fun _ => ⟨b, j, by omega, mi.mpr h8, fun c l _ hl => by omega⟩⟩
theorem ntm_tr {a1 : Int32} {Graph_names : Int32} {Graph_words : Int32} {Code_lines : Int32} {Graph_joined : Nat → Int64} {Graph_degree : Nat → Int32} {Code_op : Nat → Int32} {Code_set : Nat → Int32} {Code_left : Nat → Int32} {o1 : Int32} {sd : Nat → Int64} {bl : Int32} {fi fg sg cln crt crn : Nat → Int32} (hc : cdP bl Code_lines fi fg sg Code_op Code_set Code_left cln crt crn Q) (hg : gfC Q Nm W Graph_names Graph_words Graph_joined sd Graph_degree) (h : tr_Giver_nextToMerge a1 Graph_names Graph_words Code_lines Graph_joined Graph_degree Code_op Code_set Code_left o1) : (o1.toInt = -1 ∧ ∀ b j, ¬ mgb Q a1.toInt b j) ∨ (o1.toInt ≠ -1 ∧ ∃ b j, o1.toInt = ((fsm Q.2.1 b + j : Nat) : Int) ∧ fsM Q a1.toInt b j) := by
  refine h (fun o1 => (o1.toInt = -1 ∧ ∀ b j, ¬ mgb Q a1.toInt b j) ∨ (o1.toInt ≠ -1 ∧ ∃ b j, o1.toInt = ((fsm Q.2.1 b + j : Nat) : Int) ∧ fsM Q a1.toInt b j)) ?_ ?_
  · intro h1
    have q := ntm_tl hc hg h1 0 (by decide)
    exact Or.inl ⟨by decide, fun b j => q.1 rfl b j (Nat.zero_le _)⟩
  · intro x1 h1
    have q := ntm_tl hc hg h1 0 (by decide)
    obtain ⟨b, j, q1, q2, q3⟩ := q.2 rfl
    refine Or.inr ⟨by omega, b, j, q1, q2, fun c i hm => ?_⟩
    have r := q3 c i hm (Nat.zero_le _)
    rcases Nat.lt_trichotomy b c with p | p | p
    · exact Or.inl p
    · rw [p] at r; exact Or.inr ⟨p, by omega⟩
    · have := fsm_lt p hm.2.1; omega
end MGC
end
section
section MGD2
variable {Q : gPg} {W Nm b j v u w : Nat}
theorem drf_tl {Code_blocks : Int32} {a1 : Int32} {s1 : Int32} {s2 : Nat → Int32} {k : Nat} {e1 : Nat → Int32} (hB : Code_blocks.toInt = (Q.1 : Int)) (hb : b < Q.1) (hj : j < Q.2.1 b) (ha : a1.toInt = ((fsm Q.2.1 b + j : Nat) : Int)) (h : tl_Code_drop_126 Code_blocks a1 s1 s2 k e1) : ∀ c : Nat, s1.toInt = (c : Int) → (∀ d, d < Q.1 → c ≤ d → (s2 d).toInt = (fsm Q.2.1 d : Int)) → ∀ d, d < Q.1 → (d < c → e1 d = s2 d) ∧ (c ≤ d → (e1 d).toInt = ((if d ≤ b then fsm Q.2.1 d else fsm Q.2.1 d - 1 : Nat) : Int)) := by
  have lo : ∀ d, d ≤ b → fsm Q.2.1 d ≤ fsm Q.2.1 b := fun d hd => fsm_mo hd
  have hi : ∀ d, b < d → fsm Q.2.1 b + j < fsm Q.2.1 d := fun d hd => fsm_lt hd hj
  refine h (fun s1 s2 _ e1 => ∀ c : Nat, s1.toInt = (c : Int) → (∀ d, d < Q.1 → c ≤ d → (s2 d).toInt = (fsm Q.2.1 d : Int)) → ∀ d, d < Q.1 → (d < c → e1 d = s2 d) ∧ (c ≤ d → (e1 d).toInt = ((if d ≤ b then fsm Q.2.1 d else fsm Q.2.1 d - 1 : Nat) : Int))) ?_ ?_ ?_
  · intro l3_1 Code_first_1 h1 h2
    intro c hc hs d hd
    exact ⟨fun _ => rfl, fun z => by omega⟩
  · intro l3_1 Code_first_1 x1 x2 k e1 h1 h2 h3 h4 h5 h6 ih
    intro c hc hs d hd
    have cQ : c < Q.1 := by omega
    rw [nnE hc] at h3
    have e := hs c cQ (Nat.le_refl _)
    have i1 := ih (c + 1) (by omega) (fun d hd hcd => hs d hd (by omega)) d hd
    refine ⟨fun z => i1.1 (by omega), fun z => ?_⟩
    by_cases p : c = d
    · rw [i1.1 (by omega), ← p, e, if_pos]
      refine Classical.byContradiction fun n => ?_
      have := hi c (by omega)
      rw [h3] at h5
      omega
    · exact i1.2 (by omega)
  · intro l3_1 Code_first_1 x1 x2 x3 x4 k e1 h1 h2 h3 h4 h5 h6 h7 h8 ih
    intro c hc hs d hd
    have cQ : c < Q.1 := by omega
    rw [nnE hc] at h3 h7
    have e := hs c cQ (Nat.le_refl _)
    have i1 := ih (c + 1) (by omega) (fun d hd hcd => by rw [h7, updN (by omega)]; exact hs d hd (by omega)) d hd
    refine ⟨fun z => by rw [i1.1 (by omega), h7, updN (by omega)], fun z => ?_⟩
    by_cases p : c = d
    · rw [i1.1 (by omega), ← p, h7, updE, if_neg (fun n => ?_)]
      · rw [h3] at h6
        have := hi c (Classical.byContradiction fun n => by
          have := lo c (by omega)
          rw [h3] at h5
          omega)
        omega
      · have := lo c n
        rw [h3] at h5
        omega
    · exact i1.2 (by omega)
theorem drp_ix {Q : gPg} {b j d l : Nat} (hb : b < Q.1) (hj : j < Q.2.1 b) (hd : d < Q.1) (hl2 : l < if d = b then Q.2.1 d - 1 else Q.2.1 d) : ∃ l2, l2 = (if d = b ∧ j ≤ l then l + 1 else l) ∧ l2 < Q.2.1 d ∧ ∃ q, (if d ≤ b then fsm Q.2.1 d else fsm Q.2.1 d - 1) + l = q ∧ q + 1 < fsm Q.2.1 Q.1 ∧ (if fsm Q.2.1 b + j ≤ q then q + 1 else q) = fsm Q.2.1 d + l2 := by
  have m0 := fsm_lt hb hj
  rcases Nat.lt_trichotomy d b with p | p | p
  · rw [if_neg (show ¬ d = b by omega)] at hl2
    have m2 := fsm_lt p hl2
    exact ⟨l, by rw [if_neg (show ¬ (d = b ∧ j ≤ l) by omega)], hl2, fsm Q.2.1 d + l, by rw [if_pos (show d ≤ b by omega)], by omega, by rw [if_neg (by omega)]⟩
  · subst p
    rw [if_pos rfl] at hl2
    have m2 := fsm_lt hd (show l + 1 < Q.2.1 d by omega)
    by_cases c : j ≤ l
    · exact ⟨l + 1, by rw [if_pos ⟨rfl, c⟩], by omega, fsm Q.2.1 d + l, by rw [if_pos (Nat.le_refl _)], by omega, by rw [if_pos (by omega)]; omega⟩
    · exact ⟨l, by rw [if_neg (show ¬ (d = d ∧ j ≤ l) by omega)], by omega, fsm Q.2.1 d + l, by rw [if_pos (Nat.le_refl _)], by omega, by rw [if_neg (by omega)]⟩
  · rw [if_neg (show ¬ d = b by omega)] at hl2
    have m1 := fsm_lt p hj
    have m3 := fsm_lt hd hl2
    exact ⟨l, by rw [if_neg (show ¬ (d = b ∧ j ≤ l) by omega)], hl2, fsm Q.2.1 d - 1 + l, by rw [if_neg (show ¬ d ≤ b by omega)], by omega, by rw [if_pos (by omega)]; omega⟩
theorem cpy_dr {f h : Nat → Int32} {x y a : Int32} {p n : Nat} (ha : a.toInt = (p : Int)) (hx : x.toInt = a.toInt + 1) (hy : y.toInt = (n : Int) - (p : Int) - 1) (hn : p < n) (hh : h = va_cpy f f x.toNatClampNeg a.toNatClampNeg y.toNatClampNeg) : ∀ q, q + 1 < n → h q = f (if p ≤ q then q + 1 else q) := fun q hq => by
  have e1 : x.toNatClampNeg = p + 1 := nnE (by omega)
  have e2 : y.toNatClampNeg = n - p - 1 := nnE (by omega)
  rw [hh, e1, e2, nnE ha]
  unfold va_cpy
  by_cases c : p ≤ q
  · rw [if_pos c, if_pos ⟨c, by omega⟩, show p + 1 + (q - p) = q + 1 by omega]
  · rw [if_neg c, if_neg (fun z => c z.1)]
theorem drp_tr {a1 : Int32} {Code_blocks : Int32} {Code_lines : Int32} {Code_first : Nat → Int32} {Code_op : Nat → Int32} {Code_set : Nat → Int32} {Code_left : Nat → Int32} {Code_leftNumber : Nat → Int32} {Code_right : Nat → Int32} {Code_rightNumber : Nat → Int32} {o1 : Int32} {o2 : Nat → Int32} {o3 : Nat → Int32} {o4 : Nat → Int32} {o5 : Nat → Int32} {o6 : Nat → Int32} {o7 : Nat → Int32} {o8 : Nat → Int32} {fg sg : Nat → Int32} (hc : cdP Code_blocks Code_lines Code_first fg sg Code_op Code_set Code_left Code_leftNumber Code_right Code_rightNumber Q) (hb : b < Q.1) (hj : j < Q.2.1 b) (ha : a1.toInt = ((fsm Q.2.1 b + j : Nat) : Int)) (h : tr_Code_drop a1 Code_blocks Code_lines Code_first Code_op Code_set Code_left Code_leftNumber Code_right Code_rightNumber o1 o2 o3 o4 o5 o6 o7 o8) : cdP Code_blocks o1 o2 fg sg o3 o4 o5 o6 o7 o8 (pgDr Q b j) := by
  obtain ⟨c1, c2, c3, c4⟩ := hc
  have hpn : fsm Q.2.1 b + j < fsm Q.2.1 Q.1 := fsm_lt hb hj
  have fd := fsm_dr (l := Q.2.1) (b := b) (by omega)
  refine h (fun o1 o2 o3 o4 o5 o6 o7 o8 => cdP Code_blocks o1 o2 fg sg o3 o4 o5 o6 o7 o8 (pgDr Q b j)) ?_ ?_
  · intro x1 x2 x3 x4 x5 x6 x7 x8 x9 x10 x11 x12 x13 x14 x15 x16 h1 h2 h3 h4 h5 h6 h7 h8 h9 h10 h11 h12 h13 h14 h15 h16 h17
    have ey : x2.toInt = ((fsm Q.2.1 Q.1 : Nat) : Int) - ((fsm Q.2.1 b + j : Nat) : Int) - 1 := by omega
    have c_op := cpy_dr ha h4 ey hpn h5
    have c_st := cpy_dr ha h6 ey hpn h7
    have c_lf := cpy_dr ha h8 ey hpn h9
    have c_ln := cpy_dr ha h10 ey hpn h11
    have c_rt := cpy_dr ha h12 ey hpn h13
    have c_rn := cpy_dr ha h14 ey hpn h15
    have df := drf_tl c1 hb hj ha h17 0 (by decide) (fun d hd _ => (c3 d hd).1)
    refine ⟨c1, ?_, fun d hd => ⟨?_, (c3 d hd).2⟩, fun d l hd hl => ?_⟩
    · show x15.toInt = ((fsm (fun c => if c = b then Q.2.1 c - 1 else Q.2.1 c) Q.1 : Nat) : Int)
      rw [fd Q.1, if_neg (by omega)]
      omega
    · show (x16 d).toInt = ((fsm (fun c => if c = b then Q.2.1 c - 1 else Q.2.1 c) d : Nat) : Int)
      rw [fd d]
      exact (df d hd).2 (Nat.zero_le _)
    · have hl2 : l < if d = b then Q.2.1 d - 1 else Q.2.1 d := hl
      show (x4 (fsm (fun c => if c = b then Q.2.1 c - 1 else Q.2.1 c) d + l)).toInt = Q.2.2.1 d (if d = b ∧ j ≤ l then l + 1 else l) 0 ∧ (x6 (fsm (fun c => if c = b then Q.2.1 c - 1 else Q.2.1 c) d + l)).toInt = Q.2.2.1 d (if d = b ∧ j ≤ l then l + 1 else l) 1 ∧ (x8 (fsm (fun c => if c = b then Q.2.1 c - 1 else Q.2.1 c) d + l)).toInt = Q.2.2.1 d (if d = b ∧ j ≤ l then l + 1 else l) 2 ∧ (x10 (fsm (fun c => if c = b then Q.2.1 c - 1 else Q.2.1 c) d + l)).toInt = Q.2.2.1 d (if d = b ∧ j ≤ l then l + 1 else l) 3 ∧ (x12 (fsm (fun c => if c = b then Q.2.1 c - 1 else Q.2.1 c) d + l)).toInt = Q.2.2.1 d (if d = b ∧ j ≤ l then l + 1 else l) 4 ∧ (x14 (fsm (fun c => if c = b then Q.2.1 c - 1 else Q.2.1 c) d + l)).toInt = Q.2.2.1 d (if d = b ∧ j ≤ l then l + 1 else l) 5
      rw [fd d]
      obtain ⟨l2, k1, k2, k3⟩ := drp_ix hb hj (show d < Q.1 from hd) hl2
      obtain ⟨q, k4, k5, k6⟩ := k3
      rw [k4, ← k1, c_op q k5, c_st q k5, c_lf q k5, c_ln q k5, c_rt q k5, c_rn q k5, k6]
      exact c4 d l2 hd k2
  · intro x1 x2 h1 h2 h3
    omega
/-- the names of an array from i on, below n, renamed -/
def rpl (a : Int) (v : Int32) (i n : Nat) (f g : Nat → Int32) : Prop := ∀ p, (i ≤ p → p < n → g p = if (f p).toInt = a then v else f p) ∧ (p < i ∨ n ≤ p → g p = f p)
theorem rpl_e {a : Int} {v : Int32} {i n : Nat} {f : Nat → Int32} (h : n ≤ i) : rpl a v i n f f := fun p => ⟨fun h1 h2 => by omega, fun _ => rfl⟩
theorem rpl_s {a : Int} {v x : Int32} {i n : Nat} {f g h : Nat → Int32} (hi : i < n) (hg : g = upd f i x) (hx : x = if (f i).toInt = a then v else f i) (h1 : rpl a v (i + 1) n g h) : rpl a v i n f h := fun p => by
  obtain ⟨h2, h3⟩ := h1 p
  refine ⟨fun q1 q2 => ?_, fun q => ?_⟩
  · by_cases c : p = i
    · rw [h3 (Or.inl (by omega)), hg, c, updE, hx]
    · rw [h2 (by omega) q2, hg, updN c]
  · rw [h3 (q.elim (fun z => Or.inl (by omega)) Or.inr), hg, updN (by omega)]
theorem rpl_tl {Code_lines : Int32} {a1 : Int32} {a2 : Int32} {s1 : Int32} {s2 : Nat → Int32} {s3 : Nat → Int32} {s4 : Nat → Int32} {k : Nat} {e1 : Nat → Int32} {e2 : Nat → Int32} {e3 : Nat → Int32} {n : Nat} (hn : Code_lines.toInt = (n : Int)) (h : tl_Code_replace_2 Code_lines a1 a2 s1 s2 s3 s4 k e1 e2 e3) : ∀ i : Nat, s1.toInt = (i : Int) → rpl a1.toInt a2 i n s2 e1 ∧ rpl a1.toInt a2 i n s3 e2 ∧ rpl a1.toInt a2 i n s4 e3 := by
  refine h (fun s1 s2 s3 s4 _ e1 e2 e3 => ∀ i : Nat, s1.toInt = (i : Int) → rpl a1.toInt a2 i n s2 e1 ∧ rpl a1.toInt a2 i n s3 e2 ∧ rpl a1.toInt a2 i n s4 e3) ?_ ?_ ?_ ?_ ?_ ?_ ?_ ?_ ?_
  · intro l3_1 Code_set_1 Code_left_1 Code_right_1 h1 h2
    intro i hi
    exact ⟨rpl_e (by omega), rpl_e (by omega), rpl_e (by omega)⟩
  · intro l3_1 Code_set_1 Code_left_1 Code_right_1 x1 x2 x3 x4 x5 x6 x7 k e1 e2 e3 h1 h2 h3 h4 h5 h6 h7 h8 h9 h10 h11 h12 ih
    intro i hi
    have ei := nnE hi
    have hin : i < n := by omega
    obtain ⟨r1, r2, r3⟩ := ih (i + 1) (by omega)
    rw [ei] at h3 h5
    rw [ei] at h6 h8
    rw [ei] at h9 h11
    exact ⟨rpl_s hin h5 (by rw [← h3, if_neg h4]) r1, rpl_s hin h8 (by rw [← h6, if_neg h7]) r2, rpl_s hin h11 (by rw [← h9, if_neg h10]) r3⟩
  · intro l3_1 Code_set_1 Code_left_1 Code_right_1 x1 x2 x3 x4 x5 x6 x7 k e1 e2 e3 h1 h2 h3 h4 h5 h6 h7 h8 h9 h10 h11 h12 ih
    intro i hi
    have ei := nnE hi
    have hin : i < n := by omega
    obtain ⟨r1, r2, r3⟩ := ih (i + 1) (by omega)
    rw [ei] at h3 h5
    rw [ei] at h6 h8
    rw [ei] at h9 h11
    exact ⟨rpl_s hin h5 (by rw [← h3, if_neg h4]) r1, rpl_s hin h8 (by rw [← h6, if_neg h7]) r2, rpl_s hin h11 (by rw [← h9, if_pos h10]) r3⟩
  · intro l3_1 Code_set_1 Code_left_1 Code_right_1 x1 x2 x3 x4 x5 x6 x7 k e1 e2 e3 h1 h2 h3 h4 h5 h6 h7 h8 h9 h10 h11 h12 ih
    intro i hi
    have ei := nnE hi
    have hin : i < n := by omega
    obtain ⟨r1, r2, r3⟩ := ih (i + 1) (by omega)
    rw [ei] at h3 h5
    rw [ei] at h6 h8
    rw [ei] at h9 h11
    exact ⟨rpl_s hin h5 (by rw [← h3, if_neg h4]) r1, rpl_s hin h8 (by rw [← h6, if_pos h7]) r2, rpl_s hin h11 (by rw [← h9, if_neg h10]) r3⟩
  · intro l3_1 Code_set_1 Code_left_1 Code_right_1 x1 x2 x3 x4 x5 x6 x7 k e1 e2 e3 h1 h2 h3 h4 h5 h6 h7 h8 h9 h10 h11 h12 ih
    intro i hi
    have ei := nnE hi
    have hin : i < n := by omega
    obtain ⟨r1, r2, r3⟩ := ih (i + 1) (by omega)
    rw [ei] at h3 h5
    rw [ei] at h6 h8
    rw [ei] at h9 h11
    exact ⟨rpl_s hin h5 (by rw [← h3, if_neg h4]) r1, rpl_s hin h8 (by rw [← h6, if_pos h7]) r2, rpl_s hin h11 (by rw [← h9, if_pos h10]) r3⟩
  · intro l3_1 Code_set_1 Code_left_1 Code_right_1 x1 x2 x3 x4 x5 x6 x7 k e1 e2 e3 h1 h2 h3 h4 h5 h6 h7 h8 h9 h10 h11 h12 ih
    intro i hi
    have ei := nnE hi
    have hin : i < n := by omega
    obtain ⟨r1, r2, r3⟩ := ih (i + 1) (by omega)
    rw [ei] at h3 h5
    rw [ei] at h6 h8
    rw [ei] at h9 h11
    exact ⟨rpl_s hin h5 (by rw [← h3, if_pos h4]) r1, rpl_s hin h8 (by rw [← h6, if_neg h7]) r2, rpl_s hin h11 (by rw [← h9, if_neg h10]) r3⟩
  · intro l3_1 Code_set_1 Code_left_1 Code_right_1 x1 x2 x3 x4 x5 x6 x7 k e1 e2 e3 h1 h2 h3 h4 h5 h6 h7 h8 h9 h10 h11 h12 ih
    intro i hi
    have ei := nnE hi
    have hin : i < n := by omega
    obtain ⟨r1, r2, r3⟩ := ih (i + 1) (by omega)
    rw [ei] at h3 h5
    rw [ei] at h6 h8
    rw [ei] at h9 h11
    exact ⟨rpl_s hin h5 (by rw [← h3, if_pos h4]) r1, rpl_s hin h8 (by rw [← h6, if_neg h7]) r2, rpl_s hin h11 (by rw [← h9, if_pos h10]) r3⟩
  · intro l3_1 Code_set_1 Code_left_1 Code_right_1 x1 x2 x3 x4 x5 x6 x7 k e1 e2 e3 h1 h2 h3 h4 h5 h6 h7 h8 h9 h10 h11 h12 ih
    intro i hi
    have ei := nnE hi
    have hin : i < n := by omega
    obtain ⟨r1, r2, r3⟩ := ih (i + 1) (by omega)
    rw [ei] at h3 h5
    rw [ei] at h6 h8
    rw [ei] at h9 h11
    exact ⟨rpl_s hin h5 (by rw [← h3, if_pos h4]) r1, rpl_s hin h8 (by rw [← h6, if_pos h7]) r2, rpl_s hin h11 (by rw [← h9, if_neg h10]) r3⟩
  · intro l3_1 Code_set_1 Code_left_1 Code_right_1 x1 x2 x3 x4 x5 x6 x7 k e1 e2 e3 h1 h2 h3 h4 h5 h6 h7 h8 h9 h10 h11 h12 ih
    intro i hi
    have ei := nnE hi
    have hin : i < n := by omega
    obtain ⟨r1, r2, r3⟩ := ih (i + 1) (by omega)
    rw [ei] at h3 h5
    rw [ei] at h6 h8
    rw [ei] at h9 h11
    exact ⟨rpl_s hin h5 (by rw [← h3, if_pos h4]) r1, rpl_s hin h8 (by rw [← h6, if_pos h7]) r2, rpl_s hin h11 (by rw [← h9, if_pos h10]) r3⟩
theorem rpl_v {a : Int} {v : Int32} {n p : Nat} {f g : Nat → Int32} {x : Int} (h : rpl a v 0 n f g) (hp : p < n) (hx : (f p).toInt = x) : (g p).toInt = rnV a v.toInt x := by
  rw [(h p).1 (Nat.zero_le _) hp]
  unfold rnV
  rw [← hx]
  split <;> rfl
theorem rpl_tr {a1 : Int32} {a2 : Int32} {Code_lines : Int32} {Code_set : Nat → Int32} {Code_left : Nat → Int32} {Code_right : Nat → Int32} {o1 : Nat → Int32} {o2 : Nat → Int32} {o3 : Nat → Int32} {bl : Int32} {fi fg sg op ln rn : Nat → Int32} (hc : cdP bl Code_lines fi fg sg op Code_set Code_left ln Code_right rn Q) (h : tr_Code_replace a1 a2 Code_lines Code_set Code_left Code_right o1 o2 o3) : cdP bl Code_lines fi fg sg op o1 o2 ln o3 rn (pgRn Q a1.toInt a2.toInt) := by
  refine h (fun o1 o2 o3 => cdP bl Code_lines fi fg sg op o1 o2 ln o3 rn (pgRn Q a1.toInt a2.toInt)) ?_
  · intro x1 x2 x3 h1
    obtain ⟨c1, c2, c3, c4⟩ := hc
    obtain ⟨r1, r2, r3⟩ := rpl_tl (n := fsm Q.2.1 Q.1) c2 h1 0 (by decide)
    refine ⟨c1, c2, c3, fun d l hd hl => ?_⟩
    have hp := fsm_lt hd hl
    obtain ⟨d0, d1, d2, d3, d4, d5⟩ := c4 d l hd hl
    exact ⟨d0, rpl_v r1 hp d1, rpl_v r2 hp d2, d3, rpl_v r3 hp d4, d5⟩
theorem mgc_tl {Code_lines : Int32} {Giver_names : Int32} {Code_blocks : Int32} {Code_firstGoal : Nat → Int32} {Code_secondGoal : Nat → Int32} {a1 : Int32} {s1 : Int32} {s2 : Int32} {s3 : Int32} {s4 : Int32} {s5 : Int32} {s6 : Int32} {s7 : Int32} {s8 : Int32} {s9 : Nat → Int64} {s10 : Nat → Int64} {s11 : Nat → Int32} {s12 : Nat → Int32} {s13 : Nat → Int32} {s14 : Nat → Int32} {s15 : Nat → Int32} {s16 : Nat → Int32} {s17 : Nat → Int32} {s18 : Nat → Int32} {s19 : Nat → Int64} {s20 : Nat → Int64} {s21 : Nat → Int64} {s22 : Nat → Int64} {k : Nat} {e1 : Int32} {e2 : Int32} {e3 : Int32} {e4 : Int32} {e5 : Int32} {e6 : Int32} {e7 : Int32} {e8 : Nat → Int64} {e9 : Nat → Int64} {e10 : Nat → Int32} {e11 : Nat → Int32} {e12 : Nat → Int32} {e13 : Nat → Int32} {e14 : Nat → Int32} {e15 : Nat → Int32} {e16 : Nat → Int32} {e17 : Nat → Int32} {e18 : Nat → Int64} {e19 : Nat → Int64} {e20 : Nat → Int64} {e21 : Nat → Int64} (hN : Giver_names.toInt = (Nm : Int)) (hN2 : Nm ≤ 720) (h : tl_Giver_mergeCopies_10 Code_lines Giver_names Code_blocks Code_firstGoal Code_secondGoal a1 s1 s2 s3 s4 s5 s6 s7 s8 s9 s10 s11 s12 s13 s14 s15 s16 s17 s18 s19 s20 s21 s22 k e1 e2 e3 e4 e5 e6 e7 e8 e9 e10 e11 e12 e13 e14 e15 e16 e17 e18 e19 e20 e21) : ∀ (Q : gPg) (n : Nat), s1.toInt = (n : Int) → cdP Code_blocks s5 s12 Code_firstGoal Code_secondGoal s13 s14 s15 s16 s17 s18 Q → nmO Q Nm → (fsm Q.2.1 Q.1 + n : Nat) ≤ Code_lines.toInt → ∃ m R, MGn a1.toInt m Q R ∧ cdP Code_blocks e4 e11 Code_firstGoal Code_secondGoal e12 e13 e14 e15 e16 e17 R ∧ gfC R Nm ((Nm + 63) / 64) e2 e3 e8 e9 e10 := by
  refine h (fun s1 s2 s3 s4 s5 s6 s7 s8 s9 s10 s11 s12 s13 s14 s15 s16 s17 s18 s19 s20 s21 s22 _ e1 e2 e3 e4 e5 e6 e7 e8 e9 e10 e11 e12 e13 e14 e15 e16 e17 e18 e19 e20 e21 => ∀ (Q : gPg) (n : Nat), s1.toInt = (n : Int) → cdP Code_blocks s5 s12 Code_firstGoal Code_secondGoal s13 s14 s15 s16 s17 s18 Q → nmO Q Nm → (fsm Q.2.1 Q.1 + n : Nat) ≤ Code_lines.toInt → ∃ m R, MGn a1.toInt m Q R ∧ cdP Code_blocks e4 e11 Code_firstGoal Code_secondGoal e12 e13 e14 e15 e16 e17 R ∧ gfC R Nm ((Nm + 63) / 64) e2 e3 e8 e9 e10) ?_ ?_ ?_
  · intro l3_1 Giver_merged_1 Graph_names_1 Graph_words_1 Code_lines_1 Live_names_1 Live_words_1 Live_ofSlots_1 Graph_joined_1 Graph_standing_1 Graph_degree_1 Code_first_1 Code_op_1 Code_set_1 Code_left_1 Code_leftNumber_1 Code_right_1 Code_rightNumber_1 Live_in_1 Live_used_1 Live_set_1 Live_now_1 h1 h2 h3 h4 h5 h6 h7 h8
    intro Q n hn hc hq hl
    omega
  · intro l3_1 Giver_merged_1 Graph_names_1 Graph_words_1 Code_lines_1 Live_names_1 Live_words_1 Live_ofSlots_1 Graph_joined_1 Graph_standing_1 Graph_degree_1 Code_first_1 Code_op_1 Code_set_1 Code_left_1 Code_leftNumber_1 Code_right_1 Code_rightNumber_1 Live_in_1 Live_used_1 Live_set_1 Live_now_1 x1 x2 x3 x4 x5 x6 x7 x8 x9 x10 x11 x12 x13 x14 x15 x16 x17 x18 x19 x20 x21 x22 x23 x24 x25 x26 x27 x28 x29 x30 k e1 e2 e3 e4 e5 e6 e7 e8 e9 e10 e11 e12 e13 e14 e15 e16 e17 e18 e19 e20 e21 h1 h2 h3 h4 h5 h6 h7 h8 h9 h10 h11 h12 h13 h14 h15 h16 h17 h18 h19 h20 h21 h22 h23 h24 h25 h26 ih
    intro Q n hn hc hq hl
    have gf := gfC_b hc hN hN2 (by decide) hq h14
    have nt := ntm_tr hc gf h16
    rcases nt with ⟨n1, -⟩ | ⟨-, b, j, n2, n3⟩
    · exact absurd n1 h17
    have hb := n3.1.1
    have hj := n3.1.2.1
    have d1 := drp_tr hc hb hj n2 h23
    have d2 := rpl_tr d1 h24
    obtain ⟨y0, y1, y2, -⟩ := hc.2.2.2 b j hb hj
    rw [nnE n2] at h18 h19
    rw [← h18] at y1
    rw [← h19] at y2
    have ea : x17.toInt = max (Q.2.2.1 b j 1) (Q.2.2.1 b j 2) := by rw [← y1, ← y2]; omega
    have eb : x16.toInt = min (Q.2.2.1 b j 1) (Q.2.2.1 b j 2) := by rw [← y1, ← y2]; omega
    rw [ea, eb] at d2
    have fl : fsm (mg1 Q b j).2.1 (mg1 Q b j).1 + 1 = fsm Q.2.1 Q.1 := by
      show fsm (fun c => if c = b then Q.2.1 c - 1 else Q.2.1 c) Q.1 + 1 = _
      rw [fsm_dr (l := Q.2.1) (b := b) (by omega) Q.1, if_neg (by omega)]
      have := fsm_lt hb hj
      omega
    obtain ⟨m, R, m1, m2⟩ := ih (mg1 Q b j) (n + 1) (by omega) d2 (nmO_mg hq hb hj) (by omega)
    exact ⟨m + 1, R, ⟨b, j, n3, m1⟩, m2⟩
  · intro l3_1 Giver_merged_1 Graph_names_1 Graph_words_1 Code_lines_1 Live_names_1 Live_words_1 Live_ofSlots_1 Graph_joined_1 Graph_standing_1 Graph_degree_1 Code_first_1 Code_op_1 Code_set_1 Code_left_1 Code_leftNumber_1 Code_right_1 Code_rightNumber_1 Live_in_1 Live_used_1 Live_set_1 Live_now_1 x1 x2 x3 x4 x5 x6 x7 x8 x9 x10 x11 x12 x13 h1 h2 h3 h4 h5 h6 h7 h8 h9 h10 h11 h12 h13 h14 h15 h16 h17
    intro Q n hn hc hq hl
    have gf := gfC_b hc hN hN2 (by decide) hq h14
    have nt := ntm_tr hc gf h16
    rcases nt with ⟨-, n2⟩ | ⟨n1, -⟩
    · exact ⟨0, Q, ⟨rfl, n2⟩, hc, gf⟩
    · exact absurd h17 n1
theorem mgc_tr {a1 : Int32} {Giver_names : Int32} {Giver_merged : Int32} {Graph_names : Int32} {Graph_words : Int32} {Code_blocks : Int32} {Code_lines : Int32} {Live_names : Int32} {Live_words : Int32} {Live_ofSlots : Int32} {Graph_joined : Nat → Int64} {Graph_standing : Nat → Int64} {Graph_degree : Nat → Int32} {Code_first : Nat → Int32} {Code_firstGoal : Nat → Int32} {Code_secondGoal : Nat → Int32} {Code_op : Nat → Int32} {Code_set : Nat → Int32} {Code_left : Nat → Int32} {Code_leftNumber : Nat → Int32} {Code_right : Nat → Int32} {Code_rightNumber : Nat → Int32} {Live_in : Nat → Int64} {Live_used : Nat → Int64} {Live_set : Nat → Int64} {Live_now : Nat → Int64} {o1 : Int32} {o2 : Int32} {o3 : Int32} {o4 : Int32} {o5 : Int32} {o6 : Int32} {o7 : Int32} {o8 : Nat → Int64} {o9 : Nat → Int64} {o10 : Nat → Int32} {o11 : Nat → Int32} {o12 : Nat → Int32} {o13 : Nat → Int32} {o14 : Nat → Int32} {o15 : Nat → Int32} {o16 : Nat → Int32} {o17 : Nat → Int32} {o18 : Nat → Int64} {o19 : Nat → Int64} {o20 : Nat → Int64} {o21 : Nat → Int64} (hc : cdP Code_blocks Code_lines Code_first Code_firstGoal Code_secondGoal Code_op Code_set Code_left Code_leftNumber Code_right Code_rightNumber Q) (hn : nmO Q Nm) (hN : Giver_names.toInt = (Nm : Int)) (hN2 : Nm ≤ 720) (h : tr_Giver_mergeCopies a1 Giver_names Giver_merged Graph_names Graph_words Code_blocks Code_lines Live_names Live_words Live_ofSlots Graph_joined Graph_standing Graph_degree Code_first Code_firstGoal Code_secondGoal Code_op Code_set Code_left Code_leftNumber Code_right Code_rightNumber Live_in Live_used Live_set Live_now o1 o2 o3 o4 o5 o6 o7 o8 o9 o10 o11 o12 o13 o14 o15 o16 o17 o18 o19 o20 o21) : ∃ m R, MGn a1.toInt m Q R ∧ cdP Code_blocks o4 o11 Code_firstGoal Code_secondGoal o12 o13 o14 o15 o16 o17 R ∧ gfC R Nm ((Nm + 63) / 64) o2 o3 o8 o9 o10 := by
  refine h (fun o1 o2 o3 o4 o5 o6 o7 o8 o9 o10 o11 o12 o13 o14 o15 o16 o17 o18 o19 o20 o21 => ∃ m R, MGn a1.toInt m Q R ∧ cdP Code_blocks o4 o11 Code_firstGoal Code_secondGoal o12 o13 o14 o15 o16 o17 R ∧ gfC R Nm ((Nm + 63) / 64) o2 o3 o8 o9 o10) ?_ ?_
  · intro x1 x2 x3 x4 x5 x6 x7 x8 x9 x10 x11 x12 x13 x14 x15 x16 x17 x18 x19 x20 x21 h1
    exact mgc_tl hN hN2 h1 Q 0 (by decide) hc hn (by rw [hc.2.1]; omega)
  · intro x1 x2 x3 x4 x5 x6 x7 x8 x9 x10 x11 x12 x13 x14 x15 x16 x17 x18 x19 x20 x21 h1
    exact mgc_tl hN hN2 h1 Q 0 (by decide) hc hn (by rw [hc.2.1]; omega)
end MGD2
end
section
/-! giving out, over programs: taking a graph apart, putting it together -/
section CLD
variable {T : Nat → Prop} {w lf : Nat → Int32} {J : Nat → Nat → Prop} {k : Int} {v u n m b : Nat} {p q : Nat → Nat} {col : Nat → Int}
/-- r costs less than b -/
def chp (w lf : Nat → Int32) (r b : Nat) : Prop := (lg_cmp ((w r).toInt64 * (lf b).toInt64) ((w b).toInt64 * (lf r).toInt64)).toInt < 0
/-- the cheapest of those below n, temporaries last -/
noncomputable def bsF (T : Nat → Prop) (w lf : Nat → Int32) : Nat → Option Nat
  | 0 => none
  | n + 1 => @ite (Option Nat) (T n) (Classical.propDecidable _) ((bsF T w lf n).elim (some n) (fun b => @ite (Option Nat) ((100 ≤ n ∧ b < 100) ∨ ¬ chp w lf n b) (Classical.propDecidable _) (some b) (some n))) (bsF T w lf n)
theorem bsF_0 (h : ¬ T n) : bsF T w lf (n + 1) = bsF T w lf n := if_neg h
theorem bsF_1 (h : T n) (h2 : bsF T w lf n = none) : bsF T w lf (n + 1) = some n := by
  show @ite (Option Nat) (T n) (Classical.propDecidable _) ((bsF T w lf n).elim (some n) _) _ = _
  rw [if_pos h, h2]; rfl
theorem bsF_2 (h : T n) (h2 : bsF T w lf n = some b) (h3 : (100 ≤ n ∧ b < 100) ∨ ¬ chp w lf n b) : bsF T w lf (n + 1) = some b := by
  show @ite (Option Nat) (T n) (Classical.propDecidable _) ((bsF T w lf n).elim (some n) _) _ = _
  rw [if_pos h, h2]
  exact if_pos h3
theorem bsF_3 (h : T n) (h2 : bsF T w lf n = some b) (h3 : ¬ ((100 ≤ n ∧ b < 100) ∨ ¬ chp w lf n b)) : bsF T w lf (n + 1) = some n := by
  show @ite (Option Nat) (T n) (Classical.propDecidable _) ((bsF T w lf n).elim (some n) _) _ = _
  rw [if_pos h, h2]
  exact if_neg h3
theorem bsF_k : ∀ d, (∀ u, n ≤ u → u < n + d → ¬ T u) → bsF T w lf (n + d) = bsF T w lf n
  | 0, _ => rfl
  | d + 1, h => by
    rw [show n + (d + 1) = (n + d) + 1 by omega, bsF_0 (h (n + d) (by omega) (by omega))]
    exact bsF_k d (fun u h1 h2 => h u h1 (by omega))
theorem bsF_s (hm : n ≤ m) (h : ∀ u, n ≤ u → u < m → ¬ T u) : bsF T w lf m = bsF T w lf n := by
  have := bsF_k (T := T) (w := w) (lf := lf) (n := n) (m - n) (fun u h1 h2 => h u h1 (by omega))
  rwa [show n + (m - n) = m by omega] at this
theorem bsF_t (hb : b < 100) (h2 : bsF T w lf n = some b) (h : ∀ u, n ≤ u → T u → 100 ≤ u) : ∀ d, bsF T w lf (n + d) = some b
  | 0 => h2
  | d + 1 => by
    have i := bsF_t hb h2 h d
    by_cases c : T (n + d)
    · exact bsF_2 c i (Or.inl ⟨h _ (Nat.le_add_right n d) c, hb⟩)
    · exact (bsF_0 c).trans i
/-- v is the next to be taken -/
def isNx (T : Nat → Prop) (w lf : Nat → Int32) (k : Int) (v : Nat) : Prop := (T v ∧ (lf v).toInt < k ∧ ∀ u, u < v → T u → k ≤ (lf u).toInt) ∨ ((∀ u, T u → k ≤ (lf u).toInt) ∧ bsF T w lf 2000 = some v)
theorem isNx_u (h : isNx T w lf k v) (h2 : isNx T w lf k u) : v = u := by
  rcases h with ⟨a1, a2, a3⟩ | ⟨a1, a2⟩
  · rcases h2 with ⟨b1, b2, b3⟩ | ⟨b1, b2⟩
    · rcases Nat.lt_trichotomy v u with c | c | c
      · have := b3 v c a1; omega
      · exact c
      · have := a3 u c b1; omega
    · have := b1 v a1; omega
  · rcases h2 with ⟨b1, b2, b3⟩ | ⟨b1, b2⟩
    · have := a1 u b1; omega
    · rw [a2] at b2; exact Option.some.inj b2
noncomputable def lfD (J : Nat → Nat → Prop) (lf : Nat → Int32) (v : Nat) : Nat → Int32 := fun q => @ite Int32 (J v q) (Classical.propDecidable _) (lf q - 1) (lf q)
/-- p is the row in which n are taken, until none is left -/
def TA (J : Nat → Nat → Prop) (w : Nat → Int32) (k : Int) : Nat → (Nat → Prop) → (Nat → Int32) → (Nat → Nat) → Prop
  | 0, T, _, _ => ∀ v, ¬ T v
  | n + 1, T, lf, p => T (p 0) ∧ isNx T w lf k (p 0) ∧ TA J w k n (fun u => T u ∧ u ≠ p 0) (lfD J lf (p 0)) (fun i => p (i + 1))
theorem TA_u : ∀ {n m : Nat} {T : Nat → Prop} {lf : Nat → Int32} {p q : Nat → Nat}, TA J w k n T lf p → TA J w k m T lf q → n = m ∧ ∀ i, i < n → p i = q i
  | 0, 0, _, _, _, _, _, _ => ⟨rfl, fun i hi => absurd hi (Nat.not_lt_zero i)⟩
  | 0, _ + 1, _, _, _, q, h, h2 => absurd h2.1 (h (q 0))
  | _ + 1, 0, _, _, p, _, h, h2 => absurd h.1 (h2 (p 0))
  | n + 1, m + 1, T, lf, p, q, ⟨_, h1, h2⟩, ⟨_, g1, g2⟩ => by
    have e := isNx_u h1 g1
    rw [← e] at g2
    obtain ⟨r1, r2⟩ := TA_u h2 g2
    refine ⟨by omega, fun i hi => ?_⟩
    cases i with
    | zero => exact e
    | succ i => exact r2 i (by omega)
/-- c is the least colour that none around v has -/
def isLc (J : Nat → Nat → Prop) (col : Nat → Int) (v c : Nat) : Prop := (∀ u, J v u → col u ≠ (c : Int)) ∧ ∀ d, d < c → ∃ u, J v u ∧ col u = (d : Int)
theorem isLc_u {c d : Nat} (h : isLc J col v c) (h2 : isLc J col v d) : c = d := by
  rcases Nat.lt_trichotomy c d with q | q | q
  · obtain ⟨u, h3, h4⟩ := h2.2 c q
    exact absurd h4 (h.1 u h3)
  · exact q
  · obtain ⟨u, h3, h4⟩ := h.2 d q
    exact absurd h4 (h2.1 u h3)
noncomputable def lcl (J : Nat → Nat → Prop) (col : Nat → Int) (v : Nat) : Nat := @Classical.epsilon Nat ⟨0⟩ (isLc J col v)
theorem lcl_e {c : Nat} (h : isLc J col v c) : lcl J col v = c := isLc_u (@Classical.epsilon_spec Nat (isLc J col v) ⟨c, h⟩) h
/-- the colours when t of the n on the pile have been put back -/
noncomputable def clN (J : Nat → Nat → Prop) (k : Int) (p : Nat → Nat) (n : Nat) : Nat → Nat → Int
  | 0 => fun _ => -1
  | t + 1 => fun u => @ite Int (u = p (n - 1 - t) ∧ (lcl J (clN J k p n t) (p (n - 1 - t)) : Int) < k) (Classical.propDecidable _) (lcl J (clN J k p n t) (p (n - 1 - t)) : Int) (clN J k p n t u)
/-- one of the first t found none -/
def bdN (J : Nat → Nat → Prop) (k : Int) (p : Nat → Nat) (n t : Nat) : Prop := ∃ s, s < t ∧ k ≤ (lcl J (clN J k p n s) (p (n - 1 - s)) : Int)
theorem clN_c (h : ∀ i, i < n → p i = q i) : ∀ t, t ≤ n → clN J k p n t = clN J k q n t
  | 0, _ => rfl
  | t + 1, ht => by
    have i := clN_c h t (by omega)
    have e := h (n - 1 - t) (by omega)
    show (fun u => @ite Int (u = p (n - 1 - t) ∧ (lcl J (clN J k p n t) (p (n - 1 - t)) : Int) < k) (Classical.propDecidable _) (lcl J (clN J k p n t) (p (n - 1 - t)) : Int) (clN J k p n t u)) = (fun u => @ite Int (u = q (n - 1 - t) ∧ (lcl J (clN J k q n t) (q (n - 1 - t)) : Int) < k) (Classical.propDecidable _) (lcl J (clN J k q n t) (q (n - 1 - t)) : Int) (clN J k q n t u))
    rw [i, e]
theorem bdN_c (h : ∀ i, i < n → p i = q i) : bdN J k p n n ↔ bdN J k q n n := by
  have z : ∀ {p q : Nat → Nat}, (∀ i, i < n → p i = q i) → bdN J k p n n → bdN J k q n n := fun {p q} h ⟨s, h1, h2⟩ => by
    refine ⟨s, h1, ?_⟩
    rw [← clN_c h s (by omega), ← h (n - 1 - s) (by omega)]
    exact h2
  exact ⟨z h, z (fun i hi => (h i hi).symm)⟩
theorem clN_b (hk : 0 ≤ k) : ∀ t u, -1 ≤ clN J k p n t u ∧ (clN J k p n t u < k ∨ clN J k p n t u = -1)
  | 0, _ => ⟨Int.le_refl _, Or.inr rfl⟩
  | t + 1, u => by
    have i := clN_b hk t u
    show -1 ≤ @ite Int (u = p (n - 1 - t) ∧ (lcl J (clN J k p n t) (p (n - 1 - t)) : Int) < k) (Classical.propDecidable _) (lcl J (clN J k p n t) (p (n - 1 - t)) : Int) (clN J k p n t u) ∧ (@ite Int (u = p (n - 1 - t) ∧ (lcl J (clN J k p n t) (p (n - 1 - t)) : Int) < k) (Classical.propDecidable _) (lcl J (clN J k p n t) (p (n - 1 - t)) : Int) (clN J k p n t u) < k ∨ @ite Int (u = p (n - 1 - t) ∧ (lcl J (clN J k p n t) (p (n - 1 - t)) : Int) < k) (Classical.propDecidable _) (lcl J (clN J k p n t) (p (n - 1 - t)) : Int) (clN J k p n t u) = -1)
    by_cases c : u = p (n - 1 - t) ∧ (lcl J (clN J k p n t) (p (n - 1 - t)) : Int) < k
    · rw [if_pos c]; exact ⟨by omega, Or.inl c.2⟩
    · rw [if_neg c]; exact i
end CLD
end
section
section COC
variable {Q : gPg} {W Nm b j v u w : Nat} {T : Nat → Prop}
/-- the first n of f are those of T, in their order -/
def asc (f : Nat → Int32) (n : Nat) (T : Nat → Prop) : Prop := (∀ i j, i < j → j < n → (f i).toInt < (f j).toInt) ∧ (∀ i, i < n → 0 ≤ (f i).toInt ∧ T (f i).toInt.toNat) ∧ ∀ v, T v → ∃ i, i < n ∧ (f i).toInt = (v : Int)
theorem asc_n {f : Nat → Int32} {n i : Nat} (h : asc f n T) (hi : i < n) : (f i).toNatClampNeg = (f i).toInt.toNat := nnE (Int.toNat_of_nonneg (h.2.1 i hi).1).symm
theorem asc_c {f : Nat → Int32} {n i : Nat} (h : asc f n T) (hi : i < n) : (f i).toInt = ((f i).toInt.toNat : Int) := (Int.toNat_of_nonneg (h.2.1 i hi).1).symm
/-- what is smaller than the one at i stands in front of it -/
theorem asc_lt {f : Nat → Int32} {n i u : Nat} (h : asc f n T) (hi : i < n) (hu : T u) (hl : (u : Int) < (f i).toInt) : ∃ l, l < i ∧ (f l).toInt = (u : Int) := by
  obtain ⟨l, h1, h2⟩ := h.2.2 u hu
  refine ⟨l, ?_, h2⟩
  rcases Nat.lt_trichotomy l i with c | c | c
  · exact c
  · rw [c] at h2; omega
  · have := h.1 i l c h1; omega
theorem asc_rm {f g : Nat → Int32} {n i : Nat} (h : asc f n T) (hi : i < n) (hg : ∀ q, q + 1 < n → g q = f (if i ≤ q then q + 1 else q)) : asc g (n - 1) (fun u => T u ∧ u ≠ (f i).toInt.toNat) := by
  obtain ⟨h1, h2, h3⟩ := h
  refine ⟨fun a c hac hc => ?_, fun a ha => ?_, fun v hv => ?_⟩
  · rw [hg a (by omega), hg c (by omega)]
    refine h1 _ _ ?_ ?_
    · split <;> split <;> omega
    · split <;> omega
  · rw [hg a (by omega)]
    have hl : (if i ≤ a then a + 1 else a) < n := by split <;> omega
    obtain ⟨q1, q2⟩ := h2 _ hl
    refine ⟨q1, q2, fun e => ?_⟩
    have p := (h2 i hi).1
    by_cases c : i ≤ a
    · rw [if_pos c] at e q1
      have := h1 i (a + 1) (by omega) (by omega)
      omega
    · rw [if_neg c] at e q1
      have := h1 a i (by omega) hi
      omega
  · obtain ⟨l, q1, q2⟩ := h3 v hv.1
    have ne : l ≠ i := fun e => hv.2 (by rw [← e, q2]; rfl)
    by_cases c : l < i
    · exact ⟨l, by omega, by rw [hg l (by omega), if_neg (by omega)]; exact q2⟩
    · exact ⟨l - 1, by omega, by rw [hg (l - 1) (by omega), if_pos (by omega), show l - 1 + 1 = l by omega]; exact q2⟩
theorem chp_tr {a1 : Int32} {a2 : Int32} {Colouring_weight : Nat → Int32} {Colouring_degree : Nat → Int32} {o1 : Int32} (hv : a1.toInt = (v : Int)) (hu : a2.toInt = (u : Int)) (h : tr_Colouring_isCheaper a1 a2 Colouring_weight Colouring_degree o1) : o1.toInt ≠ 0 ↔ chp Colouring_weight Colouring_degree v u := by
  refine h (fun o1 => o1.toInt ≠ 0 ↔ chp Colouring_weight Colouring_degree v u) ?_ ?_
  · intro x1 x2 x3 x4 x5 x6 x7 x8 x9 x10 x11 h1 h2 h3 h4 h5 h6 h7 h8 h9 h10 h11 h12
    unfold chp
    rw [nnE hv] at h1 h8
    rw [nnE hu] at h3 h6
    rw [h11, h5, h10, h2, h4, h7, h9, h1, h3, h6, h8] at h12
    rw [px_0]
    exact ⟨fun y => absurd rfl y, fun y => by omega⟩
  · intro x1 x2 x3 x4 x5 x6 x7 x8 x9 x10 x11 h1 h2 h3 h4 h5 h6 h7 h8 h9 h10 h11 h12
    unfold chp
    rw [nnE hv] at h1 h8
    rw [nnE hu] at h3 h6
    rw [h11, h5, h10, h2, h4, h7, h9, h1, h3, h6, h8] at h12
    rw [px_1]
    exact ⟨fun _ => h12, fun _ => by decide⟩
theorem nr2_tl {Colouring_restSize : Int32} {Colouring_rest : Nat → Int32} {Colouring_degree : Nat → Int32} {a1 : Int32} {s1 : Int32} {k : Nat} {e1 : Int32} {n : Nat} (hn : Colouring_restSize.toInt = (n : Int)) (ha : asc Colouring_rest n T) (h : tl_Colouring_nextOfRest_2 Colouring_restSize Colouring_rest Colouring_degree a1 s1 k e1) : ∀ i : Nat, s1.toInt = (i : Int) → (∀ l, l < i → a1.toInt ≤ (Colouring_degree (Colouring_rest l).toInt.toNat).toInt) → (k = 33 → ∀ u, T u → a1.toInt ≤ (Colouring_degree u).toInt) ∧ (k = 25 → ∃ i : Nat, e1.toInt = (i : Int) ∧ i < n ∧ (Colouring_degree (Colouring_rest i).toInt.toNat).toInt < a1.toInt ∧ ∀ l, l < i → a1.toInt ≤ (Colouring_degree (Colouring_rest l).toInt.toNat).toInt) := by
  refine h (fun s1 k e1 => ∀ i : Nat, s1.toInt = (i : Int) → (∀ l, l < i → a1.toInt ≤ (Colouring_degree (Colouring_rest l).toInt.toNat).toInt) → (k = 33 → ∀ u, T u → a1.toInt ≤ (Colouring_degree u).toInt) ∧ (k = 25 → ∃ i : Nat, e1.toInt = (i : Int) ∧ i < n ∧ (Colouring_degree (Colouring_rest i).toInt.toNat).toInt < a1.toInt ∧ ∀ l, l < i → a1.toInt ≤ (Colouring_degree (Colouring_rest l).toInt.toNat).toInt)) ?_ ?_ ?_
  · intro l2_1 h1 h2
    intro i hi hl
    refine ⟨fun _ u hu => ?_, fun z => (nomatch z)⟩
    obtain ⟨l, q1, q2⟩ := ha.2.2 u hu
    have q3 := hl l (by omega)
    rw [q2] at q3
    exact q3
  · intro l2_1 x1 x2 x3 k e1 h1 h2 h3 h4 h5 h6 h7 ih
    intro i hi hl
    have hin : i < n := by omega
    rw [nnE hi] at h3
    rw [h3, asc_n ha hin] at h5
    refine ih (i + 1) (by omega) (fun l hl2 => ?_)
    by_cases c : l = i
    · rw [c, ← h5]; exact h6
    · exact hl l (by omega)
  · intro l2_1 x1 x2 h1 h2 h3 h4 h5 h6
    intro i hi hl
    have hin : i < n := by omega
    rw [nnE hi] at h3
    rw [h3, asc_n ha hin] at h5
    exact ⟨fun z => (nomatch z), fun _ => ⟨i, hi, hin, by rw [← h5]; exact h6, hl⟩⟩
theorem nr37_tl {Colouring_restSize : Int32} {Colouring_rest : Nat → Int32} {Colouring_weight : Nat → Int32} {Colouring_degree : Nat → Int32} {s1 : Int32} {s2 : Int32} {k : Nat} {e1 : Int32} {n : Nat} (hn : Colouring_restSize.toInt = (n : Int)) (ha : asc Colouring_rest n T) (hT : ∀ u, T u → u < 2000) (h : tl_Colouring_nextOfRest_37 Colouring_restSize Colouring_rest Colouring_weight Colouring_degree s1 s2 k e1) : ∀ i l : Nat, s1.toInt = (i : Int) → 1 ≤ i → i ≤ n → s2.toInt = (l : Int) → l < i → bsF T Colouring_weight Colouring_degree ((Colouring_rest (i - 1)).toInt.toNat + 1) = some (Colouring_rest l).toInt.toNat → ∃ l : Nat, e1.toInt = (l : Int) ∧ l < n ∧ bsF T Colouring_weight Colouring_degree 2000 = some (Colouring_rest l).toInt.toNat := by
  have gap : ∀ i, 1 ≤ i → i < n → ∀ u, (Colouring_rest (i - 1)).toInt.toNat + 1 ≤ u → u < (Colouring_rest i).toInt.toNat → ¬ T u := fun i h1 h2 u h3 h4 h5 => by
    have c1 := asc_c ha (show i - 1 < n by omega)
    have c2 := asc_c ha h2
    obtain ⟨l, q1, q2⟩ := asc_lt ha h2 h5 (by omega)
    by_cases c : l = i - 1
    · rw [c] at q2; omega
    · have := ha.1 l (i - 1) (by omega) (by omega); omega
  have up : ∀ i, 1 ≤ i → i < n → (Colouring_rest (i - 1)).toInt.toNat + 1 ≤ (Colouring_rest i).toInt.toNat := fun i h1 h2 => by
    have c1 := asc_c ha (show i - 1 < n by omega)
    have c2 := asc_c ha h2
    have := ha.1 (i - 1) i (by omega) h2
    omega
  have lst : ∀ l, bsF T Colouring_weight Colouring_degree ((Colouring_rest (n - 1)).toInt.toNat + 1) = some l → 1 ≤ n → bsF T Colouring_weight Colouring_degree 2000 = some l := fun l h1 h2 => by
    have q := (ha.2.1 (n - 1) (by omega)).2
    have q2 := hT _ q
    rw [bsF_s (show (Colouring_rest (n - 1)).toInt.toNat + 1 ≤ 2000 by omega) (fun u g1 g2 g3 => ?_)]
    · exact h1
    · obtain ⟨l, p1, p2⟩ := ha.2.2 u g3
      have c1 := asc_c ha (show n - 1 < n by omega)
      by_cases c : l = n - 1
      · rw [c] at p2; omega
      · have := ha.1 l (n - 1) (by omega) (by omega); omega
  refine h (fun s1 s2 _ e1 => ∀ i l : Nat, s1.toInt = (i : Int) → 1 ≤ i → i ≤ n → s2.toInt = (l : Int) → l < i → bsF T Colouring_weight Colouring_degree ((Colouring_rest (i - 1)).toInt.toNat + 1) = some (Colouring_rest l).toInt.toNat → ∃ l : Nat, e1.toInt = (l : Int) ∧ l < n ∧ bsF T Colouring_weight Colouring_degree 2000 = some (Colouring_rest l).toInt.toNat) ?_ ?_ ?_ ?_ ?_ ?_
  · intro l3_1 l2_1 h1 h2 h3
    intro i l hi h1i hin hl hli hb
    have e : i = n := by omega
    rw [e] at hb hli
    exact ⟨l, hl, hli, lst _ hb (by omega)⟩
  · intro l3_1 l2_1 x1 x2 x3 k e1 h1 h2 h3 h4 h5 h6 h7 h8 h9 h10 ih
    intro i l hi h1i hin hl hli hb
    have hi2 : i < n := by omega
    rw [nnE hi] at h4
    rw [nnE hl] at h7
    have ci := asc_c ha hi2
    have cl := asc_c ha (show l < n by omega)
    have ti := (ha.2.1 i hi2).2
    have bi : bsF T Colouring_weight Colouring_degree (Colouring_rest i).toInt.toNat = some (Colouring_rest l).toInt.toNat := (bsF_s (up i h1i hi2) (gap i h1i hi2)).trans hb
    rw [h4] at h6
    rw [h4, h7] at h9
    have q := chp_tr ci cl h9
    have q1 : ¬ chp Colouring_weight Colouring_degree (Colouring_rest i).toInt.toNat (Colouring_rest l).toInt.toNat := fun z => q.mpr z (by decide)
    exact ih (i + 1) l (by omega) (by omega) (by omega) hl (by omega) (bsF_2 ti bi (Or.inr q1))
  · intro l3_1 l2_1 x1 x2 x3 k e1 h1 h2 h3 h4 h5 h6 h7 h8 h9 h10 ih
    intro i l hi h1i hin hl hli hb
    have hi2 : i < n := by omega
    rw [nnE hi] at h4
    rw [nnE hl] at h7
    have ci := asc_c ha hi2
    have cl := asc_c ha (show l < n by omega)
    have ti := (ha.2.1 i hi2).2
    have bi : bsF T Colouring_weight Colouring_degree (Colouring_rest i).toInt.toNat = some (Colouring_rest l).toInt.toNat := (bsF_s (up i h1i hi2) (gap i h1i hi2)).trans hb
    rw [h4] at h6
    rw [h4, h7] at h9
    have q := chp_tr ci cl h9
    have q1 := q.mp (by decide)
    exact ih (i + 1) i (by omega) (by omega) (by omega) (by omega) (by omega) (bsF_3 (n := (Colouring_rest i).toInt.toNat) ti bi (fun z => z.elim (fun y => by omega) (fun y => y q1)))
  · intro l3_1 l2_1 x1 x2 h1 h2 h3 h4 h5 h6 h7 h8 h9
    intro i l hi h1i hin hl hli hb
    have hi2 : i < n := by omega
    rw [nnE hi] at h4
    rw [nnE hl] at h7
    have ci := asc_c ha hi2
    have cl := asc_c ha (show l < n by omega)
    have ti := (ha.2.1 i hi2).2
    have bi : bsF T Colouring_weight Colouring_degree (Colouring_rest i).toInt.toNat = some (Colouring_rest l).toInt.toNat := (bsF_s (up i h1i hi2) (gap i h1i hi2)).trans hb
    rw [h4] at h6
    rw [h7] at h9
    have r := bsF_t (n := (Colouring_rest i).toInt.toNat) (by omega) bi (fun u hu _ => by omega) (2000 - (Colouring_rest i).toInt.toNat)
    have q2 := hT _ ti
    rw [show (Colouring_rest i).toInt.toNat + (2000 - (Colouring_rest i).toInt.toNat) = 2000 by omega] at r
    exact ⟨l, hl, by omega, r⟩
  · intro l3_1 l2_1 x1 x2 x3 k e1 h1 h2 h3 h4 h5 h6 h7 h8 h9 h10 h11 ih
    intro i l hi h1i hin hl hli hb
    have hi2 : i < n := by omega
    rw [nnE hi] at h4
    rw [nnE hl] at h7
    have ci := asc_c ha hi2
    have cl := asc_c ha (show l < n by omega)
    have ti := (ha.2.1 i hi2).2
    have bi : bsF T Colouring_weight Colouring_degree (Colouring_rest i).toInt.toNat = some (Colouring_rest l).toInt.toNat := (bsF_s (up i h1i hi2) (gap i h1i hi2)).trans hb
    rw [h4] at h6
    rw [h7] at h9
    rw [h4, h7] at h10
    have q := chp_tr ci cl h10
    have q1 : ¬ chp Colouring_weight Colouring_degree (Colouring_rest i).toInt.toNat (Colouring_rest l).toInt.toNat := fun z => q.mpr z (by decide)
    exact ih (i + 1) l (by omega) (by omega) (by omega) hl (by omega) (bsF_2 ti bi (Or.inr q1))
  · intro l3_1 l2_1 x1 x2 x3 k e1 h1 h2 h3 h4 h5 h6 h7 h8 h9 h10 h11 ih
    intro i l hi h1i hin hl hli hb
    have hi2 : i < n := by omega
    rw [nnE hi] at h4
    rw [nnE hl] at h7
    have ci := asc_c ha hi2
    have cl := asc_c ha (show l < n by omega)
    have ti := (ha.2.1 i hi2).2
    have bi : bsF T Colouring_weight Colouring_degree (Colouring_rest i).toInt.toNat = some (Colouring_rest l).toInt.toNat := (bsF_s (up i h1i hi2) (gap i h1i hi2)).trans hb
    rw [h4] at h6
    rw [h7] at h9
    rw [h4, h7] at h10
    have q := chp_tr ci cl h10
    have q1 := q.mp (by decide)
    exact ih (i + 1) i (by omega) (by omega) (by omega) (by omega) (by omega) (bsF_3 (n := (Colouring_rest i).toInt.toNat) ti bi (fun z => z.elim (fun y => by omega) (fun y => y q1)))
theorem nxr_tr {a1 : Int32} {Colouring_restSize : Int32} {Colouring_weight : Nat → Int32} {Colouring_degree : Nat → Int32} {Colouring_rest : Nat → Int32} {o1 : Int32} {n : Nat} (hn : Colouring_restSize.toInt = (n : Int)) (hn1 : 0 < n) (ha : asc Colouring_rest n T) (hT : ∀ u, T u → u < 2000) (h : tr_Colouring_nextOfRest a1 Colouring_restSize Colouring_weight Colouring_degree Colouring_rest o1) : ∃ i : Nat, o1.toInt = (i : Int) ∧ i < n ∧ isNx T Colouring_weight Colouring_degree a1.toInt (Colouring_rest i).toInt.toNat := by
  refine h (fun o1 => ∃ i : Nat, o1.toInt = (i : Int) ∧ i < n ∧ isNx T Colouring_weight Colouring_degree a1.toInt (Colouring_rest i).toInt.toNat) ?_ ?_
  · intro x1 h1 h2
    have q := (nr2_tl hn ha h1 0 (by decide) (fun l hl => absurd hl (Nat.not_lt_zero l))).1 rfl
    have t0 := (ha.2.1 0 hn1).2
    have c0 := asc_c ha hn1
    have b0 : bsF T Colouring_weight Colouring_degree ((Colouring_rest 0).toInt.toNat + 1) = some (Colouring_rest 0).toInt.toNat := by
      refine bsF_1 t0 ?_
      rw [bsF_s (n := 0) (Nat.zero_le _) (fun u _ h2 h3 => ?_)]
      · rfl
      · obtain ⟨l, p1, -⟩ := asc_lt ha hn1 h3 (by omega)
        omega
    obtain ⟨l, r1, r2, r3⟩ := nr37_tl hn ha hT h2 1 0 (by decide) (Nat.le_refl _) hn1 (by decide) (by decide) b0
    exact ⟨l, r1, r2, Or.inr ⟨q, r3⟩⟩
  · intro x1 h1
    obtain ⟨i, q1, q2, q3, q4⟩ := (nr2_tl hn ha h1 0 (by decide) (fun l hl => absurd hl (Nat.not_lt_zero l))).2 rfl
    refine ⟨i, q1, q2, Or.inl ⟨(ha.2.1 i q2).2, q3, fun u hu ht => ?_⟩⟩
    have ci := asc_c ha q2
    obtain ⟨l, p1, p2⟩ := asc_lt ha q2 ht (by omega)
    have r := q4 l p1
    rw [p2] at r
    exact r
theorem lv36_tl {l2_1 : Int32} {s1 : Int32} {s2 : Int64} {s3 : Nat → Int32} {k : Nat} {e1 : Nat → Int32} (hw : l2_1.toInt = (w : Int)) (hw2 : w < 12) (h : tl_Colouring_leave_36 l2_1 s1 s2 s3 k e1) : ∀ n : Nat, s1.toInt = (n : Int) → (∀ i, i < n → s2.toBitVec.getLsbD i = false) → ∀ q, (q / 64 = w ∧ s2.toBitVec.getLsbD (q % 64) = true → e1 q = s3 q - 1) ∧ (¬ (q / 64 = w ∧ s2.toBitVec.getLsbD (q % 64) = true) → e1 q = s3 q) := by
  refine h (fun s1 s2 s3 _ e1 => ∀ n : Nat, s1.toInt = (n : Int) → (∀ i, i < n → s2.toBitVec.getLsbD i = false) → ∀ q, (q / 64 = w ∧ s2.toBitVec.getLsbD (q % 64) = true → e1 q = s3 q - 1) ∧ (¬ (q / 64 = w ∧ s2.toBitVec.getLsbD (q % 64) = true) → e1 q = s3 q)) ?_ ?_ ?_
  · intro l5_2 l3_2 Colouring_degree_2 h1 h2
    intro n hn hz q
    refine ⟨fun z => ?_, fun _ => rfl⟩
    have z2 := z.2
    rw [hz (q % 64) (by have := Nat.mod_lt q (show 64 > 0 by decide); omega)] at z2
    cases z2
  · intro l5_2 l3_2 Colouring_degree_2 h1 h2 h3
    intro n hn hz q
    refine ⟨fun z => ?_, fun _ => rfl⟩
    have z2 := z.2
    rw [h3] at z2
    simp at z2
  · intro l5_2 l3_2 Colouring_degree_2 x1 x2 x3 x4 x5 x6 x7 x8 x9 k e1 h1 h2 h3 h4 h5 h6 h7 h8 h9 h10 h11 h12 h13 ih
    intro n hn hz
    obtain ⟨z, z1, z2, z3, z4⟩ := lw_tr h3 h6
    have zn : n ≤ z := by
      by_cases c : z < n
      · rw [hz z c] at z3; cases z3
      · omega
    have cl := bit_neg1 h11 h12 z1 z3 z4
    have hz' : ∀ i, i < n + 1 → x8.toBitVec.getLsbD i = false := fun i hi => by
      rw [cl i (by omega)]
      by_cases c : i = z
      · simp [c]
      · rw [z4 i (by omega), Bool.false_and]
    have e3 : x3.toNatClampNeg = 64 * w + z := nnE (by omega)
    rw [e3] at h8 h10
    have i1 := ih (n + 1) (by omega) hz'
    have bq : ∀ u, u / 64 = w → (x8.toBitVec.getLsbD (u % 64) = true ↔ l3_2.toBitVec.getLsbD (u % 64) = true ∧ u ≠ 64 * w + z) := fun u hu => by
      rw [cl (u % 64) (Nat.mod_lt _ (by decide)), Bool.and_eq_true, decide_eq_true_iff]
      exact ⟨fun a => ⟨a.1, fun c => a.2 (by omega)⟩, fun a => ⟨a.1, fun c => a.2 (by omega)⟩⟩
    intro q
    obtain ⟨k1, k2⟩ := i1 q
    by_cases c : q = 64 * w + z
    · have n8 : ¬ (q / 64 = w ∧ x8.toBitVec.getLsbD (q % 64) = true) := fun y => ((bq q y.1).mp y.2).2 c
      refine ⟨fun _ => ?_, fun y => absurd ⟨by omega, by rw [show q % 64 = z by omega]; exact z3⟩ y⟩
      rw [k2 n8, h10, c, updE, h9, h8]
    · refine ⟨fun y => ?_, fun y => ?_⟩
      · rw [k1 ⟨y.1, (bq q y.1).mpr ⟨y.2, c⟩⟩, h10, updN c]
      · rw [k2 (fun x => y ⟨x.1, ((bq q x.1).mp x.2).1⟩), h10, updN c]
theorem lv2_tl {Graph_words : Int32} {a1 : Int32} {Graph_joined : Nat → Int64} {s1 : Int32} {s2 : Nat → Int32} {k : Nat} {e1 : Nat → Int32} {nam : Int32} {sd : Nat → Int64} {dg : Nat → Int32} (hg : gfC Q Nm W nam Graph_words Graph_joined sd dg) (hv : a1.toInt = (v : Int)) (hv2 : v < Nm) (h : tl_Colouring_leave_2 Graph_words a1 Graph_joined s1 s2 k e1) : ∀ m : Nat, s1.toInt = (m : Int) → m ≤ W → ∀ q, (m ≤ q / 64 ∧ JJ Q v q → e1 q = s2 q - 1) ∧ (¬ (m ≤ q / 64 ∧ JJ Q v q) → e1 q = s2 q) := by
  obtain ⟨-, gW, gN, gW2, gn, gJ, -, gd⟩ := hg
  refine h (fun s1 s2 _ e1 => ∀ m : Nat, s1.toInt = (m : Int) → m ≤ W → ∀ q, (m ≤ q / 64 ∧ JJ Q v q → e1 q = s2 q - 1) ∧ (¬ (m ≤ q / 64 ∧ JJ Q v q) → e1 q = s2 q)) ?_ ?_
  · intro l2_1 Colouring_degree_1 h1 h2
    intro m hm hmW q
    refine ⟨fun z => ?_, fun _ => rfl⟩
    have := (JJ_nn gn z.2).2
    omega
  · intro l2_1 Colouring_degree_1 x1 x2 x3 x4 x5 k e1 h1 h2 h3 h4 h5 h6 h7 ih
    intro m hm hmW
    have ep : x1.toInt = ((v * W : Nat) : Int) := by rw [h3, hv, gW]; exact (Int.natCast_mul _ _).symm
    have ei : x2.toNatClampNeg = v * W + m := nnE (by omega)
    rw [ei] at h5
    have st := lv36_tl hm (by omega) h6 0 (by decide) (fun i hi => absurd hi (Nat.not_lt_zero i))
    have bv : ∀ q, q / 64 = m → (x3.toBitVec.getLsbD (q % 64) = true ↔ JJ Q v q) := fun q hq => by
      rw [← gJ v q hv2 (by omega)]
      unfold gbit
      rw [h5, show (64 * (v * W) + q) / 64 = v * W + m by omega, show (64 * (v * W) + q) % 64 = q % 64 by omega]
    intro q
    obtain ⟨k1, k2⟩ := ih (m + 1) (by omega) (by omega) q
    obtain ⟨s1, s2⟩ := st q
    refine ⟨fun z => ?_, fun z => ?_⟩
    · by_cases c : q / 64 = m
      · rw [k2 (fun y => by omega), s1 ⟨c, (bv q c).mpr z.2⟩]
      · rw [k1 ⟨by omega, z.2⟩, s2 (fun y => c y.1)]
    · rw [k2 (fun y => z ⟨by omega, y.2⟩)]
      exact s2 (fun y => z ⟨by omega, (bv q y.1).mp y.2⟩)
theorem lve_tr {a1 : Int32} {Graph_words : Int32} {Colouring_degree : Nat → Int32} {Graph_joined : Nat → Int64} {o1 : Nat → Int32} {nam : Int32} {sd : Nat → Int64} {dg : Nat → Int32} (hg : gfC Q Nm W nam Graph_words Graph_joined sd dg) (hv : a1.toInt = (v : Int)) (hv2 : v < Nm) (h : tr_Colouring_leave a1 Graph_words Colouring_degree Graph_joined o1) : o1 = lfD (JJ Q) Colouring_degree v := by
  refine h (fun o1 => o1 = lfD (JJ Q) Colouring_degree v) ?_
  · intro x1 h1
    have q := lv2_tl hg hv hv2 h1 0 (by decide) (Nat.zero_le _)
    funext u
    unfold lfD
    by_cases c : JJ Q v u
    · rw [if_pos c]; exact (q u).1 ⟨Nat.zero_le _, c⟩
    · rw [if_neg c]; exact (q u).2 (fun z => c z.2)
theorem std_tr {a1 : Int32} {Graph_names : Int32} {Graph_standing : Nat → Int64} {o1 : Int32} (hv : a1.toInt = (v : Int)) (hN : Graph_names.toInt = (Nm : Int)) (hv2 : v < Nm) (h : tr_Graph_stands a1 Graph_names Graph_standing o1) : o1.toInt ≠ 0 ↔ gbit Graph_standing v = true := by
  refine h (fun o1 => o1.toInt ≠ 0 ↔ gbit Graph_standing v = true) ?_ ?_ ?_ ?_
  · intro h1
    omega
  · intro h1 h2
    omega
  · intro x1 x2 x3 x4 h1 h2 h3 h4 h5 h6 h7
    have tb := tst_bit (f := Graph_standing) (a := 0) (m := v) (i := x1) (by omega) hv h4 h5 h6
    rw [Nat.mul_zero, Nat.zero_add] at tb
    rw [px_0]
    exact ⟨fun y => absurd rfl y, fun y => by rw [tb.mp h7] at y; cases y⟩
  · intro x1 x2 x3 x4 h1 h2 h3 h4 h5 h6 h7
    have tb := tst_bit (f := Graph_standing) (a := 0) (m := v) (i := x1) (by omega) hv h4 h5 h6
    rw [Nat.mul_zero, Nat.zero_add] at tb
    rw [px_1]
    refine ⟨fun _ => ?_, fun _ => by decide⟩
    cases e : gbit Graph_standing v
    · exact absurd (tb.mpr e) h7
    · rfl
theorem ta12_tl {Graph_names : Int32} {Graph_degree : Nat → Int32} {Graph_standing : Nat → Int64} {s1 : Int32} {s2 : Nat → Int32} {s3 : Int32} {s4 : Nat → Int32} {k : Nat} {e1 : Int32} {e2 : Nat → Int32} {e3 : Nat → Int32} {wor : Int32} {jo : Nat → Int64} (hg : gfC Q Nm W Graph_names wor jo Graph_standing Graph_degree) (h : tl_Colouring_takeApart_12 Graph_names Graph_degree Graph_standing s1 s2 s3 s4 k e1 e2 e3) : ∀ m r : Nat, s1.toInt = (m : Int) → m ≤ Nm → s3.toInt = (r : Int) → (∀ v, v < m → s2 v = Graph_degree v) → asc s4 r (fun v => v < m ∧ Sd Q false 2000 v) → ∃ r : Nat, e1.toInt = (r : Int) ∧ (∀ v, v < Nm → e2 v = Graph_degree v) ∧ asc e3 r (Sd Q false 2000) := by
  obtain ⟨gN, gW, gNW, gW2, gn, gJ, gS, gd⟩ := hg
  have sdl : ∀ v, Sd Q false 2000 v → v < Nm := fun v hv => (Sd_i gn (Nat.le_refl _) hv).2
  refine h (fun s1 s2 s3 s4 _ e1 e2 e3 => ∀ m r : Nat, s1.toInt = (m : Int) → m ≤ Nm → s3.toInt = (r : Int) → (∀ v, v < m → s2 v = Graph_degree v) → asc s4 r (fun v => v < m ∧ Sd Q false 2000 v) → ∃ r : Nat, e1.toInt = (r : Int) ∧ (∀ v, v < Nm → e2 v = Graph_degree v) ∧ asc e3 r (Sd Q false 2000)) ?_ ?_ ?_
  · intro l2_1 Colouring_degree_1 Colouring_restSize_1 Colouring_rest_1 h1 h2 h3
    intro m r hm hmN hr hd ha
    have e : m = Nm := by omega
    rw [e] at hd ha
    exact ⟨r, hr, hd, ha.1, fun i hi => ⟨(ha.2.1 i hi).1, (ha.2.1 i hi).2.2⟩, fun v hv => ha.2.2 v ⟨sdl v hv, hv⟩⟩
  · intro l2_1 Colouring_degree_1 Colouring_restSize_1 Colouring_rest_1 x1 x2 x3 k e1 e2 e3 h1 h2 h3 h4 h5 h6 h7 ih
    intro m r hm hmN hr hd ha
    have hm2 : m < Nm := by omega
    have em := nnE hm
    rw [em] at h4 h5
    have st := std_tr hm gN hm2 h6
    have gs := gS m (by omega)
    have hd' : ∀ v, v < m + 1 → x2 v = Graph_degree v := fun v hv => by
      rw [h5]
      by_cases c : v = m
      · rw [c, updE]; exact h4
      · rw [updN c]; exact hd v (by omega)
    have ns : ¬ Sd Q false 2000 m := fun z => st.mpr (gs.mpr z) (by decide)
    refine ih (m + 1) r (by omega) (by omega) hr hd' ⟨ha.1, fun i hi => ⟨(ha.2.1 i hi).1, by have := (ha.2.1 i hi).2.1; omega, (ha.2.1 i hi).2.2⟩, fun v hv => ?_⟩
    by_cases c : v = m
    · rw [c] at hv; exact absurd hv.2 ns
    · exact ha.2.2 v ⟨by omega, hv.2⟩
  · intro l2_1 Colouring_degree_1 Colouring_restSize_1 Colouring_rest_1 x1 x2 x3 x4 x5 k e1 e2 e3 h1 h2 h3 h4 h5 h6 h7 h8 h9 ih
    intro m r hm hmN hr hd ha
    have hm2 : m < Nm := by omega
    have em := nnE hm
    rw [em] at h4 h5
    have st := std_tr hm gN hm2 h6
    have gs := gS m (by omega)
    have hd' : ∀ v, v < m + 1 → x2 v = Graph_degree v := fun v hv => by
      rw [h5]
      by_cases c : v = m
      · rw [c, updE]; exact h4
      · rw [updN c]; exact hd v (by omega)
    have ns : Sd Q false 2000 m := gs.mp (st.mp (by decide))
    rw [nnE hr] at h7
    refine ih (m + 1) (r + 1) (by omega) (by omega) (by omega) hd' ⟨fun i j hij hj => ?_, fun i hi => ?_, fun v hv => ?_⟩
    · rw [h7]
      by_cases c : j = r
      · rw [c, updE, updN (by omega), hm]
        have := (ha.2.1 i (by omega))
        omega
      · rw [updN c, updN (by omega)]; exact ha.1 i j hij (by omega)
    · rw [h7]
      by_cases c : i = r
      · rw [c, updE, hm]
        exact ⟨by omega, by rw [Int.toNat_natCast]; exact ⟨Nat.lt_succ_self m, ns⟩⟩
      · rw [updN c]
        have q := ha.2.1 i (by omega)
        exact ⟨q.1, by have := q.2.1; omega, q.2.2⟩
    · by_cases c : v = m
      · exact ⟨r, Nat.lt_succ_self r, by rw [h7, updE, hm, c]⟩
      · obtain ⟨i, q1, q2⟩ := ha.2.2 v ⟨by omega, hv.2⟩
        exact ⟨i, by omega, by rw [h7, updN (by omega)]; exact q2⟩
theorem ta80_tl {a1 : Int32} {Colouring_weight : Nat → Int32} {Graph_words : Int32} {Graph_joined : Nat → Int64} {s1 : Int32} {s2 : Int32} {s3 : Int32} {s4 : Nat → Int32} {s5 : Nat → Int32} {s6 : Nat → Int32} {k : Nat} {e1 : Int32} {e2 : Int32} {e3 : Nat → Int32} {e4 : Nat → Int32} {e5 : Nat → Int32} {nam : Int32} {sd : Nat → Int64} {dg : Nat → Int32} (hg : gfC Q Nm W nam Graph_words Graph_joined sd dg) (hN : Nm ≤ 720) (h : tl_Colouring_takeApart_80 a1 Colouring_weight Graph_words Graph_joined s1 s2 s3 s4 s5 s6 k e1 e2 e3 e4 e5) : ∀ (T : Nat → Prop) (lf : Nat → Int32) (n m : Nat), s1.toInt = (n : Int) → s2.toInt = (n : Int) → s3.toInt = (m : Int) → asc s5 n T → (∀ v, T v → v < Nm) → s4 = lf → ∃ p : Nat → Nat, TA (JJ Q) Colouring_weight a1.toInt n T lf p ∧ e2.toInt = ((m + n : Nat) : Int) ∧ (∀ i, i < m → e5 i = s6 i) ∧ ∀ i, i < n → (e5 (m + i)).toInt = (p i : Int) ∧ p i < Nm := by
  refine h (fun s1 s2 s3 s4 s5 s6 _ e1 e2 e3 e4 e5 => ∀ (T : Nat → Prop) (lf : Nat → Int32) (n m : Nat), s1.toInt = (n : Int) → s2.toInt = (n : Int) → s3.toInt = (m : Int) → asc s5 n T → (∀ v, T v → v < Nm) → s4 = lf → ∃ p : Nat → Nat, TA (JJ Q) Colouring_weight a1.toInt n T lf p ∧ e2.toInt = ((m + n : Nat) : Int) ∧ (∀ i, i < m → e5 i = s6 i) ∧ ∀ i, i < n → (e5 (m + i)).toInt = (p i : Int) ∧ p i < Nm) ?_ ?_
  · intro l2_1 Colouring_restSize_1 Colouring_pileSize_1 Colouring_degree_1 Colouring_rest_1 Colouring_pile_1 h1 h2 h3 h4
    intro T lf n m hn hn2 hm ha hT hlf
    have e : n = 0 := by omega
    rw [e] at ha ⊢
    exact ⟨fun _ => 0, fun v hv => (ha.2.2 v hv).elim (fun i z => absurd z.1 (Nat.not_lt_zero i)), by omega, fun _ _ => rfl, fun i hi => absurd hi (Nat.not_lt_zero i)⟩
  · intro l2_1 Colouring_restSize_1 Colouring_pileSize_1 Colouring_degree_1 Colouring_rest_1 Colouring_pile_1 x1 x2 x3 x4 x5 x6 x7 x8 x9 x10 k e1 e2 e3 e4 e5 h1 h2 h3 h4 h5 h6 h7 h8 h9 h10 h11 h12 h13 h14 h15 h16 ih
    intro T lf n m hn hn2 hm ha hT hlf
    obtain ⟨n1, en⟩ : ∃ n1, n = n1 + 1 := ⟨n - 1, by omega⟩
    obtain ⟨i, q1, q2, q3⟩ := nxr_tr hn2 (by omega) ha (fun u hu => by have := hT u hu; omega) h6
    have ei := nnE q1
    rw [ei] at h7
    have ci := asc_c ha q2
    have ti := (ha.2.1 i q2).2
    have cp := cpy_dr (n := n) q1 h10 (by omega) q2 h12
    have ar := asc_rm ha q2 cp
    have hx2 : x2.toInt = ((Colouring_rest_1 i).toInt.toNat : Int) := by rw [h7]; exact ci
    have lv := lve_tr hg hx2 (hT _ ti) h15
    rw [nnE hm] at h13
    rw [hlf] at lv q3
    obtain ⟨p, r1, r2, r3, r4⟩ := ih (fun u => T u ∧ u ≠ (Colouring_rest_1 i).toInt.toNat) (lfD (JJ Q) lf (Colouring_rest_1 i).toInt.toNat) n1 (m + 1) (by omega) (by omega) (by omega) (by rw [show n1 = n - 1 by omega]; exact ar) (fun v hv => hT v hv.1) lv
    refine ⟨fun l => if l = 0 then (Colouring_rest_1 i).toInt.toNat else p (l - 1), ?_, by omega, fun l hl => ?_, fun l hl => ?_⟩
    · rw [en]
      exact ⟨ti, q3, r1⟩
    · rw [r3 l (by omega), h13, updN (by omega)]
    · by_cases c : l = 0
      · rw [c]
        dsimp only
        rw [if_pos rfl, Nat.add_zero, r3 m (Nat.lt_succ_self m), h13, updE]
        exact ⟨hx2, hT _ ti⟩
      · dsimp only
        rw [if_neg c]
        have r := r4 (l - 1) (by omega)
        rw [show m + 1 + (l - 1) = m + l by omega] at r
        exact r
theorem tap_tr {a1 : Int32} {Graph_names : Int32} {Graph_words : Int32} {Colouring_weight : Nat → Int32} {Colouring_degree : Nat → Int32} {Colouring_rest : Nat → Int32} {Colouring_pile : Nat → Int32} {Graph_joined : Nat → Int64} {Graph_standing : Nat → Int64} {Graph_degree : Nat → Int32} {o1 : Int32} {o2 : Int32} {o3 : Nat → Int32} {o4 : Nat → Int32} {o5 : Nat → Int32} (hg : gfC Q Nm W Graph_names Graph_words Graph_joined Graph_standing Graph_degree) (hN : Nm ≤ 720) (h : tr_Colouring_takeApart a1 Graph_names Graph_words Colouring_weight Colouring_degree Colouring_rest Colouring_pile Graph_joined Graph_standing Graph_degree o1 o2 o3 o4 o5) : ∃ lf : Nat → Int32, (∀ v, v < Nm → lf v = dgc Q v) ∧ ∃ (n : Nat) (p : Nat → Nat), o2.toInt = (n : Int) ∧ TA (JJ Q) Colouring_weight a1.toInt n (Sd Q false 2000) lf p ∧ ∀ i, i < n → (o5 i).toInt = (p i : Int) ∧ p i < Nm := by
  refine h (fun o1 o2 o3 o4 o5 => ∃ lf : Nat → Int32, (∀ v, v < Nm → lf v = dgc Q v) ∧ ∃ (n : Nat) (p : Nat → Nat), o2.toInt = (n : Int) ∧ TA (JJ Q) Colouring_weight a1.toInt n (Sd Q false 2000) lf p ∧ ∀ i, i < n → (o5 i).toInt = (p i : Int) ∧ p i < Nm) ?_
  · intro x1 x2 x3 x4 x5 x6 x7 x8 h1 h2
    obtain ⟨n, q1, q2, q3⟩ := ta12_tl hg h1 0 0 (by decide) (Nat.zero_le _) (by decide) (fun v hv => absurd hv (Nat.not_lt_zero v)) ⟨fun i j _ hj => absurd hj (Nat.not_lt_zero j), fun i hi => absurd hi (Nat.not_lt_zero i), fun v hv => absurd hv.1 (Nat.not_lt_zero v)⟩
    have gn := hg.2.2.2.2.1
    obtain ⟨p, r1, r2, -, r4⟩ := ta80_tl hg hN h2 (Sd Q false 2000) x2 n 0 q1 q1 (by decide) q3 (fun v hv => (Sd_i gn (Nat.le_refl _) hv).2) rfl
    refine ⟨x2, fun v hv => (q2 v hv).trans (hg.2.2.2.2.2.2.2 v hv), n, p, by omega, r1, fun i hi => ?_⟩
    have r := r4 i hi
    rw [Nat.zero_add] at r
    exact r
theorem ca42_tl {l4_1 : Int32} {Colouring_colour : Nat → Int32} {s1 : Int32} {s2 : Int64} {s3 : Int64} {k : Nat} {e1 : Int64} (hw : l4_1.toInt = (w : Int)) (hw2 : w < 12) (h : tl_Colouring_coloursAround_42 l4_1 Colouring_colour s1 s2 s3 k e1) : ∀ n : Nat, s1.toInt = (n : Int) → (∀ i, i < n → s2.toBitVec.getLsbD i = false) → (∀ u, u / 64 = w → s2.toBitVec.getLsbD (u % 64) = true → -1 ≤ (Colouring_colour u).toInt ∧ (Colouring_colour u).toInt < 64) → ∀ c : Nat, c < 64 → (e1.toBitVec.getLsbD c = true ↔ s3.toBitVec.getLsbD c = true ∨ ∃ u, (u / 64 = w ∧ s2.toBitVec.getLsbD (u % 64) = true) ∧ (Colouring_colour u).toInt = (c : Int)) := by
  refine h (fun s1 s2 s3 _ e1 => ∀ n : Nat, s1.toInt = (n : Int) → (∀ i, i < n → s2.toBitVec.getLsbD i = false) → (∀ u, u / 64 = w → s2.toBitVec.getLsbD (u % 64) = true → -1 ≤ (Colouring_colour u).toInt ∧ (Colouring_colour u).toInt < 64) → ∀ c : Nat, c < 64 → (e1.toBitVec.getLsbD c = true ↔ s3.toBitVec.getLsbD c = true ∨ ∃ u, (u / 64 = w ∧ s2.toBitVec.getLsbD (u % 64) = true) ∧ (Colouring_colour u).toInt = (c : Int))) ?_ ?_ ?_ ?_
  · intro l7_2 l5_2 l2_2 h1 h2
    intro n hn hz hcl c hc
    exact ⟨Or.inl, fun y => y.elim id (fun ⟨u, z, _⟩ => by have z2 := z.2; rw [hz (u % 64) (by have := Nat.mod_lt u (show 64 > 0 by decide); omega)] at z2; cases z2)⟩
  · intro l7_2 l5_2 l2_2 h1 h2 h3
    intro n hn hz hcl c hc
    exact ⟨Or.inl, fun y => y.elim id (fun ⟨u, z, _⟩ => by have z2 := z.2; rw [h3] at z2; simp at z2)⟩
  · intro l7_2 l5_2 l2_2 x1 x2 x3 x4 x5 x6 x7 x8 x9 k e1 h1 h2 h3 h4 h5 h6 h7 h8 h9 h10 h11 h12 h13 h14 ih
    intro n hn hz hcl
    obtain ⟨z, z1, z2, z3, z4⟩ := lw_tr h3 h6
    have zn : n ≤ z := by
      by_cases c : z < n
      · rw [hz z c] at z3; cases z3
      · omega
    have cl := bit_neg1 h9 h10 z1 z3 z4
    have hz' : ∀ i, i < n + 1 → x6.toBitVec.getLsbD i = false := fun i hi => by
      rw [cl i (by omega)]
      by_cases c : i = z
      · simp [c]
      · rw [z4 i (by omega), Bool.false_and]
    have e3 : x3.toNatClampNeg = 64 * w + z := nnE (by omega)
    rw [e3] at h8
    have bq : ∀ u, u / 64 = w → (x6.toBitVec.getLsbD (u % 64) = true ↔ l5_2.toBitVec.getLsbD (u % 64) = true ∧ u ≠ 64 * w + z) := fun u hu => by
      rw [cl (u % 64) (Nat.mod_lt _ (by decide)), Bool.and_eq_true, decide_eq_true_iff]
      exact ⟨fun a => ⟨a.1, fun c => a.2 (by omega)⟩, fun a => ⟨a.1, fun c => a.2 (by omega)⟩⟩
    have i1 := ih (n + 1) (by omega) hz' (fun u a1 a2 => hcl u a1 ((bq u a1).mp a2).1)
    intro c hc
    rw [i1 c hc, bit_or h13, Bool.or_eq_true]
    have hb := hcl (64 * w + z) (by omega) (by rw [show (64 * w + z) % 64 = z by omega]; exact z3)
    rw [← h8] at hb
    have em : x4.toInt = ((x4.toInt.toNat : Nat) : Int) := (Int.toNat_of_nonneg (by omega)).symm
    rw [lb_shlM h12 em c hc, decide_eq_true_iff]
    constructor
    · rintro ((k | k) | ⟨u, ⟨k1, k2⟩, k3⟩)
      · exact Or.inl k
      · exact Or.inr ⟨64 * w + z, ⟨by omega, by rw [show (64 * w + z) % 64 = z by omega]; exact z3⟩, by rw [← h8]; omega⟩
      · exact Or.inr ⟨u, ⟨k1, ((bq u k1).mp k2).1⟩, k3⟩
    · rintro (k | ⟨u, ⟨k1, k2⟩, k3⟩)
      · exact Or.inl (Or.inl k)
      · by_cases d : u = 64 * w + z
        · rw [d, ← h8] at k3
          exact Or.inl (Or.inr (by omega))
        · exact Or.inr ⟨u, ⟨k1, (bq u k1).mpr ⟨k2, d⟩⟩, k3⟩
  · intro l7_2 l5_2 l2_2 x1 x2 x3 x4 x5 x6 x7 x8 k e1 h1 h2 h3 h4 h5 h6 h7 h8 h9 h10 h11 h12 h13 ih
    intro n hn hz hcl
    obtain ⟨z, z1, z2, z3, z4⟩ := lw_tr h3 h6
    have zn : n ≤ z := by
      by_cases c : z < n
      · rw [hz z c] at z3; cases z3
      · omega
    have cl := bit_neg1 h9 h10 z1 z3 z4
    have hz' : ∀ i, i < n + 1 → x6.toBitVec.getLsbD i = false := fun i hi => by
      rw [cl i (by omega)]
      by_cases c : i = z
      · simp [c]
      · rw [z4 i (by omega), Bool.false_and]
    have e3 : x3.toNatClampNeg = 64 * w + z := nnE (by omega)
    rw [e3] at h8
    have bq : ∀ u, u / 64 = w → (x6.toBitVec.getLsbD (u % 64) = true ↔ l5_2.toBitVec.getLsbD (u % 64) = true ∧ u ≠ 64 * w + z) := fun u hu => by
      rw [cl (u % 64) (Nat.mod_lt _ (by decide)), Bool.and_eq_true, decide_eq_true_iff]
      exact ⟨fun a => ⟨a.1, fun c => a.2 (by omega)⟩, fun a => ⟨a.1, fun c => a.2 (by omega)⟩⟩
    have i1 := ih (n + 1) (by omega) hz' (fun u a1 a2 => hcl u a1 ((bq u a1).mp a2).1)
    intro c hc
    rw [i1 c hc, bit_or h12, Bool.or_eq_true]
    have zz : (0 : Int64).toBitVec.getLsbD c = false := by simp
    rw [zz]
    constructor
    · rintro ((k | k) | ⟨u, ⟨k1, k2⟩, k3⟩)
      · exact Or.inl k
      · cases k
      · exact Or.inr ⟨u, ⟨k1, ((bq u k1).mp k2).1⟩, k3⟩
    · rintro (k | ⟨u, ⟨k1, k2⟩, k3⟩)
      · exact Or.inl (Or.inl k)
      · by_cases d : u = 64 * w + z
        · rw [d, ← h8] at k3
          omega
        · exact Or.inr ⟨u, ⟨k1, (bq u k1).mpr ⟨k2, d⟩⟩, k3⟩
theorem ca5_tl {Graph_words : Int32} {a1 : Int32} {Graph_joined : Nat → Int64} {Colouring_colour : Nat → Int32} {s1 : Int32} {s2 : Int64} {k : Nat} {e1 : Int64} {nam : Int32} {sd : Nat → Int64} {dg : Nat → Int32} (hg : gfC Q Nm W nam Graph_words Graph_joined sd dg) (hv : a1.toInt = (v : Int)) (hv2 : v < Nm) (hcl : ∀ u, JJ Q v u → -1 ≤ (Colouring_colour u).toInt ∧ (Colouring_colour u).toInt < 64) (h : tl_Colouring_coloursAround_5 Graph_words a1 Graph_joined Colouring_colour s1 s2 k e1) : ∀ m : Nat, s1.toInt = (m : Int) → m ≤ W → ∀ c : Nat, c < 64 → (e1.toBitVec.getLsbD c = true ↔ s2.toBitVec.getLsbD c = true ∨ ∃ u, (m ≤ u / 64 ∧ JJ Q v u) ∧ (Colouring_colour u).toInt = (c : Int)) := by
  obtain ⟨-, gW, gN, gW2, gn, gJ, -, gd⟩ := hg
  refine h (fun s1 s2 _ e1 => ∀ m : Nat, s1.toInt = (m : Int) → m ≤ W → ∀ c : Nat, c < 64 → (e1.toBitVec.getLsbD c = true ↔ s2.toBitVec.getLsbD c = true ∨ ∃ u, (m ≤ u / 64 ∧ JJ Q v u) ∧ (Colouring_colour u).toInt = (c : Int))) ?_ ?_
  · intro l4_1 l2_1 h1 h2
    intro m hm hmW c hc
    refine ⟨Or.inl, fun z => z.elim id (fun ⟨u, y, _⟩ => ?_)⟩
    have := (JJ_nn gn y.2).2
    omega
  · intro l4_1 l2_1 x1 x2 x3 x4 x5 k e1 h1 h2 h3 h4 h5 h6 h7 ih
    intro m hm hmW
    have ep : x1.toInt = ((v * W : Nat) : Int) := by rw [h3, hv, gW]; exact (Int.natCast_mul _ _).symm
    have ei : x2.toNatClampNeg = v * W + m := nnE (by omega)
    rw [ei] at h5
    have bv : ∀ q, q / 64 = m → (x3.toBitVec.getLsbD (q % 64) = true ↔ JJ Q v q) := fun q hq => by
      rw [← gJ v q hv2 (by omega)]
      unfold gbit
      rw [h5, show (64 * (v * W) + q) / 64 = v * W + m by omega, show (64 * (v * W) + q) % 64 = q % 64 by omega]
    have st := ca42_tl hm (by omega) h6 0 (by decide) (fun i hi => absurd hi (Nat.not_lt_zero i)) (fun u a1 a2 => hcl u ((bv u a1).mp a2))
    intro c hc
    rw [ih (m + 1) (by omega) (by omega) c hc, st c hc]
    constructor
    · rintro ((k | ⟨u, ⟨k1, k2⟩, k3⟩) | ⟨u, ⟨k1, k2⟩, k3⟩)
      · exact Or.inl k
      · exact Or.inr ⟨u, ⟨by omega, (bv u k1).mp k2⟩, k3⟩
      · exact Or.inr ⟨u, ⟨by omega, k2⟩, k3⟩
    · rintro (k | ⟨u, ⟨k1, k2⟩, k3⟩)
      · exact Or.inl (Or.inl k)
      · by_cases d : u / 64 = m
        · exact Or.inl (Or.inr ⟨u, ⟨d, (bv u d).mpr k2⟩, k3⟩)
        · exact Or.inr ⟨u, ⟨by omega, k2⟩, k3⟩
theorem car_tr {a1 : Int32} {Graph_words : Int32} {Colouring_colour : Nat → Int32} {Graph_joined : Nat → Int64} {o1 : Int64} {nam : Int32} {sd : Nat → Int64} {dg : Nat → Int32} (hg : gfC Q Nm W nam Graph_words Graph_joined sd dg) (hv : a1.toInt = (v : Int)) (hv2 : v < Nm) (hcl : ∀ u, JJ Q v u → -1 ≤ (Colouring_colour u).toInt ∧ (Colouring_colour u).toInt < 64) (h : tr_Colouring_coloursAround a1 Graph_words Colouring_colour Graph_joined o1) : ∀ c : Nat, c < 64 → (o1.toBitVec.getLsbD c = true ↔ ∃ u, JJ Q v u ∧ (Colouring_colour u).toInt = (c : Int)) := by
  refine h (fun o1 => ∀ c : Nat, c < 64 → (o1.toBitVec.getLsbD c = true ↔ ∃ u, JJ Q v u ∧ (Colouring_colour u).toInt = (c : Int))) ?_
  · intro x1 h1
    intro c hc
    rw [ca5_tl hg hv hv2 hcl h1 0 (by decide) (Nat.zero_le _) c hc]
    have zz : (0 : Int64).toBitVec.getLsbD c = false := by simp
    rw [zz]
    exact ⟨fun z => z.elim (fun y => (nomatch y)) (fun ⟨u, y, x⟩ => ⟨u, y.2, x⟩), fun ⟨u, y, x⟩ => Or.inr ⟨u, ⟨Nat.zero_le _, y⟩, x⟩⟩
theorem pt17_tl {Colouring_pile : Nat → Int32} {Graph_words : Int32} {Graph_joined : Nat → Int64} {a1 : Int32} {s1 : Int32} {s2 : Int32} {s3 : Nat → Int32} {k : Nat} {e1 : Int32} {e2 : Nat → Int32} {nam : Int32} {sd : Nat → Int64} {dg : Nat → Int32} {n : Nat} {p : Nat → Nat} (hg : gfC Q Nm W nam Graph_words Graph_joined sd dg) (hN : Nm ≤ 720) (hk : 0 ≤ a1.toInt) (hk2 : a1.toInt ≤ 32) (hp : ∀ i, i < n → (Colouring_pile i).toInt = (p i : Int) ∧ p i < Nm) (h : tl_Colouring_putTogether_17 Colouring_pile Graph_words Graph_joined a1 s1 s2 s3 k e1 e2) : ∀ t : Nat, t ≤ n → s1.toInt = (n : Int) - 1 - (t : Int) → (∀ u, u < 720 → (s3 u).toInt = clN (JJ Q) a1.toInt p n t u) → (s2.toInt ≠ 0 ↔ ¬ bdN (JJ Q) a1.toInt p n t) → (∀ u, u < 720 → (e2 u).toInt = clN (JJ Q) a1.toInt p n n u) ∧ (e1.toInt ≠ 0 ↔ ¬ bdN (JJ Q) a1.toInt p n n) := by
  refine h (fun s1 s2 s3 _ e1 e2 => ∀ t : Nat, t ≤ n → s1.toInt = (n : Int) - 1 - (t : Int) → (∀ u, u < 720 → (s3 u).toInt = clN (JJ Q) a1.toInt p n t u) → (s2.toInt ≠ 0 ↔ ¬ bdN (JJ Q) a1.toInt p n t) → (∀ u, u < 720 → (e2 u).toInt = clN (JJ Q) a1.toInt p n n u) ∧ (e1.toInt ≠ 0 ↔ ¬ bdN (JJ Q) a1.toInt p n n)) ?_ ?_ ?_
  · intro l3_1 l2_1 Colouring_colour_1 h1 h2 h3
    intro t ht hs h1 h2
    have e : t = n := by omega
    rw [e] at h1 h2
    exact ⟨h1, h2⟩
  · intro l3_1 l2_1 Colouring_colour_1 x1 x2 x3 x4 x5 k e1 e2 h1 h2 h3 h4 h5 h6 h7 h8 h9 h10 h11 ih
    intro t ht hs h1 h2
    have htn : t < n := by omega
    have e1 : l3_1.toNatClampNeg = n - 1 - t := nnE (by omega)
    rw [e1] at h4
    obtain ⟨p1, p2⟩ := hp (n - 1 - t) (by omega)
    rw [← h4] at p1
    have JN : ∀ u, JJ Q (p (n - 1 - t)) u → u < 720 := fun u hu => by
      have := (JJ_nn hg.2.2.2.2.1 hu).2
      omega
    have cb : ∀ u, JJ Q (p (n - 1 - t)) u → -1 ≤ (Colouring_colour_1 u).toInt ∧ (Colouring_colour_1 u).toInt < 64 := fun u hu => by
      have q := clN_b (J := JJ Q) (p := p) (n := n) hk t u
      rw [h1 u (JN u hu)]
      omega
    have ca := car_tr hg p1 p2 cb h6
    have top : x3.toBitVec.getLsbD 63 = true := by
      rw [bit_not h7 63 (by decide)]
      cases e : x2.toBitVec.getLsbD 63
      · rfl
      · obtain ⟨u, k1, k2⟩ := (ca 63 (by decide)).mp e
        have q := clN_b (J := JJ Q) (p := p) (n := n) hk t u
        rw [← h1 u (JN u k1), k2] at q
        omega
    have hx3 : ¬ x3 = 0 := fun e => by rw [e] at top; simp at top
    obtain ⟨z, z1, z2, z3, z4⟩ := lw_tr hx3 h9
    have lc : lcl (JJ Q) (clN (JJ Q) a1.toInt p n t) (p (n - 1 - t)) = z := by
      refine lcl_e ⟨fun u k1 k2 => ?_, fun d hd => ?_⟩
      · have q : x2.toBitVec.getLsbD z = true := (ca z z1).mpr ⟨u, k1, by rw [h1 u (JN u k1)]; exact k2⟩
        rw [bit_not h7 z z1, q] at z3
        cases z3
      · have q := z4 d hd
        rw [bit_not h7 d (by omega)] at q
        have q2 : x2.toBitVec.getLsbD d = true := by
          cases e : x2.toBitVec.getLsbD d
          · rw [e] at q; cases q
          · rfl
        obtain ⟨u, k1, k2⟩ := (ca d (by omega)).mp q2
        exact ⟨u, k1, by rw [← h1 u (JN u k1)]; exact k2⟩
    have bs : bdN (JJ Q) a1.toInt p n (t + 1) ↔ bdN (JJ Q) a1.toInt p n t ∨ a1.toInt ≤ (z : Int) := by
      constructor
      · rintro ⟨s, s1, s2⟩
        by_cases e : s = t
        · rw [e, lc] at s2; exact Or.inr s2
        · exact Or.inl ⟨s, by omega, s2⟩
      · rintro (⟨s, s1, s2⟩ | s2)
        · exact ⟨s, by omega, s2⟩
        · exact ⟨t, Nat.lt_succ_self t, by rw [lc]; exact s2⟩
    have cs : ∀ u, clN (JJ Q) a1.toInt p n (t + 1) u = @ite Int (u = p (n - 1 - t) ∧ (z : Int) < a1.toInt) (Classical.propDecidable _) (z : Int) (clN (JJ Q) a1.toInt p n t u) := fun u => by
      show @ite Int (u = p (n - 1 - t) ∧ (lcl (JJ Q) (clN (JJ Q) a1.toInt p n t) (p (n - 1 - t)) : Int) < a1.toInt) (Classical.propDecidable _) (lcl (JJ Q) (clN (JJ Q) a1.toInt p n t) (p (n - 1 - t)) : Int) (clN (JJ Q) a1.toInt p n t u) = _
      rw [lc]
    refine ih (t + 1) (by omega) (by omega) (fun u hu => ?_) ⟨fun y => absurd rfl y, fun y => absurd (bs.mpr (Or.inr (by omega))) y⟩
    rw [cs u, if_neg (fun y => by omega)]
    exact h1 u hu
  · intro l3_1 l2_1 Colouring_colour_1 x1 x2 x3 x4 x5 x6 k e1 e2 h1 h2 h3 h4 h5 h6 h7 h8 h9 h10 h11 h12 ih
    intro t ht hs h1 h2
    have htn : t < n := by omega
    have e1 : l3_1.toNatClampNeg = n - 1 - t := nnE (by omega)
    rw [e1] at h4
    obtain ⟨p1, p2⟩ := hp (n - 1 - t) (by omega)
    rw [← h4] at p1
    have JN : ∀ u, JJ Q (p (n - 1 - t)) u → u < 720 := fun u hu => by
      have := (JJ_nn hg.2.2.2.2.1 hu).2
      omega
    have cb : ∀ u, JJ Q (p (n - 1 - t)) u → -1 ≤ (Colouring_colour_1 u).toInt ∧ (Colouring_colour_1 u).toInt < 64 := fun u hu => by
      have q := clN_b (J := JJ Q) (p := p) (n := n) hk t u
      rw [h1 u (JN u hu)]
      omega
    have ca := car_tr hg p1 p2 cb h6
    have top : x3.toBitVec.getLsbD 63 = true := by
      rw [bit_not h7 63 (by decide)]
      cases e : x2.toBitVec.getLsbD 63
      · rfl
      · obtain ⟨u, k1, k2⟩ := (ca 63 (by decide)).mp e
        have q := clN_b (J := JJ Q) (p := p) (n := n) hk t u
        rw [← h1 u (JN u k1), k2] at q
        omega
    have hx3 : ¬ x3 = 0 := fun e => by rw [e] at top; simp at top
    obtain ⟨z, z1, z2, z3, z4⟩ := lw_tr hx3 h9
    have lc : lcl (JJ Q) (clN (JJ Q) a1.toInt p n t) (p (n - 1 - t)) = z := by
      refine lcl_e ⟨fun u k1 k2 => ?_, fun d hd => ?_⟩
      · have q : x2.toBitVec.getLsbD z = true := (ca z z1).mpr ⟨u, k1, by rw [h1 u (JN u k1)]; exact k2⟩
        rw [bit_not h7 z z1, q] at z3
        cases z3
      · have q := z4 d hd
        rw [bit_not h7 d (by omega)] at q
        have q2 : x2.toBitVec.getLsbD d = true := by
          cases e : x2.toBitVec.getLsbD d
          · rw [e] at q; cases q
          · rfl
        obtain ⟨u, k1, k2⟩ := (ca d (by omega)).mp q2
        exact ⟨u, k1, by rw [← h1 u (JN u k1)]; exact k2⟩
    have bs : bdN (JJ Q) a1.toInt p n (t + 1) ↔ bdN (JJ Q) a1.toInt p n t ∨ a1.toInt ≤ (z : Int) := by
      constructor
      · rintro ⟨s, s1, s2⟩
        by_cases e : s = t
        · rw [e, lc] at s2; exact Or.inr s2
        · exact Or.inl ⟨s, by omega, s2⟩
      · rintro (⟨s, s1, s2⟩ | s2)
        · exact ⟨s, by omega, s2⟩
        · exact ⟨t, Nat.lt_succ_self t, by rw [lc]; exact s2⟩
    have cs : ∀ u, clN (JJ Q) a1.toInt p n (t + 1) u = @ite Int (u = p (n - 1 - t) ∧ (z : Int) < a1.toInt) (Classical.propDecidable _) (z : Int) (clN (JJ Q) a1.toInt p n t u) := fun u => by
      show @ite Int (u = p (n - 1 - t) ∧ (lcl (JJ Q) (clN (JJ Q) a1.toInt p n t) (p (n - 1 - t)) : Int) < a1.toInt) (Classical.propDecidable _) (lcl (JJ Q) (clN (JJ Q) a1.toInt p n t) (p (n - 1 - t)) : Int) (clN (JJ Q) a1.toInt p n t u) = _
      rw [lc]
    refine ih (t + 1) (by omega) (by omega) (fun u hu => ?_) (h2.trans ⟨fun y w => y ((bs.mp w).elim id (fun e => by omega)), fun y w => y (bs.mpr (Or.inl w))⟩)
    rw [cs u, h11, nnE p1]
    by_cases c : u = p (n - 1 - t)
    · rw [if_pos ⟨c, by omega⟩, c, updE]; exact z2
    · rw [if_neg (fun y => c y.1), updN c]; exact h1 u hu
theorem ptg_tr {a1 : Int32} {Colouring_pileSize : Int32} {Graph_words : Int32} {Colouring_pile : Nat → Int32} {Colouring_colour : Nat → Int32} {Graph_joined : Nat → Int64} {o1 : Int32} {o2 : Nat → Int32} {nam : Int32} {sd : Nat → Int64} {dg : Nat → Int32} {n : Nat} {p : Nat → Nat} (hg : gfC Q Nm W nam Graph_words Graph_joined sd dg) (hN : Nm ≤ 720) (hk : 0 ≤ a1.toInt) (hk2 : a1.toInt ≤ 32) (hn : Colouring_pileSize.toInt = (n : Int)) (hp : ∀ i, i < n → (Colouring_pile i).toInt = (p i : Int) ∧ p i < Nm) (h : tr_Colouring_putTogether a1 Colouring_pileSize Graph_words Colouring_pile Colouring_colour Graph_joined o1 o2) : (∀ u, u < 720 → (o2 u).toInt = clN (JJ Q) a1.toInt p n n u) ∧ (o1.toInt ≠ 0 ↔ ¬ bdN (JJ Q) a1.toInt p n n) := by
  refine h (fun o1 o2 => (∀ u, u < 720 → (o2 u).toInt = clN (JJ Q) a1.toInt p n n u) ∧ (o1.toInt ≠ 0 ↔ ¬ bdN (JJ Q) a1.toInt p n n)) ?_
  · intro x1 x2 x3 x4 h1 h2 h3
    have fl := fz4_tr h1
    have r := pt17_tl hg hN hk hk2 hp h3 0 (Nat.zero_le _) (by omega) (fun u hu => by rw [fl u hu]; rfl) ⟨fun _ z => z.elim (fun s y => absurd y.1 (Nat.not_lt_zero s)), fun _ => by decide⟩
    exact r
end COC
end
section
/-! giving out, over programs: slots, loads and stores, the rounds -/
section SPL
variable {so : Nat → Int} {x : Int} {l : Nat → Int} {Q R : gPg} {nm b j v n : Nat}
/-- the slot of x, or -1 -/
def slf (so : Nat → Int) (x : Int) : Int := if 0 ≤ x ∧ x < 100 then so x.toNat else -1
abbrev gSp6 := gPg × Nat
variable {s t : gSp6}
def ldN (so : Nat → Int) (x : Int) (s : gSp6) : gSp6 := if slf so x = -1 then s else (pgL s.1 (mkL 17 (s.2 : Int) (-1) 0 (-1) (slf so x)), s.2 + 1)
def ldV (so : Nat → Int) (x : Int) (nm : Nat) : Int := if slf so x = -1 then x else (nm : Int)
def spR (so : Nat → Int) (l : Nat → Int) (s : gSp6) : gSp6 := if l 4 = l 2 then ldN so (l 2) s else ldN so (l 4) (ldN so (l 2) s)
def spV (so : Nat → Int) (l : Nat → Int) (s : gSp6) : Int := if l 4 = l 2 then ldV so (l 2) s.2 else ldV so (l 4) (ldN so (l 2) s).2
def spW (so : Nat → Int) (l : Nat → Int) (a c : Int) (s : gSp6) : gSp6 :=
  if slf so (l 1) = -1 then (pgL s.1 (mkL (l 0) (l 1) a (l 3) c (l 5)), s.2)
  else (pgL (pgL s.1 (mkL (l 0) (s.2 : Int) a (l 3) c (l 5))) (mkL 18 (-1) (s.2 : Int) 0 (-1) (slf so (l 1))), s.2 + 1)
def spLn (so : Nat → Int) (l : Nat → Int) (s : gSp6) : gSp6 := spW so l (ldV so (l 2) s.2) (spV so l s) (spR so l s)
def spB (so : Nat → Int) (ls : Nat → Nat → Int) : Nat → gSp6 → gSp6
  | 0, s => s
  | j + 1, s => spLn so (ls j) (spB so ls j s)
def spP (so : Nat → Int) (Q : gPg) (nm : Nat) : Nat → gSp6
  | 0 => (pgO, nm)
  | b + 1 => spB so (Q.2.2.1 b) (Q.2.1 b) (pgOL Q (spP so Q nm b).1, (spP so Q nm b).2)
/-- registers named in a line, in a program -/
def oc1 (x : Int) : Nat := if 0 ≤ x ∧ x < 100 then 1 else 0
def occ (l : Nat → Int) : Nat := oc1 (l 1) + oc1 (l 2) + oc1 (l 4)
def osm (Q : gPg) : Nat := fsm (fun b => fsm (fun j => occ (Q.2.2.1 b j)) (Q.2.1 b)) Q.1
def lsm (Q : gPg) : Nat := fsm Q.2.1 Q.1
theorem oc1_h (h : 100 ≤ x) : oc1 x = 0 := if_neg (by omega)
theorem oc1_n : oc1 (-1) = 0 := by decide
theorem oc1_le : oc1 x ≤ 1 := by unfold oc1; split <;> omega
theorem oc1_s (h : ¬ slf so x = -1) : oc1 x = 1 := by
  unfold slf at h
  unfold oc1
  by_cases c : 0 ≤ x ∧ x < 100
  · rw [if_pos c]
  · rw [if_neg c] at h; exact absurd rfl h
theorem occ_mk {a c d e f g : Int} : occ (mkL a c d e f g) = oc1 c + oc1 d + oc1 f := rfl
theorem lsm_L (h : 0 < Q.1) : lsm (pgL Q l) = lsm Q + 1 := pgL_s h
theorem osm_L (h : 0 < Q.1) : osm (pgL Q l) = osm Q + occ l := by
  obtain ⟨m, em⟩ : ∃ m, Q.1 = m + 1 := ⟨Q.1 - 1, by omega⟩
  unfold osm
  show fsm (fun b => fsm (fun j => occ (if b + 1 = Q.1 ∧ j = Q.2.1 b then l else Q.2.2.1 b j)) (if b + 1 = Q.1 then Q.2.1 b + 1 else Q.2.1 b)) Q.1 = _
  rw [em]
  show fsm (fun b => fsm (fun j => occ (if b + 1 = m + 1 ∧ j = Q.2.1 b then l else Q.2.2.1 b j)) (if b + 1 = m + 1 then Q.2.1 b + 1 else Q.2.1 b)) m + fsm (fun j => occ (if m + 1 = m + 1 ∧ j = Q.2.1 m then l else Q.2.2.1 m j)) (if m + 1 = m + 1 then Q.2.1 m + 1 else Q.2.1 m) = fsm (fun b => fsm (fun j => occ (Q.2.2.1 b j)) (Q.2.1 b)) m + fsm (fun j => occ (Q.2.2.1 m j)) (Q.2.1 m) + occ l
  rw [if_pos rfl]
  have e1 : fsm (fun b => fsm (fun j => occ (if b + 1 = m + 1 ∧ j = Q.2.1 b then l else Q.2.2.1 b j)) (if b + 1 = m + 1 then Q.2.1 b + 1 else Q.2.1 b)) m = fsm (fun b => fsm (fun j => occ (Q.2.2.1 b j)) (Q.2.1 b)) m := by
    refine fsm_c (fun c hc => ?_)
    rw [if_neg (show ¬ c + 1 = m + 1 by omega)]
    exact fsm_c (fun j hj => by rw [if_neg (fun z => by omega)])
  have e2 : fsm (fun j => occ (if m + 1 = m + 1 ∧ j = Q.2.1 m then l else Q.2.2.1 m j)) (Q.2.1 m + 1) = fsm (fun j => occ (Q.2.2.1 m j)) (Q.2.1 m) + occ l := by
    show fsm (fun j => occ (if m + 1 = m + 1 ∧ j = Q.2.1 m then l else Q.2.2.1 m j)) (Q.2.1 m) + occ (if m + 1 = m + 1 ∧ Q.2.1 m = Q.2.1 m then l else Q.2.2.1 m (Q.2.1 m)) = _
    rw [if_pos ⟨rfl, rfl⟩]
    congr 1
    exact fsm_c (fun j hj => by rw [if_neg (fun z => by omega)])
  rw [e1, e2]
  omega
theorem lsm_OL : lsm (pgOL Q R) = lsm R := by
  unfold lsm
  show fsm (fun b => if b = R.1 then 0 else R.2.1 b) R.1 + (if R.1 = R.1 then 0 else R.2.1 R.1) = _
  rw [if_pos rfl, Nat.add_zero]
  exact fsm_c (fun c hc => if_neg (by omega))
theorem osm_OL : osm (pgOL Q R) = osm R := by
  unfold osm
  show fsm (fun b => fsm (fun j => occ (R.2.2.1 b j)) (if b = R.1 then 0 else R.2.1 b)) R.1 + fsm (fun j => occ (R.2.2.1 R.1 j)) (if R.1 = R.1 then 0 else R.2.1 R.1) = _
  rw [if_pos rfl]
  show fsm (fun b => fsm (fun j => occ (R.2.2.1 b j)) (if b = R.1 then 0 else R.2.1 b)) R.1 + 0 = _
  rw [Nat.add_zero]
  exact fsm_c (fun c hc => by rw [if_neg (show ¬ c = R.1 by omega)])
/-- what a step may do: blocks stay, names and lines grow, and no more than its line's places allow -/
def spK (c : Nat) (d : Nat) (s t : gSp6) : Prop := t.1.1 = s.1.1 ∧ s.2 ≤ t.2 ∧ lsm s.1 ≤ lsm t.1 ∧ t.2 + osm t.1 ≤ s.2 + osm s.1 + c ∧ lsm t.1 + osm t.1 ≤ lsm s.1 + osm s.1 + c + d
theorem spK_0 : spK 0 0 s s := ⟨rfl, Nat.le_refl _, Nat.le_refl _, Nat.le_refl _, Nat.le_refl _⟩
theorem spK_t {u : gSp6} {c d c1 d1 : Nat} (h : spK c d s t) (h2 : spK c1 d1 t u) : spK (c + c1) (d + d1) s u := by
  obtain ⟨a1, a2, a3, a4, a5⟩ := h
  obtain ⟨b1, b2, b3, b4, b5⟩ := h2
  exact ⟨b1.trans a1, by omega, by omega, by omega, by omega⟩
theorem spK_m {c d c1 d1 : Nat} (h : spK c d s t) (hc : c ≤ c1) (hd : d ≤ d1) : spK c1 d1 s t := by
  obtain ⟨a1, a2, a3, a4, a5⟩ := h
  exact ⟨a1, a2, a3, by omega, by omega⟩
theorem ldN_k (h0 : 0 < s.1.1) (h1 : 100 ≤ s.2) : spK (if slf so x = -1 then 0 else 1) 0 s (ldN so x s) := by
  unfold ldN
  by_cases c : slf so x = -1
  · rw [if_pos c, if_pos c]; exact spK_0
  · rw [if_neg c, if_neg c]
    have e1 : lsm (pgL s.1 (mkL 17 (s.2 : Int) (-1) 0 (-1) (slf so x))) = lsm s.1 + 1 := lsm_L h0
    have e2 : osm (pgL s.1 (mkL 17 (s.2 : Int) (-1) 0 (-1) (slf so x))) = osm s.1 := by
      rw [osm_L h0, occ_mk, oc1_h (show (100 : Int) ≤ (s.2 : Int) by omega), oc1_n]
      rfl
    exact ⟨rfl, Nat.le_succ _, by show lsm s.1 ≤ lsm (pgL s.1 _); omega, by show s.2 + 1 + osm (pgL s.1 _) ≤ _; omega, by show lsm (pgL s.1 _) + osm (pgL s.1 _) ≤ _; omega⟩
theorem ldN_1 (h0 : 0 < s.1.1) : 0 < (ldN so x s).1.1 := by
  unfold ldN
  split
  · exact h0
  · exact h0
theorem ldN_2 (h1 : 100 ≤ s.2) : 100 ≤ (ldN so x s).2 := by
  unfold ldN
  split
  · exact h1
  · show 100 ≤ s.2 + 1; omega
theorem ldV_o (hn : 100 ≤ nm) : oc1 (ldV so x nm) + (if slf so x = -1 then 0 else 1) = oc1 x := by
  unfold ldV
  by_cases c : slf so x = -1
  · rw [if_pos c, if_pos c, Nat.add_zero]
  · rw [if_neg c, if_neg c, oc1_h (by omega), oc1_s c]
theorem spR_1 (h0 : 0 < s.1.1) : 0 < (spR so l s).1.1 := by
  unfold spR
  split
  · exact ldN_1 h0
  · exact ldN_1 (ldN_1 h0)
theorem spR_2 (h1 : 100 ≤ s.2) : 100 ≤ (spR so l s).2 := by
  unfold spR
  split
  · exact ldN_2 h1
  · exact ldN_2 (ldN_2 h1)
theorem spW_k {a c : Int} (h0 : 0 < s.1.1) (h1 : 100 ≤ s.2) : spK (oc1 (l 1) + oc1 a + oc1 c) 1 s (spW so l a c s) := by
  unfold spW
  by_cases q : slf so (l 1) = -1
  · rw [if_pos q]
    have e1 : lsm (pgL s.1 (mkL (l 0) (l 1) a (l 3) c (l 5))) = lsm s.1 + 1 := lsm_L h0
    have e2 : osm (pgL s.1 (mkL (l 0) (l 1) a (l 3) c (l 5))) = osm s.1 + (oc1 (l 1) + oc1 a + oc1 c) := osm_L h0
    exact ⟨rfl, Nat.le_refl _, by show lsm s.1 ≤ lsm (pgL s.1 _); omega, by show s.2 + osm (pgL s.1 _) ≤ _; omega, by show lsm (pgL s.1 _) + osm (pgL s.1 _) ≤ _; omega⟩
  · rw [if_neg q]
    have o1 := oc1_s q
    have h2 : oc1 (s.2 : Int) = 0 := oc1_h (by omega)
    have e1 : lsm (pgL (pgL s.1 (mkL (l 0) (s.2 : Int) a (l 3) c (l 5))) (mkL 18 (-1) (s.2 : Int) 0 (-1) (slf so (l 1)))) = lsm s.1 + 2 := by rw [lsm_L (show 0 < (pgL s.1 _).1 from h0), lsm_L h0]
    have e2 : osm (pgL (pgL s.1 (mkL (l 0) (s.2 : Int) a (l 3) c (l 5))) (mkL 18 (-1) (s.2 : Int) 0 (-1) (slf so (l 1)))) = osm s.1 + (oc1 a + oc1 c) := by
      rw [osm_L (show 0 < (pgL s.1 _).1 from h0), osm_L h0, occ_mk, occ_mk, h2, oc1_n]
      omega
    exact ⟨rfl, Nat.le_succ _, by show lsm s.1 ≤ lsm (pgL (pgL s.1 _) _); omega, by show s.2 + 1 + osm (pgL (pgL s.1 _) _) ≤ _; omega, by show lsm (pgL (pgL s.1 _) _) + osm (pgL (pgL s.1 _) _) ≤ _; omega⟩
theorem spLn_k (h0 : 0 < s.1.1) (h1 : 100 ≤ s.2) : spK (occ l) 1 s (spLn so l s) := by
  unfold spLn
  have w := spW_k (so := so) (l := l) (a := ldV so (l 2) s.2) (c := spV so l s) (spR_1 (so := so) (l := l) h0) (spR_2 h1)
  have r : spK ((if slf so (l 2) = -1 then 0 else 1) + (if l 4 = l 2 then 0 else if slf so (l 4) = -1 then 0 else 1)) 0 s (spR so l s) := by
    unfold spR
    by_cases c : l 4 = l 2
    · rw [if_pos c, if_pos c]; exact ldN_k h0 h1
    · rw [if_neg c, if_neg c]; exact spK_t (ldN_k h0 h1) (ldN_k (ldN_1 h0) (ldN_2 h1))
  have e2 := ldV_o (so := so) (x := l 2) h1
  have e4 : oc1 (spV so l s) + (if l 4 = l 2 then 0 else if slf so (l 4) = -1 then 0 else 1) ≤ oc1 (l 4) := by
    unfold spV
    by_cases c : l 4 = l 2
    · rw [if_pos c, if_pos c, c]; omega
    · rw [if_neg c, if_neg c]
      have := ldV_o (so := so) (x := l 4) (ldN_2 (so := so) (x := l 2) h1)
      omega
  refine spK_m (spK_t r w) ?_ (by omega)
  unfold occ
  omega
theorem spLn_1 (h0 : 0 < s.1.1) (h1 : 100 ≤ s.2) : 0 < (spLn so l s).1.1 ∧ 100 ≤ (spLn so l s).2 := by
  have q := spLn_k (so := so) (l := l) h0 h1
  exact ⟨by rw [q.1]; exact h0, Nat.le_trans h1 q.2.1⟩
theorem spB_k {ls : Nat → Nat → Int} (h0 : 0 < s.1.1) (h1 : 100 ≤ s.2) : ∀ m, spK (fsm (fun j => occ (ls j)) m) m s (spB so ls m s) ∧ 0 < (spB so ls m s).1.1 ∧ 100 ≤ (spB so ls m s).2
  | 0 => ⟨spK_0, h0, h1⟩
  | m + 1 => by
    obtain ⟨i1, i2, i3⟩ := spB_k (ls := ls) h0 h1 m
    exact ⟨spK_t i1 (spLn_k i2 i3), spLn_1 i2 i3⟩
theorem spB_m {ls : Nat → Nat → Int} (h0 : 0 < s.1.1) (h1 : 100 ≤ s.2) : ∀ d m, (spB so ls m s).2 ≤ (spB so ls (m + d) s).2 ∧ lsm (spB so ls m s).1 ≤ lsm (spB so ls (m + d) s).1
  | 0, _ => ⟨Nat.le_refl _, Nat.le_refl _⟩
  | d + 1, m => by
    have i := spB_m (ls := ls) h0 h1 d m
    obtain ⟨-, i2, i3⟩ := spB_k (so := so) (ls := ls) h0 h1 (m + d)
    have q := spLn_k (so := so) (l := ls (m + d)) i2 i3
    exact ⟨Nat.le_trans i.1 q.2.1, Nat.le_trans i.2 q.2.2.1⟩
theorem spP_k (h1 : 100 ≤ nm) : ∀ b, (spP so Q nm b).1.1 = b ∧ 100 ≤ (spP so Q nm b).2 ∧ (spP so Q nm b).2 + osm (spP so Q nm b).1 ≤ nm + fsm (fun b => fsm (fun j => occ (Q.2.2.1 b j)) (Q.2.1 b)) b ∧ lsm (spP so Q nm b).1 + osm (spP so Q nm b).1 ≤ fsm Q.2.1 b + fsm (fun b => fsm (fun j => occ (Q.2.2.1 b j)) (Q.2.1 b)) b
  | 0 => ⟨rfl, h1, Nat.le_refl _, Nat.le_refl _⟩
  | b + 1 => by
    obtain ⟨i1, i2, i3, i4⟩ := spP_k h1 b
    have q := spB_k (so := so) (ls := Q.2.2.1 b) (s := (pgOL Q (spP so Q nm b).1, (spP so Q nm b).2)) (Nat.succ_pos _) i2 (Q.2.1 b)
    obtain ⟨⟨k1, k2, k3, k4, k5⟩, -, k7⟩ := q
    have e1 : lsm (pgOL Q (spP so Q nm b).1) = lsm (spP so Q nm b).1 := lsm_OL
    have e2 : osm (pgOL Q (spP so Q nm b).1) = osm (spP so Q nm b).1 := osm_OL
    have k4' : (spP so Q nm (b + 1)).2 + osm (spP so Q nm (b + 1)).1 ≤ (spP so Q nm b).2 + osm (pgOL Q (spP so Q nm b).1) + fsm (fun j => occ (Q.2.2.1 b j)) (Q.2.1 b) := k4
    have k5' : lsm (spP so Q nm (b + 1)).1 + osm (spP so Q nm (b + 1)).1 ≤ lsm (pgOL Q (spP so Q nm b).1) + osm (pgOL Q (spP so Q nm b).1) + fsm (fun j => occ (Q.2.2.1 b j)) (Q.2.1 b) + Q.2.1 b := k5
    refine ⟨?_, k7, ?_, ?_⟩
    · show (spB so (Q.2.2.1 b) (Q.2.1 b) (pgOL Q (spP so Q nm b).1, (spP so Q nm b).2)).1.1 = b + 1
      rw [k1]
      show (spP so Q nm b).1.1 + 1 = b + 1
      rw [i1]
    · show _ ≤ nm + (fsm (fun b => fsm (fun j => occ (Q.2.2.1 b j)) (Q.2.1 b)) b + fsm (fun j => occ (Q.2.2.1 b j)) (Q.2.1 b))
      omega
    · show _ ≤ fsm Q.2.1 b + Q.2.1 b + (fsm (fun b => fsm (fun j => occ (Q.2.2.1 b j)) (Q.2.1 b)) b + fsm (fun j => occ (Q.2.2.1 b j)) (Q.2.1 b))
      omega
theorem spP_m (h1 : 100 ≤ nm) : ∀ d b, (spP so Q nm b).2 ≤ (spP so Q nm (b + d)).2 ∧ lsm (spP so Q nm b).1 ≤ lsm (spP so Q nm (b + d)).1
  | 0, _ => ⟨Nat.le_refl _, Nat.le_refl _⟩
  | d + 1, b => by
    have i := spP_m h1 d b
    obtain ⟨-, i2, -, -⟩ := spP_k (so := so) (Q := Q) h1 (b + d)
    have q := (spB_k (so := so) (ls := Q.2.2.1 (b + d)) (s := (pgOL Q (spP so Q nm (b + d)).1, (spP so Q nm (b + d)).2)) (Nat.succ_pos _) i2 (Q.2.1 (b + d))).1
    have e1 : lsm (pgOL Q (spP so Q nm (b + d)).1) = lsm (spP so Q nm (b + d)).1 := lsm_OL
    have q3 : lsm (pgOL Q (spP so Q nm (b + d)).1) ≤ lsm (spP so Q nm (b + d + 1)).1 := q.2.2.1
    exact ⟨Nat.le_trans i.1 q.2.1, by rw [e1] at q3; exact Nat.le_trans i.2 q3⟩
/-- what every line of a program that is being put together keeps -/
def allL (C : (Nat → Int) → Nat → Prop) (s : gSp6) : Prop := ∀ b j, b < s.1.1 → j < s.1.2.1 b → C (s.1.2.2.1 b j) s.2
theorem allL_L {C : (Nat → Int) → Nat → Prop} {m : Nat} (hm : ∀ l a c, a ≤ c → C l a → C l c) (h : allL C s) (h2 : s.2 ≤ m) (hl : C l m) : allL C (pgL s.1 l, m) := fun b j hb hj => by
  have hj2 : j < if b + 1 = s.1.1 then s.1.2.1 b + 1 else s.1.2.1 b := hj
  show C (if b + 1 = s.1.1 ∧ j = s.1.2.1 b then l else s.1.2.2.1 b j) m
  by_cases c : b + 1 = s.1.1 ∧ j = s.1.2.1 b
  · rw [if_pos c]; exact hl
  · rw [if_neg c]
    refine hm _ _ _ h2 (h b j hb ?_)
    by_cases d : b + 1 = s.1.1
    · rw [if_pos d] at hj2
      have : j ≠ s.1.2.1 b := fun e => c ⟨d, e⟩
      omega
    · rw [if_neg d] at hj2; exact hj2
theorem allL_OL {C : (Nat → Int) → Nat → Prop} (h : allL C s) : allL C (pgOL Q s.1, s.2) := fun b j hb hj => by
  have hb2 : b < s.1.1 + 1 := hb
  have hj2 : j < if b = s.1.1 then 0 else s.1.2.1 b := hj
  by_cases c : b = s.1.1
  · rw [if_pos c] at hj2; exact absurd hj2 (Nat.not_lt_zero j)
  · rw [if_neg c] at hj2; exact h b j (by omega) hj2
/-- a line's names behind the loads and stores: below m, and if below 100, without a slot and named in Q -/
def nwL6 (so : Nat → Int) (X : Nat → Prop) (l : Nat → Int) (m : Nat) : Prop := ∀ f, f = 1 ∨ f = 2 ∨ f = 4 → l f < (m : Int) ∧ (0 ≤ l f → l f < 100 → so (l f).toNat = -1 ∧ X (l f).toNat)
theorem nwL_m {X : Nat → Prop} : ∀ (l : Nat → Int) (a c : Nat), a ≤ c → nwL6 so X l a → nwL6 so X l c := fun l a c h h1 f hf => ⟨by have := (h1 f hf).1; omega, (h1 f hf).2⟩
theorem nwL_mk {X : Nat → Prop} {a c d e f g : Int} {m : Nat} (hc : c < (m : Int) ∧ (0 ≤ c → c < 100 → so c.toNat = -1 ∧ X c.toNat)) (hd : d < (m : Int) ∧ (0 ≤ d → d < 100 → so d.toNat = -1 ∧ X d.toNat)) (hf : f < (m : Int) ∧ (0 ≤ f → f < 100 → so f.toNat = -1 ∧ X f.toNat)) : nwL6 so X (mkL a c d e f g) m := fun i hi => by
  rcases hi with q | q | q
  · rw [q]; exact hc
  · rw [q]; exact hd
  · rw [q]; exact hf
theorem nw_t {X : Nat → Prop} {m : Nat} (h1 : 100 ≤ n) (h2 : n < m) : (n : Int) < (m : Int) ∧ (0 ≤ (n : Int) → (n : Int) < 100 → so (n : Int).toNat = -1 ∧ X (n : Int).toNat) := ⟨by omega, fun _ z => by omega⟩
theorem nw_n {X : Nat → Prop} {m : Nat} : (-1 : Int) < (m : Int) ∧ (0 ≤ (-1 : Int) → (-1 : Int) < 100 → so (-1 : Int).toNat = -1 ∧ X (-1 : Int).toNat) := ⟨by omega, fun z _ => by omega⟩
theorem nw_v {X : Nat → Prop} {m : Nat} (h1 : 100 ≤ n) (h2 : n ≤ m) (hx : x < (n : Int)) (hX : 0 ≤ x → x < 100 → X x.toNat) (hm : slf so x = -1 ∨ n < m) : ldV so x n < (m : Int) ∧ (0 ≤ ldV so x n → ldV so x n < 100 → so (ldV so x n).toNat = -1 ∧ X (ldV so x n).toNat) := by
  unfold ldV
  by_cases c : slf so x = -1
  · rw [if_pos c]
    refine ⟨by omega, fun a d => ⟨?_, hX a d⟩⟩
    unfold slf at c
    rw [if_pos ⟨a, d⟩] at c
    exact c
  · rw [if_neg c]
    exact nw_t h1 (hm.elim (fun z => absurd z c) id)
theorem ldN_a {X : Nat → Prop} (h1 : 100 ≤ s.2) (h : allL (nwL6 so X) s) : allL (nwL6 so X) (ldN so x s) := by
  unfold ldN
  by_cases c : slf so x = -1
  · rw [if_pos c]; exact h
  · rw [if_neg c]; exact allL_L nwL_m h (Nat.le_succ _) (nwL_mk (nw_t h1 (Nat.lt_succ_self _)) nw_n nw_n)
theorem ldN_n (h : ¬ slf so x = -1) : (ldN so x s).2 = s.2 + 1 := by unfold ldN; rw [if_neg h]
theorem ldN_le : s.2 ≤ (ldN so x s).2 := by
  unfold ldN
  split
  · exact Nat.le_refl _
  · exact Nat.le_succ _
theorem spLn_a {X : Nat → Prop} (h0 : 100 ≤ s.2) (h : allL (nwL6 so X) s) (hl : ∀ f, f = 1 ∨ f = 2 ∨ f = 4 → l f < (s.2 : Int) ∧ (0 ≤ l f → l f < 100 → X (l f).toNat)) : allL (nwL6 so X) (spLn so l s) := by
  have l1 := hl 1 (Or.inl rfl)
  have l2 := hl 2 (Or.inr (Or.inl rfl))
  have l4 := hl 4 (Or.inr (Or.inr rfl))
  have n2 : s.2 ≤ (ldN so (l 2) s).2 := ldN_le
  have hr : allL (nwL6 so X) (spR so l s) ∧ 100 ≤ (spR so l s).2 ∧ s.2 ≤ (spR so l s).2 ∧ (ldN so (l 2) s).2 ≤ (spR so l s).2 := by
    unfold spR
    split
    · exact ⟨ldN_a h0 h, ldN_2 h0, n2, Nat.le_refl _⟩
    · exact ⟨ldN_a (ldN_2 h0) (ldN_a h0 h), ldN_2 (ldN_2 h0), Nat.le_trans n2 ldN_le, ldN_le⟩
  obtain ⟨r1, r2, r3, r4⟩ := hr
  have v2 : ∀ m, (spR so l s).2 ≤ m → (ldV so (l 2) s.2 < (m : Int) ∧ (0 ≤ ldV so (l 2) s.2 → ldV so (l 2) s.2 < 100 → so (ldV so (l 2) s.2).toNat = -1 ∧ X (ldV so (l 2) s.2).toNat)) := fun m hm => by
    refine nw_v h0 (by omega) l2.1 l2.2 ?_
    by_cases c : slf so (l 2) = -1
    · exact Or.inl c
    · have := ldN_n (s := s) c
      exact Or.inr (by omega)
  have v4 : ∀ m, (spR so l s).2 ≤ m → (spV so l s < (m : Int) ∧ (0 ≤ spV so l s → spV so l s < 100 → so (spV so l s).toNat = -1 ∧ X (spV so l s).toNat)) := fun m hm => by
    unfold spV
    by_cases c : l 4 = l 2
    · rw [if_pos c]; exact v2 m hm
    · rw [if_neg c]
      have e : spR so l s = ldN so (l 4) (ldN so (l 2) s) := by unfold spR; rw [if_neg c]
      rw [e] at hm
      refine nw_v (ldN_2 h0) (Nat.le_trans ldN_le hm) (by omega) l4.2 ?_
      by_cases d : slf so (l 4) = -1
      · exact Or.inl d
      · have := ldN_n (s := ldN so (l 2) s) d
        exact Or.inr (by omega)
  unfold spLn spW
  by_cases c : slf so (l 1) = -1
  · rw [if_pos c]
    refine allL_L nwL_m r1 (Nat.le_refl _) (nwL_mk ⟨by omega, fun a d => ⟨?_, l1.2 a d⟩⟩ (v2 _ (Nat.le_refl _)) (v4 _ (Nat.le_refl _)))
    unfold slf at c
    rw [if_pos ⟨a, d⟩] at c
    exact c
  · rw [if_neg c]
    have a1 := allL_L (l := mkL (l 0) ((spR so l s).2 : Int) (ldV so (l 2) s.2) (l 3) (spV so l s) (l 5)) nwL_m r1 (Nat.le_succ _) (nwL_mk (nw_t r2 (Nat.lt_succ_self _)) (v2 _ (Nat.le_succ _)) (v4 _ (Nat.le_succ _)))
    exact allL_L (s := (pgL (spR so l s).1 (mkL (l 0) ((spR so l s).2 : Int) (ldV so (l 2) s.2) (l 3) (spV so l s) (l 5)), (spR so l s).2 + 1)) nwL_m a1 (Nat.le_refl _) (nwL_mk nw_n (nw_t r2 (Nat.lt_succ_self _)) nw_n)
theorem spB_a {X : Nat → Prop} {ls : Nat → Nat → Int} (h0 : 0 < s.1.1) (h1 : 100 ≤ s.2) (h : allL (nwL6 so X) s) : ∀ m, (∀ j, j < m → ∀ f, f = 1 ∨ f = 2 ∨ f = 4 → ls j f < (s.2 : Int) ∧ (0 ≤ ls j f → ls j f < 100 → X (ls j f).toNat)) → allL (nwL6 so X) (spB so ls m s)
  | 0, _ => h
  | m + 1, hl => by
    obtain ⟨⟨-, k2, -⟩, -, i3⟩ := spB_k (so := so) (ls := ls) h0 h1 m
    refine spLn_a i3 (spB_a h0 h1 h m (fun j hj => hl j (by omega))) (fun f hf => ⟨?_, (hl m (Nat.lt_succ_self m) f hf).2⟩)
    have := (hl m (Nat.lt_succ_self m) f hf).1
    omega
theorem spP_a {X : Nat → Prop} (h1 : 100 ≤ nm) : ∀ b, (∀ c j, c < b → j < Q.2.1 c → ∀ f, f = 1 ∨ f = 2 ∨ f = 4 → Q.2.2.1 c j f < (nm : Int) ∧ (0 ≤ Q.2.2.1 c j f → Q.2.2.1 c j f < 100 → X (Q.2.2.1 c j f).toNat)) → allL (nwL6 so X) (spP so Q nm b)
  | 0, _ => fun b j hb _ => absurd hb (Nat.not_lt_zero b)
  | b + 1, h => by
    obtain ⟨-, i2, -, -⟩ := spP_k (so := so) (Q := Q) h1 b
    have m := (spP_m (so := so) (Q := Q) h1 b 0).1
    rw [Nat.zero_add] at m
    have m2 : nm ≤ (spP so Q nm b).2 := m
    refine spB_a (s := (pgOL Q (spP so Q nm b).1, (spP so Q nm b).2)) (Nat.succ_pos _) i2 (allL_OL (spP_a h1 b (fun c j hc => h c j (by omega)))) (Q.2.1 b) (fun j hj f hf => ⟨?_, (h b j (Nat.lt_succ_self b) hj f hf).2⟩)
    have := (h b j (Nat.lt_succ_self b) hj f hf).1
    show Q.2.2.1 b j f < ((spP so Q nm b).2 : Int)
    omega
end SPL
section GVR
variable {Q R S : gPg} {k : Int} {dp : Nat → Nat} {nm sl b j n m v : Nat} {p q : Nat → Nat}
theorem bsF_in {T : Nat → Prop} {w lf : Nat → Int32} {b : Nat} : ∀ n, bsF T w lf n = some b → T b
  | 0, h => (nomatch h)
  | n + 1, h => by
    by_cases c : T n
    · cases e : bsF T w lf n with
      | none => rw [bsF_1 c e] at h; cases h; exact c
      | some d =>
        by_cases g : (100 ≤ n ∧ d < 100) ∨ ¬ chp w lf n d
        · rw [bsF_2 c e g] at h; cases h; exact bsF_in n e
        · rw [bsF_3 c e g] at h; cases h; exact c
    · rw [bsF_0 c] at h; exact bsF_in n h
theorem bsF_c {T : Nat → Prop} {w lf w2 lf2 : Nat → Int32} (h : ∀ v, T v → w v = w2 v ∧ lf v = lf2 v) : ∀ n, bsF T w lf n = bsF T w2 lf2 n
  | 0 => rfl
  | n + 1 => by
    have i := bsF_c h n
    by_cases c : T n
    · cases e : bsF T w lf n with
      | none => rw [bsF_1 c e, bsF_1 c (i.symm.trans e)]
      | some d =>
        have td := bsF_in n e
        have ec : chp w lf n d ↔ chp w2 lf2 n d := by
          unfold chp
          rw [(h n c).1, (h n c).2, (h d td).1, (h d td).2]
        by_cases g : (100 ≤ n ∧ d < 100) ∨ ¬ chp w lf n d
        · rw [bsF_2 c e g, bsF_2 c (i.symm.trans e) (g.imp id (fun z y => z (ec.mpr y)))]
        · rw [bsF_3 c e g, bsF_3 c (i.symm.trans e) (fun z => g (z.imp id (fun z y => z (ec.mp y))))]
    · rw [bsF_0 c, bsF_0 c, i]
theorem isNx_c {T : Nat → Prop} {w lf w2 lf2 : Nat → Int32} (h : ∀ v, T v → w v = w2 v ∧ lf v = lf2 v) (hn : isNx T w lf k v) : isNx T w2 lf2 k v := by
  rcases hn with ⟨a1, a2, a3⟩ | ⟨a1, a2⟩
  · exact Or.inl ⟨a1, by rw [← (h v a1).2]; exact a2, fun u hu ht => by rw [← (h u ht).2]; exact a3 u hu ht⟩
  · exact Or.inr ⟨fun u ht => by rw [← (h u ht).2]; exact a1 u ht, by rw [← bsF_c h]; exact a2⟩
theorem TA_c {J : Nat → Nat → Prop} {w w2 : Nat → Int32} : ∀ {n : Nat} {T : Nat → Prop} {lf lf2 : Nat → Int32} {p : Nat → Nat}, (∀ v, T v → w v = w2 v ∧ lf v = lf2 v) → TA J w k n T lf p → TA J w2 k n T lf2 p
  | 0, _, _, _, _, _, h => h
  | n + 1, T, lf, lf2, p, h, ⟨h1, h2, h3⟩ => by
    refine ⟨h1, isNx_c h h2, TA_c (fun v hv => ⟨(h v hv.1).1, ?_⟩) h3⟩
    unfold lfD
    rw [(h v hv.1).2]
/-- one round: merged into R, taken apart in the order p -/
def rnd (k : Int) (dp : Nat → Nat) (Q R : gPg) (n : Nat) (p : Nat → Nat) : Prop := (∃ m, MGn k m Q R) ∧ TA (JJ R) (fun v => wPg R dp v R.1) k n (Sd R false 2000) (dgc R) p
theorem rnd_u (h : rnd k dp Q R n p) (h2 : rnd k dp Q S m q) : R = S ∧ n = m ∧ ∀ i, i < n → p i = q i := by
  obtain ⟨⟨a, h3⟩, h4⟩ := h
  obtain ⟨⟨c, g3⟩, g4⟩ := h2
  obtain ⟨-, e⟩ := MGn_u h3 g3
  rw [← e] at g4
  exact ⟨e, TA_u h4 g4⟩
/-- without a colour -/
def unc (R : gPg) (col : Nat → Int) (v : Nat) : Prop := Sd R false 2000 v ∧ col v = -1
noncomputable def soU (U : Nat → Prop) (sl : Nat) (v : Nat) : Int := @ite Int (U v) (Classical.propDecidable _) ((sl + cntP U v : Nat) : Int) (-1)
/-- the rounds: r the answer, Z what is given out -/
def GVr (k : Int) (dp : Nat → Nat) : Nat → Nat → gPg → Nat → Nat → Int → (gPg × (Nat → Int) × Nat) → Prop
  | 0, _, _, _, _, r, Z => r = -1 ∧ Z = (pgO, fun _ => -1, 0)
  | f + 1, t, Q, nm, sl, r, Z => ∃ R n p, rnd k dp Q R n p ∧
    ((¬ bdN (JJ R) k p n n ∧ r = (t : Int) ∧ Z = (R, clN (JJ R) k p n n, sl)) ∨
     (bdN (JJ R) k p n n ∧ (∃ v, 100 ≤ v ∧ unc R (clN (JJ R) k p n n) v) ∧ r = -1 ∧ Z = (pgO, fun _ => -1, 0)) ∨
     (bdN (JJ R) k p n n ∧ (∀ v, 100 ≤ v → ¬ unc R (clN (JJ R) k p n n) v) ∧ GVr k dp f (t + 1) (spP (soU (unc R (clN (JJ R) k p n n)) sl) R nm R.1).1 (spP (soU (unc R (clN (JJ R) k p n n)) sl) R nm R.1).2 (sl + cntP (unc R (clN (JJ R) k p n n)) 100) r Z))
theorem GVr_u : ∀ {f t : Nat} {Q : gPg} {nm sl : Nat} {r r2 : Int} {Z Z2 : gPg × (Nat → Int) × Nat}, GVr k dp f t Q nm sl r Z → GVr k dp f t Q nm sl r2 Z2 → r = r2 ∧ Z = Z2
  | 0, _, _, _, _, _, _, _, _, h, h2 => ⟨h.1.trans h2.1.symm, h.2.trans h2.2.symm⟩
  | f + 1, t, Q, nm, sl, r, r2, Z, Z2, ⟨R, n, p, h1, h2⟩, ⟨S, m, q, g1, g2⟩ => by
    obtain ⟨e1, e2, e3⟩ := rnd_u h1 g1
    subst e1
    subst e2
    rw [← clN_c e3 n (Nat.le_refl _), ← bdN_c e3] at g2
    rcases h2 with ⟨a1, a2, a3⟩ | ⟨a1, a2, a3, a4⟩ | ⟨a1, a2, a3⟩
    · rcases g2 with ⟨c1, c2, c3⟩ | ⟨c1, _⟩ | ⟨c1, _⟩
      · exact ⟨a2.trans c2.symm, a3.trans c3.symm⟩
      · exact absurd c1 a1
      · exact absurd c1 a1
    · rcases g2 with ⟨c1, _⟩ | ⟨c1, c2, c3, c4⟩ | ⟨c1, c2, c3⟩
      · exact absurd a1 c1
      · exact ⟨a3.trans c3.symm, a4.trans c4.symm⟩
      · obtain ⟨v, v1, v2⟩ := a2
        exact absurd v2 (c2 v v1)
    · rcases g2 with ⟨c1, _⟩ | ⟨c1, c2, c3, c4⟩ | ⟨c1, c2, c3⟩
      · exact absurd a1 c1
      · obtain ⟨v, v1, v2⟩ := c2
        exact absurd v2 (a2 v v1)
      · exact GVr_u a3 c3
/-- merging takes places away -/
theorem oc1_rn {w u x : Int} (h : w = u ∨ (w < 100 ∧ u < 100 ∧ 0 ≤ w ∧ 0 ≤ u)) : oc1 (rnV w u x) = oc1 x := by
  unfold rnV
  by_cases c : x = w
  · rw [if_pos c]
    rcases h with h | ⟨h1, h2, h3, h4⟩
    · rw [← h, c]
    · unfold oc1; rw [if_pos ⟨h4, h2⟩, if_pos (by omega)]
  · rw [if_neg c]
theorem fsm_le {f g : Nat → Nat} : ∀ n, (∀ i, i < n → f i ≤ g i) → fsm f n ≤ fsm g n
  | 0, _ => Nat.le_refl _
  | n + 1, h => Nat.add_le_add (fsm_le n (fun i hi => h i (by omega))) (h n (Nat.lt_succ_self n))
theorem fsm_sh {f : Nat → Nat} {j : Nat} : ∀ n, fsm (fun i => f (if j ≤ i then i + 1 else i)) n ≤ fsm f (n + 1)
  | 0 => Nat.zero_le _
  | n + 1 => by
    have i := fsm_sh (f := f) (j := j) n
    show fsm (fun i => f (if j ≤ i then i + 1 else i)) n + f (if j ≤ n then n + 1 else n) ≤ fsm f (n + 1) + f (n + 1)
    by_cases c : j ≤ n
    · rw [if_pos c]; omega
    · rw [if_neg c]
      have e : fsm (fun i => f (if j ≤ i then i + 1 else i)) n = fsm f n := fsm_c (fun a ha => by rw [if_neg (by omega)])
      rw [e]
      show fsm f n + f n ≤ fsm f n + f n + f (n + 1)
      omega
theorem osm_mg (h : mgb Q k b j) : osm (mg1 Q b j) ≤ osm Q := by
  obtain ⟨hb, hj, h0, h1, h2, h3⟩ := h
  have hw : max (Q.2.2.1 b j 1) (Q.2.2.1 b j 2) = min (Q.2.2.1 b j 1) (Q.2.2.1 b j 2) ∨ (max (Q.2.2.1 b j 1) (Q.2.2.1 b j 2) < 100 ∧ min (Q.2.2.1 b j 1) (Q.2.2.1 b j 2) < 100 ∧ 0 ≤ max (Q.2.2.1 b j 1) (Q.2.2.1 b j 2) ∧ 0 ≤ min (Q.2.2.1 b j 1) (Q.2.2.1 b j 2)) := by
    rcases h3 with h3 | h3
    · exact Or.inl (by omega)
    · have a := h3.1
      have c := h3.2.1
      exact Or.inr (by omega)
  have oe : ∀ l : Nat → Int, occ (rnL (max (Q.2.2.1 b j 1) (Q.2.2.1 b j 2)) (min (Q.2.2.1 b j 1) (Q.2.2.1 b j 2)) l) = occ l := fun l => by
    show oc1 (rnV _ _ (l 1)) + oc1 (rnV _ _ (l 2)) + oc1 (rnV _ _ (l 4)) = _
    rw [oc1_rn hw, oc1_rn hw, oc1_rn hw]
    rfl
  unfold osm
  refine fsm_le Q.1 (fun c hc => ?_)
  show fsm (fun i => occ (rnL _ _ (Q.2.2.1 c (if c = b ∧ j ≤ i then i + 1 else i)))) (if c = b then Q.2.1 c - 1 else Q.2.1 c) ≤ fsm (fun j => occ (Q.2.2.1 c j)) (Q.2.1 c)
  by_cases e : c = b
  · rw [if_pos e]
    have q := fsm_sh (f := fun i => occ (Q.2.2.1 c i)) (j := j) (Q.2.1 c - 1)
    rw [show Q.2.1 c - 1 + 1 = Q.2.1 c by rw [e]; omega] at q
    refine Nat.le_trans (Nat.le_of_eq (fsm_c (fun i hi => ?_))) q
    rw [oe]
    by_cases d : j ≤ i
    · rw [if_pos ⟨e, d⟩, if_pos d]
    · rw [if_neg (fun z => d z.2), if_neg d]
  · rw [if_neg e]
    refine Nat.le_of_eq (fsm_c (fun i hi => ?_))
    rw [oe, if_neg (fun z => e z.1)]
theorem lsm_mg (h : mgb Q k b j) : lsm (mg1 Q b j) + 1 = lsm Q := by
  unfold lsm
  show fsm (fun c => if c = b then Q.2.1 c - 1 else Q.2.1 c) Q.1 + 1 = _
  have := h.2.1
  have hb := h.1
  rw [fsm_dr (l := Q.2.1) (b := b) (by omega) Q.1, if_neg (by omega)]
  have := fsm_lt h.1 h.2.1
  omega
theorem Sd_mg (h : mgb Q k b j) (hv : Sd (mg1 Q b j) false 2000 v) : Sd Q false 2000 v := by
  obtain ⟨hb, hj, h0, h1, h2, h3⟩ := h
  obtain ⟨v1, c, i, q1, q2, q3⟩ := hv
  have q2' : i < if c = b then Q.2.1 c - 1 else Q.2.1 c := q2
  have hi : (if c = b ∧ j ≤ i then i + 1 else i) < Q.2.1 c := by
    by_cases e : c = b
    · rw [if_pos e] at q2'; split <;> omega
    · rw [if_neg e] at q2'; rw [if_neg (fun z => e z.1)]; exact q2'
  have rn : ∀ x : Int, rnV (max (Q.2.2.1 b j 1) (Q.2.2.1 b j 2)) (min (Q.2.2.1 b j 1) (Q.2.2.1 b j 2)) x = (v : Int) → x = (v : Int) ∨ Q.2.2.1 b j 1 = (v : Int) ∨ Q.2.2.1 b j 2 = (v : Int) := fun x hx => by
    unfold rnV at hx
    by_cases e : x = max (Q.2.2.1 b j 1) (Q.2.2.1 b j 2)
    · rw [if_pos e] at hx; omega
    · rw [if_neg e] at hx; exact Or.inl hx
  have own : Q.2.2.1 b j 1 = (v : Int) ∨ Q.2.2.1 b j 2 = (v : Int) → Sd Q false 2000 v := fun z => by
    refine ⟨v1, b, j, hb, hj, ?_⟩
    unfold usR seR
    rw [if_neg (by decide), if_neg (by decide)]
    exact z.elim Or.inr (fun y => Or.inl (Or.inl y))
  have us : ∀ l : Nat → Int, usR false (rnL (max (Q.2.2.1 b j 1) (Q.2.2.1 b j 2)) (min (Q.2.2.1 b j 1) (Q.2.2.1 b j 2)) l) v ∨ seR false (rnL (max (Q.2.2.1 b j 1) (Q.2.2.1 b j 2)) (min (Q.2.2.1 b j 1) (Q.2.2.1 b j 2)) l) v → (usR false l v ∨ seR false l v) ∨ Q.2.2.1 b j 1 = (v : Int) ∨ Q.2.2.1 b j 2 = (v : Int) := fun l z => by
    unfold usR seR at z ⊢
    rw [if_neg (by decide), if_neg (by decide)] at z ⊢
    rcases z with (z | z) | z
    · exact (rn _ z).imp (fun y => Or.inl (Or.inl y)) id
    · exact (rn _ z).imp (fun y => Or.inl (Or.inr y)) id
    · exact (rn _ z).imp (fun y => Or.inr y) id
  exact (us _ q3).elim (fun z => ⟨v1, c, _, q1, hi, z⟩) own
theorem MGn_f (hn : nmO Q n) : ∀ {m : Nat} {Q R : gPg}, nmO Q n → MGn k m Q R → nmO R n ∧ osm R ≤ osm Q ∧ lsm R ≤ lsm Q ∧ R.1 = Q.1 ∧ ∀ v, Sd R false 2000 v → Sd Q false 2000 v
  | 0, _, _, hq, h => by rw [h.1]; exact ⟨hq, Nat.le_refl _, Nat.le_refl _, rfl, fun _ z => z⟩
  | m + 1, Q, R, hq, ⟨b, j, q, h⟩ => by
    obtain ⟨r1, r2, r3, r4, r5⟩ := MGn_f hn (nmO_mg hq q.1.1 q.1.2.1) h
    have o := osm_mg q.1
    have l := lsm_mg q.1
    exact ⟨r1, by omega, by omega, r4, fun v hv => Sd_mg q.1 (r5 v hv)⟩
end GVR
end
section
section GVC
variable {Q : gPg} {W Nm b j v u w nm sl : Nat} {U : Nat → Prop} {col : Nat → Int}
theorem iwo_tr {a1 : Int32} {Graph_names : Int32} {Colouring_colour : Nat → Int32} {Graph_standing : Nat → Int64} {o1 : Int32} {wor : Int32} {jo : Nat → Int64} {dg : Nat → Int32} (hg : gfC Q Nm W Graph_names wor jo Graph_standing dg) (hN : Nm ≤ 720) (hcl : ∀ u, u < 720 → (Colouring_colour u).toInt = col u) (hv : a1.toInt = (v : Int)) (hv2 : v < Nm) (h : tr_Colouring_isWithout a1 Graph_names Colouring_colour Graph_standing o1) : o1.toInt ≠ 0 ↔ unc Q col v := by
  have gs := hg.2.2.2.2.2.2.1 v (by have := hg.2.2.1; omega)
  have cv := hcl v (by omega)
  refine h (fun o1 => o1.toInt ≠ 0 ↔ unc Q col v) ?_ ?_ ?_
  · intro h1
    have st := std_tr hv hg.1 hv2 h1
    rw [px_0] at st
    rw [px_0]
    exact ⟨fun y => absurd rfl y, fun y => absurd rfl (st.mpr (gs.mpr y.1))⟩
  · intro x1 h1 h2 h3
    have st := std_tr hv hg.1 hv2 h1
    rw [nnE hv] at h2
    rw [← h2] at cv
    have s1 := gs.mp (st.mp (by decide))
    rw [px_0]
    exact ⟨fun y => absurd rfl y, fun y => by have := y.2; omega⟩
  · intro x1 h1 h2 h3
    have st := std_tr hv hg.1 hv2 h1
    rw [nnE hv] at h2
    rw [← h2] at cv
    have s1 := gs.mp (st.mp (by decide))
    rw [px_1]
    exact ⟨fun _ => ⟨s1, by omega⟩, fun _ => by decide⟩
theorem unc_lt (hn : nmO Q Nm) (h : unc Q col v) : v < Nm := (Sd_i hn (Nat.le_refl _) h.1).2
theorem gs3_tl {Giver_names : Int32} {Graph_names : Int32} {Colouring_colour : Nat → Int32} {Graph_standing : Nat → Int64} {s1 : Int32} {k : Nat} {wor : Int32} {jo : Nat → Int64} {dg : Nat → Int32} (hg : gfC Q Nm W Graph_names wor jo Graph_standing dg) (hN : Nm ≤ 720) (hcl : ∀ u, u < 720 → (Colouring_colour u).toInt = col u) (hnm : Giver_names.toInt = (Nm : Int)) (h : tl_Giver_giveSlots_3 Giver_names Graph_names Colouring_colour Graph_standing s1 k) : ∀ m : Nat, s1.toInt = (m : Int) → 100 ≤ m → (∀ v, 100 ≤ v → v < m → ¬ unc Q col v) → (k = 30 → ∀ v, 100 ≤ v → ¬ unc Q col v) ∧ (k = 22 → ∃ v, 100 ≤ v ∧ unc Q col v) := by
  have gn := hg.2.2.2.2.1
  refine h (fun s1 k => ∀ m : Nat, s1.toInt = (m : Int) → 100 ≤ m → (∀ v, 100 ≤ v → v < m → ¬ unc Q col v) → (k = 30 → ∀ v, 100 ≤ v → ¬ unc Q col v) ∧ (k = 22 → ∃ v, 100 ≤ v ∧ unc Q col v)) ?_ ?_ ?_
  · intro l1_1 h1 h2
    intro m hm h1 hl
    exact ⟨fun _ v hv z => hl v hv (by have := unc_lt gn z; omega) z, fun z => (nomatch z)⟩
  · intro l1_1 x1 k h1 h2 h3 h4 ih
    intro m hm h1 hl
    have q := iwo_tr hg hN hcl hm (by omega) h3
    refine ih (m + 1) (by omega) (by omega) (fun v hv hvm z => ?_)
    by_cases e : v = m
    · rw [e] at z; exact absurd rfl (q.mpr z)
    · exact hl v hv (by omega) z
  · intro l1_1 h1 h2 h3
    intro m hm h1 hl
    have q := iwo_tr hg hN hcl hm (by omega) h3
    exact ⟨fun z => (nomatch z), fun _ => ⟨m, h1, q.mp (by decide)⟩⟩
theorem gs32_tl {Graph_names : Int32} {Colouring_colour : Nat → Int32} {Graph_standing : Nat → Int64} {s1 : Int32} {s2 : Int32} {s3 : Int32} {s4 : Nat → Int32} {k : Nat} {e1 : Int32} {e2 : Int32} {e3 : Nat → Int32} {wor : Int32} {jo : Nat → Int64} {dg : Nat → Int32} (hg : gfC Q Nm W Graph_names wor jo Graph_standing dg) (hN : Nm ≤ 720) (hcl : ∀ u, u < 720 → (Colouring_colour u).toInt = col u) {f0 : Nat → Int32} (hNm : 100 ≤ Nm) (hsl : sl ≤ 100000) (h : tl_Giver_giveSlots_32 Graph_names Colouring_colour Graph_standing s1 s2 s3 s4 k e1 e2 e3) : ∀ m : Nat, s1.toInt = (m : Int) → m ≤ 100 → s2.toInt = ((sl + cntP (unc Q col) m : Nat) : Int) → (∀ v, v < m → unc Q col v → (s4 v).toInt = ((sl + cntP (unc Q col) v : Nat) : Int)) → (∀ v, ¬ (v < m ∧ unc Q col v) → s4 v = f0 v) → e1.toInt = ((sl + cntP (unc Q col) 100 : Nat) : Int) ∧ (∀ v, v < 100 → unc Q col v → (e3 v).toInt = ((sl + cntP (unc Q col) v : Nat) : Int)) ∧ (∀ v, ¬ (v < 100 ∧ unc Q col v) → e3 v = f0 v) := by
  refine h (fun s1 s2 s3 s4 _ e1 e2 e3 => ∀ m : Nat, s1.toInt = (m : Int) → m ≤ 100 → s2.toInt = ((sl + cntP (unc Q col) m : Nat) : Int) → (∀ v, v < m → unc Q col v → (s4 v).toInt = ((sl + cntP (unc Q col) v : Nat) : Int)) → (∀ v, ¬ (v < m ∧ unc Q col v) → s4 v = f0 v) → e1.toInt = ((sl + cntP (unc Q col) 100 : Nat) : Int) ∧ (∀ v, v < 100 → unc Q col v → (e3 v).toInt = ((sl + cntP (unc Q col) v : Nat) : Int)) ∧ (∀ v, ¬ (v < 100 ∧ unc Q col v) → e3 v = f0 v)) ?_ ?_ ?_
  · intro l1_1 Giver_slots_1 Giver_spilled_1 Giver_slotOf_1 h1 h2
    intro m hm h1 hs hf hg0
    have e : m = 100 := by omega
    rw [e] at hs hf hg0
    exact ⟨hs, hf, hg0⟩
  · intro l1_1 Giver_slots_1 Giver_spilled_1 Giver_slotOf_1 x1 k e1 e2 e3 h1 h2 h3 h4 ih
    intro m hm h1 hs hf hg0
    have m1 : m < 100 := by omega
    have q := iwo_tr hg hN hcl hm (by omega) h3
    have nu : ¬ unc Q col m := fun z => absurd rfl (q.mpr z)
    have ce : cntP (unc Q col) (m + 1) = cntP (unc Q col) m := by
      show cntP (unc Q col) m + @ite Nat (unc Q col m) (Classical.propDecidable _) 1 0 = _
      rw [if_neg nu, Nat.add_zero]
    refine ih (m + 1) (by omega) (by omega) (by rw [ce]; exact hs) (fun v hv z => ?_) (fun v hv => hg0 v (fun z => hv ⟨by omega, z.2⟩))
    by_cases e : v = m
    · rw [e] at z; exact absurd z nu
    · exact hf v (by omega) z
  · intro l1_1 Giver_slots_1 Giver_spilled_1 Giver_slotOf_1 x1 x2 x3 x4 k e1 e2 e3 h1 h2 h3 h4 h5 h6 h7 ih
    intro m hm h1 hs hf hg0
    have m1 : m < 100 := by omega
    have q := iwo_tr hg hN hcl hm (by omega) h3
    have nu : unc Q col m := q.mp (by decide)
    have ce : cntP (unc Q col) (m + 1) = cntP (unc Q col) m + 1 := by
      show cntP (unc Q col) m + @ite Nat (unc Q col m) (Classical.propDecidable _) 1 0 = _
      rw [if_pos nu]
    have le := cntP_le (T := unc Q col) m
    have o1 : Int32.toInt 1 = 1 := by decide
    have a2 := px_add h5 (by omega) (by omega)
    rw [nnE hm] at h4
    refine ih (m + 1) (by omega) (by omega) (by rw [ce]; omega) (fun v hv z => ?_) (fun v hv => ?_)
    · rw [h4]
      by_cases e : v = m
      · rw [e, updE]; exact hs
      · rw [updN e]; exact hf v (by omega) z
    · rw [h4, updN (fun e => hv ⟨by omega, by rw [e]; exact nu⟩)]
      exact hg0 v (fun z => hv ⟨by omega, z.2⟩)
theorem gsl_tr {Giver_names : Int32} {Giver_slots : Int32} {Giver_spilled : Int32} {Graph_names : Int32} {Giver_slotOf : Nat → Int32} {Graph_standing : Nat → Int64} {Colouring_colour : Nat → Int32} {o1 : Int32} {o2 : Int32} {o3 : Int32} {o4 : Nat → Int32} {wor : Int32} {jo : Nat → Int64} {dg : Nat → Int32} (hg : gfC Q Nm W Graph_names wor jo Graph_standing dg) (hN : Nm ≤ 720) (hcl : ∀ u, u < 720 → (Colouring_colour u).toInt = col u) (hnm : Giver_names.toInt = (Nm : Int)) (hNm : 100 ≤ Nm) (hs : Giver_slots.toInt = (sl : Int)) (hsl : sl ≤ 100000) (h : tr_Giver_giveSlots Giver_names Giver_slots Giver_spilled Graph_names Giver_slotOf Graph_standing Colouring_colour o1 o2 o3 o4) : (o1.toInt = 0 ∧ ∃ v, 100 ≤ v ∧ unc Q col v) ∨ (o1.toInt ≠ 0 ∧ (∀ v, 100 ≤ v → ¬ unc Q col v) ∧ o2.toInt = ((sl + cntP (unc Q col) 100 : Nat) : Int) ∧ (∀ v, v < 100 → unc Q col v → (o4 v).toInt = ((sl + cntP (unc Q col) v : Nat) : Int)) ∧ (∀ v, ¬ (v < 100 ∧ unc Q col v) → o4 v = Giver_slotOf v)) := by
  refine h (fun o1 o2 o3 o4 => (o1.toInt = 0 ∧ ∃ v, 100 ≤ v ∧ unc Q col v) ∨ (o1.toInt ≠ 0 ∧ (∀ v, 100 ≤ v → ¬ unc Q col v) ∧ o2.toInt = ((sl + cntP (unc Q col) 100 : Nat) : Int) ∧ (∀ v, v < 100 → unc Q col v → (o4 v).toInt = ((sl + cntP (unc Q col) v : Nat) : Int)) ∧ (∀ v, ¬ (v < 100 ∧ unc Q col v) → o4 v = Giver_slotOf v))) ?_ ?_
  · intro x1 x2 x3 h1 h2
    have q := (gs3_tl hg hN hcl hnm h1 100 (by decide) (Nat.le_refl _) (fun v a c => by omega)).1 rfl
    have r := gs32_tl (f0 := Giver_slotOf) hg hN hcl hNm hsl h2 0 (by decide) (Nat.zero_le _) hs (fun v hv => absurd hv (Nat.not_lt_zero v)) (fun v _ => rfl)
    exact Or.inr ⟨by decide, q, r⟩
  · intro h1
    have q := (gs3_tl hg hN hcl hnm h1 100 (by decide) (Nat.le_refl _) (fun v a c => by omega)).2 rfl
    exact Or.inl ⟨by decide, q⟩
theorem sfo_tr {a1 : Int32} {Giver_slotOf : Nat → Int32} {o1 : Int32} (h : tr_Giver_slotFor a1 Giver_slotOf o1) : o1.toInt = slf (fun v => (Giver_slotOf v).toInt) a1.toInt := by
  refine h (fun o1 => o1.toInt = slf (fun v => (Giver_slotOf v).toInt) a1.toInt) ?_ ?_ ?_
  · intro h1
    unfold slf
    rw [if_neg (by omega)]
    rfl
  · intro h1 h2
    unfold slf
    rw [if_neg (by omega)]
    rfl
  · intro x1 h1 h2 h3
    unfold slf
    rw [if_pos ⟨h1, h2⟩, h3, nnE (Int.toNat_of_nonneg h1).symm]
theorem ntp_tr {Giver_names : Int32} {Code_isFull : Int32} {o1 : Int32} {o2 : Int32} {o3 : Int32} {n : Nat} (hn : Giver_names.toInt = (n : Int)) (hn2 : n < 720) (h : tr_Giver_newTemporary Giver_names Code_isFull o1 o2 o3) : o1.toInt = (n : Int) ∧ o2.toInt = ((n + 1 : Nat) : Int) ∧ o3 = Code_isFull := by
  refine h (fun o1 o2 o3 => o1.toInt = (n : Int) ∧ o2.toInt = ((n + 1 : Nat) : Int) ∧ o3 = Code_isFull) ?_ ?_
  · intro x1 x2 h1 h2 h3
    exact ⟨by omega, by omega, rfl⟩
  · intro h1
    omega
section LDD
variable {bl li fl a1 a2 a3 a4 a5 a6 : Int32} {fi fg sg op st lf ln rt rn : Nat → Int32} {P : gPg}
theorem add_tr3 {x1 x8 : Int32} {x2 x3 x4 x5 x6 x7 : Nat → Int32} (h : tr_Code_add2 a1 a2 a3 a4 a5 a6 li fl op st lf ln rt rn x1 x2 x3 x4 x5 x6 x7 x8) (hl : li.toInt < 920) : x8 = fl := by
  refine h (fun _ _ _ _ _ _ _ x8 => x8 = fl) ?_ ?_
  · intro x1 x2 x3 x4 x5 x6 x7 h1 h2 h3 h4 h5 h6 h7 h8
    rfl
  · intro h1
    omega
end LDD
theorem lod_tr {a1 : Int32} {Giver_names : Int32} {Giver_slotOf : Nat → Int32} {Code_lines : Int32} {Code_isFull : Int32} {Code_op : Nat → Int32} {Code_set : Nat → Int32} {Code_left : Nat → Int32} {Code_leftNumber : Nat → Int32} {Code_right : Nat → Int32} {Code_rightNumber : Nat → Int32} {o1 : Int32} {o2 : Int32} {o3 : Int32} {o4 : Int32} {o5 : Nat → Int32} {o6 : Nat → Int32} {o7 : Nat → Int32} {o8 : Nat → Int32} {o9 : Nat → Int32} {o10 : Nat → Int32} {bl : Int32} {fi fg sg : Nat → Int32} {s : gSp6} (hc : cdP bl Code_lines fi fg sg Code_op Code_set Code_left Code_leftNumber Code_right Code_rightNumber s.1) (h0 : 0 < s.1.1) (hn : Giver_names.toInt = (s.2 : Int)) (hb1 : (ldN (fun v => (Giver_slotOf v).toInt) a1.toInt s).2 ≤ 720) (hb2 : lsm (ldN (fun v => (Giver_slotOf v).toInt) a1.toInt s).1 ≤ 920) (h : tr_Giver_loaded a1 Giver_names Giver_slotOf Code_lines Code_isFull Code_op Code_set Code_left Code_leftNumber Code_right Code_rightNumber o1 o2 o3 o4 o5 o6 o7 o8 o9 o10) : o1.toInt = ldV (fun v => (Giver_slotOf v).toInt) a1.toInt s.2 ∧ o2.toInt = ((ldN (fun v => (Giver_slotOf v).toInt) a1.toInt s).2 : Int) ∧ cdP bl o3 fi fg sg o5 o6 o7 o8 o9 o10 (ldN (fun v => (Giver_slotOf v).toInt) a1.toInt s).1 ∧ o4 = Code_isFull := by
  refine h (fun o1 o2 o3 o4 o5 o6 o7 o8 o9 o10 => o1.toInt = ldV (fun v => (Giver_slotOf v).toInt) a1.toInt s.2 ∧ o2.toInt = ((ldN (fun v => (Giver_slotOf v).toInt) a1.toInt s).2 : Int) ∧ cdP bl o3 fi fg sg o5 o6 o7 o8 o9 o10 (ldN (fun v => (Giver_slotOf v).toInt) a1.toInt s).1 ∧ o4 = Code_isFull) ?_ ?_ ?_
  · intro h1
    have sf := sfo_tr h1
    have e : slf (fun v => (Giver_slotOf v).toInt) a1.toInt = -1 := sf.symm.trans (by decide)
    have e2 : ldN (fun v => (Giver_slotOf v).toInt) a1.toInt s = s := if_pos e
    rw [e2]
    exact ⟨(if_pos e).symm, hn, hc, rfl⟩
  · intro x1 x2 x3 x4 x5 x6 x7 x8 x9 x10 x11 x12 h1 h2 h3 h4 h5 h6 h7 h8 h9
    have sf := sfo_tr h1
    have e : ¬ slf (fun v => (Giver_slotOf v).toInt) a1.toInt = -1 := fun z => h2 (sf.trans z)
    have e2 : ldN (fun v => (Giver_slotOf v).toInt) a1.toInt s = (pgL s.1 (mkL 17 (s.2 : Int) (-1) 0 (-1) (slf (fun v => (Giver_slotOf v).toInt) a1.toInt)), s.2 + 1) := if_neg e
    rw [e2] at hb1 hb2 ⊢
    have hb1' : s.2 + 1 ≤ 720 := hb1
    have hb2' : lsm (pgL s.1 (mkL 17 (s.2 : Int) (-1) 0 (-1) (slf (fun v => (Giver_slotOf v).toInt) a1.toInt))) ≤ 920 := hb2
    rw [lsm_L h0] at hb2'
    have hl : Code_lines.toInt < 920 := by have := hc.2.1; unfold lsm at hb2'; omega
    obtain ⟨n1, n2, n3⟩ := ntp_tr hn (by omega) h6
    have ad := add_tr2 h9 hc hl h0
    have a3 := add_tr3 h9 hl
    rw [n1, show Int32.toInt 17 = 17 by decide, show Int32.toInt (-1) = -1 by decide, show Int32.toInt 0 = 0 by decide] at ad
    rw [sf] at ad
    exact ⟨n1.trans (if_neg e).symm, n2, ad, a3.trans n3⟩
  · intro x1 h1 h2
    have sf := sfo_tr h1
    have e : slf (fun v => (Giver_slotOf v).toInt) a1.toInt = -1 := sf.symm.trans h2
    have e2 : ldN (fun v => (Giver_slotOf v).toInt) a1.toInt s = s := if_pos e
    rw [e2]
    exact ⟨(if_pos e).symm, hn, hc, rfl⟩
theorem spl_tr {a1 : Int32} {Giver_names : Int32} {Giver_slotOf : Nat → Int32} {Code_lines : Int32} {Code_isFull : Int32} {Code_op : Nat → Int32} {Code_set : Nat → Int32} {Code_left : Nat → Int32} {Code_leftNumber : Nat → Int32} {Code_right : Nat → Int32} {Code_rightNumber : Nat → Int32} {Code_op2 : Nat → Int32} {Code_set2 : Nat → Int32} {Code_left2 : Nat → Int32} {Code_leftNumber2 : Nat → Int32} {Code_right2 : Nat → Int32} {Code_rightNumber2 : Nat → Int32} {o1 : Int32} {o2 : Int32} {o3 : Int32} {o4 : Nat → Int32} {o5 : Nat → Int32} {o6 : Nat → Int32} {o7 : Nat → Int32} {o8 : Nat → Int32} {o9 : Nat → Int32} {bl : Int32} {fi fg sg : Nat → Int32} {s : gSp6} {bl2 li2 : Int32} {fi2 fg2 sg2 : Nat → Int32} (hq : cdP bl2 li2 fi2 fg2 sg2 Code_op Code_set Code_left Code_leftNumber Code_right Code_rightNumber Q) (hbQ : b < Q.1) (hjQ : j < Q.2.1 b) (hi : a1.toNatClampNeg = fsm Q.2.1 b + j) (hc : cdP bl Code_lines fi fg sg Code_op2 Code_set2 Code_left2 Code_leftNumber2 Code_right2 Code_rightNumber2 s.1) (h0 : 0 < s.1.1) (h100 : 100 ≤ s.2) (hn : Giver_names.toInt = (s.2 : Int)) (hb1 : (spLn (fun v => (Giver_slotOf v).toInt) (Q.2.2.1 b j) s).2 ≤ 720) (hb2 : lsm (spLn (fun v => (Giver_slotOf v).toInt) (Q.2.2.1 b j) s).1 ≤ 920) (h : tr_Giver_spillLine a1 Giver_names Giver_slotOf Code_lines Code_isFull Code_op Code_set Code_left Code_leftNumber Code_right Code_rightNumber Code_op2 Code_set2 Code_left2 Code_leftNumber2 Code_right2 Code_rightNumber2 o1 o2 o3 o4 o5 o6 o7 o8 o9) : o1.toInt = ((spLn (fun v => (Giver_slotOf v).toInt) (Q.2.2.1 b j) s).2 : Int) ∧ cdP bl o2 fi fg sg o4 o5 o6 o7 o8 o9 (spLn (fun v => (Giver_slotOf v).toInt) (Q.2.2.1 b j) s).1 ∧ o3 = Code_isFull := by
  obtain ⟨d0, d1, d2, d3, d4, d5⟩ := hq.2.2.2 b j hbQ hjQ
  rw [← hi] at d0 d1 d2 d3 d4 d5
  have wk := spW_k (so := (fun v => (Giver_slotOf v).toInt)) (l := (Q.2.2.1 b j)) (a := ldV (fun v => (Giver_slotOf v).toInt) ((Q.2.2.1 b j) 2) s.2) (c := spV (fun v => (Giver_slotOf v).toInt) (Q.2.2.1 b j) s) (spR_1 (so := (fun v => (Giver_slotOf v).toInt)) (l := (Q.2.2.1 b j)) h0) (spR_2 (so := (fun v => (Giver_slotOf v).toInt)) (l := (Q.2.2.1 b j)) h100)
  have r0 := spR_1 (so := (fun v => (Giver_slotOf v).toInt)) (l := (Q.2.2.1 b j)) h0
  have k2 := ldN_k (so := (fun v => (Giver_slotOf v).toInt)) (x := (Q.2.2.1 b j) 2) h0 h100
  have k4 := ldN_k (so := (fun v => (Giver_slotOf v).toInt)) (x := (Q.2.2.1 b j) 4) (ldN_1 (so := (fun v => (Giver_slotOf v).toInt)) (x := (Q.2.2.1 b j) 2) h0) (ldN_2 (so := (fun v => (Giver_slotOf v).toInt)) (x := (Q.2.2.1 b j) 2) h100)
  have w1 : (spR (fun v => (Giver_slotOf v).toInt) (Q.2.2.1 b j) s).2 ≤ (spLn (fun v => (Giver_slotOf v).toInt) (Q.2.2.1 b j) s).2 := wk.2.1
  have w2 : lsm (spR (fun v => (Giver_slotOf v).toInt) (Q.2.2.1 b j) s).1 ≤ lsm (spLn (fun v => (Giver_slotOf v).toInt) (Q.2.2.1 b j) s).1 := wk.2.2.1
  refine h (fun o1 o2 o3 o4 o5 o6 o7 o8 o9 => o1.toInt = ((spLn (fun v => (Giver_slotOf v).toInt) (Q.2.2.1 b j) s).2 : Int) ∧ cdP bl o2 fi fg sg o4 o5 o6 o7 o8 o9 (spLn (fun v => (Giver_slotOf v).toInt) (Q.2.2.1 b j) s).1 ∧ o3 = Code_isFull) ?_ ?_ ?_ ?_ ?_ ?_ ?_ ?_
  · intro x1 x2 x3 x4 x5 x6 x7 x8 x9 x10 x11 x12 x13 x14 x15 x16 x17 x18 x19 x20 x21 x22 x23 x24 x25 x26 x27 x28 x29 x30 x31 x32 x33 x34 h1 h2 h3 h4 h5 h6 h7 h8 h9 h10 h11 h12 h13 h14 h15 h16 h17 h18 h19 h20
    rw [← h1] at d2
    rw [← h6] at d4
    rw [← h12] at d1
    rw [← h14] at d0
    rw [← h16] at d3
    rw [← h17] at d5
    have e42 : ¬ (Q.2.2.1 b j) 4 = (Q.2.2.1 b j) 2 := by omega
    have eR : spR (fun v => (Giver_slotOf v).toInt) (Q.2.2.1 b j) s = ldN (fun v => (Giver_slotOf v).toInt) ((Q.2.2.1 b j) 4) (ldN (fun v => (Giver_slotOf v).toInt) ((Q.2.2.1 b j) 2) s) := if_neg e42
    have eV : spV (fun v => (Giver_slotOf v).toInt) (Q.2.2.1 b j) s = ldV (fun v => (Giver_slotOf v).toInt) ((Q.2.2.1 b j) 4) (ldN (fun v => (Giver_slotOf v).toInt) ((Q.2.2.1 b j) 2) s).2 := if_neg e42
    have m1 : (ldN (fun v => (Giver_slotOf v).toInt) ((Q.2.2.1 b j) 2) s).2 ≤ (spR (fun v => (Giver_slotOf v).toInt) (Q.2.2.1 b j) s).2 := by rw [eR]; exact k4.2.1
    have m2 : lsm (ldN (fun v => (Giver_slotOf v).toInt) ((Q.2.2.1 b j) 2) s).1 ≤ lsm (spR (fun v => (Giver_slotOf v).toInt) (Q.2.2.1 b j) s).1 := by rw [eR]; exact k4.2.2.1
    obtain ⟨p1, p2, p3, p4⟩ := lod_tr (s := s) hc h0 hn (by rw [d2]; omega) (by rw [d2]; omega) h5
    rw [d2] at p1 p2 p3
    obtain ⟨q1, q2, q3, q4⟩ := lod_tr (s := ldN (fun v => (Giver_slotOf v).toInt) ((Q.2.2.1 b j) 2) s) p3 (ldN_1 h0) p2 (by rw [d4, ← eR]; omega) (by rw [d4, ← eR]; omega) h11
    rw [d4] at q1 q2 q3
    rw [← eR] at q2 q3
    rw [← eV] at q1
    rw [p4] at q4
    have sf := sfo_tr h13
    rw [d1] at sf
    have e1 : slf (fun v => (Giver_slotOf v).toInt) ((Q.2.2.1 b j) 1) = -1 := sf.symm.trans (by decide)
    have eL : spLn (fun v => (Giver_slotOf v).toInt) (Q.2.2.1 b j) s = (pgL (spR (fun v => (Giver_slotOf v).toInt) (Q.2.2.1 b j) s).1 (mkL ((Q.2.2.1 b j) 0) ((Q.2.2.1 b j) 1) (ldV (fun v => (Giver_slotOf v).toInt) ((Q.2.2.1 b j) 2) s.2) ((Q.2.2.1 b j) 3) (spV (fun v => (Giver_slotOf v).toInt) (Q.2.2.1 b j) s) ((Q.2.2.1 b j) 5)), (spR (fun v => (Giver_slotOf v).toInt) (Q.2.2.1 b j) s).2) := if_pos e1
    rw [eL] at hb2 ⊢
    have hb2' : lsm (pgL (spR (fun v => (Giver_slotOf v).toInt) (Q.2.2.1 b j) s).1 (mkL ((Q.2.2.1 b j) 0) ((Q.2.2.1 b j) 1) (ldV (fun v => (Giver_slotOf v).toInt) ((Q.2.2.1 b j) 2) s.2) ((Q.2.2.1 b j) 3) (spV (fun v => (Giver_slotOf v).toInt) (Q.2.2.1 b j) s) ((Q.2.2.1 b j) 5))) ≤ 920 := hb2
    rw [lsm_L r0] at hb2'
    have hl := q3.2.1
    unfold lsm at hb2'
    have ad := add_tr2 h20 q3 (by omega) r0
    have a3 := add_tr3 h20 (by omega)
    rw [d0, d1, p1, d3, q1, d5] at ad
    exact ⟨q2, ad, a3.trans q4⟩
  · intro x1 x2 x3 x4 x5 x6 x7 x8 x9 x10 x11 x12 x13 x14 x15 x16 x17 x18 x19 x20 x21 x22 x23 x24 x25 x26 x27 x28 x29 x30 x31 x32 x33 x34 x35 x36 x37 x38 h1 h2 h3 h4 h5 h6 h7 h8 h9 h10 h11 h12 h13 h14 h15 h16 h17 h18 h19 h20 h21 h22 h23 h24 h25 h26
    rw [← h1] at d2
    rw [← h6] at d4
    rw [← h12] at d1
    rw [← h19] at d0
    rw [← h21] at d3
    rw [← h22] at d5
    have e42 : ¬ (Q.2.2.1 b j) 4 = (Q.2.2.1 b j) 2 := by omega
    have eR : spR (fun v => (Giver_slotOf v).toInt) (Q.2.2.1 b j) s = ldN (fun v => (Giver_slotOf v).toInt) ((Q.2.2.1 b j) 4) (ldN (fun v => (Giver_slotOf v).toInt) ((Q.2.2.1 b j) 2) s) := if_neg e42
    have eV : spV (fun v => (Giver_slotOf v).toInt) (Q.2.2.1 b j) s = ldV (fun v => (Giver_slotOf v).toInt) ((Q.2.2.1 b j) 4) (ldN (fun v => (Giver_slotOf v).toInt) ((Q.2.2.1 b j) 2) s).2 := if_neg e42
    have m1 : (ldN (fun v => (Giver_slotOf v).toInt) ((Q.2.2.1 b j) 2) s).2 ≤ (spR (fun v => (Giver_slotOf v).toInt) (Q.2.2.1 b j) s).2 := by rw [eR]; exact k4.2.1
    have m2 : lsm (ldN (fun v => (Giver_slotOf v).toInt) ((Q.2.2.1 b j) 2) s).1 ≤ lsm (spR (fun v => (Giver_slotOf v).toInt) (Q.2.2.1 b j) s).1 := by rw [eR]; exact k4.2.2.1
    obtain ⟨p1, p2, p3, p4⟩ := lod_tr (s := s) hc h0 hn (by rw [d2]; omega) (by rw [d2]; omega) h5
    rw [d2] at p1 p2 p3
    obtain ⟨q1, q2, q3, q4⟩ := lod_tr (s := ldN (fun v => (Giver_slotOf v).toInt) ((Q.2.2.1 b j) 2) s) p3 (ldN_1 h0) p2 (by rw [d4, ← eR]; omega) (by rw [d4, ← eR]; omega) h11
    rw [d4] at q1 q2 q3
    rw [← eR] at q2 q3
    rw [← eV] at q1
    rw [p4] at q4
    have sf := sfo_tr h13
    rw [d1] at sf
    exact absurd h26 h14
  · intro x1 x2 x3 x4 x5 x6 x7 x8 x9 x10 x11 x12 x13 x14 x15 x16 x17 x18 x19 x20 x21 x22 x23 x24 x25 x26 x27 x28 x29 x30 x31 x32 x33 x34 x35 x36 x37 x38 x39 x40 x41 x42 x43 x44 x45 x46 h1 h2 h3 h4 h5 h6 h7 h8 h9 h10 h11 h12 h13 h14 h15 h16 h17 h18 h19 h20 h21 h22 h23 h24 h25 h26 h27 h28 h29
    rw [← h1] at d2
    rw [← h6] at d4
    rw [← h12] at d1
    rw [← h19] at d0
    rw [← h21] at d3
    rw [← h22] at d5
    have e42 : ¬ (Q.2.2.1 b j) 4 = (Q.2.2.1 b j) 2 := by omega
    have eR : spR (fun v => (Giver_slotOf v).toInt) (Q.2.2.1 b j) s = ldN (fun v => (Giver_slotOf v).toInt) ((Q.2.2.1 b j) 4) (ldN (fun v => (Giver_slotOf v).toInt) ((Q.2.2.1 b j) 2) s) := if_neg e42
    have eV : spV (fun v => (Giver_slotOf v).toInt) (Q.2.2.1 b j) s = ldV (fun v => (Giver_slotOf v).toInt) ((Q.2.2.1 b j) 4) (ldN (fun v => (Giver_slotOf v).toInt) ((Q.2.2.1 b j) 2) s).2 := if_neg e42
    have m1 : (ldN (fun v => (Giver_slotOf v).toInt) ((Q.2.2.1 b j) 2) s).2 ≤ (spR (fun v => (Giver_slotOf v).toInt) (Q.2.2.1 b j) s).2 := by rw [eR]; exact k4.2.1
    have m2 : lsm (ldN (fun v => (Giver_slotOf v).toInt) ((Q.2.2.1 b j) 2) s).1 ≤ lsm (spR (fun v => (Giver_slotOf v).toInt) (Q.2.2.1 b j) s).1 := by rw [eR]; exact k4.2.2.1
    obtain ⟨p1, p2, p3, p4⟩ := lod_tr (s := s) hc h0 hn (by rw [d2]; omega) (by rw [d2]; omega) h5
    rw [d2] at p1 p2 p3
    obtain ⟨q1, q2, q3, q4⟩ := lod_tr (s := ldN (fun v => (Giver_slotOf v).toInt) ((Q.2.2.1 b j) 2) s) p3 (ldN_1 h0) p2 (by rw [d4, ← eR]; omega) (by rw [d4, ← eR]; omega) h11
    rw [d4] at q1 q2 q3
    rw [← eR] at q2 q3
    rw [← eV] at q1
    rw [p4] at q4
    have sf := sfo_tr h13
    rw [d1] at sf
    have e1 : ¬ slf (fun v => (Giver_slotOf v).toInt) ((Q.2.2.1 b j) 1) = -1 := fun z => h14 (sf.trans z)
    have eL : spLn (fun v => (Giver_slotOf v).toInt) (Q.2.2.1 b j) s = (pgL (pgL (spR (fun v => (Giver_slotOf v).toInt) (Q.2.2.1 b j) s).1 (mkL ((Q.2.2.1 b j) 0) ((spR (fun v => (Giver_slotOf v).toInt) (Q.2.2.1 b j) s).2 : Int) (ldV (fun v => (Giver_slotOf v).toInt) ((Q.2.2.1 b j) 2) s.2) ((Q.2.2.1 b j) 3) (spV (fun v => (Giver_slotOf v).toInt) (Q.2.2.1 b j) s) ((Q.2.2.1 b j) 5))) (mkL 18 (-1) ((spR (fun v => (Giver_slotOf v).toInt) (Q.2.2.1 b j) s).2 : Int) 0 (-1) (slf (fun v => (Giver_slotOf v).toInt) ((Q.2.2.1 b j) 1))), (spR (fun v => (Giver_slotOf v).toInt) (Q.2.2.1 b j) s).2 + 1) := if_neg e1
    rw [eL] at hb1 hb2 ⊢
    have hb1' : (spR (fun v => (Giver_slotOf v).toInt) (Q.2.2.1 b j) s).2 + 1 ≤ 720 := hb1
    have hb2' : lsm (pgL (pgL (spR (fun v => (Giver_slotOf v).toInt) (Q.2.2.1 b j) s).1 (mkL ((Q.2.2.1 b j) 0) ((spR (fun v => (Giver_slotOf v).toInt) (Q.2.2.1 b j) s).2 : Int) (ldV (fun v => (Giver_slotOf v).toInt) ((Q.2.2.1 b j) 2) s.2) ((Q.2.2.1 b j) 3) (spV (fun v => (Giver_slotOf v).toInt) (Q.2.2.1 b j) s) ((Q.2.2.1 b j) 5))) (mkL 18 (-1) ((spR (fun v => (Giver_slotOf v).toInt) (Q.2.2.1 b j) s).2 : Int) 0 (-1) (slf (fun v => (Giver_slotOf v).toInt) ((Q.2.2.1 b j) 1)))) ≤ 920 := hb2
    have r1 : 0 < (pgL (spR (fun v => (Giver_slotOf v).toInt) (Q.2.2.1 b j) s).1 (mkL ((Q.2.2.1 b j) 0) ((spR (fun v => (Giver_slotOf v).toInt) (Q.2.2.1 b j) s).2 : Int) (ldV (fun v => (Giver_slotOf v).toInt) ((Q.2.2.1 b j) 2) s.2) ((Q.2.2.1 b j) 3) (spV (fun v => (Giver_slotOf v).toInt) (Q.2.2.1 b j) s) ((Q.2.2.1 b j) 5))).1 := r0
    rw [lsm_L r1, lsm_L r0] at hb2'
    have hl := q3.2.1
    unfold lsm at hb2'
    obtain ⟨n1, n2, n3⟩ := ntp_tr q2 (by omega) h18
    have ad := add_tr2 h25 q3 (by omega) r0
    have a3 := add_tr3 h25 (by omega)
    rw [d0, n1, p1, d3, q1, d5] at ad
    have hl2 := ad.2.1
    have f1 : fsm (pgL (spR (fun v => (Giver_slotOf v).toInt) (Q.2.2.1 b j) s).1 (mkL ((Q.2.2.1 b j) 0) ((spR (fun v => (Giver_slotOf v).toInt) (Q.2.2.1 b j) s).2 : Int) (ldV (fun v => (Giver_slotOf v).toInt) ((Q.2.2.1 b j) 2) s.2) ((Q.2.2.1 b j) 3) (spV (fun v => (Giver_slotOf v).toInt) (Q.2.2.1 b j) s) ((Q.2.2.1 b j) 5))).2.1 (pgL (spR (fun v => (Giver_slotOf v).toInt) (Q.2.2.1 b j) s).1 (mkL ((Q.2.2.1 b j) 0) ((spR (fun v => (Giver_slotOf v).toInt) (Q.2.2.1 b j) s).2 : Int) (ldV (fun v => (Giver_slotOf v).toInt) ((Q.2.2.1 b j) 2) s.2) ((Q.2.2.1 b j) 3) (spV (fun v => (Giver_slotOf v).toInt) (Q.2.2.1 b j) s) ((Q.2.2.1 b j) 5))).1 = fsm (spR (fun v => (Giver_slotOf v).toInt) (Q.2.2.1 b j) s).1.2.1 (spR (fun v => (Giver_slotOf v).toInt) (Q.2.2.1 b j) s).1.1 + 1 := lsm_L r0
    have ad2 := add_tr2 h29 ad (by omega) r1
    have a4 := add_tr3 h29 (by omega)
    rw [n1, sf, show Int32.toInt 18 = 18 by decide, show Int32.toInt (-1) = -1 by decide, show Int32.toInt 0 = 0 by decide] at ad2
    exact ⟨n2, ad2, a4.trans (a3.trans (n3.trans q4))⟩
  · intro x1 x2 x3 x4 x5 x6 x7 x8 x9 x10 x11 x12 x13 x14 x15 x16 x17 x18 x19 x20 x21 x22 x23 x24 x25 x26 x27 x28 x29 x30 x31 x32 x33 x34 x35 h1 h2 h3 h4 h5 h6 h7 h8 h9 h10 h11 h12 h13 h14 h15 h16 h17 h18 h19 h20 h21
    rw [← h1] at d2
    rw [← h6] at d4
    rw [← h12] at d1
    rw [← h15] at d0
    rw [← h17] at d3
    rw [← h18] at d5
    have e42 : ¬ (Q.2.2.1 b j) 4 = (Q.2.2.1 b j) 2 := by omega
    have eR : spR (fun v => (Giver_slotOf v).toInt) (Q.2.2.1 b j) s = ldN (fun v => (Giver_slotOf v).toInt) ((Q.2.2.1 b j) 4) (ldN (fun v => (Giver_slotOf v).toInt) ((Q.2.2.1 b j) 2) s) := if_neg e42
    have eV : spV (fun v => (Giver_slotOf v).toInt) (Q.2.2.1 b j) s = ldV (fun v => (Giver_slotOf v).toInt) ((Q.2.2.1 b j) 4) (ldN (fun v => (Giver_slotOf v).toInt) ((Q.2.2.1 b j) 2) s).2 := if_neg e42
    have m1 : (ldN (fun v => (Giver_slotOf v).toInt) ((Q.2.2.1 b j) 2) s).2 ≤ (spR (fun v => (Giver_slotOf v).toInt) (Q.2.2.1 b j) s).2 := by rw [eR]; exact k4.2.1
    have m2 : lsm (ldN (fun v => (Giver_slotOf v).toInt) ((Q.2.2.1 b j) 2) s).1 ≤ lsm (spR (fun v => (Giver_slotOf v).toInt) (Q.2.2.1 b j) s).1 := by rw [eR]; exact k4.2.2.1
    obtain ⟨p1, p2, p3, p4⟩ := lod_tr (s := s) hc h0 hn (by rw [d2]; omega) (by rw [d2]; omega) h5
    rw [d2] at p1 p2 p3
    obtain ⟨q1, q2, q3, q4⟩ := lod_tr (s := ldN (fun v => (Giver_slotOf v).toInt) ((Q.2.2.1 b j) 2) s) p3 (ldN_1 h0) p2 (by rw [d4, ← eR]; omega) (by rw [d4, ← eR]; omega) h11
    rw [d4] at q1 q2 q3
    rw [← eR] at q2 q3
    rw [← eV] at q1
    rw [p4] at q4
    have sf := sfo_tr h13
    rw [d1] at sf
    have e1 : slf (fun v => (Giver_slotOf v).toInt) ((Q.2.2.1 b j) 1) = -1 := sf.symm.trans h14
    have eL : spLn (fun v => (Giver_slotOf v).toInt) (Q.2.2.1 b j) s = (pgL (spR (fun v => (Giver_slotOf v).toInt) (Q.2.2.1 b j) s).1 (mkL ((Q.2.2.1 b j) 0) ((Q.2.2.1 b j) 1) (ldV (fun v => (Giver_slotOf v).toInt) ((Q.2.2.1 b j) 2) s.2) ((Q.2.2.1 b j) 3) (spV (fun v => (Giver_slotOf v).toInt) (Q.2.2.1 b j) s) ((Q.2.2.1 b j) 5)), (spR (fun v => (Giver_slotOf v).toInt) (Q.2.2.1 b j) s).2) := if_pos e1
    rw [eL] at hb2 ⊢
    have hb2' : lsm (pgL (spR (fun v => (Giver_slotOf v).toInt) (Q.2.2.1 b j) s).1 (mkL ((Q.2.2.1 b j) 0) ((Q.2.2.1 b j) 1) (ldV (fun v => (Giver_slotOf v).toInt) ((Q.2.2.1 b j) 2) s.2) ((Q.2.2.1 b j) 3) (spV (fun v => (Giver_slotOf v).toInt) (Q.2.2.1 b j) s) ((Q.2.2.1 b j) 5))) ≤ 920 := hb2
    rw [lsm_L r0] at hb2'
    have hl := q3.2.1
    unfold lsm at hb2'
    have ad := add_tr2 h21 q3 (by omega) r0
    have a3 := add_tr3 h21 (by omega)
    rw [d0, d1, p1, d3, q1, d5] at ad
    exact ⟨q2, ad, a3.trans q4⟩
  · intro x1 x2 x3 x4 x5 x6 x7 x8 x9 x10 x11 x12 x13 x14 x15 x16 x17 x18 x19 x20 x21 x22 x23 x24 h1 h2 h3 h4 h5 h6 h7 h8 h9 h10 h11 h12 h13 h14 h15 h16
    rw [← h1] at d2
    rw [← h6] at d4
    rw [← h8] at d1
    rw [← h10] at d0
    rw [← h12] at d3
    rw [← h13] at d5
    have e42 : (Q.2.2.1 b j) 4 = (Q.2.2.1 b j) 2 := by omega
    have eR : spR (fun v => (Giver_slotOf v).toInt) (Q.2.2.1 b j) s = ldN (fun v => (Giver_slotOf v).toInt) ((Q.2.2.1 b j) 2) s := if_pos e42
    have eV : spV (fun v => (Giver_slotOf v).toInt) (Q.2.2.1 b j) s = ldV (fun v => (Giver_slotOf v).toInt) ((Q.2.2.1 b j) 2) s.2 := if_pos e42
    obtain ⟨p1, p2, p3, p4⟩ := lod_tr (s := s) hc h0 hn (by rw [d2, ← eR]; omega) (by rw [d2, ← eR]; omega) h5
    rw [d2] at p1 p2 p3
    rw [← eR] at p2 p3
    have q1 : x2.toInt = spV (fun v => (Giver_slotOf v).toInt) (Q.2.2.1 b j) s := p1.trans eV.symm
    have q2 := p2
    have q3 := p3
    have q4 := p4
    have sf := sfo_tr h9
    rw [d1] at sf
    have e1 : slf (fun v => (Giver_slotOf v).toInt) ((Q.2.2.1 b j) 1) = -1 := sf.symm.trans (by decide)
    have eL : spLn (fun v => (Giver_slotOf v).toInt) (Q.2.2.1 b j) s = (pgL (spR (fun v => (Giver_slotOf v).toInt) (Q.2.2.1 b j) s).1 (mkL ((Q.2.2.1 b j) 0) ((Q.2.2.1 b j) 1) (ldV (fun v => (Giver_slotOf v).toInt) ((Q.2.2.1 b j) 2) s.2) ((Q.2.2.1 b j) 3) (spV (fun v => (Giver_slotOf v).toInt) (Q.2.2.1 b j) s) ((Q.2.2.1 b j) 5)), (spR (fun v => (Giver_slotOf v).toInt) (Q.2.2.1 b j) s).2) := if_pos e1
    rw [eV] at eL
    rw [eL] at hb2 ⊢
    have hb2' : lsm (pgL (spR (fun v => (Giver_slotOf v).toInt) (Q.2.2.1 b j) s).1 (mkL ((Q.2.2.1 b j) 0) ((Q.2.2.1 b j) 1) (ldV (fun v => (Giver_slotOf v).toInt) ((Q.2.2.1 b j) 2) s.2) ((Q.2.2.1 b j) 3) (ldV (fun v => (Giver_slotOf v).toInt) ((Q.2.2.1 b j) 2) s.2) ((Q.2.2.1 b j) 5))) ≤ 920 := hb2
    rw [lsm_L r0] at hb2'
    have hl := q3.2.1
    unfold lsm at hb2'
    have ad := add_tr2 h16 q3 (by omega) r0
    have a3 := add_tr3 h16 (by omega)
    rw [d0, d1, p1, d3, d5] at ad
    exact ⟨q2, ad, a3.trans q4⟩
  · intro x1 x2 x3 x4 x5 x6 x7 x8 x9 x10 x11 x12 x13 x14 x15 x16 x17 x18 x19 x20 x21 x22 x23 x24 x25 x26 x27 x28 h1 h2 h3 h4 h5 h6 h7 h8 h9 h10 h11 h12 h13 h14 h15 h16 h17 h18 h19 h20 h21 h22
    rw [← h1] at d2
    rw [← h6] at d4
    rw [← h8] at d1
    rw [← h15] at d0
    rw [← h17] at d3
    rw [← h18] at d5
    have e42 : (Q.2.2.1 b j) 4 = (Q.2.2.1 b j) 2 := by omega
    have eR : spR (fun v => (Giver_slotOf v).toInt) (Q.2.2.1 b j) s = ldN (fun v => (Giver_slotOf v).toInt) ((Q.2.2.1 b j) 2) s := if_pos e42
    have eV : spV (fun v => (Giver_slotOf v).toInt) (Q.2.2.1 b j) s = ldV (fun v => (Giver_slotOf v).toInt) ((Q.2.2.1 b j) 2) s.2 := if_pos e42
    obtain ⟨p1, p2, p3, p4⟩ := lod_tr (s := s) hc h0 hn (by rw [d2, ← eR]; omega) (by rw [d2, ← eR]; omega) h5
    rw [d2] at p1 p2 p3
    rw [← eR] at p2 p3
    have q1 : x2.toInt = spV (fun v => (Giver_slotOf v).toInt) (Q.2.2.1 b j) s := p1.trans eV.symm
    have q2 := p2
    have q3 := p3
    have q4 := p4
    have sf := sfo_tr h9
    rw [d1] at sf
    exact absurd h22 h10
  · intro x1 x2 x3 x4 x5 x6 x7 x8 x9 x10 x11 x12 x13 x14 x15 x16 x17 x18 x19 x20 x21 x22 x23 x24 x25 x26 x27 x28 x29 x30 x31 x32 x33 x34 x35 x36 h1 h2 h3 h4 h5 h6 h7 h8 h9 h10 h11 h12 h13 h14 h15 h16 h17 h18 h19 h20 h21 h22 h23 h24 h25
    rw [← h1] at d2
    rw [← h6] at d4
    rw [← h8] at d1
    rw [← h15] at d0
    rw [← h17] at d3
    rw [← h18] at d5
    have e42 : (Q.2.2.1 b j) 4 = (Q.2.2.1 b j) 2 := by omega
    have eR : spR (fun v => (Giver_slotOf v).toInt) (Q.2.2.1 b j) s = ldN (fun v => (Giver_slotOf v).toInt) ((Q.2.2.1 b j) 2) s := if_pos e42
    have eV : spV (fun v => (Giver_slotOf v).toInt) (Q.2.2.1 b j) s = ldV (fun v => (Giver_slotOf v).toInt) ((Q.2.2.1 b j) 2) s.2 := if_pos e42
    obtain ⟨p1, p2, p3, p4⟩ := lod_tr (s := s) hc h0 hn (by rw [d2, ← eR]; omega) (by rw [d2, ← eR]; omega) h5
    rw [d2] at p1 p2 p3
    rw [← eR] at p2 p3
    have q1 : x2.toInt = spV (fun v => (Giver_slotOf v).toInt) (Q.2.2.1 b j) s := p1.trans eV.symm
    have q2 := p2
    have q3 := p3
    have q4 := p4
    have sf := sfo_tr h9
    rw [d1] at sf
    have e1 : ¬ slf (fun v => (Giver_slotOf v).toInt) ((Q.2.2.1 b j) 1) = -1 := fun z => h10 (sf.trans z)
    have eL : spLn (fun v => (Giver_slotOf v).toInt) (Q.2.2.1 b j) s = (pgL (pgL (spR (fun v => (Giver_slotOf v).toInt) (Q.2.2.1 b j) s).1 (mkL ((Q.2.2.1 b j) 0) ((spR (fun v => (Giver_slotOf v).toInt) (Q.2.2.1 b j) s).2 : Int) (ldV (fun v => (Giver_slotOf v).toInt) ((Q.2.2.1 b j) 2) s.2) ((Q.2.2.1 b j) 3) (spV (fun v => (Giver_slotOf v).toInt) (Q.2.2.1 b j) s) ((Q.2.2.1 b j) 5))) (mkL 18 (-1) ((spR (fun v => (Giver_slotOf v).toInt) (Q.2.2.1 b j) s).2 : Int) 0 (-1) (slf (fun v => (Giver_slotOf v).toInt) ((Q.2.2.1 b j) 1))), (spR (fun v => (Giver_slotOf v).toInt) (Q.2.2.1 b j) s).2 + 1) := if_neg e1
    rw [eV] at eL
    rw [eL] at hb1 hb2 ⊢
    have hb1' : (spR (fun v => (Giver_slotOf v).toInt) (Q.2.2.1 b j) s).2 + 1 ≤ 720 := hb1
    have hb2' : lsm (pgL (pgL (spR (fun v => (Giver_slotOf v).toInt) (Q.2.2.1 b j) s).1 (mkL ((Q.2.2.1 b j) 0) ((spR (fun v => (Giver_slotOf v).toInt) (Q.2.2.1 b j) s).2 : Int) (ldV (fun v => (Giver_slotOf v).toInt) ((Q.2.2.1 b j) 2) s.2) ((Q.2.2.1 b j) 3) (ldV (fun v => (Giver_slotOf v).toInt) ((Q.2.2.1 b j) 2) s.2) ((Q.2.2.1 b j) 5))) (mkL 18 (-1) ((spR (fun v => (Giver_slotOf v).toInt) (Q.2.2.1 b j) s).2 : Int) 0 (-1) (slf (fun v => (Giver_slotOf v).toInt) ((Q.2.2.1 b j) 1)))) ≤ 920 := hb2
    have r1 : 0 < (pgL (spR (fun v => (Giver_slotOf v).toInt) (Q.2.2.1 b j) s).1 (mkL ((Q.2.2.1 b j) 0) ((spR (fun v => (Giver_slotOf v).toInt) (Q.2.2.1 b j) s).2 : Int) (ldV (fun v => (Giver_slotOf v).toInt) ((Q.2.2.1 b j) 2) s.2) ((Q.2.2.1 b j) 3) (ldV (fun v => (Giver_slotOf v).toInt) ((Q.2.2.1 b j) 2) s.2) ((Q.2.2.1 b j) 5))).1 := r0
    rw [lsm_L r1, lsm_L r0] at hb2'
    have hl := q3.2.1
    unfold lsm at hb2'
    obtain ⟨n1, n2, n3⟩ := ntp_tr q2 (by omega) h14
    have ad := add_tr2 h21 q3 (by omega) r0
    have a3 := add_tr3 h21 (by omega)
    rw [d0, n1, p1, d3, d5] at ad
    have hl2 := ad.2.1
    have f1 : fsm (pgL (spR (fun v => (Giver_slotOf v).toInt) (Q.2.2.1 b j) s).1 (mkL ((Q.2.2.1 b j) 0) ((spR (fun v => (Giver_slotOf v).toInt) (Q.2.2.1 b j) s).2 : Int) (ldV (fun v => (Giver_slotOf v).toInt) ((Q.2.2.1 b j) 2) s.2) ((Q.2.2.1 b j) 3) (ldV (fun v => (Giver_slotOf v).toInt) ((Q.2.2.1 b j) 2) s.2) ((Q.2.2.1 b j) 5))).2.1 (pgL (spR (fun v => (Giver_slotOf v).toInt) (Q.2.2.1 b j) s).1 (mkL ((Q.2.2.1 b j) 0) ((spR (fun v => (Giver_slotOf v).toInt) (Q.2.2.1 b j) s).2 : Int) (ldV (fun v => (Giver_slotOf v).toInt) ((Q.2.2.1 b j) 2) s.2) ((Q.2.2.1 b j) 3) (ldV (fun v => (Giver_slotOf v).toInt) ((Q.2.2.1 b j) 2) s.2) ((Q.2.2.1 b j) 5))).1 = fsm (spR (fun v => (Giver_slotOf v).toInt) (Q.2.2.1 b j) s).1.2.1 (spR (fun v => (Giver_slotOf v).toInt) (Q.2.2.1 b j) s).1.1 + 1 := lsm_L r0
    have ad2 := add_tr2 h25 ad (by omega) r1
    have a4 := add_tr3 h25 (by omega)
    rw [n1, sf, show Int32.toInt 18 = 18 by decide, show Int32.toInt (-1) = -1 by decide, show Int32.toInt 0 = 0 by decide] at ad2
    exact ⟨n2, ad2, a4.trans (a3.trans (n3.trans q4))⟩
  · intro x1 x2 x3 x4 x5 x6 x7 x8 x9 x10 x11 x12 x13 x14 x15 x16 x17 x18 x19 x20 x21 x22 x23 x24 x25 h1 h2 h3 h4 h5 h6 h7 h8 h9 h10 h11 h12 h13 h14 h15 h16 h17
    rw [← h1] at d2
    rw [← h6] at d4
    rw [← h8] at d1
    rw [← h11] at d0
    rw [← h13] at d3
    rw [← h14] at d5
    have e42 : (Q.2.2.1 b j) 4 = (Q.2.2.1 b j) 2 := by omega
    have eR : spR (fun v => (Giver_slotOf v).toInt) (Q.2.2.1 b j) s = ldN (fun v => (Giver_slotOf v).toInt) ((Q.2.2.1 b j) 2) s := if_pos e42
    have eV : spV (fun v => (Giver_slotOf v).toInt) (Q.2.2.1 b j) s = ldV (fun v => (Giver_slotOf v).toInt) ((Q.2.2.1 b j) 2) s.2 := if_pos e42
    obtain ⟨p1, p2, p3, p4⟩ := lod_tr (s := s) hc h0 hn (by rw [d2, ← eR]; omega) (by rw [d2, ← eR]; omega) h5
    rw [d2] at p1 p2 p3
    rw [← eR] at p2 p3
    have q1 : x2.toInt = spV (fun v => (Giver_slotOf v).toInt) (Q.2.2.1 b j) s := p1.trans eV.symm
    have q2 := p2
    have q3 := p3
    have q4 := p4
    have sf := sfo_tr h9
    rw [d1] at sf
    have e1 : slf (fun v => (Giver_slotOf v).toInt) ((Q.2.2.1 b j) 1) = -1 := sf.symm.trans h10
    have eL : spLn (fun v => (Giver_slotOf v).toInt) (Q.2.2.1 b j) s = (pgL (spR (fun v => (Giver_slotOf v).toInt) (Q.2.2.1 b j) s).1 (mkL ((Q.2.2.1 b j) 0) ((Q.2.2.1 b j) 1) (ldV (fun v => (Giver_slotOf v).toInt) ((Q.2.2.1 b j) 2) s.2) ((Q.2.2.1 b j) 3) (spV (fun v => (Giver_slotOf v).toInt) (Q.2.2.1 b j) s) ((Q.2.2.1 b j) 5)), (spR (fun v => (Giver_slotOf v).toInt) (Q.2.2.1 b j) s).2) := if_pos e1
    rw [eV] at eL
    rw [eL] at hb2 ⊢
    have hb2' : lsm (pgL (spR (fun v => (Giver_slotOf v).toInt) (Q.2.2.1 b j) s).1 (mkL ((Q.2.2.1 b j) 0) ((Q.2.2.1 b j) 1) (ldV (fun v => (Giver_slotOf v).toInt) ((Q.2.2.1 b j) 2) s.2) ((Q.2.2.1 b j) 3) (ldV (fun v => (Giver_slotOf v).toInt) ((Q.2.2.1 b j) 2) s.2) ((Q.2.2.1 b j) 5))) ≤ 920 := hb2
    rw [lsm_L r0] at hb2'
    have hl := q3.2.1
    unfold lsm at hb2'
    have ad := add_tr2 h17 q3 (by omega) r0
    have a3 := add_tr3 h17 (by omega)
    rw [d0, d1, p1, d3, d5] at ad
    exact ⟨q2, ad, a3.trans q4⟩
theorem sp41_tl {l1_1 : Int32} {Code_blocks : Int32} {Code_lines : Int32} {Code_first : Nat → Int32} {Giver_slotOf : Nat → Int32} {Code_op : Nat → Int32} {Code_set : Nat → Int32} {Code_left : Nat → Int32} {Code_leftNumber : Nat → Int32} {Code_right : Nat → Int32} {Code_rightNumber : Nat → Int32} {s1 : Int32} {s2 : Int32} {s3 : Int32} {s4 : Int32} {s5 : Nat → Int32} {s6 : Nat → Int32} {s7 : Nat → Int32} {s8 : Nat → Int32} {s9 : Nat → Int32} {s10 : Nat → Int32} {k : Nat} {e1 : Int32} {e2 : Int32} {e3 : Int32} {e4 : Nat → Int32} {e5 : Nat → Int32} {e6 : Nat → Int32} {e7 : Nat → Int32} {e8 : Nat → Int32} {e9 : Nat → Int32} {bl : Int32} {fi fg sg : Nat → Int32} {s : gSp6} {fg2 sg2 : Nat → Int32} (hq : cdP Code_blocks Code_lines Code_first fg2 sg2 Code_op Code_set Code_left Code_leftNumber Code_right Code_rightNumber Q) (ha : l1_1.toInt = (b : Int)) (hbQ : b < Q.1) (h0 : 0 < s.1.1) (h100 : 100 ≤ s.2) (hb1 : (spB (fun v => (Giver_slotOf v).toInt) (Q.2.2.1 b) (Q.2.1 b) s).2 ≤ 720) (hb2 : lsm (spB (fun v => (Giver_slotOf v).toInt) (Q.2.2.1 b) (Q.2.1 b) s).1 ≤ 920) (h : tl_Giver_spill_41 l1_1 Code_blocks Code_lines Code_first Giver_slotOf Code_op Code_set Code_left Code_leftNumber Code_right Code_rightNumber s1 s2 s3 s4 s5 s6 s7 s8 s9 s10 k e1 e2 e3 e4 e5 e6 e7 e8 e9) : ∀ j : Nat, j ≤ Q.2.1 b → s1.toInt = ((fsm Q.2.1 b + j : Nat) : Int) → s2.toInt = ((spB (fun v => (Giver_slotOf v).toInt) (Q.2.2.1 b) j s).2 : Int) → cdP bl s3 fi fg sg s5 s6 s7 s8 s9 s10 (spB (fun v => (Giver_slotOf v).toInt) (Q.2.2.1 b) j s).1 → e1.toInt = ((spB (fun v => (Giver_slotOf v).toInt) (Q.2.2.1 b) (Q.2.1 b) s).2 : Int) ∧ cdP bl e2 fi fg sg e4 e5 e6 e7 e8 e9 (spB (fun v => (Giver_slotOf v).toInt) (Q.2.2.1 b) (Q.2.1 b) s).1 ∧ e3 = s4 := by
  have f2 : fsm Q.2.1 (b + 1) = fsm Q.2.1 b + Q.2.1 b := rfl
  refine h (fun s1 s2 s3 s4 s5 s6 s7 s8 s9 s10 _ e1 e2 e3 e4 e5 e6 e7 e8 e9 => ∀ j : Nat, j ≤ Q.2.1 b → s1.toInt = ((fsm Q.2.1 b + j : Nat) : Int) → s2.toInt = ((spB (fun v => (Giver_slotOf v).toInt) (Q.2.2.1 b) j s).2 : Int) → cdP bl s3 fi fg sg s5 s6 s7 s8 s9 s10 (spB (fun v => (Giver_slotOf v).toInt) (Q.2.2.1 b) j s).1 → e1.toInt = ((spB (fun v => (Giver_slotOf v).toInt) (Q.2.2.1 b) (Q.2.1 b) s).2 : Int) ∧ cdP bl e2 fi fg sg e4 e5 e6 e7 e8 e9 (spB (fun v => (Giver_slotOf v).toInt) (Q.2.2.1 b) (Q.2.1 b) s).1 ∧ e3 = s4) ?_ ?_ ?_ ?_
  · intro l2_2 Giver_names_2 Code_lines_2 Code_isFull_2 Code_op_2 Code_set_2 Code_left_2 Code_leftNumber_2 Code_right_2 Code_rightNumber_2 h1 h2 h3 h4 h5 h6
    intro j hj hs1 hs2 hc
    have be := bE_tr2 hq ha hbQ h5
    have e : j = Q.2.1 b := by omega
    rw [e] at hs2 hc
    exact ⟨hs2, hc, rfl⟩
  · intro l2_2 Giver_names_2 Code_lines_2 Code_isFull_2 Code_op_2 Code_set_2 Code_left_2 Code_leftNumber_2 Code_right_2 Code_rightNumber_2 x1 x2 x3 x4 x5 x6 x7 x8 x9 x10 k e1 e2 e3 e4 e5 e6 e7 e8 e9 h1 h2 h3 h4 h5 h6 h7 h8 h9 h10 h11 ih
    intro j hj hs1 hs2 hc
    have be := bE_tr2 hq ha hbQ h5
    have hj2 : j < Q.2.1 b := by omega
    obtain ⟨-, k2, k3⟩ := spB_k (so := (fun v => (Giver_slotOf v).toInt)) (ls := (Q.2.2.1 b)) h0 h100 j
    have mm := spB_m (so := (fun v => (Giver_slotOf v).toInt)) (ls := (Q.2.2.1 b)) h0 h100 (Q.2.1 b - (j + 1)) (j + 1)
    rw [show j + 1 + (Q.2.1 b - (j + 1)) = Q.2.1 b by omega] at mm
    obtain ⟨r1, r2, r3⟩ := spl_tr hq hbQ hj2 (nnE hs1) hc k2 k3 hs2 (Nat.le_trans mm.1 hb1) (Nat.le_trans mm.2 hb2) h10
    obtain ⟨i1, i2, i3⟩ := ih (j + 1) (by omega) (by omega) r1 r2
    exact ⟨i1, i2, i3.trans r3⟩
  · intro l2_2 Giver_names_2 Code_lines_2 Code_isFull_2 Code_op_2 Code_set_2 Code_left_2 Code_leftNumber_2 Code_right_2 Code_rightNumber_2 x1 h1 h2 h3 h4 h5 h6
    intro j hj hs1 hs2 hc
    have be := bE_tr2 hq ha hbQ h5
    have e : j = Q.2.1 b := by omega
    rw [e] at hs2 hc
    exact ⟨hs2, hc, rfl⟩
  · intro l2_2 Giver_names_2 Code_lines_2 Code_isFull_2 Code_op_2 Code_set_2 Code_left_2 Code_leftNumber_2 Code_right_2 Code_rightNumber_2 x1 x2 x3 x4 x5 x6 x7 x8 x9 x10 x11 k e1 e2 e3 e4 e5 e6 e7 e8 e9 h1 h2 h3 h4 h5 h6 h7 h8 h9 h10 h11 ih
    intro j hj hs1 hs2 hc
    have be := bE_tr2 hq ha hbQ h5
    have hj2 : j < Q.2.1 b := by omega
    obtain ⟨-, k2, k3⟩ := spB_k (so := (fun v => (Giver_slotOf v).toInt)) (ls := (Q.2.2.1 b)) h0 h100 j
    have mm := spB_m (so := (fun v => (Giver_slotOf v).toInt)) (ls := (Q.2.2.1 b)) h0 h100 (Q.2.1 b - (j + 1)) (j + 1)
    rw [show j + 1 + (Q.2.1 b - (j + 1)) = Q.2.1 b by omega] at mm
    obtain ⟨r1, r2, r3⟩ := spl_tr hq hbQ hj2 (nnE hs1) hc k2 k3 hs2 (Nat.le_trans mm.1 hb1) (Nat.le_trans mm.2 hb2) h10
    obtain ⟨i1, i2, i3⟩ := ih (j + 1) (by omega) (by omega) r1 r2
    exact ⟨i1, i2, i3.trans r3⟩
theorem opL3_tr {Code_blocks : Int32} {Code_lines : Int32} {Code_blocks2 : Int32} {Code_first : Nat → Int32} {Code_firstGoal : Nat → Int32} {Code_secondGoal : Nat → Int32} {Code_firstGoal2 : Nat → Int32} {Code_secondGoal2 : Nat → Int32} {o1 : Int32} {o2 : Nat → Int32} {o3 : Nat → Int32} {o4 : Nat → Int32} {P : gPg} {li2 : Int32} {fi2 op2 st2 lf2 ln2 rt2 rn2 op st lf ln rt rn : Nat → Int32} (h : tr_Code_openLike3 Code_blocks Code_lines Code_blocks2 Code_first Code_firstGoal Code_secondGoal Code_firstGoal2 Code_secondGoal2 o1 o2 o3 o4) (hc2 : cdP Code_blocks2 li2 fi2 Code_firstGoal2 Code_secondGoal2 op2 st2 lf2 ln2 rt2 rn2 P) (hc : cdP Code_blocks Code_lines Code_first Code_firstGoal Code_secondGoal op st lf ln rt rn Q) (hlt : Q.1 < P.1) (h40 : P.1 ≤ 40) : cdP o1 Code_lines o2 o3 o4 op st lf ln rt rn (pgOL P Q) := by
  have c1 := hc.1
  have c2 := hc2.1
  refine h (fun o1 o2 o3 o4 => cdP o1 Code_lines o2 o3 o4 op st lf ln rt rn (pgOL P Q)) ?_ ?_ ?_
  · intro h1
    omega
  · intro x1 x2 x3 x4 x5 h1 h2 h3 h4 h5
    obtain ⟨q1, -⟩ := opB_tr2 h4 hc (by omega)
    omega
  · intro x1 x2 x3 x4 x5 x6 x7 x8 x9 h1 h2 h3 h4 h5 h6 h7 h8 h9
    obtain ⟨q1, q2⟩ := opB_tr2 h4 hc (by omega)
    have e := nnE c1
    rw [e] at h6 h7 h8 h9
    obtain ⟨g0, g1⟩ := (hc2.2.2.1 Q.1 hlt).2
    exact cdP_OL q2 h7 h9 (by rw [h6]; exact g0) (by rw [h8]; exact g1)
theorem sp9_tl {Code_blocks : Int32} {Code_firstGoal : Nat → Int32} {Code_secondGoal : Nat → Int32} {Code_first : Nat → Int32} {Code_lines : Int32} {Giver_slotOf : Nat → Int32} {Code_op : Nat → Int32} {Code_set : Nat → Int32} {Code_left : Nat → Int32} {Code_leftNumber : Nat → Int32} {Code_right : Nat → Int32} {Code_rightNumber : Nat → Int32} {s1 : Int32} {s2 : Int32} {s3 : Nat → Int32} {s4 : Nat → Int32} {s5 : Nat → Int32} {s6 : Int32} {s7 : Int32} {s8 : Int32} {s9 : Nat → Int32} {s10 : Nat → Int32} {s11 : Nat → Int32} {s12 : Nat → Int32} {s13 : Nat → Int32} {s14 : Nat → Int32} {k : Nat} {e1 : Int32} {e2 : Int32} {e3 : Int32} {e4 : Int32} {e5 : Nat → Int32} {e6 : Nat → Int32} {e7 : Nat → Int32} {e8 : Nat → Int32} {e9 : Nat → Int32} {e10 : Nat → Int32} {e11 : Nat → Int32} {e12 : Nat → Int32} {e13 : Nat → Int32} (hq : cdP Code_blocks Code_lines Code_first Code_firstGoal Code_secondGoal Code_op Code_set Code_left Code_leftNumber Code_right Code_rightNumber Q) (h40 : Q.1 ≤ 40) (hnm : 100 ≤ nm) (hb1 : (spP (fun v => (Giver_slotOf v).toInt) Q nm Q.1).2 ≤ 720) (hb2 : lsm (spP (fun v => (Giver_slotOf v).toInt) Q nm Q.1).1 ≤ 920) (h : tl_Giver_spill_9 Code_blocks Code_firstGoal Code_secondGoal Code_first Code_lines Giver_slotOf Code_op Code_set Code_left Code_leftNumber Code_right Code_rightNumber s1 s2 s3 s4 s5 s6 s7 s8 s9 s10 s11 s12 s13 s14 k e1 e2 e3 e4 e5 e6 e7 e8 e9 e10 e11 e12 e13) : ∀ b : Nat, b ≤ Q.1 → s1.toInt = (b : Int) → s6.toInt = ((spP (fun v => (Giver_slotOf v).toInt) Q nm b).2 : Int) → cdP s2 s7 s3 s4 s5 s9 s10 s11 s12 s13 s14 (spP (fun v => (Giver_slotOf v).toInt) Q nm b).1 → e1.toInt = ((spP (fun v => (Giver_slotOf v).toInt) Q nm Q.1).2 : Int) ∧ cdP e2 e3 e5 e6 e7 e8 e9 e10 e11 e12 e13 (spP (fun v => (Giver_slotOf v).toInt) Q nm Q.1).1 ∧ e4 = s8 := by
  refine h (fun s1 s2 s3 s4 s5 s6 s7 s8 s9 s10 s11 s12 s13 s14 _ e1 e2 e3 e4 e5 e6 e7 e8 e9 e10 e11 e12 e13 => ∀ b : Nat, b ≤ Q.1 → s1.toInt = (b : Int) → s6.toInt = ((spP (fun v => (Giver_slotOf v).toInt) Q nm b).2 : Int) → cdP s2 s7 s3 s4 s5 s9 s10 s11 s12 s13 s14 (spP (fun v => (Giver_slotOf v).toInt) Q nm b).1 → e1.toInt = ((spP (fun v => (Giver_slotOf v).toInt) Q nm Q.1).2 : Int) ∧ cdP e2 e3 e5 e6 e7 e8 e9 e10 e11 e12 e13 (spP (fun v => (Giver_slotOf v).toInt) Q nm Q.1).1 ∧ e4 = s8) ?_ ?_
  · intro l1_1 Code_blocks_1 Code_first_1 Code_firstGoal_1 Code_secondGoal_1 Giver_names_1 Code_lines_1 Code_isFull_1 Code_op_1 Code_set_1 Code_left_1 Code_leftNumber_1 Code_right_1 Code_rightNumber_1 h1 h2 h3 h4 h5 h6
    intro b hb hs hn hc
    have e : b = Q.1 := by have := hq.1; omega
    rw [e] at hn hc
    exact ⟨hn, hc, rfl⟩
  · intro l1_1 Code_blocks_1 Code_first_1 Code_firstGoal_1 Code_secondGoal_1 Giver_names_1 Code_lines_1 Code_isFull_1 Code_op_1 Code_set_1 Code_left_1 Code_leftNumber_1 Code_right_1 Code_rightNumber_1 x1 x2 x3 x4 x5 x6 x7 x8 x9 x10 x11 x12 x13 x14 x15 k e1 e2 e3 e4 e5 e6 e7 e8 e9 e10 e11 e12 e13 h1 h2 h3 h4 h5 h6 h7 h8 h9 h10 h11 h12 ih
    intro b hb hs hn hc
    have hb2' : b < Q.1 := by have := hq.1; omega
    obtain ⟨k1, k2, -, -⟩ := spP_k (so := (fun v => (Giver_slotOf v).toInt)) (Q := Q) hnm b
    have op := opL3_tr h8 hq hc (by rw [k1]; exact hb2') h40
    have mm := spP_m (so := (fun v => (Giver_slotOf v).toInt)) (Q := Q) hnm (Q.1 - (b + 1)) (b + 1)
    rw [show b + 1 + (Q.1 - (b + 1)) = Q.1 by omega] at mm
    rw [nnE hs] at h9
    obtain ⟨r1, r2, r3⟩ := sp41_tl (s := (pgOL Q (spP (fun v => (Giver_slotOf v).toInt) Q nm b).1, (spP (fun v => (Giver_slotOf v).toInt) Q nm b).2)) hq hs hb2' (Nat.succ_pos _) k2 (Nat.le_trans mm.1 hb1) (Nat.le_trans mm.2 hb2) h11 0 (Nat.zero_le _) (by rw [h9]; exact (hq.2.2.1 b hb2').1) hn op
    obtain ⟨i1, i2, i3⟩ := ih (b + 1) hb2' (by omega) r1 r2
    exact ⟨i1, i2, i3.trans r3⟩
theorem spa_tr {Giver_names : Int32} {Giver_slotOf : Nat → Int32} {Code_blocks : Int32} {Code_lines : Int32} {Code_isFull : Int32} {Code_first : Nat → Int32} {Code_firstGoal : Nat → Int32} {Code_secondGoal : Nat → Int32} {Code_op : Nat → Int32} {Code_set : Nat → Int32} {Code_left : Nat → Int32} {Code_leftNumber : Nat → Int32} {Code_right : Nat → Int32} {Code_rightNumber : Nat → Int32} {Code_first2 : Nat → Int32} {Code_firstGoal2 : Nat → Int32} {Code_secondGoal2 : Nat → Int32} {Code_op2 : Nat → Int32} {Code_set2 : Nat → Int32} {Code_left2 : Nat → Int32} {Code_leftNumber2 : Nat → Int32} {Code_right2 : Nat → Int32} {Code_rightNumber2 : Nat → Int32} {o1 : Int32} {o2 : Int32} {o3 : Int32} {o4 : Int32} {o5 : Int32} {o6 : Int32} {o7 : Int32} {o8 : Nat → Int32} {o9 : Nat → Int32} {o10 : Nat → Int32} {o11 : Nat → Int32} {o12 : Nat → Int32} {o13 : Nat → Int32} {o14 : Nat → Int32} {o15 : Nat → Int32} {o16 : Nat → Int32} {o17 : Nat → Int32} {o18 : Nat → Int32} {o19 : Nat → Int32} {o20 : Nat → Int32} {o21 : Nat → Int32} {o22 : Nat → Int32} {o23 : Nat → Int32} {o24 : Nat → Int32} {o25 : Nat → Int32} (hq : cdP Code_blocks Code_lines Code_first Code_firstGoal Code_secondGoal Code_op Code_set Code_left Code_leftNumber Code_right Code_rightNumber Q) (h40 : Q.1 ≤ 40) (hnm : 100 ≤ nm) (hb1 : (spP (fun v => (Giver_slotOf v).toInt) Q nm Q.1).2 ≤ 720) (hb2 : lsm (spP (fun v => (Giver_slotOf v).toInt) Q nm Q.1).1 ≤ 920) (hn : Giver_names.toInt = (nm : Int)) (h : tr_Giver_spill Giver_names Giver_slotOf Code_blocks Code_lines Code_isFull Code_first Code_firstGoal Code_secondGoal Code_op Code_set Code_left Code_leftNumber Code_right Code_rightNumber Code_first2 Code_firstGoal2 Code_secondGoal2 Code_op2 Code_set2 Code_left2 Code_leftNumber2 Code_right2 Code_rightNumber2 o1 o2 o3 o4 o5 o6 o7 o8 o9 o10 o11 o12 o13 o14 o15 o16 o17 o18 o19 o20 o21 o22 o23 o24 o25) : o1.toInt = ((spP (fun v => (Giver_slotOf v).toInt) Q nm Q.1).2 : Int) ∧ cdP o2 o3 o8 o9 o10 o11 o12 o13 o14 o15 o16 (spP (fun v => (Giver_slotOf v).toInt) Q nm Q.1).1 ∧ o4.toInt = 0 := by
  refine h (fun o1 o2 o3 o4 o5 o6 o7 o8 o9 o10 o11 o12 o13 o14 o15 o16 o17 o18 o19 o20 o21 o22 o23 o24 o25 => o1.toInt = ((spP (fun v => (Giver_slotOf v).toInt) Q nm Q.1).2 : Int) ∧ cdP o2 o3 o8 o9 o10 o11 o12 o13 o14 o15 o16 (spP (fun v => (Giver_slotOf v).toInt) Q nm Q.1).1 ∧ o4.toInt = 0) ?_
  · intro x1 x2 x3 x4 x5 x6 x7 x8 x9 x10 x11 x12 x13 x14 x15 x16 h1 h2 h3 h4 h5
    have cl : x1.toInt = 0 ∧ x2.toInt = 0 ∧ x3.toInt = 0 := h4 (fun x1 x2 x3 => x1.toInt = 0 ∧ x2.toInt = 0 ∧ x3.toInt = 0) ⟨by decide, by decide, by decide⟩
    obtain ⟨r1, r2, r3⟩ := sp9_tl hq h40 hnm hb1 hb2 h5 0 (Nat.zero_le _) (by decide) hn (cdP_O cl.1 cl.2.1)
    exact ⟨r1, r2, by rw [r3]; exact cl.2.2⟩
end GVC
end
section
/-! giving out, over programs: what the rounds keep, where they begin -/
section GVP
variable {so so2 : Nat → Int} {l : Nat → Int} {Q R P : gPg} {s : gSp6} {nm n v sl : Nat} {k : Int} {U : Nat → Prop}
theorem spLn_c (h1 : slf so (l 1) = slf so2 (l 1)) (h2 : slf so (l 2) = slf so2 (l 2)) (h4 : slf so (l 4) = slf so2 (l 4)) : spLn so l s = spLn so2 l s := by
  simp only [spLn, spW, spV, spR, ldN, ldV, h1, h2, h4]
theorem spB_c {ls : Nat → Nat → Int} : ∀ m, (∀ j, j < m → ∀ f, f = 1 ∨ f = 2 ∨ f = 4 → slf so (ls j f) = slf so2 (ls j f)) → spB so ls m s = spB so2 ls m s
  | 0, _ => rfl
  | m + 1, h => by
    show spLn so (ls m) (spB so ls m s) = spLn so2 (ls m) (spB so2 ls m s)
    rw [spB_c m (fun j hj => h j (by omega))]
    exact spLn_c (h m (Nat.lt_succ_self m) 1 (Or.inl rfl)) (h m (Nat.lt_succ_self m) 2 (Or.inr (Or.inl rfl))) (h m (Nat.lt_succ_self m) 4 (Or.inr (Or.inr rfl)))
theorem spP_c : ∀ b, (∀ c j, c < b → j < Q.2.1 c → ∀ f, f = 1 ∨ f = 2 ∨ f = 4 → slf so (Q.2.2.1 c j f) = slf so2 (Q.2.2.1 c j f)) → spP so Q nm b = spP so2 Q nm b
  | 0, _ => rfl
  | b + 1, h => by
    show spB so (Q.2.2.1 b) (Q.2.1 b) (pgOL Q (spP so Q nm b).1, (spP so Q nm b).2) = spB so2 (Q.2.2.1 b) (Q.2.1 b) (pgOL Q (spP so2 Q nm b).1, (spP so2 Q nm b).2)
    rw [spP_c b (fun c j hc => h c j (by omega))]
    exact spB_c _ (fun j hj => h b j (Nat.lt_succ_self b) hj)
/-- a name in a line stands in the program -/
theorem Sd_f {b j f : Nat} (hb : b < Q.1) (hj : j < Q.2.1 b) (hf : f = 1 ∨ f = 2 ∨ f = 4) (h0 : 0 ≤ Q.2.2.1 b j f) (h1 : Q.2.2.1 b j f < 2000) : Sd Q false 2000 (Q.2.2.1 b j f).toNat := by
  refine ⟨by omega, b, j, hb, hj, ?_⟩
  unfold usR seR
  rw [if_neg (by decide), if_neg (by decide)]
  rcases hf with e | e | e
  · rw [e] at h0 ⊢; exact Or.inr (by omega)
  · rw [e] at h0 ⊢; exact Or.inl (Or.inl (by omega))
  · rw [e] at h0 ⊢; exact Or.inl (Or.inr (by omega))
theorem f_Sd (h : Sd Q false n v) : ∃ b j f, b < Q.1 ∧ j < Q.2.1 b ∧ (f = 1 ∨ f = 2 ∨ f = 4) ∧ Q.2.2.1 b j f = (v : Int) := by
  obtain ⟨-, b, j, h1, h2, h3⟩ := h
  unfold usR seR at h3
  rw [if_neg (by decide), if_neg (by decide)] at h3
  rcases h3 with (h3 | h3) | h3
  · exact ⟨b, j, 2, h1, h2, Or.inr (Or.inl rfl), h3⟩
  · exact ⟨b, j, 4, h1, h2, Or.inr (Or.inr rfl), h3⟩
  · exact ⟨b, j, 1, h1, h2, Or.inl rfl, h3⟩
theorem nw_Sd {X : Nat → Prop} (h : allL (nwL6 so X) s) (hv : Sd s.1 false n v) (h100 : v < 100) : so v = -1 ∧ X v := by
  obtain ⟨b, j, f, h1, h2, h3, h4⟩ := f_Sd hv
  have q := (h b j h1 h2 f h3).2
  rw [h4] at q
  exact q (by omega) (by omega)
theorem nw_nm {X : Nat → Prop} (h : allL (nwL6 so X) s) : nmO s.1 s.2 := fun b j hb hj => ⟨(h b j hb hj 1 (Or.inl rfl)).1, (h b j hb hj 2 (Or.inr (Or.inl rfl))).1, (h b j hb hj 4 (Or.inr (Or.inr rfl))).1⟩
/-- what holds of the program of a round -/
def gvI (Q : gPg) (nm : Nat) : Prop := nmO Q nm ∧ 100 ≤ nm ∧ nm + osm Q ≤ 720 ∧ lsm Q + osm Q ≤ 920 ∧ Q.1 ≤ 40 ∧ 0 < Q.1
theorem gvI_m {m : Nat} (h : gvI Q nm) (hm : MGn k m Q R) : gvI R nm ∧ ∀ v, Sd R false 2000 v → Sd Q false 2000 v := by
  obtain ⟨h1, h2, h3, h4, h5, h6⟩ := h
  obtain ⟨r1, r2, r3, r4, r5⟩ := MGn_f h1 h1 hm
  exact ⟨⟨r1, h2, by omega, by omega, by omega, by omega⟩, r5⟩
theorem spP_i (h : gvI R nm) : allL (nwL6 so (Sd R false 2000)) (spP so R nm R.1) ∧ gvI (spP so R nm R.1).1 (spP so R nm R.1).2 ∧ (spP so R nm R.1).2 ≤ 720 ∧ lsm (spP so R nm R.1).1 ≤ 920 := by
  obtain ⟨h1, h2, h3, h4, h5, h6⟩ := h
  obtain ⟨k1, k2, k3, k4⟩ := spP_k (so := so) (Q := R) h2 R.1
  have a := spP_a (so := so) (Q := R) (X := Sd R false 2000) h2 R.1 (fun c j hc hj f hf => by
    have q := h1 c j hc hj
    have hl : R.2.2.1 c j f < (nm : Int) := by
      rcases hf with e | e | e
      · rw [e]; exact q.1
      · rw [e]; exact q.2.1
      · rw [e]; exact q.2.2
    exact ⟨hl, fun z1 z2 => Sd_f hc hj hf z1 (by omega)⟩)
  have e1 : fsm (fun b => fsm (fun j => occ (R.2.2.1 b j)) (R.2.1 b)) R.1 = osm R := rfl
  have e2 : fsm R.2.1 R.1 = lsm R := rfl
  rw [e1] at k3 k4
  rw [e2] at k4
  exact ⟨a, ⟨nw_nm a, k2, by omega, by omega, by omega, by omega⟩, by omega, by omega⟩
theorem soU_n (h : soU U sl v = -1) : ¬ U v := fun z => by
  unfold soU at h
  rw [if_pos z] at h
  omega
theorem soU_p (h : U v) : soU U sl v = ((sl + cntP U v : Nat) : Int) := if_pos h
theorem soU_0 (h : ¬ U v) : soU U sl v = -1 := if_neg h
/-- where they begin -/
theorem fsm_ap {f : Nat → Nat} {z : Nat} : ∀ n, fsm f (z + n) = fsm f z + fsm (fun i => f (z + i)) n
  | 0 => rfl
  | n + 1 => by
    have i := fsm_ap (f := f) (z := z) n
    show fsm f (z + n) + f (z + n) = fsm f z + (fsm (fun i => f (z + i)) n + f (z + n))
    omega
theorem fsm_1 {f : Nat → Nat} : ∀ n, (∀ i, i < n → f i ≤ 1) → fsm f n ≤ n
  | 0, _ => Nat.le_refl _
  | n + 1, h => Nat.add_le_add (fsm_1 n (fun i hi => h i (by omega))) (h n (Nat.lt_succ_self n))
theorem fsm_3 {f : Nat → Nat} : ∀ n, (∀ i, i < n → f i ≤ 3) → fsm f n ≤ 3 * n
  | 0, _ => Nat.le_refl _
  | n + 1, h => by
    have i := fsm_3 n (fun i hi => h i (by omega))
    have q := h n (Nat.lt_succ_self n)
    show fsm f n + f n ≤ 3 * (n + 1)
    omega
theorem fsm_32 {f g : Nat → Nat} : ∀ n, (∀ i, i < n → f i + 2 ≤ 3 * g i) → fsm f n + 2 * n ≤ 3 * fsm g n
  | 0, _ => Nat.le_refl _
  | n + 1, h => by
    have i := fsm_32 (f := f) (g := g) n (fun i hi => h i (by omega))
    have q := h n (Nat.lt_succ_self n)
    show fsm f n + f n + 2 * (n + 1) ≤ 3 * (fsm g n + g n)
    omega
theorem occ_3 : occ l ≤ 3 := by
  have a := oc1_le (x := l 1)
  have b := oc1_le (x := l 2)
  have c := oc1_le (x := l 4)
  unfold occ
  omega
theorem osm_P (hb : ∀ b, b < P.1 → blC (P.2.1 b) (P.2.2.1 b) (P.2.2.2 b)) : osm P + 2 * P.1 ≤ 3 * lsm P := by
  unfold osm lsm
  refine fsm_32 P.1 (fun b hb1 => ?_)
  obtain ⟨c0, c1, c2, c3⟩ := hb b hb1
  obtain ⟨m, em⟩ : ∃ m, P.2.1 b = m + 1 := ⟨P.2.1 b - 1, by omega⟩
  rw [em] at c2 ⊢
  show fsm (fun j => occ (P.2.2.1 b j)) m + occ (P.2.2.1 b m) + 2 ≤ 3 * (m + 1)
  have i := fsm_3 (f := fun j => occ (P.2.2.1 b j)) m (fun i hi => occ_3)
  rw [show m + 1 - 1 = m from rfl] at c2
  have e : occ (P.2.2.1 b m) ≤ 1 := by
    unfold occ
    rw [c2.1, c2.2.2.1, oc1_n]
    have := oc1_le (x := P.2.2.1 b m 2)
    omega
  omega
theorem nthT_l6 {T : Nat → Prop} {i : Nat} : ∀ k, nthT T (k + 1) i ≤ k
  | 0 => by
    show @ite Nat (T 0 ∧ cntP T 0 = i) (Classical.propDecidable _) 0 (nthT T 0 i) ≤ 0
    split
    · exact Nat.le_refl _
    · exact Nat.le_refl _
  | k + 1 => by
    have q := nthT_l6 (T := T) (i := i) k
    show @ite Nat (T (k + 1) ∧ cntP T (k + 1) = i) (Classical.propDecidable _) (k + 1) (nthT T (k + 1) i) ≤ k + 1
    split
    · exact Nat.le_refl _
    · omega
theorem osm_Z (h0 : 0 < P.1) : osm (pgZ P) ≤ 100 + osm P ∧ lsm (pgZ P) ≤ 100 + lsm P := by
  obtain ⟨m, em⟩ : ∃ m, P.1 = 1 + m := ⟨P.1 - 1, by omega⟩
  have cz := cntP_le (T := lz P) 100
  constructor
  · unfold osm
    show fsm (fun b => fsm (fun j => occ (if b = 0 then (if j < cntP (lz P) 100 then mkL 14 (nthT (lz P) 100 j : Int) (-1) 0 (-1) 0 else P.2.2.1 0 (j - cntP (lz P) 100)) else P.2.2.1 b j)) (if b = 0 then cntP (lz P) 100 + P.2.1 0 else P.2.1 b)) P.1 ≤ 100 + fsm (fun b => fsm (fun j => occ (P.2.2.1 b j)) (P.2.1 b)) P.1
    rw [em, fsm_ap m, fsm_ap m]
    have e1 : fsm (fun i => (fun b => fsm (fun j => occ (if b = 0 then (if j < cntP (lz P) 100 then mkL 14 (nthT (lz P) 100 j : Int) (-1) 0 (-1) 0 else P.2.2.1 0 (j - cntP (lz P) 100)) else P.2.2.1 b j)) (if b = 0 then cntP (lz P) 100 + P.2.1 0 else P.2.1 b)) (1 + i)) m = fsm (fun i => (fun b => fsm (fun j => occ (P.2.2.1 b j)) (P.2.1 b)) (1 + i)) m := by
      refine fsm_c (fun c hc => ?_)
      have ne : ¬ 1 + c = 0 := by omega
      simp only [if_neg ne]
    have e2 : fsm (fun j => occ (if (0 : Nat) = 0 then (if j < cntP (lz P) 100 then mkL 14 (nthT (lz P) 100 j : Int) (-1) 0 (-1) 0 else P.2.2.1 0 (j - cntP (lz P) 100)) else P.2.2.1 0 j)) (if (0 : Nat) = 0 then cntP (lz P) 100 + P.2.1 0 else P.2.1 0) ≤ 100 + fsm (fun j => occ (P.2.2.1 0 j)) (P.2.1 0) := by
      rw [if_pos rfl, fsm_ap]
      have a := fsm_1 (f := fun j => occ (if (0 : Nat) = 0 then (if j < cntP (lz P) 100 then mkL 14 (nthT (lz P) 100 j : Int) (-1) 0 (-1) 0 else P.2.2.1 0 (j - cntP (lz P) 100)) else P.2.2.1 0 j)) (cntP (lz P) 100) (fun i hi => by
        show occ (if (0 : Nat) = 0 then (if i < cntP (lz P) 100 then mkL 14 (nthT (lz P) 100 i : Int) (-1) 0 (-1) 0 else P.2.2.1 0 (i - cntP (lz P) 100)) else P.2.2.1 0 i) ≤ 1
        rw [if_pos rfl, if_pos hi, occ_mk, oc1_n]
        have := oc1_le (x := (nthT (lz P) 100 i : Int))
        omega)
      have c : fsm (fun i => (fun j => occ (if (0 : Nat) = 0 then (if j < cntP (lz P) 100 then mkL 14 (nthT (lz P) 100 j : Int) (-1) 0 (-1) 0 else P.2.2.1 0 (j - cntP (lz P) 100)) else P.2.2.1 0 j)) (cntP (lz P) 100 + i)) (P.2.1 0) = fsm (fun j => occ (P.2.2.1 0 j)) (P.2.1 0) := by
        refine fsm_c (fun i hi => ?_)
        show occ (if (0 : Nat) = 0 then (if cntP (lz P) 100 + i < cntP (lz P) 100 then mkL 14 (nthT (lz P) 100 (cntP (lz P) 100 + i) : Int) (-1) 0 (-1) 0 else P.2.2.1 0 (cntP (lz P) 100 + i - cntP (lz P) 100)) else P.2.2.1 0 (cntP (lz P) 100 + i)) = _
        rw [if_pos rfl, if_neg (by omega), show cntP (lz P) 100 + i - cntP (lz P) 100 = i by omega]
      exact Nat.le_trans (Nat.add_le_add a (Nat.le_of_eq c)) (Nat.add_le_add_right cz _)
    have s1 : ∀ f : Nat → Nat, fsm f 1 = f 0 := fun f => Nat.zero_add _
    rw [s1, s1, e1]
    exact Nat.le_trans (Nat.add_le_add_right e2 _) (Nat.le_of_eq (Nat.add_assoc _ _ _))
  · unfold lsm
    show fsm (fun b => if b = 0 then cntP (lz P) 100 + P.2.1 0 else P.2.1 b) P.1 ≤ 100 + fsm P.2.1 P.1
    rw [em, fsm_ap m, fsm_ap m]
    have e1 : fsm (fun i => (fun b => if b = 0 then cntP (lz P) 100 + P.2.1 0 else P.2.1 b) (1 + i)) m = fsm (fun i => P.2.1 (1 + i)) m := fsm_c (fun c hc => if_neg (by omega))
    have s1 : ∀ f : Nat → Nat, fsm f 1 = f 0 := fun f => Nat.zero_add _
    rw [s1, s1, e1, if_pos rfl]
    omega
theorem nmO_P (hb : ∀ b, b < P.1 → blC (P.2.1 b) (P.2.2.1 b) (P.2.2.2 b)) : nmO P 100 := fun b j h1 h2 => by
  show P.2.2.1 b j 1 < (100 : Int) ∧ P.2.2.1 b j 2 < (100 : Int) ∧ P.2.2.1 b j 4 < (100 : Int)
  obtain ⟨c0, c1, c2, c3⟩ := hb b h1
  by_cases e : j + 1 < P.2.1 b
  · obtain ⟨a1, a2, a3, a4, a5, a6⟩ := c1 j e
    refine ⟨?_, by omega, by omega⟩
    by_cases g : P.2.2.1 b j 0 ≤ 15
    · have := a4 g; omega
    · have := a5 (by omega); omega
  · rw [show P.2.1 b - 1 = j by omega] at c2
    obtain ⟨a1, a2, a3, a4⟩ := c2
    exact ⟨by omega, by omega, by omega⟩
theorem nmO_Z (hb : ∀ b, b < P.1 → blC (P.2.1 b) (P.2.2.1 b) (P.2.2.2 b)) : nmO (pgZ P) 100 := by
  have old : ∀ b j, b < P.1 → j < P.2.1 b → P.2.2.1 b j 1 < (100 : Int) ∧ P.2.2.1 b j 2 < (100 : Int) ∧ P.2.2.1 b j 4 < (100 : Int) := nmO_P hb
  intro b j h1 h2
  have h2' : j < if b = 0 then cntP (lz P) 100 + P.2.1 0 else P.2.1 b := h2
  have h1' : b < P.1 := h1
  show (if b = 0 then (if j < cntP (lz P) 100 then mkL 14 (nthT (lz P) 100 j : Int) (-1) 0 (-1) 0 else P.2.2.1 0 (j - cntP (lz P) 100)) else P.2.2.1 b j) 1 < ((100 : Nat) : Int) ∧ (if b = 0 then (if j < cntP (lz P) 100 then mkL 14 (nthT (lz P) 100 j : Int) (-1) 0 (-1) 0 else P.2.2.1 0 (j - cntP (lz P) 100)) else P.2.2.1 b j) 2 < ((100 : Nat) : Int) ∧ (if b = 0 then (if j < cntP (lz P) 100 then mkL 14 (nthT (lz P) 100 j : Int) (-1) 0 (-1) 0 else P.2.2.1 0 (j - cntP (lz P) 100)) else P.2.2.1 b j) 4 < ((100 : Nat) : Int)
  by_cases e : b = 0
  · rw [if_pos e] at h2' ⊢
    by_cases g : j < cntP (lz P) 100
    · rw [if_pos g]
      have q : nthT (lz P) 100 j ≤ 99 := nthT_l6 (T := lz P) (i := j) 99
      exact ⟨by show (nthT (lz P) 100 j : Int) < 100; omega, by show (-1 : Int) < 100; omega, by show (-1 : Int) < 100; omega⟩
    · rw [if_neg g]
      exact old 0 _ (by omega) (by omega)
  · rw [if_neg e] at h2' ⊢
    exact old b j h1' h2'
theorem gvI_Z {B : Int → Int} {n : Int} (hB : bOk B n) (h : okP B n P) : gvI (pgZ P) 100 := by
  obtain ⟨f1, f2, f3, f4, f5, f6⟩ := okP_f hB h
  have l1 : lsm P ≤ 160 + P.1 := by
    obtain ⟨j, st, lf, ln, op, rw, h1, h2, h3⟩ := h
    obtain ⟨⟨-, -, w3, -, w5, -, -, -, -, -, -, w12, w13, -⟩, -⟩ := mrn_w hB h1
    have w := w5 rfl
    unfold lsm
    omega
  have o := osm_P f6
  obtain ⟨z1, z2⟩ := osm_Z f3
  exact ⟨nmO_Z f6, Nat.le_refl _, by omega, by omega, f2, f3⟩
end GVP
end
section
section GWC
variable {P : gPg} {dp : Nat → Nat}
theorem gv7_tl {a2 : Int32} {Loops_depth : Nat → Int32} {s1 : Int32} {s2 : Int32} {s3 : Int32} {s4 : Int32} {s5 : Int32} {s6 : Int32} {s7 : Int32} {s8 : Int32} {s9 : Int32} {s10 : Nat → Int32} {s11 : Int32} {s12 : Int32} {s13 : Int32} {s14 : Int32} {s15 : Int32} {s16 : Int32} {s17 : Int32} {s18 : Int32} {s19 : Int32} {s20 : Nat → Int64} {s21 : Nat → Int64} {s22 : Nat → Int32} {s23 : Nat → Int32} {s24 : Nat → Int32} {s25 : Nat → Int32} {s26 : Nat → Int32} {s27 : Nat → Int32} {s28 : Nat → Int32} {s29 : Nat → Int32} {s30 : Nat → Int32} {s31 : Nat → Int32} {s32 : Nat → Int32} {s33 : Nat → Int32} {s34 : Nat → Int32} {s35 : Nat → Int32} {s36 : Nat → Int32} {s37 : Nat → Int32} {s38 : Nat → Int32} {s39 : Nat → Int32} {s40 : Nat → Int32} {s41 : Nat → Int32} {s42 : Nat → Int32} {s43 : Nat → Int32} {s44 : Nat → Int32} {s45 : Nat → Int32} {s46 : Nat → Int64} {s47 : Nat → Int64} {s48 : Nat → Int64} {s49 : Nat → Int64} {k : Nat} {e1 : Int32} {e2 : Int32} {e3 : Int32} {e4 : Int32} {e5 : Int32} {e6 : Int32} {e7 : Int32} {e8 : Int32} {e9 : Nat → Int32} {e10 : Int32} {e11 : Int32} {e12 : Int32} {e13 : Int32} {e14 : Int32} {e15 : Int32} {e16 : Int32} {e17 : Int32} {e18 : Int32} {e19 : Nat → Int64} {e20 : Nat → Int64} {e21 : Nat → Int32} {e22 : Nat → Int32} {e23 : Nat → Int32} {e24 : Nat → Int32} {e25 : Nat → Int32} {e26 : Nat → Int32} {e27 : Nat → Int32} {e28 : Nat → Int32} {e29 : Nat → Int32} {e30 : Nat → Int32} {e31 : Nat → Int32} {e32 : Nat → Int32} {e33 : Nat → Int32} {e34 : Nat → Int32} {e35 : Nat → Int32} {e36 : Nat → Int32} {e37 : Nat → Int32} {e38 : Nat → Int32} {e39 : Nat → Int32} {e40 : Nat → Int32} {e41 : Nat → Int32} {e42 : Nat → Int32} {e43 : Nat → Int32} {e44 : Nat → Int32} {e45 : Nat → Int64} {e46 : Nat → Int64} {e47 : Nat → Int64} {e48 : Nat → Int64} {e49 : Int32} (hk1 : 1 ≤ a2.toInt) (hk2 : a2.toInt ≤ 32) (h : tl_Giver_giveOut_7 a2 Loops_depth s1 s2 s3 s4 s5 s6 s7 s8 s9 s10 s11 s12 s13 s14 s15 s16 s17 s18 s19 s20 s21 s22 s23 s24 s25 s26 s27 s28 s29 s30 s31 s32 s33 s34 s35 s36 s37 s38 s39 s40 s41 s42 s43 s44 s45 s46 s47 s48 s49 k e1 e2 e3 e4 e5 e6 e7 e8 e9 e10 e11 e12 e13 e14 e15 e16 e17 e18 e19 e20 e21 e22 e23 e24 e25 e26 e27 e28 e29 e30 e31 e32 e33 e34 e35 e36 e37 e38 e39 e40 e41 e42 e43 e44 e45 e46 e47 e48 e49) : ∀ (Q : gPg) (nm sl t : Nat), s1.toInt = (t : Int) → 1 ≤ t → t ≤ 41 → s2.toInt = (nm : Int) → s3.toInt = (sl : Int) → sl ≤ 100 * t → cdP s11 s12 s28 s29 s30 s31 s32 s33 s34 s35 s36 Q → gvI Q nm → (∀ b, b < Q.1 → (Loops_depth b).toInt = (dp b : Int)) → (∀ v, v < 100 → Sd Q false 2000 v → (s10 v).toInt = -1) → ∃ r Z, GVr a2.toInt dp (41 - t) t Q nm sl r Z ∧ (k = 52 → r = e49.toInt ∧ 1 ≤ r ∧ cdP e10 e11 e27 e28 e29 e30 e31 e32 e33 e34 e35 Z.1 ∧ (∀ u, u < 720 → (e26 u).toInt = Z.2.1 u) ∧ e2.toInt = (Z.2.2 : Int)) ∧ (k ≠ 52 → r = -1) := by
  refine h (fun s1 s2 s3 s4 s5 s6 s7 s8 s9 s10 s11 s12 s13 s14 s15 s16 s17 s18 s19 s20 s21 s22 s23 s24 s25 s26 s27 s28 s29 s30 s31 s32 s33 s34 s35 s36 s37 s38 s39 s40 s41 s42 s43 s44 s45 s46 s47 s48 s49 k e1 e2 e3 e4 e5 e6 e7 e8 e9 e10 e11 e12 e13 e14 e15 e16 e17 e18 e19 e20 e21 e22 e23 e24 e25 e26 e27 e28 e29 e30 e31 e32 e33 e34 e35 e36 e37 e38 e39 e40 e41 e42 e43 e44 e45 e46 e47 e48 e49 => ∀ (Q : gPg) (nm sl t : Nat), s1.toInt = (t : Int) → 1 ≤ t → t ≤ 41 → s2.toInt = (nm : Int) → s3.toInt = (sl : Int) → sl ≤ 100 * t → cdP s11 s12 s28 s29 s30 s31 s32 s33 s34 s35 s36 Q → gvI Q nm → (∀ b, b < Q.1 → (Loops_depth b).toInt = (dp b : Int)) → (∀ v, v < 100 → Sd Q false 2000 v → (s10 v).toInt = -1) → ∃ r Z, GVr a2.toInt dp (41 - t) t Q nm sl r Z ∧ (k = 52 → r = e49.toInt ∧ 1 ≤ r ∧ cdP e10 e11 e27 e28 e29 e30 e31 e32 e33 e34 e35 Z.1 ∧ (∀ u, u < 720 → (e26 u).toInt = Z.2.1 u) ∧ e2.toInt = (Z.2.2 : Int)) ∧ (k ≠ 52 → r = -1)) ?_ ?_ ?_ ?_ ?_
  · intro l3_1 Giver_names_1 Giver_slots_1 Giver_spilled_1 Giver_merged_1 Graph_names_1 Graph_words_1 Colouring_restSize_1 Colouring_pileSize_1 Giver_slotOf_1 Code_blocks_1 Code_lines_1 Code_isFull_1 Code_blocks_11 Code_lines_11 Code_isFull_11 Live_names_1 Live_words_1 Live_ofSlots_1 Graph_joined_1 Graph_standing_1 Graph_degree_1 Colouring_weight_1 Colouring_degree_1 Colouring_rest_1 Colouring_pile_1 Colouring_colour_1 Code_first_1 Code_firstGoal_1 Code_secondGoal_1 Code_op_1 Code_set_1 Code_left_1 Code_leftNumber_1 Code_right_1 Code_rightNumber_1 Code_first_11 Code_firstGoal_11 Code_secondGoal_11 Code_op_11 Code_set_11 Code_left_11 Code_leftNumber_11 Code_right_11 Code_rightNumber_11 Live_in_1 Live_used_1 Live_set_1 Live_now_1 h1 h2 h3 h4 h5 h6 h7 h8 h9 h10 h11 h12 h13 h14 h15 h16
    intro Q nm sl t ht h1t ht41 hnm hsl hsl2 hc hi hdp hso
    have e : t = 41 := by omega
    rw [e]
    exact ⟨-1, (pgO, fun _ => -1, 0), ⟨rfl, rfl⟩, fun z => (nomatch z), fun _ => rfl⟩
  · intro l3_1 Giver_names_1 Giver_slots_1 Giver_spilled_1 Giver_merged_1 Graph_names_1 Graph_words_1 Colouring_restSize_1 Colouring_pileSize_1 Giver_slotOf_1 Code_blocks_1 Code_lines_1 Code_isFull_1 Code_blocks_11 Code_lines_11 Code_isFull_11 Live_names_1 Live_words_1 Live_ofSlots_1 Graph_joined_1 Graph_standing_1 Graph_degree_1 Colouring_weight_1 Colouring_degree_1 Colouring_rest_1 Colouring_pile_1 Colouring_colour_1 Code_first_1 Code_firstGoal_1 Code_secondGoal_1 Code_op_1 Code_set_1 Code_left_1 Code_leftNumber_1 Code_right_1 Code_rightNumber_1 Code_first_11 Code_firstGoal_11 Code_secondGoal_11 Code_op_11 Code_set_11 Code_left_11 Code_leftNumber_11 Code_right_11 Code_rightNumber_11 Live_in_1 Live_used_1 Live_set_1 Live_now_1 x1 x2 x3 x4 x5 x6 x7 x8 x9 x10 x11 x12 x13 x14 x15 x16 x17 x18 x19 x20 x21 x22 x23 x24 x25 x26 x27 x28 x29 x30 x31 x32 x33 x34 x35 x36 x37 x38 x39 x40 x41 x42 x43 x44 x45 x46 x47 x48 x49 x50 x51 x52 x53 x54 x55 x56 x57 x58 x59 k e1 e2 e3 e4 e5 e6 e7 e8 e9 e10 e11 e12 e13 e14 e15 e16 e17 e18 e19 e20 e21 e22 e23 e24 e25 e26 e27 e28 e29 e30 e31 e32 e33 e34 e35 e36 e37 e38 e39 e40 e41 e42 e43 e44 e45 e46 e47 e48 e49 h1 h2 h3 h4 h5 h6 h7 h8 h9 h10 h11 h12 h13 h14 h15 h16 h17 h18 h19 h20 h21 h22 h23 h24 h25 h26 h27 h28 h29 h30 h31 h32 h33 h34 h35 h36 h37 h38 h39 h40 h41 h42 h43 ih
    intro Q nm sl t ht h1t ht41 hnm hsl hsl2 hc hi hdp hso
    obtain ⟨i1, i2, i3, i4, i5, i6⟩ := hi
    obtain ⟨m, R, m1, m2, m3⟩ := mgc_tr hc i1 hnm (by omega) h23
    obtain ⟨gR, sR⟩ := gvI_m ⟨i1, i2, i3, i4, i5, i6⟩ m1
    have nR : R.1 = Q.1 := (MGn_f i1 i1 m1).2.2.2.1
    have wv := wg_tr (dp := dp) m2 gR.2.2.2.2.1 (fun b hb => hdp b (by omega)) h24
    obtain ⟨lf, l1, n, p, l2, l3, l4⟩ := tap_tr m3 (by omega) h27
    have ta : TA (JJ R) (fun v => wPg R dp v R.1) a2.toInt n (Sd R false 2000) (dgc R) p := TA_c (fun v hv => by
      have q := (Sd_i gR.1 (Nat.le_refl _) hv).2
      exact ⟨wv v (by omega), l1 v q⟩) l3
    have rd : rnd a2.toInt dp Q R n p := ⟨⟨m, m1⟩, ta⟩
    obtain ⟨p1, p2⟩ := ptg_tr m3 (by omega) (by omega) hk2 l2 l4 h29
    have ef : 41 - t = (40 - t) + 1 := by omega
    rw [ef]
    have bd : bdN (JJ R) a2.toInt p n n := Classical.byContradiction fun z => p2.mpr z h30
    have gs := gsl_tr (sl := sl) m3 (by omega) p1 hnm (by omega) hsl (by omega) h32
    rcases gs with ⟨g1, -⟩ | ⟨-, g2, g3, g4, g5⟩
    · exact absurd g1 h33
    have so0 : ∀ v, v < 100 → Sd R false 2000 v → (x33 v).toInt = soU (unc R (clN (JJ R) a2.toInt p n n)) sl v := fun v hv hs => by
      by_cases c : unc R (clN (JJ R) a2.toInt p n n) v
      · rw [g4 v hv c, soU_p c]
      · rw [g5 v (fun z => c z.2), soU_0 c]
        exact hso v hv (sR v hs)
    have eq : spP (fun v => (x33 v).toInt) R nm R.1 = spP (soU (unc R (clN (JJ R) a2.toInt p n n)) sl) R nm R.1 := spP_c R.1 (fun c j hc hj f hf => by
      unfold slf
      by_cases z : 0 ≤ R.2.2.1 c j f ∧ R.2.2.1 c j f < 100
      · rw [if_pos z, if_pos z]
        exact so0 _ (by omega) (Sd_f hc hj hf z.1 (by omega))
      · rw [if_neg z, if_neg z])
    obtain ⟨q1, q2, q3, q4⟩ := spP_i (so := soU (unc R (clN (JJ R) a2.toInt p n n)) sl) gR
    obtain ⟨s1, s2, s3⟩ := spa_tr m2 gR.2.2.2.2.1 gR.2.1 (by rw [eq]; exact q3) (by rw [eq]; exact q4) hnm h41
    rw [eq] at s1 s2
    have cu := cntP_le (T := unc R (clN (JJ R) a2.toInt p n n)) 100
    have nQ : (spP (soU (unc R (clN (JJ R) a2.toInt p n n)) sl) R nm R.1).1.1 = R.1 := (spP_k (so := soU (unc R (clN (JJ R) a2.toInt p n n)) sl) (Q := R) gR.2.1 R.1).1
    obtain ⟨r, Z, r1, r2, r3⟩ := ih (spP (soU (unc R (clN (JJ R) a2.toInt p n n)) sl) R nm R.1).1 (spP (soU (unc R (clN (JJ R) a2.toInt p n n)) sl) R nm R.1).2 (sl + cntP (unc R (clN (JJ R) a2.toInt p n n)) 100) (t + 1) (by omega) (by omega) (by omega) s1 g3 (by omega) s2 q2 (fun b hb => hdp b (by omega)) (fun v hv hs => by
      obtain ⟨z1, z2⟩ := nw_Sd q1 hs hv
      rw [so0 v hv z2]
      exact z1)
    rw [show 41 - (t + 1) = 40 - t by omega] at r1
    exact ⟨r, Z, ⟨R, n, p, rd, Or.inr (Or.inr ⟨bd, g2, r1⟩)⟩, r2, r3⟩
  · intro l3_1 Giver_names_1 Giver_slots_1 Giver_spilled_1 Giver_merged_1 Graph_names_1 Graph_words_1 Colouring_restSize_1 Colouring_pileSize_1 Giver_slotOf_1 Code_blocks_1 Code_lines_1 Code_isFull_1 Code_blocks_11 Code_lines_11 Code_isFull_11 Live_names_1 Live_words_1 Live_ofSlots_1 Graph_joined_1 Graph_standing_1 Graph_degree_1 Colouring_weight_1 Colouring_degree_1 Colouring_rest_1 Colouring_pile_1 Colouring_colour_1 Code_first_1 Code_firstGoal_1 Code_secondGoal_1 Code_op_1 Code_set_1 Code_left_1 Code_leftNumber_1 Code_right_1 Code_rightNumber_1 Code_first_11 Code_firstGoal_11 Code_secondGoal_11 Code_op_11 Code_set_11 Code_left_11 Code_leftNumber_11 Code_right_11 Code_rightNumber_11 Live_in_1 Live_used_1 Live_set_1 Live_now_1 x1 x2 x3 x4 x5 x6 x7 x8 x9 x10 x11 x12 x13 x14 x15 x16 x17 x18 x19 x20 x21 x22 x23 x24 x25 x26 x27 x28 x29 x30 x31 x32 x33 x34 x35 x36 x37 x38 x39 x40 x41 x42 x43 x44 x45 x46 x47 x48 x49 x50 x51 x52 x53 x54 x55 x56 x57 x58 h1 h2 h3 h4 h5 h6 h7 h8 h9 h10 h11 h12 h13 h14 h15 h16 h17 h18 h19 h20 h21 h22 h23 h24 h25 h26 h27 h28 h29 h30 h31 h32 h33 h34 h35 h36 h37 h38 h39 h40 h41 h42
    intro Q nm sl t ht h1t ht41 hnm hsl hsl2 hc hi hdp hso
    obtain ⟨i1, i2, i3, i4, i5, i6⟩ := hi
    obtain ⟨m, R, m1, m2, m3⟩ := mgc_tr hc i1 hnm (by omega) h23
    obtain ⟨gR, sR⟩ := gvI_m ⟨i1, i2, i3, i4, i5, i6⟩ m1
    have nR : R.1 = Q.1 := (MGn_f i1 i1 m1).2.2.2.1
    have wv := wg_tr (dp := dp) m2 gR.2.2.2.2.1 (fun b hb => hdp b (by omega)) h24
    obtain ⟨lf, l1, n, p, l2, l3, l4⟩ := tap_tr m3 (by omega) h27
    have ta : TA (JJ R) (fun v => wPg R dp v R.1) a2.toInt n (Sd R false 2000) (dgc R) p := TA_c (fun v hv => by
      have q := (Sd_i gR.1 (Nat.le_refl _) hv).2
      exact ⟨wv v (by omega), l1 v q⟩) l3
    have rd : rnd a2.toInt dp Q R n p := ⟨⟨m, m1⟩, ta⟩
    obtain ⟨p1, p2⟩ := ptg_tr m3 (by omega) (by omega) hk2 l2 l4 h29
    have ef : 41 - t = (40 - t) + 1 := by omega
    rw [ef]
    have bd : bdN (JJ R) a2.toInt p n n := Classical.byContradiction fun z => p2.mpr z h30
    have gs := gsl_tr (sl := sl) m3 (by omega) p1 hnm (by omega) hsl (by omega) h32
    rcases gs with ⟨g1, -⟩ | ⟨-, g2, g3, g4, g5⟩
    · exact absurd g1 h33
    have so0 : ∀ v, v < 100 → Sd R false 2000 v → (x33 v).toInt = soU (unc R (clN (JJ R) a2.toInt p n n)) sl v := fun v hv hs => by
      by_cases c : unc R (clN (JJ R) a2.toInt p n n) v
      · rw [g4 v hv c, soU_p c]
      · rw [g5 v (fun z => c z.2), soU_0 c]
        exact hso v hv (sR v hs)
    have eq : spP (fun v => (x33 v).toInt) R nm R.1 = spP (soU (unc R (clN (JJ R) a2.toInt p n n)) sl) R nm R.1 := spP_c R.1 (fun c j hc hj f hf => by
      unfold slf
      by_cases z : 0 ≤ R.2.2.1 c j f ∧ R.2.2.1 c j f < 100
      · rw [if_pos z, if_pos z]
        exact so0 _ (by omega) (Sd_f hc hj hf z.1 (by omega))
      · rw [if_neg z, if_neg z])
    obtain ⟨q1, q2, q3, q4⟩ := spP_i (so := soU (unc R (clN (JJ R) a2.toInt p n n)) sl) gR
    obtain ⟨s1, s2, s3⟩ := spa_tr m2 gR.2.2.2.2.1 gR.2.1 (by rw [eq]; exact q3) (by rw [eq]; exact q4) hnm h41
    rw [eq] at s1 s2
    exact absurd s3 h42
  · intro l3_1 Giver_names_1 Giver_slots_1 Giver_spilled_1 Giver_merged_1 Graph_names_1 Graph_words_1 Colouring_restSize_1 Colouring_pileSize_1 Giver_slotOf_1 Code_blocks_1 Code_lines_1 Code_isFull_1 Code_blocks_11 Code_lines_11 Code_isFull_11 Live_names_1 Live_words_1 Live_ofSlots_1 Graph_joined_1 Graph_standing_1 Graph_degree_1 Colouring_weight_1 Colouring_degree_1 Colouring_rest_1 Colouring_pile_1 Colouring_colour_1 Code_first_1 Code_firstGoal_1 Code_secondGoal_1 Code_op_1 Code_set_1 Code_left_1 Code_leftNumber_1 Code_right_1 Code_rightNumber_1 Code_first_11 Code_firstGoal_11 Code_secondGoal_11 Code_op_11 Code_set_11 Code_left_11 Code_leftNumber_11 Code_right_11 Code_rightNumber_11 Live_in_1 Live_used_1 Live_set_1 Live_now_1 x1 x2 x3 x4 x5 x6 x7 x8 x9 x10 x11 x12 x13 x14 x15 x16 x17 x18 x19 x20 x21 x22 x23 x24 x25 x26 x27 x28 x29 x30 x31 x32 x33 h1 h2 h3 h4 h5 h6 h7 h8 h9 h10 h11 h12 h13 h14 h15 h16 h17 h18 h19 h20 h21 h22 h23 h24 h25 h26 h27 h28 h29 h30 h31 h32 h33
    intro Q nm sl t ht h1t ht41 hnm hsl hsl2 hc hi hdp hso
    obtain ⟨i1, i2, i3, i4, i5, i6⟩ := hi
    obtain ⟨m, R, m1, m2, m3⟩ := mgc_tr hc i1 hnm (by omega) h23
    obtain ⟨gR, sR⟩ := gvI_m ⟨i1, i2, i3, i4, i5, i6⟩ m1
    have nR : R.1 = Q.1 := (MGn_f i1 i1 m1).2.2.2.1
    have wv := wg_tr (dp := dp) m2 gR.2.2.2.2.1 (fun b hb => hdp b (by omega)) h24
    obtain ⟨lf, l1, n, p, l2, l3, l4⟩ := tap_tr m3 (by omega) h27
    have ta : TA (JJ R) (fun v => wPg R dp v R.1) a2.toInt n (Sd R false 2000) (dgc R) p := TA_c (fun v hv => by
      have q := (Sd_i gR.1 (Nat.le_refl _) hv).2
      exact ⟨wv v (by omega), l1 v q⟩) l3
    have rd : rnd a2.toInt dp Q R n p := ⟨⟨m, m1⟩, ta⟩
    obtain ⟨p1, p2⟩ := ptg_tr m3 (by omega) (by omega) hk2 l2 l4 h29
    have ef : 41 - t = (40 - t) + 1 := by omega
    rw [ef]
    have bd : bdN (JJ R) a2.toInt p n n := Classical.byContradiction fun z => p2.mpr z h30
    have gs := gsl_tr (sl := sl) m3 (by omega) p1 hnm (by omega) hsl (by omega) h32
    rcases gs with ⟨g1, g2⟩ | ⟨g1, -⟩
    · exact ⟨-1, (pgO, fun _ => -1, 0), ⟨R, n, p, rd, Or.inr (Or.inl ⟨bd, g2, rfl, rfl⟩)⟩, fun z => (nomatch z), fun _ => rfl⟩
    · exact absurd h33 g1
  · intro l3_1 Giver_names_1 Giver_slots_1 Giver_spilled_1 Giver_merged_1 Graph_names_1 Graph_words_1 Colouring_restSize_1 Colouring_pileSize_1 Giver_slotOf_1 Code_blocks_1 Code_lines_1 Code_isFull_1 Code_blocks_11 Code_lines_11 Code_isFull_11 Live_names_1 Live_words_1 Live_ofSlots_1 Graph_joined_1 Graph_standing_1 Graph_degree_1 Colouring_weight_1 Colouring_degree_1 Colouring_rest_1 Colouring_pile_1 Colouring_colour_1 Code_first_1 Code_firstGoal_1 Code_secondGoal_1 Code_op_1 Code_set_1 Code_left_1 Code_leftNumber_1 Code_right_1 Code_rightNumber_1 Code_first_11 Code_firstGoal_11 Code_secondGoal_11 Code_op_11 Code_set_11 Code_left_11 Code_leftNumber_11 Code_right_11 Code_rightNumber_11 Live_in_1 Live_used_1 Live_set_1 Live_now_1 x1 x2 x3 x4 x5 x6 x7 x8 x9 x10 x11 x12 x13 x14 x15 x16 x17 x18 x19 x20 x21 x22 x23 x24 x25 x26 x27 x28 x29 h1 h2 h3 h4 h5 h6 h7 h8 h9 h10 h11 h12 h13 h14 h15 h16 h17 h18 h19 h20 h21 h22 h23 h24 h25 h26 h27 h28 h29 h30
    intro Q nm sl t ht h1t ht41 hnm hsl hsl2 hc hi hdp hso
    obtain ⟨i1, i2, i3, i4, i5, i6⟩ := hi
    obtain ⟨m, R, m1, m2, m3⟩ := mgc_tr hc i1 hnm (by omega) h23
    obtain ⟨gR, sR⟩ := gvI_m ⟨i1, i2, i3, i4, i5, i6⟩ m1
    have nR : R.1 = Q.1 := (MGn_f i1 i1 m1).2.2.2.1
    have wv := wg_tr (dp := dp) m2 gR.2.2.2.2.1 (fun b hb => hdp b (by omega)) h24
    obtain ⟨lf, l1, n, p, l2, l3, l4⟩ := tap_tr m3 (by omega) h27
    have ta : TA (JJ R) (fun v => wPg R dp v R.1) a2.toInt n (Sd R false 2000) (dgc R) p := TA_c (fun v hv => by
      have q := (Sd_i gR.1 (Nat.le_refl _) hv).2
      exact ⟨wv v (by omega), l1 v q⟩) l3
    have rd : rnd a2.toInt dp Q R n p := ⟨⟨m, m1⟩, ta⟩
    obtain ⟨p1, p2⟩ := ptg_tr m3 (by omega) (by omega) hk2 l2 l4 h29
    have ef : 41 - t = (40 - t) + 1 := by omega
    rw [ef]
    exact ⟨(t : Int), (R, clN (JJ R) a2.toInt p n n, sl), ⟨R, n, p, rd, Or.inl ⟨p2.mp h30, rfl, rfl⟩⟩, fun _ => ⟨ht.symm, by omega, m2, p1, hsl⟩, fun z => absurd rfl z⟩
theorem fz3_tl {a1 : Int32} {s1 : Int32} {s2 : Nat → Int32} {k : Nat} {e1 : Nat → Int32} (h : tl_Arrays_fill3_5 a1 s1 s2 k e1) : 0 ≤ s1.toInt → ∀ i : Nat, i < 100 → ((i : Int) < s1.toInt → s2 i = a1) → e1 i = a1 := by
  refine h (fun s1 s2 _ e1 => 0 ≤ s1.toInt → ∀ i : Nat, i < 100 → ((i : Int) < s1.toInt → s2 i = a1) → e1 i = a1) ?_ ?_
  · intro l2_1 z_1 h1 h2
    exact fun _ i hi hz => hz (by omega)
  · intro l2_1 z_1 x1 x2 k e1 h1 h2 h3 h4 ih
    intro h0 i hi hz
    refine ih (by omega) i hi (fun hl => ?_)
    have en : (l2_1.toNatClampNeg : Int) = l2_1.toInt := g_nn h0
    rw [h3]
    unfold upd
    by_cases e : i = l2_1.toNatClampNeg
    · rw [if_pos e]
    · rw [if_neg e]; exact hz (by omega)
theorem fz3_tr {a1 : Int32} {p o1 : Nat → Int32} (h : tr_Arrays_fill3 a1 p o1) : ∀ i : Nat, i < 100 → o1 i = a1 := by
  refine h (fun o1 => ∀ i : Nat, i < 100 → o1 i = a1) ?_
  · intro x1 h1
    exact fun i hi => fz3_tl h1 (by decide) i hi (fun z => by rw [px_0] at z; omega)
theorem bgs_tr {Code_blocks : Int32} {Code_lines : Int32} {Giver_slotOf : Nat → Int32} {Code_first : Nat → Int32} {Code_firstGoal : Nat → Int32} {Code_secondGoal : Nat → Int32} {Code_op : Nat → Int32} {Code_set : Nat → Int32} {Code_left : Nat → Int32} {Code_leftNumber : Nat → Int32} {Code_right : Nat → Int32} {Code_rightNumber : Nat → Int32} {Code_first2 : Nat → Int32} {Code_firstGoal2 : Nat → Int32} {Code_secondGoal2 : Nat → Int32} {Code_op2 : Nat → Int32} {Code_set2 : Nat → Int32} {Code_left2 : Nat → Int32} {Code_leftNumber2 : Nat → Int32} {Code_right2 : Nat → Int32} {Code_rightNumber2 : Nat → Int32} {Live_in : Nat → Int64} {Live_used : Nat → Int64} {Live_set : Nat → Int64} {Live_now : Nat → Int64} {o1 : Int32} {o2 : Int32} {o3 : Int32} {o4 : Int32} {o5 : Int32} {o6 : Int32} {o7 : Nat → Int32} {o8 : Int32} {o9 : Int32} {o10 : Int32} {o11 : Int32} {o12 : Int32} {o13 : Int32} {o14 : Nat → Int32} {o15 : Nat → Int32} {o16 : Nat → Int32} {o17 : Nat → Int32} {o18 : Nat → Int32} {o19 : Nat → Int32} {o20 : Nat → Int32} {o21 : Nat → Int32} {o22 : Nat → Int32} {o23 : Nat → Int64} {o24 : Nat → Int64} {o25 : Nat → Int64} {o26 : Nat → Int64} (h : tr_Giver_begin Code_blocks Code_lines Giver_slotOf Code_first Code_firstGoal Code_secondGoal Code_op Code_set Code_left Code_leftNumber Code_right Code_rightNumber Code_first2 Code_firstGoal2 Code_secondGoal2 Code_op2 Code_set2 Code_left2 Code_leftNumber2 Code_right2 Code_rightNumber2 Live_in Live_used Live_set Live_now o1 o2 o3 o4 o5 o6 o7 o8 o9 o10 o11 o12 o13 o14 o15 o16 o17 o18 o19 o20 o21 o22 o23 o24 o25 o26) : o1.toInt = 100 ∧ o2.toInt = 0 ∧ ∀ v, v < 100 → (o7 v).toInt = -1 := by
  refine h (fun o1 o2 o3 o4 o5 o6 o7 o8 o9 o10 o11 o12 o13 o14 o15 o16 o17 o18 o19 o20 o21 o22 o23 o24 o25 o26 => o1.toInt = 100 ∧ o2.toInt = 0 ∧ ∀ v, v < 100 → (o7 v).toInt = -1) ?_
  · intro x1 x2 x3 x4 x5 x6 x7 x8 x9 x10 x11 x12 x13 x14 x15 x16 x17 x18 x19 x20 x21 x22 x23 h1 h2 h3 h4 h5 h6 h7 h8 h9 h10
    exact ⟨by decide, by decide, fun v hv => by rw [fz3_tr h1 v hv]; decide⟩
theorem gvo_tr {a2 : Int32} {Code_blocks : Int32} {Code_lines : Int32} {Graph_names : Int32} {Graph_words : Int32} {Colouring_restSize : Int32} {Colouring_pileSize : Int32} {Giver_slotOf : Nat → Int32} {Giver_sharedSlot : Nat → Int32} {Code_blocks2 : Int32} {Code_lines2 : Int32} {Code_isFull : Int32} {Code_first : Nat → Int32} {Code_firstGoal : Nat → Int32} {Code_secondGoal : Nat → Int32} {Code_op : Nat → Int32} {Code_set : Nat → Int32} {Code_left : Nat → Int32} {Code_leftNumber : Nat → Int32} {Code_right : Nat → Int32} {Code_rightNumber : Nat → Int32} {Loops_depth : Nat → Int32} {Graph_joined : Nat → Int64} {Graph_standing : Nat → Int64} {Graph_degree : Nat → Int32} {Colouring_weight : Nat → Int32} {Colouring_degree : Nat → Int32} {Colouring_rest : Nat → Int32} {Colouring_pile : Nat → Int32} {Colouring_colour : Nat → Int32} {Code_first2 : Nat → Int32} {Code_firstGoal2 : Nat → Int32} {Code_secondGoal2 : Nat → Int32} {Code_op2 : Nat → Int32} {Code_set2 : Nat → Int32} {Code_left2 : Nat → Int32} {Code_leftNumber2 : Nat → Int32} {Code_right2 : Nat → Int32} {Code_rightNumber2 : Nat → Int32} {Code_first3 : Nat → Int32} {Code_firstGoal3 : Nat → Int32} {Code_secondGoal3 : Nat → Int32} {Code_op3 : Nat → Int32} {Code_set3 : Nat → Int32} {Code_left3 : Nat → Int32} {Code_leftNumber3 : Nat → Int32} {Code_right3 : Nat → Int32} {Code_rightNumber3 : Nat → Int32} {Live_in : Nat → Int64} {Live_used : Nat → Int64} {Live_set : Nat → Int64} {Live_now : Nat → Int64} {o1 : Int32} {o2 : Int32} {o3 : Int32} {o4 : Int32} {o5 : Int32} {o6 : Int32} {o7 : Int32} {o8 : Int32} {o9 : Int32} {o10 : Int32} {o11 : Int32} {o12 : Nat → Int32} {o13 : Int32} {o14 : Int32} {o15 : Int32} {o16 : Int32} {o17 : Int32} {o18 : Int32} {o19 : Int32} {o20 : Int32} {o21 : Int32} {o22 : Nat → Int64} {o23 : Nat → Int64} {o24 : Nat → Int32} {o25 : Nat → Int32} {o26 : Nat → Int32} {o27 : Nat → Int32} {o28 : Nat → Int32} {o29 : Nat → Int32} {o30 : Nat → Int32} {o31 : Nat → Int32} {o32 : Nat → Int32} {o33 : Nat → Int32} {o34 : Nat → Int32} {o35 : Nat → Int32} {o36 : Nat → Int32} {o37 : Nat → Int32} {o38 : Nat → Int32} {o39 : Nat → Int32} {o40 : Nat → Int32} {o41 : Nat → Int32} {o42 : Nat → Int32} {o43 : Nat → Int32} {o44 : Nat → Int32} {o45 : Nat → Int32} {o46 : Nat → Int32} {o47 : Nat → Int32} {o48 : Nat → Int64} {o49 : Nat → Int64} {o50 : Nat → Int64} {o51 : Nat → Int64} {o52 : Nat → Int32} {B : Int → Int} {n : Int} (hB : bOk B n) (hP : okP B n P) (hc : cdP Code_blocks Code_lines Code_first Code_firstGoal Code_secondGoal Code_op Code_set Code_left Code_leftNumber Code_right Code_rightNumber P) (hdp : ∀ b, b < P.1 → (Loops_depth b).toInt = (dpt P b : Int)) (hk1 : 1 ≤ a2.toInt) (hk2 : a2.toInt ≤ 32) (h : tr_Giver_giveOut a2 Code_blocks Code_lines Graph_names Graph_words Colouring_restSize Colouring_pileSize Giver_slotOf Giver_sharedSlot Code_blocks2 Code_lines2 Code_isFull Code_first Code_firstGoal Code_secondGoal Code_op Code_set Code_left Code_leftNumber Code_right Code_rightNumber Loops_depth Graph_joined Graph_standing Graph_degree Colouring_weight Colouring_degree Colouring_rest Colouring_pile Colouring_colour Code_first2 Code_firstGoal2 Code_secondGoal2 Code_op2 Code_set2 Code_left2 Code_leftNumber2 Code_right2 Code_rightNumber2 Code_first3 Code_firstGoal3 Code_secondGoal3 Code_op3 Code_set3 Code_left3 Code_leftNumber3 Code_right3 Code_rightNumber3 Live_in Live_used Live_set Live_now o1 o2 o3 o4 o5 o6 o7 o8 o9 o10 o11 o12 o13 o14 o15 o16 o17 o18 o19 o20 o21 o22 o23 o24 o25 o26 o27 o28 o29 o30 o31 o32 o33 o34 o35 o36 o37 o38 o39 o40 o41 o42 o43 o44 o45 o46 o47 o48 o49 o50 o51 o52) : ∃ Z, GVr a2.toInt (dpt P) 40 1 (pgZ P) 100 0 o1.toInt Z := by
  obtain ⟨f1, f2, f3, f4, f5, f6⟩ := okP_f hB hP
  have gi := gvI_Z hB hP
  refine h (fun o1 o2 o3 o4 o5 o6 o7 o8 o9 o10 o11 o12 o13 o14 o15 o16 o17 o18 o19 o20 o21 o22 o23 o24 o25 o26 o27 o28 o29 o30 o31 o32 o33 o34 o35 o36 o37 o38 o39 o40 o41 o42 o43 o44 o45 o46 o47 o48 o49 o50 o51 o52 => ∃ Z, GVr a2.toInt (dpt P) 40 1 (pgZ P) 100 0 o1.toInt Z) ?_ ?_ ?_ ?_
  · intro x1 x2 x3 x4 x5 x6 x7 x8 x9 x10 x11 x12 x13 x14 x15 x16 x17 x18 x19 x20 x21 x22 x23 x24 x25 x26 x27 x28 x29 x30 x31 x32 x33 x34 x35 x36 x37 x38 x39 x40 x41 x42 x43 x44 x45 x46 x47 x48 x49 x50 x51 x52 x53 x54 x55 x56 x57 x58 x59 x60 x61 x62 x63 x64 x65 x66 x67 x68 x69 x70 x71 x72 x73 x74 h1 h2 h3 h4 h5 h6 h7 h8 h9 h10 h11 h12 h13 h14
    obtain ⟨b1, b2, -, -⟩ := bg_tr hc f1 f2 f3 f4 h13
    obtain ⟨c1, c2, c3⟩ := bgs_tr h13
    obtain ⟨r, Z, r1, r2, r3⟩ := gv7_tl (dp := dpt P) hk1 hk2 h14 (pgZ P) 100 0 1 (by decide) (Nat.le_refl _) (by decide) c1 c2 (by decide) b2 gi hdp (fun v hv _ => c3 v hv)
    rw [r3 (by decide)] at r1
    exact ⟨Z, r1⟩
  · intro x1 x2 x3 x4 x5 x6 x7 x8 x9 x10 x11 x12 x13 x14 x15 x16 x17 x18 x19 x20 x21 x22 x23 x24 x25 x26 x27 x28 x29 x30 x31 x32 x33 x34 x35 x36 x37 x38 x39 x40 x41 x42 x43 x44 x45 x46 x47 x48 x49 x50 x51 x52 x53 x54 x55 x56 x57 x58 x59 x60 x61 x62 x63 x64 x65 x66 x67 x68 x69 x70 x71 x72 x73 x74 h1 h2 h3 h4 h5 h6 h7 h8 h9 h10 h11 h12 h13 h14
    obtain ⟨b1, b2, -, -⟩ := bg_tr hc f1 f2 f3 f4 h13
    obtain ⟨c1, c2, c3⟩ := bgs_tr h13
    obtain ⟨r, Z, r1, r2, r3⟩ := gv7_tl (dp := dpt P) hk1 hk2 h14 (pgZ P) 100 0 1 (by decide) (Nat.le_refl _) (by decide) c1 c2 (by decide) b2 gi hdp (fun v hv _ => c3 v hv)
    rw [r3 (by decide)] at r1
    exact ⟨Z, r1⟩
  · intro x1 x2 x3 x4 x5 x6 x7 x8 x9 x10 x11 x12 x13 x14 x15 x16 x17 x18 x19 x20 x21 x22 x23 x24 x25 x26 x27 x28 x29 x30 x31 x32 x33 x34 x35 x36 x37 x38 x39 x40 x41 x42 x43 x44 x45 x46 x47 x48 x49 x50 x51 x52 x53 x54 x55 x56 x57 x58 x59 x60 x61 x62 x63 x64 x65 x66 x67 x68 x69 x70 x71 x72 x73 x74 h1 h2 h3 h4 h5 h6 h7 h8 h9 h10 h11 h12 h13 h14
    obtain ⟨b1, b2, -, -⟩ := bg_tr hc f1 f2 f3 f4 h13
    obtain ⟨c1, c2, c3⟩ := bgs_tr h13
    obtain ⟨r, Z, r1, r2, r3⟩ := gv7_tl (dp := dpt P) hk1 hk2 h14 (pgZ P) 100 0 1 (by decide) (Nat.le_refl _) (by decide) c1 c2 (by decide) b2 gi hdp (fun v hv _ => c3 v hv)
    rw [r3 (by decide)] at r1
    exact ⟨Z, r1⟩
  · intro x1 x2 x3 x4 x5 x6 x7 x8 x9 x10 x11 x12 x13 x14 x15 x16 x17 x18 x19 x20 x21 x22 x23 x24 x25 x26 x27 x28 x29 x30 x31 x32 x33 x34 x35 x36 x37 x38 x39 x40 x41 x42 x43 x44 x45 x46 x47 x48 x49 x50 x51 x52 x53 x54 x55 x56 x57 x58 x59 x60 x61 x62 x63 x64 x65 x66 x67 x68 x69 x70 x71 x72 x73 x74 x75 x76 x77 x78 x79 x80 x81 x82 x83 x84 x85 x86 x87 x88 x89 x90 x91 x92 x93 h1 h2 h3 h4 h5 h6 h7 h8 h9 h10 h11 h12 h13 h14 h15 h16 h17 h18 h19 h20 h21
    obtain ⟨b1, b2, -, -⟩ := bg_tr hc f1 f2 f3 f4 h13
    obtain ⟨c1, c2, c3⟩ := bgs_tr h13
    obtain ⟨r, Z, r1, r2, r3⟩ := gv7_tl (dp := dpt P) hk1 hk2 h14 (pgZ P) 100 0 1 (by decide) (Nat.le_refl _) (by decide) c1 c2 (by decide) b2 gi hdp (fun v hv _ => c3 v hv)
    rw [(r2 rfl).1] at r1
    exact ⟨Z, r1⟩
end GWC
end
section
/-! a run, over programs -/
section MCH
variable {Q : gPg} {inp : Nat → Int32} {gn b j : Nat}
def rnO (l : Nat → Int) : Prop := (0 ≤ l 0 ∧ l 0 ≤ 18) ∧ (-1 ≤ l 2 ∧ l 2 ≤ 99) ∧ (-1 ≤ l 4 ∧ l 4 ≤ 99) ∧ (l 0 ≤ 15 ∨ l 0 = 17 → 0 ≤ l 1 ∧ l 1 ≤ 99) ∧ (l 0 = 17 ∨ l 0 = 18 → 0 ≤ l 5 ∧ l 5 ≤ 99)
def rnB (n : Nat) (l : Nat → Nat → Int) (g : Nat → Int) : Prop := 0 < n ∧ (∀ j, j + 1 < n → rnO (l j)) ∧ edO (l (n - 1)) ∧ edG (l (n - 1) 0) (g 0) (g 1)
/-- a program that can be run -/
def rnP (Q : gPg) : Prop := (0 < Q.1 ∧ Q.1 ≤ 40) ∧ glO Q ∧ (∀ b, b < Q.1 → rnB (Q.2.1 b) (Q.2.2.1 b) (Q.2.2.2 b)) ∧ fsm Q.2.1 Q.1 ≤ 920
theorem rn_row (hP : rnP Q) (hb : b < Q.1) (hj : j < Q.2.1 b) : (Q.2.2.1 b j 0 ≤ 18 ∧ j + 1 < Q.2.1 b ∧ rnO (Q.2.2.1 b j)) ∨ (19 ≤ Q.2.2.1 b j 0 ∧ j + 1 = Q.2.1 b ∧ edO (Q.2.2.1 b j) ∧ edG (Q.2.2.1 b j 0) (Q.2.2.2 b 0) (Q.2.2.2 b 1)) := by
  obtain ⟨h0, h1, h2, h3⟩ := hP.2.2.1 b hb
  by_cases c : j + 1 < Q.2.1 b
  · exact Or.inl ⟨(h1 j c).1.2, c, h1 j c⟩
  · have e : Q.2.1 b - 1 = j := by omega
    rw [e] at h2 h3
    refine Or.inr ⟨?_, by omega, h2, h3⟩
    unfold edG at h3
    omega
theorem rn_r (hP : rnP Q) (hb : b < Q.1) (hj : j < Q.2.1 b) (h : Q.2.2.1 b j 0 ≤ 18) : j + 1 < Q.2.1 b ∧ rnO (Q.2.2.1 b j) := by
  rcases rn_row hP hb hj with ⟨-, a, c⟩ | ⟨a, -⟩
  · exact ⟨a, c⟩
  · omega
theorem rn_e (hP : rnP Q) (hb : b < Q.1) (hj : j < Q.2.1 b) (h : 19 ≤ Q.2.2.1 b j 0) : edO (Q.2.2.1 b j) ∧ edG (Q.2.2.1 b j 0) (Q.2.2.2 b 0) (Q.2.2.2 b 1) := by
  rcases rn_row hP hb hj with ⟨a, -⟩ | ⟨-, -, a, c⟩
  · omega
  · exact ⟨a, c⟩
theorem rn_g {i : Nat} (hP : rnP Q) (hb : b < Q.1) (hi : i < 2) (h : 0 ≤ Q.2.2.2 b i) : ∃ g : Nat, Q.2.2.2 b i = (g : Int) ∧ g < Q.1 ∧ 0 < Q.2.1 g := by
  have q := (hP.2.1 b i hb hi (by omega)).2
  have e : Q.2.2.2 b i = (((Q.2.2.2 b i).toNat : Nat) : Int) := (Int.toNat_of_nonneg h).symm
  have l : (Q.2.2.2 b i).toNat < Q.1 := by omega
  exact ⟨_, e, l, (hP.2.2.1 _ l).1⟩
/-- block, line, registers, slots, what was shown, how many, how many were taken -/
abbrev gM9 := Nat × Nat × (Nat → Int32) × (Nat → Int32) × (Nat → Int32) × Nat × Nat
variable {s : gM9}
def mvl (rg : Nat → Int32) (x n : Int) : Int32 := if 0 ≤ x then rg x.toNat else Int32.ofInt n
def clc (o : Int) (a c : Int32) : Int32 :=
  if o = 0 then a + c else if o = 1 then a - c else if o = 2 then a * c else if o = 3 then a / c else if o = 4 then a - a / c * c
  else if o = 5 then a &&& c else if o = 6 then a ||| c else if o = 7 then a ^^^ c else if o = 8 then a <<< (c &&& 31) else if o = 9 then a >>> (c &&& 31)
  else if o = 10 then (if a.toInt < c.toInt then 1 else 0) else if o = 11 then (if a.toInt ≤ c.toInt then 1 else 0)
  else if o = 12 then (if a.toInt = c.toInt then 1 else 0) else (if a.toInt = c.toInt then 0 else 1)
def va9 (Q : gPg) (s : gM9) : Int32 := mvl s.2.2.1 (Q.2.2.1 s.1 s.2.1 2) (Q.2.2.1 s.1 s.2.1 3)
def vb9 (Q : gPg) (s : gM9) : Int32 := mvl s.2.2.1 (Q.2.2.1 s.1 s.2.1 4) (Q.2.2.1 s.1 s.2.1 5)
def rw9 (s : gM9) (t : Int) (v : Int32) : gM9 := (s.1, s.2.1 + 1, upd s.2.2.1 t.toNat v, s.2.2.2)
def go9 (s : gM9) (g : Int) : gM9 := (g.toNat, 0, s.2.2)
def tk9 (inp : Nat → Int32) (gn t : Nat) : Int32 := if t < gn then inp t else 0
def tn9 (gn t : Nat) : Nat := if t < gn then t + 1 else t
def st9 (Q : gPg) (inp : Nat → Int32) (gn : Nat) (s : gM9) : Option (Int × Int32) × gM9 :=
  if Q.2.2.1 s.1 s.2.1 0 = 14 then (none, rw9 s (Q.2.2.1 s.1 s.2.1 1) (va9 Q s))
  else if Q.2.2.1 s.1 s.2.1 0 = 15 then (none, (s.1, s.2.1 + 1, upd s.2.2.1 (Q.2.2.1 s.1 s.2.1 1).toNat (tk9 inp gn s.2.2.2.2.2.2), s.2.2.2.1, s.2.2.2.2.1, s.2.2.2.2.2.1, tn9 gn s.2.2.2.2.2.2))
  else if Q.2.2.1 s.1 s.2.1 0 = 16 then (if s.2.2.2.2.2.1 < 512 then (none, (s.1, s.2.1 + 1, s.2.2.1, s.2.2.2.1, upd s.2.2.2.2.1 s.2.2.2.2.2.1 (va9 Q s), s.2.2.2.2.2.1 + 1, s.2.2.2.2.2.2)) else (some (5, 0), s))
  else if Q.2.2.1 s.1 s.2.1 0 = 17 then (none, rw9 s (Q.2.2.1 s.1 s.2.1 1) (s.2.2.2.1 (Q.2.2.1 s.1 s.2.1 5).toNat))
  else if Q.2.2.1 s.1 s.2.1 0 = 18 then (none, (s.1, s.2.1 + 1, s.2.2.1, upd s.2.2.2.1 (Q.2.2.1 s.1 s.2.1 5).toNat (va9 Q s), s.2.2.2.2))
  else if Q.2.2.1 s.1 s.2.1 0 = 19 then (none, go9 s (Q.2.2.2 s.1 0))
  else if Q.2.2.1 s.1 s.2.1 0 = 20 then (none, go9 s (if (va9 Q s).toInt = 0 then Q.2.2.2 s.1 1 else Q.2.2.2 s.1 0))
  else if Q.2.2.1 s.1 s.2.1 0 = 21 then (some (0, va9 Q s), s)
  else if (Q.2.2.1 s.1 s.2.1 0 = 3 ∨ Q.2.2.1 s.1 s.2.1 0 = 4) ∧ (vb9 Q s).toInt = 0 then (some (1, 0), s)
  else (none, rw9 s (Q.2.2.1 s.1 s.2.1 1) (clc (Q.2.2.1 s.1 s.2.1 0) (va9 Q s) (vb9 Q s)))
theorem st9_14 (h : Q.2.2.1 s.1 s.2.1 0 = 14) : st9 Q inp gn s = (none, rw9 s (Q.2.2.1 s.1 s.2.1 1) (va9 Q s)) := by unfold st9; rw [if_pos h]
theorem st9_15 (h : Q.2.2.1 s.1 s.2.1 0 = 15) : st9 Q inp gn s = (none, (s.1, s.2.1 + 1, upd s.2.2.1 (Q.2.2.1 s.1 s.2.1 1).toNat (tk9 inp gn s.2.2.2.2.2.2), s.2.2.2.1, s.2.2.2.2.1, s.2.2.2.2.2.1, tn9 gn s.2.2.2.2.2.2)) := by unfold st9; rw [if_neg (by omega), if_pos h]
theorem st9_16 (h : Q.2.2.1 s.1 s.2.1 0 = 16) (h2 : s.2.2.2.2.2.1 < 512) : st9 Q inp gn s = (none, (s.1, s.2.1 + 1, s.2.2.1, s.2.2.2.1, upd s.2.2.2.2.1 s.2.2.2.2.2.1 (va9 Q s), s.2.2.2.2.2.1 + 1, s.2.2.2.2.2.2)) := by unfold st9; rw [if_neg (by omega), if_neg (by omega), if_pos h, if_pos h2]
theorem st9_16x (h : Q.2.2.1 s.1 s.2.1 0 = 16) (h2 : ¬ s.2.2.2.2.2.1 < 512) : st9 Q inp gn s = (some (5, 0), s) := by unfold st9; rw [if_neg (by omega), if_neg (by omega), if_pos h, if_neg h2]
theorem st9_17 (h : Q.2.2.1 s.1 s.2.1 0 = 17) : st9 Q inp gn s = (none, rw9 s (Q.2.2.1 s.1 s.2.1 1) (s.2.2.2.1 (Q.2.2.1 s.1 s.2.1 5).toNat)) := by unfold st9; rw [if_neg (by omega), if_neg (by omega), if_neg (by omega), if_pos h]
theorem st9_18 (h : Q.2.2.1 s.1 s.2.1 0 = 18) : st9 Q inp gn s = (none, (s.1, s.2.1 + 1, s.2.2.1, upd s.2.2.2.1 (Q.2.2.1 s.1 s.2.1 5).toNat (va9 Q s), s.2.2.2.2)) := by unfold st9; rw [if_neg (by omega), if_neg (by omega), if_neg (by omega), if_neg (by omega), if_pos h]
theorem st9_19 (h : Q.2.2.1 s.1 s.2.1 0 = 19) : st9 Q inp gn s = (none, go9 s (Q.2.2.2 s.1 0)) := by unfold st9; rw [if_neg (by omega), if_neg (by omega), if_neg (by omega), if_neg (by omega), if_neg (by omega), if_pos h]
theorem st9_20 (h : Q.2.2.1 s.1 s.2.1 0 = 20) : st9 Q inp gn s = (none, go9 s (if (va9 Q s).toInt = 0 then Q.2.2.2 s.1 1 else Q.2.2.2 s.1 0)) := by unfold st9; rw [if_neg (by omega), if_neg (by omega), if_neg (by omega), if_neg (by omega), if_neg (by omega), if_neg (by omega), if_pos h]
theorem st9_21 (h : Q.2.2.1 s.1 s.2.1 0 = 21) : st9 Q inp gn s = (some (0, va9 Q s), s) := by unfold st9; rw [if_neg (by omega), if_neg (by omega), if_neg (by omega), if_neg (by omega), if_neg (by omega), if_neg (by omega), if_neg (by omega), if_pos h]
theorem st9_z (h : Q.2.2.1 s.1 s.2.1 0 = 3 ∨ Q.2.2.1 s.1 s.2.1 0 = 4) (h2 : (vb9 Q s).toInt = 0) : st9 Q inp gn s = (some (1, 0), s) := by unfold st9; rw [if_neg (by omega), if_neg (by omega), if_neg (by omega), if_neg (by omega), if_neg (by omega), if_neg (by omega), if_neg (by omega), if_neg (by omega), if_pos ⟨h, h2⟩]
theorem st9_c (h : Q.2.2.1 s.1 s.2.1 0 ≤ 13) (h2 : ¬ ((Q.2.2.1 s.1 s.2.1 0 = 3 ∨ Q.2.2.1 s.1 s.2.1 0 = 4) ∧ (vb9 Q s).toInt = 0)) : st9 Q inp gn s = (none, rw9 s (Q.2.2.1 s.1 s.2.1 1) (clc (Q.2.2.1 s.1 s.2.1 0) (va9 Q s) (vb9 Q s))) := by unfold st9; rw [if_neg (by omega), if_neg (by omega), if_neg (by omega), if_neg (by omega), if_neg (by omega), if_neg (by omega), if_neg (by omega), if_neg (by omega), if_neg h2]
/-- a run: how it ends, the answer, the steps, the state -/
def rn9 (Q : gPg) (inp : Nat → Int32) (gn : Nat) : Nat → Nat → gM9 → Int × Int32 × Nat × gM9
  | 0, t, s => (4, 0, t, s)
  | f + 1, t, s => match st9 Q inp gn s with
    | (some e, s2) => (e.1, e.2, t + 1, s2)
    | (none, s2) => rn9 Q inp gn f (t + 1) s2
theorem rn9_0 {t : Nat} : rn9 Q inp gn 0 t s = (4, 0, t, s) := rfl
theorem rn9_s {f t : Nat} {e : Int × Int32} {s2 : gM9} (h : st9 Q inp gn s = (some e, s2)) : rn9 Q inp gn (f + 1) t s = (e.1, e.2, t + 1, s2) := by
  show (match st9 Q inp gn s with | (some e, s2) => (e.1, e.2, t + 1, s2) | (none, s2) => rn9 Q inp gn f (t + 1) s2) = _
  rw [h]
theorem rn9_n {f t : Nat} {s2 : gM9} (h : st9 Q inp gn s = (none, s2)) : rn9 Q inp gn (f + 1) t s = rn9 Q inp gn f (t + 1) s2 := by
  show (match st9 Q inp gn s with | (some e, s2) => (e.1, e.2, t + 1, s2) | (none, s2) => rn9 Q inp gn f (t + 1) s2) = _
  rw [h]
def in9 : gM9 := (0, 0, fun _ => 0, fun _ => 0, fun _ => 0, 0, 0)
/-- what was shown and taken -/
def ag8 (s : gM9) (sc tk : Int32) (sh : Nat → Int32) : Prop := sc.toInt = (s.2.2.2.2.2.1 : Int) ∧ tk.toInt = (s.2.2.2.2.2.2 : Int) ∧ ∀ i, i < s.2.2.2.2.2.1 → sh i = s.2.2.2.2.1 i
/-- the class's machine stands at s -/
def ag9 (Q : gPg) (s : gM9) (ln bl sc tk : Int32) (sh rg sl : Nat → Int32) : Prop :=
  s.1 < Q.1 ∧ s.2.1 < Q.2.1 s.1 ∧ ln.toInt = ((fsm Q.2.1 s.1 + s.2.1 : Nat) : Int) ∧ bl.toInt = (s.1 : Int) ∧ ag8 s sc tk sh ∧ s.2.2.2.2.2.1 ≤ 512 ∧ (∀ i, i < 100 → rg i = s.2.2.1 i) ∧ ∀ i, i < 100 → sl i = s.2.2.2.1 i
variable {ln bl sc tk ln2 bl2 sc2 tk2 v : Int32} {sh rg sl sh2 rg2 sl2 : Nat → Int32} {x n : Int}
theorem updW {f g : Nat → Int32} {k m : Nat} {v : Int32} (h : ∀ i, i < k → f i = g i) : ∀ i, i < k → upd f m v i = upd g m v i := fun i hi => by
  by_cases c : i = m
  · rw [c, updE, updE]
  · rw [updN c, updN c]; exact h i hi
theorem ag_rw (h : ag9 Q s ln bl sc tk sh rg sl) (hj : s.2.1 + 1 < Q.2.1 s.1) (hl : ln2.toInt = ln.toInt + 1) (hr : rg2 = upd rg x.toNat v) : ag9 Q (rw9 s x v) ln2 bl sc tk sh rg2 sl := by
  obtain ⟨h1, h2, h3, h4, h5, h6, h7, h8⟩ := h
  refine ⟨h1, hj, ?_, h4, h5, h6, fun i hi => ?_, h8⟩
  · show ln2.toInt = ((fsm Q.2.1 s.1 + (s.2.1 + 1) : Nat) : Int)
    omega
  · show rg2 i = upd s.2.2.1 x.toNat v i
    rw [hr]; exact updW h7 i hi
theorem ag_tk (h : ag9 Q s ln bl sc tk sh rg sl) (hj : s.2.1 + 1 < Q.2.1 s.1) (hl : ln2.toInt = ln.toInt + 1) (hr : rg2 = upd rg x.toNat (tk9 inp gn s.2.2.2.2.2.2)) (ht : tk2.toInt = (tn9 gn s.2.2.2.2.2.2 : Int)) :
    ag9 Q (s.1, s.2.1 + 1, upd s.2.2.1 x.toNat (tk9 inp gn s.2.2.2.2.2.2), s.2.2.2.1, s.2.2.2.2.1, s.2.2.2.2.2.1, tn9 gn s.2.2.2.2.2.2) ln2 bl sc tk2 sh rg2 sl := by
  obtain ⟨h1, h2, h3, h4, ⟨h5, -, h5'⟩, h6, h7, h8⟩ := h
  refine ⟨h1, hj, ?_, h4, ⟨h5, ht, h5'⟩, h6, fun i hi => ?_, h8⟩
  · show ln2.toInt = ((fsm Q.2.1 s.1 + (s.2.1 + 1) : Nat) : Int)
    omega
  · show rg2 i = upd s.2.2.1 x.toNat _ i
    rw [hr]; exact updW h7 i hi
theorem ag_sw (h : ag9 Q s ln bl sc tk sh rg sl) (hj : s.2.1 + 1 < Q.2.1 s.1) (hn : s.2.2.2.2.2.1 < 512) (hl : ln2.toInt = ln.toInt + 1) (hc : sc2.toInt = sc.toInt + 1) (hr : sh2 = upd sh sc.toNatClampNeg v) :
    ag9 Q (s.1, s.2.1 + 1, s.2.2.1, s.2.2.2.1, upd s.2.2.2.2.1 s.2.2.2.2.2.1 v, s.2.2.2.2.2.1 + 1, s.2.2.2.2.2.2) ln2 bl sc2 tk sh2 rg sl := by
  obtain ⟨h1, h2, h3, h4, ⟨h5, h5t, h5'⟩, h6, h7, h8⟩ := h
  refine ⟨h1, hj, ?_, h4, ⟨?_, h5t, fun i hi => ?_⟩, hn, h7, h8⟩
  · show ln2.toInt = ((fsm Q.2.1 s.1 + (s.2.1 + 1) : Nat) : Int)
    omega
  · show sc2.toInt = ((s.2.2.2.2.2.1 + 1 : Nat) : Int)
    omega
  · show sh2 i = upd s.2.2.2.2.1 s.2.2.2.2.2.1 v i
    have hi' : i < s.2.2.2.2.2.1 + 1 := hi
    rw [hr, nnE h5]
    by_cases c : i = s.2.2.2.2.2.1
    · rw [c, updE, updE]
    · rw [updN c, updN c]; exact h5' i (by omega)
theorem ag_st (h : ag9 Q s ln bl sc tk sh rg sl) (hj : s.2.1 + 1 < Q.2.1 s.1) (hl : ln2.toInt = ln.toInt + 1) (hr : sl2 = upd sl x.toNat v) : ag9 Q (s.1, s.2.1 + 1, s.2.2.1, upd s.2.2.2.1 x.toNat v, s.2.2.2.2) ln2 bl sc tk sh rg sl2 := by
  obtain ⟨h1, h2, h3, h4, h5, h6, h7, h8⟩ := h
  refine ⟨h1, hj, ?_, h4, h5, h6, h7, fun i hi => ?_⟩
  · show ln2.toInt = ((fsm Q.2.1 s.1 + (s.2.1 + 1) : Nat) : Int)
    omega
  · show sl2 i = upd s.2.2.2.1 x.toNat v i
    rw [hr]; exact updW h8 i hi
theorem ag_go {g : Nat} (h : ag9 Q s ln bl sc tk sh rg sl) (hg : x = (g : Int)) (hg1 : g < Q.1) (hg2 : 0 < Q.2.1 g) (hl : ln2.toInt = (fsm Q.2.1 g : Int)) (hb : bl2.toInt = (g : Int)) : ag9 Q (go9 s x) ln2 bl2 sc tk sh rg sl := by
  obtain ⟨h1, h2, h3, h4, h5, h6, h7, h8⟩ := h
  have e : x.toNat = g := by rw [hg]; rfl
  unfold go9
  rw [e]
  exact ⟨hg1, hg2, hl, hb, h5, h6, h7, h8⟩
/-- what a step of the class leaves -/
def sc9 (Q : gPg) (inp : Nat → Int32) (gn : Nat) (s : gM9) (o1 : Int32) (o2 : Nat → Int32) (o3 o4 o5 : Int32) (o6 o7 : Nat → Int32) (o8 o9 : Int32) : Prop :=
  (∃ s2, st9 Q inp gn s = (none, s2) ∧ ag9 Q s2 o1 o8 o4 o3 o6 o2 o7 ∧ o5.toInt = -2 ∧ o9 = 0) ∨
  (∃ e a s2, st9 Q inp gn s = (some (e, a), s2) ∧ o5.toInt = e ∧ 0 ≤ e ∧ o9 = a ∧ ag8 s2 o4 o3 o6)
/-- what a run of the class leaves -/
def en9 (r : Int × Int32 × Nat × gM9) (an sc st tk en : Int32) (sh : Nat → Int32) : Prop := ((en.toInt = r.1 ∧ 0 ≤ r.1) ∨ (en.toInt = -2 ∧ r.1 = 4)) ∧ an = r.2.1 ∧ st.toInt = (r.2.2.1 : Int) ∧ ag8 r.2.2.2 sc tk sh
end MCH
end
section
/-! runs of the class -/
section PFC
variable {Q : gPg} {inp : Nat → Int32} {gn : Nat} {s : gM9} {x n : Int}
theorem ht_x {a1 o1 : Int32} (h : tr_Machine_halt a1 o1) : o1 = a1 := by
  refine h (fun o1 => o1 = a1) ?_
  · skip
    rfl
theorem vo_x {a1 a2 o1 : Int32} {rg rg2 : Nat → Int32} (hx : a1.toInt = x) (hn : a2.toInt = n) (h0 : -1 ≤ x) (h1 : x ≤ 99) (hr : ∀ i, i < 100 → rg i = rg2 i) (h : tr_Machine_valueOf a1 a2 rg o1) : o1 = mvl rg2 x n := by
  unfold mvl
  refine h (fun o1 => o1 = if 0 ≤ x then rg2 x.toNat else Int32.ofInt n) ?_ ?_ ?_
  · intro h1
    rw [if_neg (show ¬ 0 ≤ x by omega), ← hn]; exact (Int32.ofInt_toInt a2).symm
  · intro h1 h2
    omega
  · intro x1 h1 h2 h3
    rw [if_pos (show 0 ≤ x by omega), h3, nnE (show a1.toInt = ((x.toNat : Nat) : Int) by omega)]; exact hr _ (by omega)
theorem pt_x {a1 a2 : Int32} {p o1 : Nat → Int32} (hx : a1.toInt = x) (h0 : 0 ≤ x) (h1 : x ≤ 99) (h : tr_Machine_put a1 a2 p o1) : o1 = upd p x.toNat a2 := by
  refine h (fun o1 => o1 = upd p x.toNat a2) ?_ ?_ ?_
  · intro h1
    omega
  · intro h1 h2
    omega
  · intro x1 h1 h2 h3
    rw [h3, nnE (show a1.toInt = ((x.toNat : Nat) : Int) by omega)]
theorem sa_x {a1 o1 : Int32} {sl sl2 : Nat → Int32} (hx : a1.toInt = x) (h0 : 0 ≤ x) (h1 : x ≤ 99) (hr : ∀ i, i < 100 → sl i = sl2 i) (h : tr_Machine_slotAt a1 sl o1) : o1 = sl2 x.toNat := by
  refine h (fun o1 => o1 = sl2 x.toNat) ?_ ?_ ?_
  · intro h1
    omega
  · intro h1 h2
    omega
  · intro x1 h1 h2 h3
    rw [h3, nnE (show a1.toInt = ((x.toNat : Nat) : Int) by omega)]; exact hr _ (by omega)
theorem tn_x {gv tk o1 o2 : Int32} {gi : Nat → Int32} {t : Nat} (hg : gv.toInt = (gn : Int)) (ht : tk.toInt = (t : Int)) (hi : ∀ i, i < gn → gi i = inp i) (h : tr_Machine_takeNext gv tk gi o1 o2) : o1 = tk9 inp gn t ∧ o2.toInt = (tn9 gn t : Int) := by
  unfold tk9 tn9
  refine h (fun o1 o2 => o1 = (if t < gn then inp t else 0) ∧ o2.toInt = ((if t < gn then t + 1 else t : Nat) : Int)) ?_ ?_
  · intro x1 x2 x3 h1 h2 h3 h4
    have c : t < gn := by omega
    rw [if_pos c, if_pos c, h4, nnE (show x2.toInt = (t : Int) by omega)]
    exact ⟨hi t c, by omega⟩
  · intro h1
    have c : ¬ t < gn := by omega
    rw [if_neg c, if_neg c]
    exact ⟨rfl, ht⟩
theorem as_x {a1 sc o1 o2 : Int32} {sh o3 : Nat → Int32} (h : tr_Machine_addShow a1 sc sh o1 o2 o3) : (sc.toInt < 512 ∧ o1.toInt ≠ 0 ∧ o2.toInt = sc.toInt + 1 ∧ o3 = upd sh sc.toNatClampNeg a1) ∨ (512 ≤ sc.toInt ∧ o1.toInt = 0 ∧ o2 = sc ∧ o3 = sh) := by
  refine h (fun o1 o2 o3 => (sc.toInt < 512 ∧ o1.toInt ≠ 0 ∧ o2.toInt = sc.toInt + 1 ∧ o3 = upd sh sc.toNatClampNeg a1) ∨ (512 ≤ sc.toInt ∧ o1.toInt = 0 ∧ o2 = sc ∧ o3 = sh)) ?_ ?_
  · intro x1 x2 h1 h2 h3
    exact Or.inl ⟨h1, by decide, h3, h2⟩
  · intro h1
    exact Or.inr ⟨h1, by decide, rfl, rfl⟩
theorem ca_x {a0 a1 a2 o1 : Int32} (h0 : 0 ≤ a0.toInt) (h13 : a0.toInt ≤ 13) (hz : ¬ ((a0.toInt = 3 ∨ a0.toInt = 4) ∧ a2.toInt = 0)) (h : tr_Machine_calculate a0 a1 a2 o1) : o1 = clc a0.toInt a1 a2 := by
  refine h (fun o1 => o1 = clc a0.toInt a1 a2) ?_ ?_ ?_ ?_ ?_ ?_ ?_ ?_ ?_ ?_ ?_ ?_ ?_ ?_ ?_ ?_ ?_ ?_ ?_ ?_ ?_
  · intro x1 h1 h2
    rw [h1, h2]
    rfl
  · intro x1 h1 h2
    rw [h1, h2]
    rfl
  · intro x1 h1 h2
    rw [h1, h2]
    rfl
  · intro x1 h1 h2 h3
    rw [h1, h3]
    rfl
  · intro h1 h2
    exact absurd ⟨by omega, h2⟩ hz
  · intro x1 h1 h2 h3
    rw [h1, h3]
    rfl
  · intro h1 h2
    exact absurd ⟨by omega, h2⟩ hz
  · intro x1 h1 h2
    rw [h1, h2]
    rfl
  · intro x1 h1 h2
    rw [h1, h2]
    rfl
  · intro x1 h1 h2
    rw [h1, h2]
    rfl
  · intro x1 h1 h2
    rw [h1, h2]
    rfl
  · intro x1 h1 h2
    rw [h1, h2]
    rfl
  · intro h1 h2
    rw [h1]
    show _ = if a1.toInt < a2.toInt then (1 : Int32) else 0
    exact (if_neg (show ¬ a1.toInt < a2.toInt by omega)).symm
  · intro h1 h2
    rw [h1]
    show _ = if a1.toInt < a2.toInt then (1 : Int32) else 0
    exact (if_pos (show a1.toInt < a2.toInt by omega)).symm
  · intro h1 h2
    rw [h1]
    show _ = if a1.toInt ≤ a2.toInt then (1 : Int32) else 0
    exact (if_neg (show ¬ a1.toInt ≤ a2.toInt by omega)).symm
  · intro h1 h2
    rw [h1]
    show _ = if a1.toInt ≤ a2.toInt then (1 : Int32) else 0
    exact (if_pos (show a1.toInt ≤ a2.toInt by omega)).symm
  · intro h1 h2
    rw [h1]
    show _ = if a1.toInt = a2.toInt then (1 : Int32) else 0
    exact (if_neg (show ¬ a1.toInt = a2.toInt by omega)).symm
  · intro h1 h2
    rw [h1]
    show _ = if a1.toInt = a2.toInt then (1 : Int32) else 0
    exact (if_pos (show a1.toInt = a2.toInt by omega)).symm
  · intro h1 h2
    rw [h1]
    show _ = if a1.toInt = a2.toInt then (0 : Int32) else 1
    exact (if_pos (show a1.toInt = a2.toInt by omega)).symm
  · intro h1 h2
    rw [h1]
    show _ = if a1.toInt = a2.toInt then (0 : Int32) else 1
    exact (if_neg (show ¬ a1.toInt = a2.toInt by omega)).symm
  · intro h1 h2 h3 h4 h5 h6 h7 h8 h9 h10 h11 h12 h13 h14
    omega
theorem en_x {a2 : Int32} {Machine_block : Int32} {Machine_ending : Int32} {Code_blocks : Int32} {Code_first : Nat → Int32} {o1 : Int32} {o2 : Int32} {o3 : Int32} {g : Nat} (hb : Code_blocks.toInt = (Q.1 : Int)) (ha : a2.toInt = (g : Int)) (hg : g < Q.1) (hf : (Code_first g).toInt = (fsm Q.2.1 g : Int)) (h : tr_Machine_enter a2 Machine_block Machine_ending Code_blocks Code_first o1 o2 o3) : o1.toInt = (fsm Q.2.1 g : Int) ∧ o2 = Machine_ending ∧ o3.toInt = (g : Int) := by
  refine h (fun o1 o2 o3 => o1.toInt = (fsm Q.2.1 g : Int) ∧ o2 = Machine_ending ∧ o3.toInt = (g : Int)) ?_ ?_ ?_
  · intro x1 h1 h2
    omega
  · intro x1 h1 h2 h3 h4
    refine ⟨?_, rfl, ha⟩
    rw [h3, nnE ha]; exact hf
  · intro x1 h1 h2 h3
    omega
set_option maxHeartbeats 4000000 in
theorem stp_x {a2 : Int32} {Machine_givens : Int32} {Machine_block : Int32} {Machine_answer : Int32} {Machine_showCount : Int32} {Machine_taken : Int32} {Machine_ending : Int32} {Code_blocks : Int32} {Machine_given : Nat → Int32} {Machine_registers : Nat → Int32} {Machine_slots : Nat → Int32} {Machine_shows : Nat → Int32} {Code_first : Nat → Int32} {Code_firstGoal : Nat → Int32} {Code_secondGoal : Nat → Int32} {Code_op : Nat → Int32} {Code_set : Nat → Int32} {Code_left : Nat → Int32} {Code_leftNumber : Nat → Int32} {Code_right : Nat → Int32} {Code_rightNumber : Nat → Int32} {o1 : Int32} {o2 : Nat → Int32} {o3 : Int32} {o4 : Int32} {o5 : Int32} {o6 : Nat → Int32} {o7 : Nat → Int32} {o8 : Int32} {o9 : Int32} {Code_lines : Int32} (hP : rnP Q) (hcd : cdP Code_blocks Code_lines Code_first Code_firstGoal Code_secondGoal Code_op Code_set Code_left Code_leftNumber Code_right Code_rightNumber Q) (hgn : Machine_givens.toInt = (gn : Int)) (hin : ∀ i, i < gn → Machine_given i = inp i) (hag : ag9 Q s a2 Machine_block Machine_showCount Machine_taken Machine_shows Machine_registers Machine_slots) (hen : Machine_ending.toInt = -2) (han : Machine_answer = 0) (h : tr_Machine_step a2 Machine_givens Machine_block Machine_answer Machine_showCount Machine_taken Machine_ending Code_blocks Machine_given Machine_registers Machine_slots Machine_shows Code_first Code_firstGoal Code_secondGoal Code_op Code_set Code_left Code_leftNumber Code_right Code_rightNumber o1 o2 o3 o4 o5 o6 o7 o8 o9) : sc9 Q inp gn s o1 o2 o3 o4 o5 o6 o7 o8 o9 := by
  obtain ⟨g1, g2, g3, g4, g5, g6, g7, g8⟩ := id hag
  obtain ⟨c0, c1, c2, c3, c4, c5⟩ := hcd.2.2.2 s.1 s.2.1 g1 g2
  rw [← nnE g3] at c0 c1 c2 c3 c4 c5
  refine h (fun o1 o2 o3 o4 o5 o6 o7 o8 o9 => sc9 Q inp gn s o1 o2 o3 o4 o5 o6 o7 o8 o9) ?_ ?_ ?_ ?_ ?_ ?_ ?_ ?_ ?_ ?_ ?_ ?_ ?_ ?_ ?_ ?_ ?_ ?_ ?_ ?_ ?_ ?_ ?_ ?_ ?_ ?_ ?_ ?_ ?_ ?_ ?_ ?_ ?_ ?_ ?_ ?_ ?_ ?_
  · intro x1 x2 x3 x4 x5 x6 h1 h2 h3 h4 h5 h6 h7 h8 h9
    have e0 : x1.toInt = Q.2.2.1 s.1 s.2.1 0 := by rw [h1]; exact c0
    have eo : Q.2.2.1 s.1 s.2.1 0 = 14 := by omega
    have hr := rn_r hP g1 g2 (by omega)
    obtain ⟨hj, r0, r2, r4, r1, r5⟩ := hr
    have v : x3 = va9 Q s := vo_x (by rw [h3]; exact c2) (by rw [h4]; exact c3) r2.1 r2.2 g7 h5
    have p := pt_x (by rw [h7]; exact c1) (r1 (by omega)).1 (r1 (by omega)).2 h8
    exact Or.inl ⟨_, st9_14 eo, ag_rw hag hj h9 (by rw [p, v]), hen, han⟩
  · intro x1 x2 x3 x4 x5 x6 x7 x8 h1 h2 h3 h4 h5 h6 h7 h8 h9 h10 h11
    have e0 : x1.toInt = Q.2.2.1 s.1 s.2.1 0 := by rw [h1]; exact c0
    have eo : Q.2.2.1 s.1 s.2.1 0 = 15 := by omega
    have hr := rn_r hP g1 g2 (by omega)
    obtain ⟨hj, r0, r2, r4, r1, r5⟩ := hr
    obtain ⟨t1, t2⟩ := tn_x hgn g5.2.1 hin h9
    have p := pt_x (by rw [h7]; exact c1) (r1 (by omega)).1 (r1 (by omega)).2 h10
    exact Or.inl ⟨_, st9_15 eo, ag_tk hag hj h11 (by rw [p, t1]) t2, hen, han⟩
  · intro x1 x2 x3 x4 x5 x6 x7 h1 h2 h3 h4 h5 h6 h7 h8 h9 h10 h11
    have e0 : x1.toInt = Q.2.2.1 s.1 s.2.1 0 := by rw [h1]; exact c0
    have eo : Q.2.2.1 s.1 s.2.1 0 = 16 := by omega
    have hr := rn_r hP g1 g2 (by omega)
    obtain ⟨hj, r0, r2, r4, r1, r5⟩ := hr
    have v : x3 = va9 Q s := vo_x (by rw [h3]; exact c2) (by rw [h4]; exact c3) r2.1 r2.2 g7 h5
    rcases as_x h9 with ⟨w1, w2, w3, w4⟩ | ⟨w1, w2, w3, w4⟩
    · exact absurd h10 w2
    · refine Or.inr ⟨5, 0, s, st9_16x eo (by have := g5.1; omega), by rw [ht_x h11]; decide, by decide, han, ?_⟩
      rw [w3, w4]; exact g5
  · intro x1 x2 x3 x4 x5 x6 x7 h1 h2 h3 h4 h5 h6 h7 h8 h9 h10 h11
    have e0 : x1.toInt = Q.2.2.1 s.1 s.2.1 0 := by rw [h1]; exact c0
    have eo : Q.2.2.1 s.1 s.2.1 0 = 16 := by omega
    have hr := rn_r hP g1 g2 (by omega)
    obtain ⟨hj, r0, r2, r4, r1, r5⟩ := hr
    have v : x3 = va9 Q s := vo_x (by rw [h3]; exact c2) (by rw [h4]; exact c3) r2.1 r2.2 g7 h5
    rcases as_x h9 with ⟨w1, w2, w3, w4⟩ | ⟨w1, w2, w3, w4⟩
    · have hlt : s.2.2.2.2.2.1 < 512 := by have := g5.1; omega
      exact Or.inl ⟨_, st9_16 eo hlt, ag_sw hag hj hlt h11 w3 (by rw [w4, v]), hen, han⟩
    · exact absurd w2 h10
  · intro x1 x2 x3 x4 x5 x6 x7 h1 h2 h3 h4 h5 h6 h7 h8 h9 h10 h11
    have e0 : x1.toInt = Q.2.2.1 s.1 s.2.1 0 := by rw [h1]; exact c0
    have eo : Q.2.2.1 s.1 s.2.1 0 = 17 := by omega
    have hr := rn_r hP g1 g2 (by omega)
    obtain ⟨hj, r0, r2, r4, r1, r5⟩ := hr
    have t := sa_x (by rw [h8]; exact c5) (r5 (by omega)).1 (r5 (by omega)).2 g8 h9
    have p := pt_x (by rw [h7]; exact c1) (r1 (by omega)).1 (r1 (by omega)).2 h10
    exact Or.inl ⟨_, st9_17 eo, ag_rw hag hj h11 (by rw [p, t]), hen, han⟩
  · intro x1 x2 x3 x4 x5 x6 x7 x8 h1 h2 h3 h4 h5 h6 h7 h8 h9 h10 h11
    have e0 : x1.toInt = Q.2.2.1 s.1 s.2.1 0 := by rw [h1]; exact c0
    have eo : Q.2.2.1 s.1 s.2.1 0 = 17 := by omega
    have hr := rn_r hP g1 g2 (by omega)
    obtain ⟨hj, r0, r2, r4, r1, r5⟩ := hr
    have t := sa_x (by rw [h8]; exact c5) (r5 (by omega)).1 (r5 (by omega)).2 g8 h9
    have p := pt_x (by rw [h7]; exact c1) (r1 (by omega)).1 (r1 (by omega)).2 h10
    exact Or.inl ⟨_, st9_17 eo, ag_rw hag hj h11 (by rw [p, t]), hen, han⟩
  · intro x1 x2 x3 x4 x5 x6 h1 h2 h3 h4 h5 h6 h7 h8 h9
    have e0 : x1.toInt = Q.2.2.1 s.1 s.2.1 0 := by rw [h1]; exact c0
    have eo : Q.2.2.1 s.1 s.2.1 0 = 18 := by omega
    have hr := rn_r hP g1 g2 (by omega)
    obtain ⟨hj, r0, r2, r4, r1, r5⟩ := hr
    have v : x3 = va9 Q s := vo_x (by rw [h3]; exact c2) (by rw [h4]; exact c3) r2.1 r2.2 g7 h5
    have p := pt_x (by rw [h7]; exact c5) (r5 (by omega)).1 (r5 (by omega)).2 h8
    exact Or.inl ⟨_, st9_18 eo, ag_st hag hj h9 (by rw [p, v]), hen, han⟩
  · intro x1 x2 x3 x4 x5 x6 x7 h1 h2 h3 h4 h5 h6 h7 h8 h9 h10
    have e0 : x1.toInt = Q.2.2.1 s.1 s.2.1 0 := by rw [h1]; exact c0
    have eo : Q.2.2.1 s.1 s.2.1 0 = 19 := by omega
    obtain ⟨⟨d1, d2, d4, d5⟩, dg⟩ := rn_e hP g1 g2 (by omega)
    obtain ⟨g, y1, y2, y3⟩ := rn_g (i := 0) hP g1 (by decide) (by unfold edG at dg; omega)
    have eg : x4.toInt = (g : Int) := by rw [h7, nnE g4, ← y1]; exact (hcd.2.2.1 s.1 g1).2.1
    obtain ⟨z1, z2, z3⟩ := en_x hcd.1 eg y2 (hcd.2.2.1 g y2).1 h10
    exact Or.inl ⟨_, st9_19 eo, ag_go hag y1 y2 y3 z1 z3, by rw [z2]; exact hen, han⟩
  · intro x1 x2 x3 x4 x5 x6 x7 h1 h2 h3 h4 h5 h6 h7 h8 h9 h10 h11
    have e0 : x1.toInt = Q.2.2.1 s.1 s.2.1 0 := by rw [h1]; exact c0
    have eo : Q.2.2.1 s.1 s.2.1 0 = 20 := by omega
    obtain ⟨⟨d1, d2, d4, d5⟩, dg⟩ := rn_e hP g1 g2 (by omega)
    have v : x3 = va9 Q s := vo_x (by rw [h3]; exact c2) (by rw [h4]; exact c3) d2.1 d2.2 g7 h5
    obtain ⟨g, y1, y2, y3⟩ := rn_g (i := 1) hP g1 (by decide) (by unfold edG at dg; omega)
    have eg : x4.toInt = (g : Int) := by rw [h8, nnE g4, ← y1]; exact (hcd.2.2.1 s.1 g1).2.2
    obtain ⟨z1, z2, z3⟩ := en_x hcd.1 eg y2 (hcd.2.2.1 g y2).1 h11
    rw [v] at h7
    refine Or.inl ⟨_, st9_20 eo, ?_, by rw [z2]; exact hen, han⟩
    rw [if_pos h7]
    exact ag_go hag y1 y2 y3 z1 z3
  · intro x1 x2 x3 x4 x5 x6 x7 h1 h2 h3 h4 h5 h6 h7 h8 h9 h10 h11
    have e0 : x1.toInt = Q.2.2.1 s.1 s.2.1 0 := by rw [h1]; exact c0
    have eo : Q.2.2.1 s.1 s.2.1 0 = 20 := by omega
    obtain ⟨⟨d1, d2, d4, d5⟩, dg⟩ := rn_e hP g1 g2 (by omega)
    have v : x3 = va9 Q s := vo_x (by rw [h3]; exact c2) (by rw [h4]; exact c3) d2.1 d2.2 g7 h5
    obtain ⟨g, y1, y2, y3⟩ := rn_g (i := 0) hP g1 (by decide) (by unfold edG at dg; omega)
    have eg : x4.toInt = (g : Int) := by rw [h8, nnE g4, ← y1]; exact (hcd.2.2.1 s.1 g1).2.1
    obtain ⟨z1, z2, z3⟩ := en_x hcd.1 eg y2 (hcd.2.2.1 g y2).1 h11
    rw [v] at h7
    refine Or.inl ⟨_, st9_20 eo, ?_, by rw [z2]; exact hen, han⟩
    rw [if_neg h7]
    exact ag_go hag y1 y2 y3 z1 z3
  · intro x1 x2 x3 x4 h1 h2 h3 h4 h5 h6 h7
    have e0 : x1.toInt = Q.2.2.1 s.1 s.2.1 0 := by rw [h1]; exact c0
    have eo : Q.2.2.1 s.1 s.2.1 0 = 21 := by omega
    obtain ⟨⟨d1, d2, d4, d5⟩, dg⟩ := rn_e hP g1 g2 (by omega)
    have v : x3 = va9 Q s := vo_x (by rw [h3]; exact c2) (by rw [h4]; exact c3) d2.1 d2.2 g7 h5
    exact Or.inr ⟨0, _, s, st9_21 eo, by rw [ht_x h7]; decide, by decide, v, g5⟩
  · intro x1 x2 x3 x4 x5 x6 x7 x8 x9 h1 h2 h3 h4 h5 h6 h7 h8 h9 h10 h11 h12 h13 h14 h15 h16 h17 h18 h19 h20 h21
    have e0 : x1.toInt = Q.2.2.1 s.1 s.2.1 0 := by rw [h1]; exact c0
    have l18 : Q.2.2.1 s.1 s.2.1 0 ≤ 18 := by
      rcases rn_row hP g1 g2 with ⟨a, -⟩ | ⟨-, -, -, a⟩
      · exact a
      · unfold edG at a; omega
    have hr := rn_r hP g1 g2 l18
    obtain ⟨hj, r0, r2, r4, r1, r5⟩ := hr
    have v : x3 = va9 Q s := vo_x (by rw [h3]; exact c2) (by rw [h4]; exact c3) r2.1 r2.2 g7 h5
    have u : x5 = vb9 Q s := vo_x (by rw [h14]; exact c4) (by rw [h15]; exact c5) r4.1 r4.2 g7 h16
    have l13 : Q.2.2.1 s.1 s.2.1 0 ≤ 13 := by omega
    have nz : ¬ ((Q.2.2.1 s.1 s.2.1 0 = 3 ∨ Q.2.2.1 s.1 s.2.1 0 = 4) ∧ x5.toInt = 0) := by omega
    have c := ca_x (by omega) (by omega) (by rw [e0]; exact nz) h19
    have p := pt_x (by rw [h18]; exact c1) (r1 (by omega)).1 (r1 (by omega)).2 h20
    rw [u] at nz
    refine Or.inl ⟨_, st9_c l13 nz, ag_rw hag hj h21 ?_, hen, han⟩
    rw [p, c, e0, v, u]
  · intro x1 x2 x3 x4 x5 x6 h1 h2 h3 h4 h5 h6 h7 h8 h9 h10 h11 h12 h13 h14 h15 h16 h17 h18 h19
    have e0 : x1.toInt = Q.2.2.1 s.1 s.2.1 0 := by rw [h1]; exact c0
    have l18 : Q.2.2.1 s.1 s.2.1 0 ≤ 18 := by
      rcases rn_row hP g1 g2 with ⟨a, -⟩ | ⟨-, -, -, a⟩
      · exact a
      · unfold edG at a; omega
    have hr := rn_r hP g1 g2 l18
    obtain ⟨hj, r0, r2, r4, r1, r5⟩ := hr
    have v : x3 = va9 Q s := vo_x (by rw [h3]; exact c2) (by rw [h4]; exact c3) r2.1 r2.2 g7 h5
    have u : x5 = vb9 Q s := vo_x (by rw [h14]; exact c4) (by rw [h15]; exact c5) r4.1 r4.2 g7 h16
    have l13 : Q.2.2.1 s.1 s.2.1 0 ≤ 13 := by omega
    exact Or.inr ⟨1, 0, s, st9_z (by omega) (by rw [← u]; exact h17), by rw [ht_x h19]; decide, by decide, han, g5⟩
  · intro x1 x2 x3 x4 x5 x6 x7 x8 x9 h1 h2 h3 h4 h5 h6 h7 h8 h9 h10 h11 h12 h13 h14 h15 h16 h17 h18 h19 h20 h21 h22 h23
    have e0 : x1.toInt = Q.2.2.1 s.1 s.2.1 0 := by rw [h1]; exact c0
    have l18 : Q.2.2.1 s.1 s.2.1 0 ≤ 18 := by
      rcases rn_row hP g1 g2 with ⟨a, -⟩ | ⟨-, -, -, a⟩
      · exact a
      · unfold edG at a; omega
    have hr := rn_r hP g1 g2 l18
    obtain ⟨hj, r0, r2, r4, r1, r5⟩ := hr
    have v : x3 = va9 Q s := vo_x (by rw [h3]; exact c2) (by rw [h4]; exact c3) r2.1 r2.2 g7 h5
    have u : x5 = vb9 Q s := vo_x (by rw [h14]; exact c4) (by rw [h15]; exact c5) r4.1 r4.2 g7 h16
    have l13 : Q.2.2.1 s.1 s.2.1 0 ≤ 13 := by omega
    have nz : ¬ ((Q.2.2.1 s.1 s.2.1 0 = 3 ∨ Q.2.2.1 s.1 s.2.1 0 = 4) ∧ x5.toInt = 0) := by omega
    have c := ca_x (by omega) (by omega) (by rw [e0]; exact nz) h21
    have p := pt_x (by rw [h20]; exact c1) (r1 (by omega)).1 (r1 (by omega)).2 h22
    rw [u] at nz
    refine Or.inl ⟨_, st9_c l13 nz, ag_rw hag hj h23 ?_, hen, han⟩
    rw [p, c, e0, v, u]
  · intro x1 x2 x3 x4 x5 x6 h1 h2 h3 h4 h5 h6 h7 h8 h9 h10 h11 h12 h13 h14 h15 h16 h17 h18 h19 h20
    have e0 : x1.toInt = Q.2.2.1 s.1 s.2.1 0 := by rw [h1]; exact c0
    have l18 : Q.2.2.1 s.1 s.2.1 0 ≤ 18 := by
      rcases rn_row hP g1 g2 with ⟨a, -⟩ | ⟨-, -, -, a⟩
      · exact a
      · unfold edG at a; omega
    have hr := rn_r hP g1 g2 l18
    obtain ⟨hj, r0, r2, r4, r1, r5⟩ := hr
    have v : x3 = va9 Q s := vo_x (by rw [h3]; exact c2) (by rw [h4]; exact c3) r2.1 r2.2 g7 h5
    have u : x5 = vb9 Q s := vo_x (by rw [h14]; exact c4) (by rw [h15]; exact c5) r4.1 r4.2 g7 h16
    have l13 : Q.2.2.1 s.1 s.2.1 0 ≤ 13 := by omega
    exact Or.inr ⟨1, 0, s, st9_z (by omega) (by rw [← u]; exact h17), by rw [ht_x h20]; decide, by decide, han, g5⟩
  · intro x1 x2 x3 x4 x5 x6 x7 x8 x9 x10 h1 h2 h3 h4 h5 h6 h7 h8 h9 h10 h11 h12 h13 h14 h15 h16 h17 h18 h19 h20 h21
    have e0 : x1.toInt = Q.2.2.1 s.1 s.2.1 0 := by rw [h1]; exact c0
    have l18 : Q.2.2.1 s.1 s.2.1 0 ≤ 18 := by
      rcases rn_row hP g1 g2 with ⟨a, -⟩ | ⟨-, -, -, a⟩
      · exact a
      · unfold edG at a; omega
    have hr := rn_r hP g1 g2 l18
    obtain ⟨hj, r0, r2, r4, r1, r5⟩ := hr
    have v : x3 = va9 Q s := vo_x (by rw [h3]; exact c2) (by rw [h4]; exact c3) r2.1 r2.2 g7 h5
    have u : x6 = vb9 Q s := vo_x (by rw [h14]; exact c4) (by rw [h15]; exact c5) r4.1 r4.2 g7 h16
    have l13 : Q.2.2.1 s.1 s.2.1 0 ≤ 13 := by omega
    have nz : ¬ ((Q.2.2.1 s.1 s.2.1 0 = 3 ∨ Q.2.2.1 s.1 s.2.1 0 = 4) ∧ x6.toInt = 0) := by omega
    have c := ca_x (by omega) (by omega) (by rw [e0]; exact nz) h19
    have p := pt_x (by rw [h18]; exact c1) (r1 (by omega)).1 (r1 (by omega)).2 h20
    rw [u] at nz
    refine Or.inl ⟨_, st9_c l13 nz, ag_rw hag hj h21 ?_, hen, han⟩
    rw [p, c, e0, v, u]
  · intro x1 x2 x3 x4 x5 x6 x7 h1 h2 h3 h4 h5 h6 h7 h8 h9 h10 h11 h12 h13 h14 h15 h16 h17 h18 h19
    have e0 : x1.toInt = Q.2.2.1 s.1 s.2.1 0 := by rw [h1]; exact c0
    have l18 : Q.2.2.1 s.1 s.2.1 0 ≤ 18 := by
      rcases rn_row hP g1 g2 with ⟨a, -⟩ | ⟨-, -, -, a⟩
      · exact a
      · unfold edG at a; omega
    have hr := rn_r hP g1 g2 l18
    obtain ⟨hj, r0, r2, r4, r1, r5⟩ := hr
    have v : x3 = va9 Q s := vo_x (by rw [h3]; exact c2) (by rw [h4]; exact c3) r2.1 r2.2 g7 h5
    have u : x6 = vb9 Q s := vo_x (by rw [h14]; exact c4) (by rw [h15]; exact c5) r4.1 r4.2 g7 h16
    have l13 : Q.2.2.1 s.1 s.2.1 0 ≤ 13 := by omega
    exact Or.inr ⟨1, 0, s, st9_z (by omega) (by rw [← u]; exact h17), by rw [ht_x h19]; decide, by decide, han, g5⟩
  · intro x1 x2 x3 x4 x5 x6 x7 x8 x9 x10 h1 h2 h3 h4 h5 h6 h7 h8 h9 h10 h11 h12 h13 h14 h15 h16 h17 h18 h19 h20 h21 h22 h23
    have e0 : x1.toInt = Q.2.2.1 s.1 s.2.1 0 := by rw [h1]; exact c0
    have l18 : Q.2.2.1 s.1 s.2.1 0 ≤ 18 := by
      rcases rn_row hP g1 g2 with ⟨a, -⟩ | ⟨-, -, -, a⟩
      · exact a
      · unfold edG at a; omega
    have hr := rn_r hP g1 g2 l18
    obtain ⟨hj, r0, r2, r4, r1, r5⟩ := hr
    have v : x3 = va9 Q s := vo_x (by rw [h3]; exact c2) (by rw [h4]; exact c3) r2.1 r2.2 g7 h5
    have u : x6 = vb9 Q s := vo_x (by rw [h14]; exact c4) (by rw [h15]; exact c5) r4.1 r4.2 g7 h16
    have l13 : Q.2.2.1 s.1 s.2.1 0 ≤ 13 := by omega
    have nz : ¬ ((Q.2.2.1 s.1 s.2.1 0 = 3 ∨ Q.2.2.1 s.1 s.2.1 0 = 4) ∧ x6.toInt = 0) := by omega
    have c := ca_x (by omega) (by omega) (by rw [e0]; exact nz) h21
    have p := pt_x (by rw [h20]; exact c1) (r1 (by omega)).1 (r1 (by omega)).2 h22
    rw [u] at nz
    refine Or.inl ⟨_, st9_c l13 nz, ag_rw hag hj h23 ?_, hen, han⟩
    rw [p, c, e0, v, u]
  · intro x1 x2 x3 x4 x5 x6 x7 h1 h2 h3 h4 h5 h6 h7 h8 h9 h10 h11 h12 h13 h14 h15 h16 h17 h18 h19 h20
    have e0 : x1.toInt = Q.2.2.1 s.1 s.2.1 0 := by rw [h1]; exact c0
    have l18 : Q.2.2.1 s.1 s.2.1 0 ≤ 18 := by
      rcases rn_row hP g1 g2 with ⟨a, -⟩ | ⟨-, -, -, a⟩
      · exact a
      · unfold edG at a; omega
    have hr := rn_r hP g1 g2 l18
    obtain ⟨hj, r0, r2, r4, r1, r5⟩ := hr
    have v : x3 = va9 Q s := vo_x (by rw [h3]; exact c2) (by rw [h4]; exact c3) r2.1 r2.2 g7 h5
    have u : x6 = vb9 Q s := vo_x (by rw [h14]; exact c4) (by rw [h15]; exact c5) r4.1 r4.2 g7 h16
    have l13 : Q.2.2.1 s.1 s.2.1 0 ≤ 13 := by omega
    exact Or.inr ⟨1, 0, s, st9_z (by omega) (by rw [← u]; exact h17), by rw [ht_x h20]; decide, by decide, han, g5⟩
  · intro x1 x2 x3 x4 x5 x6 x7 h1 h2 h3 h4 h5 h6 h7 h8 h9
    have e0 : x1.toInt = Q.2.2.1 s.1 s.2.1 0 := by rw [h1]; exact c0
    have eo : Q.2.2.1 s.1 s.2.1 0 = 14 := by omega
    have hr := rn_r hP g1 g2 (by omega)
    obtain ⟨hj, r0, r2, r4, r1, r5⟩ := hr
    have v : x4 = va9 Q s := vo_x (by rw [h3]; exact c2) (by rw [h4]; exact c3) r2.1 r2.2 g7 h5
    have p := pt_x (by rw [h7]; exact c1) (r1 (by omega)).1 (r1 (by omega)).2 h8
    exact Or.inl ⟨_, st9_14 eo, ag_rw hag hj h9 (by rw [p, v]), hen, han⟩
  · intro x1 x2 x3 x4 x5 x6 x7 x8 x9 h1 h2 h3 h4 h5 h6 h7 h8 h9 h10 h11
    have e0 : x1.toInt = Q.2.2.1 s.1 s.2.1 0 := by rw [h1]; exact c0
    have eo : Q.2.2.1 s.1 s.2.1 0 = 15 := by omega
    have hr := rn_r hP g1 g2 (by omega)
    obtain ⟨hj, r0, r2, r4, r1, r5⟩ := hr
    obtain ⟨t1, t2⟩ := tn_x hgn g5.2.1 hin h9
    have p := pt_x (by rw [h7]; exact c1) (r1 (by omega)).1 (r1 (by omega)).2 h10
    exact Or.inl ⟨_, st9_15 eo, ag_tk hag hj h11 (by rw [p, t1]) t2, hen, han⟩
  · intro x1 x2 x3 x4 x5 x6 x7 x8 h1 h2 h3 h4 h5 h6 h7 h8 h9 h10 h11
    have e0 : x1.toInt = Q.2.2.1 s.1 s.2.1 0 := by rw [h1]; exact c0
    have eo : Q.2.2.1 s.1 s.2.1 0 = 16 := by omega
    have hr := rn_r hP g1 g2 (by omega)
    obtain ⟨hj, r0, r2, r4, r1, r5⟩ := hr
    have v : x4 = va9 Q s := vo_x (by rw [h3]; exact c2) (by rw [h4]; exact c3) r2.1 r2.2 g7 h5
    rcases as_x h9 with ⟨w1, w2, w3, w4⟩ | ⟨w1, w2, w3, w4⟩
    · exact absurd h10 w2
    · refine Or.inr ⟨5, 0, s, st9_16x eo (by have := g5.1; omega), by rw [ht_x h11]; decide, by decide, han, ?_⟩
      rw [w3, w4]; exact g5
  · intro x1 x2 x3 x4 x5 x6 x7 x8 h1 h2 h3 h4 h5 h6 h7 h8 h9 h10 h11
    have e0 : x1.toInt = Q.2.2.1 s.1 s.2.1 0 := by rw [h1]; exact c0
    have eo : Q.2.2.1 s.1 s.2.1 0 = 16 := by omega
    have hr := rn_r hP g1 g2 (by omega)
    obtain ⟨hj, r0, r2, r4, r1, r5⟩ := hr
    have v : x4 = va9 Q s := vo_x (by rw [h3]; exact c2) (by rw [h4]; exact c3) r2.1 r2.2 g7 h5
    rcases as_x h9 with ⟨w1, w2, w3, w4⟩ | ⟨w1, w2, w3, w4⟩
    · have hlt : s.2.2.2.2.2.1 < 512 := by have := g5.1; omega
      exact Or.inl ⟨_, st9_16 eo hlt, ag_sw hag hj hlt h11 w3 (by rw [w4, v]), hen, han⟩
    · exact absurd w2 h10
  · intro x1 x2 x3 x4 x5 x6 x7 x8 h1 h2 h3 h4 h5 h6 h7 h8 h9 h10 h11
    have e0 : x1.toInt = Q.2.2.1 s.1 s.2.1 0 := by rw [h1]; exact c0
    have eo : Q.2.2.1 s.1 s.2.1 0 = 17 := by omega
    have hr := rn_r hP g1 g2 (by omega)
    obtain ⟨hj, r0, r2, r4, r1, r5⟩ := hr
    have t := sa_x (by rw [h8]; exact c5) (r5 (by omega)).1 (r5 (by omega)).2 g8 h9
    have p := pt_x (by rw [h7]; exact c1) (r1 (by omega)).1 (r1 (by omega)).2 h10
    exact Or.inl ⟨_, st9_17 eo, ag_rw hag hj h11 (by rw [p, t]), hen, han⟩
  · intro x1 x2 x3 x4 x5 x6 x7 x8 x9 h1 h2 h3 h4 h5 h6 h7 h8 h9 h10 h11
    have e0 : x1.toInt = Q.2.2.1 s.1 s.2.1 0 := by rw [h1]; exact c0
    have eo : Q.2.2.1 s.1 s.2.1 0 = 17 := by omega
    have hr := rn_r hP g1 g2 (by omega)
    obtain ⟨hj, r0, r2, r4, r1, r5⟩ := hr
    have t := sa_x (by rw [h8]; exact c5) (r5 (by omega)).1 (r5 (by omega)).2 g8 h9
    have p := pt_x (by rw [h7]; exact c1) (r1 (by omega)).1 (r1 (by omega)).2 h10
    exact Or.inl ⟨_, st9_17 eo, ag_rw hag hj h11 (by rw [p, t]), hen, han⟩
  · intro x1 x2 x3 x4 x5 x6 x7 h1 h2 h3 h4 h5 h6 h7 h8 h9
    have e0 : x1.toInt = Q.2.2.1 s.1 s.2.1 0 := by rw [h1]; exact c0
    have eo : Q.2.2.1 s.1 s.2.1 0 = 18 := by omega
    have hr := rn_r hP g1 g2 (by omega)
    obtain ⟨hj, r0, r2, r4, r1, r5⟩ := hr
    have v : x4 = va9 Q s := vo_x (by rw [h3]; exact c2) (by rw [h4]; exact c3) r2.1 r2.2 g7 h5
    have p := pt_x (by rw [h7]; exact c5) (r5 (by omega)).1 (r5 (by omega)).2 h8
    exact Or.inl ⟨_, st9_18 eo, ag_st hag hj h9 (by rw [p, v]), hen, han⟩
  · intro x1 x2 x3 x4 x5 x6 x7 x8 h1 h2 h3 h4 h5 h6 h7 h8 h9 h10
    have e0 : x1.toInt = Q.2.2.1 s.1 s.2.1 0 := by rw [h1]; exact c0
    have eo : Q.2.2.1 s.1 s.2.1 0 = 19 := by omega
    obtain ⟨⟨d1, d2, d4, d5⟩, dg⟩ := rn_e hP g1 g2 (by omega)
    obtain ⟨g, y1, y2, y3⟩ := rn_g (i := 0) hP g1 (by decide) (by unfold edG at dg; omega)
    have eg : x5.toInt = (g : Int) := by rw [h7, nnE g4, ← y1]; exact (hcd.2.2.1 s.1 g1).2.1
    obtain ⟨z1, z2, z3⟩ := en_x hcd.1 eg y2 (hcd.2.2.1 g y2).1 h10
    exact Or.inl ⟨_, st9_19 eo, ag_go hag y1 y2 y3 z1 z3, by rw [z2]; exact hen, han⟩
  · intro x1 x2 x3 x4 x5 x6 x7 x8 h1 h2 h3 h4 h5 h6 h7 h8 h9 h10 h11
    have e0 : x1.toInt = Q.2.2.1 s.1 s.2.1 0 := by rw [h1]; exact c0
    have eo : Q.2.2.1 s.1 s.2.1 0 = 20 := by omega
    obtain ⟨⟨d1, d2, d4, d5⟩, dg⟩ := rn_e hP g1 g2 (by omega)
    have v : x4 = va9 Q s := vo_x (by rw [h3]; exact c2) (by rw [h4]; exact c3) d2.1 d2.2 g7 h5
    obtain ⟨g, y1, y2, y3⟩ := rn_g (i := 1) hP g1 (by decide) (by unfold edG at dg; omega)
    have eg : x5.toInt = (g : Int) := by rw [h8, nnE g4, ← y1]; exact (hcd.2.2.1 s.1 g1).2.2
    obtain ⟨z1, z2, z3⟩ := en_x hcd.1 eg y2 (hcd.2.2.1 g y2).1 h11
    rw [v] at h7
    refine Or.inl ⟨_, st9_20 eo, ?_, by rw [z2]; exact hen, han⟩
    rw [if_pos h7]
    exact ag_go hag y1 y2 y3 z1 z3
  · intro x1 x2 x3 x4 x5 x6 x7 x8 h1 h2 h3 h4 h5 h6 h7 h8 h9 h10 h11
    have e0 : x1.toInt = Q.2.2.1 s.1 s.2.1 0 := by rw [h1]; exact c0
    have eo : Q.2.2.1 s.1 s.2.1 0 = 20 := by omega
    obtain ⟨⟨d1, d2, d4, d5⟩, dg⟩ := rn_e hP g1 g2 (by omega)
    have v : x4 = va9 Q s := vo_x (by rw [h3]; exact c2) (by rw [h4]; exact c3) d2.1 d2.2 g7 h5
    obtain ⟨g, y1, y2, y3⟩ := rn_g (i := 0) hP g1 (by decide) (by unfold edG at dg; omega)
    have eg : x5.toInt = (g : Int) := by rw [h8, nnE g4, ← y1]; exact (hcd.2.2.1 s.1 g1).2.1
    obtain ⟨z1, z2, z3⟩ := en_x hcd.1 eg y2 (hcd.2.2.1 g y2).1 h11
    rw [v] at h7
    refine Or.inl ⟨_, st9_20 eo, ?_, by rw [z2]; exact hen, han⟩
    rw [if_neg h7]
    exact ag_go hag y1 y2 y3 z1 z3
  · intro x1 x2 x3 x4 x5 h1 h2 h3 h4 h5 h6 h7
    have e0 : x1.toInt = Q.2.2.1 s.1 s.2.1 0 := by rw [h1]; exact c0
    have eo : Q.2.2.1 s.1 s.2.1 0 = 21 := by omega
    obtain ⟨⟨d1, d2, d4, d5⟩, dg⟩ := rn_e hP g1 g2 (by omega)
    have v : x4 = va9 Q s := vo_x (by rw [h3]; exact c2) (by rw [h4]; exact c3) d2.1 d2.2 g7 h5
    exact Or.inr ⟨0, _, s, st9_21 eo, by rw [ht_x h7]; decide, by decide, v, g5⟩
  · intro x1 x2 x3 x4 x5 x6 x7 x8 x9 x10 h1 h2 h3 h4 h5 h6 h7 h8 h9 h10 h11 h12 h13 h14 h15 h16 h17 h18 h19 h20 h21
    have e0 : x1.toInt = Q.2.2.1 s.1 s.2.1 0 := by rw [h1]; exact c0
    have l18 : Q.2.2.1 s.1 s.2.1 0 ≤ 18 := by
      rcases rn_row hP g1 g2 with ⟨a, -⟩ | ⟨-, -, -, a⟩
      · exact a
      · unfold edG at a; omega
    have hr := rn_r hP g1 g2 l18
    obtain ⟨hj, r0, r2, r4, r1, r5⟩ := hr
    have v : x4 = va9 Q s := vo_x (by rw [h3]; exact c2) (by rw [h4]; exact c3) r2.1 r2.2 g7 h5
    have u : x6 = vb9 Q s := vo_x (by rw [h14]; exact c4) (by rw [h15]; exact c5) r4.1 r4.2 g7 h16
    have l13 : Q.2.2.1 s.1 s.2.1 0 ≤ 13 := by omega
    have nz : ¬ ((Q.2.2.1 s.1 s.2.1 0 = 3 ∨ Q.2.2.1 s.1 s.2.1 0 = 4) ∧ x6.toInt = 0) := by omega
    have c := ca_x (by omega) (by omega) (by rw [e0]; exact nz) h19
    have p := pt_x (by rw [h18]; exact c1) (r1 (by omega)).1 (r1 (by omega)).2 h20
    rw [u] at nz
    refine Or.inl ⟨_, st9_c l13 nz, ag_rw hag hj h21 ?_, hen, han⟩
    rw [p, c, e0, v, u]
  · intro x1 x2 x3 x4 x5 x6 x7 h1 h2 h3 h4 h5 h6 h7 h8 h9 h10 h11 h12 h13 h14 h15 h16 h17 h18 h19
    have e0 : x1.toInt = Q.2.2.1 s.1 s.2.1 0 := by rw [h1]; exact c0
    have l18 : Q.2.2.1 s.1 s.2.1 0 ≤ 18 := by
      rcases rn_row hP g1 g2 with ⟨a, -⟩ | ⟨-, -, -, a⟩
      · exact a
      · unfold edG at a; omega
    have hr := rn_r hP g1 g2 l18
    obtain ⟨hj, r0, r2, r4, r1, r5⟩ := hr
    have v : x4 = va9 Q s := vo_x (by rw [h3]; exact c2) (by rw [h4]; exact c3) r2.1 r2.2 g7 h5
    have u : x6 = vb9 Q s := vo_x (by rw [h14]; exact c4) (by rw [h15]; exact c5) r4.1 r4.2 g7 h16
    have l13 : Q.2.2.1 s.1 s.2.1 0 ≤ 13 := by omega
    exact Or.inr ⟨1, 0, s, st9_z (by omega) (by rw [← u]; exact h17), by rw [ht_x h19]; decide, by decide, han, g5⟩
  · intro x1 x2 x3 x4 x5 x6 x7 x8 x9 x10 h1 h2 h3 h4 h5 h6 h7 h8 h9 h10 h11 h12 h13 h14 h15 h16 h17 h18 h19 h20 h21 h22 h23
    have e0 : x1.toInt = Q.2.2.1 s.1 s.2.1 0 := by rw [h1]; exact c0
    have l18 : Q.2.2.1 s.1 s.2.1 0 ≤ 18 := by
      rcases rn_row hP g1 g2 with ⟨a, -⟩ | ⟨-, -, -, a⟩
      · exact a
      · unfold edG at a; omega
    have hr := rn_r hP g1 g2 l18
    obtain ⟨hj, r0, r2, r4, r1, r5⟩ := hr
    have v : x4 = va9 Q s := vo_x (by rw [h3]; exact c2) (by rw [h4]; exact c3) r2.1 r2.2 g7 h5
    have u : x6 = vb9 Q s := vo_x (by rw [h14]; exact c4) (by rw [h15]; exact c5) r4.1 r4.2 g7 h16
    have l13 : Q.2.2.1 s.1 s.2.1 0 ≤ 13 := by omega
    have nz : ¬ ((Q.2.2.1 s.1 s.2.1 0 = 3 ∨ Q.2.2.1 s.1 s.2.1 0 = 4) ∧ x6.toInt = 0) := by omega
    have c := ca_x (by omega) (by omega) (by rw [e0]; exact nz) h21
    have p := pt_x (by rw [h20]; exact c1) (r1 (by omega)).1 (r1 (by omega)).2 h22
    rw [u] at nz
    refine Or.inl ⟨_, st9_c l13 nz, ag_rw hag hj h23 ?_, hen, han⟩
    rw [p, c, e0, v, u]
  · intro x1 x2 x3 x4 x5 x6 x7 h1 h2 h3 h4 h5 h6 h7 h8 h9 h10 h11 h12 h13 h14 h15 h16 h17 h18 h19 h20
    have e0 : x1.toInt = Q.2.2.1 s.1 s.2.1 0 := by rw [h1]; exact c0
    have l18 : Q.2.2.1 s.1 s.2.1 0 ≤ 18 := by
      rcases rn_row hP g1 g2 with ⟨a, -⟩ | ⟨-, -, -, a⟩
      · exact a
      · unfold edG at a; omega
    have hr := rn_r hP g1 g2 l18
    obtain ⟨hj, r0, r2, r4, r1, r5⟩ := hr
    have v : x4 = va9 Q s := vo_x (by rw [h3]; exact c2) (by rw [h4]; exact c3) r2.1 r2.2 g7 h5
    have u : x6 = vb9 Q s := vo_x (by rw [h14]; exact c4) (by rw [h15]; exact c5) r4.1 r4.2 g7 h16
    have l13 : Q.2.2.1 s.1 s.2.1 0 ≤ 13 := by omega
    exact Or.inr ⟨1, 0, s, st9_z (by omega) (by rw [← u]; exact h17), by rw [ht_x h20]; decide, by decide, han, g5⟩
  · intro x1 x2 x3 x4 x5 x6 x7 x8 x9 x10 x11 h1 h2 h3 h4 h5 h6 h7 h8 h9 h10 h11 h12 h13 h14 h15 h16 h17 h18 h19 h20 h21
    have e0 : x1.toInt = Q.2.2.1 s.1 s.2.1 0 := by rw [h1]; exact c0
    have l18 : Q.2.2.1 s.1 s.2.1 0 ≤ 18 := by
      rcases rn_row hP g1 g2 with ⟨a, -⟩ | ⟨-, -, -, a⟩
      · exact a
      · unfold edG at a; omega
    have hr := rn_r hP g1 g2 l18
    obtain ⟨hj, r0, r2, r4, r1, r5⟩ := hr
    have v : x4 = va9 Q s := vo_x (by rw [h3]; exact c2) (by rw [h4]; exact c3) r2.1 r2.2 g7 h5
    have u : x7 = vb9 Q s := vo_x (by rw [h14]; exact c4) (by rw [h15]; exact c5) r4.1 r4.2 g7 h16
    have l13 : Q.2.2.1 s.1 s.2.1 0 ≤ 13 := by omega
    have nz : ¬ ((Q.2.2.1 s.1 s.2.1 0 = 3 ∨ Q.2.2.1 s.1 s.2.1 0 = 4) ∧ x7.toInt = 0) := by omega
    have c := ca_x (by omega) (by omega) (by rw [e0]; exact nz) h19
    have p := pt_x (by rw [h18]; exact c1) (r1 (by omega)).1 (r1 (by omega)).2 h20
    rw [u] at nz
    refine Or.inl ⟨_, st9_c l13 nz, ag_rw hag hj h21 ?_, hen, han⟩
    rw [p, c, e0, v, u]
  · intro x1 x2 x3 x4 x5 x6 x7 x8 h1 h2 h3 h4 h5 h6 h7 h8 h9 h10 h11 h12 h13 h14 h15 h16 h17 h18 h19
    have e0 : x1.toInt = Q.2.2.1 s.1 s.2.1 0 := by rw [h1]; exact c0
    have l18 : Q.2.2.1 s.1 s.2.1 0 ≤ 18 := by
      rcases rn_row hP g1 g2 with ⟨a, -⟩ | ⟨-, -, -, a⟩
      · exact a
      · unfold edG at a; omega
    have hr := rn_r hP g1 g2 l18
    obtain ⟨hj, r0, r2, r4, r1, r5⟩ := hr
    have v : x4 = va9 Q s := vo_x (by rw [h3]; exact c2) (by rw [h4]; exact c3) r2.1 r2.2 g7 h5
    have u : x7 = vb9 Q s := vo_x (by rw [h14]; exact c4) (by rw [h15]; exact c5) r4.1 r4.2 g7 h16
    have l13 : Q.2.2.1 s.1 s.2.1 0 ≤ 13 := by omega
    exact Or.inr ⟨1, 0, s, st9_z (by omega) (by rw [← u]; exact h17), by rw [ht_x h19]; decide, by decide, han, g5⟩
  · intro x1 x2 x3 x4 x5 x6 x7 x8 x9 x10 x11 h1 h2 h3 h4 h5 h6 h7 h8 h9 h10 h11 h12 h13 h14 h15 h16 h17 h18 h19 h20 h21 h22 h23
    have e0 : x1.toInt = Q.2.2.1 s.1 s.2.1 0 := by rw [h1]; exact c0
    have l18 : Q.2.2.1 s.1 s.2.1 0 ≤ 18 := by
      rcases rn_row hP g1 g2 with ⟨a, -⟩ | ⟨-, -, -, a⟩
      · exact a
      · unfold edG at a; omega
    have hr := rn_r hP g1 g2 l18
    obtain ⟨hj, r0, r2, r4, r1, r5⟩ := hr
    have v : x4 = va9 Q s := vo_x (by rw [h3]; exact c2) (by rw [h4]; exact c3) r2.1 r2.2 g7 h5
    have u : x7 = vb9 Q s := vo_x (by rw [h14]; exact c4) (by rw [h15]; exact c5) r4.1 r4.2 g7 h16
    have l13 : Q.2.2.1 s.1 s.2.1 0 ≤ 13 := by omega
    have nz : ¬ ((Q.2.2.1 s.1 s.2.1 0 = 3 ∨ Q.2.2.1 s.1 s.2.1 0 = 4) ∧ x7.toInt = 0) := by omega
    have c := ca_x (by omega) (by omega) (by rw [e0]; exact nz) h21
    have p := pt_x (by rw [h20]; exact c1) (r1 (by omega)).1 (r1 (by omega)).2 h22
    rw [u] at nz
    refine Or.inl ⟨_, st9_c l13 nz, ag_rw hag hj h23 ?_, hen, han⟩
    rw [p, c, e0, v, u]
  · intro x1 x2 x3 x4 x5 x6 x7 x8 h1 h2 h3 h4 h5 h6 h7 h8 h9 h10 h11 h12 h13 h14 h15 h16 h17 h18 h19 h20
    have e0 : x1.toInt = Q.2.2.1 s.1 s.2.1 0 := by rw [h1]; exact c0
    have l18 : Q.2.2.1 s.1 s.2.1 0 ≤ 18 := by
      rcases rn_row hP g1 g2 with ⟨a, -⟩ | ⟨-, -, -, a⟩
      · exact a
      · unfold edG at a; omega
    have hr := rn_r hP g1 g2 l18
    obtain ⟨hj, r0, r2, r4, r1, r5⟩ := hr
    have v : x4 = va9 Q s := vo_x (by rw [h3]; exact c2) (by rw [h4]; exact c3) r2.1 r2.2 g7 h5
    have u : x7 = vb9 Q s := vo_x (by rw [h14]; exact c4) (by rw [h15]; exact c5) r4.1 r4.2 g7 h16
    have l13 : Q.2.2.1 s.1 s.2.1 0 ≤ 13 := by omega
    exact Or.inr ⟨1, 0, s, st9_z (by omega) (by rw [← u]; exact h17), by rw [ht_x h20]; decide, by decide, han, g5⟩
set_option maxHeartbeats 4000000 in
theorem pfl_x {a2 : Int32} {Code_lines : Int32} {Machine_givens : Int32} {Code_blocks : Int32} {Machine_given : Nat → Int32} {Code_first : Nat → Int32} {Code_firstGoal : Nat → Int32} {Code_secondGoal : Nat → Int32} {Code_op : Nat → Int32} {Code_set : Nat → Int32} {Code_left : Nat → Int32} {Code_leftNumber : Nat → Int32} {Code_right : Nat → Int32} {Code_rightNumber : Nat → Int32} {s1 : Int32} {s2 : Int32} {s3 : Int32} {s4 : Int32} {s5 : Int32} {s6 : Int32} {s7 : Int32} {s8 : Nat → Int32} {s9 : Nat → Int32} {s10 : Nat → Int32} {k : Nat} {e1 : Int32} {e2 : Int32} {e3 : Int32} {e4 : Int32} {e5 : Int32} {e6 : Int32} {e7 : Nat → Int32} {e8 : Nat → Int32} {e9 : Nat → Int32} (hP : rnP Q) (hcd : cdP Code_blocks Code_lines Code_first Code_firstGoal Code_secondGoal Code_op Code_set Code_left Code_leftNumber Code_right Code_rightNumber Q) (hgn : Machine_givens.toInt = (gn : Int)) (hin : ∀ i, i < gn → Machine_given i = inp i) (h : tl_Machine_perform_49 a2 Code_lines Machine_givens Code_blocks Machine_given Code_first Code_firstGoal Code_secondGoal Code_op Code_set Code_left Code_leftNumber Code_right Code_rightNumber s1 s2 s3 s4 s5 s6 s7 s8 s9 s10 k e1 e2 e3 e4 e5 e6 e7 e8 e9) : (s3.toInt ≠ -2 → e2 = s5 ∧ e3 = s6 ∧ e4 = s2 ∧ e5 = s7 ∧ e6 = s3 ∧ e7 = s8) ∧ (s3.toInt = -2 → s5 = 0 → ∀ (s : gM9) (t f : Nat), s2.toInt = (t : Int) → a2.toInt = ((t + f : Nat) : Int) → ag9 Q s s1 s4 s6 s7 s8 s9 s10 → en9 (rn9 Q inp gn f t s) e2 e3 e4 e5 e6 e7) := by
  refine h (fun s1 s2 s3 s4 s5 s6 s7 s8 s9 s10 k e1 e2 e3 e4 e5 e6 e7 e8 e9 => (s3.toInt ≠ -2 → e2 = s5 ∧ e3 = s6 ∧ e4 = s2 ∧ e5 = s7 ∧ e6 = s3 ∧ e7 = s8) ∧ (s3.toInt = -2 → s5 = 0 → ∀ (s : gM9) (t f : Nat), s2.toInt = (t : Int) → a2.toInt = ((t + f : Nat) : Int) → ag9 Q s s1 s4 s6 s7 s8 s9 s10 → en9 (rn9 Q inp gn f t s) e2 e3 e4 e5 e6 e7)) ?_ ?_ ?_ ?_ ?_
  · intro l3_1 Machine_steps_1 Machine_ending_1 Machine_block_1 Machine_answer_1 Machine_showCount_1 Machine_taken_1 Machine_shows_1 Machine_registers_1 Machine_slots_1 h1 h2 h3 h4 h5 h6
    refine ⟨fun _ => ⟨rfl, rfl, rfl, rfl, rfl, rfl⟩, fun he ha s t f ht hf hag => ?_⟩
    have f0 : f = 0 := by omega
    rw [f0, rn9_0]
    exact ⟨Or.inr ⟨he, rfl⟩, ha, ht, hag.2.2.2.2.1⟩
  · intro l3_1 Machine_steps_1 Machine_ending_1 Machine_block_1 Machine_answer_1 Machine_showCount_1 Machine_taken_1 Machine_shows_1 Machine_registers_1 Machine_slots_1 h1 h2 h3 h4 h5 h6 h7
    refine ⟨fun _ => ⟨rfl, rfl, rfl, rfl, rfl, rfl⟩, fun he ha s t f ht hf hag => ?_⟩
    exact absurd he h7
  · intro l3_1 Machine_steps_1 Machine_ending_1 Machine_block_1 Machine_answer_1 Machine_showCount_1 Machine_taken_1 Machine_shows_1 Machine_registers_1 Machine_slots_1 x1 x2 k e1 e2 e3 e4 e5 e6 e7 e8 e9 h1 h2 h3 h4 h5 h6 h7 h8 h9 h10 ih
    refine ⟨fun he => absurd h7 he, fun he ha s t f ht hf hag => ?_⟩
    obtain ⟨g1, g2, g3, -⟩ := hag
    have q := fsm_lt g1 g2
    have q2 := hcd.2.1
    omega
  · intro l3_1 Machine_steps_1 Machine_ending_1 Machine_block_1 Machine_answer_1 Machine_showCount_1 Machine_taken_1 Machine_shows_1 Machine_registers_1 Machine_slots_1 x1 x2 k e1 e2 e3 e4 e5 e6 e7 e8 e9 h1 h2 h3 h4 h5 h6 h7 h8 h9 h10 h11 ih
    refine ⟨fun he => absurd h7 he, fun he ha s t f ht hf hag => ?_⟩
    obtain ⟨g1, g2, g3, -⟩ := hag
    have q := fsm_lt g1 g2
    have q2 := hcd.2.1
    omega
  · intro l3_1 Machine_steps_1 Machine_ending_1 Machine_block_1 Machine_answer_1 Machine_showCount_1 Machine_taken_1 Machine_shows_1 Machine_registers_1 Machine_slots_1 x1 x2 x3 x4 x5 x6 x7 x8 x9 x10 k e1 e2 e3 e4 e5 e6 e7 e8 e9 h1 h2 h3 h4 h5 h6 h7 h8 h9 h10 h11 h12 h13 h14 h15 ih
    refine ⟨fun he => absurd h7 he, fun he ha s t f ht hf hag => ?_⟩
    obtain ⟨f1, rfl⟩ : ∃ f1, f = f1 + 1 := ⟨f - 1, by omega⟩
    rcases stp_x hP hcd hgn hin hag he ha h14 with ⟨s2, w1, w2, w3, w4⟩ | ⟨e, a, s2, w1, w2, w3, w4, w5⟩
    · rw [rn9_n w1]
      exact ih.2 w3 w4 s2 (t + 1) f1 (by rw [h15]; omega) (by omega) w2
    · rw [rn9_s w1]
      obtain ⟨y1, y2, y3, y4, y5, y6⟩ := ih.1 (by omega)
      rw [y1, y2, y3, y4, y5, y6]
      exact ⟨Or.inl ⟨w2, w3⟩, w4, by show _ = ((t + 1 : Nat) : Int); omega, w5⟩
theorem pf_x {a2 : Int32} {Machine_givens : Int32} {Code_blocks : Int32} {Code_lines : Int32} {Machine_given : Nat → Int32} {Machine_registers : Nat → Int32} {Machine_slots : Nat → Int32} {Machine_shows : Nat → Int32} {Code_first : Nat → Int32} {Code_firstGoal : Nat → Int32} {Code_secondGoal : Nat → Int32} {Code_op : Nat → Int32} {Code_set : Nat → Int32} {Code_left : Nat → Int32} {Code_leftNumber : Nat → Int32} {Code_right : Nat → Int32} {Code_rightNumber : Nat → Int32} {o1 : Int32} {o2 : Int32} {o3 : Int32} {o4 : Int32} {o5 : Int32} {o6 : Int32} {o7 : Nat → Int32} {o8 : Nat → Int32} {o9 : Nat → Int32} (hP : rnP Q) (hcd : cdP Code_blocks Code_lines Code_first Code_firstGoal Code_secondGoal Code_op Code_set Code_left Code_leftNumber Code_right Code_rightNumber Q) (hgn : Machine_givens.toInt = (gn : Int)) (hin : ∀ i, i < gn → Machine_given i = inp i) (ha : 0 ≤ a2.toInt) (h : tr_Machine_perform a2 Machine_givens Code_blocks Code_lines Machine_given Machine_registers Machine_slots Machine_shows Code_first Code_firstGoal Code_secondGoal Code_op Code_set Code_left Code_leftNumber Code_right Code_rightNumber o1 o2 o3 o4 o5 o6 o7 o8 o9) : ∃ r, r = rn9 Q inp gn a2.toInt.toNat 0 in9 ∧ o6.toInt = r.1 ∧ o2 = r.2.1 ∧ o4.toInt = (r.2.2.1 : Int) ∧ ag8 r.2.2.2 o3 o5 o9 := by
  refine h (fun o1 o2 o3 o4 o5 o6 o7 o8 o9 => ∃ r, r = rn9 Q inp gn a2.toInt.toNat 0 in9 ∧ o6.toInt = r.1 ∧ o2 = r.2.1 ∧ o4.toInt = (r.2.2.1 : Int) ∧ ag8 r.2.2.2 o3 o5 o9) ?_ ?_
  · intro x1 x2 x3 x4 x5 x6 x7 x8 x9 x10 x11 h1 h2 h3 h4
    have q := (pfl_x hP hcd hgn hin h3).2 (by decide) rfl in9 0 a2.toInt.toNat (by decide) (by omega) ⟨hP.1.1, (hP.2.2.1 0 hP.1.1).1, (by show Int32.toInt 0 = (0 : Int); decide), by decide, ⟨by decide, by decide, fun i hi => absurd hi (Nat.not_lt_zero i)⟩, by decide, fun i hi => fz3_tr h1 i hi, fun i hi => fz3_tr h2 i hi⟩
    obtain ⟨y1, y2, y3, y4⟩ := q
    refine ⟨_, rfl, ?_, y2, y3, y4⟩
    omega
  · intro x1 x2 x3 x4 x5 x6 x7 x8 x9 x10 x11 h1 h2 h3 h4
    have q := (pfl_x hP hcd hgn hin h3).2 (by decide) rfl in9 0 a2.toInt.toNat (by decide) (by omega) ⟨hP.1.1, (hP.2.2.1 0 hP.1.1).1, (by show Int32.toInt 0 = (0 : Int); decide), by decide, ⟨by decide, by decide, fun i hi => absurd hi (Nat.not_lt_zero i)⟩, by decide, fun i hi => fz3_tr h1 i hi, fun i hi => fz3_tr h2 i hi⟩
    obtain ⟨y1, y2, y3, y4⟩ := q
    refine ⟨_, rfl, ?_, y2, y3, y4⟩
    have z4 : Int32.toInt 4 = 4 := by decide
    rcases y1 with ⟨y1, y1p⟩ | y1
    · omega
    · rw [z4]; exact y1.2.symm
theorem en_x2 {a2 : Int32} {Machine_block : Int32} {Machine_ending : Int32} {Code_blocks : Int32} {Code_first : Nat → Int32} {o1 : Int32} {o2 : Int32} {o3 : Int32} {g : Nat} (hb : Code_blocks.toInt = (Q.1 : Int)) (ha : a2.toInt = (g : Int)) (hg : g < Q.1) (hf : (Code_first g).toInt = (fsm Q.2.1 g : Int)) (h : tr_Machine_enter2 a2 Machine_block Machine_ending Code_blocks Code_first o1 o2 o3) : o1.toInt = (fsm Q.2.1 g : Int) ∧ o2 = Machine_ending ∧ o3.toInt = (g : Int) := by
  refine h (fun o1 o2 o3 => o1.toInt = (fsm Q.2.1 g : Int) ∧ o2 = Machine_ending ∧ o3.toInt = (g : Int)) ?_ ?_ ?_
  · intro x1 h1 h2
    omega
  · intro x1 h1 h2 h3 h4
    refine ⟨?_, rfl, ha⟩
    rw [h3, nnE ha]; exact hf
  · intro x1 h1 h2 h3
    omega
set_option maxHeartbeats 4000000 in
theorem stp_x2 {a2 : Int32} {Machine_givens : Int32} {Machine_block : Int32} {Machine_answer : Int32} {Machine_showCount : Int32} {Machine_taken : Int32} {Machine_ending : Int32} {Code_blocks : Int32} {Machine_given : Nat → Int32} {Machine_registers : Nat → Int32} {Machine_slots : Nat → Int32} {Machine_shows : Nat → Int32} {Code_first : Nat → Int32} {Code_firstGoal : Nat → Int32} {Code_secondGoal : Nat → Int32} {Code_op : Nat → Int32} {Code_set : Nat → Int32} {Code_left : Nat → Int32} {Code_leftNumber : Nat → Int32} {Code_right : Nat → Int32} {Code_rightNumber : Nat → Int32} {o1 : Int32} {o2 : Nat → Int32} {o3 : Int32} {o4 : Int32} {o5 : Int32} {o6 : Nat → Int32} {o7 : Nat → Int32} {o8 : Int32} {o9 : Int32} {Code_lines : Int32} (hP : rnP Q) (hcd : cdP Code_blocks Code_lines Code_first Code_firstGoal Code_secondGoal Code_op Code_set Code_left Code_leftNumber Code_right Code_rightNumber Q) (hgn : Machine_givens.toInt = (gn : Int)) (hin : ∀ i, i < gn → Machine_given i = inp i) (hag : ag9 Q s a2 Machine_block Machine_showCount Machine_taken Machine_shows Machine_registers Machine_slots) (hen : Machine_ending.toInt = -2) (han : Machine_answer = 0) (h : tr_Machine_step2 a2 Machine_givens Machine_block Machine_answer Machine_showCount Machine_taken Machine_ending Code_blocks Machine_given Machine_registers Machine_slots Machine_shows Code_first Code_firstGoal Code_secondGoal Code_op Code_set Code_left Code_leftNumber Code_right Code_rightNumber o1 o2 o3 o4 o5 o6 o7 o8 o9) : sc9 Q inp gn s o1 o2 o3 o4 o5 o6 o7 o8 o9 := by
  obtain ⟨g1, g2, g3, g4, g5, g6, g7, g8⟩ := id hag
  obtain ⟨c0, c1, c2, c3, c4, c5⟩ := hcd.2.2.2 s.1 s.2.1 g1 g2
  rw [← nnE g3] at c0 c1 c2 c3 c4 c5
  refine h (fun o1 o2 o3 o4 o5 o6 o7 o8 o9 => sc9 Q inp gn s o1 o2 o3 o4 o5 o6 o7 o8 o9) ?_ ?_ ?_ ?_ ?_ ?_ ?_ ?_ ?_ ?_ ?_ ?_ ?_ ?_ ?_ ?_ ?_ ?_ ?_ ?_ ?_ ?_ ?_ ?_ ?_ ?_ ?_ ?_ ?_ ?_ ?_ ?_ ?_ ?_ ?_ ?_ ?_ ?_
  · intro x1 x2 x3 x4 x5 x6 h1 h2 h3 h4 h5 h6 h7 h8 h9
    have e0 : x1.toInt = Q.2.2.1 s.1 s.2.1 0 := by rw [h1]; exact c0
    have eo : Q.2.2.1 s.1 s.2.1 0 = 14 := by omega
    have hr := rn_r hP g1 g2 (by omega)
    obtain ⟨hj, r0, r2, r4, r1, r5⟩ := hr
    have v : x3 = va9 Q s := vo_x (by rw [h3]; exact c2) (by rw [h4]; exact c3) r2.1 r2.2 g7 h5
    have p := pt_x (by rw [h7]; exact c1) (r1 (by omega)).1 (r1 (by omega)).2 h8
    exact Or.inl ⟨_, st9_14 eo, ag_rw hag hj h9 (by rw [p, v]), hen, han⟩
  · intro x1 x2 x3 x4 x5 x6 x7 x8 h1 h2 h3 h4 h5 h6 h7 h8 h9 h10 h11
    have e0 : x1.toInt = Q.2.2.1 s.1 s.2.1 0 := by rw [h1]; exact c0
    have eo : Q.2.2.1 s.1 s.2.1 0 = 15 := by omega
    have hr := rn_r hP g1 g2 (by omega)
    obtain ⟨hj, r0, r2, r4, r1, r5⟩ := hr
    obtain ⟨t1, t2⟩ := tn_x hgn g5.2.1 hin h9
    have p := pt_x (by rw [h7]; exact c1) (r1 (by omega)).1 (r1 (by omega)).2 h10
    exact Or.inl ⟨_, st9_15 eo, ag_tk hag hj h11 (by rw [p, t1]) t2, hen, han⟩
  · intro x1 x2 x3 x4 x5 x6 x7 h1 h2 h3 h4 h5 h6 h7 h8 h9 h10 h11
    have e0 : x1.toInt = Q.2.2.1 s.1 s.2.1 0 := by rw [h1]; exact c0
    have eo : Q.2.2.1 s.1 s.2.1 0 = 16 := by omega
    have hr := rn_r hP g1 g2 (by omega)
    obtain ⟨hj, r0, r2, r4, r1, r5⟩ := hr
    have v : x3 = va9 Q s := vo_x (by rw [h3]; exact c2) (by rw [h4]; exact c3) r2.1 r2.2 g7 h5
    rcases as_x h9 with ⟨w1, w2, w3, w4⟩ | ⟨w1, w2, w3, w4⟩
    · exact absurd h10 w2
    · refine Or.inr ⟨5, 0, s, st9_16x eo (by have := g5.1; omega), by rw [ht_x h11]; decide, by decide, han, ?_⟩
      rw [w3, w4]; exact g5
  · intro x1 x2 x3 x4 x5 x6 x7 h1 h2 h3 h4 h5 h6 h7 h8 h9 h10 h11
    have e0 : x1.toInt = Q.2.2.1 s.1 s.2.1 0 := by rw [h1]; exact c0
    have eo : Q.2.2.1 s.1 s.2.1 0 = 16 := by omega
    have hr := rn_r hP g1 g2 (by omega)
    obtain ⟨hj, r0, r2, r4, r1, r5⟩ := hr
    have v : x3 = va9 Q s := vo_x (by rw [h3]; exact c2) (by rw [h4]; exact c3) r2.1 r2.2 g7 h5
    rcases as_x h9 with ⟨w1, w2, w3, w4⟩ | ⟨w1, w2, w3, w4⟩
    · have hlt : s.2.2.2.2.2.1 < 512 := by have := g5.1; omega
      exact Or.inl ⟨_, st9_16 eo hlt, ag_sw hag hj hlt h11 w3 (by rw [w4, v]), hen, han⟩
    · exact absurd w2 h10
  · intro x1 x2 x3 x4 x5 x6 x7 h1 h2 h3 h4 h5 h6 h7 h8 h9 h10 h11
    have e0 : x1.toInt = Q.2.2.1 s.1 s.2.1 0 := by rw [h1]; exact c0
    have eo : Q.2.2.1 s.1 s.2.1 0 = 17 := by omega
    have hr := rn_r hP g1 g2 (by omega)
    obtain ⟨hj, r0, r2, r4, r1, r5⟩ := hr
    have t := sa_x (by rw [h8]; exact c5) (r5 (by omega)).1 (r5 (by omega)).2 g8 h9
    have p := pt_x (by rw [h7]; exact c1) (r1 (by omega)).1 (r1 (by omega)).2 h10
    exact Or.inl ⟨_, st9_17 eo, ag_rw hag hj h11 (by rw [p, t]), hen, han⟩
  · intro x1 x2 x3 x4 x5 x6 x7 x8 h1 h2 h3 h4 h5 h6 h7 h8 h9 h10 h11
    have e0 : x1.toInt = Q.2.2.1 s.1 s.2.1 0 := by rw [h1]; exact c0
    have eo : Q.2.2.1 s.1 s.2.1 0 = 17 := by omega
    have hr := rn_r hP g1 g2 (by omega)
    obtain ⟨hj, r0, r2, r4, r1, r5⟩ := hr
    have t := sa_x (by rw [h8]; exact c5) (r5 (by omega)).1 (r5 (by omega)).2 g8 h9
    have p := pt_x (by rw [h7]; exact c1) (r1 (by omega)).1 (r1 (by omega)).2 h10
    exact Or.inl ⟨_, st9_17 eo, ag_rw hag hj h11 (by rw [p, t]), hen, han⟩
  · intro x1 x2 x3 x4 x5 x6 h1 h2 h3 h4 h5 h6 h7 h8 h9
    have e0 : x1.toInt = Q.2.2.1 s.1 s.2.1 0 := by rw [h1]; exact c0
    have eo : Q.2.2.1 s.1 s.2.1 0 = 18 := by omega
    have hr := rn_r hP g1 g2 (by omega)
    obtain ⟨hj, r0, r2, r4, r1, r5⟩ := hr
    have v : x3 = va9 Q s := vo_x (by rw [h3]; exact c2) (by rw [h4]; exact c3) r2.1 r2.2 g7 h5
    have p := pt_x (by rw [h7]; exact c5) (r5 (by omega)).1 (r5 (by omega)).2 h8
    exact Or.inl ⟨_, st9_18 eo, ag_st hag hj h9 (by rw [p, v]), hen, han⟩
  · intro x1 x2 x3 x4 x5 x6 x7 h1 h2 h3 h4 h5 h6 h7 h8 h9 h10
    have e0 : x1.toInt = Q.2.2.1 s.1 s.2.1 0 := by rw [h1]; exact c0
    have eo : Q.2.2.1 s.1 s.2.1 0 = 19 := by omega
    obtain ⟨⟨d1, d2, d4, d5⟩, dg⟩ := rn_e hP g1 g2 (by omega)
    obtain ⟨g, y1, y2, y3⟩ := rn_g (i := 0) hP g1 (by decide) (by unfold edG at dg; omega)
    have eg : x4.toInt = (g : Int) := by rw [h7, nnE g4, ← y1]; exact (hcd.2.2.1 s.1 g1).2.1
    obtain ⟨z1, z2, z3⟩ := en_x2 hcd.1 eg y2 (hcd.2.2.1 g y2).1 h10
    exact Or.inl ⟨_, st9_19 eo, ag_go hag y1 y2 y3 z1 z3, by rw [z2]; exact hen, han⟩
  · intro x1 x2 x3 x4 x5 x6 x7 h1 h2 h3 h4 h5 h6 h7 h8 h9 h10 h11
    have e0 : x1.toInt = Q.2.2.1 s.1 s.2.1 0 := by rw [h1]; exact c0
    have eo : Q.2.2.1 s.1 s.2.1 0 = 20 := by omega
    obtain ⟨⟨d1, d2, d4, d5⟩, dg⟩ := rn_e hP g1 g2 (by omega)
    have v : x3 = va9 Q s := vo_x (by rw [h3]; exact c2) (by rw [h4]; exact c3) d2.1 d2.2 g7 h5
    obtain ⟨g, y1, y2, y3⟩ := rn_g (i := 1) hP g1 (by decide) (by unfold edG at dg; omega)
    have eg : x4.toInt = (g : Int) := by rw [h8, nnE g4, ← y1]; exact (hcd.2.2.1 s.1 g1).2.2
    obtain ⟨z1, z2, z3⟩ := en_x2 hcd.1 eg y2 (hcd.2.2.1 g y2).1 h11
    rw [v] at h7
    refine Or.inl ⟨_, st9_20 eo, ?_, by rw [z2]; exact hen, han⟩
    rw [if_pos h7]
    exact ag_go hag y1 y2 y3 z1 z3
  · intro x1 x2 x3 x4 x5 x6 x7 h1 h2 h3 h4 h5 h6 h7 h8 h9 h10 h11
    have e0 : x1.toInt = Q.2.2.1 s.1 s.2.1 0 := by rw [h1]; exact c0
    have eo : Q.2.2.1 s.1 s.2.1 0 = 20 := by omega
    obtain ⟨⟨d1, d2, d4, d5⟩, dg⟩ := rn_e hP g1 g2 (by omega)
    have v : x3 = va9 Q s := vo_x (by rw [h3]; exact c2) (by rw [h4]; exact c3) d2.1 d2.2 g7 h5
    obtain ⟨g, y1, y2, y3⟩ := rn_g (i := 0) hP g1 (by decide) (by unfold edG at dg; omega)
    have eg : x4.toInt = (g : Int) := by rw [h8, nnE g4, ← y1]; exact (hcd.2.2.1 s.1 g1).2.1
    obtain ⟨z1, z2, z3⟩ := en_x2 hcd.1 eg y2 (hcd.2.2.1 g y2).1 h11
    rw [v] at h7
    refine Or.inl ⟨_, st9_20 eo, ?_, by rw [z2]; exact hen, han⟩
    rw [if_neg h7]
    exact ag_go hag y1 y2 y3 z1 z3
  · intro x1 x2 x3 x4 h1 h2 h3 h4 h5 h6 h7
    have e0 : x1.toInt = Q.2.2.1 s.1 s.2.1 0 := by rw [h1]; exact c0
    have eo : Q.2.2.1 s.1 s.2.1 0 = 21 := by omega
    obtain ⟨⟨d1, d2, d4, d5⟩, dg⟩ := rn_e hP g1 g2 (by omega)
    have v : x3 = va9 Q s := vo_x (by rw [h3]; exact c2) (by rw [h4]; exact c3) d2.1 d2.2 g7 h5
    exact Or.inr ⟨0, _, s, st9_21 eo, by rw [ht_x h7]; decide, by decide, v, g5⟩
  · intro x1 x2 x3 x4 x5 x6 x7 x8 x9 h1 h2 h3 h4 h5 h6 h7 h8 h9 h10 h11 h12 h13 h14 h15 h16 h17 h18 h19 h20 h21
    have e0 : x1.toInt = Q.2.2.1 s.1 s.2.1 0 := by rw [h1]; exact c0
    have l18 : Q.2.2.1 s.1 s.2.1 0 ≤ 18 := by
      rcases rn_row hP g1 g2 with ⟨a, -⟩ | ⟨-, -, -, a⟩
      · exact a
      · unfold edG at a; omega
    have hr := rn_r hP g1 g2 l18
    obtain ⟨hj, r0, r2, r4, r1, r5⟩ := hr
    have v : x3 = va9 Q s := vo_x (by rw [h3]; exact c2) (by rw [h4]; exact c3) r2.1 r2.2 g7 h5
    have u : x5 = vb9 Q s := vo_x (by rw [h14]; exact c4) (by rw [h15]; exact c5) r4.1 r4.2 g7 h16
    have l13 : Q.2.2.1 s.1 s.2.1 0 ≤ 13 := by omega
    have nz : ¬ ((Q.2.2.1 s.1 s.2.1 0 = 3 ∨ Q.2.2.1 s.1 s.2.1 0 = 4) ∧ x5.toInt = 0) := by omega
    have c := ca_x (by omega) (by omega) (by rw [e0]; exact nz) h19
    have p := pt_x (by rw [h18]; exact c1) (r1 (by omega)).1 (r1 (by omega)).2 h20
    rw [u] at nz
    refine Or.inl ⟨_, st9_c l13 nz, ag_rw hag hj h21 ?_, hen, han⟩
    rw [p, c, e0, v, u]
  · intro x1 x2 x3 x4 x5 x6 h1 h2 h3 h4 h5 h6 h7 h8 h9 h10 h11 h12 h13 h14 h15 h16 h17 h18 h19
    have e0 : x1.toInt = Q.2.2.1 s.1 s.2.1 0 := by rw [h1]; exact c0
    have l18 : Q.2.2.1 s.1 s.2.1 0 ≤ 18 := by
      rcases rn_row hP g1 g2 with ⟨a, -⟩ | ⟨-, -, -, a⟩
      · exact a
      · unfold edG at a; omega
    have hr := rn_r hP g1 g2 l18
    obtain ⟨hj, r0, r2, r4, r1, r5⟩ := hr
    have v : x3 = va9 Q s := vo_x (by rw [h3]; exact c2) (by rw [h4]; exact c3) r2.1 r2.2 g7 h5
    have u : x5 = vb9 Q s := vo_x (by rw [h14]; exact c4) (by rw [h15]; exact c5) r4.1 r4.2 g7 h16
    have l13 : Q.2.2.1 s.1 s.2.1 0 ≤ 13 := by omega
    exact Or.inr ⟨1, 0, s, st9_z (by omega) (by rw [← u]; exact h17), by rw [ht_x h19]; decide, by decide, han, g5⟩
  · intro x1 x2 x3 x4 x5 x6 x7 x8 x9 h1 h2 h3 h4 h5 h6 h7 h8 h9 h10 h11 h12 h13 h14 h15 h16 h17 h18 h19 h20 h21 h22 h23
    have e0 : x1.toInt = Q.2.2.1 s.1 s.2.1 0 := by rw [h1]; exact c0
    have l18 : Q.2.2.1 s.1 s.2.1 0 ≤ 18 := by
      rcases rn_row hP g1 g2 with ⟨a, -⟩ | ⟨-, -, -, a⟩
      · exact a
      · unfold edG at a; omega
    have hr := rn_r hP g1 g2 l18
    obtain ⟨hj, r0, r2, r4, r1, r5⟩ := hr
    have v : x3 = va9 Q s := vo_x (by rw [h3]; exact c2) (by rw [h4]; exact c3) r2.1 r2.2 g7 h5
    have u : x5 = vb9 Q s := vo_x (by rw [h14]; exact c4) (by rw [h15]; exact c5) r4.1 r4.2 g7 h16
    have l13 : Q.2.2.1 s.1 s.2.1 0 ≤ 13 := by omega
    have nz : ¬ ((Q.2.2.1 s.1 s.2.1 0 = 3 ∨ Q.2.2.1 s.1 s.2.1 0 = 4) ∧ x5.toInt = 0) := by omega
    have c := ca_x (by omega) (by omega) (by rw [e0]; exact nz) h21
    have p := pt_x (by rw [h20]; exact c1) (r1 (by omega)).1 (r1 (by omega)).2 h22
    rw [u] at nz
    refine Or.inl ⟨_, st9_c l13 nz, ag_rw hag hj h23 ?_, hen, han⟩
    rw [p, c, e0, v, u]
  · intro x1 x2 x3 x4 x5 x6 h1 h2 h3 h4 h5 h6 h7 h8 h9 h10 h11 h12 h13 h14 h15 h16 h17 h18 h19 h20
    have e0 : x1.toInt = Q.2.2.1 s.1 s.2.1 0 := by rw [h1]; exact c0
    have l18 : Q.2.2.1 s.1 s.2.1 0 ≤ 18 := by
      rcases rn_row hP g1 g2 with ⟨a, -⟩ | ⟨-, -, -, a⟩
      · exact a
      · unfold edG at a; omega
    have hr := rn_r hP g1 g2 l18
    obtain ⟨hj, r0, r2, r4, r1, r5⟩ := hr
    have v : x3 = va9 Q s := vo_x (by rw [h3]; exact c2) (by rw [h4]; exact c3) r2.1 r2.2 g7 h5
    have u : x5 = vb9 Q s := vo_x (by rw [h14]; exact c4) (by rw [h15]; exact c5) r4.1 r4.2 g7 h16
    have l13 : Q.2.2.1 s.1 s.2.1 0 ≤ 13 := by omega
    exact Or.inr ⟨1, 0, s, st9_z (by omega) (by rw [← u]; exact h17), by rw [ht_x h20]; decide, by decide, han, g5⟩
  · intro x1 x2 x3 x4 x5 x6 x7 x8 x9 x10 h1 h2 h3 h4 h5 h6 h7 h8 h9 h10 h11 h12 h13 h14 h15 h16 h17 h18 h19 h20 h21
    have e0 : x1.toInt = Q.2.2.1 s.1 s.2.1 0 := by rw [h1]; exact c0
    have l18 : Q.2.2.1 s.1 s.2.1 0 ≤ 18 := by
      rcases rn_row hP g1 g2 with ⟨a, -⟩ | ⟨-, -, -, a⟩
      · exact a
      · unfold edG at a; omega
    have hr := rn_r hP g1 g2 l18
    obtain ⟨hj, r0, r2, r4, r1, r5⟩ := hr
    have v : x3 = va9 Q s := vo_x (by rw [h3]; exact c2) (by rw [h4]; exact c3) r2.1 r2.2 g7 h5
    have u : x6 = vb9 Q s := vo_x (by rw [h14]; exact c4) (by rw [h15]; exact c5) r4.1 r4.2 g7 h16
    have l13 : Q.2.2.1 s.1 s.2.1 0 ≤ 13 := by omega
    have nz : ¬ ((Q.2.2.1 s.1 s.2.1 0 = 3 ∨ Q.2.2.1 s.1 s.2.1 0 = 4) ∧ x6.toInt = 0) := by omega
    have c := ca_x (by omega) (by omega) (by rw [e0]; exact nz) h19
    have p := pt_x (by rw [h18]; exact c1) (r1 (by omega)).1 (r1 (by omega)).2 h20
    rw [u] at nz
    refine Or.inl ⟨_, st9_c l13 nz, ag_rw hag hj h21 ?_, hen, han⟩
    rw [p, c, e0, v, u]
  · intro x1 x2 x3 x4 x5 x6 x7 h1 h2 h3 h4 h5 h6 h7 h8 h9 h10 h11 h12 h13 h14 h15 h16 h17 h18 h19
    have e0 : x1.toInt = Q.2.2.1 s.1 s.2.1 0 := by rw [h1]; exact c0
    have l18 : Q.2.2.1 s.1 s.2.1 0 ≤ 18 := by
      rcases rn_row hP g1 g2 with ⟨a, -⟩ | ⟨-, -, -, a⟩
      · exact a
      · unfold edG at a; omega
    have hr := rn_r hP g1 g2 l18
    obtain ⟨hj, r0, r2, r4, r1, r5⟩ := hr
    have v : x3 = va9 Q s := vo_x (by rw [h3]; exact c2) (by rw [h4]; exact c3) r2.1 r2.2 g7 h5
    have u : x6 = vb9 Q s := vo_x (by rw [h14]; exact c4) (by rw [h15]; exact c5) r4.1 r4.2 g7 h16
    have l13 : Q.2.2.1 s.1 s.2.1 0 ≤ 13 := by omega
    exact Or.inr ⟨1, 0, s, st9_z (by omega) (by rw [← u]; exact h17), by rw [ht_x h19]; decide, by decide, han, g5⟩
  · intro x1 x2 x3 x4 x5 x6 x7 x8 x9 x10 h1 h2 h3 h4 h5 h6 h7 h8 h9 h10 h11 h12 h13 h14 h15 h16 h17 h18 h19 h20 h21 h22 h23
    have e0 : x1.toInt = Q.2.2.1 s.1 s.2.1 0 := by rw [h1]; exact c0
    have l18 : Q.2.2.1 s.1 s.2.1 0 ≤ 18 := by
      rcases rn_row hP g1 g2 with ⟨a, -⟩ | ⟨-, -, -, a⟩
      · exact a
      · unfold edG at a; omega
    have hr := rn_r hP g1 g2 l18
    obtain ⟨hj, r0, r2, r4, r1, r5⟩ := hr
    have v : x3 = va9 Q s := vo_x (by rw [h3]; exact c2) (by rw [h4]; exact c3) r2.1 r2.2 g7 h5
    have u : x6 = vb9 Q s := vo_x (by rw [h14]; exact c4) (by rw [h15]; exact c5) r4.1 r4.2 g7 h16
    have l13 : Q.2.2.1 s.1 s.2.1 0 ≤ 13 := by omega
    have nz : ¬ ((Q.2.2.1 s.1 s.2.1 0 = 3 ∨ Q.2.2.1 s.1 s.2.1 0 = 4) ∧ x6.toInt = 0) := by omega
    have c := ca_x (by omega) (by omega) (by rw [e0]; exact nz) h21
    have p := pt_x (by rw [h20]; exact c1) (r1 (by omega)).1 (r1 (by omega)).2 h22
    rw [u] at nz
    refine Or.inl ⟨_, st9_c l13 nz, ag_rw hag hj h23 ?_, hen, han⟩
    rw [p, c, e0, v, u]
  · intro x1 x2 x3 x4 x5 x6 x7 h1 h2 h3 h4 h5 h6 h7 h8 h9 h10 h11 h12 h13 h14 h15 h16 h17 h18 h19 h20
    have e0 : x1.toInt = Q.2.2.1 s.1 s.2.1 0 := by rw [h1]; exact c0
    have l18 : Q.2.2.1 s.1 s.2.1 0 ≤ 18 := by
      rcases rn_row hP g1 g2 with ⟨a, -⟩ | ⟨-, -, -, a⟩
      · exact a
      · unfold edG at a; omega
    have hr := rn_r hP g1 g2 l18
    obtain ⟨hj, r0, r2, r4, r1, r5⟩ := hr
    have v : x3 = va9 Q s := vo_x (by rw [h3]; exact c2) (by rw [h4]; exact c3) r2.1 r2.2 g7 h5
    have u : x6 = vb9 Q s := vo_x (by rw [h14]; exact c4) (by rw [h15]; exact c5) r4.1 r4.2 g7 h16
    have l13 : Q.2.2.1 s.1 s.2.1 0 ≤ 13 := by omega
    exact Or.inr ⟨1, 0, s, st9_z (by omega) (by rw [← u]; exact h17), by rw [ht_x h20]; decide, by decide, han, g5⟩
  · intro x1 x2 x3 x4 x5 x6 x7 h1 h2 h3 h4 h5 h6 h7 h8 h9
    have e0 : x1.toInt = Q.2.2.1 s.1 s.2.1 0 := by rw [h1]; exact c0
    have eo : Q.2.2.1 s.1 s.2.1 0 = 14 := by omega
    have hr := rn_r hP g1 g2 (by omega)
    obtain ⟨hj, r0, r2, r4, r1, r5⟩ := hr
    have v : x4 = va9 Q s := vo_x (by rw [h3]; exact c2) (by rw [h4]; exact c3) r2.1 r2.2 g7 h5
    have p := pt_x (by rw [h7]; exact c1) (r1 (by omega)).1 (r1 (by omega)).2 h8
    exact Or.inl ⟨_, st9_14 eo, ag_rw hag hj h9 (by rw [p, v]), hen, han⟩
  · intro x1 x2 x3 x4 x5 x6 x7 x8 x9 h1 h2 h3 h4 h5 h6 h7 h8 h9 h10 h11
    have e0 : x1.toInt = Q.2.2.1 s.1 s.2.1 0 := by rw [h1]; exact c0
    have eo : Q.2.2.1 s.1 s.2.1 0 = 15 := by omega
    have hr := rn_r hP g1 g2 (by omega)
    obtain ⟨hj, r0, r2, r4, r1, r5⟩ := hr
    obtain ⟨t1, t2⟩ := tn_x hgn g5.2.1 hin h9
    have p := pt_x (by rw [h7]; exact c1) (r1 (by omega)).1 (r1 (by omega)).2 h10
    exact Or.inl ⟨_, st9_15 eo, ag_tk hag hj h11 (by rw [p, t1]) t2, hen, han⟩
  · intro x1 x2 x3 x4 x5 x6 x7 x8 h1 h2 h3 h4 h5 h6 h7 h8 h9 h10 h11
    have e0 : x1.toInt = Q.2.2.1 s.1 s.2.1 0 := by rw [h1]; exact c0
    have eo : Q.2.2.1 s.1 s.2.1 0 = 16 := by omega
    have hr := rn_r hP g1 g2 (by omega)
    obtain ⟨hj, r0, r2, r4, r1, r5⟩ := hr
    have v : x4 = va9 Q s := vo_x (by rw [h3]; exact c2) (by rw [h4]; exact c3) r2.1 r2.2 g7 h5
    rcases as_x h9 with ⟨w1, w2, w3, w4⟩ | ⟨w1, w2, w3, w4⟩
    · exact absurd h10 w2
    · refine Or.inr ⟨5, 0, s, st9_16x eo (by have := g5.1; omega), by rw [ht_x h11]; decide, by decide, han, ?_⟩
      rw [w3, w4]; exact g5
  · intro x1 x2 x3 x4 x5 x6 x7 x8 h1 h2 h3 h4 h5 h6 h7 h8 h9 h10 h11
    have e0 : x1.toInt = Q.2.2.1 s.1 s.2.1 0 := by rw [h1]; exact c0
    have eo : Q.2.2.1 s.1 s.2.1 0 = 16 := by omega
    have hr := rn_r hP g1 g2 (by omega)
    obtain ⟨hj, r0, r2, r4, r1, r5⟩ := hr
    have v : x4 = va9 Q s := vo_x (by rw [h3]; exact c2) (by rw [h4]; exact c3) r2.1 r2.2 g7 h5
    rcases as_x h9 with ⟨w1, w2, w3, w4⟩ | ⟨w1, w2, w3, w4⟩
    · have hlt : s.2.2.2.2.2.1 < 512 := by have := g5.1; omega
      exact Or.inl ⟨_, st9_16 eo hlt, ag_sw hag hj hlt h11 w3 (by rw [w4, v]), hen, han⟩
    · exact absurd w2 h10
  · intro x1 x2 x3 x4 x5 x6 x7 x8 h1 h2 h3 h4 h5 h6 h7 h8 h9 h10 h11
    have e0 : x1.toInt = Q.2.2.1 s.1 s.2.1 0 := by rw [h1]; exact c0
    have eo : Q.2.2.1 s.1 s.2.1 0 = 17 := by omega
    have hr := rn_r hP g1 g2 (by omega)
    obtain ⟨hj, r0, r2, r4, r1, r5⟩ := hr
    have t := sa_x (by rw [h8]; exact c5) (r5 (by omega)).1 (r5 (by omega)).2 g8 h9
    have p := pt_x (by rw [h7]; exact c1) (r1 (by omega)).1 (r1 (by omega)).2 h10
    exact Or.inl ⟨_, st9_17 eo, ag_rw hag hj h11 (by rw [p, t]), hen, han⟩
  · intro x1 x2 x3 x4 x5 x6 x7 x8 x9 h1 h2 h3 h4 h5 h6 h7 h8 h9 h10 h11
    have e0 : x1.toInt = Q.2.2.1 s.1 s.2.1 0 := by rw [h1]; exact c0
    have eo : Q.2.2.1 s.1 s.2.1 0 = 17 := by omega
    have hr := rn_r hP g1 g2 (by omega)
    obtain ⟨hj, r0, r2, r4, r1, r5⟩ := hr
    have t := sa_x (by rw [h8]; exact c5) (r5 (by omega)).1 (r5 (by omega)).2 g8 h9
    have p := pt_x (by rw [h7]; exact c1) (r1 (by omega)).1 (r1 (by omega)).2 h10
    exact Or.inl ⟨_, st9_17 eo, ag_rw hag hj h11 (by rw [p, t]), hen, han⟩
  · intro x1 x2 x3 x4 x5 x6 x7 h1 h2 h3 h4 h5 h6 h7 h8 h9
    have e0 : x1.toInt = Q.2.2.1 s.1 s.2.1 0 := by rw [h1]; exact c0
    have eo : Q.2.2.1 s.1 s.2.1 0 = 18 := by omega
    have hr := rn_r hP g1 g2 (by omega)
    obtain ⟨hj, r0, r2, r4, r1, r5⟩ := hr
    have v : x4 = va9 Q s := vo_x (by rw [h3]; exact c2) (by rw [h4]; exact c3) r2.1 r2.2 g7 h5
    have p := pt_x (by rw [h7]; exact c5) (r5 (by omega)).1 (r5 (by omega)).2 h8
    exact Or.inl ⟨_, st9_18 eo, ag_st hag hj h9 (by rw [p, v]), hen, han⟩
  · intro x1 x2 x3 x4 x5 x6 x7 x8 h1 h2 h3 h4 h5 h6 h7 h8 h9 h10
    have e0 : x1.toInt = Q.2.2.1 s.1 s.2.1 0 := by rw [h1]; exact c0
    have eo : Q.2.2.1 s.1 s.2.1 0 = 19 := by omega
    obtain ⟨⟨d1, d2, d4, d5⟩, dg⟩ := rn_e hP g1 g2 (by omega)
    obtain ⟨g, y1, y2, y3⟩ := rn_g (i := 0) hP g1 (by decide) (by unfold edG at dg; omega)
    have eg : x5.toInt = (g : Int) := by rw [h7, nnE g4, ← y1]; exact (hcd.2.2.1 s.1 g1).2.1
    obtain ⟨z1, z2, z3⟩ := en_x2 hcd.1 eg y2 (hcd.2.2.1 g y2).1 h10
    exact Or.inl ⟨_, st9_19 eo, ag_go hag y1 y2 y3 z1 z3, by rw [z2]; exact hen, han⟩
  · intro x1 x2 x3 x4 x5 x6 x7 x8 h1 h2 h3 h4 h5 h6 h7 h8 h9 h10 h11
    have e0 : x1.toInt = Q.2.2.1 s.1 s.2.1 0 := by rw [h1]; exact c0
    have eo : Q.2.2.1 s.1 s.2.1 0 = 20 := by omega
    obtain ⟨⟨d1, d2, d4, d5⟩, dg⟩ := rn_e hP g1 g2 (by omega)
    have v : x4 = va9 Q s := vo_x (by rw [h3]; exact c2) (by rw [h4]; exact c3) d2.1 d2.2 g7 h5
    obtain ⟨g, y1, y2, y3⟩ := rn_g (i := 1) hP g1 (by decide) (by unfold edG at dg; omega)
    have eg : x5.toInt = (g : Int) := by rw [h8, nnE g4, ← y1]; exact (hcd.2.2.1 s.1 g1).2.2
    obtain ⟨z1, z2, z3⟩ := en_x2 hcd.1 eg y2 (hcd.2.2.1 g y2).1 h11
    rw [v] at h7
    refine Or.inl ⟨_, st9_20 eo, ?_, by rw [z2]; exact hen, han⟩
    rw [if_pos h7]
    exact ag_go hag y1 y2 y3 z1 z3
  · intro x1 x2 x3 x4 x5 x6 x7 x8 h1 h2 h3 h4 h5 h6 h7 h8 h9 h10 h11
    have e0 : x1.toInt = Q.2.2.1 s.1 s.2.1 0 := by rw [h1]; exact c0
    have eo : Q.2.2.1 s.1 s.2.1 0 = 20 := by omega
    obtain ⟨⟨d1, d2, d4, d5⟩, dg⟩ := rn_e hP g1 g2 (by omega)
    have v : x4 = va9 Q s := vo_x (by rw [h3]; exact c2) (by rw [h4]; exact c3) d2.1 d2.2 g7 h5
    obtain ⟨g, y1, y2, y3⟩ := rn_g (i := 0) hP g1 (by decide) (by unfold edG at dg; omega)
    have eg : x5.toInt = (g : Int) := by rw [h8, nnE g4, ← y1]; exact (hcd.2.2.1 s.1 g1).2.1
    obtain ⟨z1, z2, z3⟩ := en_x2 hcd.1 eg y2 (hcd.2.2.1 g y2).1 h11
    rw [v] at h7
    refine Or.inl ⟨_, st9_20 eo, ?_, by rw [z2]; exact hen, han⟩
    rw [if_neg h7]
    exact ag_go hag y1 y2 y3 z1 z3
  · intro x1 x2 x3 x4 x5 h1 h2 h3 h4 h5 h6 h7
    have e0 : x1.toInt = Q.2.2.1 s.1 s.2.1 0 := by rw [h1]; exact c0
    have eo : Q.2.2.1 s.1 s.2.1 0 = 21 := by omega
    obtain ⟨⟨d1, d2, d4, d5⟩, dg⟩ := rn_e hP g1 g2 (by omega)
    have v : x4 = va9 Q s := vo_x (by rw [h3]; exact c2) (by rw [h4]; exact c3) d2.1 d2.2 g7 h5
    exact Or.inr ⟨0, _, s, st9_21 eo, by rw [ht_x h7]; decide, by decide, v, g5⟩
  · intro x1 x2 x3 x4 x5 x6 x7 x8 x9 x10 h1 h2 h3 h4 h5 h6 h7 h8 h9 h10 h11 h12 h13 h14 h15 h16 h17 h18 h19 h20 h21
    have e0 : x1.toInt = Q.2.2.1 s.1 s.2.1 0 := by rw [h1]; exact c0
    have l18 : Q.2.2.1 s.1 s.2.1 0 ≤ 18 := by
      rcases rn_row hP g1 g2 with ⟨a, -⟩ | ⟨-, -, -, a⟩
      · exact a
      · unfold edG at a; omega
    have hr := rn_r hP g1 g2 l18
    obtain ⟨hj, r0, r2, r4, r1, r5⟩ := hr
    have v : x4 = va9 Q s := vo_x (by rw [h3]; exact c2) (by rw [h4]; exact c3) r2.1 r2.2 g7 h5
    have u : x6 = vb9 Q s := vo_x (by rw [h14]; exact c4) (by rw [h15]; exact c5) r4.1 r4.2 g7 h16
    have l13 : Q.2.2.1 s.1 s.2.1 0 ≤ 13 := by omega
    have nz : ¬ ((Q.2.2.1 s.1 s.2.1 0 = 3 ∨ Q.2.2.1 s.1 s.2.1 0 = 4) ∧ x6.toInt = 0) := by omega
    have c := ca_x (by omega) (by omega) (by rw [e0]; exact nz) h19
    have p := pt_x (by rw [h18]; exact c1) (r1 (by omega)).1 (r1 (by omega)).2 h20
    rw [u] at nz
    refine Or.inl ⟨_, st9_c l13 nz, ag_rw hag hj h21 ?_, hen, han⟩
    rw [p, c, e0, v, u]
  · intro x1 x2 x3 x4 x5 x6 x7 h1 h2 h3 h4 h5 h6 h7 h8 h9 h10 h11 h12 h13 h14 h15 h16 h17 h18 h19
    have e0 : x1.toInt = Q.2.2.1 s.1 s.2.1 0 := by rw [h1]; exact c0
    have l18 : Q.2.2.1 s.1 s.2.1 0 ≤ 18 := by
      rcases rn_row hP g1 g2 with ⟨a, -⟩ | ⟨-, -, -, a⟩
      · exact a
      · unfold edG at a; omega
    have hr := rn_r hP g1 g2 l18
    obtain ⟨hj, r0, r2, r4, r1, r5⟩ := hr
    have v : x4 = va9 Q s := vo_x (by rw [h3]; exact c2) (by rw [h4]; exact c3) r2.1 r2.2 g7 h5
    have u : x6 = vb9 Q s := vo_x (by rw [h14]; exact c4) (by rw [h15]; exact c5) r4.1 r4.2 g7 h16
    have l13 : Q.2.2.1 s.1 s.2.1 0 ≤ 13 := by omega
    exact Or.inr ⟨1, 0, s, st9_z (by omega) (by rw [← u]; exact h17), by rw [ht_x h19]; decide, by decide, han, g5⟩
  · intro x1 x2 x3 x4 x5 x6 x7 x8 x9 x10 h1 h2 h3 h4 h5 h6 h7 h8 h9 h10 h11 h12 h13 h14 h15 h16 h17 h18 h19 h20 h21 h22 h23
    have e0 : x1.toInt = Q.2.2.1 s.1 s.2.1 0 := by rw [h1]; exact c0
    have l18 : Q.2.2.1 s.1 s.2.1 0 ≤ 18 := by
      rcases rn_row hP g1 g2 with ⟨a, -⟩ | ⟨-, -, -, a⟩
      · exact a
      · unfold edG at a; omega
    have hr := rn_r hP g1 g2 l18
    obtain ⟨hj, r0, r2, r4, r1, r5⟩ := hr
    have v : x4 = va9 Q s := vo_x (by rw [h3]; exact c2) (by rw [h4]; exact c3) r2.1 r2.2 g7 h5
    have u : x6 = vb9 Q s := vo_x (by rw [h14]; exact c4) (by rw [h15]; exact c5) r4.1 r4.2 g7 h16
    have l13 : Q.2.2.1 s.1 s.2.1 0 ≤ 13 := by omega
    have nz : ¬ ((Q.2.2.1 s.1 s.2.1 0 = 3 ∨ Q.2.2.1 s.1 s.2.1 0 = 4) ∧ x6.toInt = 0) := by omega
    have c := ca_x (by omega) (by omega) (by rw [e0]; exact nz) h21
    have p := pt_x (by rw [h20]; exact c1) (r1 (by omega)).1 (r1 (by omega)).2 h22
    rw [u] at nz
    refine Or.inl ⟨_, st9_c l13 nz, ag_rw hag hj h23 ?_, hen, han⟩
    rw [p, c, e0, v, u]
  · intro x1 x2 x3 x4 x5 x6 x7 h1 h2 h3 h4 h5 h6 h7 h8 h9 h10 h11 h12 h13 h14 h15 h16 h17 h18 h19 h20
    have e0 : x1.toInt = Q.2.2.1 s.1 s.2.1 0 := by rw [h1]; exact c0
    have l18 : Q.2.2.1 s.1 s.2.1 0 ≤ 18 := by
      rcases rn_row hP g1 g2 with ⟨a, -⟩ | ⟨-, -, -, a⟩
      · exact a
      · unfold edG at a; omega
    have hr := rn_r hP g1 g2 l18
    obtain ⟨hj, r0, r2, r4, r1, r5⟩ := hr
    have v : x4 = va9 Q s := vo_x (by rw [h3]; exact c2) (by rw [h4]; exact c3) r2.1 r2.2 g7 h5
    have u : x6 = vb9 Q s := vo_x (by rw [h14]; exact c4) (by rw [h15]; exact c5) r4.1 r4.2 g7 h16
    have l13 : Q.2.2.1 s.1 s.2.1 0 ≤ 13 := by omega
    exact Or.inr ⟨1, 0, s, st9_z (by omega) (by rw [← u]; exact h17), by rw [ht_x h20]; decide, by decide, han, g5⟩
  · intro x1 x2 x3 x4 x5 x6 x7 x8 x9 x10 x11 h1 h2 h3 h4 h5 h6 h7 h8 h9 h10 h11 h12 h13 h14 h15 h16 h17 h18 h19 h20 h21
    have e0 : x1.toInt = Q.2.2.1 s.1 s.2.1 0 := by rw [h1]; exact c0
    have l18 : Q.2.2.1 s.1 s.2.1 0 ≤ 18 := by
      rcases rn_row hP g1 g2 with ⟨a, -⟩ | ⟨-, -, -, a⟩
      · exact a
      · unfold edG at a; omega
    have hr := rn_r hP g1 g2 l18
    obtain ⟨hj, r0, r2, r4, r1, r5⟩ := hr
    have v : x4 = va9 Q s := vo_x (by rw [h3]; exact c2) (by rw [h4]; exact c3) r2.1 r2.2 g7 h5
    have u : x7 = vb9 Q s := vo_x (by rw [h14]; exact c4) (by rw [h15]; exact c5) r4.1 r4.2 g7 h16
    have l13 : Q.2.2.1 s.1 s.2.1 0 ≤ 13 := by omega
    have nz : ¬ ((Q.2.2.1 s.1 s.2.1 0 = 3 ∨ Q.2.2.1 s.1 s.2.1 0 = 4) ∧ x7.toInt = 0) := by omega
    have c := ca_x (by omega) (by omega) (by rw [e0]; exact nz) h19
    have p := pt_x (by rw [h18]; exact c1) (r1 (by omega)).1 (r1 (by omega)).2 h20
    rw [u] at nz
    refine Or.inl ⟨_, st9_c l13 nz, ag_rw hag hj h21 ?_, hen, han⟩
    rw [p, c, e0, v, u]
  · intro x1 x2 x3 x4 x5 x6 x7 x8 h1 h2 h3 h4 h5 h6 h7 h8 h9 h10 h11 h12 h13 h14 h15 h16 h17 h18 h19
    have e0 : x1.toInt = Q.2.2.1 s.1 s.2.1 0 := by rw [h1]; exact c0
    have l18 : Q.2.2.1 s.1 s.2.1 0 ≤ 18 := by
      rcases rn_row hP g1 g2 with ⟨a, -⟩ | ⟨-, -, -, a⟩
      · exact a
      · unfold edG at a; omega
    have hr := rn_r hP g1 g2 l18
    obtain ⟨hj, r0, r2, r4, r1, r5⟩ := hr
    have v : x4 = va9 Q s := vo_x (by rw [h3]; exact c2) (by rw [h4]; exact c3) r2.1 r2.2 g7 h5
    have u : x7 = vb9 Q s := vo_x (by rw [h14]; exact c4) (by rw [h15]; exact c5) r4.1 r4.2 g7 h16
    have l13 : Q.2.2.1 s.1 s.2.1 0 ≤ 13 := by omega
    exact Or.inr ⟨1, 0, s, st9_z (by omega) (by rw [← u]; exact h17), by rw [ht_x h19]; decide, by decide, han, g5⟩
  · intro x1 x2 x3 x4 x5 x6 x7 x8 x9 x10 x11 h1 h2 h3 h4 h5 h6 h7 h8 h9 h10 h11 h12 h13 h14 h15 h16 h17 h18 h19 h20 h21 h22 h23
    have e0 : x1.toInt = Q.2.2.1 s.1 s.2.1 0 := by rw [h1]; exact c0
    have l18 : Q.2.2.1 s.1 s.2.1 0 ≤ 18 := by
      rcases rn_row hP g1 g2 with ⟨a, -⟩ | ⟨-, -, -, a⟩
      · exact a
      · unfold edG at a; omega
    have hr := rn_r hP g1 g2 l18
    obtain ⟨hj, r0, r2, r4, r1, r5⟩ := hr
    have v : x4 = va9 Q s := vo_x (by rw [h3]; exact c2) (by rw [h4]; exact c3) r2.1 r2.2 g7 h5
    have u : x7 = vb9 Q s := vo_x (by rw [h14]; exact c4) (by rw [h15]; exact c5) r4.1 r4.2 g7 h16
    have l13 : Q.2.2.1 s.1 s.2.1 0 ≤ 13 := by omega
    have nz : ¬ ((Q.2.2.1 s.1 s.2.1 0 = 3 ∨ Q.2.2.1 s.1 s.2.1 0 = 4) ∧ x7.toInt = 0) := by omega
    have c := ca_x (by omega) (by omega) (by rw [e0]; exact nz) h21
    have p := pt_x (by rw [h20]; exact c1) (r1 (by omega)).1 (r1 (by omega)).2 h22
    rw [u] at nz
    refine Or.inl ⟨_, st9_c l13 nz, ag_rw hag hj h23 ?_, hen, han⟩
    rw [p, c, e0, v, u]
  · intro x1 x2 x3 x4 x5 x6 x7 x8 h1 h2 h3 h4 h5 h6 h7 h8 h9 h10 h11 h12 h13 h14 h15 h16 h17 h18 h19 h20
    have e0 : x1.toInt = Q.2.2.1 s.1 s.2.1 0 := by rw [h1]; exact c0
    have l18 : Q.2.2.1 s.1 s.2.1 0 ≤ 18 := by
      rcases rn_row hP g1 g2 with ⟨a, -⟩ | ⟨-, -, -, a⟩
      · exact a
      · unfold edG at a; omega
    have hr := rn_r hP g1 g2 l18
    obtain ⟨hj, r0, r2, r4, r1, r5⟩ := hr
    have v : x4 = va9 Q s := vo_x (by rw [h3]; exact c2) (by rw [h4]; exact c3) r2.1 r2.2 g7 h5
    have u : x7 = vb9 Q s := vo_x (by rw [h14]; exact c4) (by rw [h15]; exact c5) r4.1 r4.2 g7 h16
    have l13 : Q.2.2.1 s.1 s.2.1 0 ≤ 13 := by omega
    exact Or.inr ⟨1, 0, s, st9_z (by omega) (by rw [← u]; exact h17), by rw [ht_x h20]; decide, by decide, han, g5⟩
set_option maxHeartbeats 4000000 in
theorem pfl_x2 {a2 : Int32} {Code_lines : Int32} {Machine_givens : Int32} {Code_blocks : Int32} {Machine_given : Nat → Int32} {Code_first : Nat → Int32} {Code_firstGoal : Nat → Int32} {Code_secondGoal : Nat → Int32} {Code_op : Nat → Int32} {Code_set : Nat → Int32} {Code_left : Nat → Int32} {Code_leftNumber : Nat → Int32} {Code_right : Nat → Int32} {Code_rightNumber : Nat → Int32} {s1 : Int32} {s2 : Int32} {s3 : Int32} {s4 : Int32} {s5 : Int32} {s6 : Int32} {s7 : Int32} {s8 : Nat → Int32} {s9 : Nat → Int32} {s10 : Nat → Int32} {k : Nat} {e1 : Int32} {e2 : Int32} {e3 : Int32} {e4 : Int32} {e5 : Int32} {e6 : Int32} {e7 : Nat → Int32} {e8 : Nat → Int32} {e9 : Nat → Int32} (hP : rnP Q) (hcd : cdP Code_blocks Code_lines Code_first Code_firstGoal Code_secondGoal Code_op Code_set Code_left Code_leftNumber Code_right Code_rightNumber Q) (hgn : Machine_givens.toInt = (gn : Int)) (hin : ∀ i, i < gn → Machine_given i = inp i) (h : tl_Machine_perform2_49 a2 Code_lines Machine_givens Code_blocks Machine_given Code_first Code_firstGoal Code_secondGoal Code_op Code_set Code_left Code_leftNumber Code_right Code_rightNumber s1 s2 s3 s4 s5 s6 s7 s8 s9 s10 k e1 e2 e3 e4 e5 e6 e7 e8 e9) : (s3.toInt ≠ -2 → e2 = s5 ∧ e3 = s6 ∧ e4 = s2 ∧ e5 = s7 ∧ e6 = s3 ∧ e7 = s8) ∧ (s3.toInt = -2 → s5 = 0 → ∀ (s : gM9) (t f : Nat), s2.toInt = (t : Int) → a2.toInt = ((t + f : Nat) : Int) → ag9 Q s s1 s4 s6 s7 s8 s9 s10 → en9 (rn9 Q inp gn f t s) e2 e3 e4 e5 e6 e7) := by
  refine h (fun s1 s2 s3 s4 s5 s6 s7 s8 s9 s10 k e1 e2 e3 e4 e5 e6 e7 e8 e9 => (s3.toInt ≠ -2 → e2 = s5 ∧ e3 = s6 ∧ e4 = s2 ∧ e5 = s7 ∧ e6 = s3 ∧ e7 = s8) ∧ (s3.toInt = -2 → s5 = 0 → ∀ (s : gM9) (t f : Nat), s2.toInt = (t : Int) → a2.toInt = ((t + f : Nat) : Int) → ag9 Q s s1 s4 s6 s7 s8 s9 s10 → en9 (rn9 Q inp gn f t s) e2 e3 e4 e5 e6 e7)) ?_ ?_ ?_ ?_ ?_
  · intro l3_1 Machine_steps_1 Machine_ending_1 Machine_block_1 Machine_answer_1 Machine_showCount_1 Machine_taken_1 Machine_shows_1 Machine_registers_1 Machine_slots_1 h1 h2 h3 h4 h5 h6
    refine ⟨fun _ => ⟨rfl, rfl, rfl, rfl, rfl, rfl⟩, fun he ha s t f ht hf hag => ?_⟩
    have f0 : f = 0 := by omega
    rw [f0, rn9_0]
    exact ⟨Or.inr ⟨he, rfl⟩, ha, ht, hag.2.2.2.2.1⟩
  · intro l3_1 Machine_steps_1 Machine_ending_1 Machine_block_1 Machine_answer_1 Machine_showCount_1 Machine_taken_1 Machine_shows_1 Machine_registers_1 Machine_slots_1 h1 h2 h3 h4 h5 h6 h7
    refine ⟨fun _ => ⟨rfl, rfl, rfl, rfl, rfl, rfl⟩, fun he ha s t f ht hf hag => ?_⟩
    exact absurd he h7
  · intro l3_1 Machine_steps_1 Machine_ending_1 Machine_block_1 Machine_answer_1 Machine_showCount_1 Machine_taken_1 Machine_shows_1 Machine_registers_1 Machine_slots_1 x1 x2 k e1 e2 e3 e4 e5 e6 e7 e8 e9 h1 h2 h3 h4 h5 h6 h7 h8 h9 h10 ih
    refine ⟨fun he => absurd h7 he, fun he ha s t f ht hf hag => ?_⟩
    obtain ⟨g1, g2, g3, -⟩ := hag
    have q := fsm_lt g1 g2
    have q2 := hcd.2.1
    omega
  · intro l3_1 Machine_steps_1 Machine_ending_1 Machine_block_1 Machine_answer_1 Machine_showCount_1 Machine_taken_1 Machine_shows_1 Machine_registers_1 Machine_slots_1 x1 x2 k e1 e2 e3 e4 e5 e6 e7 e8 e9 h1 h2 h3 h4 h5 h6 h7 h8 h9 h10 h11 ih
    refine ⟨fun he => absurd h7 he, fun he ha s t f ht hf hag => ?_⟩
    obtain ⟨g1, g2, g3, -⟩ := hag
    have q := fsm_lt g1 g2
    have q2 := hcd.2.1
    omega
  · intro l3_1 Machine_steps_1 Machine_ending_1 Machine_block_1 Machine_answer_1 Machine_showCount_1 Machine_taken_1 Machine_shows_1 Machine_registers_1 Machine_slots_1 x1 x2 x3 x4 x5 x6 x7 x8 x9 x10 k e1 e2 e3 e4 e5 e6 e7 e8 e9 h1 h2 h3 h4 h5 h6 h7 h8 h9 h10 h11 h12 h13 h14 h15 ih
    refine ⟨fun he => absurd h7 he, fun he ha s t f ht hf hag => ?_⟩
    obtain ⟨f1, rfl⟩ : ∃ f1, f = f1 + 1 := ⟨f - 1, by omega⟩
    rcases stp_x2 hP hcd hgn hin hag he ha h14 with ⟨s2, w1, w2, w3, w4⟩ | ⟨e, a, s2, w1, w2, w3, w4, w5⟩
    · rw [rn9_n w1]
      exact ih.2 w3 w4 s2 (t + 1) f1 (by rw [h15]; omega) (by omega) w2
    · rw [rn9_s w1]
      obtain ⟨y1, y2, y3, y4, y5, y6⟩ := ih.1 (by omega)
      rw [y1, y2, y3, y4, y5, y6]
      exact ⟨Or.inl ⟨w2, w3⟩, w4, by show _ = ((t + 1 : Nat) : Int); omega, w5⟩
theorem pf_x2 {a2 : Int32} {Machine_givens : Int32} {Code_blocks : Int32} {Code_lines : Int32} {Machine_given : Nat → Int32} {Machine_registers : Nat → Int32} {Machine_slots : Nat → Int32} {Machine_shows : Nat → Int32} {Code_first : Nat → Int32} {Code_firstGoal : Nat → Int32} {Code_secondGoal : Nat → Int32} {Code_op : Nat → Int32} {Code_set : Nat → Int32} {Code_left : Nat → Int32} {Code_leftNumber : Nat → Int32} {Code_right : Nat → Int32} {Code_rightNumber : Nat → Int32} {o1 : Int32} {o2 : Int32} {o3 : Int32} {o4 : Int32} {o5 : Int32} {o6 : Int32} {o7 : Nat → Int32} {o8 : Nat → Int32} {o9 : Nat → Int32} (hP : rnP Q) (hcd : cdP Code_blocks Code_lines Code_first Code_firstGoal Code_secondGoal Code_op Code_set Code_left Code_leftNumber Code_right Code_rightNumber Q) (hgn : Machine_givens.toInt = (gn : Int)) (hin : ∀ i, i < gn → Machine_given i = inp i) (ha : 0 ≤ a2.toInt) (h : tr_Machine_perform2 a2 Machine_givens Code_blocks Code_lines Machine_given Machine_registers Machine_slots Machine_shows Code_first Code_firstGoal Code_secondGoal Code_op Code_set Code_left Code_leftNumber Code_right Code_rightNumber o1 o2 o3 o4 o5 o6 o7 o8 o9) : ∃ r, r = rn9 Q inp gn a2.toInt.toNat 0 in9 ∧ o6.toInt = r.1 ∧ o2 = r.2.1 ∧ o4.toInt = (r.2.2.1 : Int) ∧ ag8 r.2.2.2 o3 o5 o9 := by
  refine h (fun o1 o2 o3 o4 o5 o6 o7 o8 o9 => ∃ r, r = rn9 Q inp gn a2.toInt.toNat 0 in9 ∧ o6.toInt = r.1 ∧ o2 = r.2.1 ∧ o4.toInt = (r.2.2.1 : Int) ∧ ag8 r.2.2.2 o3 o5 o9) ?_ ?_
  · intro x1 x2 x3 x4 x5 x6 x7 x8 x9 x10 x11 h1 h2 h3 h4
    have q := (pfl_x2 hP hcd hgn hin h3).2 (by decide) rfl in9 0 a2.toInt.toNat (by decide) (by omega) ⟨hP.1.1, (hP.2.2.1 0 hP.1.1).1, (by show Int32.toInt 0 = (0 : Int); decide), by decide, ⟨by decide, by decide, fun i hi => absurd hi (Nat.not_lt_zero i)⟩, by decide, fun i hi => fz3_tr h1 i hi, fun i hi => fz3_tr h2 i hi⟩
    obtain ⟨y1, y2, y3, y4⟩ := q
    refine ⟨_, rfl, ?_, y2, y3, y4⟩
    omega
  · intro x1 x2 x3 x4 x5 x6 x7 x8 x9 x10 x11 h1 h2 h3 h4
    have q := (pfl_x2 hP hcd hgn hin h3).2 (by decide) rfl in9 0 a2.toInt.toNat (by decide) (by omega) ⟨hP.1.1, (hP.2.2.1 0 hP.1.1).1, (by show Int32.toInt 0 = (0 : Int); decide), by decide, ⟨by decide, by decide, fun i hi => absurd hi (Nat.not_lt_zero i)⟩, by decide, fun i hi => fz3_tr h1 i hi, fun i hi => fz3_tr h2 i hi⟩
    obtain ⟨y1, y2, y3, y4⟩ := q
    refine ⟨_, rfl, ?_, y2, y3, y4⟩
    have z4 : Int32.toInt 4 = 4 := by decide
    rcases y1 with ⟨y1, y1p⟩ | y1
    · omega
    · rw [z4]; exact y1.2.symm
end PFC
end
