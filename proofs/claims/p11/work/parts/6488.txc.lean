section TXC
variable {P : gPg} {B : Int → Int} {n : Int}
theorem lnO_B (h : lnO P) : lnO (pgB P) := fun b j hb hj => by
  have hb2 : b < P.1 + 1 := hb
  have hj2 : j < (if b = P.1 then 0 else P.2.1 b) := hj
  by_cases e : b = P.1
  · rw [if_pos e] at hj2; exact absurd hj2 (Nat.not_lt_zero j)
  · rw [if_neg e] at hj2; exact h b j (by omega) hj2
theorem lnO_L {a c d e f g : Int} (h : lnO P) : lnO (pgL P (mkL a c d e f g)) := fun b j hb hj => by
  have hb2 : b < P.1 := hb
  by_cases q : b + 1 = P.1
  · obtain ⟨e1, e2, e3, _⟩ := pgL_l (P := P) (l := mkL a c d e f g) q
    rw [e1] at hj
    by_cases z : j = P.2.1 b
    · rw [z, e3]; rfl
    · rw [e2 j (by omega)]; exact h b j hb2 (by omega)
  · obtain ⟨e1, e2, _⟩ := pgL_o (P := P) (l := mkL a c d e f g) q
    rw [e1] at hj
    rw [e2]; exact h b j hb2 hj
theorem lnO_G {g : Int} (h : lnO P) : lnO (pgG P g) := h
theorem lnO_st {s s' : gMs} {k v : Int} (h : lnO s.2.2.2.2.2.2.2) (hm : mst k v s = some s') : lnO s'.2.2.2.2.2.2.2 := by
  obtain ⟨du, st, lf, ln, op, rw, bk, P⟩ := s
  have h0 : lnO P := h
  have hl : ∀ (Q : gPg), lnO Q → ∀ s, mLine k v op rw bk Q = some s → lnO s.2.2.2.2.2.2.2 := fun Q hq s h => mLine_el (Q := fun s => lnO s.2.2.2.2.2.2.2) h hq hq hq hq (lnO_L hq)
  exact mst_el (Q := fun s => lnO s.2.2.2.2.2.2.2) hm (lnO_B h0) h0 (hl _ h0) h0 (lnO_L h0) h0 h0 (hl _ (lnO_L h0)) (lnO_L h0) (lnO_L h0) (lnO_L h0) (lnO_L h0) (lnO_G h0) (lnO_G h0)
theorem mrn_l : ∀ {i : Nat} {s : gMs}, mrn B n i = some s → lnO s.2.2.2.2.2.2.2
  | 0, s, h => by cases h; exact fun b j hb => absurd hb (Nat.not_lt_zero b)
  | i + 1, s, h => by
    obtain ⟨t, h1, h2⟩ := mrn_s h
    exact lnO_st (mrn_l h1) h2
/-- what holds of a program that was read -/
theorem okP_f (hB : bOk B n) (h : okP B n P) : lnO P ∧ P.1 ≤ 40 ∧ 0 < P.1 ∧ fsm P.2.1 P.1 ≤ 200 ∧ glO P ∧ ∀ b, b < P.1 → blC (P.2.1 b) (P.2.2.1 b) (P.2.2.2 b) := by
  obtain ⟨j, st, lf, ln, op, rw, h1, h2, h3⟩ := h
  have hl := mrn_l h1
  obtain ⟨⟨-, -, w3, -, w5, -, -, -, -, -, -, w12, w13, -⟩, -⟩ := mrn_w hB h1
  have w := w5 rfl
  refine ⟨hl, w.1, w3 (by decide), by omega, h3, fun b hb => ?_⟩
  by_cases e : b + 1 = P.1
  · exact w13 rfl b e
  · exact w12 b (by omega)
theorem okP_u {Q : gPg} (h : okP B n P) (h2 : okP B n Q) : P = Q := by
  obtain ⟨j, _, _, _, _, _, h1, hf, _⟩ := h
  obtain ⟨i, _, _, _, _, _, g1, gf, _⟩ := h2
  have e := fin_u h1 hf g1 gf
  rw [e, h1] at g1
  cases g1
  rfl
theorem cut0 {n x : Int32} (hn : 0 ≤ n.toInt) (h : tr_Tape_cutTo 0 n x) : x.toInt = 0 := by
  refine h (fun x => x.toInt = 0) ?_
  · intro x1 x2 h1 h2
    have z := px_0
    omega
theorem tx_tr {Tape_size : Int32} {Reader_op : Int32} {Reader_set : Int32} {Reader_left : Int32} {Reader_leftNumber : Int32} {Giver_names : Int32} {Giver_slots : Int32} {Giver_sharedSlots : Int32} {Giver_spilled : Int32} {Giver_merged : Int32} {Giver_isDone : Int32} {Tape_bytes : Nat → Int32} {Reader_goalPlaces : Nat → Int32} {Code_first : Nat → Int32} {Code_firstGoal : Nat → Int32} {Code_secondGoal : Nat → Int32} {Code_op : Nat → Int32} {Code_set : Nat → Int32} {Code_left : Nat → Int32} {Code_leftNumber : Nat → Int32} {Code_right : Nat → Int32} {Code_rightNumber : Nat → Int32} {Loops_goals : Nat → Int64} {Loops_sources : Nat → Int64} {Loops_depth : Nat → Int32} {Graph_names : Int32} {Graph_words : Int32} {Giver_firstWeight : Nat → Int32} {Giver_firstDegree : Nat → Int32} {Giver_liveBefore : Nat → Int32} {Giver_slotOf : Nat → Int32} {Code_blocks : Int32} {Code_lines : Int32} {Code_isFull : Int32} {Live_names : Int32} {Live_words : Int32} {Live_ofSlots : Int32} {Graph_joined : Nat → Int64} {Graph_standing : Nat → Int64} {Graph_degree : Nat → Int32} {Colouring_weight : Nat → Int32} {Code_first2 : Nat → Int32} {Code_firstGoal2 : Nat → Int32} {Code_secondGoal2 : Nat → Int32} {Code_op2 : Nat → Int32} {Code_set2 : Nat → Int32} {Code_left2 : Nat → Int32} {Code_leftNumber2 : Nat → Int32} {Code_right2 : Nat → Int32} {Code_rightNumber2 : Nat → Int32} {Live_in : Nat → Int64} {Live_used : Nat → Int64} {Live_set : Nat → Int64} {Live_now : Nat → Int64} {o1 : Int32} {o2 : Int32} {o3 : Int32} {o4 : Int32} {o5 : Int32} {o6 : Int32} {o7 : Int64} {o8 : Int32} {o9 : Int32} {o10 : Int32} {o11 : Int32} {o12 : Int32} {o13 : Int32} {o14 : Int32} {o15 : Int32} {o16 : Int32} {o17 : Int32} {o18 : Int32} {o19 : Int32} {o20 : Int32} {o21 : Nat → Int32} {o22 : Nat → Int32} {o23 : Nat → Int32} {o24 : Nat → Int32} {o25 : Nat → Int32} {o26 : Nat → Int32} {o27 : Nat → Int32} {o28 : Nat → Int32} {o29 : Nat → Int32} {o30 : Nat → Int32} {o31 : Int32} {o32 : Int32} {o33 : Int32} {o34 : Int32} {o35 : Int32} {o36 : Int32} {o37 : Nat → Int64} {o38 : Nat → Int64} {o39 : Nat → Int32} {o40 : Int32} {o41 : Int32} {o42 : Nat → Int32} {o43 : Nat → Int32} {o44 : Nat → Int32} {o45 : Nat → Int32} {o46 : Int32} {o47 : Int32} {o48 : Int32} {o49 : Int32} {o50 : Int32} {o51 : Int32} {o52 : Nat → Int64} {o53 : Nat → Int64} {o54 : Nat → Int32} {o55 : Nat → Int32} {o56 : Nat → Int32} {o57 : Nat → Int32} {o58 : Nat → Int32} {o59 : Nat → Int32} {o60 : Nat → Int32} {o61 : Nat → Int32} {o62 : Nat → Int32} {o63 : Nat → Int32} {o64 : Nat → Int32} {o65 : Nat → Int64} {o66 : Nat → Int64} {o67 : Nat → Int64} {o68 : Nat → Int64} (hn : 0 ≤ Tape_size.toInt) (hn2 : Tape_size.toInt ≤ 8192) (h : tr_SpillForge_text Tape_size Reader_op Reader_set Reader_left Reader_leftNumber Giver_names Giver_slots Giver_sharedSlots Giver_spilled Giver_merged Giver_isDone Tape_bytes Reader_goalPlaces Code_first Code_firstGoal Code_secondGoal Code_op Code_set Code_left Code_leftNumber Code_right Code_rightNumber Loops_goals Loops_sources Loops_depth Graph_names Graph_words Giver_firstWeight Giver_firstDegree Giver_liveBefore Giver_slotOf Code_blocks Code_lines Code_isFull Live_names Live_words Live_ofSlots Graph_joined Graph_standing Graph_degree Colouring_weight Code_first2 Code_firstGoal2 Code_secondGoal2 Code_op2 Code_set2 Code_left2 Code_leftNumber2 Code_right2 Code_rightNumber2 Live_in Live_used Live_set Live_now o1 o2 o3 o4 o5 o6 o7 o8 o9 o10 o11 o12 o13 o14 o15 o16 o17 o18 o19 o20 o21 o22 o23 o24 o25 o26 o27 o28 o29 o30 o31 o32 o33 o34 o35 o36 o37 o38 o39 o40 o41 o42 o43 o44 o45 o46 o47 o48 o49 o50 o51 o52 o53 o54 o55 o56 o57 o58 o59 o60 o61 o62 o63 o64 o65 o66 o67 o68) : o3.toInt = 0 ∧ ((o2.toInt = 1 ∧ o1.toInt = -1 ∧ ∃ P, okP (bA Tape_bytes Tape_size.toInt) Tape_size.toInt P ∧ cdP o14 o15 o22 o23 o24 o25 o26 o27 o28 o29 o30 P ∧ lkS P o39 o42 o43 o44) ∨ (o2.toInt = 0 ∧ 0 ≤ o1.toInt ∧ ∀ P, ¬ okP (bA Tape_bytes Tape_size.toInt) Tape_size.toInt P)) := by
  have hB := bOk_bA (f := Tape_bytes) hn
  refine h (fun o1 o2 o3 o4 o5 o6 o7 o8 o9 o10 o11 o12 o13 o14 o15 o16 o17 o18 o19 o20 o21 o22 o23 o24 o25 o26 o27 o28 o29 o30 o31 o32 o33 o34 o35 o36 o37 o38 o39 o40 o41 o42 o43 o44 o45 o46 o47 o48 o49 o50 o51 o52 o53 o54 o55 o56 o57 o58 o59 o60 o61 o62 o63 o64 o65 o66 o67 o68 => o3.toInt = 0 ∧ ((o2.toInt = 1 ∧ o1.toInt = -1 ∧ ∃ P, okP (bA Tape_bytes Tape_size.toInt) Tape_size.toInt P ∧ cdP o14 o15 o22 o23 o24 o25 o26 o27 o28 o29 o30 P ∧ lkS P o39 o42 o43 o44) ∨ (o2.toInt = 0 ∧ 0 ≤ o1.toInt ∧ ∀ P, ¬ okP (bA Tape_bytes Tape_size.toInt) Tape_size.toInt P))) ?_ ?_
  · intro x1 x2 x3 x4 x5 x6 x7 x8 x9 x10 x11 x12 x13 x14 x15 x16 x17 x18 x19 x20 x21 x22 x23 x24 x25 x26 x27 x28 x29 h1 h2 h3 h4 h5 h6 h7 h8 h9 h10
    have z := cut0 hn h9
    have r := rI_tr hn hn2 h7
    refine ⟨z, ?_⟩
    rcases r with ⟨r1, -⟩ | ⟨r1, r2⟩
    · exact absurd r1 h10
    · exact Or.inr ⟨px_0, r1, r2⟩
  · intro x1 x2 x3 x4 x5 x6 x7 x8 x9 x10 x11 x12 x13 x14 x15 x16 x17 x18 x19 x20 x21 x22 x23 x24 x25 x26 x27 x28 x29 x30 x31 x32 x33 x34 x35 x36 x37 x38 x39 x40 x41 x42 x43 x44 x45 x46 x47 x48 x49 x50 x51 x52 x53 x54 x55 x56 x57 x58 x59 x60 x61 x62 x63 x64 x65 x66 x67 h1 h2 h3 h4 h5 h6 h7 h8 h9 h10 h11 h12 h13 h14 h15 h16 h17 h18 h19 h20 h21 h22 h23 h24 h25 h26
    have z := cut0 hn h9
    have r := rI_tr hn hn2 h7
    refine ⟨z, ?_⟩
    rcases r with ⟨r1, P, r2, r3⟩ | ⟨r1, -⟩
    · obtain ⟨k1, k2, k3, k4, k5, k6⟩ := okP_f hB r2
      have dp := lo_tr r3.1 k2 (fun b hb => (r3.2.2.1 b hb).2) k5 h11
      exact Or.inl ⟨px_1, r1, P, r2, r3, sv_tr r3 k1 k2 k3 k4 (fun b hb => dp b (by omega)) h26⟩
    · omega
theorem stf_1 {a : Int32} {f : Nat → Int32} (h : tr_Giver_stoodFirst a f 1) : ∃ m : Nat, a.toInt = (m : Int) ∧ m < 100 ∧ (f m).toInt ≠ -1 := by
  have q : (1 : Int32).toInt = 1 → ∃ m : Nat, a.toInt = (m : Int) ∧ m < 100 ∧ (f m).toInt ≠ -1 := by
    refine h (fun r => r.toInt = 1 → ∃ m : Nat, a.toInt = (m : Int) ∧ m < 100 ∧ (f m).toInt ≠ -1) ?_ ?_ ?_ ?_
    · intro h1
      exact fun z => absurd z (by decide)
    · intro h1 h2
      exact fun z => absurd z (by decide)
    · intro x1 h1 h2 h3 h4
      exact fun z => absurd z (by decide)
    · intro x1 h1 h2 h3 h4
      intro _
      have em : a.toInt = ((a.toInt.toNat : Nat) : Int) := (Int.toNat_of_nonneg h1).symm
      rw [nnE em] at h3
      exact ⟨a.toInt.toNat, em, by omega, by rw [← h3]; exact h4⟩
  exact q (by decide)
theorem fwt_tr {a r : Int32} {f : Nat → Int32} {m : Nat} (h : tr_Giver_firstWeight a f r) (ha : a.toInt = (m : Int)) (hm : m < 100) : r = f m := by
  refine h (fun r => r = f m) ?_ ?_ ?_
  · intro h1
    omega
  · intro h1 h2
    omega
  · intro x1 h1 h2 h3
    rw [nnE ha] at h3; exact h3
theorem fdg_tr {a r : Int32} {f : Nat → Int32} {m : Nat} (h : tr_Giver_firstDegree a f r) (ha : a.toInt = (m : Int)) (hm : m < 100) : r = f m := by
  refine h (fun r => r = f m) ?_ ?_ ?_
  · intro h1
    omega
  · intro h1 h2
    omega
  · intro x1 h1 h2 h3
    rw [nnE ha] at h3; exact h3
theorem lvb_tr {a r : Int32} {f : Nat → Int32} {m : Nat} (h : tr_Giver_liveBefore a f r) (ha : a.toInt = (m : Int)) (hm : m < 40) : r = f m := by
  refine h (fun r => r = f m) ?_ ?_ ?_
  · intro h1
    omega
  · intro h1 h2
    omega
  · intro x1 h1 h2 h3
    rw [nnE ha] at h3; exact h3
theorem lk_c {a1 : Int32} {a2 : Int32} {SpillForge_hasProgram : Int32} {Code_blocks : Int32} {Loops_depth : Nat → Int32} {Giver_firstWeight : Nat → Int32} {Giver_firstDegree : Nat → Int32} {Giver_liveBefore : Nat → Int32} {o1 : Int32} (hb : Code_blocks.toInt = (P.1 : Int)) (h40 : P.1 ≤ 40) (hk : lkS P Loops_depth Giver_firstWeight Giver_firstDegree Giver_liveBefore) (h : tr_SpillForge_look a1 a2 SpillForge_hasProgram Code_blocks Loops_depth Giver_firstWeight Giver_firstDegree Giver_liveBefore o1) : (a2.toInt = 0 ∧ ∃ v : Nat, a1.toInt = (v : Int) ∧ v < 100 ∧ Sd (pgZ P) false 100 v ∧ o1 = wPg (pgZ P) (dpt P) v P.1) ∨ (a2.toInt = 1 ∧ ∃ v : Nat, a1.toInt = (v : Int) ∧ v < 100 ∧ Sd (pgZ P) false 100 v ∧ isD (Jn (pgZ P) false 100 v) 2 o1.toInt) ∨ (a2.toInt = 2 ∧ ∃ b : Nat, a1.toInt = (b : Int) ∧ b < P.1 ∧ isD (fun v => v < 100 ∧ Lv P false v b 0) 2 o1.toInt) ∨ (a2.toInt = 3 ∧ ∃ b : Nat, a1.toInt = (b : Int) ∧ b < P.1 ∧ o1.toInt = (dpt P b : Int)) := by
  obtain ⟨k1, k2, k3⟩ := hk
  refine h (fun o1 => (a2.toInt = 0 ∧ ∃ v : Nat, a1.toInt = (v : Int) ∧ v < 100 ∧ Sd (pgZ P) false 100 v ∧ o1 = wPg (pgZ P) (dpt P) v P.1) ∨ (a2.toInt = 1 ∧ ∃ v : Nat, a1.toInt = (v : Int) ∧ v < 100 ∧ Sd (pgZ P) false 100 v ∧ isD (Jn (pgZ P) false 100 v) 2 o1.toInt) ∨ (a2.toInt = 2 ∧ ∃ b : Nat, a1.toInt = (b : Int) ∧ b < P.1 ∧ isD (fun v => v < 100 ∧ Lv P false v b 0) 2 o1.toInt) ∨ (a2.toInt = 3 ∧ ∃ b : Nat, a1.toInt = (b : Int) ∧ b < P.1 ∧ o1.toInt = (dpt P b : Int))) ?_ ?_ ?_ ?_ ?_ ?_ ?_ ?_ ?_ ?_
  · intro x1 h1 h2 h3 h4 h5 h6 h7 h8
    omega
  · intro x1 h1 h2 h3 h4 h5 h6 h7 h8
    omega
  · intro x1 h1 h2 h3 h4 h5 h6 h7 h8
    have em : a1.toInt = ((a1.toInt.toNat : Nat) : Int) := (Int.toNat_of_nonneg h5).symm
    have hbb : a1.toInt.toNat < P.1 := by omega
    exact Or.inr (Or.inr (Or.inl ⟨h7, a1.toInt.toNat, em, hbb, by rw [lvb_tr h8 em (by omega)]; exact k2 _ hbb⟩))
  · intro x1 h1 h2 h3 h4 h5 h6 h7 h8 h9 h10
    have em : a1.toInt = ((a1.toInt.toNat : Nat) : Int) := (Int.toNat_of_nonneg h5).symm
    have hbb : a1.toInt.toNat < P.1 := by omega
    exact Or.inr (Or.inr (Or.inr ⟨by omega, a1.toInt.toNat, em, hbb, by rw [ld_tr h10 em (by omega)]; exact k1 _ hbb⟩))
  · intro x1 h1 h2 h3 h4 h5 h6 h7
    obtain ⟨m, s1, s2, s3⟩ := stf_1 h5
    obtain ⟨f1, f2, f3⟩ := k3 m s2
    have sd : Sd (pgZ P) false 100 m := Classical.byContradiction (fun z => s3 (by rw [f3 z]; exact px_m1))
    exact Or.inl ⟨h6, m, s1, s2, sd, (fwt_tr h7 s1 s2).trans f1⟩
  · intro x1 h1 h2 h3 h4 h5 h6 h7
    obtain ⟨m, s1, s2, s3⟩ := stf_1 h5
    obtain ⟨f1, f2, f3⟩ := k3 m s2
    have sd : Sd (pgZ P) false 100 m := Classical.byContradiction (fun z => s3 (by rw [f3 z]; exact px_m1))
    exact Or.inr (Or.inl ⟨h6, m, s1, s2, sd, by rw [fdg_tr h7 s1 s2]; exact f2 sd⟩)
  · intro h1 h2 h3 h4 h5 h6 h7
    omega
  · intro x1 h1 h2 h3 h4 h5 h6 h7
    omega
  · intro h1 h2 h3 h4 h5 h6 h7 h8 h9
    omega
  · intro x1 h1 h2 h3 h4 h5 h6 h7 h8 h9
    omega
end TXC
