/-! runs of the class -/
section PFC
variable {Q : gPg} {inp : Nat → Int32} {gn : Nat} {s : gM9} {x n : Int}
theorem ht_x {a1 o1 : Int32} (h : tr_Machine_halt a1 o1) : o1 = a1 := by
  refine h (fun o1 => o1 = a1) ?_
  · skip
    rfl
theorem vo_x {a1 a2 o1 : Int32} {rg rg2 : Nat → Int32} (hx : a1.toInt = x) (hn : a2.toInt = n) (h0 : -1 ≤ x) (h1 : x ≤ 99) (hr : ∀ i, i < 100 → rg i = rg2 i) (h : tr_Machine_valueOf a1 a2 rg o1) : o1 = mvl rg2 x n := by
  unfold mvl
  refine h (fun o1 => o1 = if 0 ≤ x then rg2 x.toNat else Int32.ofInt n) ?_ ?_ ?_
  · intro h1
    rw [if_neg (show ¬ 0 ≤ x by omega), ← hn]; exact (Int32.ofInt_toInt a2).symm
  · intro h1 h2
    omega
  · intro x1 h1 h2 h3
    rw [if_pos (show 0 ≤ x by omega), h3, nnE (show a1.toInt = ((x.toNat : Nat) : Int) by omega)]; exact hr _ (by omega)
theorem pt_x {a1 a2 : Int32} {p o1 : Nat → Int32} (hx : a1.toInt = x) (h0 : 0 ≤ x) (h1 : x ≤ 99) (h : tr_Machine_put a1 a2 p o1) : o1 = upd p x.toNat a2 := by
  refine h (fun o1 => o1 = upd p x.toNat a2) ?_ ?_ ?_
  · intro h1
    omega
  · intro h1 h2
    omega
  · intro x1 h1 h2 h3
    rw [h3, nnE (show a1.toInt = ((x.toNat : Nat) : Int) by omega)]
theorem sa_x {a1 o1 : Int32} {sl sl2 : Nat → Int32} (hx : a1.toInt = x) (h0 : 0 ≤ x) (h1 : x ≤ 99) (hr : ∀ i, i < 100 → sl i = sl2 i) (h : tr_Machine_slotAt a1 sl o1) : o1 = sl2 x.toNat := by
  refine h (fun o1 => o1 = sl2 x.toNat) ?_ ?_ ?_
  · intro h1
    omega
  · intro h1 h2
    omega
  · intro x1 h1 h2 h3
    rw [h3, nnE (show a1.toInt = ((x.toNat : Nat) : Int) by omega)]; exact hr _ (by omega)
theorem tn_x {gv tk o1 o2 : Int32} {gi : Nat → Int32} {t : Nat} (hg : gv.toInt = (gn : Int)) (ht : tk.toInt = (t : Int)) (hi : ∀ i, i < gn → gi i = inp i) (h : tr_Machine_takeNext gv tk gi o1 o2) : o1 = tk9 inp gn t ∧ o2.toInt = (tn9 gn t : Int) := by
  unfold tk9 tn9
  refine h (fun o1 o2 => o1 = (if t < gn then inp t else 0) ∧ o2.toInt = ((if t < gn then t + 1 else t : Nat) : Int)) ?_ ?_
  · intro x1 x2 x3 h1 h2 h3 h4
    have c : t < gn := by omega
    rw [if_pos c, if_pos c, h4, nnE (show x2.toInt = (t : Int) by omega)]
    exact ⟨hi t c, by omega⟩
  · intro h1
    have c : ¬ t < gn := by omega
    rw [if_neg c, if_neg c]
    exact ⟨rfl, ht⟩
theorem as_x {a1 sc o1 o2 : Int32} {sh o3 : Nat → Int32} (h : tr_Machine_addShow a1 sc sh o1 o2 o3) : (sc.toInt < 512 ∧ o1.toInt ≠ 0 ∧ o2.toInt = sc.toInt + 1 ∧ o3 = upd sh sc.toNatClampNeg a1) ∨ (512 ≤ sc.toInt ∧ o1.toInt = 0 ∧ o2 = sc ∧ o3 = sh) := by
  refine h (fun o1 o2 o3 => (sc.toInt < 512 ∧ o1.toInt ≠ 0 ∧ o2.toInt = sc.toInt + 1 ∧ o3 = upd sh sc.toNatClampNeg a1) ∨ (512 ≤ sc.toInt ∧ o1.toInt = 0 ∧ o2 = sc ∧ o3 = sh)) ?_ ?_
  · intro x1 x2 h1 h2 h3
    exact Or.inl ⟨h1, by decide, h3, h2⟩
  · intro h1
    exact Or.inr ⟨h1, by decide, rfl, rfl⟩
theorem ca_x {a0 a1 a2 o1 : Int32} (h0 : 0 ≤ a0.toInt) (h13 : a0.toInt ≤ 13) (hz : ¬ ((a0.toInt = 3 ∨ a0.toInt = 4) ∧ a2.toInt = 0)) (h : tr_Machine_calculate a0 a1 a2 o1) : o1 = clc a0.toInt a1 a2 := by
  refine h (fun o1 => o1 = clc a0.toInt a1 a2) ?_ ?_ ?_ ?_ ?_ ?_ ?_ ?_ ?_ ?_ ?_ ?_ ?_ ?_ ?_ ?_ ?_ ?_ ?_ ?_ ?_
  · intro x1 h1 h2
    rw [h1, h2]
    rfl
  · intro x1 h1 h2
    rw [h1, h2]
    rfl
  · intro x1 h1 h2
    rw [h1, h2]
    rfl
  · intro x1 h1 h2 h3
    rw [h1, h3]
    rfl
  · intro h1 h2
    exact absurd ⟨by omega, h2⟩ hz
  · intro x1 h1 h2 h3
    rw [h1, h3]
    rfl
  · intro h1 h2
    exact absurd ⟨by omega, h2⟩ hz
  · intro x1 h1 h2
    rw [h1, h2]
    rfl
  · intro x1 h1 h2
    rw [h1, h2]
    rfl
  · intro x1 h1 h2
    rw [h1, h2]
    rfl
  · intro x1 h1 h2
    rw [h1, h2]
    rfl
  · intro x1 h1 h2
    rw [h1, h2]
    rfl
  · intro h1 h2
    rw [h1]
    show _ = if a1.toInt < a2.toInt then (1 : Int32) else 0
    exact (if_neg (show ¬ a1.toInt < a2.toInt by omega)).symm
  · intro h1 h2
    rw [h1]
    show _ = if a1.toInt < a2.toInt then (1 : Int32) else 0
    exact (if_pos (show a1.toInt < a2.toInt by omega)).symm
  · intro h1 h2
    rw [h1]
    show _ = if a1.toInt ≤ a2.toInt then (1 : Int32) else 0
    exact (if_neg (show ¬ a1.toInt ≤ a2.toInt by omega)).symm
  · intro h1 h2
    rw [h1]
    show _ = if a1.toInt ≤ a2.toInt then (1 : Int32) else 0
    exact (if_pos (show a1.toInt ≤ a2.toInt by omega)).symm
  · intro h1 h2
    rw [h1]
    show _ = if a1.toInt = a2.toInt then (1 : Int32) else 0
    exact (if_neg (show ¬ a1.toInt = a2.toInt by omega)).symm
  · intro h1 h2
    rw [h1]
    show _ = if a1.toInt = a2.toInt then (1 : Int32) else 0
    exact (if_pos (show a1.toInt = a2.toInt by omega)).symm
  · intro h1 h2
    rw [h1]
    show _ = if a1.toInt = a2.toInt then (0 : Int32) else 1
    exact (if_pos (show a1.toInt = a2.toInt by omega)).symm
  · intro h1 h2
    rw [h1]
    show _ = if a1.toInt = a2.toInt then (0 : Int32) else 1
    exact (if_neg (show ¬ a1.toInt = a2.toInt by omega)).symm
  · intro h1 h2 h3 h4 h5 h6 h7 h8 h9 h10 h11 h12 h13 h14
    omega
theorem en_x {a2 : Int32} {Machine_block : Int32} {Machine_ending : Int32} {Code_blocks : Int32} {Code_first : Nat → Int32} {o1 : Int32} {o2 : Int32} {o3 : Int32} {g : Nat} (hb : Code_blocks.toInt = (Q.1 : Int)) (ha : a2.toInt = (g : Int)) (hg : g < Q.1) (hf : (Code_first g).toInt = (fsm Q.2.1 g : Int)) (h : tr_Machine_enter a2 Machine_block Machine_ending Code_blocks Code_first o1 o2 o3) : o1.toInt = (fsm Q.2.1 g : Int) ∧ o2 = Machine_ending ∧ o3.toInt = (g : Int) := by
  refine h (fun o1 o2 o3 => o1.toInt = (fsm Q.2.1 g : Int) ∧ o2 = Machine_ending ∧ o3.toInt = (g : Int)) ?_ ?_ ?_
  · intro x1 h1 h2
    omega
  · intro x1 h1 h2 h3 h4
    refine ⟨?_, rfl, ha⟩
    rw [h3, nnE ha]; exact hf
  · intro x1 h1 h2 h3
    omega
set_option maxHeartbeats 4000000 in
theorem stp_x {a2 : Int32} {Machine_givens : Int32} {Machine_block : Int32} {Machine_answer : Int32} {Machine_showCount : Int32} {Machine_taken : Int32} {Machine_ending : Int32} {Code_blocks : Int32} {Machine_given : Nat → Int32} {Machine_registers : Nat → Int32} {Machine_slots : Nat → Int32} {Machine_shows : Nat → Int32} {Code_first : Nat → Int32} {Code_firstGoal : Nat → Int32} {Code_secondGoal : Nat → Int32} {Code_op : Nat → Int32} {Code_set : Nat → Int32} {Code_left : Nat → Int32} {Code_leftNumber : Nat → Int32} {Code_right : Nat → Int32} {Code_rightNumber : Nat → Int32} {o1 : Int32} {o2 : Nat → Int32} {o3 : Int32} {o4 : Int32} {o5 : Int32} {o6 : Nat → Int32} {o7 : Nat → Int32} {o8 : Int32} {o9 : Int32} {Code_lines : Int32} (hP : rnP Q) (hcd : cdP Code_blocks Code_lines Code_first Code_firstGoal Code_secondGoal Code_op Code_set Code_left Code_leftNumber Code_right Code_rightNumber Q) (hgn : Machine_givens.toInt = (gn : Int)) (hin : ∀ i, i < gn → Machine_given i = inp i) (hag : ag9 Q s a2 Machine_block Machine_showCount Machine_taken Machine_shows Machine_registers Machine_slots) (hen : Machine_ending.toInt = -2) (han : Machine_answer = 0) (h : tr_Machine_step a2 Machine_givens Machine_block Machine_answer Machine_showCount Machine_taken Machine_ending Code_blocks Machine_given Machine_registers Machine_slots Machine_shows Code_first Code_firstGoal Code_secondGoal Code_op Code_set Code_left Code_leftNumber Code_right Code_rightNumber o1 o2 o3 o4 o5 o6 o7 o8 o9) : sc9 Q inp gn s o1 o2 o3 o4 o5 o6 o7 o8 o9 := by
  obtain ⟨g1, g2, g3, g4, g5, g6, g7, g8⟩ := id hag
  obtain ⟨c0, c1, c2, c3, c4, c5⟩ := hcd.2.2.2 s.1 s.2.1 g1 g2
  rw [← nnE g3] at c0 c1 c2 c3 c4 c5
  refine h (fun o1 o2 o3 o4 o5 o6 o7 o8 o9 => sc9 Q inp gn s o1 o2 o3 o4 o5 o6 o7 o8 o9) ?_ ?_ ?_ ?_ ?_ ?_ ?_ ?_ ?_ ?_ ?_ ?_ ?_ ?_ ?_ ?_ ?_ ?_ ?_ ?_ ?_ ?_ ?_ ?_ ?_ ?_ ?_ ?_ ?_ ?_ ?_ ?_ ?_ ?_ ?_ ?_ ?_ ?_
  · intro x1 x2 x3 x4 x5 x6 h1 h2 h3 h4 h5 h6 h7 h8 h9
    have e0 : x1.toInt = Q.2.2.1 s.1 s.2.1 0 := by rw [h1]; exact c0
    have eo : Q.2.2.1 s.1 s.2.1 0 = 14 := by omega
    have hr := rn_r hP g1 g2 (by omega)
    obtain ⟨hj, r0, r2, r4, r1, r5⟩ := hr
    have v : x3 = va9 Q s := vo_x (by rw [h3]; exact c2) (by rw [h4]; exact c3) r2.1 r2.2 g7 h5
    have p := pt_x (by rw [h7]; exact c1) (r1 (by omega)).1 (r1 (by omega)).2 h8
    exact Or.inl ⟨_, st9_14 eo, ag_rw hag hj h9 (by rw [p, v]), hen, han⟩
  · intro x1 x2 x3 x4 x5 x6 x7 x8 h1 h2 h3 h4 h5 h6 h7 h8 h9 h10 h11
    have e0 : x1.toInt = Q.2.2.1 s.1 s.2.1 0 := by rw [h1]; exact c0
    have eo : Q.2.2.1 s.1 s.2.1 0 = 15 := by omega
    have hr := rn_r hP g1 g2 (by omega)
    obtain ⟨hj, r0, r2, r4, r1, r5⟩ := hr
    obtain ⟨t1, t2⟩ := tn_x hgn g5.2.1 hin h9
    have p := pt_x (by rw [h7]; exact c1) (r1 (by omega)).1 (r1 (by omega)).2 h10
    exact Or.inl ⟨_, st9_15 eo, ag_tk hag hj h11 (by rw [p, t1]) t2, hen, han⟩
  · intro x1 x2 x3 x4 x5 x6 x7 h1 h2 h3 h4 h5 h6 h7 h8 h9 h10 h11
    have e0 : x1.toInt = Q.2.2.1 s.1 s.2.1 0 := by rw [h1]; exact c0
    have eo : Q.2.2.1 s.1 s.2.1 0 = 16 := by omega
    have hr := rn_r hP g1 g2 (by omega)
    obtain ⟨hj, r0, r2, r4, r1, r5⟩ := hr
    have v : x3 = va9 Q s := vo_x (by rw [h3]; exact c2) (by rw [h4]; exact c3) r2.1 r2.2 g7 h5
    rcases as_x h9 with ⟨w1, w2, w3, w4⟩ | ⟨w1, w2, w3, w4⟩
    · exact absurd h10 w2
    · refine Or.inr ⟨5, 0, s, st9_16x eo (by have := g5.1; omega), by rw [ht_x h11]; decide, by decide, han, ?_⟩
      rw [w3, w4]; exact g5
  · intro x1 x2 x3 x4 x5 x6 x7 h1 h2 h3 h4 h5 h6 h7 h8 h9 h10 h11
    have e0 : x1.toInt = Q.2.2.1 s.1 s.2.1 0 := by rw [h1]; exact c0
    have eo : Q.2.2.1 s.1 s.2.1 0 = 16 := by omega
    have hr := rn_r hP g1 g2 (by omega)
    obtain ⟨hj, r0, r2, r4, r1, r5⟩ := hr
    have v : x3 = va9 Q s := vo_x (by rw [h3]; exact c2) (by rw [h4]; exact c3) r2.1 r2.2 g7 h5
    rcases as_x h9 with ⟨w1, w2, w3, w4⟩ | ⟨w1, w2, w3, w4⟩
    · have hlt : s.2.2.2.2.2.1 < 512 := by have := g5.1; omega
      exact Or.inl ⟨_, st9_16 eo hlt, ag_sw hag hj hlt h11 w3 (by rw [w4, v]), hen, han⟩
    · exact absurd w2 h10
  · intro x1 x2 x3 x4 x5 x6 x7 h1 h2 h3 h4 h5 h6 h7 h8 h9 h10 h11
    have e0 : x1.toInt = Q.2.2.1 s.1 s.2.1 0 := by rw [h1]; exact c0
    have eo : Q.2.2.1 s.1 s.2.1 0 = 17 := by omega
    have hr := rn_r hP g1 g2 (by omega)
    obtain ⟨hj, r0, r2, r4, r1, r5⟩ := hr
    have t := sa_x (by rw [h8]; exact c5) (r5 (by omega)).1 (r5 (by omega)).2 g8 h9
    have p := pt_x (by rw [h7]; exact c1) (r1 (by omega)).1 (r1 (by omega)).2 h10
    exact Or.inl ⟨_, st9_17 eo, ag_rw hag hj h11 (by rw [p, t]), hen, han⟩
  · intro x1 x2 x3 x4 x5 x6 x7 x8 h1 h2 h3 h4 h5 h6 h7 h8 h9 h10 h11
    have e0 : x1.toInt = Q.2.2.1 s.1 s.2.1 0 := by rw [h1]; exact c0
    have eo : Q.2.2.1 s.1 s.2.1 0 = 17 := by omega
    have hr := rn_r hP g1 g2 (by omega)
    obtain ⟨hj, r0, r2, r4, r1, r5⟩ := hr
    have t := sa_x (by rw [h8]; exact c5) (r5 (by omega)).1 (r5 (by omega)).2 g8 h9
    have p := pt_x (by rw [h7]; exact c1) (r1 (by omega)).1 (r1 (by omega)).2 h10
    exact Or.inl ⟨_, st9_17 eo, ag_rw hag hj h11 (by rw [p, t]), hen, han⟩
  · intro x1 x2 x3 x4 x5 x6 h1 h2 h3 h4 h5 h6 h7 h8 h9
    have e0 : x1.toInt = Q.2.2.1 s.1 s.2.1 0 := by rw [h1]; exact c0
    have eo : Q.2.2.1 s.1 s.2.1 0 = 18 := by omega
    have hr := rn_r hP g1 g2 (by omega)
    obtain ⟨hj, r0, r2, r4, r1, r5⟩ := hr
    have v : x3 = va9 Q s := vo_x (by rw [h3]; exact c2) (by rw [h4]; exact c3) r2.1 r2.2 g7 h5
    have p := pt_x (by rw [h7]; exact c5) (r5 (by omega)).1 (r5 (by omega)).2 h8
    exact Or.inl ⟨_, st9_18 eo, ag_st hag hj h9 (by rw [p, v]), hen, han⟩
  · intro x1 x2 x3 x4 x5 x6 x7 h1 h2 h3 h4 h5 h6 h7 h8 h9 h10
    have e0 : x1.toInt = Q.2.2.1 s.1 s.2.1 0 := by rw [h1]; exact c0
    have eo : Q.2.2.1 s.1 s.2.1 0 = 19 := by omega
    obtain ⟨⟨d1, d2, d4, d5⟩, dg⟩ := rn_e hP g1 g2 (by omega)
    obtain ⟨g, y1, y2, y3⟩ := rn_g (i := 0) hP g1 (by decide) (by unfold edG at dg; omega)
    have eg : x4.toInt = (g : Int) := by rw [h7, nnE g4, ← y1]; exact (hcd.2.2.1 s.1 g1).2.1
    obtain ⟨z1, z2, z3⟩ := en_x hcd.1 eg y2 (hcd.2.2.1 g y2).1 h10
    exact Or.inl ⟨_, st9_19 eo, ag_go hag y1 y2 y3 z1 z3, by rw [z2]; exact hen, han⟩
  · intro x1 x2 x3 x4 x5 x6 x7 h1 h2 h3 h4 h5 h6 h7 h8 h9 h10 h11
    have e0 : x1.toInt = Q.2.2.1 s.1 s.2.1 0 := by rw [h1]; exact c0
    have eo : Q.2.2.1 s.1 s.2.1 0 = 20 := by omega
    obtain ⟨⟨d1, d2, d4, d5⟩, dg⟩ := rn_e hP g1 g2 (by omega)
    have v : x3 = va9 Q s := vo_x (by rw [h3]; exact c2) (by rw [h4]; exact c3) d2.1 d2.2 g7 h5
    obtain ⟨g, y1, y2, y3⟩ := rn_g (i := 1) hP g1 (by decide) (by unfold edG at dg; omega)
    have eg : x4.toInt = (g : Int) := by rw [h8, nnE g4, ← y1]; exact (hcd.2.2.1 s.1 g1).2.2
    obtain ⟨z1, z2, z3⟩ := en_x hcd.1 eg y2 (hcd.2.2.1 g y2).1 h11
    rw [v] at h7
    refine Or.inl ⟨_, st9_20 eo, ?_, by rw [z2]; exact hen, han⟩
    rw [if_pos h7]
    exact ag_go hag y1 y2 y3 z1 z3
  · intro x1 x2 x3 x4 x5 x6 x7 h1 h2 h3 h4 h5 h6 h7 h8 h9 h10 h11
    have e0 : x1.toInt = Q.2.2.1 s.1 s.2.1 0 := by rw [h1]; exact c0
    have eo : Q.2.2.1 s.1 s.2.1 0 = 20 := by omega
    obtain ⟨⟨d1, d2, d4, d5⟩, dg⟩ := rn_e hP g1 g2 (by omega)
    have v : x3 = va9 Q s := vo_x (by rw [h3]; exact c2) (by rw [h4]; exact c3) d2.1 d2.2 g7 h5
    obtain ⟨g, y1, y2, y3⟩ := rn_g (i := 0) hP g1 (by decide) (by unfold edG at dg; omega)
    have eg : x4.toInt = (g : Int) := by rw [h8, nnE g4, ← y1]; exact (hcd.2.2.1 s.1 g1).2.1
    obtain ⟨z1, z2, z3⟩ := en_x hcd.1 eg y2 (hcd.2.2.1 g y2).1 h11
    rw [v] at h7
    refine Or.inl ⟨_, st9_20 eo, ?_, by rw [z2]; exact hen, han⟩
    rw [if_neg h7]
    exact ag_go hag y1 y2 y3 z1 z3
  · intro x1 x2 x3 x4 h1 h2 h3 h4 h5 h6 h7
    have e0 : x1.toInt = Q.2.2.1 s.1 s.2.1 0 := by rw [h1]; exact c0
    have eo : Q.2.2.1 s.1 s.2.1 0 = 21 := by omega
    obtain ⟨⟨d1, d2, d4, d5⟩, dg⟩ := rn_e hP g1 g2 (by omega)
    have v : x3 = va9 Q s := vo_x (by rw [h3]; exact c2) (by rw [h4]; exact c3) d2.1 d2.2 g7 h5
    exact Or.inr ⟨0, _, s, st9_21 eo, by rw [ht_x h7]; decide, by decide, v, g5⟩
  · intro x1 x2 x3 x4 x5 x6 x7 x8 x9 h1 h2 h3 h4 h5 h6 h7 h8 h9 h10 h11 h12 h13 h14 h15 h16 h17 h18 h19 h20 h21
    have e0 : x1.toInt = Q.2.2.1 s.1 s.2.1 0 := by rw [h1]; exact c0
    have l18 : Q.2.2.1 s.1 s.2.1 0 ≤ 18 := by
      rcases rn_row hP g1 g2 with ⟨a, -⟩ | ⟨-, -, -, a⟩
      · exact a
      · unfold edG at a; omega
    have hr := rn_r hP g1 g2 l18
    obtain ⟨hj, r0, r2, r4, r1, r5⟩ := hr
    have v : x3 = va9 Q s := vo_x (by rw [h3]; exact c2) (by rw [h4]; exact c3) r2.1 r2.2 g7 h5
    have u : x5 = vb9 Q s := vo_x (by rw [h14]; exact c4) (by rw [h15]; exact c5) r4.1 r4.2 g7 h16
    have l13 : Q.2.2.1 s.1 s.2.1 0 ≤ 13 := by omega
    have nz : ¬ ((Q.2.2.1 s.1 s.2.1 0 = 3 ∨ Q.2.2.1 s.1 s.2.1 0 = 4) ∧ x5.toInt = 0) := by omega
    have c := ca_x (by omega) (by omega) (by rw [e0]; exact nz) h19
    have p := pt_x (by rw [h18]; exact c1) (r1 (by omega)).1 (r1 (by omega)).2 h20
    rw [u] at nz
    refine Or.inl ⟨_, st9_c l13 nz, ag_rw hag hj h21 ?_, hen, han⟩
    rw [p, c, e0, v, u]
  · intro x1 x2 x3 x4 x5 x6 h1 h2 h3 h4 h5 h6 h7 h8 h9 h10 h11 h12 h13 h14 h15 h16 h17 h18 h19
    have e0 : x1.toInt = Q.2.2.1 s.1 s.2.1 0 := by rw [h1]; exact c0
    have l18 : Q.2.2.1 s.1 s.2.1 0 ≤ 18 := by
      rcases rn_row hP g1 g2 with ⟨a, -⟩ | ⟨-, -, -, a⟩
      · exact a
      · unfold edG at a; omega
    have hr := rn_r hP g1 g2 l18
    obtain ⟨hj, r0, r2, r4, r1, r5⟩ := hr
    have v : x3 = va9 Q s := vo_x (by rw [h3]; exact c2) (by rw [h4]; exact c3) r2.1 r2.2 g7 h5
    have u : x5 = vb9 Q s := vo_x (by rw [h14]; exact c4) (by rw [h15]; exact c5) r4.1 r4.2 g7 h16
    have l13 : Q.2.2.1 s.1 s.2.1 0 ≤ 13 := by omega
    exact Or.inr ⟨1, 0, s, st9_z (by omega) (by rw [← u]; exact h17), by rw [ht_x h19]; decide, by decide, han, g5⟩
  · intro x1 x2 x3 x4 x5 x6 x7 x8 x9 h1 h2 h3 h4 h5 h6 h7 h8 h9 h10 h11 h12 h13 h14 h15 h16 h17 h18 h19 h20 h21 h22 h23
    have e0 : x1.toInt = Q.2.2.1 s.1 s.2.1 0 := by rw [h1]; exact c0
    have l18 : Q.2.2.1 s.1 s.2.1 0 ≤ 18 := by
      rcases rn_row hP g1 g2 with ⟨a, -⟩ | ⟨-, -, -, a⟩
      · exact a
      · unfold edG at a; omega
    have hr := rn_r hP g1 g2 l18
    obtain ⟨hj, r0, r2, r4, r1, r5⟩ := hr
    have v : x3 = va9 Q s := vo_x (by rw [h3]; exact c2) (by rw [h4]; exact c3) r2.1 r2.2 g7 h5
    have u : x5 = vb9 Q s := vo_x (by rw [h14]; exact c4) (by rw [h15]; exact c5) r4.1 r4.2 g7 h16
    have l13 : Q.2.2.1 s.1 s.2.1 0 ≤ 13 := by omega
    have nz : ¬ ((Q.2.2.1 s.1 s.2.1 0 = 3 ∨ Q.2.2.1 s.1 s.2.1 0 = 4) ∧ x5.toInt = 0) := by omega
    have c := ca_x (by omega) (by omega) (by rw [e0]; exact nz) h21
    have p := pt_x (by rw [h20]; exact c1) (r1 (by omega)).1 (r1 (by omega)).2 h22
    rw [u] at nz
    refine Or.inl ⟨_, st9_c l13 nz, ag_rw hag hj h23 ?_, hen, han⟩
    rw [p, c, e0, v, u]
  · intro x1 x2 x3 x4 x5 x6 h1 h2 h3 h4 h5 h6 h7 h8 h9 h10 h11 h12 h13 h14 h15 h16 h17 h18 h19 h20
    have e0 : x1.toInt = Q.2.2.1 s.1 s.2.1 0 := by rw [h1]; exact c0
    have l18 : Q.2.2.1 s.1 s.2.1 0 ≤ 18 := by
      rcases rn_row hP g1 g2 with ⟨a, -⟩ | ⟨-, -, -, a⟩
      · exact a
      · unfold edG at a; omega
    have hr := rn_r hP g1 g2 l18
    obtain ⟨hj, r0, r2, r4, r1, r5⟩ := hr
    have v : x3 = va9 Q s := vo_x (by rw [h3]; exact c2) (by rw [h4]; exact c3) r2.1 r2.2 g7 h5
    have u : x5 = vb9 Q s := vo_x (by rw [h14]; exact c4) (by rw [h15]; exact c5) r4.1 r4.2 g7 h16
    have l13 : Q.2.2.1 s.1 s.2.1 0 ≤ 13 := by omega
    exact Or.inr ⟨1, 0, s, st9_z (by omega) (by rw [← u]; exact h17), by rw [ht_x h20]; decide, by decide, han, g5⟩
  · intro x1 x2 x3 x4 x5 x6 x7 x8 x9 x10 h1 h2 h3 h4 h5 h6 h7 h8 h9 h10 h11 h12 h13 h14 h15 h16 h17 h18 h19 h20 h21
    have e0 : x1.toInt = Q.2.2.1 s.1 s.2.1 0 := by rw [h1]; exact c0
    have l18 : Q.2.2.1 s.1 s.2.1 0 ≤ 18 := by
      rcases rn_row hP g1 g2 with ⟨a, -⟩ | ⟨-, -, -, a⟩
      · exact a
      · unfold edG at a; omega
    have hr := rn_r hP g1 g2 l18
    obtain ⟨hj, r0, r2, r4, r1, r5⟩ := hr
    have v : x3 = va9 Q s := vo_x (by rw [h3]; exact c2) (by rw [h4]; exact c3) r2.1 r2.2 g7 h5
    have u : x6 = vb9 Q s := vo_x (by rw [h14]; exact c4) (by rw [h15]; exact c5) r4.1 r4.2 g7 h16
    have l13 : Q.2.2.1 s.1 s.2.1 0 ≤ 13 := by omega
    have nz : ¬ ((Q.2.2.1 s.1 s.2.1 0 = 3 ∨ Q.2.2.1 s.1 s.2.1 0 = 4) ∧ x6.toInt = 0) := by omega
    have c := ca_x (by omega) (by omega) (by rw [e0]; exact nz) h19
    have p := pt_x (by rw [h18]; exact c1) (r1 (by omega)).1 (r1 (by omega)).2 h20
    rw [u] at nz
    refine Or.inl ⟨_, st9_c l13 nz, ag_rw hag hj h21 ?_, hen, han⟩
    rw [p, c, e0, v, u]
  · intro x1 x2 x3 x4 x5 x6 x7 h1 h2 h3 h4 h5 h6 h7 h8 h9 h10 h11 h12 h13 h14 h15 h16 h17 h18 h19
    have e0 : x1.toInt = Q.2.2.1 s.1 s.2.1 0 := by rw [h1]; exact c0
    have l18 : Q.2.2.1 s.1 s.2.1 0 ≤ 18 := by
      rcases rn_row hP g1 g2 with ⟨a, -⟩ | ⟨-, -, -, a⟩
      · exact a
      · unfold edG at a; omega
    have hr := rn_r hP g1 g2 l18
    obtain ⟨hj, r0, r2, r4, r1, r5⟩ := hr
    have v : x3 = va9 Q s := vo_x (by rw [h3]; exact c2) (by rw [h4]; exact c3) r2.1 r2.2 g7 h5
    have u : x6 = vb9 Q s := vo_x (by rw [h14]; exact c4) (by rw [h15]; exact c5) r4.1 r4.2 g7 h16
    have l13 : Q.2.2.1 s.1 s.2.1 0 ≤ 13 := by omega
    exact Or.inr ⟨1, 0, s, st9_z (by omega) (by rw [← u]; exact h17), by rw [ht_x h19]; decide, by decide, han, g5⟩
  · intro x1 x2 x3 x4 x5 x6 x7 x8 x9 x10 h1 h2 h3 h4 h5 h6 h7 h8 h9 h10 h11 h12 h13 h14 h15 h16 h17 h18 h19 h20 h21 h22 h23
    have e0 : x1.toInt = Q.2.2.1 s.1 s.2.1 0 := by rw [h1]; exact c0
    have l18 : Q.2.2.1 s.1 s.2.1 0 ≤ 18 := by
      rcases rn_row hP g1 g2 with ⟨a, -⟩ | ⟨-, -, -, a⟩
      · exact a
      · unfold edG at a; omega
    have hr := rn_r hP g1 g2 l18
    obtain ⟨hj, r0, r2, r4, r1, r5⟩ := hr
    have v : x3 = va9 Q s := vo_x (by rw [h3]; exact c2) (by rw [h4]; exact c3) r2.1 r2.2 g7 h5
    have u : x6 = vb9 Q s := vo_x (by rw [h14]; exact c4) (by rw [h15]; exact c5) r4.1 r4.2 g7 h16
    have l13 : Q.2.2.1 s.1 s.2.1 0 ≤ 13 := by omega
    have nz : ¬ ((Q.2.2.1 s.1 s.2.1 0 = 3 ∨ Q.2.2.1 s.1 s.2.1 0 = 4) ∧ x6.toInt = 0) := by omega
    have c := ca_x (by omega) (by omega) (by rw [e0]; exact nz) h21
    have p := pt_x (by rw [h20]; exact c1) (r1 (by omega)).1 (r1 (by omega)).2 h22
    rw [u] at nz
    refine Or.inl ⟨_, st9_c l13 nz, ag_rw hag hj h23 ?_, hen, han⟩
    rw [p, c, e0, v, u]
  · intro x1 x2 x3 x4 x5 x6 x7 h1 h2 h3 h4 h5 h6 h7 h8 h9 h10 h11 h12 h13 h14 h15 h16 h17 h18 h19 h20
    have e0 : x1.toInt = Q.2.2.1 s.1 s.2.1 0 := by rw [h1]; exact c0
    have l18 : Q.2.2.1 s.1 s.2.1 0 ≤ 18 := by
      rcases rn_row hP g1 g2 with ⟨a, -⟩ | ⟨-, -, -, a⟩
      · exact a
      · unfold edG at a; omega
    have hr := rn_r hP g1 g2 l18
    obtain ⟨hj, r0, r2, r4, r1, r5⟩ := hr
    have v : x3 = va9 Q s := vo_x (by rw [h3]; exact c2) (by rw [h4]; exact c3) r2.1 r2.2 g7 h5
    have u : x6 = vb9 Q s := vo_x (by rw [h14]; exact c4) (by rw [h15]; exact c5) r4.1 r4.2 g7 h16
    have l13 : Q.2.2.1 s.1 s.2.1 0 ≤ 13 := by omega
    exact Or.inr ⟨1, 0, s, st9_z (by omega) (by rw [← u]; exact h17), by rw [ht_x h20]; decide, by decide, han, g5⟩
  · intro x1 x2 x3 x4 x5 x6 x7 h1 h2 h3 h4 h5 h6 h7 h8 h9
    have e0 : x1.toInt = Q.2.2.1 s.1 s.2.1 0 := by rw [h1]; exact c0
    have eo : Q.2.2.1 s.1 s.2.1 0 = 14 := by omega
    have hr := rn_r hP g1 g2 (by omega)
    obtain ⟨hj, r0, r2, r4, r1, r5⟩ := hr
    have v : x4 = va9 Q s := vo_x (by rw [h3]; exact c2) (by rw [h4]; exact c3) r2.1 r2.2 g7 h5
    have p := pt_x (by rw [h7]; exact c1) (r1 (by omega)).1 (r1 (by omega)).2 h8
    exact Or.inl ⟨_, st9_14 eo, ag_rw hag hj h9 (by rw [p, v]), hen, han⟩
  · intro x1 x2 x3 x4 x5 x6 x7 x8 x9 h1 h2 h3 h4 h5 h6 h7 h8 h9 h10 h11
    have e0 : x1.toInt = Q.2.2.1 s.1 s.2.1 0 := by rw [h1]; exact c0
    have eo : Q.2.2.1 s.1 s.2.1 0 = 15 := by omega
    have hr := rn_r hP g1 g2 (by omega)
    obtain ⟨hj, r0, r2, r4, r1, r5⟩ := hr
    obtain ⟨t1, t2⟩ := tn_x hgn g5.2.1 hin h9
    have p := pt_x (by rw [h7]; exact c1) (r1 (by omega)).1 (r1 (by omega)).2 h10
    exact Or.inl ⟨_, st9_15 eo, ag_tk hag hj h11 (by rw [p, t1]) t2, hen, han⟩
  · intro x1 x2 x3 x4 x5 x6 x7 x8 h1 h2 h3 h4 h5 h6 h7 h8 h9 h10 h11
    have e0 : x1.toInt = Q.2.2.1 s.1 s.2.1 0 := by rw [h1]; exact c0
    have eo : Q.2.2.1 s.1 s.2.1 0 = 16 := by omega
    have hr := rn_r hP g1 g2 (by omega)
    obtain ⟨hj, r0, r2, r4, r1, r5⟩ := hr
    have v : x4 = va9 Q s := vo_x (by rw [h3]; exact c2) (by rw [h4]; exact c3) r2.1 r2.2 g7 h5
    rcases as_x h9 with ⟨w1, w2, w3, w4⟩ | ⟨w1, w2, w3, w4⟩
    · exact absurd h10 w2
    · refine Or.inr ⟨5, 0, s, st9_16x eo (by have := g5.1; omega), by rw [ht_x h11]; decide, by decide, han, ?_⟩
      rw [w3, w4]; exact g5
  · intro x1 x2 x3 x4 x5 x6 x7 x8 h1 h2 h3 h4 h5 h6 h7 h8 h9 h10 h11
    have e0 : x1.toInt = Q.2.2.1 s.1 s.2.1 0 := by rw [h1]; exact c0
    have eo : Q.2.2.1 s.1 s.2.1 0 = 16 := by omega
    have hr := rn_r hP g1 g2 (by omega)
    obtain ⟨hj, r0, r2, r4, r1, r5⟩ := hr
    have v : x4 = va9 Q s := vo_x (by rw [h3]; exact c2) (by rw [h4]; exact c3) r2.1 r2.2 g7 h5
    rcases as_x h9 with ⟨w1, w2, w3, w4⟩ | ⟨w1, w2, w3, w4⟩
    · have hlt : s.2.2.2.2.2.1 < 512 := by have := g5.1; omega
      exact Or.inl ⟨_, st9_16 eo hlt, ag_sw hag hj hlt h11 w3 (by rw [w4, v]), hen, han⟩
    · exact absurd w2 h10
  · intro x1 x2 x3 x4 x5 x6 x7 x8 h1 h2 h3 h4 h5 h6 h7 h8 h9 h10 h11
    have e0 : x1.toInt = Q.2.2.1 s.1 s.2.1 0 := by rw [h1]; exact c0
    have eo : Q.2.2.1 s.1 s.2.1 0 = 17 := by omega
    have hr := rn_r hP g1 g2 (by omega)
    obtain ⟨hj, r0, r2, r4, r1, r5⟩ := hr
    have t := sa_x (by rw [h8]; exact c5) (r5 (by omega)).1 (r5 (by omega)).2 g8 h9
    have p := pt_x (by rw [h7]; exact c1) (r1 (by omega)).1 (r1 (by omega)).2 h10
    exact Or.inl ⟨_, st9_17 eo, ag_rw hag hj h11 (by rw [p, t]), hen, han⟩
  · intro x1 x2 x3 x4 x5 x6 x7 x8 x9 h1 h2 h3 h4 h5 h6 h7 h8 h9 h10 h11
    have e0 : x1.toInt = Q.2.2.1 s.1 s.2.1 0 := by rw [h1]; exact c0
    have eo : Q.2.2.1 s.1 s.2.1 0 = 17 := by omega
    have hr := rn_r hP g1 g2 (by omega)
    obtain ⟨hj, r0, r2, r4, r1, r5⟩ := hr
    have t := sa_x (by rw [h8]; exact c5) (r5 (by omega)).1 (r5 (by omega)).2 g8 h9
    have p := pt_x (by rw [h7]; exact c1) (r1 (by omega)).1 (r1 (by omega)).2 h10
    exact Or.inl ⟨_, st9_17 eo, ag_rw hag hj h11 (by rw [p, t]), hen, han⟩
  · intro x1 x2 x3 x4 x5 x6 x7 h1 h2 h3 h4 h5 h6 h7 h8 h9
    have e0 : x1.toInt = Q.2.2.1 s.1 s.2.1 0 := by rw [h1]; exact c0
    have eo : Q.2.2.1 s.1 s.2.1 0 = 18 := by omega
    have hr := rn_r hP g1 g2 (by omega)
    obtain ⟨hj, r0, r2, r4, r1, r5⟩ := hr
    have v : x4 = va9 Q s := vo_x (by rw [h3]; exact c2) (by rw [h4]; exact c3) r2.1 r2.2 g7 h5
    have p := pt_x (by rw [h7]; exact c5) (r5 (by omega)).1 (r5 (by omega)).2 h8
    exact Or.inl ⟨_, st9_18 eo, ag_st hag hj h9 (by rw [p, v]), hen, han⟩
  · intro x1 x2 x3 x4 x5 x6 x7 x8 h1 h2 h3 h4 h5 h6 h7 h8 h9 h10
    have e0 : x1.toInt = Q.2.2.1 s.1 s.2.1 0 := by rw [h1]; exact c0
    have eo : Q.2.2.1 s.1 s.2.1 0 = 19 := by omega
    obtain ⟨⟨d1, d2, d4, d5⟩, dg⟩ := rn_e hP g1 g2 (by omega)
    obtain ⟨g, y1, y2, y3⟩ := rn_g (i := 0) hP g1 (by decide) (by unfold edG at dg; omega)
    have eg : x5.toInt = (g : Int) := by rw [h7, nnE g4, ← y1]; exact (hcd.2.2.1 s.1 g1).2.1
    obtain ⟨z1, z2, z3⟩ := en_x hcd.1 eg y2 (hcd.2.2.1 g y2).1 h10
    exact Or.inl ⟨_, st9_19 eo, ag_go hag y1 y2 y3 z1 z3, by rw [z2]; exact hen, han⟩
  · intro x1 x2 x3 x4 x5 x6 x7 x8 h1 h2 h3 h4 h5 h6 h7 h8 h9 h10 h11
    have e0 : x1.toInt = Q.2.2.1 s.1 s.2.1 0 := by rw [h1]; exact c0
    have eo : Q.2.2.1 s.1 s.2.1 0 = 20 := by omega
    obtain ⟨⟨d1, d2, d4, d5⟩, dg⟩ := rn_e hP g1 g2 (by omega)
    have v : x4 = va9 Q s := vo_x (by rw [h3]; exact c2) (by rw [h4]; exact c3) d2.1 d2.2 g7 h5
    obtain ⟨g, y1, y2, y3⟩ := rn_g (i := 1) hP g1 (by decide) (by unfold edG at dg; omega)
    have eg : x5.toInt = (g : Int) := by rw [h8, nnE g4, ← y1]; exact (hcd.2.2.1 s.1 g1).2.2
    obtain ⟨z1, z2, z3⟩ := en_x hcd.1 eg y2 (hcd.2.2.1 g y2).1 h11
    rw [v] at h7
    refine Or.inl ⟨_, st9_20 eo, ?_, by rw [z2]; exact hen, han⟩
    rw [if_pos h7]
    exact ag_go hag y1 y2 y3 z1 z3
  · intro x1 x2 x3 x4 x5 x6 x7 x8 h1 h2 h3 h4 h5 h6 h7 h8 h9 h10 h11
    have e0 : x1.toInt = Q.2.2.1 s.1 s.2.1 0 := by rw [h1]; exact c0
    have eo : Q.2.2.1 s.1 s.2.1 0 = 20 := by omega
    obtain ⟨⟨d1, d2, d4, d5⟩, dg⟩ := rn_e hP g1 g2 (by omega)
    have v : x4 = va9 Q s := vo_x (by rw [h3]; exact c2) (by rw [h4]; exact c3) d2.1 d2.2 g7 h5
    obtain ⟨g, y1, y2, y3⟩ := rn_g (i := 0) hP g1 (by decide) (by unfold edG at dg; omega)
    have eg : x5.toInt = (g : Int) := by rw [h8, nnE g4, ← y1]; exact (hcd.2.2.1 s.1 g1).2.1
    obtain ⟨z1, z2, z3⟩ := en_x hcd.1 eg y2 (hcd.2.2.1 g y2).1 h11
    rw [v] at h7
    refine Or.inl ⟨_, st9_20 eo, ?_, by rw [z2]; exact hen, han⟩
    rw [if_neg h7]
    exact ag_go hag y1 y2 y3 z1 z3
  · intro x1 x2 x3 x4 x5 h1 h2 h3 h4 h5 h6 h7
    have e0 : x1.toInt = Q.2.2.1 s.1 s.2.1 0 := by rw [h1]; exact c0
    have eo : Q.2.2.1 s.1 s.2.1 0 = 21 := by omega
    obtain ⟨⟨d1, d2, d4, d5⟩, dg⟩ := rn_e hP g1 g2 (by omega)
    have v : x4 = va9 Q s := vo_x (by rw [h3]; exact c2) (by rw [h4]; exact c3) d2.1 d2.2 g7 h5
    exact Or.inr ⟨0, _, s, st9_21 eo, by rw [ht_x h7]; decide, by decide, v, g5⟩
  · intro x1 x2 x3 x4 x5 x6 x7 x8 x9 x10 h1 h2 h3 h4 h5 h6 h7 h8 h9 h10 h11 h12 h13 h14 h15 h16 h17 h18 h19 h20 h21
    have e0 : x1.toInt = Q.2.2.1 s.1 s.2.1 0 := by rw [h1]; exact c0
    have l18 : Q.2.2.1 s.1 s.2.1 0 ≤ 18 := by
      rcases rn_row hP g1 g2 with ⟨a, -⟩ | ⟨-, -, -, a⟩
      · exact a
      · unfold edG at a; omega
    have hr := rn_r hP g1 g2 l18
    obtain ⟨hj, r0, r2, r4, r1, r5⟩ := hr
    have v : x4 = va9 Q s := vo_x (by rw [h3]; exact c2) (by rw [h4]; exact c3) r2.1 r2.2 g7 h5
    have u : x6 = vb9 Q s := vo_x (by rw [h14]; exact c4) (by rw [h15]; exact c5) r4.1 r4.2 g7 h16
    have l13 : Q.2.2.1 s.1 s.2.1 0 ≤ 13 := by omega
    have nz : ¬ ((Q.2.2.1 s.1 s.2.1 0 = 3 ∨ Q.2.2.1 s.1 s.2.1 0 = 4) ∧ x6.toInt = 0) := by omega
    have c := ca_x (by omega) (by omega) (by rw [e0]; exact nz) h19
    have p := pt_x (by rw [h18]; exact c1) (r1 (by omega)).1 (r1 (by omega)).2 h20
    rw [u] at nz
    refine Or.inl ⟨_, st9_c l13 nz, ag_rw hag hj h21 ?_, hen, han⟩
    rw [p, c, e0, v, u]
  · intro x1 x2 x3 x4 x5 x6 x7 h1 h2 h3 h4 h5 h6 h7 h8 h9 h10 h11 h12 h13 h14 h15 h16 h17 h18 h19
    have e0 : x1.toInt = Q.2.2.1 s.1 s.2.1 0 := by rw [h1]; exact c0
    have l18 : Q.2.2.1 s.1 s.2.1 0 ≤ 18 := by
      rcases rn_row hP g1 g2 with ⟨a, -⟩ | ⟨-, -, -, a⟩
      · exact a
      · unfold edG at a; omega
    have hr := rn_r hP g1 g2 l18
    obtain ⟨hj, r0, r2, r4, r1, r5⟩ := hr
    have v : x4 = va9 Q s := vo_x (by rw [h3]; exact c2) (by rw [h4]; exact c3) r2.1 r2.2 g7 h5
    have u : x6 = vb9 Q s := vo_x (by rw [h14]; exact c4) (by rw [h15]; exact c5) r4.1 r4.2 g7 h16
    have l13 : Q.2.2.1 s.1 s.2.1 0 ≤ 13 := by omega
    exact Or.inr ⟨1, 0, s, st9_z (by omega) (by rw [← u]; exact h17), by rw [ht_x h19]; decide, by decide, han, g5⟩
  · intro x1 x2 x3 x4 x5 x6 x7 x8 x9 x10 h1 h2 h3 h4 h5 h6 h7 h8 h9 h10 h11 h12 h13 h14 h15 h16 h17 h18 h19 h20 h21 h22 h23
    have e0 : x1.toInt = Q.2.2.1 s.1 s.2.1 0 := by rw [h1]; exact c0
    have l18 : Q.2.2.1 s.1 s.2.1 0 ≤ 18 := by
      rcases rn_row hP g1 g2 with ⟨a, -⟩ | ⟨-, -, -, a⟩
      · exact a
      · unfold edG at a; omega
    have hr := rn_r hP g1 g2 l18
    obtain ⟨hj, r0, r2, r4, r1, r5⟩ := hr
    have v : x4 = va9 Q s := vo_x (by rw [h3]; exact c2) (by rw [h4]; exact c3) r2.1 r2.2 g7 h5
    have u : x6 = vb9 Q s := vo_x (by rw [h14]; exact c4) (by rw [h15]; exact c5) r4.1 r4.2 g7 h16
    have l13 : Q.2.2.1 s.1 s.2.1 0 ≤ 13 := by omega
    have nz : ¬ ((Q.2.2.1 s.1 s.2.1 0 = 3 ∨ Q.2.2.1 s.1 s.2.1 0 = 4) ∧ x6.toInt = 0) := by omega
    have c := ca_x (by omega) (by omega) (by rw [e0]; exact nz) h21
    have p := pt_x (by rw [h20]; exact c1) (r1 (by omega)).1 (r1 (by omega)).2 h22
    rw [u] at nz
    refine Or.inl ⟨_, st9_c l13 nz, ag_rw hag hj h23 ?_, hen, han⟩
    rw [p, c, e0, v, u]
  · intro x1 x2 x3 x4 x5 x6 x7 h1 h2 h3 h4 h5 h6 h7 h8 h9 h10 h11 h12 h13 h14 h15 h16 h17 h18 h19 h20
    have e0 : x1.toInt = Q.2.2.1 s.1 s.2.1 0 := by rw [h1]; exact c0
    have l18 : Q.2.2.1 s.1 s.2.1 0 ≤ 18 := by
      rcases rn_row hP g1 g2 with ⟨a, -⟩ | ⟨-, -, -, a⟩
      · exact a
      · unfold edG at a; omega
    have hr := rn_r hP g1 g2 l18
    obtain ⟨hj, r0, r2, r4, r1, r5⟩ := hr
    have v : x4 = va9 Q s := vo_x (by rw [h3]; exact c2) (by rw [h4]; exact c3) r2.1 r2.2 g7 h5
    have u : x6 = vb9 Q s := vo_x (by rw [h14]; exact c4) (by rw [h15]; exact c5) r4.1 r4.2 g7 h16
    have l13 : Q.2.2.1 s.1 s.2.1 0 ≤ 13 := by omega
    exact Or.inr ⟨1, 0, s, st9_z (by omega) (by rw [← u]; exact h17), by rw [ht_x h20]; decide, by decide, han, g5⟩
  · intro x1 x2 x3 x4 x5 x6 x7 x8 x9 x10 x11 h1 h2 h3 h4 h5 h6 h7 h8 h9 h10 h11 h12 h13 h14 h15 h16 h17 h18 h19 h20 h21
    have e0 : x1.toInt = Q.2.2.1 s.1 s.2.1 0 := by rw [h1]; exact c0
    have l18 : Q.2.2.1 s.1 s.2.1 0 ≤ 18 := by
      rcases rn_row hP g1 g2 with ⟨a, -⟩ | ⟨-, -, -, a⟩
      · exact a
      · unfold edG at a; omega
    have hr := rn_r hP g1 g2 l18
    obtain ⟨hj, r0, r2, r4, r1, r5⟩ := hr
    have v : x4 = va9 Q s := vo_x (by rw [h3]; exact c2) (by rw [h4]; exact c3) r2.1 r2.2 g7 h5
    have u : x7 = vb9 Q s := vo_x (by rw [h14]; exact c4) (by rw [h15]; exact c5) r4.1 r4.2 g7 h16
    have l13 : Q.2.2.1 s.1 s.2.1 0 ≤ 13 := by omega
    have nz : ¬ ((Q.2.2.1 s.1 s.2.1 0 = 3 ∨ Q.2.2.1 s.1 s.2.1 0 = 4) ∧ x7.toInt = 0) := by omega
    have c := ca_x (by omega) (by omega) (by rw [e0]; exact nz) h19
    have p := pt_x (by rw [h18]; exact c1) (r1 (by omega)).1 (r1 (by omega)).2 h20
    rw [u] at nz
    refine Or.inl ⟨_, st9_c l13 nz, ag_rw hag hj h21 ?_, hen, han⟩
    rw [p, c, e0, v, u]
  · intro x1 x2 x3 x4 x5 x6 x7 x8 h1 h2 h3 h4 h5 h6 h7 h8 h9 h10 h11 h12 h13 h14 h15 h16 h17 h18 h19
    have e0 : x1.toInt = Q.2.2.1 s.1 s.2.1 0 := by rw [h1]; exact c0
    have l18 : Q.2.2.1 s.1 s.2.1 0 ≤ 18 := by
      rcases rn_row hP g1 g2 with ⟨a, -⟩ | ⟨-, -, -, a⟩
      · exact a
      · unfold edG at a; omega
    have hr := rn_r hP g1 g2 l18
    obtain ⟨hj, r0, r2, r4, r1, r5⟩ := hr
    have v : x4 = va9 Q s := vo_x (by rw [h3]; exact c2) (by rw [h4]; exact c3) r2.1 r2.2 g7 h5
    have u : x7 = vb9 Q s := vo_x (by rw [h14]; exact c4) (by rw [h15]; exact c5) r4.1 r4.2 g7 h16
    have l13 : Q.2.2.1 s.1 s.2.1 0 ≤ 13 := by omega
    exact Or.inr ⟨1, 0, s, st9_z (by omega) (by rw [← u]; exact h17), by rw [ht_x h19]; decide, by decide, han, g5⟩
  · intro x1 x2 x3 x4 x5 x6 x7 x8 x9 x10 x11 h1 h2 h3 h4 h5 h6 h7 h8 h9 h10 h11 h12 h13 h14 h15 h16 h17 h18 h19 h20 h21 h22 h23
    have e0 : x1.toInt = Q.2.2.1 s.1 s.2.1 0 := by rw [h1]; exact c0
    have l18 : Q.2.2.1 s.1 s.2.1 0 ≤ 18 := by
      rcases rn_row hP g1 g2 with ⟨a, -⟩ | ⟨-, -, -, a⟩
      · exact a
      · unfold edG at a; omega
    have hr := rn_r hP g1 g2 l18
    obtain ⟨hj, r0, r2, r4, r1, r5⟩ := hr
    have v : x4 = va9 Q s := vo_x (by rw [h3]; exact c2) (by rw [h4]; exact c3) r2.1 r2.2 g7 h5
    have u : x7 = vb9 Q s := vo_x (by rw [h14]; exact c4) (by rw [h15]; exact c5) r4.1 r4.2 g7 h16
    have l13 : Q.2.2.1 s.1 s.2.1 0 ≤ 13 := by omega
    have nz : ¬ ((Q.2.2.1 s.1 s.2.1 0 = 3 ∨ Q.2.2.1 s.1 s.2.1 0 = 4) ∧ x7.toInt = 0) := by omega
    have c := ca_x (by omega) (by omega) (by rw [e0]; exact nz) h21
    have p := pt_x (by rw [h20]; exact c1) (r1 (by omega)).1 (r1 (by omega)).2 h22
    rw [u] at nz
    refine Or.inl ⟨_, st9_c l13 nz, ag_rw hag hj h23 ?_, hen, han⟩
    rw [p, c, e0, v, u]
  · intro x1 x2 x3 x4 x5 x6 x7 x8 h1 h2 h3 h4 h5 h6 h7 h8 h9 h10 h11 h12 h13 h14 h15 h16 h17 h18 h19 h20
    have e0 : x1.toInt = Q.2.2.1 s.1 s.2.1 0 := by rw [h1]; exact c0
    have l18 : Q.2.2.1 s.1 s.2.1 0 ≤ 18 := by
      rcases rn_row hP g1 g2 with ⟨a, -⟩ | ⟨-, -, -, a⟩
      · exact a
      · unfold edG at a; omega
    have hr := rn_r hP g1 g2 l18
    obtain ⟨hj, r0, r2, r4, r1, r5⟩ := hr
    have v : x4 = va9 Q s := vo_x (by rw [h3]; exact c2) (by rw [h4]; exact c3) r2.1 r2.2 g7 h5
    have u : x7 = vb9 Q s := vo_x (by rw [h14]; exact c4) (by rw [h15]; exact c5) r4.1 r4.2 g7 h16
    have l13 : Q.2.2.1 s.1 s.2.1 0 ≤ 13 := by omega
    exact Or.inr ⟨1, 0, s, st9_z (by omega) (by rw [← u]; exact h17), by rw [ht_x h20]; decide, by decide, han, g5⟩
set_option maxHeartbeats 4000000 in
theorem pfl_x {a2 : Int32} {Code_lines : Int32} {Machine_givens : Int32} {Code_blocks : Int32} {Machine_given : Nat → Int32} {Code_first : Nat → Int32} {Code_firstGoal : Nat → Int32} {Code_secondGoal : Nat → Int32} {Code_op : Nat → Int32} {Code_set : Nat → Int32} {Code_left : Nat → Int32} {Code_leftNumber : Nat → Int32} {Code_right : Nat → Int32} {Code_rightNumber : Nat → Int32} {s1 : Int32} {s2 : Int32} {s3 : Int32} {s4 : Int32} {s5 : Int32} {s6 : Int32} {s7 : Int32} {s8 : Nat → Int32} {s9 : Nat → Int32} {s10 : Nat → Int32} {k : Nat} {e1 : Int32} {e2 : Int32} {e3 : Int32} {e4 : Int32} {e5 : Int32} {e6 : Int32} {e7 : Nat → Int32} {e8 : Nat → Int32} {e9 : Nat → Int32} (hP : rnP Q) (hcd : cdP Code_blocks Code_lines Code_first Code_firstGoal Code_secondGoal Code_op Code_set Code_left Code_leftNumber Code_right Code_rightNumber Q) (hgn : Machine_givens.toInt = (gn : Int)) (hin : ∀ i, i < gn → Machine_given i = inp i) (h : tl_Machine_perform_49 a2 Code_lines Machine_givens Code_blocks Machine_given Code_first Code_firstGoal Code_secondGoal Code_op Code_set Code_left Code_leftNumber Code_right Code_rightNumber s1 s2 s3 s4 s5 s6 s7 s8 s9 s10 k e1 e2 e3 e4 e5 e6 e7 e8 e9) : (s3.toInt ≠ -2 → e2 = s5 ∧ e3 = s6 ∧ e4 = s2 ∧ e5 = s7 ∧ e6 = s3 ∧ e7 = s8) ∧ (s3.toInt = -2 → s5 = 0 → ∀ (s : gM9) (t f : Nat), s2.toInt = (t : Int) → a2.toInt = ((t + f : Nat) : Int) → ag9 Q s s1 s4 s6 s7 s8 s9 s10 → en9 (rn9 Q inp gn f t s) e2 e3 e4 e5 e6 e7) := by
  refine h (fun s1 s2 s3 s4 s5 s6 s7 s8 s9 s10 k e1 e2 e3 e4 e5 e6 e7 e8 e9 => (s3.toInt ≠ -2 → e2 = s5 ∧ e3 = s6 ∧ e4 = s2 ∧ e5 = s7 ∧ e6 = s3 ∧ e7 = s8) ∧ (s3.toInt = -2 → s5 = 0 → ∀ (s : gM9) (t f : Nat), s2.toInt = (t : Int) → a2.toInt = ((t + f : Nat) : Int) → ag9 Q s s1 s4 s6 s7 s8 s9 s10 → en9 (rn9 Q inp gn f t s) e2 e3 e4 e5 e6 e7)) ?_ ?_ ?_ ?_ ?_
  · intro l3_1 Machine_steps_1 Machine_ending_1 Machine_block_1 Machine_answer_1 Machine_showCount_1 Machine_taken_1 Machine_shows_1 Machine_registers_1 Machine_slots_1 h1 h2 h3 h4 h5 h6
    refine ⟨fun _ => ⟨rfl, rfl, rfl, rfl, rfl, rfl⟩, fun he ha s t f ht hf hag => ?_⟩
    have f0 : f = 0 := by omega
    rw [f0, rn9_0]
    exact ⟨Or.inr ⟨he, rfl⟩, ha, ht, hag.2.2.2.2.1⟩
  · intro l3_1 Machine_steps_1 Machine_ending_1 Machine_block_1 Machine_answer_1 Machine_showCount_1 Machine_taken_1 Machine_shows_1 Machine_registers_1 Machine_slots_1 h1 h2 h3 h4 h5 h6 h7
    refine ⟨fun _ => ⟨rfl, rfl, rfl, rfl, rfl, rfl⟩, fun he ha s t f ht hf hag => ?_⟩
    exact absurd he h7
  · intro l3_1 Machine_steps_1 Machine_ending_1 Machine_block_1 Machine_answer_1 Machine_showCount_1 Machine_taken_1 Machine_shows_1 Machine_registers_1 Machine_slots_1 x1 x2 k e1 e2 e3 e4 e5 e6 e7 e8 e9 h1 h2 h3 h4 h5 h6 h7 h8 h9 h10 ih
    refine ⟨fun he => absurd h7 he, fun he ha s t f ht hf hag => ?_⟩
    obtain ⟨g1, g2, g3, -⟩ := hag
    have q := fsm_lt g1 g2
    have q2 := hcd.2.1
    omega
  · intro l3_1 Machine_steps_1 Machine_ending_1 Machine_block_1 Machine_answer_1 Machine_showCount_1 Machine_taken_1 Machine_shows_1 Machine_registers_1 Machine_slots_1 x1 x2 k e1 e2 e3 e4 e5 e6 e7 e8 e9 h1 h2 h3 h4 h5 h6 h7 h8 h9 h10 h11 ih
    refine ⟨fun he => absurd h7 he, fun he ha s t f ht hf hag => ?_⟩
    obtain ⟨g1, g2, g3, -⟩ := hag
    have q := fsm_lt g1 g2
    have q2 := hcd.2.1
    omega
  · intro l3_1 Machine_steps_1 Machine_ending_1 Machine_block_1 Machine_answer_1 Machine_showCount_1 Machine_taken_1 Machine_shows_1 Machine_registers_1 Machine_slots_1 x1 x2 x3 x4 x5 x6 x7 x8 x9 x10 k e1 e2 e3 e4 e5 e6 e7 e8 e9 h1 h2 h3 h4 h5 h6 h7 h8 h9 h10 h11 h12 h13 h14 h15 ih
    refine ⟨fun he => absurd h7 he, fun he ha s t f ht hf hag => ?_⟩
    obtain ⟨f1, rfl⟩ : ∃ f1, f = f1 + 1 := ⟨f - 1, by omega⟩
    rcases stp_x hP hcd hgn hin hag he ha h14 with ⟨s2, w1, w2, w3, w4⟩ | ⟨e, a, s2, w1, w2, w3, w4, w5⟩
    · rw [rn9_n w1]
      exact ih.2 w3 w4 s2 (t + 1) f1 (by rw [h15]; omega) (by omega) w2
    · rw [rn9_s w1]
      obtain ⟨y1, y2, y3, y4, y5, y6⟩ := ih.1 (by omega)
      rw [y1, y2, y3, y4, y5, y6]
      exact ⟨Or.inl ⟨w2, w3⟩, w4, by show _ = ((t + 1 : Nat) : Int); omega, w5⟩
theorem pf_x {a2 : Int32} {Machine_givens : Int32} {Code_blocks : Int32} {Code_lines : Int32} {Machine_given : Nat → Int32} {Machine_registers : Nat → Int32} {Machine_slots : Nat → Int32} {Machine_shows : Nat → Int32} {Code_first : Nat → Int32} {Code_firstGoal : Nat → Int32} {Code_secondGoal : Nat → Int32} {Code_op : Nat → Int32} {Code_set : Nat → Int32} {Code_left : Nat → Int32} {Code_leftNumber : Nat → Int32} {Code_right : Nat → Int32} {Code_rightNumber : Nat → Int32} {o1 : Int32} {o2 : Int32} {o3 : Int32} {o4 : Int32} {o5 : Int32} {o6 : Int32} {o7 : Nat → Int32} {o8 : Nat → Int32} {o9 : Nat → Int32} (hP : rnP Q) (hcd : cdP Code_blocks Code_lines Code_first Code_firstGoal Code_secondGoal Code_op Code_set Code_left Code_leftNumber Code_right Code_rightNumber Q) (hgn : Machine_givens.toInt = (gn : Int)) (hin : ∀ i, i < gn → Machine_given i = inp i) (ha : 0 ≤ a2.toInt) (h : tr_Machine_perform a2 Machine_givens Code_blocks Code_lines Machine_given Machine_registers Machine_slots Machine_shows Code_first Code_firstGoal Code_secondGoal Code_op Code_set Code_left Code_leftNumber Code_right Code_rightNumber o1 o2 o3 o4 o5 o6 o7 o8 o9) : ∃ r, r = rn9 Q inp gn a2.toInt.toNat 0 in9 ∧ o6.toInt = r.1 ∧ o2 = r.2.1 ∧ o4.toInt = (r.2.2.1 : Int) ∧ ag8 r.2.2.2 o3 o5 o9 := by
  refine h (fun o1 o2 o3 o4 o5 o6 o7 o8 o9 => ∃ r, r = rn9 Q inp gn a2.toInt.toNat 0 in9 ∧ o6.toInt = r.1 ∧ o2 = r.2.1 ∧ o4.toInt = (r.2.2.1 : Int) ∧ ag8 r.2.2.2 o3 o5 o9) ?_ ?_
  · intro x1 x2 x3 x4 x5 x6 x7 x8 x9 x10 x11 h1 h2 h3 h4
    have q := (pfl_x hP hcd hgn hin h3).2 (by decide) rfl in9 0 a2.toInt.toNat (by decide) (by omega) ⟨hP.1.1, (hP.2.2.1 0 hP.1.1).1, (by show Int32.toInt 0 = (0 : Int); decide), by decide, ⟨by decide, by decide, fun i hi => absurd hi (Nat.not_lt_zero i)⟩, by decide, fun i hi => fz3_tr h1 i hi, fun i hi => fz3_tr h2 i hi⟩
    obtain ⟨y1, y2, y3, y4⟩ := q
    refine ⟨_, rfl, ?_, y2, y3, y4⟩
    omega
  · intro x1 x2 x3 x4 x5 x6 x7 x8 x9 x10 x11 h1 h2 h3 h4
    have q := (pfl_x hP hcd hgn hin h3).2 (by decide) rfl in9 0 a2.toInt.toNat (by decide) (by omega) ⟨hP.1.1, (hP.2.2.1 0 hP.1.1).1, (by show Int32.toInt 0 = (0 : Int); decide), by decide, ⟨by decide, by decide, fun i hi => absurd hi (Nat.not_lt_zero i)⟩, by decide, fun i hi => fz3_tr h1 i hi, fun i hi => fz3_tr h2 i hi⟩
    obtain ⟨y1, y2, y3, y4⟩ := q
    refine ⟨_, rfl, ?_, y2, y3, y4⟩
    have z4 : Int32.toInt 4 = 4 := by decide
    rcases y1 with ⟨y1, y1p⟩ | y1
    · omega
    · rw [z4]; exact y1.2.symm
theorem en_x2 {a2 : Int32} {Machine_block : Int32} {Machine_ending : Int32} {Code_blocks : Int32} {Code_first : Nat → Int32} {o1 : Int32} {o2 : Int32} {o3 : Int32} {g : Nat} (hb : Code_blocks.toInt = (Q.1 : Int)) (ha : a2.toInt = (g : Int)) (hg : g < Q.1) (hf : (Code_first g).toInt = (fsm Q.2.1 g : Int)) (h : tr_Machine_enter2 a2 Machine_block Machine_ending Code_blocks Code_first o1 o2 o3) : o1.toInt = (fsm Q.2.1 g : Int) ∧ o2 = Machine_ending ∧ o3.toInt = (g : Int) := by
  refine h (fun o1 o2 o3 => o1.toInt = (fsm Q.2.1 g : Int) ∧ o2 = Machine_ending ∧ o3.toInt = (g : Int)) ?_ ?_ ?_
  · intro x1 h1 h2
    omega
  · intro x1 h1 h2 h3 h4
    refine ⟨?_, rfl, ha⟩
    rw [h3, nnE ha]; exact hf
  · intro x1 h1 h2 h3
    omega
set_option maxHeartbeats 4000000 in
theorem stp_x2 {a2 : Int32} {Machine_givens : Int32} {Machine_block : Int32} {Machine_answer : Int32} {Machine_showCount : Int32} {Machine_taken : Int32} {Machine_ending : Int32} {Code_blocks : Int32} {Machine_given : Nat → Int32} {Machine_registers : Nat → Int32} {Machine_slots : Nat → Int32} {Machine_shows : Nat → Int32} {Code_first : Nat → Int32} {Code_firstGoal : Nat → Int32} {Code_secondGoal : Nat → Int32} {Code_op : Nat → Int32} {Code_set : Nat → Int32} {Code_left : Nat → Int32} {Code_leftNumber : Nat → Int32} {Code_right : Nat → Int32} {Code_rightNumber : Nat → Int32} {o1 : Int32} {o2 : Nat → Int32} {o3 : Int32} {o4 : Int32} {o5 : Int32} {o6 : Nat → Int32} {o7 : Nat → Int32} {o8 : Int32} {o9 : Int32} {Code_lines : Int32} (hP : rnP Q) (hcd : cdP Code_blocks Code_lines Code_first Code_firstGoal Code_secondGoal Code_op Code_set Code_left Code_leftNumber Code_right Code_rightNumber Q) (hgn : Machine_givens.toInt = (gn : Int)) (hin : ∀ i, i < gn → Machine_given i = inp i) (hag : ag9 Q s a2 Machine_block Machine_showCount Machine_taken Machine_shows Machine_registers Machine_slots) (hen : Machine_ending.toInt = -2) (han : Machine_answer = 0) (h : tr_Machine_step2 a2 Machine_givens Machine_block Machine_answer Machine_showCount Machine_taken Machine_ending Code_blocks Machine_given Machine_registers Machine_slots Machine_shows Code_first Code_firstGoal Code_secondGoal Code_op Code_set Code_left Code_leftNumber Code_right Code_rightNumber o1 o2 o3 o4 o5 o6 o7 o8 o9) : sc9 Q inp gn s o1 o2 o3 o4 o5 o6 o7 o8 o9 := by
  obtain ⟨g1, g2, g3, g4, g5, g6, g7, g8⟩ := id hag
  obtain ⟨c0, c1, c2, c3, c4, c5⟩ := hcd.2.2.2 s.1 s.2.1 g1 g2
  rw [← nnE g3] at c0 c1 c2 c3 c4 c5
  refine h (fun o1 o2 o3 o4 o5 o6 o7 o8 o9 => sc9 Q inp gn s o1 o2 o3 o4 o5 o6 o7 o8 o9) ?_ ?_ ?_ ?_ ?_ ?_ ?_ ?_ ?_ ?_ ?_ ?_ ?_ ?_ ?_ ?_ ?_ ?_ ?_ ?_ ?_ ?_ ?_ ?_ ?_ ?_ ?_ ?_ ?_ ?_ ?_ ?_ ?_ ?_ ?_ ?_ ?_ ?_
  · intro x1 x2 x3 x4 x5 x6 h1 h2 h3 h4 h5 h6 h7 h8 h9
    have e0 : x1.toInt = Q.2.2.1 s.1 s.2.1 0 := by rw [h1]; exact c0
    have eo : Q.2.2.1 s.1 s.2.1 0 = 14 := by omega
    have hr := rn_r hP g1 g2 (by omega)
    obtain ⟨hj, r0, r2, r4, r1, r5⟩ := hr
    have v : x3 = va9 Q s := vo_x (by rw [h3]; exact c2) (by rw [h4]; exact c3) r2.1 r2.2 g7 h5
    have p := pt_x (by rw [h7]; exact c1) (r1 (by omega)).1 (r1 (by omega)).2 h8
    exact Or.inl ⟨_, st9_14 eo, ag_rw hag hj h9 (by rw [p, v]), hen, han⟩
  · intro x1 x2 x3 x4 x5 x6 x7 x8 h1 h2 h3 h4 h5 h6 h7 h8 h9 h10 h11
    have e0 : x1.toInt = Q.2.2.1 s.1 s.2.1 0 := by rw [h1]; exact c0
    have eo : Q.2.2.1 s.1 s.2.1 0 = 15 := by omega
    have hr := rn_r hP g1 g2 (by omega)
    obtain ⟨hj, r0, r2, r4, r1, r5⟩ := hr
    obtain ⟨t1, t2⟩ := tn_x hgn g5.2.1 hin h9
    have p := pt_x (by rw [h7]; exact c1) (r1 (by omega)).1 (r1 (by omega)).2 h10
    exact Or.inl ⟨_, st9_15 eo, ag_tk hag hj h11 (by rw [p, t1]) t2, hen, han⟩
  · intro x1 x2 x3 x4 x5 x6 x7 h1 h2 h3 h4 h5 h6 h7 h8 h9 h10 h11
    have e0 : x1.toInt = Q.2.2.1 s.1 s.2.1 0 := by rw [h1]; exact c0
    have eo : Q.2.2.1 s.1 s.2.1 0 = 16 := by omega
    have hr := rn_r hP g1 g2 (by omega)
    obtain ⟨hj, r0, r2, r4, r1, r5⟩ := hr
    have v : x3 = va9 Q s := vo_x (by rw [h3]; exact c2) (by rw [h4]; exact c3) r2.1 r2.2 g7 h5
    rcases as_x h9 with ⟨w1, w2, w3, w4⟩ | ⟨w1, w2, w3, w4⟩
    · exact absurd h10 w2
    · refine Or.inr ⟨5, 0, s, st9_16x eo (by have := g5.1; omega), by rw [ht_x h11]; decide, by decide, han, ?_⟩
      rw [w3, w4]; exact g5
  · intro x1 x2 x3 x4 x5 x6 x7 h1 h2 h3 h4 h5 h6 h7 h8 h9 h10 h11
    have e0 : x1.toInt = Q.2.2.1 s.1 s.2.1 0 := by rw [h1]; exact c0
    have eo : Q.2.2.1 s.1 s.2.1 0 = 16 := by omega
    have hr := rn_r hP g1 g2 (by omega)
    obtain ⟨hj, r0, r2, r4, r1, r5⟩ := hr
    have v : x3 = va9 Q s := vo_x (by rw [h3]; exact c2) (by rw [h4]; exact c3) r2.1 r2.2 g7 h5
    rcases as_x h9 with ⟨w1, w2, w3, w4⟩ | ⟨w1, w2, w3, w4⟩
    · have hlt : s.2.2.2.2.2.1 < 512 := by have := g5.1; omega
      exact Or.inl ⟨_, st9_16 eo hlt, ag_sw hag hj hlt h11 w3 (by rw [w4, v]), hen, han⟩
    · exact absurd w2 h10
  · intro x1 x2 x3 x4 x5 x6 x7 h1 h2 h3 h4 h5 h6 h7 h8 h9 h10 h11
    have e0 : x1.toInt = Q.2.2.1 s.1 s.2.1 0 := by rw [h1]; exact c0
    have eo : Q.2.2.1 s.1 s.2.1 0 = 17 := by omega
    have hr := rn_r hP g1 g2 (by omega)
    obtain ⟨hj, r0, r2, r4, r1, r5⟩ := hr
    have t := sa_x (by rw [h8]; exact c5) (r5 (by omega)).1 (r5 (by omega)).2 g8 h9
    have p := pt_x (by rw [h7]; exact c1) (r1 (by omega)).1 (r1 (by omega)).2 h10
    exact Or.inl ⟨_, st9_17 eo, ag_rw hag hj h11 (by rw [p, t]), hen, han⟩
  · intro x1 x2 x3 x4 x5 x6 x7 x8 h1 h2 h3 h4 h5 h6 h7 h8 h9 h10 h11
    have e0 : x1.toInt = Q.2.2.1 s.1 s.2.1 0 := by rw [h1]; exact c0
    have eo : Q.2.2.1 s.1 s.2.1 0 = 17 := by omega
    have hr := rn_r hP g1 g2 (by omega)
    obtain ⟨hj, r0, r2, r4, r1, r5⟩ := hr
    have t := sa_x (by rw [h8]; exact c5) (r5 (by omega)).1 (r5 (by omega)).2 g8 h9
    have p := pt_x (by rw [h7]; exact c1) (r1 (by omega)).1 (r1 (by omega)).2 h10
    exact Or.inl ⟨_, st9_17 eo, ag_rw hag hj h11 (by rw [p, t]), hen, han⟩
  · intro x1 x2 x3 x4 x5 x6 h1 h2 h3 h4 h5 h6 h7 h8 h9
    have e0 : x1.toInt = Q.2.2.1 s.1 s.2.1 0 := by rw [h1]; exact c0
    have eo : Q.2.2.1 s.1 s.2.1 0 = 18 := by omega
    have hr := rn_r hP g1 g2 (by omega)
    obtain ⟨hj, r0, r2, r4, r1, r5⟩ := hr
    have v : x3 = va9 Q s := vo_x (by rw [h3]; exact c2) (by rw [h4]; exact c3) r2.1 r2.2 g7 h5
    have p := pt_x (by rw [h7]; exact c5) (r5 (by omega)).1 (r5 (by omega)).2 h8
    exact Or.inl ⟨_, st9_18 eo, ag_st hag hj h9 (by rw [p, v]), hen, han⟩
  · intro x1 x2 x3 x4 x5 x6 x7 h1 h2 h3 h4 h5 h6 h7 h8 h9 h10
    have e0 : x1.toInt = Q.2.2.1 s.1 s.2.1 0 := by rw [h1]; exact c0
    have eo : Q.2.2.1 s.1 s.2.1 0 = 19 := by omega
    obtain ⟨⟨d1, d2, d4, d5⟩, dg⟩ := rn_e hP g1 g2 (by omega)
    obtain ⟨g, y1, y2, y3⟩ := rn_g (i := 0) hP g1 (by decide) (by unfold edG at dg; omega)
    have eg : x4.toInt = (g : Int) := by rw [h7, nnE g4, ← y1]; exact (hcd.2.2.1 s.1 g1).2.1
    obtain ⟨z1, z2, z3⟩ := en_x2 hcd.1 eg y2 (hcd.2.2.1 g y2).1 h10
    exact Or.inl ⟨_, st9_19 eo, ag_go hag y1 y2 y3 z1 z3, by rw [z2]; exact hen, han⟩
  · intro x1 x2 x3 x4 x5 x6 x7 h1 h2 h3 h4 h5 h6 h7 h8 h9 h10 h11
    have e0 : x1.toInt = Q.2.2.1 s.1 s.2.1 0 := by rw [h1]; exact c0
    have eo : Q.2.2.1 s.1 s.2.1 0 = 20 := by omega
    obtain ⟨⟨d1, d2, d4, d5⟩, dg⟩ := rn_e hP g1 g2 (by omega)
    have v : x3 = va9 Q s := vo_x (by rw [h3]; exact c2) (by rw [h4]; exact c3) d2.1 d2.2 g7 h5
    obtain ⟨g, y1, y2, y3⟩ := rn_g (i := 1) hP g1 (by decide) (by unfold edG at dg; omega)
    have eg : x4.toInt = (g : Int) := by rw [h8, nnE g4, ← y1]; exact (hcd.2.2.1 s.1 g1).2.2
    obtain ⟨z1, z2, z3⟩ := en_x2 hcd.1 eg y2 (hcd.2.2.1 g y2).1 h11
    rw [v] at h7
    refine Or.inl ⟨_, st9_20 eo, ?_, by rw [z2]; exact hen, han⟩
    rw [if_pos h7]
    exact ag_go hag y1 y2 y3 z1 z3
  · intro x1 x2 x3 x4 x5 x6 x7 h1 h2 h3 h4 h5 h6 h7 h8 h9 h10 h11
    have e0 : x1.toInt = Q.2.2.1 s.1 s.2.1 0 := by rw [h1]; exact c0
    have eo : Q.2.2.1 s.1 s.2.1 0 = 20 := by omega
    obtain ⟨⟨d1, d2, d4, d5⟩, dg⟩ := rn_e hP g1 g2 (by omega)
    have v : x3 = va9 Q s := vo_x (by rw [h3]; exact c2) (by rw [h4]; exact c3) d2.1 d2.2 g7 h5
    obtain ⟨g, y1, y2, y3⟩ := rn_g (i := 0) hP g1 (by decide) (by unfold edG at dg; omega)
    have eg : x4.toInt = (g : Int) := by rw [h8, nnE g4, ← y1]; exact (hcd.2.2.1 s.1 g1).2.1
    obtain ⟨z1, z2, z3⟩ := en_x2 hcd.1 eg y2 (hcd.2.2.1 g y2).1 h11
    rw [v] at h7
    refine Or.inl ⟨_, st9_20 eo, ?_, by rw [z2]; exact hen, han⟩
    rw [if_neg h7]
    exact ag_go hag y1 y2 y3 z1 z3
  · intro x1 x2 x3 x4 h1 h2 h3 h4 h5 h6 h7
    have e0 : x1.toInt = Q.2.2.1 s.1 s.2.1 0 := by rw [h1]; exact c0
    have eo : Q.2.2.1 s.1 s.2.1 0 = 21 := by omega
    obtain ⟨⟨d1, d2, d4, d5⟩, dg⟩ := rn_e hP g1 g2 (by omega)
    have v : x3 = va9 Q s := vo_x (by rw [h3]; exact c2) (by rw [h4]; exact c3) d2.1 d2.2 g7 h5
    exact Or.inr ⟨0, _, s, st9_21 eo, by rw [ht_x h7]; decide, by decide, v, g5⟩
  · intro x1 x2 x3 x4 x5 x6 x7 x8 x9 h1 h2 h3 h4 h5 h6 h7 h8 h9 h10 h11 h12 h13 h14 h15 h16 h17 h18 h19 h20 h21
    have e0 : x1.toInt = Q.2.2.1 s.1 s.2.1 0 := by rw [h1]; exact c0
    have l18 : Q.2.2.1 s.1 s.2.1 0 ≤ 18 := by
      rcases rn_row hP g1 g2 with ⟨a, -⟩ | ⟨-, -, -, a⟩
      · exact a
      · unfold edG at a; omega
    have hr := rn_r hP g1 g2 l18
    obtain ⟨hj, r0, r2, r4, r1, r5⟩ := hr
    have v : x3 = va9 Q s := vo_x (by rw [h3]; exact c2) (by rw [h4]; exact c3) r2.1 r2.2 g7 h5
    have u : x5 = vb9 Q s := vo_x (by rw [h14]; exact c4) (by rw [h15]; exact c5) r4.1 r4.2 g7 h16
    have l13 : Q.2.2.1 s.1 s.2.1 0 ≤ 13 := by omega
    have nz : ¬ ((Q.2.2.1 s.1 s.2.1 0 = 3 ∨ Q.2.2.1 s.1 s.2.1 0 = 4) ∧ x5.toInt = 0) := by omega
    have c := ca_x (by omega) (by omega) (by rw [e0]; exact nz) h19
    have p := pt_x (by rw [h18]; exact c1) (r1 (by omega)).1 (r1 (by omega)).2 h20
    rw [u] at nz
    refine Or.inl ⟨_, st9_c l13 nz, ag_rw hag hj h21 ?_, hen, han⟩
    rw [p, c, e0, v, u]
  · intro x1 x2 x3 x4 x5 x6 h1 h2 h3 h4 h5 h6 h7 h8 h9 h10 h11 h12 h13 h14 h15 h16 h17 h18 h19
    have e0 : x1.toInt = Q.2.2.1 s.1 s.2.1 0 := by rw [h1]; exact c0
    have l18 : Q.2.2.1 s.1 s.2.1 0 ≤ 18 := by
      rcases rn_row hP g1 g2 with ⟨a, -⟩ | ⟨-, -, -, a⟩
      · exact a
      · unfold edG at a; omega
    have hr := rn_r hP g1 g2 l18
    obtain ⟨hj, r0, r2, r4, r1, r5⟩ := hr
    have v : x3 = va9 Q s := vo_x (by rw [h3]; exact c2) (by rw [h4]; exact c3) r2.1 r2.2 g7 h5
    have u : x5 = vb9 Q s := vo_x (by rw [h14]; exact c4) (by rw [h15]; exact c5) r4.1 r4.2 g7 h16
    have l13 : Q.2.2.1 s.1 s.2.1 0 ≤ 13 := by omega
    exact Or.inr ⟨1, 0, s, st9_z (by omega) (by rw [← u]; exact h17), by rw [ht_x h19]; decide, by decide, han, g5⟩
  · intro x1 x2 x3 x4 x5 x6 x7 x8 x9 h1 h2 h3 h4 h5 h6 h7 h8 h9 h10 h11 h12 h13 h14 h15 h16 h17 h18 h19 h20 h21 h22 h23
    have e0 : x1.toInt = Q.2.2.1 s.1 s.2.1 0 := by rw [h1]; exact c0
    have l18 : Q.2.2.1 s.1 s.2.1 0 ≤ 18 := by
      rcases rn_row hP g1 g2 with ⟨a, -⟩ | ⟨-, -, -, a⟩
      · exact a
      · unfold edG at a; omega
    have hr := rn_r hP g1 g2 l18
    obtain ⟨hj, r0, r2, r4, r1, r5⟩ := hr
    have v : x3 = va9 Q s := vo_x (by rw [h3]; exact c2) (by rw [h4]; exact c3) r2.1 r2.2 g7 h5
    have u : x5 = vb9 Q s := vo_x (by rw [h14]; exact c4) (by rw [h15]; exact c5) r4.1 r4.2 g7 h16
    have l13 : Q.2.2.1 s.1 s.2.1 0 ≤ 13 := by omega
    have nz : ¬ ((Q.2.2.1 s.1 s.2.1 0 = 3 ∨ Q.2.2.1 s.1 s.2.1 0 = 4) ∧ x5.toInt = 0) := by omega
    have c := ca_x (by omega) (by omega) (by rw [e0]; exact nz) h21
    have p := pt_x (by rw [h20]; exact c1) (r1 (by omega)).1 (r1 (by omega)).2 h22
    rw [u] at nz
    refine Or.inl ⟨_, st9_c l13 nz, ag_rw hag hj h23 ?_, hen, han⟩
    rw [p, c, e0, v, u]
  · intro x1 x2 x3 x4 x5 x6 h1 h2 h3 h4 h5 h6 h7 h8 h9 h10 h11 h12 h13 h14 h15 h16 h17 h18 h19 h20
    have e0 : x1.toInt = Q.2.2.1 s.1 s.2.1 0 := by rw [h1]; exact c0
    have l18 : Q.2.2.1 s.1 s.2.1 0 ≤ 18 := by
      rcases rn_row hP g1 g2 with ⟨a, -⟩ | ⟨-, -, -, a⟩
      · exact a
      · unfold edG at a; omega
    have hr := rn_r hP g1 g2 l18
    obtain ⟨hj, r0, r2, r4, r1, r5⟩ := hr
    have v : x3 = va9 Q s := vo_x (by rw [h3]; exact c2) (by rw [h4]; exact c3) r2.1 r2.2 g7 h5
    have u : x5 = vb9 Q s := vo_x (by rw [h14]; exact c4) (by rw [h15]; exact c5) r4.1 r4.2 g7 h16
    have l13 : Q.2.2.1 s.1 s.2.1 0 ≤ 13 := by omega
    exact Or.inr ⟨1, 0, s, st9_z (by omega) (by rw [← u]; exact h17), by rw [ht_x h20]; decide, by decide, han, g5⟩
  · intro x1 x2 x3 x4 x5 x6 x7 x8 x9 x10 h1 h2 h3 h4 h5 h6 h7 h8 h9 h10 h11 h12 h13 h14 h15 h16 h17 h18 h19 h20 h21
    have e0 : x1.toInt = Q.2.2.1 s.1 s.2.1 0 := by rw [h1]; exact c0
    have l18 : Q.2.2.1 s.1 s.2.1 0 ≤ 18 := by
      rcases rn_row hP g1 g2 with ⟨a, -⟩ | ⟨-, -, -, a⟩
      · exact a
      · unfold edG at a; omega
    have hr := rn_r hP g1 g2 l18
    obtain ⟨hj, r0, r2, r4, r1, r5⟩ := hr
    have v : x3 = va9 Q s := vo_x (by rw [h3]; exact c2) (by rw [h4]; exact c3) r2.1 r2.2 g7 h5
    have u : x6 = vb9 Q s := vo_x (by rw [h14]; exact c4) (by rw [h15]; exact c5) r4.1 r4.2 g7 h16
    have l13 : Q.2.2.1 s.1 s.2.1 0 ≤ 13 := by omega
    have nz : ¬ ((Q.2.2.1 s.1 s.2.1 0 = 3 ∨ Q.2.2.1 s.1 s.2.1 0 = 4) ∧ x6.toInt = 0) := by omega
    have c := ca_x (by omega) (by omega) (by rw [e0]; exact nz) h19
    have p := pt_x (by rw [h18]; exact c1) (r1 (by omega)).1 (r1 (by omega)).2 h20
    rw [u] at nz
    refine Or.inl ⟨_, st9_c l13 nz, ag_rw hag hj h21 ?_, hen, han⟩
    rw [p, c, e0, v, u]
  · intro x1 x2 x3 x4 x5 x6 x7 h1 h2 h3 h4 h5 h6 h7 h8 h9 h10 h11 h12 h13 h14 h15 h16 h17 h18 h19
    have e0 : x1.toInt = Q.2.2.1 s.1 s.2.1 0 := by rw [h1]; exact c0
    have l18 : Q.2.2.1 s.1 s.2.1 0 ≤ 18 := by
      rcases rn_row hP g1 g2 with ⟨a, -⟩ | ⟨-, -, -, a⟩
      · exact a
      · unfold edG at a; omega
    have hr := rn_r hP g1 g2 l18
    obtain ⟨hj, r0, r2, r4, r1, r5⟩ := hr
    have v : x3 = va9 Q s := vo_x (by rw [h3]; exact c2) (by rw [h4]; exact c3) r2.1 r2.2 g7 h5
    have u : x6 = vb9 Q s := vo_x (by rw [h14]; exact c4) (by rw [h15]; exact c5) r4.1 r4.2 g7 h16
    have l13 : Q.2.2.1 s.1 s.2.1 0 ≤ 13 := by omega
    exact Or.inr ⟨1, 0, s, st9_z (by omega) (by rw [← u]; exact h17), by rw [ht_x h19]; decide, by decide, han, g5⟩
  · intro x1 x2 x3 x4 x5 x6 x7 x8 x9 x10 h1 h2 h3 h4 h5 h6 h7 h8 h9 h10 h11 h12 h13 h14 h15 h16 h17 h18 h19 h20 h21 h22 h23
    have e0 : x1.toInt = Q.2.2.1 s.1 s.2.1 0 := by rw [h1]; exact c0
    have l18 : Q.2.2.1 s.1 s.2.1 0 ≤ 18 := by
      rcases rn_row hP g1 g2 with ⟨a, -⟩ | ⟨-, -, -, a⟩
      · exact a
      · unfold edG at a; omega
    have hr := rn_r hP g1 g2 l18
    obtain ⟨hj, r0, r2, r4, r1, r5⟩ := hr
    have v : x3 = va9 Q s := vo_x (by rw [h3]; exact c2) (by rw [h4]; exact c3) r2.1 r2.2 g7 h5
    have u : x6 = vb9 Q s := vo_x (by rw [h14]; exact c4) (by rw [h15]; exact c5) r4.1 r4.2 g7 h16
    have l13 : Q.2.2.1 s.1 s.2.1 0 ≤ 13 := by omega
    have nz : ¬ ((Q.2.2.1 s.1 s.2.1 0 = 3 ∨ Q.2.2.1 s.1 s.2.1 0 = 4) ∧ x6.toInt = 0) := by omega
    have c := ca_x (by omega) (by omega) (by rw [e0]; exact nz) h21
    have p := pt_x (by rw [h20]; exact c1) (r1 (by omega)).1 (r1 (by omega)).2 h22
    rw [u] at nz
    refine Or.inl ⟨_, st9_c l13 nz, ag_rw hag hj h23 ?_, hen, han⟩
    rw [p, c, e0, v, u]
  · intro x1 x2 x3 x4 x5 x6 x7 h1 h2 h3 h4 h5 h6 h7 h8 h9 h10 h11 h12 h13 h14 h15 h16 h17 h18 h19 h20
    have e0 : x1.toInt = Q.2.2.1 s.1 s.2.1 0 := by rw [h1]; exact c0
    have l18 : Q.2.2.1 s.1 s.2.1 0 ≤ 18 := by
      rcases rn_row hP g1 g2 with ⟨a, -⟩ | ⟨-, -, -, a⟩
      · exact a
      · unfold edG at a; omega
    have hr := rn_r hP g1 g2 l18
    obtain ⟨hj, r0, r2, r4, r1, r5⟩ := hr
    have v : x3 = va9 Q s := vo_x (by rw [h3]; exact c2) (by rw [h4]; exact c3) r2.1 r2.2 g7 h5
    have u : x6 = vb9 Q s := vo_x (by rw [h14]; exact c4) (by rw [h15]; exact c5) r4.1 r4.2 g7 h16
    have l13 : Q.2.2.1 s.1 s.2.1 0 ≤ 13 := by omega
    exact Or.inr ⟨1, 0, s, st9_z (by omega) (by rw [← u]; exact h17), by rw [ht_x h20]; decide, by decide, han, g5⟩
  · intro x1 x2 x3 x4 x5 x6 x7 h1 h2 h3 h4 h5 h6 h7 h8 h9
    have e0 : x1.toInt = Q.2.2.1 s.1 s.2.1 0 := by rw [h1]; exact c0
    have eo : Q.2.2.1 s.1 s.2.1 0 = 14 := by omega
    have hr := rn_r hP g1 g2 (by omega)
    obtain ⟨hj, r0, r2, r4, r1, r5⟩ := hr
    have v : x4 = va9 Q s := vo_x (by rw [h3]; exact c2) (by rw [h4]; exact c3) r2.1 r2.2 g7 h5
    have p := pt_x (by rw [h7]; exact c1) (r1 (by omega)).1 (r1 (by omega)).2 h8
    exact Or.inl ⟨_, st9_14 eo, ag_rw hag hj h9 (by rw [p, v]), hen, han⟩
  · intro x1 x2 x3 x4 x5 x6 x7 x8 x9 h1 h2 h3 h4 h5 h6 h7 h8 h9 h10 h11
    have e0 : x1.toInt = Q.2.2.1 s.1 s.2.1 0 := by rw [h1]; exact c0
    have eo : Q.2.2.1 s.1 s.2.1 0 = 15 := by omega
    have hr := rn_r hP g1 g2 (by omega)
    obtain ⟨hj, r0, r2, r4, r1, r5⟩ := hr
    obtain ⟨t1, t2⟩ := tn_x hgn g5.2.1 hin h9
    have p := pt_x (by rw [h7]; exact c1) (r1 (by omega)).1 (r1 (by omega)).2 h10
    exact Or.inl ⟨_, st9_15 eo, ag_tk hag hj h11 (by rw [p, t1]) t2, hen, han⟩
  · intro x1 x2 x3 x4 x5 x6 x7 x8 h1 h2 h3 h4 h5 h6 h7 h8 h9 h10 h11
    have e0 : x1.toInt = Q.2.2.1 s.1 s.2.1 0 := by rw [h1]; exact c0
    have eo : Q.2.2.1 s.1 s.2.1 0 = 16 := by omega
    have hr := rn_r hP g1 g2 (by omega)
    obtain ⟨hj, r0, r2, r4, r1, r5⟩ := hr
    have v : x4 = va9 Q s := vo_x (by rw [h3]; exact c2) (by rw [h4]; exact c3) r2.1 r2.2 g7 h5
    rcases as_x h9 with ⟨w1, w2, w3, w4⟩ | ⟨w1, w2, w3, w4⟩
    · exact absurd h10 w2
    · refine Or.inr ⟨5, 0, s, st9_16x eo (by have := g5.1; omega), by rw [ht_x h11]; decide, by decide, han, ?_⟩
      rw [w3, w4]; exact g5
  · intro x1 x2 x3 x4 x5 x6 x7 x8 h1 h2 h3 h4 h5 h6 h7 h8 h9 h10 h11
    have e0 : x1.toInt = Q.2.2.1 s.1 s.2.1 0 := by rw [h1]; exact c0
    have eo : Q.2.2.1 s.1 s.2.1 0 = 16 := by omega
    have hr := rn_r hP g1 g2 (by omega)
    obtain ⟨hj, r0, r2, r4, r1, r5⟩ := hr
    have v : x4 = va9 Q s := vo_x (by rw [h3]; exact c2) (by rw [h4]; exact c3) r2.1 r2.2 g7 h5
    rcases as_x h9 with ⟨w1, w2, w3, w4⟩ | ⟨w1, w2, w3, w4⟩
    · have hlt : s.2.2.2.2.2.1 < 512 := by have := g5.1; omega
      exact Or.inl ⟨_, st9_16 eo hlt, ag_sw hag hj hlt h11 w3 (by rw [w4, v]), hen, han⟩
    · exact absurd w2 h10
  · intro x1 x2 x3 x4 x5 x6 x7 x8 h1 h2 h3 h4 h5 h6 h7 h8 h9 h10 h11
    have e0 : x1.toInt = Q.2.2.1 s.1 s.2.1 0 := by rw [h1]; exact c0
    have eo : Q.2.2.1 s.1 s.2.1 0 = 17 := by omega
    have hr := rn_r hP g1 g2 (by omega)
    obtain ⟨hj, r0, r2, r4, r1, r5⟩ := hr
    have t := sa_x (by rw [h8]; exact c5) (r5 (by omega)).1 (r5 (by omega)).2 g8 h9
    have p := pt_x (by rw [h7]; exact c1) (r1 (by omega)).1 (r1 (by omega)).2 h10
    exact Or.inl ⟨_, st9_17 eo, ag_rw hag hj h11 (by rw [p, t]), hen, han⟩
  · intro x1 x2 x3 x4 x5 x6 x7 x8 x9 h1 h2 h3 h4 h5 h6 h7 h8 h9 h10 h11
    have e0 : x1.toInt = Q.2.2.1 s.1 s.2.1 0 := by rw [h1]; exact c0
    have eo : Q.2.2.1 s.1 s.2.1 0 = 17 := by omega
    have hr := rn_r hP g1 g2 (by omega)
    obtain ⟨hj, r0, r2, r4, r1, r5⟩ := hr
    have t := sa_x (by rw [h8]; exact c5) (r5 (by omega)).1 (r5 (by omega)).2 g8 h9
    have p := pt_x (by rw [h7]; exact c1) (r1 (by omega)).1 (r1 (by omega)).2 h10
    exact Or.inl ⟨_, st9_17 eo, ag_rw hag hj h11 (by rw [p, t]), hen, han⟩
  · intro x1 x2 x3 x4 x5 x6 x7 h1 h2 h3 h4 h5 h6 h7 h8 h9
    have e0 : x1.toInt = Q.2.2.1 s.1 s.2.1 0 := by rw [h1]; exact c0
    have eo : Q.2.2.1 s.1 s.2.1 0 = 18 := by omega
    have hr := rn_r hP g1 g2 (by omega)
    obtain ⟨hj, r0, r2, r4, r1, r5⟩ := hr
    have v : x4 = va9 Q s := vo_x (by rw [h3]; exact c2) (by rw [h4]; exact c3) r2.1 r2.2 g7 h5
    have p := pt_x (by rw [h7]; exact c5) (r5 (by omega)).1 (r5 (by omega)).2 h8
    exact Or.inl ⟨_, st9_18 eo, ag_st hag hj h9 (by rw [p, v]), hen, han⟩
  · intro x1 x2 x3 x4 x5 x6 x7 x8 h1 h2 h3 h4 h5 h6 h7 h8 h9 h10
    have e0 : x1.toInt = Q.2.2.1 s.1 s.2.1 0 := by rw [h1]; exact c0
    have eo : Q.2.2.1 s.1 s.2.1 0 = 19 := by omega
    obtain ⟨⟨d1, d2, d4, d5⟩, dg⟩ := rn_e hP g1 g2 (by omega)
    obtain ⟨g, y1, y2, y3⟩ := rn_g (i := 0) hP g1 (by decide) (by unfold edG at dg; omega)
    have eg : x5.toInt = (g : Int) := by rw [h7, nnE g4, ← y1]; exact (hcd.2.2.1 s.1 g1).2.1
    obtain ⟨z1, z2, z3⟩ := en_x2 hcd.1 eg y2 (hcd.2.2.1 g y2).1 h10
    exact Or.inl ⟨_, st9_19 eo, ag_go hag y1 y2 y3 z1 z3, by rw [z2]; exact hen, han⟩
  · intro x1 x2 x3 x4 x5 x6 x7 x8 h1 h2 h3 h4 h5 h6 h7 h8 h9 h10 h11
    have e0 : x1.toInt = Q.2.2.1 s.1 s.2.1 0 := by rw [h1]; exact c0
    have eo : Q.2.2.1 s.1 s.2.1 0 = 20 := by omega
    obtain ⟨⟨d1, d2, d4, d5⟩, dg⟩ := rn_e hP g1 g2 (by omega)
    have v : x4 = va9 Q s := vo_x (by rw [h3]; exact c2) (by rw [h4]; exact c3) d2.1 d2.2 g7 h5
    obtain ⟨g, y1, y2, y3⟩ := rn_g (i := 1) hP g1 (by decide) (by unfold edG at dg; omega)
    have eg : x5.toInt = (g : Int) := by rw [h8, nnE g4, ← y1]; exact (hcd.2.2.1 s.1 g1).2.2
    obtain ⟨z1, z2, z3⟩ := en_x2 hcd.1 eg y2 (hcd.2.2.1 g y2).1 h11
    rw [v] at h7
    refine Or.inl ⟨_, st9_20 eo, ?_, by rw [z2]; exact hen, han⟩
    rw [if_pos h7]
    exact ag_go hag y1 y2 y3 z1 z3
  · intro x1 x2 x3 x4 x5 x6 x7 x8 h1 h2 h3 h4 h5 h6 h7 h8 h9 h10 h11
    have e0 : x1.toInt = Q.2.2.1 s.1 s.2.1 0 := by rw [h1]; exact c0
    have eo : Q.2.2.1 s.1 s.2.1 0 = 20 := by omega
    obtain ⟨⟨d1, d2, d4, d5⟩, dg⟩ := rn_e hP g1 g2 (by omega)
    have v : x4 = va9 Q s := vo_x (by rw [h3]; exact c2) (by rw [h4]; exact c3) d2.1 d2.2 g7 h5
    obtain ⟨g, y1, y2, y3⟩ := rn_g (i := 0) hP g1 (by decide) (by unfold edG at dg; omega)
    have eg : x5.toInt = (g : Int) := by rw [h8, nnE g4, ← y1]; exact (hcd.2.2.1 s.1 g1).2.1
    obtain ⟨z1, z2, z3⟩ := en_x2 hcd.1 eg y2 (hcd.2.2.1 g y2).1 h11
    rw [v] at h7
    refine Or.inl ⟨_, st9_20 eo, ?_, by rw [z2]; exact hen, han⟩
    rw [if_neg h7]
    exact ag_go hag y1 y2 y3 z1 z3
  · intro x1 x2 x3 x4 x5 h1 h2 h3 h4 h5 h6 h7
    have e0 : x1.toInt = Q.2.2.1 s.1 s.2.1 0 := by rw [h1]; exact c0
    have eo : Q.2.2.1 s.1 s.2.1 0 = 21 := by omega
    obtain ⟨⟨d1, d2, d4, d5⟩, dg⟩ := rn_e hP g1 g2 (by omega)
    have v : x4 = va9 Q s := vo_x (by rw [h3]; exact c2) (by rw [h4]; exact c3) d2.1 d2.2 g7 h5
    exact Or.inr ⟨0, _, s, st9_21 eo, by rw [ht_x h7]; decide, by decide, v, g5⟩
  · intro x1 x2 x3 x4 x5 x6 x7 x8 x9 x10 h1 h2 h3 h4 h5 h6 h7 h8 h9 h10 h11 h12 h13 h14 h15 h16 h17 h18 h19 h20 h21
    have e0 : x1.toInt = Q.2.2.1 s.1 s.2.1 0 := by rw [h1]; exact c0
    have l18 : Q.2.2.1 s.1 s.2.1 0 ≤ 18 := by
      rcases rn_row hP g1 g2 with ⟨a, -⟩ | ⟨-, -, -, a⟩
      · exact a
      · unfold edG at a; omega
    have hr := rn_r hP g1 g2 l18
    obtain ⟨hj, r0, r2, r4, r1, r5⟩ := hr
    have v : x4 = va9 Q s := vo_x (by rw [h3]; exact c2) (by rw [h4]; exact c3) r2.1 r2.2 g7 h5
    have u : x6 = vb9 Q s := vo_x (by rw [h14]; exact c4) (by rw [h15]; exact c5) r4.1 r4.2 g7 h16
    have l13 : Q.2.2.1 s.1 s.2.1 0 ≤ 13 := by omega
    have nz : ¬ ((Q.2.2.1 s.1 s.2.1 0 = 3 ∨ Q.2.2.1 s.1 s.2.1 0 = 4) ∧ x6.toInt = 0) := by omega
    have c := ca_x (by omega) (by omega) (by rw [e0]; exact nz) h19
    have p := pt_x (by rw [h18]; exact c1) (r1 (by omega)).1 (r1 (by omega)).2 h20
    rw [u] at nz
    refine Or.inl ⟨_, st9_c l13 nz, ag_rw hag hj h21 ?_, hen, han⟩
    rw [p, c, e0, v, u]
  · intro x1 x2 x3 x4 x5 x6 x7 h1 h2 h3 h4 h5 h6 h7 h8 h9 h10 h11 h12 h13 h14 h15 h16 h17 h18 h19
    have e0 : x1.toInt = Q.2.2.1 s.1 s.2.1 0 := by rw [h1]; exact c0
    have l18 : Q.2.2.1 s.1 s.2.1 0 ≤ 18 := by
      rcases rn_row hP g1 g2 with ⟨a, -⟩ | ⟨-, -, -, a⟩
      · exact a
      · unfold edG at a; omega
    have hr := rn_r hP g1 g2 l18
    obtain ⟨hj, r0, r2, r4, r1, r5⟩ := hr
    have v : x4 = va9 Q s := vo_x (by rw [h3]; exact c2) (by rw [h4]; exact c3) r2.1 r2.2 g7 h5
    have u : x6 = vb9 Q s := vo_x (by rw [h14]; exact c4) (by rw [h15]; exact c5) r4.1 r4.2 g7 h16
    have l13 : Q.2.2.1 s.1 s.2.1 0 ≤ 13 := by omega
    exact Or.inr ⟨1, 0, s, st9_z (by omega) (by rw [← u]; exact h17), by rw [ht_x h19]; decide, by decide, han, g5⟩
  · intro x1 x2 x3 x4 x5 x6 x7 x8 x9 x10 h1 h2 h3 h4 h5 h6 h7 h8 h9 h10 h11 h12 h13 h14 h15 h16 h17 h18 h19 h20 h21 h22 h23
    have e0 : x1.toInt = Q.2.2.1 s.1 s.2.1 0 := by rw [h1]; exact c0
    have l18 : Q.2.2.1 s.1 s.2.1 0 ≤ 18 := by
      rcases rn_row hP g1 g2 with ⟨a, -⟩ | ⟨-, -, -, a⟩
      · exact a
      · unfold edG at a; omega
    have hr := rn_r hP g1 g2 l18
    obtain ⟨hj, r0, r2, r4, r1, r5⟩ := hr
    have v : x4 = va9 Q s := vo_x (by rw [h3]; exact c2) (by rw [h4]; exact c3) r2.1 r2.2 g7 h5
    have u : x6 = vb9 Q s := vo_x (by rw [h14]; exact c4) (by rw [h15]; exact c5) r4.1 r4.2 g7 h16
    have l13 : Q.2.2.1 s.1 s.2.1 0 ≤ 13 := by omega
    have nz : ¬ ((Q.2.2.1 s.1 s.2.1 0 = 3 ∨ Q.2.2.1 s.1 s.2.1 0 = 4) ∧ x6.toInt = 0) := by omega
    have c := ca_x (by omega) (by omega) (by rw [e0]; exact nz) h21
    have p := pt_x (by rw [h20]; exact c1) (r1 (by omega)).1 (r1 (by omega)).2 h22
    rw [u] at nz
    refine Or.inl ⟨_, st9_c l13 nz, ag_rw hag hj h23 ?_, hen, han⟩
    rw [p, c, e0, v, u]
  · intro x1 x2 x3 x4 x5 x6 x7 h1 h2 h3 h4 h5 h6 h7 h8 h9 h10 h11 h12 h13 h14 h15 h16 h17 h18 h19 h20
    have e0 : x1.toInt = Q.2.2.1 s.1 s.2.1 0 := by rw [h1]; exact c0
    have l18 : Q.2.2.1 s.1 s.2.1 0 ≤ 18 := by
      rcases rn_row hP g1 g2 with ⟨a, -⟩ | ⟨-, -, -, a⟩
      · exact a
      · unfold edG at a; omega
    have hr := rn_r hP g1 g2 l18
    obtain ⟨hj, r0, r2, r4, r1, r5⟩ := hr
    have v : x4 = va9 Q s := vo_x (by rw [h3]; exact c2) (by rw [h4]; exact c3) r2.1 r2.2 g7 h5
    have u : x6 = vb9 Q s := vo_x (by rw [h14]; exact c4) (by rw [h15]; exact c5) r4.1 r4.2 g7 h16
    have l13 : Q.2.2.1 s.1 s.2.1 0 ≤ 13 := by omega
    exact Or.inr ⟨1, 0, s, st9_z (by omega) (by rw [← u]; exact h17), by rw [ht_x h20]; decide, by decide, han, g5⟩
  · intro x1 x2 x3 x4 x5 x6 x7 x8 x9 x10 x11 h1 h2 h3 h4 h5 h6 h7 h8 h9 h10 h11 h12 h13 h14 h15 h16 h17 h18 h19 h20 h21
    have e0 : x1.toInt = Q.2.2.1 s.1 s.2.1 0 := by rw [h1]; exact c0
    have l18 : Q.2.2.1 s.1 s.2.1 0 ≤ 18 := by
      rcases rn_row hP g1 g2 with ⟨a, -⟩ | ⟨-, -, -, a⟩
      · exact a
      · unfold edG at a; omega
    have hr := rn_r hP g1 g2 l18
    obtain ⟨hj, r0, r2, r4, r1, r5⟩ := hr
    have v : x4 = va9 Q s := vo_x (by rw [h3]; exact c2) (by rw [h4]; exact c3) r2.1 r2.2 g7 h5
    have u : x7 = vb9 Q s := vo_x (by rw [h14]; exact c4) (by rw [h15]; exact c5) r4.1 r4.2 g7 h16
    have l13 : Q.2.2.1 s.1 s.2.1 0 ≤ 13 := by omega
    have nz : ¬ ((Q.2.2.1 s.1 s.2.1 0 = 3 ∨ Q.2.2.1 s.1 s.2.1 0 = 4) ∧ x7.toInt = 0) := by omega
    have c := ca_x (by omega) (by omega) (by rw [e0]; exact nz) h19
    have p := pt_x (by rw [h18]; exact c1) (r1 (by omega)).1 (r1 (by omega)).2 h20
    rw [u] at nz
    refine Or.inl ⟨_, st9_c l13 nz, ag_rw hag hj h21 ?_, hen, han⟩
    rw [p, c, e0, v, u]
  · intro x1 x2 x3 x4 x5 x6 x7 x8 h1 h2 h3 h4 h5 h6 h7 h8 h9 h10 h11 h12 h13 h14 h15 h16 h17 h18 h19
    have e0 : x1.toInt = Q.2.2.1 s.1 s.2.1 0 := by rw [h1]; exact c0
    have l18 : Q.2.2.1 s.1 s.2.1 0 ≤ 18 := by
      rcases rn_row hP g1 g2 with ⟨a, -⟩ | ⟨-, -, -, a⟩
      · exact a
      · unfold edG at a; omega
    have hr := rn_r hP g1 g2 l18
    obtain ⟨hj, r0, r2, r4, r1, r5⟩ := hr
    have v : x4 = va9 Q s := vo_x (by rw [h3]; exact c2) (by rw [h4]; exact c3) r2.1 r2.2 g7 h5
    have u : x7 = vb9 Q s := vo_x (by rw [h14]; exact c4) (by rw [h15]; exact c5) r4.1 r4.2 g7 h16
    have l13 : Q.2.2.1 s.1 s.2.1 0 ≤ 13 := by omega
    exact Or.inr ⟨1, 0, s, st9_z (by omega) (by rw [← u]; exact h17), by rw [ht_x h19]; decide, by decide, han, g5⟩
  · intro x1 x2 x3 x4 x5 x6 x7 x8 x9 x10 x11 h1 h2 h3 h4 h5 h6 h7 h8 h9 h10 h11 h12 h13 h14 h15 h16 h17 h18 h19 h20 h21 h22 h23
    have e0 : x1.toInt = Q.2.2.1 s.1 s.2.1 0 := by rw [h1]; exact c0
    have l18 : Q.2.2.1 s.1 s.2.1 0 ≤ 18 := by
      rcases rn_row hP g1 g2 with ⟨a, -⟩ | ⟨-, -, -, a⟩
      · exact a
      · unfold edG at a; omega
    have hr := rn_r hP g1 g2 l18
    obtain ⟨hj, r0, r2, r4, r1, r5⟩ := hr
    have v : x4 = va9 Q s := vo_x (by rw [h3]; exact c2) (by rw [h4]; exact c3) r2.1 r2.2 g7 h5
    have u : x7 = vb9 Q s := vo_x (by rw [h14]; exact c4) (by rw [h15]; exact c5) r4.1 r4.2 g7 h16
    have l13 : Q.2.2.1 s.1 s.2.1 0 ≤ 13 := by omega
    have nz : ¬ ((Q.2.2.1 s.1 s.2.1 0 = 3 ∨ Q.2.2.1 s.1 s.2.1 0 = 4) ∧ x7.toInt = 0) := by omega
    have c := ca_x (by omega) (by omega) (by rw [e0]; exact nz) h21
    have p := pt_x (by rw [h20]; exact c1) (r1 (by omega)).1 (r1 (by omega)).2 h22
    rw [u] at nz
    refine Or.inl ⟨_, st9_c l13 nz, ag_rw hag hj h23 ?_, hen, han⟩
    rw [p, c, e0, v, u]
  · intro x1 x2 x3 x4 x5 x6 x7 x8 h1 h2 h3 h4 h5 h6 h7 h8 h9 h10 h11 h12 h13 h14 h15 h16 h17 h18 h19 h20
    have e0 : x1.toInt = Q.2.2.1 s.1 s.2.1 0 := by rw [h1]; exact c0
    have l18 : Q.2.2.1 s.1 s.2.1 0 ≤ 18 := by
      rcases rn_row hP g1 g2 with ⟨a, -⟩ | ⟨-, -, -, a⟩
      · exact a
      · unfold edG at a; omega
    have hr := rn_r hP g1 g2 l18
    obtain ⟨hj, r0, r2, r4, r1, r5⟩ := hr
    have v : x4 = va9 Q s := vo_x (by rw [h3]; exact c2) (by rw [h4]; exact c3) r2.1 r2.2 g7 h5
    have u : x7 = vb9 Q s := vo_x (by rw [h14]; exact c4) (by rw [h15]; exact c5) r4.1 r4.2 g7 h16
    have l13 : Q.2.2.1 s.1 s.2.1 0 ≤ 13 := by omega
    exact Or.inr ⟨1, 0, s, st9_z (by omega) (by rw [← u]; exact h17), by rw [ht_x h20]; decide, by decide, han, g5⟩
set_option maxHeartbeats 4000000 in
theorem pfl_x2 {a2 : Int32} {Code_lines : Int32} {Machine_givens : Int32} {Code_blocks : Int32} {Machine_given : Nat → Int32} {Code_first : Nat → Int32} {Code_firstGoal : Nat → Int32} {Code_secondGoal : Nat → Int32} {Code_op : Nat → Int32} {Code_set : Nat → Int32} {Code_left : Nat → Int32} {Code_leftNumber : Nat → Int32} {Code_right : Nat → Int32} {Code_rightNumber : Nat → Int32} {s1 : Int32} {s2 : Int32} {s3 : Int32} {s4 : Int32} {s5 : Int32} {s6 : Int32} {s7 : Int32} {s8 : Nat → Int32} {s9 : Nat → Int32} {s10 : Nat → Int32} {k : Nat} {e1 : Int32} {e2 : Int32} {e3 : Int32} {e4 : Int32} {e5 : Int32} {e6 : Int32} {e7 : Nat → Int32} {e8 : Nat → Int32} {e9 : Nat → Int32} (hP : rnP Q) (hcd : cdP Code_blocks Code_lines Code_first Code_firstGoal Code_secondGoal Code_op Code_set Code_left Code_leftNumber Code_right Code_rightNumber Q) (hgn : Machine_givens.toInt = (gn : Int)) (hin : ∀ i, i < gn → Machine_given i = inp i) (h : tl_Machine_perform2_49 a2 Code_lines Machine_givens Code_blocks Machine_given Code_first Code_firstGoal Code_secondGoal Code_op Code_set Code_left Code_leftNumber Code_right Code_rightNumber s1 s2 s3 s4 s5 s6 s7 s8 s9 s10 k e1 e2 e3 e4 e5 e6 e7 e8 e9) : (s3.toInt ≠ -2 → e2 = s5 ∧ e3 = s6 ∧ e4 = s2 ∧ e5 = s7 ∧ e6 = s3 ∧ e7 = s8) ∧ (s3.toInt = -2 → s5 = 0 → ∀ (s : gM9) (t f : Nat), s2.toInt = (t : Int) → a2.toInt = ((t + f : Nat) : Int) → ag9 Q s s1 s4 s6 s7 s8 s9 s10 → en9 (rn9 Q inp gn f t s) e2 e3 e4 e5 e6 e7) := by
  refine h (fun s1 s2 s3 s4 s5 s6 s7 s8 s9 s10 k e1 e2 e3 e4 e5 e6 e7 e8 e9 => (s3.toInt ≠ -2 → e2 = s5 ∧ e3 = s6 ∧ e4 = s2 ∧ e5 = s7 ∧ e6 = s3 ∧ e7 = s8) ∧ (s3.toInt = -2 → s5 = 0 → ∀ (s : gM9) (t f : Nat), s2.toInt = (t : Int) → a2.toInt = ((t + f : Nat) : Int) → ag9 Q s s1 s4 s6 s7 s8 s9 s10 → en9 (rn9 Q inp gn f t s) e2 e3 e4 e5 e6 e7)) ?_ ?_ ?_ ?_ ?_
  · intro l3_1 Machine_steps_1 Machine_ending_1 Machine_block_1 Machine_answer_1 Machine_showCount_1 Machine_taken_1 Machine_shows_1 Machine_registers_1 Machine_slots_1 h1 h2 h3 h4 h5 h6
    refine ⟨fun _ => ⟨rfl, rfl, rfl, rfl, rfl, rfl⟩, fun he ha s t f ht hf hag => ?_⟩
    have f0 : f = 0 := by omega
    rw [f0, rn9_0]
    exact ⟨Or.inr ⟨he, rfl⟩, ha, ht, hag.2.2.2.2.1⟩
  · intro l3_1 Machine_steps_1 Machine_ending_1 Machine_block_1 Machine_answer_1 Machine_showCount_1 Machine_taken_1 Machine_shows_1 Machine_registers_1 Machine_slots_1 h1 h2 h3 h4 h5 h6 h7
    refine ⟨fun _ => ⟨rfl, rfl, rfl, rfl, rfl, rfl⟩, fun he ha s t f ht hf hag => ?_⟩
    exact absurd he h7
  · intro l3_1 Machine_steps_1 Machine_ending_1 Machine_block_1 Machine_answer_1 Machine_showCount_1 Machine_taken_1 Machine_shows_1 Machine_registers_1 Machine_slots_1 x1 x2 k e1 e2 e3 e4 e5 e6 e7 e8 e9 h1 h2 h3 h4 h5 h6 h7 h8 h9 h10 ih
    refine ⟨fun he => absurd h7 he, fun he ha s t f ht hf hag => ?_⟩
    obtain ⟨g1, g2, g3, -⟩ := hag
    have q := fsm_lt g1 g2
    have q2 := hcd.2.1
    omega
  · intro l3_1 Machine_steps_1 Machine_ending_1 Machine_block_1 Machine_answer_1 Machine_showCount_1 Machine_taken_1 Machine_shows_1 Machine_registers_1 Machine_slots_1 x1 x2 k e1 e2 e3 e4 e5 e6 e7 e8 e9 h1 h2 h3 h4 h5 h6 h7 h8 h9 h10 h11 ih
    refine ⟨fun he => absurd h7 he, fun he ha s t f ht hf hag => ?_⟩
    obtain ⟨g1, g2, g3, -⟩ := hag
    have q := fsm_lt g1 g2
    have q2 := hcd.2.1
    omega
  · intro l3_1 Machine_steps_1 Machine_ending_1 Machine_block_1 Machine_answer_1 Machine_showCount_1 Machine_taken_1 Machine_shows_1 Machine_registers_1 Machine_slots_1 x1 x2 x3 x4 x5 x6 x7 x8 x9 x10 k e1 e2 e3 e4 e5 e6 e7 e8 e9 h1 h2 h3 h4 h5 h6 h7 h8 h9 h10 h11 h12 h13 h14 h15 ih
    refine ⟨fun he => absurd h7 he, fun he ha s t f ht hf hag => ?_⟩
    obtain ⟨f1, rfl⟩ : ∃ f1, f = f1 + 1 := ⟨f - 1, by omega⟩
    rcases stp_x2 hP hcd hgn hin hag he ha h14 with ⟨s2, w1, w2, w3, w4⟩ | ⟨e, a, s2, w1, w2, w3, w4, w5⟩
    · rw [rn9_n w1]
      exact ih.2 w3 w4 s2 (t + 1) f1 (by rw [h15]; omega) (by omega) w2
    · rw [rn9_s w1]
      obtain ⟨y1, y2, y3, y4, y5, y6⟩ := ih.1 (by omega)
      rw [y1, y2, y3, y4, y5, y6]
      exact ⟨Or.inl ⟨w2, w3⟩, w4, by show _ = ((t + 1 : Nat) : Int); omega, w5⟩
theorem pf_x2 {a2 : Int32} {Machine_givens : Int32} {Code_blocks : Int32} {Code_lines : Int32} {Machine_given : Nat → Int32} {Machine_registers : Nat → Int32} {Machine_slots : Nat → Int32} {Machine_shows : Nat → Int32} {Code_first : Nat → Int32} {Code_firstGoal : Nat → Int32} {Code_secondGoal : Nat → Int32} {Code_op : Nat → Int32} {Code_set : Nat → Int32} {Code_left : Nat → Int32} {Code_leftNumber : Nat → Int32} {Code_right : Nat → Int32} {Code_rightNumber : Nat → Int32} {o1 : Int32} {o2 : Int32} {o3 : Int32} {o4 : Int32} {o5 : Int32} {o6 : Int32} {o7 : Nat → Int32} {o8 : Nat → Int32} {o9 : Nat → Int32} (hP : rnP Q) (hcd : cdP Code_blocks Code_lines Code_first Code_firstGoal Code_secondGoal Code_op Code_set Code_left Code_leftNumber Code_right Code_rightNumber Q) (hgn : Machine_givens.toInt = (gn : Int)) (hin : ∀ i, i < gn → Machine_given i = inp i) (ha : 0 ≤ a2.toInt) (h : tr_Machine_perform2 a2 Machine_givens Code_blocks Code_lines Machine_given Machine_registers Machine_slots Machine_shows Code_first Code_firstGoal Code_secondGoal Code_op Code_set Code_left Code_leftNumber Code_right Code_rightNumber o1 o2 o3 o4 o5 o6 o7 o8 o9) : ∃ r, r = rn9 Q inp gn a2.toInt.toNat 0 in9 ∧ o6.toInt = r.1 ∧ o2 = r.2.1 ∧ o4.toInt = (r.2.2.1 : Int) ∧ ag8 r.2.2.2 o3 o5 o9 := by
  refine h (fun o1 o2 o3 o4 o5 o6 o7 o8 o9 => ∃ r, r = rn9 Q inp gn a2.toInt.toNat 0 in9 ∧ o6.toInt = r.1 ∧ o2 = r.2.1 ∧ o4.toInt = (r.2.2.1 : Int) ∧ ag8 r.2.2.2 o3 o5 o9) ?_ ?_
  · intro x1 x2 x3 x4 x5 x6 x7 x8 x9 x10 x11 h1 h2 h3 h4
    have q := (pfl_x2 hP hcd hgn hin h3).2 (by decide) rfl in9 0 a2.toInt.toNat (by decide) (by omega) ⟨hP.1.1, (hP.2.2.1 0 hP.1.1).1, (by show Int32.toInt 0 = (0 : Int); decide), by decide, ⟨by decide, by decide, fun i hi => absurd hi (Nat.not_lt_zero i)⟩, by decide, fun i hi => fz3_tr h1 i hi, fun i hi => fz3_tr h2 i hi⟩
    obtain ⟨y1, y2, y3, y4⟩ := q
    refine ⟨_, rfl, ?_, y2, y3, y4⟩
    omega
  · intro x1 x2 x3 x4 x5 x6 x7 x8 x9 x10 x11 h1 h2 h3 h4
    have q := (pfl_x2 hP hcd hgn hin h3).2 (by decide) rfl in9 0 a2.toInt.toNat (by decide) (by omega) ⟨hP.1.1, (hP.2.2.1 0 hP.1.1).1, (by show Int32.toInt 0 = (0 : Int); decide), by decide, ⟨by decide, by decide, fun i hi => absurd hi (Nat.not_lt_zero i)⟩, by decide, fun i hi => fz3_tr h1 i hi, fun i hi => fz3_tr h2 i hi⟩
    obtain ⟨y1, y2, y3, y4⟩ := q
    refine ⟨_, rfl, ?_, y2, y3, y4⟩
    have z4 : Int32.toInt 4 = 4 := by decide
    rcases y1 with ⟨y1, y1p⟩ | y1
    · omega
    · rw [z4]; exact y1.2.symm
end PFC
