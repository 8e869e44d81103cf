section GWC
variable {P : gPg} {dp : Nat → Nat}
theorem gv7_tl {a2 : Int32} {Loops_depth : Nat → Int32} {s1 : Int32} {s2 : Int32} {s3 : Int32} {s4 : Int32} {s5 : Int32} {s6 : Int32} {s7 : Int32} {s8 : Int32} {s9 : Int32} {s10 : Nat → Int32} {s11 : Int32} {s12 : Int32} {s13 : Int32} {s14 : Int32} {s15 : Int32} {s16 : Int32} {s17 : Int32} {s18 : Int32} {s19 : Int32} {s20 : Nat → Int64} {s21 : Nat → Int64} {s22 : Nat → Int32} {s23 : Nat → Int32} {s24 : Nat → Int32} {s25 : Nat → Int32} {s26 : Nat → Int32} {s27 : Nat → Int32} {s28 : Nat → Int32} {s29 : Nat → Int32} {s30 : Nat → Int32} {s31 : Nat → Int32} {s32 : Nat → Int32} {s33 : Nat → Int32} {s34 : Nat → Int32} {s35 : Nat → Int32} {s36 : Nat → Int32} {s37 : Nat → Int32} {s38 : Nat → Int32} {s39 : Nat → Int32} {s40 : Nat → Int32} {s41 : Nat → Int32} {s42 : Nat → Int32} {s43 : Nat → Int32} {s44 : Nat → Int32} {s45 : Nat → Int32} {s46 : Nat → Int64} {s47 : Nat → Int64} {s48 : Nat → Int64} {s49 : Nat → Int64} {k : Nat} {e1 : Int32} {e2 : Int32} {e3 : Int32} {e4 : Int32} {e5 : Int32} {e6 : Int32} {e7 : Int32} {e8 : Int32} {e9 : Nat → Int32} {e10 : Int32} {e11 : Int32} {e12 : Int32} {e13 : Int32} {e14 : Int32} {e15 : Int32} {e16 : Int32} {e17 : Int32} {e18 : Int32} {e19 : Nat → Int64} {e20 : Nat → Int64} {e21 : Nat → Int32} {e22 : Nat → Int32} {e23 : Nat → Int32} {e24 : Nat → Int32} {e25 : Nat → Int32} {e26 : Nat → Int32} {e27 : Nat → Int32} {e28 : Nat → Int32} {e29 : Nat → Int32} {e30 : Nat → Int32} {e31 : Nat → Int32} {e32 : Nat → Int32} {e33 : Nat → Int32} {e34 : Nat → Int32} {e35 : Nat → Int32} {e36 : Nat → Int32} {e37 : Nat → Int32} {e38 : Nat → Int32} {e39 : Nat → Int32} {e40 : Nat → Int32} {e41 : Nat → Int32} {e42 : Nat → Int32} {e43 : Nat → Int32} {e44 : Nat → Int32} {e45 : Nat → Int64} {e46 : Nat → Int64} {e47 : Nat → Int64} {e48 : Nat → Int64} {e49 : Int32} (hk1 : 1 ≤ a2.toInt) (hk2 : a2.toInt ≤ 32) (h : tl_Giver_giveOut_7 a2 Loops_depth s1 s2 s3 s4 s5 s6 s7 s8 s9 s10 s11 s12 s13 s14 s15 s16 s17 s18 s19 s20 s21 s22 s23 s24 s25 s26 s27 s28 s29 s30 s31 s32 s33 s34 s35 s36 s37 s38 s39 s40 s41 s42 s43 s44 s45 s46 s47 s48 s49 k e1 e2 e3 e4 e5 e6 e7 e8 e9 e10 e11 e12 e13 e14 e15 e16 e17 e18 e19 e20 e21 e22 e23 e24 e25 e26 e27 e28 e29 e30 e31 e32 e33 e34 e35 e36 e37 e38 e39 e40 e41 e42 e43 e44 e45 e46 e47 e48 e49) : ∀ (Q : gPg) (nm sl t : Nat), s1.toInt = (t : Int) → 1 ≤ t → t ≤ 41 → s2.toInt = (nm : Int) → s3.toInt = (sl : Int) → sl ≤ 100 * t → cdP s11 s12 s28 s29 s30 s31 s32 s33 s34 s35 s36 Q → gvI Q nm → (∀ b, b < Q.1 → (Loops_depth b).toInt = (dp b : Int)) → (∀ v, v < 100 → Sd Q false 2000 v → (s10 v).toInt = -1) → ∃ r Z, GVr a2.toInt dp (41 - t) t Q nm sl r Z ∧ (k = 52 → r = e49.toInt ∧ 1 ≤ r ∧ cdP e10 e11 e27 e28 e29 e30 e31 e32 e33 e34 e35 Z.1 ∧ (∀ u, u < 720 → (e26 u).toInt = Z.2.1 u) ∧ e2.toInt = (Z.2.2 : Int)) ∧ (k ≠ 52 → r = -1) := by
  refine h (fun s1 s2 s3 s4 s5 s6 s7 s8 s9 s10 s11 s12 s13 s14 s15 s16 s17 s18 s19 s20 s21 s22 s23 s24 s25 s26 s27 s28 s29 s30 s31 s32 s33 s34 s35 s36 s37 s38 s39 s40 s41 s42 s43 s44 s45 s46 s47 s48 s49 k e1 e2 e3 e4 e5 e6 e7 e8 e9 e10 e11 e12 e13 e14 e15 e16 e17 e18 e19 e20 e21 e22 e23 e24 e25 e26 e27 e28 e29 e30 e31 e32 e33 e34 e35 e36 e37 e38 e39 e40 e41 e42 e43 e44 e45 e46 e47 e48 e49 => ∀ (Q : gPg) (nm sl t : Nat), s1.toInt = (t : Int) → 1 ≤ t → t ≤ 41 → s2.toInt = (nm : Int) → s3.toInt = (sl : Int) → sl ≤ 100 * t → cdP s11 s12 s28 s29 s30 s31 s32 s33 s34 s35 s36 Q → gvI Q nm → (∀ b, b < Q.1 → (Loops_depth b).toInt = (dp b : Int)) → (∀ v, v < 100 → Sd Q false 2000 v → (s10 v).toInt = -1) → ∃ r Z, GVr a2.toInt dp (41 - t) t Q nm sl r Z ∧ (k = 52 → r = e49.toInt ∧ 1 ≤ r ∧ cdP e10 e11 e27 e28 e29 e30 e31 e32 e33 e34 e35 Z.1 ∧ (∀ u, u < 720 → (e26 u).toInt = Z.2.1 u) ∧ e2.toInt = (Z.2.2 : Int)) ∧ (k ≠ 52 → r = -1)) ?_ ?_ ?_ ?_ ?_
  · intro l3_1 Giver_names_1 Giver_slots_1 Giver_spilled_1 Giver_merged_1 Graph_names_1 Graph_words_1 Colouring_restSize_1 Colouring_pileSize_1 Giver_slotOf_1 Code_blocks_1 Code_lines_1 Code_isFull_1 Code_blocks_11 Code_lines_11 Code_isFull_11 Live_names_1 Live_words_1 Live_ofSlots_1 Graph_joined_1 Graph_standing_1 Graph_degree_1 Colouring_weight_1 Colouring_degree_1 Colouring_rest_1 Colouring_pile_1 Colouring_colour_1 Code_first_1 Code_firstGoal_1 Code_secondGoal_1 Code_op_1 Code_set_1 Code_left_1 Code_leftNumber_1 Code_right_1 Code_rightNumber_1 Code_first_11 Code_firstGoal_11 Code_secondGoal_11 Code_op_11 Code_set_11 Code_left_11 Code_leftNumber_11 Code_right_11 Code_rightNumber_11 Live_in_1 Live_used_1 Live_set_1 Live_now_1 h1 h2 h3 h4 h5 h6 h7 h8 h9 h10 h11 h12 h13 h14 h15 h16
    intro Q nm sl t ht h1t ht41 hnm hsl hsl2 hc hi hdp hso
    have e : t = 41 := by omega
    rw [e]
    exact ⟨-1, (pgO, fun _ => -1, 0), ⟨rfl, rfl⟩, fun z => (nomatch z), fun _ => rfl⟩
  · intro l3_1 Giver_names_1 Giver_slots_1 Giver_spilled_1 Giver_merged_1 Graph_names_1 Graph_words_1 Colouring_restSize_1 Colouring_pileSize_1 Giver_slotOf_1 Code_blocks_1 Code_lines_1 Code_isFull_1 Code_blocks_11 Code_lines_11 Code_isFull_11 Live_names_1 Live_words_1 Live_ofSlots_1 Graph_joined_1 Graph_standing_1 Graph_degree_1 Colouring_weight_1 Colouring_degree_1 Colouring_rest_1 Colouring_pile_1 Colouring_colour_1 Code_first_1 Code_firstGoal_1 Code_secondGoal_1 Code_op_1 Code_set_1 Code_left_1 Code_leftNumber_1 Code_right_1 Code_rightNumber_1 Code_first_11 Code_firstGoal_11 Code_secondGoal_11 Code_op_11 Code_set_11 Code_left_11 Code_leftNumber_11 Code_right_11 Code_rightNumber_11 Live_in_1 Live_used_1 Live_set_1 Live_now_1 x1 x2 x3 x4 x5 x6 x7 x8 x9 x10 x11 x12 x13 x14 x15 x16 x17 x18 x19 x20 x21 x22 x23 x24 x25 x26 x27 x28 x29 x30 x31 x32 x33 x34 x35 x36 x37 x38 x39 x40 x41 x42 x43 x44 x45 x46 x47 x48 x49 x50 x51 x52 x53 x54 x55 x56 x57 x58 x59 k e1 e2 e3 e4 e5 e6 e7 e8 e9 e10 e11 e12 e13 e14 e15 e16 e17 e18 e19 e20 e21 e22 e23 e24 e25 e26 e27 e28 e29 e30 e31 e32 e33 e34 e35 e36 e37 e38 e39 e40 e41 e42 e43 e44 e45 e46 e47 e48 e49 h1 h2 h3 h4 h5 h6 h7 h8 h9 h10 h11 h12 h13 h14 h15 h16 h17 h18 h19 h20 h21 h22 h23 h24 h25 h26 h27 h28 h29 h30 h31 h32 h33 h34 h35 h36 h37 h38 h39 h40 h41 h42 h43 ih
    intro Q nm sl t ht h1t ht41 hnm hsl hsl2 hc hi hdp hso
    obtain ⟨i1, i2, i3, i4, i5, i6⟩ := hi
    obtain ⟨m, R, m1, m2, m3⟩ := mgc_tr hc i1 hnm (by omega) h23
    obtain ⟨gR, sR⟩ := gvI_m ⟨i1, i2, i3, i4, i5, i6⟩ m1
    have nR : R.1 = Q.1 := (MGn_f i1 i1 m1).2.2.2.1
    have wv := wg_tr (dp := dp) m2 gR.2.2.2.2.1 (fun b hb => hdp b (by omega)) h24
    obtain ⟨lf, l1, n, p, l2, l3, l4⟩ := tap_tr m3 (by omega) h27
    have ta : TA (JJ R) (fun v => wPg R dp v R.1) a2.toInt n (Sd R false 2000) (dgc R) p := TA_c (fun v hv => by
      have q := (Sd_i gR.1 (Nat.le_refl _) hv).2
      exact ⟨wv v (by omega), l1 v q⟩) l3
    have rd : rnd a2.toInt dp Q R n p := ⟨⟨m, m1⟩, ta⟩
    obtain ⟨p1, p2⟩ := ptg_tr m3 (by omega) (by omega) hk2 l2 l4 h29
    have ef : 41 - t = (40 - t) + 1 := by omega
    rw [ef]
    have bd : bdN (JJ R) a2.toInt p n n := Classical.byContradiction fun z => p2.mpr z h30
    have gs := gsl_tr (sl := sl) m3 (by omega) p1 hnm (by omega) hsl (by omega) h32
    rcases gs with ⟨g1, -⟩ | ⟨-, g2, g3, g4, g5⟩
    · exact absurd g1 h33
    have so0 : ∀ v, v < 100 → Sd R false 2000 v → (x33 v).toInt = soU (unc R (clN (JJ R) a2.toInt p n n)) sl v := fun v hv hs => by
      by_cases c : unc R (clN (JJ R) a2.toInt p n n) v
      · rw [g4 v hv c, soU_p c]
      · rw [g5 v (fun z => c z.2), soU_0 c]
        exact hso v hv (sR v hs)
    have eq : spP (fun v => (x33 v).toInt) R nm R.1 = spP (soU (unc R (clN (JJ R) a2.toInt p n n)) sl) R nm R.1 := spP_c R.1 (fun c j hc hj f hf => by
      unfold slf
      by_cases z : 0 ≤ R.2.2.1 c j f ∧ R.2.2.1 c j f < 100
      · rw [if_pos z, if_pos z]
        exact so0 _ (by omega) (Sd_f hc hj hf z.1 (by omega))
      · rw [if_neg z, if_neg z])
    obtain ⟨q1, q2, q3, q4⟩ := spP_i (so := soU (unc R (clN (JJ R) a2.toInt p n n)) sl) gR
    obtain ⟨s1, s2, s3⟩ := spa_tr m2 gR.2.2.2.2.1 gR.2.1 (by rw [eq]; exact q3) (by rw [eq]; exact q4) hnm h41
    rw [eq] at s1 s2
    have cu := cntP_le (T := unc R (clN (JJ R) a2.toInt p n n)) 100
    have nQ : (spP (soU (unc R (clN (JJ R) a2.toInt p n n)) sl) R nm R.1).1.1 = R.1 := (spP_k (so := soU (unc R (clN (JJ R) a2.toInt p n n)) sl) (Q := R) gR.2.1 R.1).1
    obtain ⟨r, Z, r1, r2, r3⟩ := ih (spP (soU (unc R (clN (JJ R) a2.toInt p n n)) sl) R nm R.1).1 (spP (soU (unc R (clN (JJ R) a2.toInt p n n)) sl) R nm R.1).2 (sl + cntP (unc R (clN (JJ R) a2.toInt p n n)) 100) (t + 1) (by omega) (by omega) (by omega) s1 g3 (by omega) s2 q2 (fun b hb => hdp b (by omega)) (fun v hv hs => by
      obtain ⟨z1, z2⟩ := nw_Sd q1 hs hv
      rw [so0 v hv z2]
      exact z1)
    rw [show 41 - (t + 1) = 40 - t by omega] at r1
    exact ⟨r, Z, ⟨R, n, p, rd, Or.inr (Or.inr ⟨bd, g2, r1⟩)⟩, r2, r3⟩
  · intro l3_1 Giver_names_1 Giver_slots_1 Giver_spilled_1 Giver_merged_1 Graph_names_1 Graph_words_1 Colouring_restSize_1 Colouring_pileSize_1 Giver_slotOf_1 Code_blocks_1 Code_lines_1 Code_isFull_1 Code_blocks_11 Code_lines_11 Code_isFull_11 Live_names_1 Live_words_1 Live_ofSlots_1 Graph_joined_1 Graph_standing_1 Graph_degree_1 Colouring_weight_1 Colouring_degree_1 Colouring_rest_1 Colouring_pile_1 Colouring_colour_1 Code_first_1 Code_firstGoal_1 Code_secondGoal_1 Code_op_1 Code_set_1 Code_left_1 Code_leftNumber_1 Code_right_1 Code_rightNumber_1 Code_first_11 Code_firstGoal_11 Code_secondGoal_11 Code_op_11 Code_set_11 Code_left_11 Code_leftNumber_11 Code_right_11 Code_rightNumber_11 Live_in_1 Live_used_1 Live_set_1 Live_now_1 x1 x2 x3 x4 x5 x6 x7 x8 x9 x10 x11 x12 x13 x14 x15 x16 x17 x18 x19 x20 x21 x22 x23 x24 x25 x26 x27 x28 x29 x30 x31 x32 x33 x34 x35 x36 x37 x38 x39 x40 x41 x42 x43 x44 x45 x46 x47 x48 x49 x50 x51 x52 x53 x54 x55 x56 x57 x58 h1 h2 h3 h4 h5 h6 h7 h8 h9 h10 h11 h12 h13 h14 h15 h16 h17 h18 h19 h20 h21 h22 h23 h24 h25 h26 h27 h28 h29 h30 h31 h32 h33 h34 h35 h36 h37 h38 h39 h40 h41 h42
    intro Q nm sl t ht h1t ht41 hnm hsl hsl2 hc hi hdp hso
    obtain ⟨i1, i2, i3, i4, i5, i6⟩ := hi
    obtain ⟨m, R, m1, m2, m3⟩ := mgc_tr hc i1 hnm (by omega) h23
    obtain ⟨gR, sR⟩ := gvI_m ⟨i1, i2, i3, i4, i5, i6⟩ m1
    have nR : R.1 = Q.1 := (MGn_f i1 i1 m1).2.2.2.1
    have wv := wg_tr (dp := dp) m2 gR.2.2.2.2.1 (fun b hb => hdp b (by omega)) h24
    obtain ⟨lf, l1, n, p, l2, l3, l4⟩ := tap_tr m3 (by omega) h27
    have ta : TA (JJ R) (fun v => wPg R dp v R.1) a2.toInt n (Sd R false 2000) (dgc R) p := TA_c (fun v hv => by
      have q := (Sd_i gR.1 (Nat.le_refl _) hv).2
      exact ⟨wv v (by omega), l1 v q⟩) l3
    have rd : rnd a2.toInt dp Q R n p := ⟨⟨m, m1⟩, ta⟩
    obtain ⟨p1, p2⟩ := ptg_tr m3 (by omega) (by omega) hk2 l2 l4 h29
    have ef : 41 - t = (40 - t) + 1 := by omega
    rw [ef]
    have bd : bdN (JJ R) a2.toInt p n n := Classical.byContradiction fun z => p2.mpr z h30
    have gs := gsl_tr (sl := sl) m3 (by omega) p1 hnm (by omega) hsl (by omega) h32
    rcases gs with ⟨g1, -⟩ | ⟨-, g2, g3, g4, g5⟩
    · exact absurd g1 h33
    have so0 : ∀ v, v < 100 → Sd R false 2000 v → (x33 v).toInt = soU (unc R (clN (JJ R) a2.toInt p n n)) sl v := fun v hv hs => by
      by_cases c : unc R (clN (JJ R) a2.toInt p n n) v
      · rw [g4 v hv c, soU_p c]
      · rw [g5 v (fun z => c z.2), soU_0 c]
        exact hso v hv (sR v hs)
    have eq : spP (fun v => (x33 v).toInt) R nm R.1 = spP (soU (unc R (clN (JJ R) a2.toInt p n n)) sl) R nm R.1 := spP_c R.1 (fun c j hc hj f hf => by
      unfold slf
      by_cases z : 0 ≤ R.2.2.1 c j f ∧ R.2.2.1 c j f < 100
      · rw [if_pos z, if_pos z]
        exact so0 _ (by omega) (Sd_f hc hj hf z.1 (by omega))
      · rw [if_neg z, if_neg z])
    obtain ⟨q1, q2, q3, q4⟩ := spP_i (so := soU (unc R (clN (JJ R) a2.toInt p n n)) sl) gR
    obtain ⟨s1, s2, s3⟩ := spa_tr m2 gR.2.2.2.2.1 gR.2.1 (by rw [eq]; exact q3) (by rw [eq]; exact q4) hnm h41
    rw [eq] at s1 s2
    exact absurd s3 h42
  · intro l3_1 Giver_names_1 Giver_slots_1 Giver_spilled_1 Giver_merged_1 Graph_names_1 Graph_words_1 Colouring_restSize_1 Colouring_pileSize_1 Giver_slotOf_1 Code_blocks_1 Code_lines_1 Code_isFull_1 Code_blocks_11 Code_lines_11 Code_isFull_11 Live_names_1 Live_words_1 Live_ofSlots_1 Graph_joined_1 Graph_standing_1 Graph_degree_1 Colouring_weight_1 Colouring_degree_1 Colouring_rest_1 Colouring_pile_1 Colouring_colour_1 Code_first_1 Code_firstGoal_1 Code_secondGoal_1 Code_op_1 Code_set_1 Code_left_1 Code_leftNumber_1 Code_right_1 Code_rightNumber_1 Code_first_11 Code_firstGoal_11 Code_secondGoal_11 Code_op_11 Code_set_11 Code_left_11 Code_leftNumber_11 Code_right_11 Code_rightNumber_11 Live_in_1 Live_used_1 Live_set_1 Live_now_1 x1 x2 x3 x4 x5 x6 x7 x8 x9 x10 x11 x12 x13 x14 x15 x16 x17 x18 x19 x20 x21 x22 x23 x24 x25 x26 x27 x28 x29 x30 x31 x32 x33 h1 h2 h3 h4 h5 h6 h7 h8 h9 h10 h11 h12 h13 h14 h15 h16 h17 h18 h19 h20 h21 h22 h23 h24 h25 h26 h27 h28 h29 h30 h31 h32 h33
    intro Q nm sl t ht h1t ht41 hnm hsl hsl2 hc hi hdp hso
    obtain ⟨i1, i2, i3, i4, i5, i6⟩ := hi
    obtain ⟨m, R, m1, m2, m3⟩ := mgc_tr hc i1 hnm (by omega) h23
    obtain ⟨gR, sR⟩ := gvI_m ⟨i1, i2, i3, i4, i5, i6⟩ m1
    have nR : R.1 = Q.1 := (MGn_f i1 i1 m1).2.2.2.1
    have wv := wg_tr (dp := dp) m2 gR.2.2.2.2.1 (fun b hb => hdp b (by omega)) h24
    obtain ⟨lf, l1, n, p, l2, l3, l4⟩ := tap_tr m3 (by omega) h27
    have ta : TA (JJ R) (fun v => wPg R dp v R.1) a2.toInt n (Sd R false 2000) (dgc R) p := TA_c (fun v hv => by
      have q := (Sd_i gR.1 (Nat.le_refl _) hv).2
      exact ⟨wv v (by omega), l1 v q⟩) l3
    have rd : rnd a2.toInt dp Q R n p := ⟨⟨m, m1⟩, ta⟩
    obtain ⟨p1, p2⟩ := ptg_tr m3 (by omega) (by omega) hk2 l2 l4 h29
    have ef : 41 - t = (40 - t) + 1 := by omega
    rw [ef]
    have bd : bdN (JJ R) a2.toInt p n n := Classical.byContradiction fun z => p2.mpr z h30
    have gs := gsl_tr (sl := sl) m3 (by omega) p1 hnm (by omega) hsl (by omega) h32
    rcases gs with ⟨g1, g2⟩ | ⟨g1, -⟩
    · exact ⟨-1, (pgO, fun _ => -1, 0), ⟨R, n, p, rd, Or.inr (Or.inl ⟨bd, g2, rfl, rfl⟩)⟩, fun z => (nomatch z), fun _ => rfl⟩
    · exact absurd h33 g1
  · intro l3_1 Giver_names_1 Giver_slots_1 Giver_spilled_1 Giver_merged_1 Graph_names_1 Graph_words_1 Colouring_restSize_1 Colouring_pileSize_1 Giver_slotOf_1 Code_blocks_1 Code_lines_1 Code_isFull_1 Code_blocks_11 Code_lines_11 Code_isFull_11 Live_names_1 Live_words_1 Live_ofSlots_1 Graph_joined_1 Graph_standing_1 Graph_degree_1 Colouring_weight_1 Colouring_degree_1 Colouring_rest_1 Colouring_pile_1 Colouring_colour_1 Code_first_1 Code_firstGoal_1 Code_secondGoal_1 Code_op_1 Code_set_1 Code_left_1 Code_leftNumber_1 Code_right_1 Code_rightNumber_1 Code_first_11 Code_firstGoal_11 Code_secondGoal_11 Code_op_11 Code_set_11 Code_left_11 Code_leftNumber_11 Code_right_11 Code_rightNumber_11 Live_in_1 Live_used_1 Live_set_1 Live_now_1 x1 x2 x3 x4 x5 x6 x7 x8 x9 x10 x11 x12 x13 x14 x15 x16 x17 x18 x19 x20 x21 x22 x23 x24 x25 x26 x27 x28 x29 h1 h2 h3 h4 h5 h6 h7 h8 h9 h10 h11 h12 h13 h14 h15 h16 h17 h18 h19 h20 h21 h22 h23 h24 h25 h26 h27 h28 h29 h30
    intro Q nm sl t ht h1t ht41 hnm hsl hsl2 hc hi hdp hso
    obtain ⟨i1, i2, i3, i4, i5, i6⟩ := hi
    obtain ⟨m, R, m1, m2, m3⟩ := mgc_tr hc i1 hnm (by omega) h23
    obtain ⟨gR, sR⟩ := gvI_m ⟨i1, i2, i3, i4, i5, i6⟩ m1
    have nR : R.1 = Q.1 := (MGn_f i1 i1 m1).2.2.2.1
    have wv := wg_tr (dp := dp) m2 gR.2.2.2.2.1 (fun b hb => hdp b (by omega)) h24
    obtain ⟨lf, l1, n, p, l2, l3, l4⟩ := tap_tr m3 (by omega) h27
    have ta : TA (JJ R) (fun v => wPg R dp v R.1) a2.toInt n (Sd R false 2000) (dgc R) p := TA_c (fun v hv => by
      have q := (Sd_i gR.1 (Nat.le_refl _) hv).2
      exact ⟨wv v (by omega), l1 v q⟩) l3
    have rd : rnd a2.toInt dp Q R n p := ⟨⟨m, m1⟩, ta⟩
    obtain ⟨p1, p2⟩ := ptg_tr m3 (by omega) (by omega) hk2 l2 l4 h29
    have ef : 41 - t = (40 - t) + 1 := by omega
    rw [ef]
    exact ⟨(t : Int), (R, clN (JJ R) a2.toInt p n n, sl), ⟨R, n, p, rd, Or.inl ⟨p2.mp h30, rfl, rfl⟩⟩, fun _ => ⟨ht.symm, by omega, m2, p1, hsl⟩, fun z => absurd rfl z⟩
theorem fz3_tl {a1 : Int32} {s1 : Int32} {s2 : Nat → Int32} {k : Nat} {e1 : Nat → Int32} (h : tl_Arrays_fill3_5 a1 s1 s2 k e1) : 0 ≤ s1.toInt → ∀ i : Nat, i < 100 → ((i : Int) < s1.toInt → s2 i = a1) → e1 i = a1 := by
  refine h (fun s1 s2 _ e1 => 0 ≤ s1.toInt → ∀ i : Nat, i < 100 → ((i : Int) < s1.toInt → s2 i = a1) → e1 i = a1) ?_ ?_
  · intro l2_1 z_1 h1 h2
    exact fun _ i hi hz => hz (by omega)
  · intro l2_1 z_1 x1 x2 k e1 h1 h2 h3 h4 ih
    intro h0 i hi hz
    refine ih (by omega) i hi (fun hl => ?_)
    have en : (l2_1.toNatClampNeg : Int) = l2_1.toInt := g_nn h0
    rw [h3]
    unfold upd
    by_cases e : i = l2_1.toNatClampNeg
    · rw [if_pos e]
    · rw [if_neg e]; exact hz (by omega)
theorem fz3_tr {a1 : Int32} {p o1 : Nat → Int32} (h : tr_Arrays_fill3 a1 p o1) : ∀ i : Nat, i < 100 → o1 i = a1 := by
  refine h (fun o1 => ∀ i : Nat, i < 100 → o1 i = a1) ?_
  · intro x1 h1
    exact fun i hi => fz3_tl h1 (by decide) i hi (fun z => by rw [px_0] at z; omega)
theorem bgs_tr {Code_blocks : Int32} {Code_lines : Int32} {Giver_slotOf : Nat → Int32} {Code_first : Nat → Int32} {Code_firstGoal : Nat → Int32} {Code_secondGoal : Nat → Int32} {Code_op : Nat → Int32} {Code_set : Nat → Int32} {Code_left : Nat → Int32} {Code_leftNumber : Nat → Int32} {Code_right : Nat → Int32} {Code_rightNumber : Nat → Int32} {Code_first2 : Nat → Int32} {Code_firstGoal2 : Nat → Int32} {Code_secondGoal2 : Nat → Int32} {Code_op2 : Nat → Int32} {Code_set2 : Nat → Int32} {Code_left2 : Nat → Int32} {Code_leftNumber2 : Nat → Int32} {Code_right2 : Nat → Int32} {Code_rightNumber2 : Nat → Int32} {Live_in : Nat → Int64} {Live_used : Nat → Int64} {Live_set : Nat → Int64} {Live_now : Nat → Int64} {o1 : Int32} {o2 : Int32} {o3 : Int32} {o4 : Int32} {o5 : Int32} {o6 : Int32} {o7 : Nat → Int32} {o8 : Int32} {o9 : Int32} {o10 : Int32} {o11 : Int32} {o12 : Int32} {o13 : Int32} {o14 : Nat → Int32} {o15 : Nat → Int32} {o16 : Nat → Int32} {o17 : Nat → Int32} {o18 : Nat → Int32} {o19 : Nat → Int32} {o20 : Nat → Int32} {o21 : Nat → Int32} {o22 : Nat → Int32} {o23 : Nat → Int64} {o24 : Nat → Int64} {o25 : Nat → Int64} {o26 : Nat → Int64} (h : tr_Giver_begin Code_blocks Code_lines Giver_slotOf Code_first Code_firstGoal Code_secondGoal Code_op Code_set Code_left Code_leftNumber Code_right Code_rightNumber Code_first2 Code_firstGoal2 Code_secondGoal2 Code_op2 Code_set2 Code_left2 Code_leftNumber2 Code_right2 Code_rightNumber2 Live_in Live_used Live_set Live_now o1 o2 o3 o4 o5 o6 o7 o8 o9 o10 o11 o12 o13 o14 o15 o16 o17 o18 o19 o20 o21 o22 o23 o24 o25 o26) : o1.toInt = 100 ∧ o2.toInt = 0 ∧ ∀ v, v < 100 → (o7 v).toInt = -1 := by
  refine h (fun o1 o2 o3 o4 o5 o6 o7 o8 o9 o10 o11 o12 o13 o14 o15 o16 o17 o18 o19 o20 o21 o22 o23 o24 o25 o26 => o1.toInt = 100 ∧ o2.toInt = 0 ∧ ∀ v, v < 100 → (o7 v).toInt = -1) ?_
  · intro x1 x2 x3 x4 x5 x6 x7 x8 x9 x10 x11 x12 x13 x14 x15 x16 x17 x18 x19 x20 x21 x22 x23 h1 h2 h3 h4 h5 h6 h7 h8 h9 h10
    exact ⟨by decide, by decide, fun v hv => by rw [fz3_tr h1 v hv]; decide⟩
theorem gvo_tr {a2 : Int32} {Code_blocks : Int32} {Code_lines : Int32} {Graph_names : Int32} {Graph_words : Int32} {Colouring_restSize : Int32} {Colouring_pileSize : Int32} {Giver_slotOf : Nat → Int32} {Giver_sharedSlot : Nat → Int32} {Code_blocks2 : Int32} {Code_lines2 : Int32} {Code_isFull : Int32} {Code_first : Nat → Int32} {Code_firstGoal : Nat → Int32} {Code_secondGoal : Nat → Int32} {Code_op : Nat → Int32} {Code_set : Nat → Int32} {Code_left : Nat → Int32} {Code_leftNumber : Nat → Int32} {Code_right : Nat → Int32} {Code_rightNumber : Nat → Int32} {Loops_depth : Nat → Int32} {Graph_joined : Nat → Int64} {Graph_standing : Nat → Int64} {Graph_degree : Nat → Int32} {Colouring_weight : Nat → Int32} {Colouring_degree : Nat → Int32} {Colouring_rest : Nat → Int32} {Colouring_pile : Nat → Int32} {Colouring_colour : Nat → Int32} {Code_first2 : Nat → Int32} {Code_firstGoal2 : Nat → Int32} {Code_secondGoal2 : Nat → Int32} {Code_op2 : Nat → Int32} {Code_set2 : Nat → Int32} {Code_left2 : Nat → Int32} {Code_leftNumber2 : Nat → Int32} {Code_right2 : Nat → Int32} {Code_rightNumber2 : Nat → Int32} {Code_first3 : Nat → Int32} {Code_firstGoal3 : Nat → Int32} {Code_secondGoal3 : Nat → Int32} {Code_op3 : Nat → Int32} {Code_set3 : Nat → Int32} {Code_left3 : Nat → Int32} {Code_leftNumber3 : Nat → Int32} {Code_right3 : Nat → Int32} {Code_rightNumber3 : Nat → Int32} {Live_in : Nat → Int64} {Live_used : Nat → Int64} {Live_set : Nat → Int64} {Live_now : Nat → Int64} {o1 : Int32} {o2 : Int32} {o3 : Int32} {o4 : Int32} {o5 : Int32} {o6 : Int32} {o7 : Int32} {o8 : Int32} {o9 : Int32} {o10 : Int32} {o11 : Int32} {o12 : Nat → Int32} {o13 : Int32} {o14 : Int32} {o15 : Int32} {o16 : Int32} {o17 : Int32} {o18 : Int32} {o19 : Int32} {o20 : Int32} {o21 : Int32} {o22 : Nat → Int64} {o23 : Nat → Int64} {o24 : Nat → Int32} {o25 : Nat → Int32} {o26 : Nat → Int32} {o27 : Nat → Int32} {o28 : Nat → Int32} {o29 : Nat → Int32} {o30 : Nat → Int32} {o31 : Nat → Int32} {o32 : Nat → Int32} {o33 : Nat → Int32} {o34 : Nat → Int32} {o35 : Nat → Int32} {o36 : Nat → Int32} {o37 : Nat → Int32} {o38 : Nat → Int32} {o39 : Nat → Int32} {o40 : Nat → Int32} {o41 : Nat → Int32} {o42 : Nat → Int32} {o43 : Nat → Int32} {o44 : Nat → Int32} {o45 : Nat → Int32} {o46 : Nat → Int32} {o47 : Nat → Int32} {o48 : Nat → Int64} {o49 : Nat → Int64} {o50 : Nat → Int64} {o51 : Nat → Int64} {o52 : Nat → Int32} {B : Int → Int} {n : Int} (hB : bOk B n) (hP : okP B n P) (hc : cdP Code_blocks Code_lines Code_first Code_firstGoal Code_secondGoal Code_op Code_set Code_left Code_leftNumber Code_right Code_rightNumber P) (hdp : ∀ b, b < P.1 → (Loops_depth b).toInt = (dpt P b : Int)) (hk1 : 1 ≤ a2.toInt) (hk2 : a2.toInt ≤ 32) (h : tr_Giver_giveOut a2 Code_blocks Code_lines Graph_names Graph_words Colouring_restSize Colouring_pileSize Giver_slotOf Giver_sharedSlot Code_blocks2 Code_lines2 Code_isFull Code_first Code_firstGoal Code_secondGoal Code_op Code_set Code_left Code_leftNumber Code_right Code_rightNumber Loops_depth Graph_joined Graph_standing Graph_degree Colouring_weight Colouring_degree Colouring_rest Colouring_pile Colouring_colour Code_first2 Code_firstGoal2 Code_secondGoal2 Code_op2 Code_set2 Code_left2 Code_leftNumber2 Code_right2 Code_rightNumber2 Code_first3 Code_firstGoal3 Code_secondGoal3 Code_op3 Code_set3 Code_left3 Code_leftNumber3 Code_right3 Code_rightNumber3 Live_in Live_used Live_set Live_now o1 o2 o3 o4 o5 o6 o7 o8 o9 o10 o11 o12 o13 o14 o15 o16 o17 o18 o19 o20 o21 o22 o23 o24 o25 o26 o27 o28 o29 o30 o31 o32 o33 o34 o35 o36 o37 o38 o39 o40 o41 o42 o43 o44 o45 o46 o47 o48 o49 o50 o51 o52) : ∃ Z, GVr a2.toInt (dpt P) 40 1 (pgZ P) 100 0 o1.toInt Z := by
  obtain ⟨f1, f2, f3, f4, f5, f6⟩ := okP_f hB hP
  have gi := gvI_Z hB hP
  refine h (fun o1 o2 o3 o4 o5 o6 o7 o8 o9 o10 o11 o12 o13 o14 o15 o16 o17 o18 o19 o20 o21 o22 o23 o24 o25 o26 o27 o28 o29 o30 o31 o32 o33 o34 o35 o36 o37 o38 o39 o40 o41 o42 o43 o44 o45 o46 o47 o48 o49 o50 o51 o52 => ∃ Z, GVr a2.toInt (dpt P) 40 1 (pgZ P) 100 0 o1.toInt Z) ?_ ?_ ?_ ?_
  · intro x1 x2 x3 x4 x5 x6 x7 x8 x9 x10 x11 x12 x13 x14 x15 x16 x17 x18 x19 x20 x21 x22 x23 x24 x25 x26 x27 x28 x29 x30 x31 x32 x33 x34 x35 x36 x37 x38 x39 x40 x41 x42 x43 x44 x45 x46 x47 x48 x49 x50 x51 x52 x53 x54 x55 x56 x57 x58 x59 x60 x61 x62 x63 x64 x65 x66 x67 x68 x69 x70 x71 x72 x73 x74 h1 h2 h3 h4 h5 h6 h7 h8 h9 h10 h11 h12 h13 h14
    obtain ⟨b1, b2, -, -⟩ := bg_tr hc f1 f2 f3 f4 h13
    obtain ⟨c1, c2, c3⟩ := bgs_tr h13
    obtain ⟨r, Z, r1, r2, r3⟩ := gv7_tl (dp := dpt P) hk1 hk2 h14 (pgZ P) 100 0 1 (by decide) (Nat.le_refl _) (by decide) c1 c2 (by decide) b2 gi hdp (fun v hv _ => c3 v hv)
    rw [r3 (by decide)] at r1
    exact ⟨Z, r1⟩
  · intro x1 x2 x3 x4 x5 x6 x7 x8 x9 x10 x11 x12 x13 x14 x15 x16 x17 x18 x19 x20 x21 x22 x23 x24 x25 x26 x27 x28 x29 x30 x31 x32 x33 x34 x35 x36 x37 x38 x39 x40 x41 x42 x43 x44 x45 x46 x47 x48 x49 x50 x51 x52 x53 x54 x55 x56 x57 x58 x59 x60 x61 x62 x63 x64 x65 x66 x67 x68 x69 x70 x71 x72 x73 x74 h1 h2 h3 h4 h5 h6 h7 h8 h9 h10 h11 h12 h13 h14
    obtain ⟨b1, b2, -, -⟩ := bg_tr hc f1 f2 f3 f4 h13
    obtain ⟨c1, c2, c3⟩ := bgs_tr h13
    obtain ⟨r, Z, r1, r2, r3⟩ := gv7_tl (dp := dpt P) hk1 hk2 h14 (pgZ P) 100 0 1 (by decide) (Nat.le_refl _) (by decide) c1 c2 (by decide) b2 gi hdp (fun v hv _ => c3 v hv)
    rw [r3 (by decide)] at r1
    exact ⟨Z, r1⟩
  · intro x1 x2 x3 x4 x5 x6 x7 x8 x9 x10 x11 x12 x13 x14 x15 x16 x17 x18 x19 x20 x21 x22 x23 x24 x25 x26 x27 x28 x29 x30 x31 x32 x33 x34 x35 x36 x37 x38 x39 x40 x41 x42 x43 x44 x45 x46 x47 x48 x49 x50 x51 x52 x53 x54 x55 x56 x57 x58 x59 x60 x61 x62 x63 x64 x65 x66 x67 x68 x69 x70 x71 x72 x73 x74 h1 h2 h3 h4 h5 h6 h7 h8 h9 h10 h11 h12 h13 h14
    obtain ⟨b1, b2, -, -⟩ := bg_tr hc f1 f2 f3 f4 h13
    obtain ⟨c1, c2, c3⟩ := bgs_tr h13
    obtain ⟨r, Z, r1, r2, r3⟩ := gv7_tl (dp := dpt P) hk1 hk2 h14 (pgZ P) 100 0 1 (by decide) (Nat.le_refl _) (by decide) c1 c2 (by decide) b2 gi hdp (fun v hv _ => c3 v hv)
    rw [r3 (by decide)] at r1
    exact ⟨Z, r1⟩
  · intro x1 x2 x3 x4 x5 x6 x7 x8 x9 x10 x11 x12 x13 x14 x15 x16 x17 x18 x19 x20 x21 x22 x23 x24 x25 x26 x27 x28 x29 x30 x31 x32 x33 x34 x35 x36 x37 x38 x39 x40 x41 x42 x43 x44 x45 x46 x47 x48 x49 x50 x51 x52 x53 x54 x55 x56 x57 x58 x59 x60 x61 x62 x63 x64 x65 x66 x67 x68 x69 x70 x71 x72 x73 x74 x75 x76 x77 x78 x79 x80 x81 x82 x83 x84 x85 x86 x87 x88 x89 x90 x91 x92 x93 h1 h2 h3 h4 h5 h6 h7 h8 h9 h10 h11 h12 h13 h14 h15 h16 h17 h18 h19 h20 h21
    obtain ⟨b1, b2, -, -⟩ := bg_tr hc f1 f2 f3 f4 h13
    obtain ⟨c1, c2, c3⟩ := bgs_tr h13
    obtain ⟨r, Z, r1, r2, r3⟩ := gv7_tl (dp := dpt P) hk1 hk2 h14 (pgZ P) 100 0 1 (by decide) (Nat.le_refl _) (by decide) c1 c2 (by decide) b2 gi hdp (fun v hv _ => c3 v hv)
    rw [(r2 rfl).1] at r1
    exact ⟨Z, r1⟩
end GWC
