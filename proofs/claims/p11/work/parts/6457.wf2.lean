theorem rwO_mk {o s a an r rn : Int} (h0 : 0 ≤ o ∧ o ≤ 16) (h2 : -1 ≤ a ∧ a ≤ 99) (h4 : -1 ≤ r ∧ r ≤ 99) (h1 : o ≤ 15 → 0 ≤ s ∧ s ≤ 99) (h6 : o = 16 → s = -1) (h5 : o = 15 → a = -1) (h7 : 14 ≤ o → r = -1) : rwO (mkL o s a an r rn) := ⟨h0, h2, h4, h1, h6, h5, h7⟩
theorem edO_mk {o s a an r rn : Int} (h1 : s = -1) (h2 : -1 ≤ a ∧ a ≤ 99) (h4 : r = -1) (h7 : o = 19 → a = -1) : edO (mkL o s a an r rn) := ⟨h1, h2, h4, h7⟩
theorem mst_wf {s s' : gMs} {k v : Int} (ht : tkO k v) (hw : mwf s) (h : mst k v s = some s') : mwf s' := by
  obtain ⟨du, st, lf, ln, op, rw, bk, P⟩ := s
  obtain ⟨⟨w0, w1⟩, w2, w3, w4, w5, w6, w7, w8, w9, w10, w11, w12, w13, w14⟩ := hw
  have hr := rg_b ht
  simp only [mst] at h
  by_cases d0 : du ≤ 1
  · rw [if_pos d0] at h
    by_cases c : k = 3
    · rw [if_pos c] at h; cases h
      have hv := ht.2.1 c
      refine ⟨⟨by decide, by decide⟩, fun z => absurd z (by decide), fun _ => Nat.succ_pos _, w4, fun z => ?_, fun z => absurd z (by decide), fun z => absurd z (by decide), fun z => absurd z (by decide), fun z => absurd z (by decide), fun z => absurd z (by decide), fun z => absurd z (by decide), fun b hb => ?_, fun z => absurd z (by decide), fun _ b hb => ?_⟩
      · rw [Bool.or_eq_false_iff, decide_eq_false_iff_not, Decidable.not_not] at z
        have := w5 z.1
        rw [pgB_s]
        have e1 : (pgB P).1 = P.1 + 1 := rfl
        rw [e1]
        exact ⟨by omega, this.2.1, by omega, fun _ _ => by omega, fun z => absurd z (by decide)⟩
      · have hb2 : b + 1 < P.1 + 1 := hb
        obtain ⟨e1, e2, e3⟩ := pgB_o (P := P) (b := b) (by omega)
        rw [e1, e2, e3]
        by_cases q : b + 1 = P.1
        · exact w13 (by have := w3; omega) b q
        · exact w12 b (by omega)
      · have hb2 : b + 1 = P.1 + 1 := hb
        have eb : b = P.1 := by omega
        have e1 : (pgB P).2.1 b = 0 := if_pos eb
        have e2 : (pgB P).2.2.2 b = fun _ => -1 := funext (fun i => if_pos eb)
        rw [e1, e2]
        exact ⟨rfl, fun _ => ⟨rfl, fun j hj => absurd hj (Nat.not_lt_zero j)⟩, fun z => absurd z (by decide)⟩
    · rw [if_neg c] at h; cases h
  rw [if_neg d0] at h
  by_cases d1 : du = 2
  · rw [if_pos d1] at h
    by_cases c : k = 6
    · rw [if_pos c] at h; cases h
      refine ⟨⟨by decide, by decide⟩, fun z => absurd z (by decide), fun _ => w3 (by omega), w4, fun z => ?_, fun z => absurd z (by decide), fun z => absurd z (by decide), fun z => absurd z (by decide), fun z => absurd z (by decide), fun z => absurd z (by decide), fun z => absurd z (by decide), w12, fun z => absurd z (by decide), fun _ => blH_same (w14 (by omega)) (by omega) (by decide)⟩
      have := w5 z
      exact ⟨this.1, this.2.1, this.2.2.1, fun _ _ => this.2.2.2.1 (by omega) (by omega), fun z => absurd z (by decide)⟩
    · rw [if_neg c] at h; cases h
  rw [if_neg d1] at h
  by_cases d2 : du = 3
  · rw [if_pos d2] at h
    refine mLine_wf ht h (w3 (by omega)) w4 (fun z => ?_) w12 (blH_same (w14 (by omega)) (by omega) (by decide))
    have := w5 z
    exact ⟨this.1, this.2.1, this.2.2.2.1 (by omega) (by omega)⟩
  rw [if_neg d2] at h
  by_cases d3 : du = 4
  · rw [if_pos d3] at h
    by_cases c : k = 7
    · rw [if_pos c] at h; cases h
      refine ⟨⟨by decide, by decide⟩, fun z => absurd z (by decide), fun _ => w3 (by omega), w4, fun z => ?_, fun _ _ => w6 (by omega) (by omega), fun _ => w11 (by omega), fun z => absurd z (by decide), fun _ _ => w9 (by omega) (by omega), fun z => absurd z (by decide), fun z => absurd z (by decide), w12, fun z => absurd z (by decide), fun _ => blH_same (w14 (by omega)) (by omega) (by decide)⟩
      have := w5 z
      exact ⟨this.1, this.2.1, this.2.2.1, fun _ _ => this.2.2.2.1 (by omega) (by omega), fun _ _ => this.2.2.2.2 (by omega) (by omega)⟩
    · rw [if_neg c] at h; cases h
  rw [if_neg d3] at h
  by_cases d4 : du = 5
  · rw [if_pos d4] at h
    by_cases c8 : k = 8
    · rw [if_pos c8] at h; cases h
      refine ⟨⟨by decide, by decide⟩, fun z => absurd z (by decide), fun _ => w3 (by omega), w4, fun z => ?_, fun z => absurd z (by decide), fun z => absurd z (by decide), fun z => absurd z (by decide), fun z => absurd z (by decide), fun z => absurd z (by decide), fun z => absurd z (by decide), blC_L w12, fun z => absurd z (by decide), fun _ => blH_row (w14 (by omega)) (by omega) (by decide) (rwO_mk ⟨by decide, by decide⟩ (by have := w7 d4; rw [this.1]; decide) ⟨by decide, by decide⟩ (fun _ => w6 (by omega) (by omega)) (fun z => absurd z (by decide)) (fun _ => (w7 d4).1) (fun _ => rfl))⟩
      have := w5 z
      rw [pgL_s (w3 (by omega))]
      have e5 := this.2.2.2.2 (by omega) (by omega)
      exact ⟨this.1, this.2.1, by show ((fsm P.2.1 P.1 + 1 : Nat) : Int) ≤ rw + P.1; omega, fun _ _ => by show ((fsm P.2.1 P.1 + 1 : Nat) : Int) + 1 ≤ rw + P.1; omega, fun z => absurd z (by decide)⟩
    · rw [if_neg c8] at h
      by_cases c : k = 2 ∨ k = 4
      · rw [if_pos c] at h; cases h
        refine ⟨⟨by decide, by decide⟩, fun z => absurd z (by decide), fun _ => w3 (by omega), w4, fun z => ?_, fun _ _ => w6 (by omega) (by omega), fun z => absurd z (by decide), fun z => absurd z (by decide), fun _ _ => hr, fun z => absurd z (by decide), fun z => absurd z (by decide), w12, fun z => absurd z (by decide), fun _ => blH_same (w14 (by omega)) (by omega) (by decide)⟩
        have := w5 z
        exact ⟨this.1, this.2.1, this.2.2.1, fun _ _ => this.2.2.2.1 (by omega) (by omega), fun _ _ => this.2.2.2.2 (by omega) (by omega)⟩
      · rw [if_neg c] at h; cases h
  rw [if_neg d4] at h
  by_cases d5 : du = 6
  · rw [if_pos d5] at h
    by_cases c5 : k = 5
    · rw [if_pos c5] at h; cases h
      refine ⟨⟨by decide, by decide⟩, fun z => absurd z (by decide), fun _ => w3 (by omega), w4, fun z => ?_, fun _ _ => w6 (by omega) (by omega), fun z => absurd z (by decide), fun z => absurd z (by decide), fun _ _ => w9 (by omega) (by omega), fun _ => ht.2.2 c5, fun z => absurd z (by decide), w12, fun z => absurd z (by decide), fun _ => blH_same (w14 (by omega)) (by omega) (by decide)⟩
      have := w5 z
      exact ⟨this.1, this.2.1, this.2.2.1, fun _ _ => this.2.2.2.1 (by omega) (by omega), fun _ _ => this.2.2.2.2 (by omega) (by omega)⟩
    · rw [if_neg c5] at h
      refine mLine_wf ht h (w3 (by omega)) w4 (fun z => ?_) (blC_L w12) (blH_row (w14 (by omega)) (by omega) (by decide) (rwO_mk ⟨by decide, by decide⟩ (w9 (by omega) (by omega)) ⟨by decide, by decide⟩ (fun _ => w6 (by omega) (by omega)) (fun z => absurd z (by decide)) (fun z => absurd z (by decide)) (fun _ => rfl)))
      have := w5 z
      rw [pgL_s (w3 (by omega))]
      have e5 := this.2.2.2.2 (by omega) (by omega)
      exact ⟨this.1, this.2.1, by show ((fsm P.2.1 P.1 + 1 : Nat) : Int) + 1 ≤ rw + P.1; omega⟩
  rw [if_neg d5] at h
  by_cases d6 : du = 7
  · rw [if_pos d6] at h
    by_cases c : k = 2 ∨ k = 4
    · rw [if_pos c] at h; cases h
      have ho := w10 (by omega)
      refine ⟨⟨by decide, by decide⟩, fun z => absurd z (by decide), fun _ => w3 (by omega), w4, fun z => ?_, fun z => absurd z (by decide), fun z => absurd z (by decide), fun z => absurd z (by decide), fun z => absurd z (by decide), fun z => absurd z (by decide), fun z => absurd z (by decide), blC_L w12, fun z => absurd z (by decide), fun _ => blH_row (w14 (by omega)) (by omega) (by decide) (rwO_mk ⟨ho.1, (by show op ≤ 16; omega)⟩ (w9 (by omega) (by omega)) (hr) (fun _ => w6 (by omega) (by omega)) (fun z => absurd (show op = 16 from z) (by omega)) (fun z => absurd (show op = 15 from z) (by omega)) (fun z => absurd (show 14 ≤ op from z) (by omega)))⟩
      have := w5 z
      rw [pgL_s (w3 (by omega))]
      have e5 := this.2.2.2.2 (by omega) (by omega)
      exact ⟨this.1, this.2.1, by show ((fsm P.2.1 P.1 + 1 : Nat) : Int) ≤ rw + P.1; omega, fun _ _ => by show ((fsm P.2.1 P.1 + 1 : Nat) : Int) + 1 ≤ rw + P.1; omega, fun z => absurd z (by decide)⟩
    · rw [if_neg c] at h; cases h
  rw [if_neg d6] at h
  by_cases d7 : du = 8
  · rw [if_pos d7] at h
    by_cases c : k = 2 ∨ k = 4
    · rw [if_pos c] at h; cases h
      refine ⟨⟨by decide, by decide⟩, fun z => absurd z (by decide), fun _ => w3 (by omega), w4, fun z => ?_, fun z => absurd z (by decide), fun z => absurd z (by decide), fun z => absurd z (by decide), fun z => absurd z (by decide), fun z => absurd z (by decide), fun z => absurd z (by decide), blC_L w12, fun z => absurd z (by decide), fun _ => blH_row (w14 (by omega)) (by omega) (by decide) (rwO_mk ⟨by decide, by decide⟩ (hr) ⟨by decide, by decide⟩ (fun z => absurd z (by decide)) (fun _ => w8 (by omega) (by omega)) (fun z => absurd z (by decide)) (fun _ => rfl))⟩
      have := w5 z
      rw [pgL_s (w3 (by omega))]
      have e5 := this.2.2.2.2 (by omega) (by omega)
      exact ⟨this.1, this.2.1, by show ((fsm P.2.1 P.1 + 1 : Nat) : Int) ≤ rw + P.1; omega, fun _ _ => by show ((fsm P.2.1 P.1 + 1 : Nat) : Int) + 1 ≤ rw + P.1; omega, fun z => absurd z (by decide)⟩
    · rw [if_neg c] at h; cases h
  rw [if_neg d7] at h
  by_cases d8 : du = 9
  · rw [if_pos d8] at h
    by_cases c : k = 2 ∨ k = 4
    · rw [if_pos c] at h; cases h
      have hb1 : ∀ b, b + 1 = P.1 → _ := bl_end (l := mkL 20 st (rgV k v) (nmW k v) (-1) 0) (w14 (by omega)) (by omega) (edO_mk (w8 (by omega) (by omega)) (hr) (rfl) (fun z => absurd z (by decide)))
      refine ⟨⟨by decide, by decide⟩, fun z => absurd z (by decide), fun _ => w3 (by omega), w4, fun z => ?_, fun _ z => absurd z (by decide), fun z => absurd z (by decide), fun _ z => absurd z (by decide), fun _ z => absurd z (by decide), fun z => absurd z (by decide), fun z => absurd z (by decide), blC_L w12, fun z => absurd z (by decide), fun _ b hb => ?_⟩
      · have := w5 z
        rw [pgL_s (w3 (by omega))]
        have e5 := this.2.2.2.1 (by omega) (by omega)
        exact ⟨this.1, this.2.1, by show ((fsm P.2.1 P.1 + 1 : Nat) : Int) ≤ rw + P.1; omega, fun _ z => absurd z (by decide), fun _ z => absurd z (by decide)⟩
      · obtain ⟨q1, q2, q3, q4, q5, q6⟩ := hb1 b hb
        exact ⟨q6, fun z => absurd z (by decide), fun _ => ⟨q1, q2, q3, Or.inr ⟨q4, fun _ => q5, fun z => absurd z (by decide)⟩⟩⟩
    · rw [if_neg c] at h; cases h
  rw [if_neg d8] at h
  by_cases d9 : du = 10
  · rw [if_pos d9] at h
    by_cases c : k = 2 ∨ k = 4
    · rw [if_pos c] at h; cases h
      have hb1 : ∀ b, b + 1 = P.1 → _ := bl_end (l := mkL 21 st (rgV k v) (nmW k v) (-1) 0) (w14 (by omega)) (by omega) (edO_mk (w8 (by omega) (by omega)) (hr) (rfl) (fun z => absurd z (by decide)))
      refine ⟨⟨by decide, by decide⟩, fun z => absurd z (by decide), fun _ => w3 (by omega), w4, fun z => ?_, fun z => absurd z (by decide), fun z => absurd z (by decide), fun z => absurd z (by decide), fun z => absurd z (by decide), fun z => absurd z (by decide), fun z => absurd z (by decide), blC_L w12, fun _ b hb => ?_, fun z => absurd z (by decide)⟩
      · have := w5 z
        rw [pgL_s (w3 (by omega))]
        have e5 := this.2.2.2.1 (by omega) (by omega)
        exact ⟨this.1, this.2.1, by show ((fsm P.2.1 P.1 + 1 : Nat) : Int) ≤ rw + P.1; omega, fun z => absurd z (by decide), fun z => absurd z (by decide)⟩
      · obtain ⟨q1, q2, q3, q4, q5, q6⟩ := hb1 b hb
        exact ⟨q1, q2, q3, Or.inr (Or.inr ⟨q4, q5, q6⟩)⟩
    · rw [if_neg c] at h; cases h
  rw [if_neg d9] at h
  by_cases d10 : du = 11
  · rw [if_pos d10] at h
    by_cases c : k = 3
    · rw [if_pos c] at h; cases h
      have hv := ht.2.1 c
      refine ⟨⟨by decide, by decide⟩, fun z => absurd z (by decide), fun _ => w3 (by omega), w4, fun z => ?_, fun _ z => absurd z (by decide), fun z => absurd z (by decide), fun _ z => absurd z (by decide), fun _ z => absurd z (by decide), fun z => absurd z (by decide), fun z => absurd z (by decide), blC_G w12, fun z => absurd z (by decide), fun _ b hb => ?_⟩
      · have := w5 z
        exact ⟨this.1, this.2.1, this.2.2.1, fun _ z => absurd z (by decide), fun _ z => absurd z (by decide)⟩
      · obtain ⟨g1, -, g2⟩ := w14 (by omega) b hb
        obtain ⟨q1, q2, q3, q4⟩ := g2 (by omega)
        obtain ⟨r1, r2⟩ := pgG_l (g := v) (P := P) (b := b) hb
        rcases q4 with q4 | q4
        · omega
        · obtain ⟨s1, s2⟩ := r1 (q4.2.1 d10)
          exact ⟨s2.trans g1, fun z => absurd z (by decide), fun _ => ⟨q1, q2, q3, Or.inr ⟨q4.1, fun z => absurd z (by decide), fun _ => by rw [s1]; exact hv⟩⟩⟩
    · rw [if_neg c] at h; cases h
  rw [if_neg d10] at h
  have d12 : du = 12 := by omega
  by_cases c : k = 3
  · rw [if_pos c] at h; cases h
    have hv := ht.2.1 c
    refine ⟨⟨by decide, by decide⟩, fun z => absurd z (by decide), fun _ => w3 (by omega), w4, fun z => ?_, fun z => absurd z (by decide), fun z => absurd z (by decide), fun z => absurd z (by decide), fun z => absurd z (by decide), fun z => absurd z (by decide), fun z => absurd z (by decide), blC_G w12, fun _ b hb => ?_, fun z => absurd z (by decide)⟩
    · have := w5 z
      exact ⟨this.1, this.2.1, this.2.2.1, fun z => absurd z (by decide), fun z => absurd z (by decide)⟩
    · obtain ⟨g1, -, g2⟩ := w14 (by omega) b hb
      obtain ⟨q1, q2, q3, q4⟩ := g2 (by omega)
      obtain ⟨r1, r2⟩ := pgG_l (g := v) (P := P) (b := b) hb
      rcases q4 with q4 | q4
      · obtain ⟨s1, s2⟩ := r1 q4.2.1
        exact ⟨q1, q2, q3, Or.inl ⟨q4.1, by rw [s1]; exact hv.1, by rw [s1]; exact hv.2, s2.trans g1⟩⟩
      · have e12 := q4.2.2 d12
        obtain ⟨s1, s2⟩ := r2 (by omega)
        exact ⟨q1, q2, q3, Or.inr (Or.inl ⟨q4.1, by rw [s1]; exact e12.1, by rw [s1]; exact e12.2, by rw [s2]; exact hv.1, by rw [s2]; exact hv.2⟩)⟩
  · rw [if_neg c] at h; cases h
theorem mwf_0 : mwf (0, -1, -1, 0, 0, 0, false, pgO) := ⟨⟨by decide, by decide⟩, fun _ => rfl, fun z => absurd rfl z, by decide, fun _ => ⟨by decide, by decide, by decide, fun z => absurd z (by decide), fun z => absurd z (by decide)⟩, fun z => absurd z (by decide), fun z => absurd z (by decide), fun z => absurd z (by decide), fun z => absurd z (by decide), fun z => absurd z (by decide), fun z => absurd z (by decide), fun b hb => absurd hb (Nat.not_lt_zero _), fun z => absurd z (by decide), fun z => absurd z (by decide)⟩
