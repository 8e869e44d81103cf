section GRB
variable {P : gPg} {sl : Bool} {W Nm b j v w : Nat}
theorem gz_tl {c1 : Int32} {c2 : Int32} {s1 : Int32} {s2 : Nat → Int64} {k : Nat} {e1 : Nat → Int64} {M : Nat} (hM : c1.toInt * c2.toInt = (M : Int)) (h : tl_Graph_build_35 c1 c2 s1 s2 k e1) : 0 ≤ s1.toInt → ∀ i : Nat, i < M → ((i : Int) < s1.toInt → s2 i = 0) → e1 i = 0 := by
  refine h (fun s1 s2 _ e1 => 0 ≤ s1.toInt → ∀ i : Nat, i < M → ((i : Int) < s1.toInt → s2 i = 0) → e1 i = 0) ?_ ?_
  · intro l4_1 Graph_joined_1 x1 h1 h2 h3
    exact fun _ i hi hz => hz (by omega)
  · intro l4_1 Graph_joined_1 x1 x2 x3 k e1 h1 h2 h3 h4 h5 ih
    intro h0 i hi hz
    refine ih (by omega) i hi (fun hl => ?_)
    have en : (l4_1.toNatClampNeg : Int) = l4_1.toInt := g_nn h0
    rw [h4]
    unfold vp_updL
    by_cases e : i = l4_1.toNatClampNeg
    · rw [if_pos e]
    · rw [if_neg e]; exact hz (by omega)
theorem st_tl {a2 : Int32} {Live_words : Int32} {a1 : Int32} {Live_used : Nat → Int64} {Live_set : Nat → Int64} {s1 : Int32} {s2 : Int64} {k : Nat} {e1 : Int64} (hW : Live_words.toInt = (W : Int)) (hw : a1.toInt = (w : Int)) (hn : a2.toInt = (P.1 : Int)) (h : tl_Live_standing_5 a2 Live_words a1 Live_used Live_set s1 s2 k e1) : ∀ m : Nat, s1.toInt = (m : Int) → ∀ n, n < 64 → (e1.toBitVec.getLsbD n = true ↔ s2.toBitVec.getLsbD n = true ∨ ∃ c, m ≤ c ∧ c < P.1 ∧ (gbit Live_used (64 * (c * W) + (64 * w + n)) = true ∨ gbit Live_set (64 * (c * W) + (64 * w + n)) = true)) := by
  refine h (fun s1 s2 _ e1 => ∀ m : Nat, s1.toInt = (m : Int) → ∀ n, n < 64 → (e1.toBitVec.getLsbD n = true ↔ s2.toBitVec.getLsbD n = true ∨ ∃ c, m ≤ c ∧ c < P.1 ∧ (gbit Live_used (64 * (c * W) + (64 * w + n)) = true ∨ gbit Live_set (64 * (c * W) + (64 * w + n)) = true))) ?_ ?_
  · intro l5_1 l3_1 h1 h2
    intro m hm n hn64
    exact ⟨Or.inl, fun z => z.elim id (fun ⟨c, z1, z2, _⟩ => by omega)⟩
  · intro l5_1 l3_1 x1 x2 x3 x4 x5 x6 x7 x8 x9 k e1 h1 h2 h3 h4 h5 h6 h7 h8 h9 h10 h11 ih
    intro m hm n hn64
    have ep : x1.toInt = ((m * W : Nat) : Int) := by rw [h3, hm, hW]; exact (Int.natCast_mul _ _).symm
    have eq : x4.toInt = ((m * W : Nat) : Int) := by rw [h6, hm, hW]; exact (Int.natCast_mul _ _).symm
    have e2 : x2.toNatClampNeg = m * W + w := nnE (by omega)
    have e5 : x5.toNatClampNeg = m * W + w := nnE (by omega)
    rw [e2] at h5
    rw [e5] at h8
    have g : ∀ f : Nat → Int64, gbit f (64 * (m * W) + (64 * w + n)) = (f (m * W + w)).toBitVec.getLsbD n := fun f => by
      unfold gbit
      rw [show (64 * (m * W) + (64 * w + n)) / 64 = m * W + w by omega, show (64 * (m * W) + (64 * w + n)) % 64 = n by omega]
    rw [ih (m + 1) (by omega) n hn64, bit_or h10, bit_or h9, h5, h8, ← g, ← g, Bool.or_eq_true, Bool.or_eq_true]
    constructor
    · rintro ((z | z) | ⟨c, z1, z2⟩)
      · exact Or.inl z
      · exact Or.inr ⟨m, Nat.le_refl _, by omega, z⟩
      · exact Or.inr ⟨c, by omega, z2⟩
    · rintro (z | ⟨c, z1, z2, z3⟩)
      · exact Or.inl (Or.inl z)
      · by_cases e : c = m
        · rw [e] at z3; exact Or.inl (Or.inr z3)
        · exact Or.inr ⟨c, by omega, z2, z3⟩
theorem sd_tr {a1 : Int32} {a2 : Int32} {Live_words : Int32} {Live_used : Nat → Int64} {Live_set : Nat → Int64} {o1 : Int64} (hW : Live_words.toInt = (W : Int)) (hw : a1.toInt = (w : Int)) (hn : a2.toInt = (P.1 : Int)) (h : tr_Live_standing a1 a2 Live_words Live_used Live_set o1) : ∀ n, n < 64 → (o1.toBitVec.getLsbD n = true ↔ ∃ c, c < P.1 ∧ (gbit Live_used (64 * (c * W) + (64 * w + n)) = true ∨ gbit Live_set (64 * (c * W) + (64 * w + n)) = true)) := by
  refine h (fun o1 => ∀ n, n < 64 → (o1.toBitVec.getLsbD n = true ↔ ∃ c, c < P.1 ∧ (gbit Live_used (64 * (c * W) + (64 * w + n)) = true ∨ gbit Live_set (64 * (c * W) + (64 * w + n)) = true))) ?_
  · intro x1 h1
    intro n hn64
    rw [st_tl hW hw hn h1 0 (by decide) n hn64]
    constructor
    · rintro (z | ⟨c, _, z⟩)
      · simp at z
      · exact ⟨c, z⟩
    · rintro ⟨c, z⟩
      exact Or.inr ⟨c, Nat.zero_le _, z⟩
theorem gs_tl {c1 : Int32} {Code_blocks : Int32} {c2 : Nat → Int64} {c3 : Nat → Int64} {s1 : Int32} {s2 : Nat → Int64} {k : Nat} {e1 : Nat → Int64} (hW : c1.toInt = (W : Int)) (hn : Code_blocks.toInt = (P.1 : Int)) (h : tl_Graph_build_66 c1 Code_blocks c2 c3 s1 s2 k e1) : ∀ m : Nat, s1.toInt = (m : Int) → ∀ v, v < 64 * W → (v / 64 < m → gbit e1 v = gbit s2 v) ∧ (m ≤ v / 64 → (gbit e1 v = true ↔ (∃ c, c < P.1 ∧ (gbit c2 (64 * (c * W) + v) = true ∨ gbit c3 (64 * (c * W) + v) = true)))) := by
  refine h (fun s1 s2 _ e1 => ∀ m : Nat, s1.toInt = (m : Int) → ∀ v, v < 64 * W → (v / 64 < m → gbit e1 v = gbit s2 v) ∧ (m ≤ v / 64 → (gbit e1 v = true ↔ (∃ c, c < P.1 ∧ (gbit c2 (64 * (c * W) + v) = true ∨ gbit c3 (64 * (c * W) + v) = true))))) ?_ ?_
  · intro l4_1 Graph_standing_1 h1 h2
    intro m hm v hv
    exact ⟨fun _ => rfl, fun z => by omega⟩
  · intro l4_1 Graph_standing_1 x1 x2 x3 k e1 h1 h2 h3 h4 h5 ih
    intro m hm v hv
    obtain ⟨i1, i2⟩ := ih (m + 1) (by omega) v hv
    rw [nnE hm] at h4
    refine ⟨fun z => by rw [i1 (by omega), h4, gbit_upd, if_neg (by omega)], fun z => ?_⟩
    by_cases e : v / 64 = m
    · rw [i1 (by omega), h4, gbit_upd, if_pos e]
      have st := sd_tr hW hm hn h3 (v % 64) (Nat.mod_lt _ (by decide))
      rw [show 64 * m + v % 64 = v by omega] at st
      exact st
    · exact i2 (by omega)
theorem jk_tr {a2 : Int32} {a3 : Int32} {Graph_words : Int32} {Code_blocks : Int32} {Code_lines : Int32} {Live_names : Int32} {Live_words : Int32} {Live_ofSlots : Int32} {Graph_joined : Nat → Int64} {Code_first : Nat → Int32} {Code_firstGoal : Nat → Int32} {Code_secondGoal : Nat → Int32} {Code_op : Nat → Int32} {Code_set : Nat → Int32} {Code_left : Nat → Int32} {Code_right : Nat → Int32} {Code_rightNumber : Nat → Int32} {Live_in : Nat → Int64} {Live_now : Nat → Int64} {o1 : Nat → Int64} {o2 : Nat → Int64} {cln : Nat → Int32} (hc : cdP Code_blocks Code_lines Code_first Code_firstGoal Code_secondGoal Code_op Code_set Code_left cln Code_right Code_rightNumber P) (ha : a2.toInt = (b : Int)) (hb : b < P.1) (hN : Live_names.toInt = (Nm : Int)) (hW : Graph_words.toInt = (W : Int)) (hW3 : Live_words.toInt = (W : Int)) (hW2 : W ≤ 12) (hNW : Nm ≤ 64 * W) (hsl : sl = decide (Live_ofSlots.toInt ≠ 0)) (hsl3 : sl = decide (a3.toInt ≠ 0)) (hli : (∀ c v, c < P.1 → v < 64 * W → (gbit Live_in (64 * (c * W) + v) = true ↔ v < Nm ∧ Lv P sl v c 0))) (hs : symB Nm W Graph_joined) (h : tr_Graph_joinBlock a2 a3 Graph_words Code_blocks Code_lines Live_names Live_words Live_ofSlots Graph_joined Code_first Code_firstGoal Code_secondGoal Code_op Code_set Code_left Code_right Code_rightNumber Live_in Live_now o1 o2) : symB Nm W o1 ∧ ∀ x y, x < Nm → y < 64 * W → (gbit o1 (64 * (x * W) + y) = true ↔ gbit Graph_joined (64 * (x * W) + y) = true ∨ jbQ P sl Nm b (P.2.1 b) x y) := by
  have eB2 : fsm P.2.1 (b + 1) = fsm P.2.1 b + P.2.1 b := rfl
  refine h (fun o1 o2 => symB Nm W o1 ∧ ∀ x y, x < Nm → y < 64 * W → (gbit o1 (64 * (x * W) + y) = true ↔ gbit Graph_joined (64 * (x * W) + y) = true ∨ jbQ P sl Nm b (P.2.1 b) x y)) ?_ ?_
  · intro x1 x2 x3 x4 h1 h2 h3 h4
    have eb := eb_tr2 (b := b) hW3 hc.1 ha (hc.2.2.1 b hb).2 h1
    have eB := bE_tr2 hc ha hb h2
    refine jb_tl hc ha hb hN hW hW2 hNW hsl hsl3 h4 (P.2.1 b) (Nat.le_refl _) (by omega) (fun u hu => ?_) hs
    rw [eb u hu, Lv_out hb]
    constructor
    · rintro ⟨i, g, z1, z2, z3, z4⟩
      obtain ⟨y1, y2⟩ := (hli g u z3 hu).mp z4
      exact ⟨y1, i, g, z1, z2, z3, y2⟩
    · rintro ⟨y1, i, g, z1, z2, z3, z4⟩
      exact ⟨i, g, z1, z2, z3, (hli g u z3 hu).mpr ⟨y1, z4⟩⟩
  · intro x1 x2 x3 x4 x5 h1 h2 h3 h4
    have eb := eb_tr2 (b := b) hW3 hc.1 ha (hc.2.2.1 b hb).2 h1
    have eB := bE_tr2 hc ha hb h2
    refine jb_tl_2 hc ha hb hN hW hW2 hNW hsl hsl3 h4 (P.2.1 b) (Nat.le_refl _) (by omega) (fun u hu => ?_) hs
    rw [eb u hu, Lv_out hb]
    constructor
    · rintro ⟨i, g, z1, z2, z3, z4⟩
      obtain ⟨y1, y2⟩ := (hli g u z3 hu).mp z4
      exact ⟨y1, i, g, z1, z2, z3, y2⟩
    · rintro ⟨y1, i, g, z1, z2, z3, z4⟩
      exact ⟨i, g, z1, z2, z3, (hli g u z3 hu).mpr ⟨y1, z4⟩⟩
theorem gk_tl {Code_blocks : Int32} {a3 : Int32} {c1 : Int32} {Code_lines : Int32} {c2 : Int32} {c3 : Int32} {Code_first : Nat → Int32} {Code_firstGoal : Nat → Int32} {Code_secondGoal : Nat → Int32} {Code_op : Nat → Int32} {Code_set : Nat → Int32} {Code_left : Nat → Int32} {Code_right : Nat → Int32} {Code_rightNumber : Nat → Int32} {c4 : Nat → Int64} {s1 : Int32} {s2 : Nat → Int64} {s3 : Nat → Int64} {k : Nat} {e1 : Nat → Int64} {e2 : Nat → Int64} {cln : Nat → Int32} (hc : cdP Code_blocks Code_lines Code_first Code_firstGoal Code_secondGoal Code_op Code_set Code_left cln Code_right Code_rightNumber P) (hN : c2.toInt = (Nm : Int)) (hW : c1.toInt = (W : Int)) (hW2 : W ≤ 12) (hNW : Nm ≤ 64 * W) (hsl : sl = decide (c3.toInt ≠ 0)) (hsl3 : sl = decide (a3.toInt ≠ 0)) (hli : (∀ c v, c < P.1 → v < 64 * W → (gbit c4 (64 * (c * W) + v) = true ↔ v < Nm ∧ Lv P sl v c 0))) (h : tl_Graph_build_104 Code_blocks a3 c1 Code_lines c2 c3 Code_first Code_firstGoal Code_secondGoal Code_op Code_set Code_left Code_right Code_rightNumber c4 s1 s2 s3 k e1 e2) : ∀ b : Nat, s1.toInt = (b : Int) → symB Nm W s2 → symB Nm W e1 ∧ ∀ x y, x < Nm → y < 64 * W → (gbit e1 (64 * (x * W) + y) = true ↔ gbit s2 (64 * (x * W) + y) = true ∨ ∃ c, b ≤ c ∧ c < P.1 ∧ jbQ P sl Nm c (P.2.1 c) x y) := by
  have cb := hc.1
  refine h (fun s1 s2 _ _ e1 _ => ∀ b : Nat, s1.toInt = (b : Int) → symB Nm W s2 → symB Nm W e1 ∧ ∀ x y, x < Nm → y < 64 * W → (gbit e1 (64 * (x * W) + y) = true ↔ gbit s2 (64 * (x * W) + y) = true ∨ ∃ c, b ≤ c ∧ c < P.1 ∧ jbQ P sl Nm c (P.2.1 c) x y)) ?_ ?_
  · intro l4_1 Graph_joined_1 Live_now_1 h1 h2
    intro b hb hs
    exact ⟨hs, fun x y _ _ => ⟨Or.inl, fun z => z.elim id (fun ⟨c, z1, z2, _⟩ => by omega)⟩⟩
  · intro l4_1 Graph_joined_1 Live_now_1 x1 x2 x3 k e1 e2 h1 h2 h3 h4 ih
    intro b hb hs
    obtain ⟨r1, r2⟩ := jk_tr hc hb (by omega) hN hW hW hW2 hNW hsl hsl3 hli hs h3
    obtain ⟨i1, i2⟩ := ih (b + 1) (by omega) r1
    refine ⟨i1, fun x y hx hy => ?_⟩
    rw [i2 x y hx hy, r2 x y hx hy]
    constructor
    · rintro ((z | z) | ⟨c, z1, z2⟩)
      · exact Or.inl z
      · exact Or.inr ⟨b, Nat.le_refl _, by omega, z⟩
      · exact Or.inr ⟨c, by omega, z2⟩
    · rintro (z | ⟨c, z1, z2, z3⟩)
      · exact Or.inl (Or.inl z)
      · by_cases e : c = b
        · rw [e] at z3; exact Or.inl (Or.inr z3)
        · exact Or.inr ⟨c, by omega, z2, z3⟩
theorem bo_tl {Graph_words : Int32} {a1 : Int32} {Graph_joined : Nat → Int64} {s1 : Int32} {s2 : Int32} {k : Nat} {e1 : Int32} (hW : Graph_words.toInt = (W : Int)) (hW2 : W ≤ 32) (hv : a1.toInt = (v : Int)) (h : tl_Graph_bitsOf_4 Graph_words a1 Graph_joined s1 s2 k e1) : ∀ m : Nat, s1.toInt = (m : Int) → m ≤ W → 0 ≤ s2.toInt → s2.toInt ≤ 127 * (m : Int) → s2.toInt = bsm Graph_joined (v * W) m → e1.toInt = bsm Graph_joined (v * W) W := by
  refine h (fun s1 s2 _ e1 => ∀ m : Nat, s1.toInt = (m : Int) → m ≤ W → 0 ≤ s2.toInt → s2.toInt ≤ 127 * (m : Int) → s2.toInt = bsm Graph_joined (v * W) m → e1.toInt = bsm Graph_joined (v * W) W) ?_ ?_
  · intro l3_1 l2_1 h1 h2
    intro m hm hmW _ _ hs
    have e : m = W := by omega
    rw [e] at hs; exact hs
  · intro l3_1 l2_1 x1 x2 x3 x4 x5 x6 k e1 h1 h2 h3 h4 h5 h6 h7 h8 h9 ih
    intro m hm hmW h0 hL hs
    have b1 := h6.1
    have b2 := h6.2
    have ep : x1.toInt = ((v * W : Nat) : Int) := by rw [h3, hv, hW]; exact (Int.natCast_mul _ _).symm
    have e2 : x2.toNatClampNeg = v * W + m := nnE (by omega)
    rw [e2] at h5
    have e4 := bc_tr h7
    rw [h5] at e4
    have e5 : x5.toInt = l2_1.toInt + x4.toInt := px_add h8 (by omega) (by omega)
    refine ih (m + 1) (by omega) (by omega) (by omega) (by omega) ?_
    show x5.toInt = bsm Graph_joined (v * W) m + (lb_bc (Graph_joined (v * W + m))).toInt
    rw [← e4, ← hs, e5]
theorem bo_tr {a1 : Int32} {Graph_words : Int32} {Graph_joined : Nat → Int64} {o1 : Int32} (hW : Graph_words.toInt = (W : Int)) (hW2 : W ≤ 32) (hv : a1.toInt = (v : Int)) (h : tr_Graph_bitsOf a1 Graph_words Graph_joined o1) : o1.toInt = bsm Graph_joined (v * W) W := by
  refine h (fun o1 => o1.toInt = bsm Graph_joined (v * W) W) ?_
  · intro x1 h1
    exact bo_tl hW hW2 hv h1 0 (by decide) (Nat.zero_le _) (by decide) (by decide) px_0
theorem gd_tl {c1 : Int32} {c2 : Int32} {Graph_joined_1 : Nat → Int64} {s1 : Int32} {s2 : Nat → Int32} {k : Nat} {e1 : Nat → Int32} (hN : c1.toInt = (Nm : Int)) (hW : c2.toInt = (W : Int)) (hW2 : W ≤ 32) (h : tl_Graph_build_130 c1 c2 Graph_joined_1 s1 s2 k e1) : ∀ m : Nat, s1.toInt = (m : Int) → ∀ v, v < Nm → (v < m → e1 v = s2 v) ∧ (m ≤ v → (e1 v).toInt = bsm Graph_joined_1 (v * W) W) := by
  refine h (fun s1 s2 _ e1 => ∀ m : Nat, s1.toInt = (m : Int) → ∀ v, v < Nm → (v < m → e1 v = s2 v) ∧ (m ≤ v → (e1 v).toInt = bsm Graph_joined_1 (v * W) W)) ?_ ?_
  · intro l4_1 Graph_degree_1 h1 h2
    intro m hm v hv
    exact ⟨fun _ => rfl, fun z => by omega⟩
  · intro l4_1 Graph_degree_1 x1 x2 x3 k e1 h1 h2 h3 h4 h5 ih
    intro m hm v hv
    obtain ⟨i1, i2⟩ := ih (m + 1) (by omega) v hv
    rw [nnE hm] at h4
    refine ⟨fun z => by rw [i1 (by omega), h4, updN (by omega)], fun z => ?_⟩
    by_cases e : v = m
    · rw [i1 (by omega), h4, e, updE]
      exact bo_tr hW hW2 hm h3
    · exact i2 (by omega)
theorem gb_tr {a2 : Int32} {a3 : Int32} {Code_blocks : Int32} {Code_lines : Int32} {Graph_joined : Nat → Int64} {Graph_standing : Nat → Int64} {Graph_degree : Nat → Int32} {Code_first : Nat → Int32} {Code_firstGoal : Nat → Int32} {Code_secondGoal : Nat → Int32} {Code_op : Nat → Int32} {Code_set : Nat → Int32} {Code_left : Nat → Int32} {Code_right : Nat → Int32} {Code_rightNumber : Nat → Int32} {Live_in : Nat → Int64} {Live_used : Nat → Int64} {Live_set : Nat → Int64} {Live_now : Nat → Int64} {o1 : Int32} {o2 : Int32} {o3 : Int32} {o4 : Int32} {o5 : Int32} {o6 : Nat → Int64} {o7 : Nat → Int64} {o8 : Nat → Int32} {o9 : Nat → Int64} {o10 : Nat → Int64} {o11 : Nat → Int64} {o12 : Nat → Int64} {cln : Nat → Int32} (hc : cdP Code_blocks Code_lines Code_first Code_firstGoal Code_secondGoal Code_op Code_set Code_left cln Code_right Code_rightNumber P) (hN : a2.toInt = (Nm : Int)) (hN2 : Nm ≤ 720) (hsl : sl = decide (a3.toInt ≠ 0)) (h : tr_Graph_build a2 a3 Code_blocks Code_lines Graph_joined Graph_standing Graph_degree Code_first Code_firstGoal Code_secondGoal Code_op Code_set Code_left Code_right Code_rightNumber Live_in Live_used Live_set Live_now o1 o2 o3 o4 o5 o6 o7 o8 o9 o10 o11 o12) : o1.toInt = (Nm : Int) ∧ o2.toInt = (((Nm + 63) / 64) : Nat) ∧ o3 = o1 ∧ o4 = o2 ∧ (∀ x y, x < Nm → y < 64 * ((Nm + 63) / 64) → (gbit o6 (64 * (x * ((Nm + 63) / 64)) + y) = true ↔ Jn P sl Nm x y)) ∧ (∀ v, v < 64 * ((Nm + 63) / 64) → (gbit o7 v = true ↔ Sd P sl Nm v)) ∧ (∀ v, v < Nm → isD (Jn P sl Nm v) ((Nm + 63) / 64) (o8 v).toInt) ∧ (∀ c v, c < P.1 → v < 64 * ((Nm + 63) / 64) → (gbit o9 (64 * (c * ((Nm + 63) / 64)) + v) = true ↔ v < Nm ∧ Lv P sl v c 0)) := by
  refine h (fun o1 o2 o3 o4 o5 o6 o7 o8 o9 o10 o11 o12 => o1.toInt = (Nm : Int) ∧ o2.toInt = (((Nm + 63) / 64) : Nat) ∧ o3 = o1 ∧ o4 = o2 ∧ (∀ x y, x < Nm → y < 64 * ((Nm + 63) / 64) → (gbit o6 (64 * (x * ((Nm + 63) / 64)) + y) = true ↔ Jn P sl Nm x y)) ∧ (∀ v, v < 64 * ((Nm + 63) / 64) → (gbit o7 v = true ↔ Sd P sl Nm v)) ∧ (∀ v, v < Nm → isD (Jn P sl Nm v) ((Nm + 63) / 64) (o8 v).toInt) ∧ (∀ c v, c < P.1 → v < 64 * ((Nm + 63) / 64) → (gbit o9 (64 * (c * ((Nm + 63) / 64)) + v) = true ↔ v < Nm ∧ Lv P sl v c 0))) ?_
  · intro x1 x2 x3 x4 x5 x6 x7 x8 x9 x10 x11 x12 h1 h2 h3 h4 h5 h6 h7 h8
    obtain ⟨e1, e2, e3, eI, eU⟩ := so_tr2 hc hN hN2 hsl h4
    have hNW : Nm ≤ 64 * ((Nm + 63) / 64) := by omega
    have z := gz_tl (M := Nm * ((Nm + 63) / 64)) (by rw [e1, e2]; exact (Int.natCast_mul _ _).symm) h5 (by decide)
    have z' : ∀ x y, x < Nm → y < 64 * ((Nm + 63) / 64) → gbit x8 (64 * (x * ((Nm + 63) / 64)) + y) = false := fun x y hx hy => by
      refine gbit_0 (z _ ?_ (fun q => by rw [px_0] at q; omega))
      have h2 : (x + 1) * ((Nm + 63) / 64) ≤ Nm * ((Nm + 63) / 64) := Nat.mul_le_mul_right _ hx
      rw [Nat.add_mul, Nat.one_mul] at h2
      omega
    have hs : symB Nm ((Nm + 63) / 64) x8 := fun x y hx hy => by rw [z' x y hx (by omega), z' y x hy (by omega)]
    obtain ⟨k1, k2⟩ := gk_tl hc e1 e2 (by omega) hNW (by rw [e3]; exact hsl) hsl eI h7 0 (by decide) hs
    have kj : ∀ x y, x < Nm → y < 64 * ((Nm + 63) / 64) → (gbit x10 (64 * (x * ((Nm + 63) / 64)) + y) = true ↔ Jn P sl Nm x y) := fun x y hx hy => by
      rw [k2 x y hx hy, z' x y hx hy]
      constructor
      · rintro (q | ⟨c, _, q1, k, q2, q3⟩)
        · cases q
        · exact ⟨c, k, q1, q2, q3⟩
      · rintro ⟨c, k, q1, q2, q3⟩
        exact Or.inr ⟨c, Nat.zero_le _, q1, k, q2, q3⟩
    refine ⟨e1, e2, rfl, rfl, kj, fun v hv => ?_, fun v hv => ?_, eI⟩
    · rw [(gs_tl e2 hc.1 h6 0 (by decide) v hv).2 (Nat.zero_le _), Sd_iff]
      constructor
      · rintro ⟨c, q1, q2 | q2⟩
        · have q3 := (eU c v q1 hv).1.mp q2
          exact ⟨q3.1, c, q1, Or.inl q3.2⟩
        · have q3 := (eU c v q1 hv).2.mp q2
          exact ⟨q3.1, c, q1, Or.inr q3.2⟩
      · rintro ⟨q0, c, q1, q2 | q2⟩
        · exact ⟨c, q1, Or.inl ((eU c v q1 hv).1.mpr ⟨q0, q2⟩)⟩
        · exact ⟨c, q1, Or.inr ((eU c v q1 hv).2.mpr ⟨q0, q2⟩)⟩
    · refine ⟨x10, v * ((Nm + 63) / 64), fun u hu => kj v u hv hu, ?_⟩
      exact (gd_tl e1 e2 (by omega) h8 0 (by decide) v hv).2 (Nat.zero_le _)
/-- what a line, a block, a program add to the weight of v -/
def wLn (l : Nat → Int) (v : Nat) (k x : Int32) : Int32 := (fun y : Int32 => if l 4 = (v : Int) then y + k else y) ((fun y : Int32 => if l 2 = (v : Int) then y + k else y) (if l 1 = (v : Int) then x + k else x))
def wBl (ls : Nat → Nat → Int) (v : Nat) (k x : Int32) : Nat → Int32
  | 0 => x
  | j + 1 => wLn (ls j) v k (wBl ls v k x j)
def f10 : Nat → Int32
  | 0 => 1
  | n + 1 => f10 n * 10
noncomputable def wPg (P : gPg) (dp : Nat → Nat) (v : Nat) : Nat → Int32
  | 0 => 0
  | b + 1 => wBl (P.2.2.1 b) v (f10 (dp b)) (wPg P dp v b) (P.2.1 b)
theorem aw_tr {a1 a2 : Int32} {f x : Nat → Int32} (h : tr_Colouring_addWeight a1 a2 f x) : ∀ v : Nat, v < 720 → x v = if a1.toInt = (v : Int) then f v + a2 else f v := by
  refine h (fun x => ∀ v : Nat, v < 720 → x v = if a1.toInt = (v : Int) then f v + a2 else f v) ?_ ?_ ?_
  · intro h1
    intro v hv
    rw [if_neg (by omega)]
  · intro h1 h2
    intro v hv
    rw [if_neg (by omega)]
  · intro x1 x2 x3 h1 h2 h3 h4 h5
    intro v hv
    have em : a1.toInt = ((a1.toInt.toNat : Nat) : Int) := (Int.toNat_of_nonneg h1).symm
    rw [nnE em] at h3 h5
    rw [h5]
    by_cases e : v = a1.toInt.toNat
    · rw [e, updE, if_pos em, h4, h3]
    · rw [updN e, if_neg (by omega)]
theorem wl_tl {l3_1 : Int32} {Code_blocks : Int32} {Code_lines : Int32} {Code_first : Nat → Int32} {Code_set : Nat → Int32} {c1 : Int32} {Code_left : Nat → Int32} {Code_right : Nat → Int32} {s1 : Int32} {s2 : Nat → Int32} {k : Nat} {e1 : Nat → Int32} {fg sg op cln rn : Nat → Int32} (hc : cdP Code_blocks Code_lines Code_first fg sg op Code_set Code_left cln Code_right rn P) (ha : l3_1.toInt = (b : Int)) (hb : b < P.1) (h : tl_Colouring_weigh_33 l3_1 Code_blocks Code_lines Code_first Code_set c1 Code_left Code_right s1 s2 k e1) : ∀ j : Nat, j ≤ P.2.1 b → s1.toInt = ((fsm P.2.1 b + j : Nat) : Int) → ∀ (v : Nat) (x : Int32), v < 720 → s2 v = wBl (P.2.2.1 b) v c1 x j → e1 v = wBl (P.2.2.1 b) v c1 x (P.2.1 b) := by
  have eB2 : fsm P.2.1 (b + 1) = fsm P.2.1 b + P.2.1 b := rfl
  refine h (fun s1 s2 _ e1 => ∀ j : Nat, j ≤ P.2.1 b → s1.toInt = ((fsm P.2.1 b + j : Nat) : Int) → ∀ (v : Nat) (x : Int32), v < 720 → s2 v = wBl (P.2.2.1 b) v c1 x j → e1 v = wBl (P.2.2.1 b) v c1 x (P.2.1 b)) ?_ ?_ ?_ ?_
  · intro l5_2 Colouring_weight_2 h1 h2 h3
    intro j hj hl v x hv hs
    have eB := bE_tr2 hc ha hb h2
    have e : j = P.2.1 b := by omega
    rw [e] at hs; exact hs
  · intro l5_2 Colouring_weight_2 x1 x2 x3 x4 x5 x6 x7 k e1 h1 h2 h3 h4 h5 h6 h7 h8 h9 h10 ih
    intro j hj hl v x hv hs
    have eB := bE_tr2 hc ha hb h2
    have hj2 : j < P.2.1 b := by omega
    have hi : l5_2.toNatClampNeg = fsm P.2.1 b + j := nnE (by omega)
    obtain ⟨d0, d1, d2, d3, d4, d5⟩ := hc.2.2.2 b j hb hj2
    rw [hi] at h4 h6 h8
    refine ih (j + 1) (by omega) (by omega) v x hv ?_
    rw [aw_tr h9 v hv, aw_tr h7 v hv, aw_tr h5 v hv, h4, h6, h8, d1, d2, d4, hs]
    rfl
  · intro l5_2 Colouring_weight_2 x1 h1 h2 h3
    intro j hj hl v x hv hs
    have eB := bE_tr2 hc ha hb h2
    have e : j = P.2.1 b := by omega
    rw [e] at hs; exact hs
  · intro l5_2 Colouring_weight_2 x1 x2 x3 x4 x5 x6 x7 x8 k e1 h1 h2 h3 h4 h5 h6 h7 h8 h9 h10 ih
    intro j hj hl v x hv hs
    have eB := bE_tr2 hc ha hb h2
    have hj2 : j < P.2.1 b := by omega
    have hi : l5_2.toNatClampNeg = fsm P.2.1 b + j := nnE (by omega)
    obtain ⟨d0, d1, d2, d3, d4, d5⟩ := hc.2.2.2 b j hb hj2
    rw [hi] at h4 h6 h8
    refine ih (j + 1) (by omega) (by omega) v x hv ?_
    rw [aw_tr h9 v hv, aw_tr h7 v hv, aw_tr h5 v hv, h4, h6, h8, d1, d2, d4, hs]
    rfl
theorem ld_tr {a r : Int32} {d : Nat → Int32} (h : tr_Loops_depth a d r) (ha : a.toInt = (b : Int)) (hb : b < 40) : r = d b := by
  refine h (fun r => r = d b) ?_ ?_ ?_
  · intro h1
    omega
  · intro h1 h2
    omega
  · intro x1 h1 h2 h3
    rw [nnE ha] at h3; exact h3
theorem fa_tl {a1 : Int32} {Loops_depth : Nat → Int32} {s1 : Int32} {s2 : Int32} {k : Nat} {e1 : Int32} {dd : Nat} (ha : a1.toInt = (b : Int)) (hb : b < 40) (hd : (Loops_depth b).toInt = (dd : Int)) (h : tl_Loops_factor_4 a1 Loops_depth s1 s2 k e1) : ∀ m : Nat, s1.toInt = (m : Int) → m ≤ dd → s2 = f10 m → e1 = f10 dd := by
  refine h (fun s1 s2 _ e1 => ∀ m : Nat, s1.toInt = (m : Int) → m ≤ dd → s2 = f10 m → e1 = f10 dd) ?_ ?_ ?_
  · intro l3_1 l2_1 h1 h2
    intro m hm hmd hs
    have q := ld_tr h2 ha hb
    rw [← q] at hd
    rw [px_0] at hd
    have e : m = dd := by omega
    rw [← e]; exact hs
  · intro l3_1 l2_1 x1 h1 h2 h3
    intro m hm hmd hs
    have q := ld_tr h2 ha hb
    rw [← q] at hd
    have e : m = dd := by omega
    rw [← e]; exact hs
  · intro l3_1 l2_1 x1 x2 x3 k e1 h1 h2 h3 h4 h5 ih
    intro m hm hmd hs
    have q := ld_tr h2 ha hb
    rw [← q] at hd
    refine ih (m + 1) (by omega) (by omega) ?_
    rw [h4, hs]; rfl
theorem fa_tr {a1 : Int32} {Loops_depth : Nat → Int32} {o1 : Int32} {dd : Nat} (ha : a1.toInt = (b : Int)) (hb : b < 40) (hd : (Loops_depth b).toInt = (dd : Int)) (h : tr_Loops_factor a1 Loops_depth o1) : o1 = f10 dd := by
  refine h (fun o1 => o1 = f10 dd) ?_
  · intro x1 h1
    exact fa_tl ha hb hd h1 0 (by decide) (Nat.zero_le _) rfl
theorem wb_tl {Code_blocks : Int32} {Loops_depth : Nat → Int32} {Code_first : Nat → Int32} {Code_lines : Int32} {Code_set : Nat → Int32} {Code_left : Nat → Int32} {Code_right : Nat → Int32} {s1 : Int32} {s2 : Nat → Int32} {k : Nat} {e1 : Nat → Int32} {fg sg op cln rn : Nat → Int32} {dp : Nat → Nat} (hc : cdP Code_blocks Code_lines Code_first fg sg op Code_set Code_left cln Code_right rn P) (hP : P.1 ≤ 40) (hd : ∀ b, b < P.1 → (Loops_depth b).toInt = (dp b : Int)) (h : tl_Colouring_weigh_10 Code_blocks Loops_depth Code_first Code_lines Code_set Code_left Code_right s1 s2 k e1) : ∀ b : Nat, s1.toInt = (b : Int) → b ≤ P.1 → ∀ v : Nat, v < 720 → s2 v = wPg P dp v b → e1 v = wPg P dp v P.1 := by
  have cb := hc.1
  refine h (fun s1 s2 _ e1 => ∀ b : Nat, s1.toInt = (b : Int) → b ≤ P.1 → ∀ v : Nat, v < 720 → s2 v = wPg P dp v b → e1 v = wPg P dp v P.1) ?_ ?_
  · intro l3_1 Colouring_weight_1 h1 h2
    intro b hb hbP v hv hs
    have e : b = P.1 := by omega
    rw [e] at hs; exact hs
  · intro l3_1 Colouring_weight_1 x1 x2 x3 x4 k e1 h1 h2 h3 h4 h5 h6 h7 ih
    intro b hb hbP v hv hs
    have hb2 : b < P.1 := by omega
    have q := fa_tr hb (by omega) (hd b hb2) h3
    rw [nnE hb] at h4
    refine ih (b + 1) (by omega) (by omega) v hv ?_
    have r := wl_tl hc hb hb2 h6 0 (Nat.zero_le _) (by rw [h4]; exact (hc.2.2.1 b hb2).1) v (wPg P dp v b) hv (by rw [hs]; rfl)
    rw [r, q]
    rfl
theorem fz4_tl {a1 : Int32} {s1 : Int32} {s2 : Nat → Int32} {k : Nat} {e1 : Nat → Int32} (h : tl_Arrays_fill4_5 a1 s1 s2 k e1) : 0 ≤ s1.toInt → ∀ i : Nat, i < 720 → ((i : Int) < s1.toInt → s2 i = a1) → e1 i = a1 := by
  refine h (fun s1 s2 _ e1 => 0 ≤ s1.toInt → ∀ i : Nat, i < 720 → ((i : Int) < s1.toInt → s2 i = a1) → e1 i = a1) ?_ ?_
  · intro l2_1 z_1 h1 h2
    exact fun _ i hi hz => hz (by omega)
  · intro l2_1 z_1 x1 x2 k e1 h1 h2 h3 h4 ih
    intro h0 i hi hz
    refine ih (by omega) i hi (fun hl => ?_)
    have en : (l2_1.toNatClampNeg : Int) = l2_1.toInt := g_nn h0
    rw [h3]
    unfold upd
    by_cases e : i = l2_1.toNatClampNeg
    · rw [if_pos e]
    · rw [if_neg e]; exact hz (by omega)
theorem fz4_tr {a1 : Int32} {p o1 : Nat → Int32} (h : tr_Arrays_fill4 a1 p o1) : ∀ i : Nat, i < 720 → o1 i = a1 := by
  refine h (fun o1 => ∀ i : Nat, i < 720 → o1 i = a1) ?_
  · intro x1 h1
    exact fun i hi => fz4_tl h1 (by decide) i hi (fun z => by rw [px_0] at z; omega)
theorem wg_tr {Code_blocks : Int32} {Code_lines : Int32} {Colouring_weight : Nat → Int32} {Code_first : Nat → Int32} {Code_set : Nat → Int32} {Code_left : Nat → Int32} {Code_right : Nat → Int32} {Loops_depth : Nat → Int32} {o1 : Nat → Int32} {fg sg op cln rn : Nat → Int32} {dp : Nat → Nat} (hc : cdP Code_blocks Code_lines Code_first fg sg op Code_set Code_left cln Code_right rn P) (hP : P.1 ≤ 40) (hd : ∀ b, b < P.1 → (Loops_depth b).toInt = (dp b : Int)) (h : tr_Colouring_weigh Code_blocks Code_lines Colouring_weight Code_first Code_set Code_left Code_right Loops_depth o1) : ∀ v : Nat, v < 720 → o1 v = wPg P dp v P.1 := by
  refine h (fun o1 => ∀ v : Nat, v < 720 → o1 v = wPg P dp v P.1) ?_
  · intro x1 x2 h1 h2
    intro v hv
    refine wb_tl hc hP hd h2 0 (by decide) (Nat.zero_le _) v hv ?_
    exact fz4_tr h1 v hv
end GRB
