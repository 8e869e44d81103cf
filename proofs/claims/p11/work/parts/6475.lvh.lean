section LIW
variable {P : gPg} {sl : Bool} {W Nm b m nb : Nat}
theorem eb_tl {Live_words : Int32} {c1 : Int32} {c2 : Int32} {Code_blocks : Int32} {Live_in : Nat → Int64} {s1 : Int32} {s2 : Nat → Int64} {k : Nat} {e1 : Nat → Int64} (hW : Live_words.toInt = (W : Int)) (hn : Code_blocks.toInt = (nb : Int)) (h : tl_Live_enterBehind_18 Live_words c1 c2 Code_blocks Live_in s1 s2 k e1) : 0 ≤ s1.toInt → ∀ v, v < 64 * W → (((v / 64 : Nat) : Int) < s1.toInt → gbit e1 v = gbit s2 v) ∧ (s1.toInt ≤ ((v / 64 : Nat) : Int) → gbit e1 v = (gin nb W Live_in c1.toInt v || gin nb W Live_in c2.toInt v)) := by
  refine h (fun s1 s2 _ e1 => 0 ≤ s1.toInt → ∀ v, v < 64 * W → (((v / 64 : Nat) : Int) < s1.toInt → gbit e1 v = gbit s2 v) ∧ (s1.toInt ≤ ((v / 64 : Nat) : Int) → gbit e1 v = (gin nb W Live_in c1.toInt v || gin nb W Live_in c2.toInt v))) ?_ ?_ ?_ ?_ ?_ ?_ ?_ ?_ ?_ ?_
  · intro l5_1 Live_now_1 h1 h2
    exact fun h0 v hv => ⟨fun _ => rfl, fun z => by omega⟩
  · intro l5_1 Live_now_1 x1 x2 k e1 h1 h2 h3 h4 h5 h6 ih
    intro h0
    refine eb_s (g := fun v => gin nb W Live_in c1.toInt v || gin nb W Live_in c2.toInt v) h0 h6 h5 (fun v hv => ?_) (ih (by omega))
    have el : l5_1.toInt = ((l5_1.toInt.toNat : Nat) : Int) := (Int.toNat_of_nonneg h0).symm
    have gc1 := gin_o (nb := nb) (W := W) (inn := Live_in) (c := c1.toInt) (by omega) v
    have gc2 := gin_o (nb := nb) (W := W) (inn := Live_in) (c := c2.toInt) (by omega) v
    show _ = (gin nb W Live_in c1.toInt v || gin nb W Live_in c2.toInt v)
    rw [gc1, gc2]
    simp
  · intro l5_1 Live_now_1 x1 x2 k e1 h1 h2 h3 h4 h5 h6 h7 ih
    intro h0
    refine eb_s (g := fun v => gin nb W Live_in c1.toInt v || gin nb W Live_in c2.toInt v) h0 h7 h6 (fun v hv => ?_) (ih (by omega))
    have el : l5_1.toInt = ((l5_1.toInt.toNat : Nat) : Int) := (Int.toNat_of_nonneg h0).symm
    have gc1 := gin_o (nb := nb) (W := W) (inn := Live_in) (c := c1.toInt) (by omega) v
    have gc2 := gin_o (nb := nb) (W := W) (inn := Live_in) (c := c2.toInt) (by omega) v
    show _ = (gin nb W Live_in c1.toInt v || gin nb W Live_in c2.toInt v)
    rw [gc1, gc2]
    simp
  · intro l5_1 Live_now_1 x1 x2 x3 x4 x5 x6 k e1 h1 h2 h3 h4 h5 h6 h7 h8 h9 h10 h11 ih
    intro h0
    refine eb_s (g := fun v => gin nb W Live_in c1.toInt v || gin nb W Live_in c2.toInt v) h0 h11 h10 (fun v hv => ?_) (ih (by omega))
    have el : l5_1.toInt = ((l5_1.toInt.toNat : Nat) : Int) := (Int.toNat_of_nonneg h0).symm
    have gc1 := gin_o (nb := nb) (W := W) (inn := Live_in) (c := c1.toInt) (by omega) v
    have gc2 := gin_w (nb := nb) (inn := Live_in) h8 h7 h6 h4 (by omega) hW el v hv
    show _ = (gin nb W Live_in c1.toInt v || gin nb W Live_in c2.toInt v)
    rw [gc1, gc2]
    rw [bit_or h9]
    simp
  · intro l5_1 Live_now_1 x1 x2 k e1 h1 h2 h3 h4 h5 h6 h7 ih
    intro h0
    refine eb_s (g := fun v => gin nb W Live_in c1.toInt v || gin nb W Live_in c2.toInt v) h0 h7 h6 (fun v hv => ?_) (ih (by omega))
    have el : l5_1.toInt = ((l5_1.toInt.toNat : Nat) : Int) := (Int.toNat_of_nonneg h0).symm
    have gc1 := gin_o (nb := nb) (W := W) (inn := Live_in) (c := c1.toInt) (by omega) v
    have gc2 := gin_o (nb := nb) (W := W) (inn := Live_in) (c := c2.toInt) (by omega) v
    show _ = (gin nb W Live_in c1.toInt v || gin nb W Live_in c2.toInt v)
    rw [gc1, gc2]
    simp
  · intro l5_1 Live_now_1 x1 x2 k e1 h1 h2 h3 h4 h5 h6 h7 h8 ih
    intro h0
    refine eb_s (g := fun v => gin nb W Live_in c1.toInt v || gin nb W Live_in c2.toInt v) h0 h8 h7 (fun v hv => ?_) (ih (by omega))
    have el : l5_1.toInt = ((l5_1.toInt.toNat : Nat) : Int) := (Int.toNat_of_nonneg h0).symm
    have gc1 := gin_o (nb := nb) (W := W) (inn := Live_in) (c := c1.toInt) (by omega) v
    have gc2 := gin_o (nb := nb) (W := W) (inn := Live_in) (c := c2.toInt) (by omega) v
    show _ = (gin nb W Live_in c1.toInt v || gin nb W Live_in c2.toInt v)
    rw [gc1, gc2]
    simp
  · intro l5_1 Live_now_1 x1 x2 x3 x4 x5 x6 k e1 h1 h2 h3 h4 h5 h6 h7 h8 h9 h10 h11 h12 ih
    intro h0
    refine eb_s (g := fun v => gin nb W Live_in c1.toInt v || gin nb W Live_in c2.toInt v) h0 h12 h11 (fun v hv => ?_) (ih (by omega))
    have el : l5_1.toInt = ((l5_1.toInt.toNat : Nat) : Int) := (Int.toNat_of_nonneg h0).symm
    have gc1 := gin_o (nb := nb) (W := W) (inn := Live_in) (c := c1.toInt) (by omega) v
    have gc2 := gin_w (nb := nb) (inn := Live_in) h9 h8 h7 h5 (by omega) hW el v hv
    show _ = (gin nb W Live_in c1.toInt v || gin nb W Live_in c2.toInt v)
    rw [gc1, gc2]
    rw [bit_or h10]
    simp
  · intro l5_1 Live_now_1 x1 x2 x3 x4 x5 k e1 h1 h2 h3 h4 h5 h6 h7 h8 h9 h10 ih
    intro h0
    refine eb_s (g := fun v => gin nb W Live_in c1.toInt v || gin nb W Live_in c2.toInt v) h0 h10 h9 (fun v hv => ?_) (ih (by omega))
    have el : l5_1.toInt = ((l5_1.toInt.toNat : Nat) : Int) := (Int.toNat_of_nonneg h0).symm
    have gc1 := gin_w (nb := nb) (inn := Live_in) h7 h6 h5 h3 (by omega) hW el v hv
    have gc2 := gin_o (nb := nb) (W := W) (inn := Live_in) (c := c2.toInt) (by omega) v
    show _ = (gin nb W Live_in c1.toInt v || gin nb W Live_in c2.toInt v)
    rw [gc1, gc2]
    rw [Bool.or_false]
  · intro l5_1 Live_now_1 x1 x2 x3 x4 x5 k e1 h1 h2 h3 h4 h5 h6 h7 h8 h9 h10 h11 ih
    intro h0
    refine eb_s (g := fun v => gin nb W Live_in c1.toInt v || gin nb W Live_in c2.toInt v) h0 h11 h10 (fun v hv => ?_) (ih (by omega))
    have el : l5_1.toInt = ((l5_1.toInt.toNat : Nat) : Int) := (Int.toNat_of_nonneg h0).symm
    have gc1 := gin_w (nb := nb) (inn := Live_in) h7 h6 h5 h3 (by omega) hW el v hv
    have gc2 := gin_o (nb := nb) (W := W) (inn := Live_in) (c := c2.toInt) (by omega) v
    show _ = (gin nb W Live_in c1.toInt v || gin nb W Live_in c2.toInt v)
    rw [gc1, gc2]
    rw [Bool.or_false]
  · intro l5_1 Live_now_1 x1 x2 x3 x4 x5 x6 x7 x8 x9 k e1 h1 h2 h3 h4 h5 h6 h7 h8 h9 h10 h11 h12 h13 h14 h15 ih
    intro h0
    refine eb_s (g := fun v => gin nb W Live_in c1.toInt v || gin nb W Live_in c2.toInt v) h0 h15 h14 (fun v hv => ?_) (ih (by omega))
    have el : l5_1.toInt = ((l5_1.toInt.toNat : Nat) : Int) := (Int.toNat_of_nonneg h0).symm
    have gc1 := gin_w (nb := nb) (inn := Live_in) h7 h6 h5 h3 (by omega) hW el v hv
    have gc2 := gin_w (nb := nb) (inn := Live_in) h12 h11 h10 h8 (by omega) hW el v hv
    show _ = (gin nb W Live_in c1.toInt v || gin nb W Live_in c2.toInt v)
    rw [gc1, gc2]
    rw [bit_or h13]
theorem eb_tr {a2 : Int32} {Live_words : Int32} {Code_blocks : Int32} {Live_in : Nat → Int64} {Live_now : Nat → Int64} {Code_firstGoal : Nat → Int32} {Code_secondGoal : Nat → Int32} {o1 : Nat → Int64} (hW : Live_words.toInt = (W : Int)) (hn : Code_blocks.toInt = (P.1 : Int)) (ha : a2.toInt = (b : Int)) (hg : (Code_firstGoal b).toInt = P.2.2.2 b 0 ∧ (Code_secondGoal b).toInt = P.2.2.2 b 1) (h : tr_Live_enterBehind a2 Live_words Code_blocks Live_in Live_now Code_firstGoal Code_secondGoal o1) : ∀ v, v < 64 * W → (gbit o1 v = true ↔ goX P (fun g => gbit Live_in (64 * (g * W) + v) = true) b) := by
  refine h (fun o1 => ∀ v, v < 64 * W → (gbit o1 v = true ↔ goX P (fun g => gbit Live_in (64 * (g * W) + v) = true) b)) ?_
  · intro x1 x2 x3 h1 h2 h3
    intro v hv
    rw [nnE ha] at h1 h2
    have q := (eb_tl hW hn h3 (by decide) v hv).2 (by rw [px_0]; omega)
    rw [q]
    exact go_gin (by rw [h1]; exact hg.1) (by rw [h2]; exact hg.2)
theorem sw_tl {Live_words : Int32} {l3_1 : Int32} {Live_used : Nat → Int64} {c1 : Nat → Int64} {Live_set : Nat → Int64} {s1 : Int32} {s2 : Int32} {s3 : Nat → Int64} {k : Nat} {e1 : Int32} {e2 : Nat → Int64} (hW : Live_words.toInt = (W : Int)) (hb : l3_1.toInt = (b : Int)) (h : tl_Live_sweep_22 Live_words l3_1 Live_used c1 Live_set s1 s2 s3 k e1 e2) : ∀ m : Nat, s1.toInt = (m : Int) → swQ W b Live_used Live_set c1 m s2 s3 e1 e2 := by
  refine h (fun s1 s2 s3 _ e1 e2 => ∀ m : Nat, s1.toInt = (m : Int) → swQ W b Live_used Live_set c1 m s2 s3 e1 e2) ?_ ?_ ?_ ?_
  · intro l4_2 l2_2 Live_in_2 h1 h2 h3
    exact fun m hm => swQ_0 (by omega)
  · intro l4_2 l2_2 Live_in_2 x1 x2 x3 x4 x5 x6 x7 x8 x9 x10 k e1 e2 h1 h2 h3 h4 h5 h6 h7 h8 h9 h10 h11 h12 h13 h14 ih
    intro m hm
    have ep : x1.toInt = ((b * W : Nat) : Int) := by rw [h4, hb, hW]; exact (Int.natCast_mul b W).symm
    have ei : x2.toNatClampNeg = b * W + m := nnE (by omega)
    have em : l4_2.toNatClampNeg = m := nnE hm
    rw [ei] at h13 h6 h8
    rw [em] at h7
    refine swQ_s (by omega) h13 (fun v hv => ?_) ?_ (ih (m + 1) (by omega))
    · unfold swV gbit
      have e3 : (64 * (b * W) + v) / 64 = b * W + m := by omega
      have e4 : (64 * (b * W) + v) % 64 = v % 64 := by omega
      rw [e3, e4, hv, bit_or h11, bit_and h10, bit_not h9 _ (Nat.mod_lt _ (by decide)), h6, h7, h8]
    · exact fun z => absurd z (by decide)
  · intro l4_2 l2_2 Live_in_2 x1 x2 x3 x4 x5 x6 x7 x8 x9 x10 x11 k e1 e2 h1 h2 h3 h4 h5 h6 h7 h8 h9 h10 h11 h12 h13 h14 h15 h16 ih
    intro m hm
    have ep : x1.toInt = ((b * W : Nat) : Int) := by rw [h4, hb, hW]; exact (Int.natCast_mul b W).symm
    have ei : x2.toNatClampNeg = b * W + m := nnE (by omega)
    have em : l4_2.toNatClampNeg = m := nnE hm
    rw [ei] at h15 h6 h8 h13
    rw [em] at h7
    refine swQ_s (by omega) h15 (fun v hv => ?_) ?_ (ih (m + 1) (by omega))
    · unfold swV gbit
      have e3 : (64 * (b * W) + v) / 64 = b * W + m := by omega
      have e4 : (64 * (b * W) + v) % 64 = v % 64 := by omega
      rw [e3, e4, hv, bit_or h11, bit_and h10, bit_not h9 _ (Nat.mod_lt _ (by decide)), h6, h7, h8]
    · exact fun _ => ⟨h12, h14.trans h13⟩
  · intro l4_2 l2_2 Live_in_2 x1 x2 x3 x4 x5 x6 x7 x8 x9 x10 x11 k e1 e2 h1 h2 h3 h4 h5 h6 h7 h8 h9 h10 h11 h12 h13 h14 h15 h16 ih
    intro m hm
    have ep : x1.toInt = ((b * W : Nat) : Int) := by rw [h4, hb, hW]; exact (Int.natCast_mul b W).symm
    have ei : x2.toNatClampNeg = b * W + m := nnE (by omega)
    have em : l4_2.toNatClampNeg = m := nnE hm
    rw [ei] at h15 h6 h8 h13
    rw [em] at h7
    refine swQ_s (by omega) h15 (fun v hv => ?_) ?_ (ih (m + 1) (by omega))
    · unfold swV gbit
      have e3 : (64 * (b * W) + v) / 64 = b * W + m := by omega
      have e4 : (64 * (b * W) + v) % 64 = v % 64 := by omega
      rw [e3, e4, hv, bit_or h11, bit_and h10, bit_not h9 _ (Nat.mod_lt _ (by decide)), h6, h7, h8]
    · exact fun z => absurd z (by decide)
theorem sn_tl {Live_words : Int32} {Code_blocks : Int32} {Code_firstGoal : Nat → Int32} {Code_secondGoal : Nat → Int32} {Live_used : Nat → Int64} {Live_set : Nat → Int64} {s1 : Int32} {s2 : Nat → Int64} {s3 : Int32} {s4 : Nat → Int64} {k : Nat} {e1 : Int32} {e2 : Nat → Int64} {e3 : Nat → Int64} (hW2 : Nm ≤ 64 * W) (hW : Live_words.toInt = (W : Int)) (hn : Code_blocks.toInt = (P.1 : Int)) (hg : (∀ b : Nat, b < P.1 → (Code_firstGoal b).toInt = P.2.2.2 b 0 ∧ (Code_secondGoal b).toInt = P.2.2.2 b 1)) (hu : (∀ c v, c < P.1 → v < 64 * W → (gbit Live_used (64 * (c * W) + v) = true ↔ v < Nm ∧ usd P sl v c) ∧ (gbit Live_set (64 * (c * W) + v) = true ↔ v < Nm ∧ std P sl v c))) (h : tl_Live_sweep_9 Live_words Code_blocks Code_firstGoal Code_secondGoal Live_used Live_set s1 s2 s3 s4 k e1 e2 e3) : ∀ b : Nat, b ≤ P.1 → s1.toInt = (b : Int) - 1 → swp P sl W Nm b s3 s4 e1 e2 := by
  refine h (fun s1 s2 s3 s4 _ e1 e2 e3 => ∀ b : Nat, b ≤ P.1 → s1.toInt = (b : Int) - 1 → swp P sl W Nm b s3 s4 e1 e2) ?_ ?_
  · intro l3_1 Live_now_1 l2_1 Live_in_1 h1 h2 h3
    intro b hb hl
    have e : b = 0 := by omega
    rw [e]; exact swp_0
  · intro l3_1 Live_now_1 l2_1 Live_in_1 x1 x2 x3 x4 k e1 e2 e3 h1 h2 h3 h4 h5 h6 ih
    intro b hb hl
    obtain ⟨a, ea⟩ : ∃ a, b = a + 1 := ⟨b - 1, by omega⟩
    rw [ea] at hl ⊢
    have eb := eb_tr (b := a) hW hn (by omega) (hg a (by omega)) h4
    obtain ⟨q1, q2, q3⟩ := sw_tl (b := a) hW (by omega) h5 0 (by decide)
    refine swp_s hW2 (by omega) (fun c v hc hne hv => ?_) (fun v hv => ?_) (fun z => ?_) (ih a (by omega) (by omega))
    · exact q1 _ (fun w hw _ e => hne (reg_u e hv hw).1)
    · rw [q2 v hv (Nat.zero_le _)]
      unfold swV
      rw [Bool.or_eq_true, Bool.and_eq_true, Bool.not_eq_true', (hu a v (by omega) hv).1, eb v hv, ← Bool.not_eq_true, (hu a v (by omega) hv).2]
    · obtain ⟨z1, z2⟩ := q3 z
      exact ⟨z1, fun v hv => by rw [z2 v hv (Nat.zero_le _), q2 v hv (Nat.zero_le _)]⟩
theorem sn_tr {Live_words : Int32} {Code_blocks : Int32} {Live_in : Nat → Int64} {Live_used : Nat → Int64} {Live_set : Nat → Int64} {Live_now : Nat → Int64} {Code_firstGoal : Nat → Int32} {Code_secondGoal : Nat → Int32} {o1 : Int32} {o2 : Nat → Int64} {o3 : Nat → Int64} (hW2 : Nm ≤ 64 * W) (hW : Live_words.toInt = (W : Int)) (hn : Code_blocks.toInt = (P.1 : Int)) (hg : (∀ b : Nat, b < P.1 → (Code_firstGoal b).toInt = P.2.2.2 b 0 ∧ (Code_secondGoal b).toInt = P.2.2.2 b 1)) (hu : (∀ c v, c < P.1 → v < 64 * W → (gbit Live_used (64 * (c * W) + v) = true ↔ v < Nm ∧ usd P sl v c) ∧ (gbit Live_set (64 * (c * W) + v) = true ↔ v < Nm ∧ std P sl v c))) (h : tr_Live_sweep Live_words Code_blocks Live_in Live_used Live_set Live_now Code_firstGoal Code_secondGoal o1 o2 o3) : swp P sl W Nm P.1 0 Live_in o1 o2 := by
  refine h (fun o1 o2 _ => swp P sl W Nm P.1 0 Live_in o1 o2) ?_
  · intro x1 x2 x3 x4 h1 h2
    exact sn_tl hW2 hW hn hg hu h2 P.1 (Nat.le_refl _) (by omega)
theorem so_tl {Code_blocks : Int32} {c1 : Int32} {Live_used_1 : Nat → Int64} {Live_set_1 : Nat → Int64} {Code_firstGoal : Nat → Int32} {Code_secondGoal : Nat → Int32} {s1 : Int32} {s2 : Int32} {s3 : Nat → Int64} {s4 : Nat → Int64} {k : Nat} {e1 : Nat → Int64} {e2 : Nat → Int64} (hW2 : Nm ≤ 64 * W) (hW : c1.toInt = (W : Int)) (hn : Code_blocks.toInt = (P.1 : Int)) (hg : (∀ b : Nat, b < P.1 → (Code_firstGoal b).toInt = P.2.2.2 b 0 ∧ (Code_secondGoal b).toInt = P.2.2.2 b 1)) (hu : (∀ c v, c < P.1 → v < 64 * W → (gbit Live_used_1 (64 * (c * W) + v) = true ↔ v < Nm ∧ usd P sl v c) ∧ (gbit Live_set_1 (64 * (c * W) + v) = true ↔ v < Nm ∧ std P sl v c))) (h : tl_Live_solve_112 Code_blocks c1 Live_used_1 Live_set_1 Code_firstGoal Code_secondGoal s1 s2 s3 s4 k e1 e2) : ∀ p : Nat, s1.toInt = (p : Int) → lvSc P sl W Nm s3 → (∀ v c, v < Nm → c < P.1 → Lt P sl v p c → gbit s3 (64 * (c * W) + v) = true) → (s2.toInt = 0 → ∀ c v, c < P.1 → v < Nm → lvC P sl W v s3 c → gbit s3 (64 * (c * W) + v) = true) → ∀ c v, c < P.1 → v < 64 * W → (gbit e1 (64 * (c * W) + v) = true ↔ v < Nm ∧ Lv P sl v c 0) := by
  refine h (fun s1 s2 s3 s4 _ e1 e2 => ∀ p : Nat, s1.toInt = (p : Int) → lvSc P sl W Nm s3 → (∀ v c, v < Nm → c < P.1 → Lt P sl v p c → gbit s3 (64 * (c * W) + v) = true) → (s2.toInt = 0 → ∀ c v, c < P.1 → v < Nm → lvC P sl W v s3 c → gbit s3 (64 * (c * W) + v) = true) → ∀ c v, c < P.1 → v < 64 * W → (gbit e1 (64 * (c * W) + v) = true ↔ v < Nm ∧ Lv P sl v c 0)) ?_ ?_ ?_
  · intro l5_1 l4_1 Live_in_1 Live_now_1 h1 h2 h3
    exact fun p hp hs hc hz => lv_end2 hW2 (by omega) hs hc
  · intro l5_1 l4_1 Live_in_1 Live_now_1 h1 h2 h3 h4
    exact fun p hp hs hc hz => lv_end1 hW2 hs (hz h4)
  · intro l5_1 l4_1 Live_in_1 Live_now_1 x1 x2 x3 x4 k e1 e2 h1 h2 h3 h4 h5 h6 h7 ih
    intro p hp hs hc hz
    obtain ⟨q1, q2, q3⟩ := sn_tr hW2 hW hn hg hu h6
    refine ih (p + 1) (by omega) (q1 hs) (fun v c hv hc' h' => q2 p v hv (fun c hc2 h2 => hc v c hv hc2 h2) (fun c hc2 hb2 => by omega) c hc' h') (fun z => ?_)
    obtain ⟨-, z2, z3⟩ := q3 z
    intro c v hc' hv h'
    rw [z2 c v hc' (by omega)]
    refine z3 c v hc' hv ?_
    rcases h' with h' | ⟨h1', h2'⟩
    · exact Or.inl h'
    · exact Or.inr ⟨h1', goX_mo (fun g hg' hl => by rw [← z2 g v hg' (by omega)]; exact hl) h2'⟩
theorem so_tr {a2 : Int32} {a3 : Int32} {Code_blocks : Int32} {Code_lines : Int32} {Live_in : Nat → Int64} {Live_used : Nat → Int64} {Live_set : Nat → Int64} {Live_now : Nat → Int64} {Code_first : Nat → Int32} {Code_firstGoal : Nat → Int32} {Code_secondGoal : Nat → Int32} {Code_op : Nat → Int32} {Code_set : Nat → Int32} {Code_left : Nat → Int32} {Code_right : Nat → Int32} {Code_rightNumber : Nat → Int32} {o1 : Int32} {o2 : Int32} {o3 : Int32} {o4 : Nat → Int64} {o5 : Nat → Int64} {o6 : Nat → Int64} {o7 : Nat → Int64} {cln : Nat → Int32} (hc : cdP Code_blocks Code_lines Code_first Code_firstGoal Code_secondGoal Code_op Code_set Code_left cln Code_right Code_rightNumber P) (hN : a2.toInt = (Nm : Int)) (hN2 : Nm ≤ 720) (hsl : sl = decide (a3.toInt ≠ 0)) (h : tr_Live_solve a2 a3 Code_blocks Code_lines Live_in Live_used Live_set Live_now Code_first Code_firstGoal Code_secondGoal Code_op Code_set Code_left Code_right Code_rightNumber o1 o2 o3 o4 o5 o6 o7) : (o1.toInt = (Nm : Int) ∧ o2.toInt = (((Nm + 63) / 64 : Nat) : Int) ∧ o3 = a3 ∧ (∀ c v, c < P.1 → v < 64 * ((Nm + 63) / 64) → (gbit o4 (64 * (c * ((Nm + 63) / 64)) + v) = true ↔ v < Nm ∧ Lv P sl v c 0)) ∧ ∀ c v, c < P.1 → v < 64 * ((Nm + 63) / 64) → (gbit o5 (64 * (c * ((Nm + 63) / 64)) + v) = true ↔ v < Nm ∧ usd P sl v c) ∧ (gbit o6 (64 * (c * ((Nm + 63) / 64)) + v) = true ↔ v < Nm ∧ std P sl v c)) := by
  refine h (fun o1 o2 o3 o4 o5 o6 o7 => (o1.toInt = (Nm : Int) ∧ o2.toInt = (((Nm + 63) / 64 : Nat) : Int) ∧ o3 = a3 ∧ (∀ c v, c < P.1 → v < 64 * ((Nm + 63) / 64) → (gbit o4 (64 * (c * ((Nm + 63) / 64)) + v) = true ↔ v < Nm ∧ Lv P sl v c 0)) ∧ ∀ c v, c < P.1 → v < 64 * ((Nm + 63) / 64) → (gbit o5 (64 * (c * ((Nm + 63) / 64)) + v) = true ↔ v < Nm ∧ usd P sl v c) ∧ (gbit o6 (64 * (c * ((Nm + 63) / 64)) + v) = true ↔ v < Nm ∧ std P sl v c))) ?_
  · intro x1 x2 x3 x4 x5 x6 x7 x8 x9 x10 x11 h1 h2 h3 h4 h5 h6 h7
    have e2 : x2.toInt = (Nm : Int) := by omega
    have e4 : x4.toInt = (((Nm + 63) / 64 : Nat) : Int) := by omega
    have hW2 : Nm ≤ 64 * ((Nm + 63) / 64) := by omega
    have z := sz_tl (M := P.1 * ((Nm + 63) / 64)) (by rw [hc.1, e4]; exact (Int.natCast_mul _ _).symm) h5 (by decide)
    have zr : ∀ (f : Nat → Int64), (∀ i, i < P.1 * ((Nm + 63) / 64) → f i = 0) → zrB P ((Nm + 63) / 64) 0 f := fun f hf c v hc' _ hv => by
      refine gbit_0 (hf _ ?_)
      have h2 : (c + 1) * ((Nm + 63) / 64) ≤ P.1 * ((Nm + 63) / 64) := Nat.mul_le_mul_right _ hc'
      rw [Nat.add_mul, Nat.one_mul] at h2
      omega
    have n0 : ∀ i : Nat, ¬ (i : Int) < (0 : Int32).toInt := fun i => by rw [px_0]; omega
    have z1 : ∀ i, i < P.1 * ((Nm + 63) / 64) → x5 i = 0 := fun i hi => (z i hi (fun q => absurd q (n0 i))).1
    have z2 : ∀ i, i < P.1 * ((Nm + 63) / 64) → x6 i = 0 := fun i hi => (z i hi (fun q => absurd q (n0 i))).2.1
    have z3 : ∀ i, i < P.1 * ((Nm + 63) / 64) → x7 i = 0 := fun i hi => (z i hi (fun q => absurd q (n0 i))).2.2
    have g := sg_tl hc hW2 e2 e4 hsl h6 0 (by decide) (zr _ z2) (zr _ z3)
    have g' := fun c v hc' hv => (g c v hc' hv).2 (Nat.zero_le _)
    have zi := zr _ z1
    refine ⟨e2, e4, rfl, ?_, g'⟩
    refine so_tl hW2 e4 hc.1 (fun b hb => (hc.2.2.1 b hb).2) g' h7 0 (by decide) (fun c v hc' hv h' => ?_) (fun v c _ _ h' => absurd h' id) (fun q => absurd q (by decide))
    rw [zi c v hc' (Nat.zero_le _) hv] at h'
    cases h'
theorem eb_tl2 {Live_words : Int32} {c1 : Int32} {c2 : Int32} {Code_blocks : Int32} {Live_in : Nat → Int64} {s1 : Int32} {s2 : Nat → Int64} {k : Nat} {e1 : Nat → Int64} (hW : Live_words.toInt = (W : Int)) (hn : Code_blocks.toInt = (nb : Int)) (h : tl_Live_enterBehind2_18 Live_words c1 c2 Code_blocks Live_in s1 s2 k e1) : 0 ≤ s1.toInt → ∀ v, v < 64 * W → (((v / 64 : Nat) : Int) < s1.toInt → gbit e1 v = gbit s2 v) ∧ (s1.toInt ≤ ((v / 64 : Nat) : Int) → gbit e1 v = (gin nb W Live_in c1.toInt v || gin nb W Live_in c2.toInt v)) := by
  refine h (fun s1 s2 _ e1 => 0 ≤ s1.toInt → ∀ v, v < 64 * W → (((v / 64 : Nat) : Int) < s1.toInt → gbit e1 v = gbit s2 v) ∧ (s1.toInt ≤ ((v / 64 : Nat) : Int) → gbit e1 v = (gin nb W Live_in c1.toInt v || gin nb W Live_in c2.toInt v))) ?_ ?_ ?_ ?_ ?_ ?_ ?_ ?_ ?_ ?_
  · intro l5_1 Live_now_1 h1 h2
    exact fun h0 v hv => ⟨fun _ => rfl, fun z => by omega⟩
  · intro l5_1 Live_now_1 x1 x2 k e1 h1 h2 h3 h4 h5 h6 ih
    intro h0
    refine eb_s (g := fun v => gin nb W Live_in c1.toInt v || gin nb W Live_in c2.toInt v) h0 h6 h5 (fun v hv => ?_) (ih (by omega))
    have el : l5_1.toInt = ((l5_1.toInt.toNat : Nat) : Int) := (Int.toNat_of_nonneg h0).symm
    have gc1 := gin_o (nb := nb) (W := W) (inn := Live_in) (c := c1.toInt) (by omega) v
    have gc2 := gin_o (nb := nb) (W := W) (inn := Live_in) (c := c2.toInt) (by omega) v
    show _ = (gin nb W Live_in c1.toInt v || gin nb W Live_in c2.toInt v)
    rw [gc1, gc2]
    simp
  · intro l5_1 Live_now_1 x1 x2 k e1 h1 h2 h3 h4 h5 h6 h7 ih
    intro h0
    refine eb_s (g := fun v => gin nb W Live_in c1.toInt v || gin nb W Live_in c2.toInt v) h0 h7 h6 (fun v hv => ?_) (ih (by omega))
    have el : l5_1.toInt = ((l5_1.toInt.toNat : Nat) : Int) := (Int.toNat_of_nonneg h0).symm
    have gc1 := gin_o (nb := nb) (W := W) (inn := Live_in) (c := c1.toInt) (by omega) v
    have gc2 := gin_o (nb := nb) (W := W) (inn := Live_in) (c := c2.toInt) (by omega) v
    show _ = (gin nb W Live_in c1.toInt v || gin nb W Live_in c2.toInt v)
    rw [gc1, gc2]
    simp
  · intro l5_1 Live_now_1 x1 x2 x3 x4 x5 x6 k e1 h1 h2 h3 h4 h5 h6 h7 h8 h9 h10 h11 ih
    intro h0
    refine eb_s (g := fun v => gin nb W Live_in c1.toInt v || gin nb W Live_in c2.toInt v) h0 h11 h10 (fun v hv => ?_) (ih (by omega))
    have el : l5_1.toInt = ((l5_1.toInt.toNat : Nat) : Int) := (Int.toNat_of_nonneg h0).symm
    have gc1 := gin_o (nb := nb) (W := W) (inn := Live_in) (c := c1.toInt) (by omega) v
    have gc2 := gin_w (nb := nb) (inn := Live_in) h8 h7 h6 h4 (by omega) hW el v hv
    show _ = (gin nb W Live_in c1.toInt v || gin nb W Live_in c2.toInt v)
    rw [gc1, gc2]
    rw [bit_or h9]
    simp
  · intro l5_1 Live_now_1 x1 x2 k e1 h1 h2 h3 h4 h5 h6 h7 ih
    intro h0
    refine eb_s (g := fun v => gin nb W Live_in c1.toInt v || gin nb W Live_in c2.toInt v) h0 h7 h6 (fun v hv => ?_) (ih (by omega))
    have el : l5_1.toInt = ((l5_1.toInt.toNat : Nat) : Int) := (Int.toNat_of_nonneg h0).symm
    have gc1 := gin_o (nb := nb) (W := W) (inn := Live_in) (c := c1.toInt) (by omega) v
    have gc2 := gin_o (nb := nb) (W := W) (inn := Live_in) (c := c2.toInt) (by omega) v
    show _ = (gin nb W Live_in c1.toInt v || gin nb W Live_in c2.toInt v)
    rw [gc1, gc2]
    simp
  · intro l5_1 Live_now_1 x1 x2 k e1 h1 h2 h3 h4 h5 h6 h7 h8 ih
    intro h0
    refine eb_s (g := fun v => gin nb W Live_in c1.toInt v || gin nb W Live_in c2.toInt v) h0 h8 h7 (fun v hv => ?_) (ih (by omega))
    have el : l5_1.toInt = ((l5_1.toInt.toNat : Nat) : Int) := (Int.toNat_of_nonneg h0).symm
    have gc1 := gin_o (nb := nb) (W := W) (inn := Live_in) (c := c1.toInt) (by omega) v
    have gc2 := gin_o (nb := nb) (W := W) (inn := Live_in) (c := c2.toInt) (by omega) v
    show _ = (gin nb W Live_in c1.toInt v || gin nb W Live_in c2.toInt v)
    rw [gc1, gc2]
    simp
  · intro l5_1 Live_now_1 x1 x2 x3 x4 x5 x6 k e1 h1 h2 h3 h4 h5 h6 h7 h8 h9 h10 h11 h12 ih
    intro h0
    refine eb_s (g := fun v => gin nb W Live_in c1.toInt v || gin nb W Live_in c2.toInt v) h0 h12 h11 (fun v hv => ?_) (ih (by omega))
    have el : l5_1.toInt = ((l5_1.toInt.toNat : Nat) : Int) := (Int.toNat_of_nonneg h0).symm
    have gc1 := gin_o (nb := nb) (W := W) (inn := Live_in) (c := c1.toInt) (by omega) v
    have gc2 := gin_w (nb := nb) (inn := Live_in) h9 h8 h7 h5 (by omega) hW el v hv
    show _ = (gin nb W Live_in c1.toInt v || gin nb W Live_in c2.toInt v)
    rw [gc1, gc2]
    rw [bit_or h10]
    simp
  · intro l5_1 Live_now_1 x1 x2 x3 x4 x5 k e1 h1 h2 h3 h4 h5 h6 h7 h8 h9 h10 ih
    intro h0
    refine eb_s (g := fun v => gin nb W Live_in c1.toInt v || gin nb W Live_in c2.toInt v) h0 h10 h9 (fun v hv => ?_) (ih (by omega))
    have el : l5_1.toInt = ((l5_1.toInt.toNat : Nat) : Int) := (Int.toNat_of_nonneg h0).symm
    have gc1 := gin_w (nb := nb) (inn := Live_in) h7 h6 h5 h3 (by omega) hW el v hv
    have gc2 := gin_o (nb := nb) (W := W) (inn := Live_in) (c := c2.toInt) (by omega) v
    show _ = (gin nb W Live_in c1.toInt v || gin nb W Live_in c2.toInt v)
    rw [gc1, gc2]
    rw [Bool.or_false]
  · intro l5_1 Live_now_1 x1 x2 x3 x4 x5 k e1 h1 h2 h3 h4 h5 h6 h7 h8 h9 h10 h11 ih
    intro h0
    refine eb_s (g := fun v => gin nb W Live_in c1.toInt v || gin nb W Live_in c2.toInt v) h0 h11 h10 (fun v hv => ?_) (ih (by omega))
    have el : l5_1.toInt = ((l5_1.toInt.toNat : Nat) : Int) := (Int.toNat_of_nonneg h0).symm
    have gc1 := gin_w (nb := nb) (inn := Live_in) h7 h6 h5 h3 (by omega) hW el v hv
    have gc2 := gin_o (nb := nb) (W := W) (inn := Live_in) (c := c2.toInt) (by omega) v
    show _ = (gin nb W Live_in c1.toInt v || gin nb W Live_in c2.toInt v)
    rw [gc1, gc2]
    rw [Bool.or_false]
  · intro l5_1 Live_now_1 x1 x2 x3 x4 x5 x6 x7 x8 x9 k e1 h1 h2 h3 h4 h5 h6 h7 h8 h9 h10 h11 h12 h13 h14 h15 ih
    intro h0
    refine eb_s (g := fun v => gin nb W Live_in c1.toInt v || gin nb W Live_in c2.toInt v) h0 h15 h14 (fun v hv => ?_) (ih (by omega))
    have el : l5_1.toInt = ((l5_1.toInt.toNat : Nat) : Int) := (Int.toNat_of_nonneg h0).symm
    have gc1 := gin_w (nb := nb) (inn := Live_in) h7 h6 h5 h3 (by omega) hW el v hv
    have gc2 := gin_w (nb := nb) (inn := Live_in) h12 h11 h10 h8 (by omega) hW el v hv
    show _ = (gin nb W Live_in c1.toInt v || gin nb W Live_in c2.toInt v)
    rw [gc1, gc2]
    rw [bit_or h13]
theorem eb_tr2 {a2 : Int32} {Live_words : Int32} {Code_blocks : Int32} {Live_in : Nat → Int64} {Live_now : Nat → Int64} {Code_firstGoal : Nat → Int32} {Code_secondGoal : Nat → Int32} {o1 : Nat → Int64} (hW : Live_words.toInt = (W : Int)) (hn : Code_blocks.toInt = (P.1 : Int)) (ha : a2.toInt = (b : Int)) (hg : (Code_firstGoal b).toInt = P.2.2.2 b 0 ∧ (Code_secondGoal b).toInt = P.2.2.2 b 1) (h : tr_Live_enterBehind2 a2 Live_words Code_blocks Live_in Live_now Code_firstGoal Code_secondGoal o1) : ∀ v, v < 64 * W → (gbit o1 v = true ↔ goX P (fun g => gbit Live_in (64 * (g * W) + v) = true) b) := by
  refine h (fun o1 => ∀ v, v < 64 * W → (gbit o1 v = true ↔ goX P (fun g => gbit Live_in (64 * (g * W) + v) = true) b)) ?_
  · intro x1 x2 x3 h1 h2 h3
    intro v hv
    rw [nnE ha] at h1 h2
    have q := (eb_tl2 hW hn h3 (by decide) v hv).2 (by rw [px_0]; omega)
    rw [q]
    exact go_gin (by rw [h1]; exact hg.1) (by rw [h2]; exact hg.2)
theorem sw_tl2 {Live_words : Int32} {l3_1 : Int32} {Live_used : Nat → Int64} {c1 : Nat → Int64} {Live_set : Nat → Int64} {s1 : Int32} {s2 : Int32} {s3 : Nat → Int64} {k : Nat} {e1 : Int32} {e2 : Nat → Int64} (hW : Live_words.toInt = (W : Int)) (hb : l3_1.toInt = (b : Int)) (h : tl_Live_sweep2_22 Live_words l3_1 Live_used c1 Live_set s1 s2 s3 k e1 e2) : ∀ m : Nat, s1.toInt = (m : Int) → swQ W b Live_used Live_set c1 m s2 s3 e1 e2 := by
  refine h (fun s1 s2 s3 _ e1 e2 => ∀ m : Nat, s1.toInt = (m : Int) → swQ W b Live_used Live_set c1 m s2 s3 e1 e2) ?_ ?_ ?_ ?_
  · intro l4_2 l2_2 Live_in_2 h1 h2 h3
    exact fun m hm => swQ_0 (by omega)
  · intro l4_2 l2_2 Live_in_2 x1 x2 x3 x4 x5 x6 x7 x8 x9 x10 k e1 e2 h1 h2 h3 h4 h5 h6 h7 h8 h9 h10 h11 h12 h13 h14 ih
    intro m hm
    have ep : x1.toInt = ((b * W : Nat) : Int) := by rw [h4, hb, hW]; exact (Int.natCast_mul b W).symm
    have ei : x2.toNatClampNeg = b * W + m := nnE (by omega)
    have em : l4_2.toNatClampNeg = m := nnE hm
    rw [ei] at h13 h6 h8
    rw [em] at h7
    refine swQ_s (by omega) h13 (fun v hv => ?_) ?_ (ih (m + 1) (by omega))
    · unfold swV gbit
      have e3 : (64 * (b * W) + v) / 64 = b * W + m := by omega
      have e4 : (64 * (b * W) + v) % 64 = v % 64 := by omega
      rw [e3, e4, hv, bit_or h11, bit_and h10, bit_not h9 _ (Nat.mod_lt _ (by decide)), h6, h7, h8]
    · exact fun z => absurd z (by decide)
  · intro l4_2 l2_2 Live_in_2 x1 x2 x3 x4 x5 x6 x7 x8 x9 x10 x11 k e1 e2 h1 h2 h3 h4 h5 h6 h7 h8 h9 h10 h11 h12 h13 h14 h15 h16 ih
    intro m hm
    have ep : x1.toInt = ((b * W : Nat) : Int) := by rw [h4, hb, hW]; exact (Int.natCast_mul b W).symm
    have ei : x2.toNatClampNeg = b * W + m := nnE (by omega)
    have em : l4_2.toNatClampNeg = m := nnE hm
    rw [ei] at h15 h6 h8 h13
    rw [em] at h7
    refine swQ_s (by omega) h15 (fun v hv => ?_) ?_ (ih (m + 1) (by omega))
    · unfold swV gbit
      have e3 : (64 * (b * W) + v) / 64 = b * W + m := by omega
      have e4 : (64 * (b * W) + v) % 64 = v % 64 := by omega
      rw [e3, e4, hv, bit_or h11, bit_and h10, bit_not h9 _ (Nat.mod_lt _ (by decide)), h6, h7, h8]
    · exact fun _ => ⟨h12, h14.trans h13⟩
  · intro l4_2 l2_2 Live_in_2 x1 x2 x3 x4 x5 x6 x7 x8 x9 x10 x11 k e1 e2 h1 h2 h3 h4 h5 h6 h7 h8 h9 h10 h11 h12 h13 h14 h15 h16 ih
    intro m hm
    have ep : x1.toInt = ((b * W : Nat) : Int) := by rw [h4, hb, hW]; exact (Int.natCast_mul b W).symm
    have ei : x2.toNatClampNeg = b * W + m := nnE (by omega)
    have em : l4_2.toNatClampNeg = m := nnE hm
    rw [ei] at h15 h6 h8 h13
    rw [em] at h7
    refine swQ_s (by omega) h15 (fun v hv => ?_) ?_ (ih (m + 1) (by omega))
    · unfold swV gbit
      have e3 : (64 * (b * W) + v) / 64 = b * W + m := by omega
      have e4 : (64 * (b * W) + v) % 64 = v % 64 := by omega
      rw [e3, e4, hv, bit_or h11, bit_and h10, bit_not h9 _ (Nat.mod_lt _ (by decide)), h6, h7, h8]
    · exact fun z => absurd z (by decide)
theorem sn_tl2 {Live_words : Int32} {Code_blocks : Int32} {Code_firstGoal : Nat → Int32} {Code_secondGoal : Nat → Int32} {Live_used : Nat → Int64} {Live_set : Nat → Int64} {s1 : Int32} {s2 : Nat → Int64} {s3 : Int32} {s4 : Nat → Int64} {k : Nat} {e1 : Int32} {e2 : Nat → Int64} {e3 : Nat → Int64} (hW2 : Nm ≤ 64 * W) (hW : Live_words.toInt = (W : Int)) (hn : Code_blocks.toInt = (P.1 : Int)) (hg : (∀ b : Nat, b < P.1 → (Code_firstGoal b).toInt = P.2.2.2 b 0 ∧ (Code_secondGoal b).toInt = P.2.2.2 b 1)) (hu : (∀ c v, c < P.1 → v < 64 * W → (gbit Live_used (64 * (c * W) + v) = true ↔ v < Nm ∧ usd P sl v c) ∧ (gbit Live_set (64 * (c * W) + v) = true ↔ v < Nm ∧ std P sl v c))) (h : tl_Live_sweep2_9 Live_words Code_blocks Code_firstGoal Code_secondGoal Live_used Live_set s1 s2 s3 s4 k e1 e2 e3) : ∀ b : Nat, b ≤ P.1 → s1.toInt = (b : Int) - 1 → swp P sl W Nm b s3 s4 e1 e2 := by
  refine h (fun s1 s2 s3 s4 _ e1 e2 e3 => ∀ b : Nat, b ≤ P.1 → s1.toInt = (b : Int) - 1 → swp P sl W Nm b s3 s4 e1 e2) ?_ ?_
  · intro l3_1 Live_now_1 l2_1 Live_in_1 h1 h2 h3
    intro b hb hl
    have e : b = 0 := by omega
    rw [e]; exact swp_0
  · intro l3_1 Live_now_1 l2_1 Live_in_1 x1 x2 x3 x4 k e1 e2 e3 h1 h2 h3 h4 h5 h6 ih
    intro b hb hl
    obtain ⟨a, ea⟩ : ∃ a, b = a + 1 := ⟨b - 1, by omega⟩
    rw [ea] at hl ⊢
    have eb := eb_tr2 (b := a) hW hn (by omega) (hg a (by omega)) h4
    obtain ⟨q1, q2, q3⟩ := sw_tl2 (b := a) hW (by omega) h5 0 (by decide)
    refine swp_s hW2 (by omega) (fun c v hc hne hv => ?_) (fun v hv => ?_) (fun z => ?_) (ih a (by omega) (by omega))
    · exact q1 _ (fun w hw _ e => hne (reg_u e hv hw).1)
    · rw [q2 v hv (Nat.zero_le _)]
      unfold swV
      rw [Bool.or_eq_true, Bool.and_eq_true, Bool.not_eq_true', (hu a v (by omega) hv).1, eb v hv, ← Bool.not_eq_true, (hu a v (by omega) hv).2]
    · obtain ⟨z1, z2⟩ := q3 z
      exact ⟨z1, fun v hv => by rw [z2 v hv (Nat.zero_le _), q2 v hv (Nat.zero_le _)]⟩
theorem sn_tr2 {Live_words : Int32} {Code_blocks : Int32} {Live_in : Nat → Int64} {Live_used : Nat → Int64} {Live_set : Nat → Int64} {Live_now : Nat → Int64} {Code_firstGoal : Nat → Int32} {Code_secondGoal : Nat → Int32} {o1 : Int32} {o2 : Nat → Int64} {o3 : Nat → Int64} (hW2 : Nm ≤ 64 * W) (hW : Live_words.toInt = (W : Int)) (hn : Code_blocks.toInt = (P.1 : Int)) (hg : (∀ b : Nat, b < P.1 → (Code_firstGoal b).toInt = P.2.2.2 b 0 ∧ (Code_secondGoal b).toInt = P.2.2.2 b 1)) (hu : (∀ c v, c < P.1 → v < 64 * W → (gbit Live_used (64 * (c * W) + v) = true ↔ v < Nm ∧ usd P sl v c) ∧ (gbit Live_set (64 * (c * W) + v) = true ↔ v < Nm ∧ std P sl v c))) (h : tr_Live_sweep2 Live_words Code_blocks Live_in Live_used Live_set Live_now Code_firstGoal Code_secondGoal o1 o2 o3) : swp P sl W Nm P.1 0 Live_in o1 o2 := by
  refine h (fun o1 o2 _ => swp P sl W Nm P.1 0 Live_in o1 o2) ?_
  · intro x1 x2 x3 x4 h1 h2
    exact sn_tl2 hW2 hW hn hg hu h2 P.1 (Nat.le_refl _) (by omega)
theorem so_tl2 {Code_blocks : Int32} {c1 : Int32} {Live_used_1 : Nat → Int64} {Live_set_1 : Nat → Int64} {Code_firstGoal : Nat → Int32} {Code_secondGoal : Nat → Int32} {s1 : Int32} {s2 : Int32} {s3 : Nat → Int64} {s4 : Nat → Int64} {k : Nat} {e1 : Nat → Int64} {e2 : Nat → Int64} (hW2 : Nm ≤ 64 * W) (hW : c1.toInt = (W : Int)) (hn : Code_blocks.toInt = (P.1 : Int)) (hg : (∀ b : Nat, b < P.1 → (Code_firstGoal b).toInt = P.2.2.2 b 0 ∧ (Code_secondGoal b).toInt = P.2.2.2 b 1)) (hu : (∀ c v, c < P.1 → v < 64 * W → (gbit Live_used_1 (64 * (c * W) + v) = true ↔ v < Nm ∧ usd P sl v c) ∧ (gbit Live_set_1 (64 * (c * W) + v) = true ↔ v < Nm ∧ std P sl v c))) (h : tl_Live_solve2_112 Code_blocks c1 Live_used_1 Live_set_1 Code_firstGoal Code_secondGoal s1 s2 s3 s4 k e1 e2) : ∀ p : Nat, s1.toInt = (p : Int) → lvSc P sl W Nm s3 → (∀ v c, v < Nm → c < P.1 → Lt P sl v p c → gbit s3 (64 * (c * W) + v) = true) → (s2.toInt = 0 → ∀ c v, c < P.1 → v < Nm → lvC P sl W v s3 c → gbit s3 (64 * (c * W) + v) = true) → ∀ c v, c < P.1 → v < 64 * W → (gbit e1 (64 * (c * W) + v) = true ↔ v < Nm ∧ Lv P sl v c 0) := by
  refine h (fun s1 s2 s3 s4 _ e1 e2 => ∀ p : Nat, s1.toInt = (p : Int) → lvSc P sl W Nm s3 → (∀ v c, v < Nm → c < P.1 → Lt P sl v p c → gbit s3 (64 * (c * W) + v) = true) → (s2.toInt = 0 → ∀ c v, c < P.1 → v < Nm → lvC P sl W v s3 c → gbit s3 (64 * (c * W) + v) = true) → ∀ c v, c < P.1 → v < 64 * W → (gbit e1 (64 * (c * W) + v) = true ↔ v < Nm ∧ Lv P sl v c 0)) ?_ ?_ ?_
  · intro l5_1 l4_1 Live_in_1 Live_now_1 h1 h2 h3
    exact fun p hp hs hc hz => lv_end2 hW2 (by omega) hs hc
  · intro l5_1 l4_1 Live_in_1 Live_now_1 h1 h2 h3 h4
    exact fun p hp hs hc hz => lv_end1 hW2 hs (hz h4)
  · intro l5_1 l4_1 Live_in_1 Live_now_1 x1 x2 x3 x4 k e1 e2 h1 h2 h3 h4 h5 h6 h7 ih
    intro p hp hs hc hz
    obtain ⟨q1, q2, q3⟩ := sn_tr2 hW2 hW hn hg hu h6
    refine ih (p + 1) (by omega) (q1 hs) (fun v c hv hc' h' => q2 p v hv (fun c hc2 h2 => hc v c hv hc2 h2) (fun c hc2 hb2 => by omega) c hc' h') (fun z => ?_)
    obtain ⟨-, z2, z3⟩ := q3 z
    intro c v hc' hv h'
    rw [z2 c v hc' (by omega)]
    refine z3 c v hc' hv ?_
    rcases h' with h' | ⟨h1', h2'⟩
    · exact Or.inl h'
    · exact Or.inr ⟨h1', goX_mo (fun g hg' hl => by rw [← z2 g v hg' (by omega)]; exact hl) h2'⟩
theorem so_tr2 {a2 : Int32} {a3 : Int32} {Code_blocks : Int32} {Code_lines : Int32} {Live_in : Nat → Int64} {Live_used : Nat → Int64} {Live_set : Nat → Int64} {Live_now : Nat → Int64} {Code_first : Nat → Int32} {Code_firstGoal : Nat → Int32} {Code_secondGoal : Nat → Int32} {Code_op : Nat → Int32} {Code_set : Nat → Int32} {Code_left : Nat → Int32} {Code_right : Nat → Int32} {Code_rightNumber : Nat → Int32} {o1 : Int32} {o2 : Int32} {o3 : Int32} {o4 : Nat → Int64} {o5 : Nat → Int64} {o6 : Nat → Int64} {o7 : Nat → Int64} {cln : Nat → Int32} (hc : cdP Code_blocks Code_lines Code_first Code_firstGoal Code_secondGoal Code_op Code_set Code_left cln Code_right Code_rightNumber P) (hN : a2.toInt = (Nm : Int)) (hN2 : Nm ≤ 720) (hsl : sl = decide (a3.toInt ≠ 0)) (h : tr_Live_solve2 a2 a3 Code_blocks Code_lines Live_in Live_used Live_set Live_now Code_first Code_firstGoal Code_secondGoal Code_op Code_set Code_left Code_right Code_rightNumber o1 o2 o3 o4 o5 o6 o7) : (o1.toInt = (Nm : Int) ∧ o2.toInt = (((Nm + 63) / 64 : Nat) : Int) ∧ o3 = a3 ∧ (∀ c v, c < P.1 → v < 64 * ((Nm + 63) / 64) → (gbit o4 (64 * (c * ((Nm + 63) / 64)) + v) = true ↔ v < Nm ∧ Lv P sl v c 0)) ∧ ∀ c v, c < P.1 → v < 64 * ((Nm + 63) / 64) → (gbit o5 (64 * (c * ((Nm + 63) / 64)) + v) = true ↔ v < Nm ∧ usd P sl v c) ∧ (gbit o6 (64 * (c * ((Nm + 63) / 64)) + v) = true ↔ v < Nm ∧ std P sl v c)) := by
  refine h (fun o1 o2 o3 o4 o5 o6 o7 => (o1.toInt = (Nm : Int) ∧ o2.toInt = (((Nm + 63) / 64 : Nat) : Int) ∧ o3 = a3 ∧ (∀ c v, c < P.1 → v < 64 * ((Nm + 63) / 64) → (gbit o4 (64 * (c * ((Nm + 63) / 64)) + v) = true ↔ v < Nm ∧ Lv P sl v c 0)) ∧ ∀ c v, c < P.1 → v < 64 * ((Nm + 63) / 64) → (gbit o5 (64 * (c * ((Nm + 63) / 64)) + v) = true ↔ v < Nm ∧ usd P sl v c) ∧ (gbit o6 (64 * (c * ((Nm + 63) / 64)) + v) = true ↔ v < Nm ∧ std P sl v c))) ?_
  · intro x1 x2 x3 x4 x5 x6 x7 x8 x9 x10 x11 h1 h2 h3 h4 h5 h6 h7
    have e2 : x2.toInt = (Nm : Int) := by omega
    have e4 : x4.toInt = (((Nm + 63) / 64 : Nat) : Int) := by omega
    have hW2 : Nm ≤ 64 * ((Nm + 63) / 64) := by omega
    have z := sz_tl2 (M := P.1 * ((Nm + 63) / 64)) (by rw [hc.1, e4]; exact (Int.natCast_mul _ _).symm) h5 (by decide)
    have zr : ∀ (f : Nat → Int64), (∀ i, i < P.1 * ((Nm + 63) / 64) → f i = 0) → zrB P ((Nm + 63) / 64) 0 f := fun f hf c v hc' _ hv => by
      refine gbit_0 (hf _ ?_)
      have h2 : (c + 1) * ((Nm + 63) / 64) ≤ P.1 * ((Nm + 63) / 64) := Nat.mul_le_mul_right _ hc'
      rw [Nat.add_mul, Nat.one_mul] at h2
      omega
    have n0 : ∀ i : Nat, ¬ (i : Int) < (0 : Int32).toInt := fun i => by rw [px_0]; omega
    have z1 : ∀ i, i < P.1 * ((Nm + 63) / 64) → x5 i = 0 := fun i hi => (z i hi (fun q => absurd q (n0 i))).1
    have z2 : ∀ i, i < P.1 * ((Nm + 63) / 64) → x6 i = 0 := fun i hi => (z i hi (fun q => absurd q (n0 i))).2.1
    have z3 : ∀ i, i < P.1 * ((Nm + 63) / 64) → x7 i = 0 := fun i hi => (z i hi (fun q => absurd q (n0 i))).2.2
    have g := sg_tl2 hc hW2 e2 e4 hsl h6 0 (by decide) (zr _ z2) (zr _ z3)
    have g' := fun c v hc' hv => (g c v hc' hv).2 (Nat.zero_le _)
    have zi := zr _ z1
    refine ⟨e2, e4, rfl, ?_, g'⟩
    refine so_tl2 hW2 e4 hc.1 (fun b hb => (hc.2.2.1 b hb).2) g' h7 0 (by decide) (fun c v hc' hv h' => ?_) (fun v c _ _ h' => absurd h' id) (fun q => absurd q (by decide))
    rw [zi c v hc' (Nat.zero_le _) hv] at h'
    cases h'
end LIW
