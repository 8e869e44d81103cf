section GRC
variable {P : gPg} {sl : Bool} {W Nm b j v w : Nat}
theorem bc_tr {a0 : Int64} {r : Int32} (h : tr_Long_bitCount a0 r) : r = lb_bc a0 := by
  refine h (fun r => r = lb_bc a0) ?_
  · intro x1 x2 x3 x4 x5 x6 x7 x8 x9 x10 x11 x12 x13 x14 x15 x16 x17 x18 h1 h2 h3 h4 h5 h6 h7 h8 h9 h10 h11 h12 h13 h14 h15 h16 h17 h18
    subst h18 h17 h16 h15 h14 h13 h12 h11 h10 h9 h8 h7 h6 h5 h4 h3 h2 h1
    rfl
theorem lw_tr {a0 : Int64} {r : Int32} (hx : ¬ a0 = 0) (h : tr_SpillForge_lowestBit a0 r) : ∃ j : Nat, j < 64 ∧ r.toInt = (j : Int) ∧ a0.toBitVec.getLsbD j = true ∧ ∀ i, i < j → a0.toBitVec.getLsbD i = false := by
  refine h (fun r => ∃ j : Nat, j < 64 ∧ r.toInt = (j : Int) ∧ a0.toBitVec.getLsbD j = true ∧ ∀ i, i < j → a0.toBitVec.getLsbD i = false) ?_
  · intro x1 x2 x3 x4 h1 h2 h3 h4 h5
    have q := bc_tr h5
    rw [h3, h2, h1] at q
    exact low_le hx q
theorem jl1_tl {l3_1 : Int32} {a1 : Int32} {a2 : Int32} {Graph_words : Int32} {s1 : Int32} {s2 : Int64} {s3 : Nat → Int64} {k : Nat} {e1 : Nat → Int64} (hW : Graph_words.toInt = (W : Int)) (hv : a1.toInt = (v : Int)) (hw : l3_1.toInt = (w : Int)) (hw2 : w < 12) (h : tl_Graph_joinToLive_42 l3_1 a1 a2 Graph_words s1 s2 s3 k e1) : ∀ n : Nat, s1.toInt = (n : Int) → (∀ i, i < n → s2.toBitVec.getLsbD i = false) → ∀ q, gbit e1 q = true ↔ gbit s3 q = true ∨ ∃ u, (u / 64 = w ∧ s2.toBitVec.getLsbD (u % 64) = true ∧ u ≠ v ∧ (u : Int) ≠ a2.toInt) ∧ bth W v u q := by
  refine h (fun s1 s2 s3 _ e1 => ∀ n : Nat, s1.toInt = (n : Int) → (∀ i, i < n → s2.toBitVec.getLsbD i = false) → ∀ q, gbit e1 q = true ↔ gbit s3 q = true ∨ ∃ u, (u / 64 = w ∧ s2.toBitVec.getLsbD (u % 64) = true ∧ u ≠ v ∧ (u : Int) ≠ a2.toInt) ∧ bth W v u q) ?_ ?_ ?_ ?_ ?_
  · intro l6_2 l4_2 Graph_joined_2 h1 h2
    intro n hn hz q
    refine ⟨Or.inl, fun z => z.elim id (fun ⟨u, z1, _⟩ => ?_)⟩
    have z2 := z1.2.1
    rw [hz (u % 64) (by have := Nat.mod_lt u (show 64 > 0 by decide); omega)] at z2
    cases z2
  · intro l6_2 l4_2 Graph_joined_2 h1 h2 h3
    intro n hn hz q
    refine ⟨Or.inl, fun z => z.elim id (fun ⟨u, z1, _⟩ => ?_)⟩
    have z2 := z1.2.1
    rw [h3] at z2
    simp at z2
  · intro l6_2 l4_2 Graph_joined_2 x1 x2 x3 x4 x5 x6 k e1 h1 h2 h3 h4 h5 h6 h7 h8 h9 h10 h11 ih
    intro n hn hz
    obtain ⟨z, z1, z2, z3, z4⟩ := lw_tr h3 h6
    have zn : n ≤ z := by
      by_cases c : z < n
      · rw [hz z c] at z3; cases z3
      · omega
    have cl := bit_neg1 h8 h9 z1 z3 z4
    have e3 : x3.toInt = ((64 * w + z : Nat) : Int) := by omega
    have hz' : ∀ i, i < n + 1 → x5.toBitVec.getLsbD i = false := fun i hi => by
      rw [cl i (by omega)]
      by_cases c : i = z
      · simp [c]
      · rw [z4 i (by omega), Bool.false_and]
    have i1 := ih (n + 1) (by omega) hz'
    have bq : ∀ u, u / 64 = w → (x5.toBitVec.getLsbD (u % 64) = true ↔ l4_2.toBitVec.getLsbD (u % 64) = true ∧ u ≠ 64 * w + z) := fun u hu => by
      rw [cl (u % 64) (Nat.mod_lt _ (by decide)), Bool.and_eq_true, decide_eq_true_iff]
      exact ⟨fun a => ⟨a.1, fun c => a.2 (by omega)⟩, fun a => ⟨a.1, fun c => a.2 (by omega)⟩⟩
    intro q
    rw [i1 q]
    constructor
    · rintro (k | ⟨u, ⟨k1, k2, k3⟩, k4⟩)
      · exact Or.inl k
      · exact Or.inr ⟨u, ⟨k1, ((bq u k1).mp k2).1, k3⟩, k4⟩
    · rintro (k | ⟨u, ⟨k1, k2, k3⟩, k4⟩)
      · exact Or.inl k
      · exact Or.inr ⟨u, ⟨k1, (bq u k1).mpr ⟨k2, fun c => by omega⟩, k3⟩, k4⟩
  · intro l6_2 l4_2 Graph_joined_2 x1 x2 x3 x4 x5 x6 k e1 h1 h2 h3 h4 h5 h6 h7 h8 h9 h10 h11 h12 ih
    intro n hn hz
    obtain ⟨z, z1, z2, z3, z4⟩ := lw_tr h3 h6
    have zn : n ≤ z := by
      by_cases c : z < n
      · rw [hz z c] at z3; cases z3
      · omega
    have cl := bit_neg1 h8 h9 z1 z3 z4
    have e3 : x3.toInt = ((64 * w + z : Nat) : Int) := by omega
    have hz' : ∀ i, i < n + 1 → x5.toBitVec.getLsbD i = false := fun i hi => by
      rw [cl i (by omega)]
      by_cases c : i = z
      · simp [c]
      · rw [z4 i (by omega), Bool.false_and]
    have i1 := ih (n + 1) (by omega) hz'
    have bq : ∀ u, u / 64 = w → (x5.toBitVec.getLsbD (u % 64) = true ↔ l4_2.toBitVec.getLsbD (u % 64) = true ∧ u ≠ 64 * w + z) := fun u hu => by
      rw [cl (u % 64) (Nat.mod_lt _ (by decide)), Bool.and_eq_true, decide_eq_true_iff]
      exact ⟨fun a => ⟨a.1, fun c => a.2 (by omega)⟩, fun a => ⟨a.1, fun c => a.2 (by omega)⟩⟩
    intro q
    rw [i1 q]
    constructor
    · rintro (k | ⟨u, ⟨k1, k2, k3⟩, k4⟩)
      · exact Or.inl k
      · exact Or.inr ⟨u, ⟨k1, ((bq u k1).mp k2).1, k3⟩, k4⟩
    · rintro (k | ⟨u, ⟨k1, k2, k3⟩, k4⟩)
      · exact Or.inl k
      · exact Or.inr ⟨u, ⟨k1, (bq u k1).mpr ⟨k2, fun c => by omega⟩, k3⟩, k4⟩
  · intro l6_2 l4_2 Graph_joined_2 x1 x2 x3 x4 x5 x6 x7 x8 x9 x10 x11 x12 x13 x14 x15 x16 x17 x18 x19 k e1 h1 h2 h3 h4 h5 h6 h7 h8 h9 h10 h11 h12 h13 h14 h15 h16 h17 h18 h19 h20 h21 h22 h23 h24 h25 ih
    intro n hn hz
    obtain ⟨z, z1, z2, z3, z4⟩ := lw_tr h3 h6
    have zn : n ≤ z := by
      by_cases c : z < n
      · rw [hz z c] at z3; cases z3
      · omega
    have cl := bit_neg1 h8 h9 z1 z3 z4
    have e3 : x3.toInt = ((64 * w + z : Nat) : Int) := by omega
    have hz' : ∀ i, i < n + 1 → x5.toBitVec.getLsbD i = false := fun i hi => by
      rw [cl i (by omega)]
      by_cases c : i = z
      · simp [c]
      · rw [z4 i (by omega), Bool.false_and]
    have i1 := ih (n + 1) (by omega) hz'
    have bq : ∀ u, u / 64 = w → (x5.toBitVec.getLsbD (u % 64) = true ↔ l4_2.toBitVec.getLsbD (u % 64) = true ∧ u ≠ 64 * w + z) := fun u hu => by
      rw [cl (u % 64) (Nat.mod_lt _ (by decide)), Bool.and_eq_true, decide_eq_true_iff]
      exact ⟨fun a => ⟨a.1, fun c => a.2 (by omega)⟩, fun a => ⟨a.1, fun c => a.2 (by omega)⟩⟩
    intro q
    have ep : x6.toInt = ((v * W : Nat) : Int) := by rw [h12, hv, hW]; exact (Int.natCast_mul _ _).symm
    have eq : x12.toInt = (((64 * w + z) * W : Nat) : Int) := by rw [h18, e3, hW]; exact (Int.natCast_mul _ _).symm
    have g1 := gbit_or (f := Graph_joined_2) (a := v * W) (m := 64 * w + z) h15 e3 (i := x7) (by omega) (by rw [h16, h14]) h17 q
    have g2 := gbit_or (f := x11) (a := (64 * w + z) * W) (m := v) h22 hv (i := x14) (by omega) (by rw [h23, h21]) h24 q
    rw [i1 q, g2, g1, Bool.or_eq_true, Bool.or_eq_true, decide_eq_true_iff, decide_eq_true_iff]
    constructor
    · rintro (((k | k) | k) | ⟨u, ⟨k1, k2, k3⟩, k4⟩)
      · exact Or.inl k
      · exact Or.inr ⟨64 * w + z, ⟨by omega, by rw [show (64 * w + z) % 64 = z by omega]; exact z3, by omega, by omega⟩, Or.inl k⟩
      · exact Or.inr ⟨64 * w + z, ⟨by omega, by rw [show (64 * w + z) % 64 = z by omega]; exact z3, by omega, by omega⟩, Or.inr k⟩
      · exact Or.inr ⟨u, ⟨k1, ((bq u k1).mp k2).1, k3⟩, k4⟩
    · rintro (k | ⟨u, ⟨k1, k2, k3⟩, k4⟩)
      · exact Or.inl (Or.inl (Or.inl k))
      · by_cases c : u = 64 * w + z
        · rw [c] at k4
          rcases k4 with k4 | k4
          · exact Or.inl (Or.inl (Or.inr k4))
          · exact Or.inl (Or.inr k4)
        · exact Or.inr ⟨u, ⟨k1, (bq u k1).mpr ⟨k2, c⟩, k3⟩, k4⟩
theorem jl2_tl {Graph_words : Int32} {Live_now : Nat → Int64} {a1 : Int32} {a2 : Int32} {s1 : Int32} {s2 : Nat → Int64} {k : Nat} {e1 : Nat → Int64} (hW : Graph_words.toInt = (W : Int)) (hW2 : W ≤ 12) (hN : Nm ≤ 64 * W) (hnow : ∀ u, u < 64 * W → gbit Live_now u = true → u < Nm) (hv : a1.toInt = (v : Int)) (hv2 : v < Nm) (h : tl_Graph_joinToLive_2 Graph_words Live_now a1 a2 s1 s2 k e1) : ∀ m : Nat, s1.toInt = (m : Int) → symB Nm W s2 → ∀ q, gbit e1 q = true ↔ gbit s2 q = true ∨ ∃ u, (m ≤ u / 64 ∧ u < 64 * W ∧ gbit Live_now u = true ∧ u ≠ v ∧ (u : Int) ≠ a2.toInt) ∧ bth W v u q := by
  refine h (fun s1 s2 _ e1 => ∀ m : Nat, s1.toInt = (m : Int) → symB Nm W s2 → ∀ q, gbit e1 q = true ↔ gbit s2 q = true ∨ ∃ u, (m ≤ u / 64 ∧ u < 64 * W ∧ gbit Live_now u = true ∧ u ≠ v ∧ (u : Int) ≠ a2.toInt) ∧ bth W v u q) ?_ ?_
  · intro l3_1 Graph_joined_1 h1 h2
    intro m hm _ q
    exact ⟨Or.inl, fun z => z.elim id (fun ⟨u, z1, _⟩ => by omega)⟩
  · intro l3_1 Graph_joined_1 x1 x2 x3 x4 x5 x6 x7 x8 k e1 h1 h2 h3 h4 h5 h6 h7 h8 h9 h10 ih
    intro m hm hs
    have ep : x2.toInt = ((v * W : Nat) : Int) := by rw [h4, hv, hW]; exact (Int.natCast_mul _ _).symm
    have ei : x3.toNatClampNeg = v * W + m := nnE (by omega)
    rw [nnE hm] at h3
    rw [ei] at h6
    have st := jl1_tl hW hv hm (by omega) h9 0 (by decide) (fun i hi => by omega)
    have bq : ∀ u, u / 64 = m → (x6.toBitVec.getLsbD (u % 64) = true ↔ gbit Live_now u = true ∧ ¬ gbit Graph_joined_1 (64 * (v * W) + u) = true) := fun u hu => by
      unfold gbit
      rw [bit_and h8, bit_not h7 _ (Nat.mod_lt _ (by decide)), h3, h6, Bool.and_eq_true, Bool.not_eq_true', ← Bool.not_eq_true, hu, show (64 * (v * W) + u) / 64 = v * W + m by omega, show (64 * (v * W) + u) % 64 = u % 64 by omega]
    have s1 : ∀ q, gbit x7 q = true ↔ gbit Graph_joined_1 q = true ∨ ∃ u, (u / 64 = m ∧ u < 64 * W ∧ gbit Live_now u = true ∧ u ≠ v ∧ (u : Int) ≠ a2.toInt) ∧ bth W v u q := fun q => by
      rw [st q]
      constructor
      · rintro (z | ⟨u, ⟨z1, z2, z3⟩, z4⟩)
        · exact Or.inl z
        · exact Or.inr ⟨u, ⟨z1, by omega, ((bq u z1).mp z2).1, z3⟩, z4⟩
      · rintro (z | ⟨u, ⟨z1, z0, z2, z3⟩, z4⟩)
        · exact Or.inl z
        · by_cases c : gbit Graph_joined_1 (64 * (v * W) + u) = true
          · refine Or.inl ?_
            rcases z4 with z4 | z4
            · rw [z4]; exact c
            · rw [z4, hs u v (hnow u z0 z2) hv2]; exact c
          · exact Or.inr ⟨u, ⟨z1, (bq u z1).mpr ⟨z2, c⟩, z3⟩, z4⟩
    have hs' := sym_st hN hs (by omega) (fun u z => z.2.1) s1
    intro q
    rw [ih (m + 1) (by omega) hs' q, s1 q]
    constructor
    · rintro ((z | ⟨u, z1, z2⟩) | ⟨u, z1, z2⟩)
      · exact Or.inl z
      · exact Or.inr ⟨u, ⟨by omega, z1.2⟩, z2⟩
      · exact Or.inr ⟨u, ⟨by omega, z1.2⟩, z2⟩
    · rintro (z | ⟨u, z1, z2⟩)
      · exact Or.inl (Or.inl z)
      · by_cases c : u / 64 = m
        · exact Or.inl (Or.inr ⟨u, ⟨c, z1.2⟩, z2⟩)
        · exact Or.inr ⟨u, ⟨by omega, z1.2⟩, z2⟩
theorem jl_tr {a1 : Int32} {a2 : Int32} {Graph_words : Int32} {Graph_joined : Nat → Int64} {Live_now : Nat → Int64} {o1 : Nat → Int64} (hW : Graph_words.toInt = (W : Int)) (hW2 : W ≤ 12) (hN : Nm ≤ 64 * W) (hnow : ∀ u, u < 64 * W → gbit Live_now u = true → u < Nm) (hv : a1.toInt = (v : Int)) (hv2 : v < Nm) (hs : symB Nm W Graph_joined) (h : tr_Graph_joinToLive a1 a2 Graph_words Graph_joined Live_now o1) : symB Nm W o1 ∧ ∀ q, gbit o1 q = true ↔ gbit Graph_joined q = true ∨ ∃ u, (u < 64 * W ∧ gbit Live_now u = true ∧ u ≠ v ∧ (u : Int) ≠ a2.toInt) ∧ bth W v u q := by
  refine h (fun o1 => symB Nm W o1 ∧ ∀ q, gbit o1 q = true ↔ gbit Graph_joined q = true ∨ ∃ u, (u < 64 * W ∧ gbit Live_now u = true ∧ u ≠ v ∧ (u : Int) ≠ a2.toInt) ∧ bth W v u q) ?_
  · intro x1 h1
    have q := jl2_tl hW hW2 hN hnow hv hv2 h1 0 (by decide) hs
    have q2 : ∀ q, gbit x1 q = true ↔ gbit Graph_joined q = true ∨ ∃ u, (u < 64 * W ∧ gbit Live_now u = true ∧ u ≠ v ∧ (u : Int) ≠ a2.toInt) ∧ bth W v u q := fun k => by
      rw [q k]
      exact ⟨fun z => z.elim Or.inl (fun ⟨u, z1, z2⟩ => Or.inr ⟨u, z1.2, z2⟩), fun z => z.elim Or.inl (fun ⟨u, z1, z2⟩ => Or.inr ⟨u, ⟨Nat.zero_le _, z1⟩, z2⟩)⟩
    exact ⟨sym_st hN hs (by omega) (fun u z => z.1) q2, q2⟩
theorem rv_tr {a1 nm : Int32} {f x : Nat → Int64} (h : tr_Live_revive a1 nm f x) (hN : nm.toInt = (Nm : Int)) : ∀ q : Nat, gbit x q = true ↔ gbit f q = true ∨ (q < Nm ∧ a1.toInt = (q : Int)) := by
  refine h (fun x => ∀ q : Nat, gbit x q = true ↔ gbit f q = true ∨ (q < Nm ∧ a1.toInt = (q : Int))) ?_ ?_ ?_
  · intro h1
    exact fun q => ⟨Or.inl, fun z => z.elim id (fun y => by omega)⟩
  · intro h1 h2
    exact fun q => ⟨Or.inl, fun z => z.elim id (fun y => by omega)⟩
  · intro x1 x2 x3 x4 x5 h1 h2 h3 h4 h5 h6 h7
    intro q
    have em : a1.toInt = ((a1.toInt.toNat : Nat) : Int) := (Int.toNat_of_nonneg h1).symm
    have r := gbit_or (f := f) (a := 0) (m := a1.toInt.toNat) h5 em (i := x1) (by omega) (by rw [h6, h4]) h7 q
    rw [r, Bool.or_eq_true, decide_eq_true_iff]
    exact ⟨fun z => z.elim Or.inl (fun y => Or.inr (by omega)), fun z => z.elim Or.inl (fun y => Or.inr (by omega))⟩
theorem so2_tr {a2 : Int32} {Live_names : Int32} {Live_ofSlots : Int32} {Live_now : Nat → Int64} {Code_op : Nat → Int32} {Code_set : Nat → Int32} {Code_left : Nat → Int32} {Code_right : Nat → Int32} {Code_rightNumber : Nat → Int32} {o1 : Nat → Int64} {bl li : Int32} {fi fg sg cln : Nat → Int32} (hc : cdP bl li fi fg sg Code_op Code_set Code_left cln Code_right Code_rightNumber P) (hb : b < P.1) (hj : j < P.2.1 b) (hi : a2.toNatClampNeg = fsm P.2.1 b + j) (hsl : sl = decide (Live_ofSlots.toInt ≠ 0)) (hN : Live_names.toInt = (Nm : Int)) (h : tr_Live_stepOver a2 Live_names Live_ofSlots Live_now Code_op Code_set Code_left Code_right Code_rightNumber o1) : ∀ q : Nat, gbit o1 q = true ↔ (q < Nm ∧ usR sl (P.2.2.1 b j) q) ∨ (gbit Live_now q = true ∧ ¬ (q < Nm ∧ seR sl (P.2.2.1 b j) q)) := by
  refine h (fun o1 => ∀ q : Nat, gbit o1 q = true ↔ (q < Nm ∧ usR sl (P.2.2.1 b j) q) ∨ (gbit Live_now q = true ∧ ¬ (q < Nm ∧ seR sl (P.2.2.1 b j) q))) ?_ ?_ ?_ ?_ ?_ ?_ ?_ ?_
  · intro x1 x2 x3 x4 x5 h1 h2 h3 h4 h5 h6
    have f1 := fU_tr2 hc hb hj hi hsl h3
    have f2 := sU_tr2 hc hb hj hi hsl h5
    have f3 := sB_tr2 hc hb hj hi hsl h1
    have r1 := rv_tr h4 hN
    have r2 := rv_tr h6 hN
    intro q
    rw [r2 q, r1 q, usR_iff, seR_iff, ← f1, ← f2, ← f3]
    have n0 := iN_0 h2
    constructor
    · rintro ((k | k) | k)
      · exact Or.inr ⟨k, fun y => n0 (by omega)⟩
      · exact Or.inl ⟨k.1, Or.inl k.2⟩
      · exact Or.inl ⟨k.1, Or.inr k.2⟩
    · rintro (⟨k1, k | k⟩ | ⟨k1, k2⟩)
      · exact Or.inl (Or.inr ⟨k1, k⟩)
      · exact Or.inr ⟨k1, k⟩
      · exact Or.inl (Or.inl k1)
  · intro x1 x2 x3 x4 h1 h2 h3 h4 h5 h6
    have f1 := fU_tr2 hc hb hj hi hsl h3
    have f2 := sU_tr2 hc hb hj hi hsl h5
    have f3 := sB_tr2 hc hb hj hi hsl h1
    have r1 := rv_tr h4 hN
    have r2 := rv_tr h6 hN
    intro q
    rw [r2 q, r1 q, usR_iff, seR_iff, ← f1, ← f2, ← f3]
    have n0 := iN_0 h2
    constructor
    · rintro ((k | k) | k)
      · exact Or.inr ⟨k, fun y => n0 (by omega)⟩
      · exact Or.inl ⟨k.1, Or.inl k.2⟩
      · exact Or.inl ⟨k.1, Or.inr k.2⟩
    · rintro (⟨k1, k | k⟩ | ⟨k1, k2⟩)
      · exact Or.inl (Or.inr ⟨k1, k⟩)
      · exact Or.inr ⟨k1, k⟩
      · exact Or.inl (Or.inl k1)
  · intro x1 x2 x3 h1 h2 h3 h4 h5 h6
    have f1 := fU_tr2 hc hb hj hi hsl h3
    have f2 := sU_tr2 hc hb hj hi hsl h5
    have f3 := sB_tr2 hc hb hj hi hsl h1
    have r1 := rv_tr h4 hN
    have r2 := rv_tr h6 hN
    intro q
    rw [r2 q, r1 q, usR_iff, seR_iff, ← f1, ← f2, ← f3]
    have n0 := iN_0 h2
    constructor
    · rintro ((k | k) | k)
      · exact Or.inr ⟨k, fun y => n0 (by omega)⟩
      · exact Or.inl ⟨k.1, Or.inl k.2⟩
      · exact Or.inl ⟨k.1, Or.inr k.2⟩
    · rintro (⟨k1, k | k⟩ | ⟨k1, k2⟩)
      · exact Or.inl (Or.inr ⟨k1, k⟩)
      · exact Or.inr ⟨k1, k⟩
      · exact Or.inl (Or.inl k1)
  · intro x1 x2 x3 x4 x5 x6 x7 x8 x9 x10 x11 h1 h2 h3 h4 h5 h6 h7 h8 h9 h10 h11 h12
    have f1 := fU_tr2 hc hb hj hi hsl h9
    have f2 := sU_tr2 hc hb hj hi hsl h11
    have f3 := sB_tr2 hc hb hj hi hsl h1
    have r1 := rv_tr h10 hN
    have r2 := rv_tr h12 hN
    intro q
    rw [r2 q, r1 q, usR_iff, seR_iff, ← f1, ← f2, ← f3]
    have n1 := iN_1 h2
    have em : x1.toInt = ((x1.toInt.toNat : Nat) : Int) := (Int.toNat_of_nonneg n1.1).symm
    have g := gbit_clr (f := Live_now) (a := 0) (m := x1.toInt.toNat) h5 em (i := x2) (by omega) h6 (by rw [h7, h4]) h8 q
    rw [g, Bool.and_eq_true, Bool.not_eq_true', decide_eq_false_iff_not]
    constructor
    · rintro ((⟨k1, k2⟩ | k) | k)
      · exact Or.inr ⟨k1, fun y => k2 (by omega)⟩
      · exact Or.inl ⟨k.1, Or.inl k.2⟩
      · exact Or.inl ⟨k.1, Or.inr k.2⟩
    · rintro (⟨k1, k | k⟩ | ⟨k1, k2⟩)
      · exact Or.inl (Or.inr ⟨k1, k⟩)
      · exact Or.inr ⟨k1, k⟩
      · exact Or.inl (Or.inl ⟨k1, fun y => k2 (by omega)⟩)
  · intro x1 x2 x3 x4 x5 x6 x7 x8 x9 x10 h1 h2 h3 h4 h5 h6 h7 h8 h9 h10 h11 h12
    have f1 := fU_tr2 hc hb hj hi hsl h9
    have f2 := sU_tr2 hc hb hj hi hsl h11
    have f3 := sB_tr2 hc hb hj hi hsl h1
    have r1 := rv_tr h10 hN
    have r2 := rv_tr h12 hN
    intro q
    rw [r2 q, r1 q, usR_iff, seR_iff, ← f1, ← f2, ← f3]
    have n1 := iN_1 h2
    have em : x1.toInt = ((x1.toInt.toNat : Nat) : Int) := (Int.toNat_of_nonneg n1.1).symm
    have g := gbit_clr (f := Live_now) (a := 0) (m := x1.toInt.toNat) h5 em (i := x2) (by omega) h6 (by rw [h7, h4]) h8 q
    rw [g, Bool.and_eq_true, Bool.not_eq_true', decide_eq_false_iff_not]
    constructor
    · rintro ((⟨k1, k2⟩ | k) | k)
      · exact Or.inr ⟨k1, fun y => k2 (by omega)⟩
      · exact Or.inl ⟨k.1, Or.inl k.2⟩
      · exact Or.inl ⟨k.1, Or.inr k.2⟩
    · rintro (⟨k1, k | k⟩ | ⟨k1, k2⟩)
      · exact Or.inl (Or.inr ⟨k1, k⟩)
      · exact Or.inr ⟨k1, k⟩
      · exact Or.inl (Or.inl ⟨k1, fun y => k2 (by omega)⟩)
  · intro x1 x2 x3 x4 x5 x6 x7 x8 x9 h1 h2 h3 h4 h5 h6 h7 h8 h9 h10 h11 h12
    have f1 := fU_tr2 hc hb hj hi hsl h9
    have f2 := sU_tr2 hc hb hj hi hsl h11
    have f3 := sB_tr2 hc hb hj hi hsl h1
    have r1 := rv_tr h10 hN
    have r2 := rv_tr h12 hN
    intro q
    rw [r2 q, r1 q, usR_iff, seR_iff, ← f1, ← f2, ← f3]
    have n1 := iN_1 h2
    have em : x1.toInt = ((x1.toInt.toNat : Nat) : Int) := (Int.toNat_of_nonneg n1.1).symm
    have g := gbit_clr (f := Live_now) (a := 0) (m := x1.toInt.toNat) h5 em (i := x2) (by omega) h6 (by rw [h7, h4]) h8 q
    rw [g, Bool.and_eq_true, Bool.not_eq_true', decide_eq_false_iff_not]
    constructor
    · rintro ((⟨k1, k2⟩ | k) | k)
      · exact Or.inr ⟨k1, fun y => k2 (by omega)⟩
      · exact Or.inl ⟨k.1, Or.inl k.2⟩
      · exact Or.inl ⟨k.1, Or.inr k.2⟩
    · rintro (⟨k1, k | k⟩ | ⟨k1, k2⟩)
      · exact Or.inl (Or.inr ⟨k1, k⟩)
      · exact Or.inr ⟨k1, k⟩
      · exact Or.inl (Or.inl ⟨k1, fun y => k2 (by omega)⟩)
  · intro x1 x2 h1 h2 h3 h4 h5 h6
    have f1 := fU_tr2 hc hb hj hi hsl h3
    have f2 := sU_tr2 hc hb hj hi hsl h5
    have f3 := sB_tr2 hc hb hj hi hsl h1
    have r1 := rv_tr h4 hN
    have r2 := rv_tr h6 hN
    intro q
    rw [r2 q, r1 q, usR_iff, seR_iff, ← f1, ← f2, ← f3]
    have n0 := iN_0 h2
    constructor
    · rintro ((k | k) | k)
      · exact Or.inr ⟨k, fun y => n0 (by omega)⟩
      · exact Or.inl ⟨k.1, Or.inl k.2⟩
      · exact Or.inl ⟨k.1, Or.inr k.2⟩
    · rintro (⟨k1, k | k⟩ | ⟨k1, k2⟩)
      · exact Or.inl (Or.inr ⟨k1, k⟩)
      · exact Or.inr ⟨k1, k⟩
      · exact Or.inl (Or.inl k1)
  · intro x1 x2 x3 h1 h2 h3 h4 h5 h6
    have f1 := fU_tr2 hc hb hj hi hsl h3
    have f2 := sU_tr2 hc hb hj hi hsl h5
    have f3 := sB_tr2 hc hb hj hi hsl h1
    have r1 := rv_tr h4 hN
    have r2 := rv_tr h6 hN
    intro q
    rw [r2 q, r1 q, usR_iff, seR_iff, ← f1, ← f2, ← f3]
    have n0 := iN_0 h2
    constructor
    · rintro ((k | k) | k)
      · exact Or.inr ⟨k, fun y => n0 (by omega)⟩
      · exact Or.inl ⟨k.1, Or.inl k.2⟩
      · exact Or.inl ⟨k.1, Or.inr k.2⟩
    · rintro (⟨k1, k | k⟩ | ⟨k1, k2⟩)
      · exact Or.inl (Or.inr ⟨k1, k⟩)
      · exact Or.inr ⟨k1, k⟩
      · exact Or.inl (Or.inl k1)
theorem lv_back {f g : Nat → Int64} (hb : b < P.1) (hj : j < P.2.1 b) (hf : ∀ u, u < 64 * W → (gbit f u = true ↔ u < Nm ∧ Lv P sl u b (j + 1))) (hg : ∀ q : Nat, gbit g q = true ↔ (q < Nm ∧ usR sl (P.2.2.1 b j) q) ∨ (gbit f q = true ∧ ¬ (q < Nm ∧ seR sl (P.2.2.1 b j) q))) : ∀ u, u < 64 * W → (gbit g u = true ↔ u < Nm ∧ Lv P sl u b j) := fun u hu => by
  rw [hg u, hf u hu, Lv_row hb hj]
  constructor
  · rintro (⟨h1, h2⟩ | ⟨⟨h1, h2⟩, h3⟩)
    · exact ⟨h1, Or.inl h2⟩
    · exact ⟨h1, Or.inr ⟨fun z => h3 ⟨h1, z⟩, h2⟩⟩
  · rintro ⟨h1, h2 | ⟨h2, h3⟩⟩
    · exact Or.inl ⟨h1, h2⟩
    · exact Or.inr ⟨⟨h1, h3⟩, fun z => h2 z.2⟩
theorem cpR_tr {i : Int32} {op st lf : Nat → Int32} {r : Int32} (h : tr_Code_copiesRegister2 i op st lf r) : (r.toInt = 1 ∧ (op i.toNatClampNeg).toInt = 14 ∧ 0 ≤ (st i.toNatClampNeg).toInt ∧ 0 ≤ (lf i.toNatClampNeg).toInt) ∨ (r.toInt = 0 ∧ ¬ ((op i.toNatClampNeg).toInt = 14 ∧ 0 ≤ (st i.toNatClampNeg).toInt ∧ 0 ≤ (lf i.toNatClampNeg).toInt)) := by
  refine h (fun r => (r.toInt = 1 ∧ (op i.toNatClampNeg).toInt = 14 ∧ 0 ≤ (st i.toNatClampNeg).toInt ∧ 0 ≤ (lf i.toNatClampNeg).toInt) ∨ (r.toInt = 0 ∧ ¬ ((op i.toNatClampNeg).toInt = 14 ∧ 0 ≤ (st i.toNatClampNeg).toInt ∧ 0 ≤ (lf i.toNatClampNeg).toInt))) ?_ ?_ ?_ ?_
  · intro x1 h1 h2 h3
    rw [← h1]
    exact Or.inr ⟨px_0, by omega⟩
  · intro x1 x2 h1 h2 h3 h4 h5
    rw [← h1, ← h4]
    exact Or.inr ⟨px_0, by omega⟩
  · intro x1 x2 x3 h1 h2 h3 h4 h5 h6 h7
    rw [← h1, ← h4, ← h6]
    exact Or.inr ⟨px_0, by omega⟩
  · intro x1 x2 x3 h1 h2 h3 h4 h5 h6 h7
    rw [← h1, ← h4, ← h6]
    exact Or.inl ⟨px_1, by omega, by omega, by omega⟩
/-- joined by the lines below j of block b -/
def jbQ (P : gPg) (sl : Bool) (Nm b j x y : Nat) : Prop := ∃ k, k < j ∧ (jdA P sl Nm b k x y ∨ jdA P sl Nm b k y x)
theorem jb_one {f g : Nat → Int64} {s e : Nat → Int64} {q : Int} (hW : Nm ≤ 64 * W) (hv : v < Nm) (hset : seR sl (P.2.2.1 b j) v) (hone : ∀ x, seR sl (P.2.2.1 b j) x → x = v) (hexc : ∀ u : Nat, u < Nm → u ≠ v → (((u : Int) ≠ q) ↔ ¬ (sl = false ∧ P.2.2.1 b j 0 = 14 ∧ P.2.2.1 b j 2 = (u : Int)))) (hf : ∀ u, u < 64 * W → (gbit f u = true ↔ u < Nm ∧ Lv P sl u b (j + 1))) (hj : ∀ k, gbit g k = true ↔ gbit s k = true ∨ ∃ u, (u < 64 * W ∧ gbit f u = true ∧ u ≠ v ∧ (u : Int) ≠ q) ∧ bth W v u k)
    (ih : ∀ x y, x < Nm → y < 64 * W → (gbit e (64 * (x * W) + y) = true ↔ gbit g (64 * (x * W) + y) = true ∨ jbQ P sl Nm b j x y)) : ∀ x y, x < Nm → y < 64 * W → (gbit e (64 * (x * W) + y) = true ↔ gbit s (64 * (x * W) + y) = true ∨ jbQ P sl Nm b (j + 1) x y) := fun x y hx hy => by
  have hx' : x < 64 * W := by omega
  rw [ih x y hx hy, hj]
  have key : ∀ u, u < 64 * W → ((gbit f u = true ∧ u ≠ v ∧ (u : Int) ≠ q) ↔ jdA P sl Nm b j v u) := fun u hu => by
    rw [hf u hu]
    constructor
    · rintro ⟨⟨h1, h2⟩, h3, h4⟩
      exact ⟨hv, h1, hset, h2, h3, (hexc u h1 h3).mp h4⟩
    · rintro ⟨_, h1, _, h2, h3, h4⟩
      exact ⟨⟨h1, h2⟩, h3, (hexc u h1 h3).mpr h4⟩
  constructor
  · rintro ((h | ⟨u, ⟨h0, h1⟩, h2⟩) | ⟨k, h1, h2⟩)
    · exact Or.inl h
    · have ja := (key u h0).mp h1
      rcases (bth_s (by omega) h0 hx' hy).mp h2 with ⟨a1, a2⟩ | ⟨a1, a2⟩
      · rw [a1, a2]; exact Or.inr ⟨j, Nat.lt_succ_self j, Or.inl ja⟩
      · rw [a1, a2]; exact Or.inr ⟨j, Nat.lt_succ_self j, Or.inr ja⟩
    · exact Or.inr ⟨k, by omega, h2⟩
  · rintro (h | ⟨k, h1, h2⟩)
    · exact Or.inl (Or.inl h)
    · by_cases c : k = j
      · rw [c] at h2
        rcases h2 with h2 | h2
        · have e1 := hone x h2.2.2.1
          rw [e1] at h2 ⊢
          exact Or.inl (Or.inr ⟨y, ⟨hy, (key y hy).mpr h2⟩, Or.inl rfl⟩)
        · have e1 := hone y h2.2.2.1
          rw [e1] at h2 ⊢
          exact Or.inl (Or.inr ⟨x, ⟨hx', (key x hx').mpr h2⟩, Or.inr rfl⟩)
      · exact Or.inr ⟨k, by omega, h2⟩
theorem jb_no {s e : Nat → Int64} (hn : ∀ x, x < Nm → ¬ seR sl (P.2.2.1 b j) x) (ih : ∀ x y, x < Nm → y < 64 * W → (gbit e (64 * (x * W) + y) = true ↔ gbit s (64 * (x * W) + y) = true ∨ jbQ P sl Nm b j x y)) : ∀ x y, x < Nm → y < 64 * W → (gbit e (64 * (x * W) + y) = true ↔ gbit s (64 * (x * W) + y) = true ∨ jbQ P sl Nm b (j + 1) x y) := fun x y hx hy => by
  rw [ih x y hx hy]
  constructor
  · rintro (h | ⟨k, h1, h2⟩)
    · exact Or.inl h
    · exact Or.inr ⟨k, by omega, h2⟩
  · rintro (h | ⟨k, h1, h2⟩)
    · exact Or.inl h
    · by_cases c : k = j
      · rw [c] at h2
        rcases h2 with h2 | h2
        · exact absurd h2.2.2.1 (hn x h2.1)
        · exact absurd h2.2.2.1 (hn y h2.1)
      · exact Or.inr ⟨k, by omega, h2⟩
theorem jb_tl {Code_first : Nat → Int32} {a2 : Int32} {a3 : Int32} {Code_op : Nat → Int32} {Code_set : Nat → Int32} {Code_rightNumber : Nat → Int32} {Live_names : Int32} {Live_ofSlots : Int32} {Code_left : Nat → Int32} {Code_right : Nat → Int32} {Graph_words : Int32} {s1 : Int32} {s2 : Nat → Int64} {s3 : Nat → Int64} {k : Nat} {e1 : Nat → Int64} {e2 : Nat → Int64} {bl : Int32} {li : Int32} {fg : Nat → Int32} {sg : Nat → Int32} {cln : Nat → Int32} (hc : cdP bl li Code_first fg sg Code_op Code_set Code_left cln Code_right Code_rightNumber P) (ha : a2.toInt = (b : Int)) (hb : b < P.1) (hN : Live_names.toInt = (Nm : Int)) (hW : Graph_words.toInt = (W : Int)) (hW2 : W ≤ 12) (hNW : Nm ≤ 64 * W) (hsl : sl = decide (Live_ofSlots.toInt ≠ 0)) (hsl3 : sl = decide (a3.toInt ≠ 0)) (h : tl_Graph_joinBlock_18 Code_first a2 a3 Code_op Code_set Code_rightNumber Live_names Live_ofSlots Code_left Code_right Graph_words s1 s2 s3 k e1 e2) : ∀ j : Nat, j ≤ P.2.1 b → s1.toInt = ((fsm P.2.1 b + j : Nat) : Int) - 1 → (∀ u, u < 64 * W → (gbit s2 u = true ↔ u < Nm ∧ Lv P sl u b j)) → symB Nm W s3 → symB Nm W e1 ∧ ∀ x y, x < Nm → y < 64 * W → (gbit e1 (64 * (x * W) + y) = true ↔ gbit s3 (64 * (x * W) + y) = true ∨ jbQ P sl Nm b j x y) := by
  have cf := (hc.2.2.1 b hb).1
  refine h (fun s1 s2 s3 _ e1 e2 => ∀ j : Nat, j ≤ P.2.1 b → s1.toInt = ((fsm P.2.1 b + j : Nat) : Int) - 1 → (∀ u, u < 64 * W → (gbit s2 u = true ↔ u < Nm ∧ Lv P sl u b j)) → symB Nm W s3 → symB Nm W e1 ∧ ∀ x y, x < Nm → y < 64 * W → (gbit e1 (64 * (x * W) + y) = true ↔ gbit s3 (64 * (x * W) + y) = true ∨ jbQ P sl Nm b j x y)) ?_ ?_ ?_ ?_ ?_ ?_
  · intro l4_1 Live_now_1 Graph_joined_1 x1 h1 h2 h3 h4
    intro j hj hl hn hs
    rw [nnE ha] at h2
    rw [← h2] at cf
    have e : j = 0 := by omega
    rw [e]
    exact ⟨hs, fun x y _ _ => ⟨Or.inl, fun z => z.elim id (fun ⟨k, hk, _⟩ => by omega)⟩⟩
  · intro l4_1 Live_now_1 Graph_joined_1 x1 x2 x3 x4 k e1 e2 h1 h2 h3 h4 h5 h6 h7 h8 ih
    intro j hj hl hn hs
    rw [nnE ha] at h2
    rw [← h2] at cf
    obtain ⟨i, ei⟩ : ∃ i, j = i + 1 := ⟨j - 1, by omega⟩
    rw [ei] at hl hn ⊢
    have hi2 : i < P.2.1 b := by omega
    have hi : l4_1.toNatClampNeg = fsm P.2.1 b + i := nnE (by omega)
    have f3 := sB_tr2 hc hb hi2 hi hsl3 h5
    have so := so2_tr hc hb hi2 hi hsl hN h7
    have lb := lv_back hb hi2 hn so
    have n0 := iN_0 h6
    obtain ⟨r1, r2⟩ := ih i (by omega) (by omega) lb hs
    exact ⟨r1, jb_no (fun x hx hse => n0 (by have := seR_iff.mp hse; omega)) r2⟩
  · intro l4_1 Live_now_1 Graph_joined_1 x1 x2 x3 x4 x5 k e1 e2 h1 h2 h3 h4 h5 h6 h7 h8 h9 h10 h11 ih
    intro j hj hl hn hs
    rw [nnE ha] at h2
    rw [← h2] at cf
    obtain ⟨i, ei⟩ : ∃ i, j = i + 1 := ⟨j - 1, by omega⟩
    rw [ei] at hl hn ⊢
    have hi2 : i < P.2.1 b := by omega
    have hi : l4_1.toNatClampNeg = fsm P.2.1 b + i := nnE (by omega)
    have f3 := sB_tr2 hc hb hi2 hi hsl3 h5
    have so := so2_tr hc hb hi2 hi hsl hN h10
    have lb := lv_back hb hi2 hn so
    have n1 := iN_1 h6
    have em : x2.toInt = ((x2.toInt.toNat : Nat) : Int) := (Int.toNat_of_nonneg n1.1).symm
    obtain ⟨s1', s2'⟩ := jl_tr (v := x2.toInt.toNat) hW hW2 hNW (fun u hu z => ((hn u hu).mp z).1) em (by omega) hs h9
    obtain ⟨r1, r2⟩ := ih i (by omega) (by omega) lb s1'
    refine ⟨r1, jb_one (v := x2.toInt.toNat) hNW (by omega) (seR_iff.mpr (by omega)) (fun x hx => by have := seR_iff.mp hx; omega) ?_ hn s2' r2⟩
    intro u hu hne
    obtain ⟨d0, d1, d2, d3, d4, d5⟩ := hc.2.2.2 b i hb hi2
    rcases cpR_tr h8 with ⟨c0, -⟩ | ⟨-, c1⟩
    · exact absurd c0 (by decide)
    · rw [hi, d0, d1, d2] at c1
      constructor
      · intro _ y
        have f4 : seV sl (P.2.2.1 b i) = P.2.2.1 b i 1 := by unfold seV; rw [y.1]; rfl
        exact c1 ⟨y.2.1, by omega, by omega⟩
      · intro _ y
        exact hne (by omega)
  · intro l4_1 Live_now_1 Graph_joined_1 x1 x2 x3 x4 x5 x6 k e1 e2 h1 h2 h3 h4 h5 h6 h7 h8 h9 h10 h11 h12 ih
    intro j hj hl hn hs
    rw [nnE ha] at h2
    rw [← h2] at cf
    obtain ⟨i, ei⟩ : ∃ i, j = i + 1 := ⟨j - 1, by omega⟩
    rw [ei] at hl hn ⊢
    have hi2 : i < P.2.1 b := by omega
    have hi : l4_1.toNatClampNeg = fsm P.2.1 b + i := nnE (by omega)
    have f3 := sB_tr2 hc hb hi2 hi hsl3 h5
    have so := so2_tr hc hb hi2 hi hsl hN h11
    have lb := lv_back hb hi2 hn so
    have n1 := iN_1 h6
    have em : x2.toInt = ((x2.toInt.toNat : Nat) : Int) := (Int.toNat_of_nonneg n1.1).symm
    obtain ⟨s1', s2'⟩ := jl_tr (v := x2.toInt.toNat) hW hW2 hNW (fun u hu z => ((hn u hu).mp z).1) em (by omega) hs h10
    obtain ⟨r1, r2⟩ := ih i (by omega) (by omega) lb s1'
    refine ⟨r1, jb_one (v := x2.toInt.toNat) hNW (by omega) (seR_iff.mpr (by omega)) (fun x hx => by have := seR_iff.mp hx; omega) ?_ hn s2' r2⟩
    intro u hu hne
    obtain ⟨d0, d1, d2, d3, d4, d5⟩ := hc.2.2.2 b i hb hi2
    rcases cpR_tr h8 with ⟨-, c1, c2, c3⟩ | ⟨c0, -⟩
    · rw [hi] at h9 c1 c3
      have e0 : sl = false := by rw [hsl3]; exact decide_eq_false (by have p1 := h7.1; have p2 := h7.2; omega)
      rw [h9, d2]
      rw [d0] at c1
      constructor
      · exact fun z y => z y.2.2.symm
      · exact fun z y => z ⟨e0, c1, y.symm⟩
    · exact absurd c0 (by decide)
  · intro l4_1 Live_now_1 Graph_joined_1 x1 x2 x3 k e1 e2 h1 h2 h3 h4 h5 h6 h7 h8 ih
    intro j hj hl hn hs
    rw [nnE ha] at h2
    rw [← h2] at cf
    obtain ⟨i, ei⟩ : ∃ i, j = i + 1 := ⟨j - 1, by omega⟩
    rw [ei] at hl hn ⊢
    have hi2 : i < P.2.1 b := by omega
    have hi : l4_1.toNatClampNeg = fsm P.2.1 b + i := nnE (by omega)
    have f3 := sB_tr2 hc hb hi2 hi hsl3 h5
    have so := so2_tr hc hb hi2 hi hsl hN h7
    have lb := lv_back hb hi2 hn so
    have n0 := iN_0 h6
    obtain ⟨r1, r2⟩ := ih i (by omega) (by omega) lb hs
    exact ⟨r1, jb_no (fun x hx hse => n0 (by have := seR_iff.mp hse; omega)) r2⟩
  · intro l4_1 Live_now_1 Graph_joined_1 x1 x2 x3 x4 x5 k e1 e2 h1 h2 h3 h4 h5 h6 h7 h8 h9 h10 ih
    intro j hj hl hn hs
    rw [nnE ha] at h2
    rw [← h2] at cf
    obtain ⟨i, ei⟩ : ∃ i, j = i + 1 := ⟨j - 1, by omega⟩
    rw [ei] at hl hn ⊢
    have hi2 : i < P.2.1 b := by omega
    have hi : l4_1.toNatClampNeg = fsm P.2.1 b + i := nnE (by omega)
    have f3 := sB_tr2 hc hb hi2 hi hsl3 h5
    have so := so2_tr hc hb hi2 hi hsl hN h9
    have lb := lv_back hb hi2 hn so
    have n1 := iN_1 h6
    have em : x2.toInt = ((x2.toInt.toNat : Nat) : Int) := (Int.toNat_of_nonneg n1.1).symm
    obtain ⟨s1', s2'⟩ := jl_tr (v := x2.toInt.toNat) hW hW2 hNW (fun u hu z => ((hn u hu).mp z).1) em (by omega) hs h8
    obtain ⟨r1, r2⟩ := ih i (by omega) (by omega) lb s1'
    refine ⟨r1, jb_one (v := x2.toInt.toNat) hNW (by omega) (seR_iff.mpr (by omega)) (fun x hx => by have := seR_iff.mp hx; omega) ?_ hn s2' r2⟩
    intro u hu hne
    obtain ⟨d0, d1, d2, d3, d4, d5⟩ := hc.2.2.2 b i hb hi2
    have e0 : sl = true := by rw [hsl3]; exact decide_eq_true (by have p1 := h7.1; have p2 := h7.2; omega)
    constructor
    · intro _ y
      rw [e0] at y; cases y.1
    · intro _ y
      exact hne (by omega)
theorem jb_tl_2 {Code_first : Nat → Int32} {a2 : Int32} {a3 : Int32} {Code_op : Nat → Int32} {Code_set : Nat → Int32} {Code_rightNumber : Nat → Int32} {Live_names : Int32} {Live_ofSlots : Int32} {Code_left : Nat → Int32} {Code_right : Nat → Int32} {Graph_words : Int32} {s1 : Int32} {s2 : Nat → Int64} {s3 : Nat → Int64} {k : Nat} {e1 : Nat → Int64} {e2 : Nat → Int64} {bl : Int32} {li : Int32} {fg : Nat → Int32} {sg : Nat → Int32} {cln : Nat → Int32} (hc : cdP bl li Code_first fg sg Code_op Code_set Code_left cln Code_right Code_rightNumber P) (ha : a2.toInt = (b : Int)) (hb : b < P.1) (hN : Live_names.toInt = (Nm : Int)) (hW : Graph_words.toInt = (W : Int)) (hW2 : W ≤ 12) (hNW : Nm ≤ 64 * W) (hsl : sl = decide (Live_ofSlots.toInt ≠ 0)) (hsl3 : sl = decide (a3.toInt ≠ 0)) (h : tl_Graph_joinBlock_18_2 Code_first a2 a3 Code_op Code_set Code_rightNumber Live_names Live_ofSlots Code_left Code_right Graph_words s1 s2 s3 k e1 e2) : ∀ j : Nat, j ≤ P.2.1 b → s1.toInt = ((fsm P.2.1 b + j : Nat) : Int) - 1 → (∀ u, u < 64 * W → (gbit s2 u = true ↔ u < Nm ∧ Lv P sl u b j)) → symB Nm W s3 → symB Nm W e1 ∧ ∀ x y, x < Nm → y < 64 * W → (gbit e1 (64 * (x * W) + y) = true ↔ gbit s3 (64 * (x * W) + y) = true ∨ jbQ P sl Nm b j x y) := by
  have cf := (hc.2.2.1 b hb).1
  refine h (fun s1 s2 s3 _ e1 e2 => ∀ j : Nat, j ≤ P.2.1 b → s1.toInt = ((fsm P.2.1 b + j : Nat) : Int) - 1 → (∀ u, u < 64 * W → (gbit s2 u = true ↔ u < Nm ∧ Lv P sl u b j)) → symB Nm W s3 → symB Nm W e1 ∧ ∀ x y, x < Nm → y < 64 * W → (gbit e1 (64 * (x * W) + y) = true ↔ gbit s3 (64 * (x * W) + y) = true ∨ jbQ P sl Nm b j x y)) ?_ ?_ ?_ ?_ ?_ ?_
  · intro l4_1 Live_now_1 Graph_joined_1 x1 h1 h2 h3 h4
    intro j hj hl hn hs
    rw [nnE ha] at h2
    rw [← h2] at cf
    have e : j = 0 := by omega
    rw [e]
    exact ⟨hs, fun x y _ _ => ⟨Or.inl, fun z => z.elim id (fun ⟨k, hk, _⟩ => by omega)⟩⟩
  · intro l4_1 Live_now_1 Graph_joined_1 x1 x2 x3 x4 k e1 e2 h1 h2 h3 h4 h5 h6 h7 h8 ih
    intro j hj hl hn hs
    rw [nnE ha] at h2
    rw [← h2] at cf
    obtain ⟨i, ei⟩ : ∃ i, j = i + 1 := ⟨j - 1, by omega⟩
    rw [ei] at hl hn ⊢
    have hi2 : i < P.2.1 b := by omega
    have hi : l4_1.toNatClampNeg = fsm P.2.1 b + i := nnE (by omega)
    have f3 := sB_tr2 hc hb hi2 hi hsl3 h5
    have so := so2_tr hc hb hi2 hi hsl hN h7
    have lb := lv_back hb hi2 hn so
    have n0 := iN_0 h6
    obtain ⟨r1, r2⟩ := ih i (by omega) (by omega) lb hs
    exact ⟨r1, jb_no (fun x hx hse => n0 (by have := seR_iff.mp hse; omega)) r2⟩
  · intro l4_1 Live_now_1 Graph_joined_1 x1 x2 x3 x4 x5 k e1 e2 h1 h2 h3 h4 h5 h6 h7 h8 h9 h10 h11 ih
    intro j hj hl hn hs
    rw [nnE ha] at h2
    rw [← h2] at cf
    obtain ⟨i, ei⟩ : ∃ i, j = i + 1 := ⟨j - 1, by omega⟩
    rw [ei] at hl hn ⊢
    have hi2 : i < P.2.1 b := by omega
    have hi : l4_1.toNatClampNeg = fsm P.2.1 b + i := nnE (by omega)
    have f3 := sB_tr2 hc hb hi2 hi hsl3 h5
    have so := so2_tr hc hb hi2 hi hsl hN h10
    have lb := lv_back hb hi2 hn so
    have n1 := iN_1 h6
    have em : x2.toInt = ((x2.toInt.toNat : Nat) : Int) := (Int.toNat_of_nonneg n1.1).symm
    obtain ⟨s1', s2'⟩ := jl_tr (v := x2.toInt.toNat) hW hW2 hNW (fun u hu z => ((hn u hu).mp z).1) em (by omega) hs h9
    obtain ⟨r1, r2⟩ := ih i (by omega) (by omega) lb s1'
    refine ⟨r1, jb_one (v := x2.toInt.toNat) hNW (by omega) (seR_iff.mpr (by omega)) (fun x hx => by have := seR_iff.mp hx; omega) ?_ hn s2' r2⟩
    intro u hu hne
    obtain ⟨d0, d1, d2, d3, d4, d5⟩ := hc.2.2.2 b i hb hi2
    rcases cpR_tr h8 with ⟨c0, -⟩ | ⟨-, c1⟩
    · exact absurd c0 (by decide)
    · rw [hi, d0, d1, d2] at c1
      constructor
      · intro _ y
        have f4 : seV sl (P.2.2.1 b i) = P.2.2.1 b i 1 := by unfold seV; rw [y.1]; rfl
        exact c1 ⟨y.2.1, by omega, by omega⟩
      · intro _ y
        exact hne (by omega)
  · intro l4_1 Live_now_1 Graph_joined_1 x1 x2 x3 x4 x5 x6 k e1 e2 h1 h2 h3 h4 h5 h6 h7 h8 h9 h10 h11 h12 ih
    intro j hj hl hn hs
    rw [nnE ha] at h2
    rw [← h2] at cf
    obtain ⟨i, ei⟩ : ∃ i, j = i + 1 := ⟨j - 1, by omega⟩
    rw [ei] at hl hn ⊢
    have hi2 : i < P.2.1 b := by omega
    have hi : l4_1.toNatClampNeg = fsm P.2.1 b + i := nnE (by omega)
    have f3 := sB_tr2 hc hb hi2 hi hsl3 h5
    have so := so2_tr hc hb hi2 hi hsl hN h11
    have lb := lv_back hb hi2 hn so
    have n1 := iN_1 h6
    have em : x2.toInt = ((x2.toInt.toNat : Nat) : Int) := (Int.toNat_of_nonneg n1.1).symm
    obtain ⟨s1', s2'⟩ := jl_tr (v := x2.toInt.toNat) hW hW2 hNW (fun u hu z => ((hn u hu).mp z).1) em (by omega) hs h10
    obtain ⟨r1, r2⟩ := ih i (by omega) (by omega) lb s1'
    refine ⟨r1, jb_one (v := x2.toInt.toNat) hNW (by omega) (seR_iff.mpr (by omega)) (fun x hx => by have := seR_iff.mp hx; omega) ?_ hn s2' r2⟩
    intro u hu hne
    obtain ⟨d0, d1, d2, d3, d4, d5⟩ := hc.2.2.2 b i hb hi2
    rcases cpR_tr h8 with ⟨-, c1, c2, c3⟩ | ⟨c0, -⟩
    · rw [hi] at h9 c1 c3
      have e0 : sl = false := by rw [hsl3]; exact decide_eq_false (by have p1 := h7.1; have p2 := h7.2; omega)
      rw [h9, d2]
      rw [d0] at c1
      constructor
      · exact fun z y => z y.2.2.symm
      · exact fun z y => z ⟨e0, c1, y.symm⟩
    · exact absurd c0 (by decide)
  · intro l4_1 Live_now_1 Graph_joined_1 x1 x2 x3 k e1 e2 h1 h2 h3 h4 h5 h6 h7 h8 ih
    intro j hj hl hn hs
    rw [nnE ha] at h2
    rw [← h2] at cf
    obtain ⟨i, ei⟩ : ∃ i, j = i + 1 := ⟨j - 1, by omega⟩
    rw [ei] at hl hn ⊢
    have hi2 : i < P.2.1 b := by omega
    have hi : l4_1.toNatClampNeg = fsm P.2.1 b + i := nnE (by omega)
    have f3 := sB_tr2 hc hb hi2 hi hsl3 h5
    have so := so2_tr hc hb hi2 hi hsl hN h7
    have lb := lv_back hb hi2 hn so
    have n0 := iN_0 h6
    obtain ⟨r1, r2⟩ := ih i (by omega) (by omega) lb hs
    exact ⟨r1, jb_no (fun x hx hse => n0 (by have := seR_iff.mp hse; omega)) r2⟩
  · intro l4_1 Live_now_1 Graph_joined_1 x1 x2 x3 x4 x5 k e1 e2 h1 h2 h3 h4 h5 h6 h7 h8 h9 h10 ih
    intro j hj hl hn hs
    rw [nnE ha] at h2
    rw [← h2] at cf
    obtain ⟨i, ei⟩ : ∃ i, j = i + 1 := ⟨j - 1, by omega⟩
    rw [ei] at hl hn ⊢
    have hi2 : i < P.2.1 b := by omega
    have hi : l4_1.toNatClampNeg = fsm P.2.1 b + i := nnE (by omega)
    have f3 := sB_tr2 hc hb hi2 hi hsl3 h5
    have so := so2_tr hc hb hi2 hi hsl hN h9
    have lb := lv_back hb hi2 hn so
    have n1 := iN_1 h6
    have em : x2.toInt = ((x2.toInt.toNat : Nat) : Int) := (Int.toNat_of_nonneg n1.1).symm
    obtain ⟨s1', s2'⟩ := jl_tr (v := x2.toInt.toNat) hW hW2 hNW (fun u hu z => ((hn u hu).mp z).1) em (by omega) hs h8
    obtain ⟨r1, r2⟩ := ih i (by omega) (by omega) lb s1'
    refine ⟨r1, jb_one (v := x2.toInt.toNat) hNW (by omega) (seR_iff.mpr (by omega)) (fun x hx => by have := seR_iff.mp hx; omega) ?_ hn s2' r2⟩
    intro u hu hne
    obtain ⟨d0, d1, d2, d3, d4, d5⟩ := hc.2.2.2 b i hb hi2
    have e0 : sl = true := by rw [hsl3]; exact decide_eq_true (by have p1 := h7.1; have p2 := h7.2; omega)
    constructor
    · intro _ y
      rw [e0] at y; cases y.1
    · intro _ y
      exact hne (by omega)
end GRC
