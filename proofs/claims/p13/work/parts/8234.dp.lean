section
/-! loops of the reference -/
abbrev bt (x : Int64) (b : Nat) : Bool := x.toBitVec.getLsbD b
theorem bt_sh {x u v : Int64} {i : Int32} (hu : u = (x.toUInt64 >>> (i.toInt64.toUInt64 &&& Int64.toUInt64 63)).toInt64) (hv : v = u &&& 1) (h0 : 0 ≤ i.toInt) (h1 : i.toInt < 64) : (v = 0 → bt x i.toInt.toNat = false) ∧ (¬ v = 0 → bt x i.toInt.toNat = true) := by
  have h := bit_sh hu hv h0
  rw [show i.toInt.toNat % 64 = i.toInt.toNat by omega] at h
  exact h
theorem bt_or {x y z : Int64} {i : Int32} (hy : y = 1 <<< (i.toInt64 &&& 63)) (hz : z = x ||| y) (h0 : 0 ≤ i.toInt) (h1 : i.toInt < 64) {b : Nat} (hb : b < 64) : bt z b = (bt x b || decide (b = i.toInt.toNat)) := by
  show z.toBitVec.getLsbD b = _
  rw [hz, Int64.toBitVec_or, BitVec.getLsbD_or, hy, lb_Qcnt i h0]
  have h2 : ((1 : Int64) <<< (Int64.ofNat (i.toInt.toNat % 64 % 64))).toBitVec.getLsbD b = decide (b = i.toInt.toNat % 64) := r1_bit ⟨i.toInt.toNat % 64, by omega⟩ ⟨b, hb⟩
  rw [Nat.mod_mod] at h2
  rw [h2, show i.toInt.toNat % 64 = i.toInt.toNat by omega]
theorem bt_one {u v : Int64} (hv : v = u &&& 1) (h : ¬ v = 0) : v = 1 := by
  have h0 : bt v 0 = true := by
    refine Classical.byContradiction fun hn => h ?_
    rw [Bool.not_eq_true] at hn
    apply Int64.toBitVec_inj.mp
    apply BitVec.eq_of_getLsbD_eq
    intro j hj
    have hz : (0 : Int64).toBitVec.getLsbD j = false := by show (0#64).getLsbD j = false; exact BitVec.getLsbD_zero
    rw [hz]
    by_cases e : j = 0
    · rw [e]; exact hn
    · have h1 : ∀ j : Fin 64, j.val ≠ 0 → (1 : Int64).toBitVec.getLsbD j.val = false := by decide +kernel
      rw [hv, Int64.toBitVec_and, BitVec.getLsbD_and, h1 ⟨j, hj⟩ e, Bool.and_false]
  apply Int64.toBitVec_inj.mp
  apply BitVec.eq_of_getLsbD_eq
  intro j hj
  have h1 : ∀ j : Fin 64, (1 : Int64).toBitVec.getLsbD j.val = decide (j.val = 0) := by decide +kernel
  rw [h1 ⟨j, hj⟩]
  by_cases e : j = 0
  · subst e
    rw [decide_eq_true rfl]
    exact h0
  · rw [decide_eq_false e, hv, Int64.toBitVec_and, BitVec.getLsbD_and, h1 ⟨j, hj⟩, decide_eq_false e, Bool.and_false]
theorem bt_z {b : Nat} : bt 0 b = false := by show (0#64).getLsbD b = false; exact BitVec.getLsbD_zero
theorem bt_1 {b : Nat} (hb : b < 64) : bt 1 b = decide (b = 0) := by
  have h1 : ∀ j : Fin 64, (1 : Int64).toBitVec.getLsbD j.val = decide (j.val = 0) := by decide +kernel
  exact h1 ⟨b, hb⟩
theorem bt_andn {x y z w : Int64} (hz : z = y ^^^ (-1)) (hw : w = x &&& z) {b : Nat} (hb : b < 64) : bt w b = (bt x b && !bt y b) := by
  show w.toBitVec.getLsbD b = _
  have hm1 : ∀ j : Fin 64, ((-1 : Int64)).toBitVec.getLsbD j.val = true := by decide +kernel
  rw [hw, Int64.toBitVec_and, BitVec.getLsbD_and, hz, Int64.toBitVec_xor, BitVec.getLsbD_xor, hm1 ⟨b, hb⟩]
  show (x.toBitVec.getLsbD b && (y.toBitVec.getLsbD b ^^ true)) = (x.toBitVec.getLsbD b && !y.toBitVec.getLsbD b)
  generalize y.toBitVec.getLsbD b = p
  generalize x.toBitVec.getLsbD b = q
  cases p <;> cases q <;> rfl
def wv (f s j : Int) : Int := if j = 0 then f else s
section DPT
variable {D : va_G} {I : FieldType → ClassId} {P : List Nat} {F F1 : Nat → va_E} {γ el : Nat → Nat → Nat} {q0 q1 c i : Nat} {Q : gPg} {a1 : Int32}
theorem rfW_rs (hT : RS D I P F γ el) (hq : rfW γ el F c Q) (hc9 : γ 0 c = 9) (hB2 : ∀ i, i < Q.1 → γ 0 (el (γ 14 c) i) = 2) (hs : rStr γ [] F F1) : rfW γ el F1 c Q := by
  obtain ⟨h1, h2, h3⟩ := hq
  refine ⟨by rw [rs0 hs hc9 (by decide)]; exact h1, h2, fun b hb => ?_⟩
  exact rfBw_c hT (hB2 b hb) (h3 b hb) (fun x hx => by
    rcases hx with hx | hx
    · exact rs0 hs hx (by decide)
    · exact rs0 hs hx (by decide)) rfl rfl ⟨rfl, rfl⟩
abbrev bF (F : Nat → va_E) (γ el : Nat → Nat → Nat) (c i : Nat) : Int := (fI (F (el (γ 14 c) i)) 2).toInt
abbrev bS (F : Nat → va_E) (γ el : Nat → Nat → Nat) (c i : Nat) : Int := (fI (F (el (γ 14 c) i)) 3).toInt
abbrev bW (F : Nat → va_E) (γ el : Nat → Nat → Nat) (c i : Nat) : Int := wnV (fI (F (γ 15 (el (γ 14 c) i))) 0).toInt (bF F γ el c i) (bS F γ el c i)
theorem wn_b {op f s : Int} : 0 ≤ wnV op f s ∧ wnV op f s ≤ 2 := by
  unfold wnV
  split
  · decide
  · split <;> decide
/-- the ways of a block are its goals -/
theorem wy_ed (hq : rfW γ el F c Q) (hO : qOk Q) (hi : i < Q.1) (y : Nat) : (∃ j : Int, 0 ≤ j ∧ j < bW F γ el c i ∧ (wv (bF F γ el c i) (bS F γ el c i) j).toNat = y) ↔ Ed Q i y := by
  have h1 := qbh (k := 0) (L := fun g _ => decide (g = y)) hq hO hi
  rw [bh_wn, decide_eq_true_eq, decide_eq_true_eq] at h1
  have h2 : goX Q (fun g => decide (g = y) = true) i ↔ Ed Q i y := by
    constructor
    · rintro ⟨t, g, w1, w2, w3, w4⟩
      rw [decide_eq_true_eq] at w4
      exact ⟨hi, t, w1, by rw [w2, w4]⟩
    · rintro ⟨w0, t, w1, w2⟩
      have w3 := (hO.1 i t hi w1 (by omega)).2
      exact ⟨t, y, w1, w2, by omega, decide_eq_true rfl⟩
  rw [← h2, ← h1]
  have hb := wn_b (op := (fI (F (γ 15 (el (γ 14 c) i))) 0).toInt) (f := (fI (F (el (γ 14 c) i)) 2).toInt) (s := (fI (F (el (γ 14 c) i)) 3).toInt)
  constructor
  · rintro ⟨j, w1, w2, w3⟩
    have w2 : j < wnV (fI (F (γ 15 (el (γ 14 c) i))) 0).toInt (fI (F (el (γ 14 c) i)) 2).toInt (fI (F (el (γ 14 c) i)) 3).toInt := w2
    unfold wv at w3
    by_cases e : j = 0
    · rw [if_pos e] at w3
      exact Or.inl ⟨by omega, w3⟩
    · rw [if_neg e] at w3
      exact Or.inr ⟨by omega, w3⟩
  · rintro (w | w)
    · exact ⟨0, by decide, w.1, by unfold wv; rw [if_pos rfl]; exact w.2⟩
    · exact ⟨1, by decide, w.1, by unfold wv; rw [if_neg (by decide)]; exact w.2⟩
theorem wy_b (hT : RS D I P F γ el) (hB : γ 0 (el (γ 14 c) i) = 2) (j : Int) : 0 ≤ wv (bF F γ el c i) (bS F γ el c i) j ∧ wv (bF F γ el c i) (bS F γ el c i) j < 40 := by
  obtain ⟨l, nn, p, s, v1, ⟨g1, g2, g3⟩, v3, v4, v5, v6, v7, v8, v9, -⟩ := show rk_2 γ (el (γ 14 c) i) (F (el (γ 14 c) i)) from RS_o hT hB
  have e1 : bF F γ el c i = p.toInt := by show (fI (F (el (γ 14 c) i)) 2).toInt = _; rw [v1]; rfl
  have e2 : bS F γ el c i = s.toInt := by show (fI (F (el (γ 14 c) i)) 3).toInt = _; rw [v1]; rfl
  have v81 := v8.1
  have v82 := v8.2
  have v91 := v9.1
  have v92 := v9.2
  unfold wv
  split
  · omega
  · omega
/-- a block's cells as the relations name them -/
theorem blk_c {x1 x2 x6 : Nat} {l x4 x5 x7 x8 : Int32} (hT : RS D I P F γ el) (hc9 : γ 0 c = 9) (hB2 : ∀ i, i < Q.1 → γ 0 (el (γ 14 c) i) = 2) (hi : l.toInt.toNat < Q.1) (h1 : fR (F c) 0 = x1) (h2 : x2 = el x1 l.toInt.toNat) : x2 = el (γ 14 c) l.toInt.toNat ∧ (fI (F x2) 2 = x4 → fI (F x2) 3 = x5 → fR (F x2) 1 = x6 → fI (F x6) 0 = x7 → tr_RBlock_ways x4 x5 x7 x8 → x4.toInt = bF F γ el c l.toInt.toNat ∧ x5.toInt = bS F γ el c l.toInt.toNat ∧ x8.toInt = bW F γ el c l.toInt.toNat) := by
  obtain ⟨lb, lr, rn, md, z1, ⟨z2, z3, z4⟩, -⟩ := show rk_9 γ el c (F c) from RS_o hT hc9
  have e1 : x1 = γ 14 c := by rw [← h1, z1, z2]; rfl
  have e2 : x2 = el (γ 14 c) l.toInt.toNat := by rw [h2, e1]
  refine ⟨e2, fun h3 h4 h5 h6 h7 => ?_⟩
  have hB := hB2 _ hi
  rw [← e2] at hB
  obtain ⟨l', nn, p, s, v1, ⟨g1, g2, g3⟩, v3, v4, v5, v6, v7, v8, v9, -⟩ := show rk_2 γ x2 (F x2) from RS_o hT hB
  have e6 : x6 = γ 15 x2 := by rw [← h5, v1, g2]; rfl
  have e4 : x4.toInt = bF F γ el c l.toInt.toNat := by rw [← h3, e2]
  have e5 : x5.toInt = bS F γ el c l.toInt.toNat := by rw [← h4, e2]
  refine ⟨e4, e5, ?_⟩
  rw [ws_tr h7, e4, e5, ← h6, e6, e2]
theorem wy_v {l x4 x5 x9 : Int32} (h : tr_RBlock_way2 l x4 x5 x9) : x9.toInt = wv x4.toInt x5.toInt l.toInt := by
  unfold wv
  rcases wy_tr h with ⟨z1, z2⟩ | ⟨z1, z2⟩
  · rw [if_pos z1, z2]
  · rw [if_neg z1, z2]
def sdR (Q : gPg) (a1 : Int32) (x : Int64) : Prop := ∀ b, b < 64 → bt x b = true → Wk (Ed Q) (fun b => b = 0) (fun b => (b : Int) = a1.toInt) b
theorem r48 {l2 s3 e2 : Int64} {l5 s1 s2 e1 : Int32} {kx : Nat} (hT : RS D I P F γ el) (hc9 : γ 0 c = 9) (hB2 : ∀ i, i < Q.1 → γ 0 (el (γ 14 c) i) = 2) (hq : rfW γ el F c Q) (hO : qOk Q) (hi : l5.toInt.toNat < Q.1) (hW : Wk (Ed Q) (fun b => b = 0) (fun b => (b : Int) = a1.toInt) l5.toInt.toNat) (h : tl_RModel_reached_48 D I γ el l2 F c l5 a1 s1 s2 s3 kx e1 e2) : 0 ≤ s1.toInt → sdR Q a1 s3 → sdR Q a1 e2 ∧ (∀ b, b < 64 → bt s3 b = true → bt e2 b = true) ∧ (e1.toInt = 0 → s2.toInt = 0 ∧ e2 = s3 ∧ ∀ j : Int, s1.toInt ≤ j → j < bW F γ el c l5.toInt.toNat → wv (bF F γ el c l5.toInt.toNat) (bS F γ el c l5.toInt.toNat) j = a1.toInt ∨ bt s3 (wv (bF F γ el c l5.toInt.toNat) (bS F γ el c l5.toInt.toNat) j).toNat = true) := by
  refine h (fun s1 s2 s3 _ e1 e2 => 0 ≤ s1.toInt → sdR Q a1 s3 → sdR Q a1 e2 ∧ (∀ b, b < 64 → bt s3 b = true → bt e2 b = true) ∧ (e1.toInt = 0 → s2.toInt = 0 ∧ e2 = s3 ∧ ∀ j : Int, s1.toInt ≤ j → j < bW F γ el c l5.toInt.toNat → wv (bF F γ el c l5.toInt.toNat) (bS F γ el c l5.toInt.toNat) j = a1.toInt ∨ bt s3 (wv (bF F γ el c l5.toInt.toNat) (bS F γ el c l5.toInt.toNat) j).toNat = true)) ?_ ?_ ?_ ?_
  · intro l6_3 l4_3 l2_3 x1 x2 x3 x4 x5 x6 x7 x8 h1 h2 h3 h4 h5 h6 h7 h8 h9 h10 h11 h12 h13 h14 h15
    intro h0 hS
    obtain ⟨e2, eB⟩ := blk_c (l := l5) hT hc9 hB2 hi h5 h6
    obtain ⟨e4, e5, e8⟩ := eB h9 h10 h11 h12 h14
    exact ⟨hS, fun _ _ z => z, fun z => ⟨z, rfl, fun j h1 h2 => absurd h2 (by have := h15; omega)⟩⟩
  · intro l6_3 l4_3 l2_3 x1 x2 x3 x4 x5 x6 x7 x8 x9 x10 k e1 e2 h1 h2 h3 h4 h5 h6 h7 h8 h9 h10 h11 h12 h13 h14 h15 h16 h17 h18 h19 h20 ih
    intro h0 hS
    obtain ⟨e2, eB⟩ := blk_c (l := l5) hT hc9 hB2 hi h5 h6
    obtain ⟨e4, e5, e8⟩ := eB h9 h10 h11 h12 h14
    have ey := wy_v h18
    rw [e4, e5] at ey
    have yb := wy_b hT (hB2 _ hi) l6_3.toInt
    rw [← ey] at yb
    have hlt := h15
    obtain ⟨i1, i2, i3⟩ := ih (by omega) hS
    refine ⟨i1, i2, fun z => ?_⟩
    obtain ⟨j1, j2, j3⟩ := i3 z
    refine ⟨j1, j2, fun j q1 q2 => ?_⟩
    by_cases e : j = l6_3.toInt
    · rw [e, ← ey]
      exact Or.inl h19
    · exact j3 j (by omega) q2
  · intro l6_3 l4_3 l2_3 x1 x2 x3 x4 x5 x6 x7 x8 x9 x10 x11 x12 x13 x14 k e1 e2 h1 h2 h3 h4 h5 h6 h7 h8 h9 h10 h11 h12 h13 h14 h15 h16 h17 h18 h19 h20 h21 h22 h23 h24 h25 ih
    intro h0 hS
    obtain ⟨e2, eB⟩ := blk_c (l := l5) hT hc9 hB2 hi h5 h6
    obtain ⟨e4, e5, e8⟩ := eB h9 h10 h11 h12 h14
    have ey := wy_v h18
    rw [e4, e5] at ey
    have yb := wy_b hT (hB2 _ hi) l6_3.toInt
    rw [← ey] at yb
    have hlt := h15
    have hor : ∀ b, b < 64 → bt x13 b = (bt l2_3 b || decide (b = x9.toInt.toNat)) := fun b hb => bt_or h23 h24 yb.1 (by omega) hb
    have hy : Ed Q l5.toInt.toNat x9.toInt.toNat := (wy_ed hq hO hi _).mp ⟨l6_3.toInt, h0, by omega, by rw [ey]⟩
    obtain ⟨i1, i2, i3⟩ := ih (by omega) (fun b hb z => by
      rw [hor b hb, Bool.or_eq_true, decide_eq_true_eq] at z
      rcases z with z | z
      · exact hS b hb z
      · rw [z]
        exact Wk_s hW hy (by have := h19; omega))
    exact ⟨i1, fun b hb z => i2 b hb (by rw [hor b hb, z]; rfl), fun z => absurd (i3 z).1 (by decide)⟩
  · intro l6_3 l4_3 l2_3 x1 x2 x3 x4 x5 x6 x7 x8 x9 x10 x11 x12 k e1 e2 h1 h2 h3 h4 h5 h6 h7 h8 h9 h10 h11 h12 h13 h14 h15 h16 h17 h18 h19 h20 h21 h22 h23 ih
    intro h0 hS
    obtain ⟨e2, eB⟩ := blk_c (l := l5) hT hc9 hB2 hi h5 h6
    obtain ⟨e4, e5, e8⟩ := eB h9 h10 h11 h12 h14
    have ey := wy_v h18
    rw [e4, e5] at ey
    have yb := wy_b hT (hB2 _ hi) l6_3.toInt
    rw [← ey] at yb
    have hlt := h15
    obtain ⟨i1, i2, i3⟩ := ih (by omega) hS
    refine ⟨i1, i2, fun z => ?_⟩
    obtain ⟨j1, j2, j3⟩ := i3 z
    refine ⟨j1, j2, fun j q1 q2 => ?_⟩
    by_cases e : j = l6_3.toInt
    · rw [e, ← ey]
      exact Or.inr ((bt_sh h20 h21 yb.1 (by omega)).2 h22)
    · exact j3 j (by omega) q2
theorem r22 {l2 s3 e2 : Int64} {s1 s2 e1 : Int32} {kx : Nat} (hT : RS D I P F γ el) (hc9 : γ 0 c = 9) (hB2 : ∀ i, i < Q.1 → γ 0 (el (γ 14 c) i) = 2) (hq : rfW γ el F c Q) (hO : qOk Q) (h40 : Q.1 ≤ 40) (h : tl_RModel_reached_22 D I γ el l2 F c a1 s1 s2 s3 kx e1 e2) : 0 ≤ s1.toInt → sdR Q a1 s3 → sdR Q a1 e2 ∧ (∀ b, b < 64 → bt s3 b = true → bt e2 b = true) ∧ (e1.toInt = 0 → s2.toInt = 0 ∧ e2 = s3 ∧ ∀ b y : Nat, s1.toInt ≤ (b : Int) → b < Q.1 → bt s3 b = true → Ed Q b y → (y : Int) = a1.toInt ∨ bt s3 y = true) := by
  refine h (fun s1 s2 s3 _ e1 e2 => 0 ≤ s1.toInt → sdR Q a1 s3 → sdR Q a1 e2 ∧ (∀ b, b < 64 → bt s3 b = true → bt e2 b = true) ∧ (e1.toInt = 0 → s2.toInt = 0 ∧ e2 = s3 ∧ ∀ b y : Nat, s1.toInt ≤ (b : Int) → b < Q.1 → bt s3 b = true → Ed Q b y → (y : Int) = a1.toInt ∨ bt s3 y = true)) ?_ ?_ ?_
  · intro l5_2 l4_2 l2_2 x1 h1 h2 h3 h4 h5 h6
    intro h0 hS
    have ex : x1.toInt = (Q.1 : Int) := by rw [← h5]; exact hq.1
    exact ⟨hS, fun _ _ z => z, fun z => ⟨z, rfl, fun b y h1 h2 => absurd h2 (by have := h6; omega)⟩⟩
  · intro l5_2 l4_2 l2_2 x1 x2 x3 x4 x5 x6 k e1 e2 h1 h2 h3 h4 h5 h6 h7 h8 h9 h10 h11 ih
    intro h0 hS
    have ex : x1.toInt = (Q.1 : Int) := by rw [← h5]; exact hq.1
    have hlt := h6
    have hi : l5_2.toInt.toNat < Q.1 := by omega
    have hb := (bt_sh h7 h8 h0 (by omega)).2 h9
    obtain ⟨y1, y2, y3⟩ := r48 hT hc9 hB2 hq hO hi (hS _ (by omega) hb) h10 (by decide) hS
    obtain ⟨i1, i2, i3⟩ := ih (by omega) y1
    refine ⟨i1, fun b hb z => i2 b hb (y2 b hb z), fun z => ?_⟩
    obtain ⟨j1, j2, j3⟩ := i3 z
    obtain ⟨w1, w2, w3⟩ := y3 j1
    rw [w2] at j2 j3
    refine ⟨w1, j2, fun b y q1 q2 q3 q4 => ?_⟩
    by_cases e : (b : Int) = l5_2.toInt
    · have e2 : b = l5_2.toInt.toNat := by omega
      rw [e2] at q4
      obtain ⟨j, u1, u2, u3⟩ := (wy_ed hq hO hi y).mpr q4
      have yb := wy_b hT (hB2 _ hi) j
      rcases w3 j (by rw [show Int32.toInt 0 = 0 from by decide]; exact u1) u2 with v | v
      · exact Or.inl (by omega)
      · rw [u3] at v
        exact Or.inr v
    · exact j3 b y (by omega) q2 q3 q4
  · intro l5_2 l4_2 l2_2 x1 x2 x3 x4 k e1 e2 h1 h2 h3 h4 h5 h6 h7 h8 h9 h10 ih
    intro h0 hS
    have ex : x1.toInt = (Q.1 : Int) := by rw [← h5]; exact hq.1
    have hlt := h6
    have hi : l5_2.toInt.toNat < Q.1 := by omega
    have hb := (bt_sh h7 h8 h0 (by omega)).1 h9
    obtain ⟨i1, i2, i3⟩ := ih (by omega) hS
    refine ⟨i1, i2, fun z => ?_⟩
    obtain ⟨j1, j2, j3⟩ := i3 z
    refine ⟨j1, j2, fun b y q1 q2 q3 q4 => ?_⟩
    by_cases e : (b : Int) = l5_2.toInt
    · rw [show b = l5_2.toInt.toNat by omega, hb] at q3
      cases q3
    · exact j3 b y (by omega) q2 q3 q4
def clR (Q : gPg) (a1 : Int32) (x : Int64) : Prop := ∀ b y : Nat, b < Q.1 → bt x b = true → Ed Q b y → (y : Int) = a1.toInt ∨ bt x y = true
theorem r11 {s2 e1 : Int64} {s1 : Int32} {kx : Nat} (hT : RS D I P F γ el) (hc9 : γ 0 c = 9) (hB2 : ∀ i, i < Q.1 → γ 0 (el (γ 14 c) i) = 2) (hq : rfW γ el F c Q) (hO : qOk Q) (h40 : Q.1 ≤ 40) (h : tl_RModel_reached_11 D I γ el F c a1 s1 s2 kx e1) : sdR Q a1 s2 → bt s2 0 = true → (s1.toInt = 0 → clR Q a1 s2) → sdR Q a1 e1 ∧ bt e1 0 = true ∧ clR Q a1 e1 := by
  refine h (fun s1 s2 _ e1 => sdR Q a1 s2 → bt s2 0 = true → (s1.toInt = 0 → clR Q a1 s2) → sdR Q a1 e1 ∧ bt e1 0 = true ∧ clR Q a1 e1) ?_ ?_
  · intro l4_1 l2_1 h1 h2 h3
    intro hS h0 hC
    exact ⟨hS, h0, hC h3⟩
  · intro l4_1 l2_1 x1 x2 k e1 h1 h2 h3 h4 ih
    intro hS h0 hC
    obtain ⟨y1, y2, y3⟩ := r22 hT hc9 hB2 hq hO h40 h4 (by decide) hS
    refine ih y1 (y2 0 (by decide) h0) (fun z => ?_)
    obtain ⟨w1, w2, w3⟩ := y3 z
    rw [w2]
    exact fun b y hb q1 q2 => w3 b y (by rw [show Int32.toInt 0 = 0 from by decide]; omega) hb q1 q2
theorem re_tr {x : Int64} (hT : RS D I P F γ el) (hc9 : γ 0 c = 9) (hB2 : ∀ i, i < Q.1 → γ 0 (el (γ 14 c) i) = 2) (hq : rfW γ el F c Q) (hO : qOk Q) (h40 : Q.1 ≤ 40) (hP0 : 0 < Q.1) (h : tr_RModel_reached D I γ el F c a1 x) : ∀ b, b < 64 → (bt x b = true ↔ Wk (Ed Q) (fun b => b = 0) (fun b => (b : Int) = a1.toInt) b) := by
  refine h (fun x => ∀ b, b < 64 → (bt x b = true ↔ Wk (Ed Q) (fun b => b = 0) (fun b => (b : Int) = a1.toInt) b)) ?_ ?_
  · intro x1 h1 h2
    have hne := h1
    obtain ⟨y1, y2, y3⟩ := r11 hT hc9 hB2 hq hO h40 h2 (fun b hb z => by
      rw [bt_1 hb, decide_eq_true_eq] at z
      rw [z]
      exact Wk_i rfl (by omega)) (by rw [bt_1 (by decide)]; rfl) (fun z => absurd z (by decide))
    intro b hb
    refine ⟨fun z => y1 b hb z, fun z => ?_⟩
    refine (z (fun b => b < Q.1 ∧ bt x1 b = true) (fun b h1 _ => ⟨by omega, by rw [h1]; exact y2⟩) (fun a b h1 h2 h3 => ?_)).2
    obtain ⟨w0, t, w1, w2⟩ := id h2
    exact ⟨by have := (hO.1 a t w0 w1 (by omega)).2; omega, (y3 a b h1.1 h1.2 h2).resolve_left h3⟩
  · intro h1
    intro b hb
    rw [bt_z]
    refine ⟨fun z => (nomatch z), fun z => ?_⟩
    exact (z (fun _ => False) (fun b q1 q2 => q2 (by rw [q1]; have := h1; omega)) (fun _ _ q _ _ => q)).elim
theorem lea2 {s1 : Int32} {kx : Nat} (hT : RS D I P F γ el) (hB : γ 0 (el (γ 14 c) i) = 2) (h : tl_RModel_leads_2 D I γ el F (el (γ 14 c) i) a1 s1 kx) : 0 ≤ s1.toInt → (kx = 27 → ∀ j : Int, s1.toInt ≤ j → j < bW F γ el c i → wv (bF F γ el c i) (bS F γ el c i) j ≠ a1.toInt) ∧ (kx = 19 → ∃ j : Int, 0 ≤ j ∧ j < bW F γ el c i ∧ wv (bF F γ el c i) (bS F γ el c i) j = a1.toInt) := by
  obtain ⟨l', nn, p, s, v1, ⟨g1, g2, g3⟩, v3, v4, v5, v6, v7, v8, v9, -⟩ := show rk_2 γ (el (γ 14 c) i) (F (el (γ 14 c) i)) from RS_o hT hB
  have er : fR (F (el (γ 14 c) i)) 1 = γ 15 (el (γ 14 c) i) := by rw [v1, g2]; rfl
  refine h (fun s1 kx => 0 ≤ s1.toInt → (kx = 27 → ∀ j : Int, s1.toInt ≤ j → j < bW F γ el c i → wv (bF F γ el c i) (bS F γ el c i) j ≠ a1.toInt) ∧ (kx = 19 → ∃ j : Int, 0 ≤ j ∧ j < bW F γ el c i ∧ wv (bF F γ el c i) (bS F γ el c i) j = a1.toInt)) ?_ ?_ ?_
  · intro l2_1 x1 x2 x3 x4 x5 h1 h2 h3 h4 h5 h6 h7 h8
    intro h0
    have e8 := ws_tr h7
    rw [← h2, ← h3, ← h5, ← h4, er] at e8
    have e8 : _ = bW F γ el c i := e8
    exact ⟨fun _ j q1 q2 => absurd q2 (by have := h8; omega), fun z => absurd z (by decide)⟩
  · intro l2_1 x1 x2 x3 x4 x5 x6 x7 k h1 h2 h3 h4 h5 h6 h7 h8 h9 h10 h11 h12 ih
    intro h0
    have e8 := ws_tr h7
    rw [← h2, ← h3, ← h5, ← h4, er] at e8
    have e8 : _ = bW F γ el c i := e8
    have ey := wy_v h10
    rw [← h2, ← h3] at ey
    have hlt := h8
    obtain ⟨i1, i2⟩ := ih (by omega)
    refine ⟨fun z j q1 q2 => ?_, i2⟩
    by_cases e : j = l2_1.toInt
    · rw [e]
      show wv (fI (F (el (γ 14 c) i)) 2).toInt (fI (F (el (γ 14 c) i)) 3).toInt l2_1.toInt ≠ _
      rw [← ey]
      exact h11
    · exact i1 z j (by omega) q2
  · intro l2_1 x1 x2 x3 x4 x5 x6 h1 h2 h3 h4 h5 h6 h7 h8 h9 h10 h11
    intro h0
    have e8 := ws_tr h7
    rw [← h2, ← h3, ← h5, ← h4, er] at e8
    have e8 : _ = bW F γ el c i := e8
    have ey := wy_v h10
    rw [← h2, ← h3] at ey
    have hlt := h8
    exact ⟨fun z => absurd z (by decide), fun _ => ⟨l2_1.toInt, h0, by omega, ey.symm.trans h11⟩⟩
theorem lea_tr {r : Int32} (hT : RS D I P F γ el) (hB : γ 0 (el (γ 14 c) i) = 2) (hq : rfW γ el F c Q) (hO : qOk Q) (hi : i < Q.1) (h0 : 0 ≤ a1.toInt) (h : tr_RModel_leads D I γ el F (el (γ 14 c) i) a1 r) : (r.toInt = 0 ∧ ¬ Ed Q i a1.toInt.toNat) ∨ (r.toInt = 1 ∧ Ed Q i a1.toInt.toNat) := by
  refine h (fun r => (r.toInt = 0 ∧ ¬ Ed Q i a1.toInt.toNat) ∨ (r.toInt = 1 ∧ Ed Q i a1.toInt.toNat)) ?_ ?_
  · intro h1
    have z := (lea2 hT hB h1 (by decide)).1 rfl
    refine Or.inl ⟨by decide, fun w => ?_⟩
    obtain ⟨j, u1, u2, u3⟩ := (wy_ed hq hO hi _).mpr w
    have yb := wy_b hT hB j
    exact z j (by rw [show Int32.toInt 0 = 0 from by decide]; exact u1) u2 (by omega)
  · intro h1
    obtain ⟨j, u1, u2, u3⟩ := (lea2 hT hB h1 (by decide)).2 rfl
    exact Or.inr ⟨by decide, (wy_ed hq hO hi _).mp ⟨j, u1, u2, by rw [u3]⟩⟩
end DPT
end
section
section DPQ
variable {D : va_G} {I : FieldType → ClassId} {P : List Nat} {F F1 : Nat → va_E} {γ el : Nat → Nat → Nat} {q0 c : Nat} {Q : gPg}
theorem d75 {c1 s2 e1 : Int64} {l4 s1 : Int32} {kx : Nat} (hT : RS D I P F γ el) (hc9 : γ 0 c = 9) (hB2 : ∀ i, i < Q.1 → γ 0 (el (γ 14 c) i) = 2) (hq : rfW γ el F c Q) (hO : qOk Q) (h40 : Q.1 ≤ 40) (hl4 : 0 ≤ l4.toInt) (h : tl_RModel_findDepth2_75 D I γ el F c c1 l4 s1 s2 kx e1) : 0 ≤ s1.toInt → ∀ b, b < 64 → (bt e1 b = true ↔ bt s2 b = true ∨ (s1.toInt ≤ (b : Int) ∧ b < Q.1 ∧ bt c1 b = true ∧ Ed Q b l4.toInt.toNat)) := by
  refine h (fun s1 s2 _ e1 => 0 ≤ s1.toInt → ∀ b, b < 64 → (bt e1 b = true ↔ bt s2 b = true ∨ (s1.toInt ≤ (b : Int) ∧ b < Q.1 ∧ bt c1 b = true ∧ Ed Q b l4.toInt.toNat))) ?_ ?_ ?_ ?_
  · intro l9_2 l7_2 x1 h1 h2 h3
    intro h0
    have ex : x1.toInt = (Q.1 : Int) := by rw [← h2]; exact hq.1
    exact fun b hb => ⟨Or.inl, fun z => z.elim id (fun w => absurd w.2.1 (by have := h3; omega))⟩
  · intro l9_2 l7_2 x1 x2 x3 x4 k e1 h1 h2 h3 h4 h5 h6 h7 ih
    intro h0
    have ex : x1.toInt = (Q.1 : Int) := by rw [← h2]; exact hq.1
    have hlt := h3
    have hi : l9_2.toInt.toNat < Q.1 := by omega
    have i1 := ih (by omega)
    have hb0 := (bt_sh h4 h5 h0 (by omega)).1 h6
    intro b hb
    rw [i1 b hb]
    by_cases e : (b : Int) = l9_2.toInt
    · have e2 : b = l9_2.toInt.toNat := by omega
      rw [e2]
      refine or_congr_right ⟨fun z => absurd z.1 (by omega), fun z => ?_⟩
      rw [hb0] at z
      exact absurd z.2.2.1 (by decide)
    · constructor
      · rintro (z | z)
        · exact Or.inl z
        · exact Or.inr ⟨by omega, z.2⟩
      · rintro (z | z)
        · exact Or.inl z
        · exact Or.inr ⟨by omega, z.2⟩
  · intro l9_2 l7_2 x1 x2 x3 x4 x5 x6 x7 x8 k e1 h1 h2 h3 h4 h5 h6 h7 h8 h9 h10 h11 h12 h13 h14 ih
    intro h0
    have ex : x1.toInt = (Q.1 : Int) := by rw [← h2]; exact hq.1
    have hlt := h3
    have hi : l9_2.toInt.toNat < Q.1 := by omega
    have i1 := ih (by omega)
    have hb1 := (bt_sh h4 h5 h0 (by omega)).2 h6
    obtain ⟨e5, -⟩ := blk_c (x4 := 0) (x5 := 0) (x6 := 0) (x7 := 0) (x8 := 0) (l := l9_2) hT hc9 hB2 hi h7 h8
    have hl := h12
    rw [e5] at hl
    have hl2 := lea_tr hT (hB2 _ hi) hq hO hi hl4 hl
    have hne : ¬ Ed Q l9_2.toInt.toNat l4.toInt.toNat := by rcases hl2 with z | z; exact z.2; exact absurd z.1 (by have := h13; omega)
    intro b hb
    rw [i1 b hb]
    by_cases e : (b : Int) = l9_2.toInt
    · have e2 : b = l9_2.toInt.toNat := by omega
      rw [e2]
      exact or_congr_right ⟨fun z => absurd z.1 (by omega), fun z => absurd z.2.2.2 hne⟩
    · constructor
      · rintro (z | z)
        · exact Or.inl z
        · exact Or.inr ⟨by omega, z.2⟩
      · rintro (z | z)
        · exact Or.inl z
        · exact Or.inr ⟨by omega, z.2⟩
  · intro l9_2 l7_2 x1 x2 x3 x4 x5 x6 x7 x8 x9 x10 k e1 h1 h2 h3 h4 h5 h6 h7 h8 h9 h10 h11 h12 h13 h14 h15 h16 ih
    intro h0
    have ex : x1.toInt = (Q.1 : Int) := by rw [← h2]; exact hq.1
    have hlt := h3
    have hi : l9_2.toInt.toNat < Q.1 := by omega
    have i1 := ih (by omega)
    have hb1 := (bt_sh h4 h5 h0 (by omega)).2 h6
    obtain ⟨e5, -⟩ := blk_c (x4 := 0) (x5 := 0) (x6 := 0) (x7 := 0) (x8 := 0) (l := l9_2) hT hc9 hB2 hi h7 h8
    have hl := h12
    rw [e5] at hl
    have hl2 := lea_tr hT (hB2 _ hi) hq hO hi hl4 hl
    have hE : Ed Q l9_2.toInt.toNat l4.toInt.toNat := by rcases hl2 with z | z; exact absurd z.1 h13; exact z.2
    have hor : ∀ b, b < 64 → bt x9 b = (bt l7_2 b || decide (b = l9_2.toInt.toNat)) := fun b hb => bt_or h14 h15 h0 (by omega) hb
    intro b hb
    rw [i1 b hb, hor b hb, Bool.or_eq_true, decide_eq_true_eq]
    by_cases e : (b : Int) = l9_2.toInt
    · have e2 : b = l9_2.toInt.toNat := by omega
      rw [e2]
      exact ⟨fun _ => Or.inr ⟨by omega, hi, hb1, hE⟩, fun _ => Or.inl (Or.inr rfl)⟩
    · constructor
      · rintro (z | z)
        · exact z.elim Or.inl (fun w => absurd w (by omega))
        · exact Or.inr ⟨by omega, z.2⟩
      · rintro (z | z)
        · exact Or.inl (Or.inl z)
        · exact Or.inr ⟨by omega, z.2⟩
theorem d199 {l7 : Int64} {l10 l4 s1 s2 e1 : Int32} {kx : Nat} (hT : RS D I P F γ el) (hc9 : γ 0 c = 9) (hB2 : ∀ i, i < Q.1 → γ 0 (el (γ 14 c) i) = 2) (hq : rfW γ el F c Q) (hO : qOk Q) (h40 : Q.1 ≤ 40) (hi : l10.toInt.toNat < Q.1) (h : tl_RModel_findDepth2_199 D I γ el F c l10 l4 l7 s1 s2 kx e1) : 0 ≤ s1.toInt → (e1.toInt ≠ 0 ↔ s2.toInt ≠ 0 ∨ ∃ j : Int, s1.toInt ≤ j ∧ j < bW F γ el c l10.toInt.toNat ∧ wv (bF F γ el c l10.toInt.toNat) (bS F γ el c l10.toInt.toNat) j ≠ l4.toInt ∧ bt l7 (wv (bF F γ el c l10.toInt.toNat) (bS F γ el c l10.toInt.toNat) j).toNat = true) := by
  refine h (fun s1 s2 _ e1 => 0 ≤ s1.toInt → (e1.toInt ≠ 0 ↔ s2.toInt ≠ 0 ∨ ∃ j : Int, s1.toInt ≤ j ∧ j < bW F γ el c l10.toInt.toNat ∧ wv (bF F γ el c l10.toInt.toNat) (bS F γ el c l10.toInt.toNat) j ≠ l4.toInt ∧ bt l7 (wv (bF F γ el c l10.toInt.toNat) (bS F γ el c l10.toInt.toNat) j).toNat = true)) ?_ ?_ ?_ ?_ ?_
  · intro l12_4 l11_4 x1 x2 x3 x4 x5 x6 x7 x8 h1 h2 h3 h4 h5 h6 h7 h8 h9 h10 h11 h12 h13
    intro h0
    obtain ⟨e2, eB⟩ := blk_c (l := l10) hT hc9 hB2 hi h3 h4
    obtain ⟨e4, e5, e8⟩ := eB h7 h8 h9 h10 h12
    exact ⟨Or.inl, fun z => z.elim id (fun ⟨j, w1, w2, _⟩ => absurd w2 (by have := h13; omega))⟩
  · intro l12_4 l11_4 x1 x2 x3 x4 x5 x6 x7 x8 x9 k e1 h1 h2 h3 h4 h5 h6 h7 h8 h9 h10 h11 h12 h13 h14 h15 ih
    intro h0
    obtain ⟨e2, eB⟩ := blk_c (l := l10) hT hc9 hB2 hi h3 h4
    obtain ⟨e4, e5, e8⟩ := eB h7 h8 h9 h10 h12
    have hlt := h13
    have i1 := ih (by omega)
    have z := i1.mpr (Or.inl (by decide))
    exact ⟨fun _ => Or.inl h14, fun _ => z⟩
  · intro l12_4 l11_4 x1 x2 x3 x4 x5 x6 x7 x8 x9 x10 k e1 h1 h2 h3 h4 h5 h6 h7 h8 h9 h10 h11 h12 h13 h14 h15 h16 h17 h18 h19 ih
    intro h0
    obtain ⟨e2, eB⟩ := blk_c (l := l10) hT hc9 hB2 hi h3 h4
    obtain ⟨e4, e5, e8⟩ := eB h7 h8 h9 h10 h12
    have hlt := h13
    have i1 := ih (by omega)
    have hl0 := h14
    have ey := wy_v h17
    rw [e4, e5] at ey
    have yb := wy_b hT (hB2 _ hi) l12_4.toInt
    rw [← ey] at yb
    rw [i1]
    constructor
    · rintro (z | ⟨j, w1, w2⟩)
      · exact absurd z (by decide)
      · exact Or.inr ⟨j, by omega, w2⟩
    · rintro (z | ⟨j, w1, w2⟩)
      · exact absurd hl0 z
      · refine Or.inr ⟨j, ?_, w2⟩
        refine Classical.byContradiction fun hn => ?_
        have e : j = l12_4.toInt := by omega
        rw [e, ← ey] at w2
        exact w2.2.1 h18
  · intro l12_4 l11_4 x1 x2 x3 x4 x5 x6 x7 x8 x9 x10 x11 x12 x13 k e1 h1 h2 h3 h4 h5 h6 h7 h8 h9 h10 h11 h12 h13 h14 h15 h16 h17 h18 h19 h20 h21 h22 h23 h24 h25 ih
    intro h0
    obtain ⟨e2, eB⟩ := blk_c (l := l10) hT hc9 hB2 hi h3 h4
    obtain ⟨e4, e5, e8⟩ := eB h7 h8 h9 h10 h12
    have hlt := h13
    have i1 := ih (by omega)
    have hl0 := h14
    have ey := wy_v h17
    rw [e4, e5] at ey
    have yb := wy_b hT (hB2 _ hi) l12_4.toInt
    rw [← ey] at yb
    have ey2 := wy_v h21
    rw [e4, e5, ← ey] at ey2
    have hb := (bt_sh h22 h23 (by omega) (by omega)).1 h24
    rw [i1]
    constructor
    · rintro (z | ⟨j, w1, w2⟩)
      · exact absurd z (by decide)
      · exact Or.inr ⟨j, by omega, w2⟩
    · rintro (z | ⟨j, w1, w2⟩)
      · exact absurd hl0 z
      · refine Or.inr ⟨j, ?_, w2⟩
        refine Classical.byContradiction fun hn => ?_
        have e : j = l12_4.toInt := by omega
        rw [e, ← ey] at w2
        rw [← ey2, hb] at w2
        exact absurd w2.2.2 (by decide)
  · intro l12_4 l11_4 x1 x2 x3 x4 x5 x6 x7 x8 x9 x10 x11 x12 x13 k e1 h1 h2 h3 h4 h5 h6 h7 h8 h9 h10 h11 h12 h13 h14 h15 h16 h17 h18 h19 h20 h21 h22 h23 h24 h25 ih
    intro h0
    obtain ⟨e2, eB⟩ := blk_c (l := l10) hT hc9 hB2 hi h3 h4
    obtain ⟨e4, e5, e8⟩ := eB h7 h8 h9 h10 h12
    have hlt := h13
    have i1 := ih (by omega)
    have hl0 := h14
    have ey := wy_v h17
    rw [e4, e5] at ey
    have yb := wy_b hT (hB2 _ hi) l12_4.toInt
    rw [← ey] at yb
    have ey2 := wy_v h21
    rw [e4, e5, ← ey] at ey2
    have hb := (bt_sh h22 h23 (by omega) (by omega)).2 h24
    have z := i1.mpr (Or.inl (by decide))
    refine ⟨fun _ => Or.inr ⟨l12_4.toInt, Int.le_refl _, by omega, ?_, ?_⟩, fun _ => z⟩
    · rw [← ey]; exact h18
    · rw [← ey, ← ey2]; exact hb
abbrev WkB (Q : gPg) (h b : Nat) : Prop := Wk (fun a b => Ed Q b a) (clo Q h) (fun b => b = h ∨ ¬ rAll Q b) b
def sdB (Q : gPg) (h : Nat) (x : Int64) : Prop := (∀ b, b < 64 → bt x b = true → b = h ∨ WkB Q h b) ∧ bt x h = true
theorem d158 {l72 c1 s3 e2 : Int64} {l4 s1 s2 e1 : Int32} {kx : Nat} (hT : RS D I P F γ el) (hc9 : γ 0 c = 9) (hB2 : ∀ i, i < Q.1 → γ 0 (el (γ 14 c) i) = 2) (hq : rfW γ el F c Q) (hO : qOk Q) (h40 : Q.1 ≤ 40) (hl4 : 0 ≤ l4.toInt ∧ l4.toInt < 40) (hc1 : ∀ b, b < 64 → (bt c1 b = true ↔ rAll Q b)) (h : tl_RModel_findDepth2_158 D I γ el l72 F c c1 l4 s1 s2 s3 kx e1 e2) : 0 ≤ s1.toInt → sdB Q l4.toInt.toNat s3 → sdB Q l4.toInt.toNat e2 ∧ (∀ b, b < 64 → bt s3 b = true → bt e2 b = true) ∧ (e1.toInt = 0 → s2.toInt = 0 ∧ e2 = s3 ∧ ∀ b y : Nat, s1.toInt ≤ (b : Int) → b < Q.1 → rAll Q b → Ed Q b y → y ≠ l4.toInt.toNat → bt s3 y = true → bt s3 b = true) := by
  refine h (fun s1 s2 s3 _ e1 e2 => 0 ≤ s1.toInt → sdB Q l4.toInt.toNat s3 → sdB Q l4.toInt.toNat e2 ∧ (∀ b, b < 64 → bt s3 b = true → bt e2 b = true) ∧ (e1.toInt = 0 → s2.toInt = 0 ∧ e2 = s3 ∧ ∀ b y : Nat, s1.toInt ≤ (b : Int) → b < Q.1 → rAll Q b → Ed Q b y → y ≠ l4.toInt.toNat → bt s3 y = true → bt s3 b = true)) ?_ ?_ ?_ ?_ ?_
  · intro l10_3 l9_3 l7_3 x1 h1 h2 h3 h4 h5 h6
    intro h0 hS
    have ex : x1.toInt = (Q.1 : Int) := by rw [← h5]; exact hq.1
    exact ⟨hS, fun _ _ z => z, fun z => ⟨z, rfl, fun b y h1 h2 => absurd h2 (by have := h6; omega)⟩⟩
  · intro l10_3 l9_3 l7_3 x1 x2 x3 x4 k e1 e2 h1 h2 h3 h4 h5 h6 h7 h8 h9 h10 ih
    intro h0 hS
    have ex : x1.toInt = (Q.1 : Int) := by rw [← h5]; exact hq.1
    have hlt := h6
    have hi : l10_3.toInt.toNat < Q.1 := by omega
    have hb := (bt_sh h7 h8 h0 (by omega)).2 h9
    obtain ⟨i1, i2, i3⟩ := ih (by omega) hS
    refine ⟨i1, i2, fun z => ?_⟩
    obtain ⟨j1, j2, j3⟩ := i3 z
    refine ⟨j1, j2, fun b y q1 q2 q3 q4 q5 q6 => ?_⟩
    by_cases e : (b : Int) = l10_3.toInt
    · have e2 : b = l10_3.toInt.toNat := by omega
      rw [e2]; exact hb
    · exact j3 b y (by omega) q2 q3 q4 q5 q6
  · intro l10_3 l9_3 l7_3 x1 x2 x3 x4 x5 x6 x7 x8 x9 k e1 e2 h1 h2 h3 h4 h5 h6 h7 h8 h9 h10 h11 h12 h13 h14 h15 h16 h17 ih
    intro h0 hS
    have ex : x1.toInt = (Q.1 : Int) := by rw [← h5]; exact hq.1
    have hlt := h6
    have hi : l10_3.toInt.toNat < Q.1 := by omega
    have hb := (bt_sh h7 h8 h0 (by omega)).1 h9
    have hc := (bt_sh h10 h11 h0 (by omega)).2 h12
    have w9 := d199 hT hc9 hB2 hq hO h40 hi h13 (by decide)
    have hor : ∀ b, b < 64 → bt x8 b = (bt l7_3 b || decide (b = l10_3.toInt.toNat)) := fun b hb => bt_or h15 h16 h0 (by omega) hb
    obtain ⟨j, u1, u2, u3, u4⟩ := (w9.mp h14).resolve_left (fun z => z (by decide))
    rw [show Int32.toInt 0 = 0 from by decide] at u1
    have yb := wy_b hT (hB2 _ hi) j
    have hy := (wy_ed hq hO hi _).mp ⟨j, u1, u2, rfl⟩
    have hne : l10_3.toInt.toNat ≠ l4.toInt.toNat := fun e => by rw [e, hS.2] at hb; cases hb
    have hWy := (hS.1 _ (by omega) u4).resolve_left (fun e => u3 (by omega))
    obtain ⟨i1, i2, i3⟩ := ih (by omega) ⟨fun b hb z => by
      rw [hor b hb, Bool.or_eq_true, decide_eq_true_eq] at z
      rcases z with z | z
      · exact hS.1 b hb z
      · rw [z]
        exact Or.inr (Wk_s hWy hy (fun w => w.elim hne (fun w => w ((hc1 _ (by omega)).mp hc)))), by rw [hor _ (by omega), hS.2]; rfl⟩
    exact ⟨i1, fun b hb z => i2 b hb (by rw [hor b hb, z]; rfl), fun z => absurd (i3 z).1 (by decide)⟩
  · intro l10_3 l9_3 l7_3 x1 x2 x3 x4 x5 x6 x7 k e1 e2 h1 h2 h3 h4 h5 h6 h7 h8 h9 h10 h11 h12 h13 h14 h15 ih
    intro h0 hS
    have ex : x1.toInt = (Q.1 : Int) := by rw [← h5]; exact hq.1
    have hlt := h6
    have hi : l10_3.toInt.toNat < Q.1 := by omega
    have hb := (bt_sh h7 h8 h0 (by omega)).1 h9
    have hc := (bt_sh h10 h11 h0 (by omega)).2 h12
    have x60 := h14
    have w9 : ∀ j : Int, 0 ≤ j → j < bW F γ el c l10_3.toInt.toNat → wv (bF F γ el c l10_3.toInt.toNat) (bS F γ el c l10_3.toInt.toNat) j ≠ l4.toInt → bt l7_3 (wv (bF F γ el c l10_3.toInt.toNat) (bS F γ el c l10_3.toInt.toNat) j).toNat = true → False := fun j a1 a2 a3 a4 => (d199 hT hc9 hB2 hq hO h40 hi h13 (by decide)).mpr (Or.inr ⟨j, by rw [show Int32.toInt 0 = 0 from by decide]; exact a1, a2, a3, a4⟩) x60
    obtain ⟨i1, i2, i3⟩ := ih (by omega) hS
    refine ⟨i1, i2, fun z => ?_⟩
    obtain ⟨j1, j2, j3⟩ := i3 z
    refine ⟨j1, j2, fun b y q1 q2 q3 q4 q5 q6 => ?_⟩
    by_cases e : (b : Int) = l10_3.toInt
    · have e2 : b = l10_3.toInt.toNat := by omega
      rw [e2] at q4
      obtain ⟨j, u1, u2, u3⟩ := (wy_ed hq hO hi y).mpr q4
      have yb := wy_b hT (hB2 _ hi) j
      exfalso
      exact w9 j u1 u2 (fun e => q5 (by rw [← u3, e])) (by rw [u3]; exact q6)
    · exact j3 b y (by omega) q2 q3 q4 q5 q6
  · intro l10_3 l9_3 l7_3 x1 x2 x3 x4 x5 x6 k e1 e2 h1 h2 h3 h4 h5 h6 h7 h8 h9 h10 h11 h12 h13 ih
    intro h0 hS
    have ex : x1.toInt = (Q.1 : Int) := by rw [← h5]; exact hq.1
    have hlt := h6
    have hi : l10_3.toInt.toNat < Q.1 := by omega
    have hb := (bt_sh h7 h8 h0 (by omega)).1 h9
    have hc := (bt_sh h10 h11 h0 (by omega)).1 h12
    obtain ⟨i1, i2, i3⟩ := ih (by omega) hS
    refine ⟨i1, i2, fun z => ?_⟩
    obtain ⟨j1, j2, j3⟩ := i3 z
    refine ⟨j1, j2, fun b y q1 q2 q3 q4 q5 q6 => ?_⟩
    by_cases e : (b : Int) = l10_3.toInt
    · have e2 : b = l10_3.toInt.toNat := by omega
      rw [e2] at q3
      have w := (hc1 _ (by omega)).mpr q3
      rw [hc] at w
      cases w
    · exact j3 b y (by omega) q2 q3 q4 q5 q6
def clB (Q : gPg) (h : Nat) (x : Int64) : Prop := ∀ b y : Nat, b < Q.1 → rAll Q b → Ed Q b y → y ≠ h → bt x y = true → bt x b = true
theorem d147 {c1 s2 e1 : Int64} {l4 s1 : Int32} {kx : Nat} (hT : RS D I P F γ el) (hc9 : γ 0 c = 9) (hB2 : ∀ i, i < Q.1 → γ 0 (el (γ 14 c) i) = 2) (hq : rfW γ el F c Q) (hO : qOk Q) (h40 : Q.1 ≤ 40) (hl4 : 0 ≤ l4.toInt ∧ l4.toInt < 40) (hc1 : ∀ b, b < 64 → (bt c1 b = true ↔ rAll Q b)) (h : tl_RModel_findDepth2_147 D I γ el F c c1 l4 s1 s2 kx e1) : sdB Q l4.toInt.toNat s2 → (s1.toInt = 0 → clB Q l4.toInt.toNat s2) → sdB Q l4.toInt.toNat e1 ∧ (∀ b, b < 64 → bt s2 b = true → bt e1 b = true) ∧ clB Q l4.toInt.toNat e1 := by
  refine h (fun s1 s2 _ e1 => sdB Q l4.toInt.toNat s2 → (s1.toInt = 0 → clB Q l4.toInt.toNat s2) → sdB Q l4.toInt.toNat e1 ∧ (∀ b, b < 64 → bt s2 b = true → bt e1 b = true) ∧ clB Q l4.toInt.toNat e1) ?_ ?_
  · intro l9_2 l7_2 h1 h2 h3
    intro hS hC
    exact ⟨hS, fun _ _ z => z, hC h3⟩
  · intro l9_2 l7_2 x1 x2 k e1 h1 h2 h3 h4 ih
    intro hS hC
    obtain ⟨y1, y2, y3⟩ := d158 hT hc9 hB2 hq hO h40 hl4 hc1 h4 (by decide) hS
    obtain ⟨i1, i2, i3⟩ := ih y1 (fun z => by
      obtain ⟨w1, w2, w3⟩ := y3 z
      rw [w2]
      exact fun b y hb q1 q2 q3 q4 => w3 b y (by rw [show Int32.toInt 0 = 0 from by decide]; omega) hb q1 q2 q3 q4)
    exact ⟨i1, fun b hb z => i2 b hb (y2 b hb z), i3⟩
def dv (γ : Nat → Nat → Nat) (F : Nat → va_E) (b : Nat) : Int := (cB (F (γ 9 4)) b).toInt
def dbn (x : Int64) (b : Nat) : Int := if bt x b = true then 1 else 0
theorem d300 {l7 : Int64} {s1 e1 : Nat → va_E} {s2 : Int32} {kx : Nat} (h40 : Q.1 ≤ 40) (hF : ∀ F1, rStr γ [] F F1 → F1 c = F c) (hq : rfW γ el F c Q) (h : tl_RModel_findDepth2_300 D I γ el P F q0 c l7 s1 s2 kx e1) : 0 ≤ s2.toInt → (∀ b : Nat, b < Q.1 → 0 ≤ dv γ s1 b ∧ dv γ s1 b ≤ (if s2.toInt ≤ (b : Int) then 1000 else 1001)) → (∀ b : Nat, b < Q.1 → dv γ e1 b = dv γ s1 b + (if s2.toInt ≤ (b : Int) then dbn l7 b else 0)) ∧ ∀ b, b ≠ γ 9 4 → e1 b = s1 b := by
  refine h (fun s1 s2 _ e1 => 0 ≤ s2.toInt → (∀ b : Nat, b < Q.1 → 0 ≤ dv γ s1 b ∧ dv γ s1 b ≤ (if s2.toInt ≤ (b : Int) then 1000 else 1001)) → (∀ b : Nat, b < Q.1 → dv γ e1 b = dv γ s1 b + (if s2.toInt ≤ (b : Int) then dbn l7 b else 0)) ∧ ∀ b, b ≠ γ 9 4 → e1 b = s1 b) ?_ ?_
  · intro F_2 l10_2 x1 h1 h2 h3 h4 h5 h6 h7
    intro h0 hv
    have ex : x1.toInt = (Q.1 : Int) := by rw [← h6, hF _ h3]; exact hq.1
    exact ⟨fun b hb => by rw [if_neg (by have := h7; omega)]; omega, fun _ _ => rfl⟩
  · intro F_2 l10_2 x1 x2 x3 x4 x5 x6 x7 x8 x9 x10 k e1 h1 h2 h3 h4 h5 h6 h7 h8 h9 h10 h11 h12 h13 h14 h15 h16 h17 h18 ih
    intro h0 hv
    have ex : x1.toInt = (Q.1 : Int) := by rw [← h6, hF _ h3]; exact hq.1
    have hlt := h7
    have hz : (l10_2.toNatClampNeg : Int) = l10_2.toInt := g_nn h0
    have p1 := cB_of h9
    have p2 := cB_of h17
    have hbt := bt_sh h11 h12 h0 (by omega)
    have h6 : x6.toInt = dbn l7 l10_2.toInt.toNat := by
      unfold dbn
      by_cases e : x5 = 0
      · rw [h13, e, if_neg (by rw [hbt.1 e]; decide)]
        decide
      · rw [h13, bt_one h12 e, if_pos (hbt.2 e)]
        decide
    have hd6 : 0 ≤ dbn l7 l10_2.toInt.toNat ∧ dbn l7 l10_2.toInt.toNat ≤ 1 := by unfold dbn; split <;> decide
    have h3 : x3.toInt = dv γ F_2 l10_2.toInt.toNat := by unfold dv; rw [p1, h10, show l10_2.toNatClampNeg = l10_2.toInt.toNat from rfl]
    have hv0 := hv l10_2.toInt.toNat (by omega)
    rw [if_pos (by omega)] at hv0
    have h7 : x7.toInt = x3.toInt + x6.toInt := by
      rw [h14, Int32.toInt_add]
      exact Int.bmod_eq_of_le (by omega) (by omega)
    have hst : ∀ b : Nat, b < Q.1 → dv γ x9 b = dv γ F_2 b + (if b = l10_2.toInt.toNat then dbn l7 b else 0) := fun b hb => by
      by_cases e : b = l10_2.toInt.toNat
      · rw [if_pos e, e]
        show (cB (x9 (γ 9 4)) l10_2.toInt.toNat).toInt = _
        rw [p2, h15, show l10_2.toNatClampNeg = l10_2.toInt.toNat from rfl]
        unfold upd
        rw [if_pos rfl, h7, h6, h3]
      · rw [if_neg e]
        show (cB (x9 (γ 9 4)) b).toInt = (cB (F_2 (γ 9 4)) b).toInt + 0
        rw [p2, p1, h15]
        unfold upd
        rw [if_neg (by omega)]
        omega
    obtain ⟨i1, i2⟩ := ih (by omega) (fun b hb => by
      rw [hst b hb]
      have := hv b hb
      by_cases e : b = l10_2.toInt.toNat
      · rw [if_pos e, e]
        rw [e] at this
        rw [if_pos (by omega)] at this
        rw [if_neg (by omega)]
        omega
      · rw [if_neg e]
        by_cases e2 : x10.toInt ≤ (b : Int)
        · rw [if_pos e2]; rw [if_pos (by omega)] at this; omega
        · rw [if_neg e2]; rw [if_neg (by omega)] at this; omega)
    refine ⟨fun b hb => ?_, fun b hb => (i2 b hb).trans (h16 b hb)⟩
    rw [i1 b hb, hst b hb]
    by_cases e : b = l10_2.toInt.toNat
    · rw [if_pos e, if_neg (by omega), if_pos (by omega)]
      omega
    · rw [if_neg e]
      by_cases e2 : x10.toInt ≤ (b : Int)
      · rw [if_pos e2, if_pos (by omega)]; omega
      · rw [if_neg e2, if_neg (by omega)]; omega
theorem cnt_s {T : Nat → Prop} {n : Nat} : ((cntP T (n + 1) : Nat) : Int) = (cntP T n : Int) + @ite Int (T n) (Classical.propDecidable (T n)) 1 0 := by
  show ((cntP T n + @ite Nat (T n) (Classical.propDecidable (T n)) 1 0 : Nat) : Int) = _
  by_cases h : T n
  · rw [if_pos h, if_pos h]; rfl
  · rw [if_neg h, if_neg h]; rfl
theorem d32 {c1 : Int64} {s1 e1 : Nat → va_E} {s2 : Int32} {kx : Nat} (hT : RS D I P F γ el) (hm : γ 0 q0 = 10) (hc9 : γ 0 c = 9) (hB2 : ∀ i, i < Q.1 → γ 0 (el (γ 14 c) i) = 2) (hq : rfW γ el F c Q) (hO : qOk Q) (h40 : Q.1 ≤ 40) (hP0 : 0 < Q.1) (hc1 : ∀ b, b < 64 → (bt c1 b = true ↔ rAll Q b)) (h : tl_RModel_findDepth2_32 D I γ el P F q0 c c1 s1 s2 kx e1) : ∀ m : Nat, s2.toInt = (m : Int) → m ≤ Q.1 → (∀ b, b < Q.1 → dv γ s1 b = (cntP (fun h => InL Q h b) m : Int)) → (∀ b, b < Q.1 → dv γ e1 b = (cntP (fun h => InL Q h b) Q.1 : Int)) ∧ ∀ b, b ≠ γ 9 4 → e1 b = s1 b := by
  refine h (fun s1 s2 _ e1 => ∀ m : Nat, s2.toInt = (m : Int) → m ≤ Q.1 → (∀ b, b < Q.1 → dv γ s1 b = (cntP (fun h => InL Q h b) m : Int)) → (∀ b, b < Q.1 → dv γ e1 b = (cntP (fun h => InL Q h b) Q.1 : Int)) ∧ ∀ b, b ≠ γ 9 4 → e1 b = s1 b) ?_ ?_ ?_ ?_
  · intro F_1 l4_1 x1 h1 h2 h3 h4 h5 h6 h7
    intro m em hm2 hv
    have hs := h3
    have ex : x1.toInt = (Q.1 : Int) := by rw [← h6, rs0 hs hc9 (by decide)]; exact hq.1
    have e : m = Q.1 := by have := h7; omega
    rw [e] at hv
    exact ⟨hv, fun _ _ => rfl⟩
  · intro F_1 l4_1 x1 x2 x3 x4 x5 x6 x7 x8 x9 x10 x11 x12 k e1 h1 h2 h3 h4 h5 h6 h7 h8 h9 h10 h11 h12 h13 h14 h15 h16 h17 h18 h19 h20 ih
    intro m em hm2 hv
    have hs := h3
    have ex : x1.toInt = (Q.1 : Int) := by rw [← h6, rs0 hs hc9 (by decide)]; exact hq.1
    have hlt := h7
    have h0 : 0 ≤ l4_1.toInt := by omega
    have e4 : l4_1.toInt.toNat = m := by omega
    have hlm : m < Q.1 := by omega
    have hb := (bt_sh h8 h9 h0 (by omega)).2 h10
    have hT1 := h2
    have hq1 := rfW_rs hT hq hc9 hB2 hs
    have hre := re_tr hT1 hc9 hB2 hq1 hO h40 hP0 h11
    have h75 := d75 hT1 hc9 hB2 hq1 hO h40 h0 h14 (by decide)
    have hcl : ∀ b, b < 64 → (bt x7 b = true ↔ clo Q m b) := fun b hb => by
      rw [h75 b hb, bt_z, bt_andn h12 h13 hb, Bool.and_eq_true, Bool.not_eq_true', hc1 b hb, show Int32.toInt 0 = 0 from by decide, e4]
      have e5 : (bt x4 b = false ↔ ¬ Wk (Ed Q) (fun b => b = 0) (fun b => b = m) b) := by
        rw [← Bool.not_eq_true, hre b hb]
        refine not_congr ⟨fun z => Wk_c (fun _ _ z => z) (fun _ z => z) (fun b z => by omega) z, fun z => Wk_c (fun _ _ z => z) (fun _ z => z) (fun b z => by omega) z⟩
      rw [e5]
      constructor
      · rintro (z | ⟨_, z1, z2, z3⟩)
        · cases z
        · exact ⟨z3, z2.1, z2.2⟩
      · rintro ⟨z1, z2, z3⟩
        exact Or.inr ⟨by omega, z1.1, ⟨z2, z3⟩, z1⟩
    have hor : ∀ b, b < 64 → bt x9 b = (bt x7 b || decide (b = l4_1.toInt.toNat)) := fun b hb => bt_or h16 h17 h0 (by omega) hb
    rw [e4] at hor
    have hrm : rAll Q m := (hc1 m (by omega)).mp (by rw [← e4]; exact hb)
    have hS0 : sdB Q l4_1.toInt.toNat x9 := by
      rw [e4]
      refine ⟨fun b hb z => ?_, by rw [hor m (by omega), decide_eq_true rfl, Bool.or_true]⟩
      rw [hor b hb, Bool.or_eq_true, decide_eq_true_eq] at z
      by_cases e : b = m
      · exact Or.inl e
      · have w := (hcl b hb).mp (z.resolve_right e)
        exact Or.inr (Wk_i w (fun q => q.elim e (fun q => q w.2.1)))
    obtain ⟨y1, y2, y3⟩ := d147 hT1 hc9 hB2 hq1 hO h40 ⟨h0, by omega⟩ hc1 h18 hS0 (fun z => absurd z (by decide))
    rw [e4] at y1 y3
    have hne : ∃ d, clo Q m d := by
      refine Classical.byContradiction fun hn => h15 ?_
      apply Int64.toBitVec_inj.mp
      apply BitVec.eq_of_getLsbD_eq
      intro j hj
      have hz : (0 : Int64).toBitVec.getLsbD j = false := by show (0#64).getLsbD j = false; exact BitVec.getLsbD_zero
      rw [hz]
      refine Bool.eq_false_iff.mpr (fun z => hn ⟨j, (hcl j hj).mp z⟩)
    have hIn : ∀ b, b < Q.1 → (bt x10 b = true ↔ InL Q m b) := fun b hb => by
      constructor
      · intro z
        exact ⟨hne, y1.1 b (by omega) z⟩
      · rintro ⟨-, z | z⟩
        · rw [z]; exact y1.2
        · refine (z (fun b => b < Q.1 ∧ b ≠ m ∧ bt x10 b = true) (fun b w1 w2 => ⟨w1.1.1, fun e => w2 (Or.inl e), y2 b (by have := w1.1.1; omega) (by rw [hor b (by have := w1.1.1; omega), (hcl b (by have := w1.1.1; omega)).mpr w1]; rfl)⟩) (fun a b w1 w2 w3 => ?_)).2.2
          refine ⟨w2.1, fun e => w3 (Or.inl e), y3 b a w2.1 (Classical.byContradiction fun e => w3 (Or.inr e)) w2 w1.2.1 w1.2.2⟩
    obtain ⟨v1, v2⟩ := d300 h40 (fun F1 hF => rs0 hF hc9 (by decide)) hq h19 (by decide) (fun b hb => by
      rw [hv b hb, if_pos (by rw [show Int32.toInt 0 = 0 from by decide]; omega)]
      have := cntP_le (T := fun h => InL Q h b) m
      omega)
    obtain ⟨i1, i2⟩ := ih (m + 1) (by omega) (by omega) (fun b hb => by
      rw [v1 b hb, hv b hb, cnt_s, if_pos (by rw [show Int32.toInt 0 = 0 from by decide]; omega)]
      unfold dbn
      by_cases e : InL Q m b
      · rw [if_pos ((hIn b hb).mpr e), if_pos e]
      · rw [if_neg (fun z => e ((hIn b hb).mp z)), if_neg e])
    exact ⟨i1, fun b hb => (i2 b hb).trans (v2 b hb)⟩
  · intro F_1 l4_1 x1 x2 x3 x4 x5 x6 x7 x8 k e1 h1 h2 h3 h4 h5 h6 h7 h8 h9 h10 h11 h12 h13 h14 h15 h16 ih
    intro m em hm2 hv
    have hs := h3
    have ex : x1.toInt = (Q.1 : Int) := by rw [← h6, rs0 hs hc9 (by decide)]; exact hq.1
    have hlt := h7
    have h0 : 0 ≤ l4_1.toInt := by omega
    have e4 : l4_1.toInt.toNat = m := by omega
    have hlm : m < Q.1 := by omega
    have hb := (bt_sh h8 h9 h0 (by omega)).2 h10
    have hT1 := h2
    have hq1 := rfW_rs hT hq hc9 hB2 hs
    have hre := re_tr hT1 hc9 hB2 hq1 hO h40 hP0 h11
    have h75 := d75 hT1 hc9 hB2 hq1 hO h40 h0 h14 (by decide)
    have hcl : ∀ b, b < 64 → (bt x7 b = true ↔ clo Q m b) := fun b hb => by
      rw [h75 b hb, bt_z, bt_andn h12 h13 hb, Bool.and_eq_true, Bool.not_eq_true', hc1 b hb, show Int32.toInt 0 = 0 from by decide, e4]
      have e5 : (bt x4 b = false ↔ ¬ Wk (Ed Q) (fun b => b = 0) (fun b => b = m) b) := by
        rw [← Bool.not_eq_true, hre b hb]
        refine not_congr ⟨fun z => Wk_c (fun _ _ z => z) (fun _ z => z) (fun b z => by omega) z, fun z => Wk_c (fun _ _ z => z) (fun _ z => z) (fun b z => by omega) z⟩
      rw [e5]
      constructor
      · rintro (z | ⟨_, z1, z2, z3⟩)
        · cases z
        · exact ⟨z3, z2.1, z2.2⟩
      · rintro ⟨z1, z2, z3⟩
        exact Or.inr ⟨by omega, z1.1, ⟨z2, z3⟩, z1⟩
    have hno : ∀ b, ¬ InL Q m b := fun b z => by
      obtain ⟨⟨d, w1⟩, -⟩ := z
      have hd := w1.1.1
      have w := (hcl d (by omega)).mpr w1
      rw [h15, bt_z] at w
      cases w
    obtain ⟨i1, i2⟩ := ih (m + 1) (by omega) (by omega) (fun b hb => by
      rw [cnt_s, if_neg (hno b), hv b hb]
      omega)
    exact ⟨i1, i2⟩
  · intro F_1 l4_1 x1 x2 x3 x4 k e1 h1 h2 h3 h4 h5 h6 h7 h8 h9 h10 h11 ih
    intro m em hm2 hv
    have hs := h3
    have ex : x1.toInt = (Q.1 : Int) := by rw [← h6, rs0 hs hc9 (by decide)]; exact hq.1
    have hlt := h7
    have h0 : 0 ≤ l4_1.toInt := by omega
    have e4 : l4_1.toInt.toNat = m := by omega
    have hlm : m < Q.1 := by omega
    have hb := (bt_sh h8 h9 h0 (by omega)).1 h10
    rw [e4] at hb
    have hno : ∀ b, ¬ InL Q m b := fun b z => by
      obtain ⟨⟨d, w1, w2, w3⟩, -⟩ := z
      have w : rAll Q m := Wk_s w2 w1 (fun z => z)
      have w4 := (hc1 m (by omega)).mpr w
      rw [hb] at w4
      cases w4
    obtain ⟨i1, i2⟩ := ih (m + 1) (by omega) (by omega) (fun b hb => by
      rw [cnt_s, if_neg (hno b), hv b hb]
      omega)
    exact ⟨i1, i2⟩
theorem d2 {s1 e1 : Nat → va_E} {s2 : Int32} {kx : Nat} (hc9 : γ 0 c = 9) (hq : rfW γ el F c Q) (h : tl_RModel_findDepth2_2 D I γ el P F q0 c s1 s2 kx e1) : 0 ≤ s2.toInt → (∀ b : Nat, (b : Int) < s2.toInt → b < Q.1 → dv γ s1 b = 0) → (∀ b, b < Q.1 → dv γ e1 b = 0) ∧ (∀ b, b ≠ γ 9 4 → e1 b = s1 b) ∧ RS D I P e1 γ el := by
  refine h (fun s1 s2 _ e1 => 0 ≤ s2.toInt → (∀ b : Nat, (b : Int) < s2.toInt → b < Q.1 → dv γ s1 b = 0) → (∀ b, b < Q.1 → dv γ e1 b = 0) ∧ (∀ b, b ≠ γ 9 4 → e1 b = s1 b) ∧ RS D I P e1 γ el) ?_ ?_
  · intro F_1 l2_1 x1 h1 h2 h3 h4 h5 h6 h7
    intro h0 hv
    have ex : x1.toInt = (Q.1 : Int) := by rw [← h6, rs0 h3 hc9 (by decide)]; exact hq.1
    exact ⟨fun b hb => hv b (by have := h7; omega) hb, fun _ _ => rfl, h2⟩
  · intro F_1 l2_1 x1 x2 x3 x4 x5 k e1 h1 h2 h3 h4 h5 h6 h7 h8 h9 h10 h11 h12 h13 ih
    intro h0 hv
    have p1 := cB_of h9
    have p2 := cB_of h12
    obtain ⟨i1, i2, i3⟩ := ih (by omega) (fun b hb hb2 => by
      show (cB (x4 (γ 9 4)) b).toInt = 0
      rw [p2, h10]
      unfold upd
      have hz : (l2_1.toNatClampNeg : Int) = l2_1.toInt := g_nn h0
      by_cases e : b = l2_1.toNatClampNeg
      · rw [if_pos e]; decide
      · rw [if_neg e]
        have w := hv b (by omega) hb2
        unfold dv at w
        rw [p1] at w
        exact w)
    exact ⟨i1, fun b hb => (i2 b hb).trans (h11 b hb), i3⟩
theorem d342 {s1 e1 : Nat → va_E} {s2 : Int32} {kx : Nat} (hc9 : γ 0 c = 9) (hq : rfW γ el F c Q) (h : tl_RModel_findDepth2_342 D I γ el P F q0 c s1 s2 kx e1) : 0 ≤ s2.toInt → (∀ b : Nat, b < Q.1 → dv γ e1 b = if s2.toInt ≤ (b : Int) then min 4 (dv γ s1 b) else dv γ s1 b) ∧ ∀ b, b ≠ γ 9 4 → e1 b = s1 b := by
  refine h (fun s1 s2 _ e1 => 0 ≤ s2.toInt → (∀ b : Nat, b < Q.1 → dv γ e1 b = if s2.toInt ≤ (b : Int) then min 4 (dv γ s1 b) else dv γ s1 b) ∧ ∀ b, b ≠ γ 9 4 → e1 b = s1 b) ?_ ?_
  · intro F_1 l4_1 x1 h1 h2 h3 h4 h5 h6 h7
    intro h0
    have ex : x1.toInt = (Q.1 : Int) := by rw [← h6, rs0 h3 hc9 (by decide)]; exact hq.1
    exact ⟨fun b hb => by rw [if_neg (by have := h7; omega)], fun _ _ => rfl⟩
  · intro F_1 l4_1 x1 x2 x3 x4 x5 x6 x7 k e1 h1 h2 h3 h4 h5 h6 h7 h8 h9 h10 h11 h12 h13 h14 h15 ih
    intro h0
    have p1 := cB_of h9
    have p2 := cB_of h14
    have hz : (l4_1.toNatClampNeg : Int) = l4_1.toInt := g_nn h0
    have hmn := h11
    have hst : ∀ b : Nat, dv γ x6 b = if b = l4_1.toInt.toNat then min 4 (dv γ F_1 b) else dv γ F_1 b := fun b => by
      unfold dv
      rw [p2, p1, h12]
      unfold upd
      by_cases e : b = l4_1.toInt.toNat
      · rw [if_pos (by omega), if_pos e, show b = l4_1.toNatClampNeg by omega, ← h10]
        omega
      · rw [if_neg (by omega), if_neg e]
    obtain ⟨i1, i2⟩ := ih (by omega)
    refine ⟨fun b hb => ?_, fun b hb => (i2 b hb).trans (h13 b hb)⟩
    rw [i1 b hb, hst b]
    by_cases e : b = l4_1.toInt.toNat
    · rw [if_neg (by omega), if_pos e, if_pos (by omega)]
    · rw [if_neg e]
      by_cases e2 : x7.toInt ≤ (b : Int)
      · rw [if_pos e2, if_pos (by omega)]
      · rw [if_neg e2, if_neg (by omega)]
theorem dp_tr (hT : RS D I P F γ el) (hm : γ 0 q0 = 10) (hc9 : γ 0 c = 9) (hB2 : ∀ i, i < Q.1 → γ 0 (el (γ 14 c) i) = 2) (hq : rfW γ el F c Q) (hO : qOk Q) (h40 : Q.1 ≤ 40) (hP0 : 0 < Q.1) (h : tr_RModel_findDepth2 D I γ el P F q0 c F1) : (∀ b, b < Q.1 → dv γ F1 b = (dpt Q b : Int)) ∧ ∀ b, b ≠ γ 9 4 → F1 b = F b := by
  have k94 : γ 0 (γ 9 4) = 16 := by
    obtain ⟨r28, r35, v9, v10, v11, v12, v13, v14, v23, v24, v25, v26, v27, v30, v32, v33, v34, he, hM1, hK, hM2⟩ := rk10_m (show rk_10 γ (F q0) from RS_o hT hm)
    exact hK.2.2.2.2.2.2.1
  refine h (fun F1 => (∀ b, b < Q.1 → dv γ F1 b = (dpt Q b : Int)) ∧ ∀ b, b ≠ γ 9 4 → F1 b = F b) ?_
  · intro x1 x2 x3 x4 h1 h2 h3 h4
    obtain ⟨a1, a2, a3⟩ := d2 hc9 hq h1 (by decide) (fun b hb => by rw [show Int32.toInt 0 = 0 from by decide] at hb; omega)
    have hs1 : rStr γ [] F x1 := fun a _ ha _ => a2 a (fun e => by rw [e, k94] at ha; omega)
    have hq1 := rfW_rs hT hq hc9 hB2 hs1
    have hre := re_tr a3 hc9 hB2 hq1 hO h40 hP0 h2
    have hc1 : ∀ b, b < 64 → (bt x2 b = true ↔ rAll Q b) := fun b hb => by
      rw [hre b hb]
      exact ⟨fun z => Wk_c (fun _ _ z => z) (fun _ z => z) (fun b z => z.elim) z, fun z => Wk_c (fun _ _ z => z) (fun _ z => z) (fun b z => by rw [show Int32.toInt (-1) = -1 from by decide] at z; omega) z⟩
    obtain ⟨b1, b2⟩ := d32 hT hm hc9 hB2 hq hO h40 hP0 hc1 h3 0 (by decide) (Nat.zero_le _) (fun b hb => a1 b hb)
    obtain ⟨c1, c2⟩ := d342 hc9 hq h4 (by decide)
    refine ⟨fun b hb => ?_, fun b hb => (c2 b hb).trans ((b2 b hb).trans (a2 b hb))⟩
    rw [c1 b hb, if_pos (by rw [show Int32.toInt 0 = 0 from by decide]; omega), b1 b hb]
    unfold dpt
    omega
end DPQ
end
section
/-! weights of the reference -/
def lnU (l : Nat → Int) (op t a b rA rB : Int32) : Prop := ((op.toInt ≤ 21 ∧ t.toInt = l 1 ∧ 0 ≤ l 1) ∨ (21 < op.toInt ∧ l 1 = -1)) ∧ ((op.toInt ≠ 20 ∧ op.toInt ≠ 21 ∧ op.toInt ≠ 30 ∧ rA.toInt ≠ 0 ∧ a.toInt = l 2 ∧ 0 ≤ l 2) ∨ ((op.toInt = 20 ∨ op.toInt = 21 ∨ op.toInt = 30 ∨ rA.toInt = 0) ∧ l 2 = -1)) ∧ ((0 < op.toInt ∧ op.toInt < 20 ∧ rB.toInt ≠ 0 ∧ b.toInt = l 4 ∧ 0 ≤ l 4) ∨ ((op.toInt ≤ 0 ∨ 20 ≤ op.toInt ∨ rB.toInt = 0) ∧ l 4 = -1))
theorem lnU_r {l : Nat → Int} {op t a b rA rB s : Int32} (hO : rwO2 l) (hE : rwF l op t a b rA rB s) : lnU l op t a b rA rB := by
  obtain ⟨e1, e2, e3, e4, e5, e6⟩ := hE
  obtain ⟨o1, o2, o3, o4, o5, o6, o7⟩ := hO
  unfold opdE at e1 e2 e4 e6
  have h0 : l 0 ≤ 13 ∨ l 0 = 14 ∨ l 0 = 15 ∨ l 0 = 16 ∨ l 0 = 17 ∨ l 0 = 18 := by omega
  rcases h0 with h0 | h0 | h0 | h0 | h0 | h0
  · obtain ⟨p1, p2, p3, p4⟩ := e1 h0
    clear e1 e2 e3 e4 e5 e6
    refine ⟨by omega, by omega, by omega⟩
  · obtain ⟨p1, p2, p3⟩ := e2 h0
    have o8 := o7 (by omega)
    clear e1 e2 e3 e4 e5 e6
    refine ⟨by omega, by omega, by omega⟩
  · obtain ⟨p1, p2⟩ := e3 h0
    have o8 := o7 (by omega)
    have o9 := o6 (by omega)
    clear e1 e2 e3 e4 e5 e6
    refine ⟨by omega, by omega, by omega⟩
  · obtain ⟨p1, p2⟩ := e4 h0
    have o8 := o7 (by omega)
    have o9 := o5 (by omega)
    clear e1 e2 e3 e4 e5 e6
    refine ⟨by omega, by omega, by omega⟩
  · obtain ⟨p1, p2, p3⟩ := e5 h0
    have o8 := o7 (by omega)
    have o9 := o6 (by omega)
    clear e1 e2 e3 e4 e5 e6
    refine ⟨by omega, by omega, by omega⟩
  · obtain ⟨p1, p2, p3⟩ := e6 h0
    have o8 := o7 (by omega)
    have o9 := o5 (by omega)
    clear e1 e2 e3 e4 e5 e6
    refine ⟨by omega, by omega, by omega⟩
theorem lnU_e {l g : Nat → Int} {op t a b rA rB f s : Int32} (hO : edO2 l) (hG : edG (l 0) (g 0) (g 1)) (hE : edE l g op a rA f s) : lnU l op t a b rA rB := by
  obtain ⟨e1, e2, e3⟩ := hE
  obtain ⟨o1, o2, o3, o4⟩ := hO
  unfold opdE at e2 e3
  rcases hG with ⟨h0, h1⟩ | ⟨h0, h1⟩ | ⟨h0, h1⟩
  · obtain ⟨p1, p2⟩ := e1 h0
    have o9 := o4 h0
    clear e1 e2 e3
    refine ⟨by omega, by omega, by omega⟩
  · obtain ⟨p1, p2, p3⟩ := e2 h0
    clear e1 e2 e3
    refine ⟨by omega, by omega, by omega⟩
  · obtain ⟨p1, p2⟩ := e3 h0
    clear e1 e2 e3
    refine ⟨by omega, by omega, by omega⟩
def wt (γ : Nat → Nat → Nat) (F : Nat → va_E) (v : Nat) : Int32 := cB (F (γ 9 5)) v
theorem up_w {f f2 : Nat → Int32} {i u w k : Int32} (h : f2 = upd f i.toNatClampNeg w) (hw : w = u + k) (hu : u = f i.toNatClampNeg) (h0 : 0 ≤ i.toInt) : ∀ v : Nat, f2 v = if i.toInt = (v : Int) then f v + k else f v := fun v => by
  have hz : (i.toNatClampNeg : Int) = i.toInt := g_nn h0
  rw [h]
  unfold upd
  by_cases e : v = i.toNatClampNeg
  · rw [if_pos e, if_pos (by omega), hw, hu, e]
  · rw [if_neg e, if_neg (by omega)]
section WGR
variable {D : va_G} {I : FieldType → ClassId} {P : List Nat} {F F1 : Nat → va_E} {γ el : Nat → Nat → Nat} {q0 c i : Nat} {Q : gPg}
theorem md_kd5 (hT : RS D I P F γ el) (hm : γ 0 q0 = 10) : γ 0 (γ 9 4) = 16 ∧ γ 0 (γ 9 5) = 17 := by
  obtain ⟨r28, r35, v9, v10, v11, v12, v13, v14, v23, v24, v25, v26, v27, v30, v32, v33, v34, he, hM1, hK, hM2⟩ := rk10_m (show rk_10 γ (F q0) from RS_o hT hm)
  exact ⟨hK.2.2.2.2.2.2.1, hK.2.2.2.2.2.2.2.1⟩
theorem w74 {kf s2 : Int32} {s1 e1 : Nat → va_E} {kx : Nat} (hT : RS D I P F γ el) (hm : γ 0 q0 = 10) (hB : γ 0 (el (γ 14 c) i) = 2) (hq : rfW γ el F c Q) (hO : qOk Q) (hi : i < Q.1) (h : tl_RModel_weigh_74 D I γ el P F q0 (el (γ 14 c) i) kf s1 s2 kx e1) : ∀ j : Nat, s2.toInt = (j : Int) → j ≤ Q.2.1 i → (∀ v : Nat, ∀ x : Int32, wt γ s1 v = wBl (Q.2.2.1 i) v kf x j → wt γ e1 v = wBl (Q.2.2.1 i) v kf x (Q.2.1 i)) ∧ ∀ b, b ≠ γ 9 5 → e1 b = s1 b := by
  obtain ⟨k94, k95⟩ := md_kd5 hT hm
  obtain ⟨l, nn, p, s, v1, ⟨g1, g2, g3⟩, v3, v4, v5, -⟩ := show rk_2 γ (el (γ 14 c) i) (F (el (γ 14 c) i)) from RS_o hT hB
  have kl := (show rk_3 D I γ el F l from RS_o hT v3).2
  have m := qR_m hq hi
  obtain ⟨-, ⟨rl1, rl2⟩, re3⟩ := qR hq hi
  have hrow : ∀ j, j < γ 2 (γ 14 (el (γ 14 c) i)) → lnU (Q.2.2.1 i j) (fI (F (el (γ 14 (el (γ 14 c) i)) j)) 0) (fI (F (el (γ 14 (el (γ 14 c) i)) j)) 1) (fI (F (el (γ 14 (el (γ 14 c) i)) j)) 2) (fI (F (el (γ 14 (el (γ 14 c) i)) j)) 3) (fI (F (el (γ 14 (el (γ 14 c) i)) j)) 5) (fI (F (el (γ 14 (el (γ 14 c) i)) j)) 6) := fun j hj => lnU_r ((qB hO hi).1 j (by omega)) (rl2 j (by omega))
  have hend : lnU (Q.2.2.1 i (Q.2.1 i - 1)) (fI (F (γ 15 (el (γ 14 c) i))) 0) (fI (F (γ 15 (el (γ 14 c) i))) 1) (fI (F (γ 15 (el (γ 14 c) i))) 2) (fI (F (γ 15 (el (γ 14 c) i))) 3) (fI (F (γ 15 (el (γ 14 c) i))) 5) (fI (F (γ 15 (el (γ 14 c) i))) 6) := lnU_e (g := Q.2.2.2 i) (qB hO hi).2.1 (qB hO hi).2.2 re3
  refine h (fun s1 s2 _ e1 => ∀ j : Nat, s2.toInt = (j : Int) → j ≤ Q.2.1 i → (∀ v : Nat, ∀ x : Int32, wt γ s1 v = wBl (Q.2.2.1 i) v kf x j → wt γ e1 v = wBl (Q.2.2.1 i) v kf x (Q.2.1 i)) ∧ ∀ b, b ≠ γ 9 5 → e1 b = s1 b) ?_ ?_ ?_ ?_ ?_ ?_ ?_ ?_ ?_ ?_ ?_ ?_ ?_ ?_ ?_ ?_ ?_
  · intro F_2 l5_2 x1 x2 h1 h2 h3 h4 h5 h6 h7 h8 h9
    intro j ej hj
    have hs := h3
    have eB : F_2 (el (γ 14 c) i) = F (el (γ 14 c) i) := rs0 hs hB (by decide)
    have ex1 : x1 = γ 14 (el (γ 14 c) i) := by rw [← h6, eB, v1, g1]; rfl
    have em : x2.toInt = (γ 2 (γ 14 (el (γ 14 c) i)) : Int) := by rw [h7, ex1]
    have e : j = Q.2.1 i := by have := h9; omega
    rw [e]
    exact ⟨fun v x z => z, fun _ _ => rfl⟩
  · intro F_2 l5_2 x1 x2 x3 x4 x5 x6 x7 x8 x9 x10 k e1 h1 h2 h3 h4 h5 h6 h7 h8 h9 h10 h11 h12 h13 h14 h15 h16 h17 h18 h19 h20 h21 h22 h23 h24 h25 ih
    intro j ej hj
    have hs := h3
    have eB : F_2 (el (γ 14 c) i) = F (el (γ 14 c) i) := rs0 hs hB (by decide)
    have ex1 : x1 = γ 14 (el (γ 14 c) i) := by rw [← h6, eB, v1, g1]; rfl
    have em : x2.toInt = (γ 2 (γ 14 (el (γ 14 c) i)) : Int) := by rw [h7, ex1]
    have eX : x3 = γ 15 (el (γ 14 c) i) := by rw [← h12, eB, v1, g2]; rfl
    have kX : γ 0 x3 = 1 := by rw [eX, g2]; exact v5
    have ejn : j = Q.2.1 i - 1 := by have := h11; have := h9; omega
    have hU := hend
    rw [← eX, ← ejn] at hU
    have eR : F_2 x3 = F x3 := rs0 hs kX (by decide)
    have nX : x3 ≠ γ 9 5 := fun e => by rw [e, k95] at kX; cases kX
    have u13 : x4 = fI (F x3) 0 := by rw [← h13, eR]
    have u17 : x6 = fI (F x3) 5 := by rw [← h17, eR]
    have u21 : x8 = fI (F x3) 6 := by rw [← h21, eR]
    have qs := ss_tr h15
    have qa := uA_tr h19
    have qb := uB_tr h23
    rw [u13] at qs
    rw [u13] at qa
    rw [u17] at qa
    rw [u13] at qb
    rw [u21] at qb
    obtain ⟨U1, U2, U3⟩ := hU
    have n1 : Q.2.2.1 i j 1 = -1 := by omega
    have n2 : Q.2.2.1 i j 2 = -1 := by omega
    have n4 : Q.2.2.1 i j 4 = -1 := by omega
    have hL : ∀ v : Nat, wt γ F_2 v = wLn (Q.2.2.1 i j) v kf (wt γ F_2 v) := fun v => by
      unfold wLn
      have q1 : ¬ Q.2.2.1 i j 1 = (v : Int) := by omega
      have q2 : ¬ Q.2.2.1 i j 2 = (v : Int) := by omega
      have q4 : ¬ Q.2.2.1 i j 4 = (v : Int) := by omega
      simp only [if_neg q1, if_neg q2, if_neg q4]
    obtain ⟨i1, i2⟩ := ih (j + 1) (by omega) (by omega)
    refine ⟨fun v x z => i1 v x ?_, fun b hb => (i2 b hb).trans (rfl)⟩
    rw [hL v, z]
    rfl
  · intro F_2 l5_2 x1 x2 x3 x4 x5 x6 x7 x8 x9 x10 x11 x12 x13 x14 x15 x16 k e1 h1 h2 h3 h4 h5 h6 h7 h8 h9 h10 h11 h12 h13 h14 h15 h16 h17 h18 h19 h20 h21 h22 h23 h24 h25 h26 h27 h28 h29 h30 h31 h32 h33 ih
    intro j ej hj
    have hs := h3
    have eB : F_2 (el (γ 14 c) i) = F (el (γ 14 c) i) := rs0 hs hB (by decide)
    have ex1 : x1 = γ 14 (el (γ 14 c) i) := by rw [← h6, eB, v1, g1]; rfl
    have em : x2.toInt = (γ 2 (γ 14 (el (γ 14 c) i)) : Int) := by rw [h7, ex1]
    have eX : x3 = γ 15 (el (γ 14 c) i) := by rw [← h12, eB, v1, g2]; rfl
    have kX : γ 0 x3 = 1 := by rw [eX, g2]; exact v5
    have ejn : j = Q.2.1 i - 1 := by have := h11; have := h9; omega
    have hU := hend
    rw [← eX, ← ejn] at hU
    have eR : F_2 x3 = F x3 := rs0 hs kX (by decide)
    have nX : x3 ≠ γ 9 5 := fun e => by rw [e, k95] at kX; cases kX
    have fx15 : x15 x3 = F x3 := (h31 _ nX).trans eR
    have u13 : x4 = fI (F x3) 0 := by rw [← h13, eR]
    have u17 : x6 = fI (F x3) 5 := by rw [← h17, eR]
    have u21 : x8 = fI (F x3) 6 := by rw [← h21, eR]
    have u26 : x10 = fI (F x3) 3 := by rw [← h26, eR]
    have qs := ss_tr h15
    have qa := uA_tr h19
    have qb := uB_tr h23
    rw [u13] at qs
    rw [u13] at qa
    rw [u17] at qa
    rw [u13] at qb
    rw [u21] at qb
    obtain ⟨U1, U2, U3⟩ := hU
    have n1 : Q.2.2.1 i j 1 = -1 := by omega
    have n2 : Q.2.2.1 i j 2 = -1 := by omega
    have s4 : ∀ v : Nat, wt γ x15 v = if Q.2.2.1 i j 4 = (v : Int) then wt γ F_2 v + kf else wt γ F_2 v := fun v => by
      have z := up_w h30 h29 h28 (by rw [u26]; omega) v
      unfold wt
      rw [cB_of h32, cB_of h27, z, u26, show (fI (F x3) 3).toInt = Q.2.2.1 i j 4 by omega]
    have hL : ∀ v : Nat, wt γ x15 v = wLn (Q.2.2.1 i j) v kf (wt γ F_2 v) := fun v => by
      unfold wLn
      rw [s4 v]
      have q1 : ¬ Q.2.2.1 i j 1 = (v : Int) := by omega
      have q2 : ¬ Q.2.2.1 i j 2 = (v : Int) := by omega
      simp only [if_neg q1, if_neg q2]
    obtain ⟨i1, i2⟩ := ih (j + 1) (by omega) (by omega)
    refine ⟨fun v x z => i1 v x ?_, fun b hb => (i2 b hb).trans ((h31 b hb).trans (rfl))⟩
    rw [hL v, z]
    rfl
  · intro F_2 l5_2 x1 x2 x3 x4 x5 x6 x7 x8 x9 x10 x11 x12 x13 x14 x15 x16 k e1 h1 h2 h3 h4 h5 h6 h7 h8 h9 h10 h11 h12 h13 h14 h15 h16 h17 h18 h19 h20 h21 h22 h23 h24 h25 h26 h27 h28 h29 h30 h31 h32 h33 h34 ih
    intro j ej hj
    have hs := h3
    have eB : F_2 (el (γ 14 c) i) = F (el (γ 14 c) i) := rs0 hs hB (by decide)
    have ex1 : x1 = γ 14 (el (γ 14 c) i) := by rw [← h6, eB, v1, g1]; rfl
    have em : x2.toInt = (γ 2 (γ 14 (el (γ 14 c) i)) : Int) := by rw [h7, ex1]
    have eX : x3 = γ 15 (el (γ 14 c) i) := by rw [← h12, eB, v1, g2]; rfl
    have kX : γ 0 x3 = 1 := by rw [eX, g2]; exact v5
    have ejn : j = Q.2.1 i - 1 := by have := h11; have := h9; omega
    have hU := hend
    rw [← eX, ← ejn] at hU
    have eR : F_2 x3 = F x3 := rs0 hs kX (by decide)
    have nX : x3 ≠ γ 9 5 := fun e => by rw [e, k95] at kX; cases kX
    have fx13 : x13 x3 = F x3 := (h27 _ nX).trans eR
    have u13 : x4 = fI (F x3) 0 := by rw [← h13, eR]
    have u17 : x6 = fI (F x3) 5 := by rw [← h17, eR]
    have u22 : x8 = fI (F x3) 2 := by rw [← h22, eR]
    have u30 : x14 = fI (F x3) 6 := by rw [← h30, fx13]
    have qs := ss_tr h15
    have qa := uA_tr h19
    have qb := uB_tr h32
    rw [u13] at qs
    rw [u13] at qa
    rw [u17] at qa
    rw [u13] at qb
    rw [u30] at qb
    obtain ⟨U1, U2, U3⟩ := hU
    have n1 : Q.2.2.1 i j 1 = -1 := by omega
    have s2 : ∀ v : Nat, wt γ x13 v = if Q.2.2.1 i j 2 = (v : Int) then wt γ F_2 v + kf else wt γ F_2 v := fun v => by
      have z := up_w h26 h25 h24 (by rw [u22]; omega) v
      unfold wt
      rw [cB_of h28, cB_of h23, z, u22, show (fI (F x3) 2).toInt = Q.2.2.1 i j 2 by omega]
    have n4 : Q.2.2.1 i j 4 = -1 := by omega
    have hL : ∀ v : Nat, wt γ x13 v = wLn (Q.2.2.1 i j) v kf (wt γ F_2 v) := fun v => by
      unfold wLn
      rw [s2 v]
      have q1 : ¬ Q.2.2.1 i j 1 = (v : Int) := by omega
      have q4 : ¬ Q.2.2.1 i j 4 = (v : Int) := by omega
      simp only [if_neg q1, if_neg q4]
    obtain ⟨i1, i2⟩ := ih (j + 1) (by omega) (by omega)
    refine ⟨fun v x z => i1 v x ?_, fun b hb => (i2 b hb).trans ((h27 b hb).trans (rfl))⟩
    rw [hL v, z]
    rfl
  · intro F_2 l5_2 x1 x2 x3 x4 x5 x6 x7 x8 x9 x10 x11 x12 x13 x14 x15 x16 x17 x18 x19 x20 x21 k e1 h1 h2 h3 h4 h5 h6 h7 h8 h9 h10 h11 h12 h13 h14 h15 h16 h17 h18 h19 h20 h21 h22 h23 h24 h25 h26 h27 h28 h29 h30 h31 h32 h33 h34 h35 h36 h37 h38 h39 h40 h41 h42 ih
    intro j ej hj
    have hs := h3
    have eB : F_2 (el (γ 14 c) i) = F (el (γ 14 c) i) := rs0 hs hB (by decide)
    have ex1 : x1 = γ 14 (el (γ 14 c) i) := by rw [← h6, eB, v1, g1]; rfl
    have em : x2.toInt = (γ 2 (γ 14 (el (γ 14 c) i)) : Int) := by rw [h7, ex1]
    have eX : x3 = γ 15 (el (γ 14 c) i) := by rw [← h12, eB, v1, g2]; rfl
    have kX : γ 0 x3 = 1 := by rw [eX, g2]; exact v5
    have ejn : j = Q.2.1 i - 1 := by have := h11; have := h9; omega
    have hU := hend
    rw [← eX, ← ejn] at hU
    have eR : F_2 x3 = F x3 := rs0 hs kX (by decide)
    have nX : x3 ≠ γ 9 5 := fun e => by rw [e, k95] at kX; cases kX
    have fx13 : x13 x3 = F x3 := (h27 _ nX).trans eR
    have fx20 : x20 x3 = F x3 := (h40 _ nX).trans fx13
    have u13 : x4 = fI (F x3) 0 := by rw [← h13, eR]
    have u17 : x6 = fI (F x3) 5 := by rw [← h17, eR]
    have u22 : x8 = fI (F x3) 2 := by rw [← h22, eR]
    have u30 : x14 = fI (F x3) 6 := by rw [← h30, fx13]
    have u35 : x16 = fI (F x3) 3 := by rw [← h35, fx13]
    have qs := ss_tr h15
    have qa := uA_tr h19
    have qb := uB_tr h32
    rw [u13] at qs
    rw [u13] at qa
    rw [u17] at qa
    rw [u13] at qb
    rw [u30] at qb
    obtain ⟨U1, U2, U3⟩ := hU
    have n1 : Q.2.2.1 i j 1 = -1 := by omega
    have s2 : ∀ v : Nat, wt γ x13 v = if Q.2.2.1 i j 2 = (v : Int) then wt γ F_2 v + kf else wt γ F_2 v := fun v => by
      have z := up_w h26 h25 h24 (by rw [u22]; omega) v
      unfold wt
      rw [cB_of h28, cB_of h23, z, u22, show (fI (F x3) 2).toInt = Q.2.2.1 i j 2 by omega]
    have s4 : ∀ v : Nat, wt γ x20 v = if Q.2.2.1 i j 4 = (v : Int) then wt γ x13 v + kf else wt γ x13 v := fun v => by
      have z := up_w h39 h38 h37 (by rw [u35]; omega) v
      unfold wt
      rw [cB_of h41, cB_of h28, z, u35, show (fI (F x3) 3).toInt = Q.2.2.1 i j 4 by omega]
    have hL : ∀ v : Nat, wt γ x20 v = wLn (Q.2.2.1 i j) v kf (wt γ F_2 v) := fun v => by
      unfold wLn
      rw [s4 v, s2 v]
      have q1 : ¬ Q.2.2.1 i j 1 = (v : Int) := by omega
      simp only [if_neg q1]
    obtain ⟨i1, i2⟩ := ih (j + 1) (by omega) (by omega)
    refine ⟨fun v x z => i1 v x ?_, fun b hb => (i2 b hb).trans ((h40 b hb).trans ((h27 b hb).trans (rfl)))⟩
    rw [hL v, z]
    rfl
  · intro F_2 l5_2 x1 x2 x3 x4 x5 x6 x7 x8 x9 x10 x11 x12 x13 x14 x15 x16 k e1 h1 h2 h3 h4 h5 h6 h7 h8 h9 h10 h11 h12 h13 h14 h15 h16 h17 h18 h19 h20 h21 h22 h23 h24 h25 h26 h27 h28 h29 h30 h31 h32 h33 h34 ih
    intro j ej hj
    have hs := h3
    have eB : F_2 (el (γ 14 c) i) = F (el (γ 14 c) i) := rs0 hs hB (by decide)
    have ex1 : x1 = γ 14 (el (γ 14 c) i) := by rw [← h6, eB, v1, g1]; rfl
    have em : x2.toInt = (γ 2 (γ 14 (el (γ 14 c) i)) : Int) := by rw [h7, ex1]
    have eX : x3 = γ 15 (el (γ 14 c) i) := by rw [← h12, eB, v1, g2]; rfl
    have kX : γ 0 x3 = 1 := by rw [eX, g2]; exact v5
    have ejn : j = Q.2.1 i - 1 := by have := h11; have := h9; omega
    have hU := hend
    rw [← eX, ← ejn] at hU
    have eR : F_2 x3 = F x3 := rs0 hs kX (by decide)
    have nX : x3 ≠ γ 9 5 := fun e => by rw [e, k95] at kX; cases kX
    have fx11 : x11 x3 = F x3 := (h23 _ nX).trans eR
    have u13 : x4 = fI (F x3) 0 := by rw [← h13, eR]
    have u18 : x6 = fI (F x3) 1 := by rw [← h18, eR]
    have u26 : x12 = fI (F x3) 5 := by rw [← h26, fx11]
    have u30 : x14 = fI (F x3) 6 := by rw [← h30, fx11]
    have qs := ss_tr h15
    have qa := uA_tr h28
    have qb := uB_tr h32
    rw [u13] at qs
    rw [u13] at qa
    rw [u26] at qa
    rw [u13] at qb
    rw [u30] at qb
    obtain ⟨U1, U2, U3⟩ := hU
    have s1 : ∀ v : Nat, wt γ x11 v = if Q.2.2.1 i j 1 = (v : Int) then wt γ F_2 v + kf else wt γ F_2 v := fun v => by
      have z := up_w h22 h21 h20 (by rw [u18]; omega) v
      unfold wt
      rw [cB_of h24, cB_of h19, z, u18, show (fI (F x3) 1).toInt = Q.2.2.1 i j 1 by omega]
    have n2 : Q.2.2.1 i j 2 = -1 := by omega
    have n4 : Q.2.2.1 i j 4 = -1 := by omega
    have hL : ∀ v : Nat, wt γ x11 v = wLn (Q.2.2.1 i j) v kf (wt γ F_2 v) := fun v => by
      unfold wLn
      rw [s1 v]
      have q2 : ¬ Q.2.2.1 i j 2 = (v : Int) := by omega
      have q4 : ¬ Q.2.2.1 i j 4 = (v : Int) := by omega
      simp only [if_neg q2, if_neg q4]
    obtain ⟨i1, i2⟩ := ih (j + 1) (by omega) (by omega)
    refine ⟨fun v x z => i1 v x ?_, fun b hb => (i2 b hb).trans ((h23 b hb).trans (rfl))⟩
    rw [hL v, z]
    rfl
  · intro F_2 l5_2 x1 x2 x3 x4 x5 x6 x7 x8 x9 x10 x11 x12 x13 x14 x15 x16 x17 x18 x19 x20 x21 k e1 h1 h2 h3 h4 h5 h6 h7 h8 h9 h10 h11 h12 h13 h14 h15 h16 h17 h18 h19 h20 h21 h22 h23 h24 h25 h26 h27 h28 h29 h30 h31 h32 h33 h34 h35 h36 h37 h38 h39 h40 h41 h42 ih
    intro j ej hj
    have hs := h3
    have eB : F_2 (el (γ 14 c) i) = F (el (γ 14 c) i) := rs0 hs hB (by decide)
    have ex1 : x1 = γ 14 (el (γ 14 c) i) := by rw [← h6, eB, v1, g1]; rfl
    have em : x2.toInt = (γ 2 (γ 14 (el (γ 14 c) i)) : Int) := by rw [h7, ex1]
    have eX : x3 = γ 15 (el (γ 14 c) i) := by rw [← h12, eB, v1, g2]; rfl
    have kX : γ 0 x3 = 1 := by rw [eX, g2]; exact v5
    have ejn : j = Q.2.1 i - 1 := by have := h11; have := h9; omega
    have hU := hend
    rw [← eX, ← ejn] at hU
    have eR : F_2 x3 = F x3 := rs0 hs kX (by decide)
    have nX : x3 ≠ γ 9 5 := fun e => by rw [e, k95] at kX; cases kX
    have fx11 : x11 x3 = F x3 := (h23 _ nX).trans eR
    have fx20 : x20 x3 = F x3 := (h40 _ nX).trans fx11
    have u13 : x4 = fI (F x3) 0 := by rw [← h13, eR]
    have u18 : x6 = fI (F x3) 1 := by rw [← h18, eR]
    have u26 : x12 = fI (F x3) 5 := by rw [← h26, fx11]
    have u30 : x14 = fI (F x3) 6 := by rw [← h30, fx11]
    have u35 : x16 = fI (F x3) 3 := by rw [← h35, fx11]
    have qs := ss_tr h15
    have qa := uA_tr h28
    have qb := uB_tr h32
    rw [u13] at qs
    rw [u13] at qa
    rw [u26] at qa
    rw [u13] at qb
    rw [u30] at qb
    obtain ⟨U1, U2, U3⟩ := hU
    have s1 : ∀ v : Nat, wt γ x11 v = if Q.2.2.1 i j 1 = (v : Int) then wt γ F_2 v + kf else wt γ F_2 v := fun v => by
      have z := up_w h22 h21 h20 (by rw [u18]; omega) v
      unfold wt
      rw [cB_of h24, cB_of h19, z, u18, show (fI (F x3) 1).toInt = Q.2.2.1 i j 1 by omega]
    have n2 : Q.2.2.1 i j 2 = -1 := by omega
    have s4 : ∀ v : Nat, wt γ x20 v = if Q.2.2.1 i j 4 = (v : Int) then wt γ x11 v + kf else wt γ x11 v := fun v => by
      have z := up_w h39 h38 h37 (by rw [u35]; omega) v
      unfold wt
      rw [cB_of h41, cB_of h24, z, u35, show (fI (F x3) 3).toInt = Q.2.2.1 i j 4 by omega]
    have hL : ∀ v : Nat, wt γ x20 v = wLn (Q.2.2.1 i j) v kf (wt γ F_2 v) := fun v => by
      unfold wLn
      rw [s4 v, s1 v]
      have q2 : ¬ Q.2.2.1 i j 2 = (v : Int) := by omega
      simp only [if_neg q2]
    obtain ⟨i1, i2⟩ := ih (j + 1) (by omega) (by omega)
    refine ⟨fun v x z => i1 v x ?_, fun b hb => (i2 b hb).trans ((h40 b hb).trans ((h23 b hb).trans (rfl)))⟩
    rw [hL v, z]
    rfl
  · intro F_2 l5_2 x1 x2 x3 x4 x5 x6 x7 x8 x9 x10 x11 x12 x13 x14 x15 x16 x17 x18 x19 x20 x21 k e1 h1 h2 h3 h4 h5 h6 h7 h8 h9 h10 h11 h12 h13 h14 h15 h16 h17 h18 h19 h20 h21 h22 h23 h24 h25 h26 h27 h28 h29 h30 h31 h32 h33 h34 h35 h36 h37 h38 h39 h40 h41 h42 h43 ih
    intro j ej hj
    have hs := h3
    have eB : F_2 (el (γ 14 c) i) = F (el (γ 14 c) i) := rs0 hs hB (by decide)
    have ex1 : x1 = γ 14 (el (γ 14 c) i) := by rw [← h6, eB, v1, g1]; rfl
    have em : x2.toInt = (γ 2 (γ 14 (el (γ 14 c) i)) : Int) := by rw [h7, ex1]
    have eX : x3 = γ 15 (el (γ 14 c) i) := by rw [← h12, eB, v1, g2]; rfl
    have kX : γ 0 x3 = 1 := by rw [eX, g2]; exact v5
    have ejn : j = Q.2.1 i - 1 := by have := h11; have := h9; omega
    have hU := hend
    rw [← eX, ← ejn] at hU
    have eR : F_2 x3 = F x3 := rs0 hs kX (by decide)
    have nX : x3 ≠ γ 9 5 := fun e => by rw [e, k95] at kX; cases kX
    have fx11 : x11 x3 = F x3 := (h23 _ nX).trans eR
    have fx18 : x18 x3 = F x3 := (h36 _ nX).trans fx11
    have u13 : x4 = fI (F x3) 0 := by rw [← h13, eR]
    have u18 : x6 = fI (F x3) 1 := by rw [← h18, eR]
    have u26 : x12 = fI (F x3) 5 := by rw [← h26, fx11]
    have u31 : x14 = fI (F x3) 2 := by rw [← h31, fx11]
    have u39 : x19 = fI (F x3) 6 := by rw [← h39, fx18]
    have qs := ss_tr h15
    have qa := uA_tr h28
    have qb := uB_tr h41
    rw [u13] at qs
    rw [u13] at qa
    rw [u26] at qa
    rw [u13] at qb
    rw [u39] at qb
    obtain ⟨U1, U2, U3⟩ := hU
    have s1 : ∀ v : Nat, wt γ x11 v = if Q.2.2.1 i j 1 = (v : Int) then wt γ F_2 v + kf else wt γ F_2 v := fun v => by
      have z := up_w h22 h21 h20 (by rw [u18]; omega) v
      unfold wt
      rw [cB_of h24, cB_of h19, z, u18, show (fI (F x3) 1).toInt = Q.2.2.1 i j 1 by omega]
    have s2 : ∀ v : Nat, wt γ x18 v = if Q.2.2.1 i j 2 = (v : Int) then wt γ x11 v + kf else wt γ x11 v := fun v => by
      have z := up_w h35 h34 h33 (by rw [u31]; omega) v
      unfold wt
      rw [cB_of h37, cB_of h24, z, u31, show (fI (F x3) 2).toInt = Q.2.2.1 i j 2 by omega]
    have n4 : Q.2.2.1 i j 4 = -1 := by omega
    have hL : ∀ v : Nat, wt γ x18 v = wLn (Q.2.2.1 i j) v kf (wt γ F_2 v) := fun v => by
      unfold wLn
      rw [s2 v, s1 v]
      have q4 : ¬ Q.2.2.1 i j 4 = (v : Int) := by omega
      simp only [if_neg q4]
    obtain ⟨i1, i2⟩ := ih (j + 1) (by omega) (by omega)
    refine ⟨fun v x z => i1 v x ?_, fun b hb => (i2 b hb).trans ((h36 b hb).trans ((h23 b hb).trans (rfl)))⟩
    rw [hL v, z]
    rfl
  · intro F_2 l5_2 x1 x2 x3 x4 x5 x6 x7 x8 x9 x10 x11 x12 x13 x14 x15 x16 x17 x18 x19 x20 x21 x22 x23 x24 x25 x26 k e1 h1 h2 h3 h4 h5 h6 h7 h8 h9 h10 h11 h12 h13 h14 h15 h16 h17 h18 h19 h20 h21 h22 h23 h24 h25 h26 h27 h28 h29 h30 h31 h32 h33 h34 h35 h36 h37 h38 h39 h40 h41 h42 h43 h44 h45 h46 h47 h48 h49 h50 h51 ih
    intro j ej hj
    have hs := h3
    have eB : F_2 (el (γ 14 c) i) = F (el (γ 14 c) i) := rs0 hs hB (by decide)
    have ex1 : x1 = γ 14 (el (γ 14 c) i) := by rw [← h6, eB, v1, g1]; rfl
    have em : x2.toInt = (γ 2 (γ 14 (el (γ 14 c) i)) : Int) := by rw [h7, ex1]
    have eX : x3 = γ 15 (el (γ 14 c) i) := by rw [← h12, eB, v1, g2]; rfl
    have kX : γ 0 x3 = 1 := by rw [eX, g2]; exact v5
    have ejn : j = Q.2.1 i - 1 := by have := h11; have := h9; omega
    have hU := hend
    rw [← eX, ← ejn] at hU
    have eR : F_2 x3 = F x3 := rs0 hs kX (by decide)
    have nX : x3 ≠ γ 9 5 := fun e => by rw [e, k95] at kX; cases kX
    have fx11 : x11 x3 = F x3 := (h23 _ nX).trans eR
    have fx18 : x18 x3 = F x3 := (h36 _ nX).trans fx11
    have fx25 : x25 x3 = F x3 := (h49 _ nX).trans fx18
    have u13 : x4 = fI (F x3) 0 := by rw [← h13, eR]
    have u18 : x6 = fI (F x3) 1 := by rw [← h18, eR]
    have u26 : x12 = fI (F x3) 5 := by rw [← h26, fx11]
    have u31 : x14 = fI (F x3) 2 := by rw [← h31, fx11]
    have u39 : x19 = fI (F x3) 6 := by rw [← h39, fx18]
    have u44 : x21 = fI (F x3) 3 := by rw [← h44, fx18]
    have qs := ss_tr h15
    have qa := uA_tr h28
    have qb := uB_tr h41
    rw [u13] at qs
    rw [u13] at qa
    rw [u26] at qa
    rw [u13] at qb
    rw [u39] at qb
    obtain ⟨U1, U2, U3⟩ := hU
    have s1 : ∀ v : Nat, wt γ x11 v = if Q.2.2.1 i j 1 = (v : Int) then wt γ F_2 v + kf else wt γ F_2 v := fun v => by
      have z := up_w h22 h21 h20 (by rw [u18]; omega) v
      unfold wt
      rw [cB_of h24, cB_of h19, z, u18, show (fI (F x3) 1).toInt = Q.2.2.1 i j 1 by omega]
    have s2 : ∀ v : Nat, wt γ x18 v = if Q.2.2.1 i j 2 = (v : Int) then wt γ x11 v + kf else wt γ x11 v := fun v => by
      have z := up_w h35 h34 h33 (by rw [u31]; omega) v
      unfold wt
      rw [cB_of h37, cB_of h24, z, u31, show (fI (F x3) 2).toInt = Q.2.2.1 i j 2 by omega]
    have s4 : ∀ v : Nat, wt γ x25 v = if Q.2.2.1 i j 4 = (v : Int) then wt γ x18 v + kf else wt γ x18 v := fun v => by
      have z := up_w h48 h47 h46 (by rw [u44]; omega) v
      unfold wt
      rw [cB_of h50, cB_of h37, z, u44, show (fI (F x3) 3).toInt = Q.2.2.1 i j 4 by omega]
    have hL : ∀ v : Nat, wt γ x25 v = wLn (Q.2.2.1 i j) v kf (wt γ F_2 v) := fun v => by
      unfold wLn
      rw [s4 v, s2 v, s1 v]
    obtain ⟨i1, i2⟩ := ih (j + 1) (by omega) (by omega)
    refine ⟨fun v x z => i1 v x ?_, fun b hb => (i2 b hb).trans ((h49 b hb).trans ((h36 b hb).trans ((h23 b hb).trans (rfl))))⟩
    rw [hL v, z]
    rfl
  · intro F_2 l5_2 x1 x2 x3 x4 x5 x6 x7 x8 x9 x10 k e1 h1 h2 h3 h4 h5 h6 h7 h8 h9 h10 h11 h12 h13 h14 h15 h16 h17 h18 h19 h20 h21 h22 h23 h24 h25 h26 ih
    intro j ej hj
    have hs := h3
    have eB : F_2 (el (γ 14 c) i) = F (el (γ 14 c) i) := rs0 hs hB (by decide)
    have ex1 : x1 = γ 14 (el (γ 14 c) i) := by rw [← h6, eB, v1, g1]; rfl
    have em : x2.toInt = (γ 2 (γ 14 (el (γ 14 c) i)) : Int) := by rw [h7, ex1]
    have hlt := h11
    have eX : x3 = el (γ 14 (el (γ 14 c) i)) j := by rw [h12, ex1, show l5_2.toInt.toNat = j by omega]
    have kX : γ 0 x3 = 1 := by rw [eX, g1]; exact (kl j (by rw [← g1]; omega)).1
    have hU := hrow j (by omega)
    rw [← eX] at hU
    have eR : F_2 x3 = F x3 := rs0 hs kX (by decide)
    have nX : x3 ≠ γ 9 5 := fun e => by rw [e, k95] at kX; cases kX
    have u14 : x4 = fI (F x3) 0 := by rw [← h14, eR]
    have u18 : x6 = fI (F x3) 5 := by rw [← h18, eR]
    have u22 : x8 = fI (F x3) 6 := by rw [← h22, eR]
    have qs := ss_tr h16
    have qa := uA_tr h20
    have qb := uB_tr h24
    rw [u14] at qs
    rw [u14] at qa
    rw [u18] at qa
    rw [u14] at qb
    rw [u22] at qb
    obtain ⟨U1, U2, U3⟩ := hU
    have n1 : Q.2.2.1 i j 1 = -1 := by omega
    have n2 : Q.2.2.1 i j 2 = -1 := by omega
    have n4 : Q.2.2.1 i j 4 = -1 := by omega
    have hL : ∀ v : Nat, wt γ F_2 v = wLn (Q.2.2.1 i j) v kf (wt γ F_2 v) := fun v => by
      unfold wLn
      have q1 : ¬ Q.2.2.1 i j 1 = (v : Int) := by omega
      have q2 : ¬ Q.2.2.1 i j 2 = (v : Int) := by omega
      have q4 : ¬ Q.2.2.1 i j 4 = (v : Int) := by omega
      simp only [if_neg q1, if_neg q2, if_neg q4]
    obtain ⟨i1, i2⟩ := ih (j + 1) (by omega) (by omega)
    refine ⟨fun v x z => i1 v x ?_, fun b hb => (i2 b hb).trans (rfl)⟩
    rw [hL v, z]
    rfl
  · intro F_2 l5_2 x1 x2 x3 x4 x5 x6 x7 x8 x9 x10 x11 x12 x13 x14 x15 x16 k e1 h1 h2 h3 h4 h5 h6 h7 h8 h9 h10 h11 h12 h13 h14 h15 h16 h17 h18 h19 h20 h21 h22 h23 h24 h25 h26 h27 h28 h29 h30 h31 h32 h33 h34 ih
    intro j ej hj
    have hs := h3
    have eB : F_2 (el (γ 14 c) i) = F (el (γ 14 c) i) := rs0 hs hB (by decide)
    have ex1 : x1 = γ 14 (el (γ 14 c) i) := by rw [← h6, eB, v1, g1]; rfl
    have em : x2.toInt = (γ 2 (γ 14 (el (γ 14 c) i)) : Int) := by rw [h7, ex1]
    have hlt := h11
    have eX : x3 = el (γ 14 (el (γ 14 c) i)) j := by rw [h12, ex1, show l5_2.toInt.toNat = j by omega]
    have kX : γ 0 x3 = 1 := by rw [eX, g1]; exact (kl j (by rw [← g1]; omega)).1
    have hU := hrow j (by omega)
    rw [← eX] at hU
    have eR : F_2 x3 = F x3 := rs0 hs kX (by decide)
    have nX : x3 ≠ γ 9 5 := fun e => by rw [e, k95] at kX; cases kX
    have fx15 : x15 x3 = F x3 := (h32 _ nX).trans eR
    have u14 : x4 = fI (F x3) 0 := by rw [← h14, eR]
    have u18 : x6 = fI (F x3) 5 := by rw [← h18, eR]
    have u22 : x8 = fI (F x3) 6 := by rw [← h22, eR]
    have u27 : x10 = fI (F x3) 3 := by rw [← h27, eR]
    have qs := ss_tr h16
    have qa := uA_tr h20
    have qb := uB_tr h24
    rw [u14] at qs
    rw [u14] at qa
    rw [u18] at qa
    rw [u14] at qb
    rw [u22] at qb
    obtain ⟨U1, U2, U3⟩ := hU
    have n1 : Q.2.2.1 i j 1 = -1 := by omega
    have n2 : Q.2.2.1 i j 2 = -1 := by omega
    have s4 : ∀ v : Nat, wt γ x15 v = if Q.2.2.1 i j 4 = (v : Int) then wt γ F_2 v + kf else wt γ F_2 v := fun v => by
      have z := up_w h31 h30 h29 (by rw [u27]; omega) v
      unfold wt
      rw [cB_of h33, cB_of h28, z, u27, show (fI (F x3) 3).toInt = Q.2.2.1 i j 4 by omega]
    have hL : ∀ v : Nat, wt γ x15 v = wLn (Q.2.2.1 i j) v kf (wt γ F_2 v) := fun v => by
      unfold wLn
      rw [s4 v]
      have q1 : ¬ Q.2.2.1 i j 1 = (v : Int) := by omega
      have q2 : ¬ Q.2.2.1 i j 2 = (v : Int) := by omega
      simp only [if_neg q1, if_neg q2]
    obtain ⟨i1, i2⟩ := ih (j + 1) (by omega) (by omega)
    refine ⟨fun v x z => i1 v x ?_, fun b hb => (i2 b hb).trans ((h32 b hb).trans (rfl))⟩
    rw [hL v, z]
    rfl
  · intro F_2 l5_2 x1 x2 x3 x4 x5 x6 x7 x8 x9 x10 x11 x12 x13 x14 x15 x16 k e1 h1 h2 h3 h4 h5 h6 h7 h8 h9 h10 h11 h12 h13 h14 h15 h16 h17 h18 h19 h20 h21 h22 h23 h24 h25 h26 h27 h28 h29 h30 h31 h32 h33 h34 h35 ih
    intro j ej hj
    have hs := h3
    have eB : F_2 (el (γ 14 c) i) = F (el (γ 14 c) i) := rs0 hs hB (by decide)
    have ex1 : x1 = γ 14 (el (γ 14 c) i) := by rw [← h6, eB, v1, g1]; rfl
    have em : x2.toInt = (γ 2 (γ 14 (el (γ 14 c) i)) : Int) := by rw [h7, ex1]
    have hlt := h11
    have eX : x3 = el (γ 14 (el (γ 14 c) i)) j := by rw [h12, ex1, show l5_2.toInt.toNat = j by omega]
    have kX : γ 0 x3 = 1 := by rw [eX, g1]; exact (kl j (by rw [← g1]; omega)).1
    have hU := hrow j (by omega)
    rw [← eX] at hU
    have eR : F_2 x3 = F x3 := rs0 hs kX (by decide)
    have nX : x3 ≠ γ 9 5 := fun e => by rw [e, k95] at kX; cases kX
    have fx13 : x13 x3 = F x3 := (h28 _ nX).trans eR
    have u14 : x4 = fI (F x3) 0 := by rw [← h14, eR]
    have u18 : x6 = fI (F x3) 5 := by rw [← h18, eR]
    have u23 : x8 = fI (F x3) 2 := by rw [← h23, eR]
    have u31 : x14 = fI (F x3) 6 := by rw [← h31, fx13]
    have qs := ss_tr h16
    have qa := uA_tr h20
    have qb := uB_tr h33
    rw [u14] at qs
    rw [u14] at qa
    rw [u18] at qa
    rw [u14] at qb
    rw [u31] at qb
    obtain ⟨U1, U2, U3⟩ := hU
    have n1 : Q.2.2.1 i j 1 = -1 := by omega
    have s2 : ∀ v : Nat, wt γ x13 v = if Q.2.2.1 i j 2 = (v : Int) then wt γ F_2 v + kf else wt γ F_2 v := fun v => by
      have z := up_w h27 h26 h25 (by rw [u23]; omega) v
      unfold wt
      rw [cB_of h29, cB_of h24, z, u23, show (fI (F x3) 2).toInt = Q.2.2.1 i j 2 by omega]
    have n4 : Q.2.2.1 i j 4 = -1 := by omega
    have hL : ∀ v : Nat, wt γ x13 v = wLn (Q.2.2.1 i j) v kf (wt γ F_2 v) := fun v => by
      unfold wLn
      rw [s2 v]
      have q1 : ¬ Q.2.2.1 i j 1 = (v : Int) := by omega
      have q4 : ¬ Q.2.2.1 i j 4 = (v : Int) := by omega
      simp only [if_neg q1, if_neg q4]
    obtain ⟨i1, i2⟩ := ih (j + 1) (by omega) (by omega)
    refine ⟨fun v x z => i1 v x ?_, fun b hb => (i2 b hb).trans ((h28 b hb).trans (rfl))⟩
    rw [hL v, z]
    rfl
  · intro F_2 l5_2 x1 x2 x3 x4 x5 x6 x7 x8 x9 x10 x11 x12 x13 x14 x15 x16 x17 x18 x19 x20 x21 k e1 h1 h2 h3 h4 h5 h6 h7 h8 h9 h10 h11 h12 h13 h14 h15 h16 h17 h18 h19 h20 h21 h22 h23 h24 h25 h26 h27 h28 h29 h30 h31 h32 h33 h34 h35 h36 h37 h38 h39 h40 h41 h42 h43 ih
    intro j ej hj
    have hs := h3
    have eB : F_2 (el (γ 14 c) i) = F (el (γ 14 c) i) := rs0 hs hB (by decide)
    have ex1 : x1 = γ 14 (el (γ 14 c) i) := by rw [← h6, eB, v1, g1]; rfl
    have em : x2.toInt = (γ 2 (γ 14 (el (γ 14 c) i)) : Int) := by rw [h7, ex1]
    have hlt := h11
    have eX : x3 = el (γ 14 (el (γ 14 c) i)) j := by rw [h12, ex1, show l5_2.toInt.toNat = j by omega]
    have kX : γ 0 x3 = 1 := by rw [eX, g1]; exact (kl j (by rw [← g1]; omega)).1
    have hU := hrow j (by omega)
    rw [← eX] at hU
    have eR : F_2 x3 = F x3 := rs0 hs kX (by decide)
    have nX : x3 ≠ γ 9 5 := fun e => by rw [e, k95] at kX; cases kX
    have fx13 : x13 x3 = F x3 := (h28 _ nX).trans eR
    have fx20 : x20 x3 = F x3 := (h41 _ nX).trans fx13
    have u14 : x4 = fI (F x3) 0 := by rw [← h14, eR]
    have u18 : x6 = fI (F x3) 5 := by rw [← h18, eR]
    have u23 : x8 = fI (F x3) 2 := by rw [← h23, eR]
    have u31 : x14 = fI (F x3) 6 := by rw [← h31, fx13]
    have u36 : x16 = fI (F x3) 3 := by rw [← h36, fx13]
    have qs := ss_tr h16
    have qa := uA_tr h20
    have qb := uB_tr h33
    rw [u14] at qs
    rw [u14] at qa
    rw [u18] at qa
    rw [u14] at qb
    rw [u31] at qb
    obtain ⟨U1, U2, U3⟩ := hU
    have n1 : Q.2.2.1 i j 1 = -1 := by omega
    have s2 : ∀ v : Nat, wt γ x13 v = if Q.2.2.1 i j 2 = (v : Int) then wt γ F_2 v + kf else wt γ F_2 v := fun v => by
      have z := up_w h27 h26 h25 (by rw [u23]; omega) v
      unfold wt
      rw [cB_of h29, cB_of h24, z, u23, show (fI (F x3) 2).toInt = Q.2.2.1 i j 2 by omega]
    have s4 : ∀ v : Nat, wt γ x20 v = if Q.2.2.1 i j 4 = (v : Int) then wt γ x13 v + kf else wt γ x13 v := fun v => by
      have z := up_w h40 h39 h38 (by rw [u36]; omega) v
      unfold wt
      rw [cB_of h42, cB_of h29, z, u36, show (fI (F x3) 3).toInt = Q.2.2.1 i j 4 by omega]
    have hL : ∀ v : Nat, wt γ x20 v = wLn (Q.2.2.1 i j) v kf (wt γ F_2 v) := fun v => by
      unfold wLn
      rw [s4 v, s2 v]
      have q1 : ¬ Q.2.2.1 i j 1 = (v : Int) := by omega
      simp only [if_neg q1]
    obtain ⟨i1, i2⟩ := ih (j + 1) (by omega) (by omega)
    refine ⟨fun v x z => i1 v x ?_, fun b hb => (i2 b hb).trans ((h41 b hb).trans ((h28 b hb).trans (rfl)))⟩
    rw [hL v, z]
    rfl
  · intro F_2 l5_2 x1 x2 x3 x4 x5 x6 x7 x8 x9 x10 x11 x12 x13 x14 x15 x16 k e1 h1 h2 h3 h4 h5 h6 h7 h8 h9 h10 h11 h12 h13 h14 h15 h16 h17 h18 h19 h20 h21 h22 h23 h24 h25 h26 h27 h28 h29 h30 h31 h32 h33 h34 h35 ih
    intro j ej hj
    have hs := h3
    have eB : F_2 (el (γ 14 c) i) = F (el (γ 14 c) i) := rs0 hs hB (by decide)
    have ex1 : x1 = γ 14 (el (γ 14 c) i) := by rw [← h6, eB, v1, g1]; rfl
    have em : x2.toInt = (γ 2 (γ 14 (el (γ 14 c) i)) : Int) := by rw [h7, ex1]
    have hlt := h11
    have eX : x3 = el (γ 14 (el (γ 14 c) i)) j := by rw [h12, ex1, show l5_2.toInt.toNat = j by omega]
    have kX : γ 0 x3 = 1 := by rw [eX, g1]; exact (kl j (by rw [← g1]; omega)).1
    have hU := hrow j (by omega)
    rw [← eX] at hU
    have eR : F_2 x3 = F x3 := rs0 hs kX (by decide)
    have nX : x3 ≠ γ 9 5 := fun e => by rw [e, k95] at kX; cases kX
    have fx11 : x11 x3 = F x3 := (h24 _ nX).trans eR
    have u14 : x4 = fI (F x3) 0 := by rw [← h14, eR]
    have u19 : x6 = fI (F x3) 1 := by rw [← h19, eR]
    have u27 : x12 = fI (F x3) 5 := by rw [← h27, fx11]
    have u31 : x14 = fI (F x3) 6 := by rw [← h31, fx11]
    have qs := ss_tr h16
    have qa := uA_tr h29
    have qb := uB_tr h33
    rw [u14] at qs
    rw [u14] at qa
    rw [u27] at qa
    rw [u14] at qb
    rw [u31] at qb
    obtain ⟨U1, U2, U3⟩ := hU
    have s1 : ∀ v : Nat, wt γ x11 v = if Q.2.2.1 i j 1 = (v : Int) then wt γ F_2 v + kf else wt γ F_2 v := fun v => by
      have z := up_w h23 h22 h21 (by rw [u19]; omega) v
      unfold wt
      rw [cB_of h25, cB_of h20, z, u19, show (fI (F x3) 1).toInt = Q.2.2.1 i j 1 by omega]
    have n2 : Q.2.2.1 i j 2 = -1 := by omega
    have n4 : Q.2.2.1 i j 4 = -1 := by omega
    have hL : ∀ v : Nat, wt γ x11 v = wLn (Q.2.2.1 i j) v kf (wt γ F_2 v) := fun v => by
      unfold wLn
      rw [s1 v]
      have q2 : ¬ Q.2.2.1 i j 2 = (v : Int) := by omega
      have q4 : ¬ Q.2.2.1 i j 4 = (v : Int) := by omega
      simp only [if_neg q2, if_neg q4]
    obtain ⟨i1, i2⟩ := ih (j + 1) (by omega) (by omega)
    refine ⟨fun v x z => i1 v x ?_, fun b hb => (i2 b hb).trans ((h24 b hb).trans (rfl))⟩
    rw [hL v, z]
    rfl
  · intro F_2 l5_2 x1 x2 x3 x4 x5 x6 x7 x8 x9 x10 x11 x12 x13 x14 x15 x16 x17 x18 x19 x20 x21 k e1 h1 h2 h3 h4 h5 h6 h7 h8 h9 h10 h11 h12 h13 h14 h15 h16 h17 h18 h19 h20 h21 h22 h23 h24 h25 h26 h27 h28 h29 h30 h31 h32 h33 h34 h35 h36 h37 h38 h39 h40 h41 h42 h43 ih
    intro j ej hj
    have hs := h3
    have eB : F_2 (el (γ 14 c) i) = F (el (γ 14 c) i) := rs0 hs hB (by decide)
    have ex1 : x1 = γ 14 (el (γ 14 c) i) := by rw [← h6, eB, v1, g1]; rfl
    have em : x2.toInt = (γ 2 (γ 14 (el (γ 14 c) i)) : Int) := by rw [h7, ex1]
    have hlt := h11
    have eX : x3 = el (γ 14 (el (γ 14 c) i)) j := by rw [h12, ex1, show l5_2.toInt.toNat = j by omega]
    have kX : γ 0 x3 = 1 := by rw [eX, g1]; exact (kl j (by rw [← g1]; omega)).1
    have hU := hrow j (by omega)
    rw [← eX] at hU
    have eR : F_2 x3 = F x3 := rs0 hs kX (by decide)
    have nX : x3 ≠ γ 9 5 := fun e => by rw [e, k95] at kX; cases kX
    have fx11 : x11 x3 = F x3 := (h24 _ nX).trans eR
    have fx20 : x20 x3 = F x3 := (h41 _ nX).trans fx11
    have u14 : x4 = fI (F x3) 0 := by rw [← h14, eR]
    have u19 : x6 = fI (F x3) 1 := by rw [← h19, eR]
    have u27 : x12 = fI (F x3) 5 := by rw [← h27, fx11]
    have u31 : x14 = fI (F x3) 6 := by rw [← h31, fx11]
    have u36 : x16 = fI (F x3) 3 := by rw [← h36, fx11]
    have qs := ss_tr h16
    have qa := uA_tr h29
    have qb := uB_tr h33
    rw [u14] at qs
    rw [u14] at qa
    rw [u27] at qa
    rw [u14] at qb
    rw [u31] at qb
    obtain ⟨U1, U2, U3⟩ := hU
    have s1 : ∀ v : Nat, wt γ x11 v = if Q.2.2.1 i j 1 = (v : Int) then wt γ F_2 v + kf else wt γ F_2 v := fun v => by
      have z := up_w h23 h22 h21 (by rw [u19]; omega) v
      unfold wt
      rw [cB_of h25, cB_of h20, z, u19, show (fI (F x3) 1).toInt = Q.2.2.1 i j 1 by omega]
    have n2 : Q.2.2.1 i j 2 = -1 := by omega
    have s4 : ∀ v : Nat, wt γ x20 v = if Q.2.2.1 i j 4 = (v : Int) then wt γ x11 v + kf else wt γ x11 v := fun v => by
      have z := up_w h40 h39 h38 (by rw [u36]; omega) v
      unfold wt
      rw [cB_of h42, cB_of h25, z, u36, show (fI (F x3) 3).toInt = Q.2.2.1 i j 4 by omega]
    have hL : ∀ v : Nat, wt γ x20 v = wLn (Q.2.2.1 i j) v kf (wt γ F_2 v) := fun v => by
      unfold wLn
      rw [s4 v, s1 v]
      have q2 : ¬ Q.2.2.1 i j 2 = (v : Int) := by omega
      simp only [if_neg q2]
    obtain ⟨i1, i2⟩ := ih (j + 1) (by omega) (by omega)
    refine ⟨fun v x z => i1 v x ?_, fun b hb => (i2 b hb).trans ((h41 b hb).trans ((h24 b hb).trans (rfl)))⟩
    rw [hL v, z]
    rfl
  · intro F_2 l5_2 x1 x2 x3 x4 x5 x6 x7 x8 x9 x10 x11 x12 x13 x14 x15 x16 x17 x18 x19 x20 x21 k e1 h1 h2 h3 h4 h5 h6 h7 h8 h9 h10 h11 h12 h13 h14 h15 h16 h17 h18 h19 h20 h21 h22 h23 h24 h25 h26 h27 h28 h29 h30 h31 h32 h33 h34 h35 h36 h37 h38 h39 h40 h41 h42 h43 h44 ih
    intro j ej hj
    have hs := h3
    have eB : F_2 (el (γ 14 c) i) = F (el (γ 14 c) i) := rs0 hs hB (by decide)
    have ex1 : x1 = γ 14 (el (γ 14 c) i) := by rw [← h6, eB, v1, g1]; rfl
    have em : x2.toInt = (γ 2 (γ 14 (el (γ 14 c) i)) : Int) := by rw [h7, ex1]
    have hlt := h11
    have eX : x3 = el (γ 14 (el (γ 14 c) i)) j := by rw [h12, ex1, show l5_2.toInt.toNat = j by omega]
    have kX : γ 0 x3 = 1 := by rw [eX, g1]; exact (kl j (by rw [← g1]; omega)).1
    have hU := hrow j (by omega)
    rw [← eX] at hU
    have eR : F_2 x3 = F x3 := rs0 hs kX (by decide)
    have nX : x3 ≠ γ 9 5 := fun e => by rw [e, k95] at kX; cases kX
    have fx11 : x11 x3 = F x3 := (h24 _ nX).trans eR
    have fx18 : x18 x3 = F x3 := (h37 _ nX).trans fx11
    have u14 : x4 = fI (F x3) 0 := by rw [← h14, eR]
    have u19 : x6 = fI (F x3) 1 := by rw [← h19, eR]
    have u27 : x12 = fI (F x3) 5 := by rw [← h27, fx11]
    have u32 : x14 = fI (F x3) 2 := by rw [← h32, fx11]
    have u40 : x19 = fI (F x3) 6 := by rw [← h40, fx18]
    have qs := ss_tr h16
    have qa := uA_tr h29
    have qb := uB_tr h42
    rw [u14] at qs
    rw [u14] at qa
    rw [u27] at qa
    rw [u14] at qb
    rw [u40] at qb
    obtain ⟨U1, U2, U3⟩ := hU
    have s1 : ∀ v : Nat, wt γ x11 v = if Q.2.2.1 i j 1 = (v : Int) then wt γ F_2 v + kf else wt γ F_2 v := fun v => by
      have z := up_w h23 h22 h21 (by rw [u19]; omega) v
      unfold wt
      rw [cB_of h25, cB_of h20, z, u19, show (fI (F x3) 1).toInt = Q.2.2.1 i j 1 by omega]
    have s2 : ∀ v : Nat, wt γ x18 v = if Q.2.2.1 i j 2 = (v : Int) then wt γ x11 v + kf else wt γ x11 v := fun v => by
      have z := up_w h36 h35 h34 (by rw [u32]; omega) v
      unfold wt
      rw [cB_of h38, cB_of h25, z, u32, show (fI (F x3) 2).toInt = Q.2.2.1 i j 2 by omega]
    have n4 : Q.2.2.1 i j 4 = -1 := by omega
    have hL : ∀ v : Nat, wt γ x18 v = wLn (Q.2.2.1 i j) v kf (wt γ F_2 v) := fun v => by
      unfold wLn
      rw [s2 v, s1 v]
      have q4 : ¬ Q.2.2.1 i j 4 = (v : Int) := by omega
      simp only [if_neg q4]
    obtain ⟨i1, i2⟩ := ih (j + 1) (by omega) (by omega)
    refine ⟨fun v x z => i1 v x ?_, fun b hb => (i2 b hb).trans ((h37 b hb).trans ((h24 b hb).trans (rfl)))⟩
    rw [hL v, z]
    rfl
  · intro F_2 l5_2 x1 x2 x3 x4 x5 x6 x7 x8 x9 x10 x11 x12 x13 x14 x15 x16 x17 x18 x19 x20 x21 x22 x23 x24 x25 x26 k e1 h1 h2 h3 h4 h5 h6 h7 h8 h9 h10 h11 h12 h13 h14 h15 h16 h17 h18 h19 h20 h21 h22 h23 h24 h25 h26 h27 h28 h29 h30 h31 h32 h33 h34 h35 h36 h37 h38 h39 h40 h41 h42 h43 h44 h45 h46 h47 h48 h49 h50 h51 h52 ih
    intro j ej hj
    have hs := h3
    have eB : F_2 (el (γ 14 c) i) = F (el (γ 14 c) i) := rs0 hs hB (by decide)
    have ex1 : x1 = γ 14 (el (γ 14 c) i) := by rw [← h6, eB, v1, g1]; rfl
    have em : x2.toInt = (γ 2 (γ 14 (el (γ 14 c) i)) : Int) := by rw [h7, ex1]
    have hlt := h11
    have eX : x3 = el (γ 14 (el (γ 14 c) i)) j := by rw [h12, ex1, show l5_2.toInt.toNat = j by omega]
    have kX : γ 0 x3 = 1 := by rw [eX, g1]; exact (kl j (by rw [← g1]; omega)).1
    have hU := hrow j (by omega)
    rw [← eX] at hU
    have eR : F_2 x3 = F x3 := rs0 hs kX (by decide)
    have nX : x3 ≠ γ 9 5 := fun e => by rw [e, k95] at kX; cases kX
    have fx11 : x11 x3 = F x3 := (h24 _ nX).trans eR
    have fx18 : x18 x3 = F x3 := (h37 _ nX).trans fx11
    have fx25 : x25 x3 = F x3 := (h50 _ nX).trans fx18
    have u14 : x4 = fI (F x3) 0 := by rw [← h14, eR]
    have u19 : x6 = fI (F x3) 1 := by rw [← h19, eR]
    have u27 : x12 = fI (F x3) 5 := by rw [← h27, fx11]
    have u32 : x14 = fI (F x3) 2 := by rw [← h32, fx11]
    have u40 : x19 = fI (F x3) 6 := by rw [← h40, fx18]
    have u45 : x21 = fI (F x3) 3 := by rw [← h45, fx18]
    have qs := ss_tr h16
    have qa := uA_tr h29
    have qb := uB_tr h42
    rw [u14] at qs
    rw [u14] at qa
    rw [u27] at qa
    rw [u14] at qb
    rw [u40] at qb
    obtain ⟨U1, U2, U3⟩ := hU
    have s1 : ∀ v : Nat, wt γ x11 v = if Q.2.2.1 i j 1 = (v : Int) then wt γ F_2 v + kf else wt γ F_2 v := fun v => by
      have z := up_w h23 h22 h21 (by rw [u19]; omega) v
      unfold wt
      rw [cB_of h25, cB_of h20, z, u19, show (fI (F x3) 1).toInt = Q.2.2.1 i j 1 by omega]
    have s2 : ∀ v : Nat, wt γ x18 v = if Q.2.2.1 i j 2 = (v : Int) then wt γ x11 v + kf else wt γ x11 v := fun v => by
      have z := up_w h36 h35 h34 (by rw [u32]; omega) v
      unfold wt
      rw [cB_of h38, cB_of h25, z, u32, show (fI (F x3) 2).toInt = Q.2.2.1 i j 2 by omega]
    have s4 : ∀ v : Nat, wt γ x25 v = if Q.2.2.1 i j 4 = (v : Int) then wt γ x18 v + kf else wt γ x18 v := fun v => by
      have z := up_w h49 h48 h47 (by rw [u45]; omega) v
      unfold wt
      rw [cB_of h51, cB_of h38, z, u45, show (fI (F x3) 3).toInt = Q.2.2.1 i j 4 by omega]
    have hL : ∀ v : Nat, wt γ x25 v = wLn (Q.2.2.1 i j) v kf (wt γ F_2 v) := fun v => by
      unfold wLn
      rw [s4 v, s2 v, s1 v]
    obtain ⟨i1, i2⟩ := ih (j + 1) (by omega) (by omega)
    refine ⟨fun v x z => i1 v x ?_, fun b hb => (i2 b hb).trans ((h50 b hb).trans ((h37 b hb).trans ((h24 b hb).trans (rfl))))⟩
    rw [hL v, z]
    rfl
theorem w42 {l2 s1 s2 e1 : Int32} {kx dd : Nat} (h2 : 0 ≤ l2.toInt) (hd : dv γ F l2.toInt.toNat = (dd : Int)) (h : tl_RModel_weigh_42 D I γ el F q0 l2 s1 s2 kx e1) : ∀ m : Nat, s1.toInt = (m : Int) → m ≤ dd → s2 = f10 m → e1 = f10 dd := by
  refine h (fun s1 s2 _ e1 => ∀ m : Nat, s1.toInt = (m : Int) → m ≤ dd → s2 = f10 m → e1 = f10 dd) ?_ ?_
  · intro l4_2 l3_2 x1 x2 h1 h2 h3 h4 h5
    intro m em hm hs
    have ex : x2.toInt = (dd : Int) := by rw [← hd]; unfold dv; rw [cB_of h3, h4]; rfl
    have e : m = dd := by have := h5; omega
    rw [hs, e]
  · intro l4_2 l3_2 x1 x2 x3 x4 k e1 h1 h2 h3 h4 h5 h6 h7 ih
    intro m em hm hs
    have ex : x2.toInt = (dd : Int) := by rw [← hd]; unfold dv; rw [cB_of h3, h4]; rfl
    refine ih (m + 1) (by omega) (by have := h5; omega) ?_
    rw [h6, hs]
    rfl
theorem w29 {P0 : gPg} {s1 e1 : Nat → va_E} {s2 : Int32} {kx : Nat} (hT : RS D I P F γ el) (hm : γ 0 q0 = 10) (hc9 : γ 0 c = 9) (hB2 : ∀ i, i < Q.1 → γ 0 (el (γ 14 c) i) = 2) (hq : rfW γ el F c Q) (hO : qOk Q) (h : tl_RModel_weigh_29 D I γ el P F q0 c s1 s2 kx e1) : ∀ m : Nat, s2.toInt = (m : Int) → m ≤ Q.1 → (∀ b, b < Q.1 → dv γ s1 b = (dpt P0 b : Int)) → (∀ v, v < 2000 → wt γ s1 v = wPg Q (dpt P0) v m) → (∀ v, v < 2000 → wt γ e1 v = wPg Q (dpt P0) v Q.1) ∧ ∀ b, b ≠ γ 9 5 → e1 b = s1 b := by
  obtain ⟨k94, k95⟩ := md_kd5 hT hm
  obtain ⟨lb, lr, rn, md, z1, ⟨z2, z3, z4⟩, -⟩ := show rk_9 γ el c (F c) from RS_o hT hc9
  refine h (fun s1 s2 _ e1 => ∀ m : Nat, s2.toInt = (m : Int) → m ≤ Q.1 → (∀ b, b < Q.1 → dv γ s1 b = (dpt P0 b : Int)) → (∀ v, v < 2000 → wt γ s1 v = wPg Q (dpt P0) v m) → (∀ v, v < 2000 → wt γ e1 v = wPg Q (dpt P0) v Q.1) ∧ ∀ b, b ≠ γ 9 5 → e1 b = s1 b) ?_ ?_
  · intro F_1 l2_1 x1 h1 h2 h3 h4 h5 h6 h7
    intro m em hm2 hd hw
    have ex : x1.toInt = (Q.1 : Int) := by rw [← h6, rs0 h3 hc9 (by decide)]; exact hq.1
    have e : m = Q.1 := by have := h7; omega
    rw [e] at hw
    exact ⟨hw, fun _ _ => rfl⟩
  · intro F_1 l2_1 x1 x2 x3 x4 x5 x6 x7 k e1 h1 h2 h3 h4 h5 h6 h7 h8 h9 h10 h11 h12 h13 h14 ih
    intro m em hm2 hd hw
    have hs := h3
    have eq1 := rs0 hs hc9 (by decide)
    have ex : x1.toInt = (Q.1 : Int) := by rw [← h6, eq1]; exact hq.1
    have hlt := h7
    have hlm : m < Q.1 := by omega
    have e2 : l2_1.toInt.toNat = m := by omega
    have hk := w42 (by omega) (by rw [e2]; exact hd m hlm) h8 0 (by decide) (Nat.zero_le _) rfl
    have e4 : x4 = el (γ 14 c) m := by rw [h10, ← h9, eq1, z1, z2, e2]; rfl
    have h74 := h13
    rw [e4] at h74
    obtain ⟨w1, w2⟩ := w74 hT hm (hB2 m hlm) hq hO hlm h74 0 (by decide) (Nat.zero_le _)
    obtain ⟨i1, i2⟩ := ih (m + 1) (by omega) (by omega) (fun b hb => by
      have z := hd b hb
      unfold dv at z ⊢
      rw [w2 _ (fun e => by rw [e, k95] at k94; cases k94)]
      exact z) (fun v hv => by
      rw [w1 v (wPg Q (dpt P0) v m) (hw v hv), hk]
      rfl)
    exact ⟨i1, fun b hb => (i2 b hb).trans (w2 b hb)⟩
theorem w7 {s1 e1 : Nat → va_E} {s2 : Int32} {kx : Nat} (h : tl_RModel_weigh_7 D I γ el P F q0 s1 s2 kx e1) : 0 ≤ s2.toInt → (∀ v : Nat, (v : Int) < s2.toInt → v < 2000 → wt γ s1 v = 0) → (∀ v, v < 2000 → wt γ e1 v = 0) ∧ ∀ b, b ≠ γ 9 5 → e1 b = s1 b := by
  refine h (fun s1 s2 _ e1 => 0 ≤ s2.toInt → (∀ v : Nat, (v : Int) < s2.toInt → v < 2000 → wt γ s1 v = 0) → (∀ v, v < 2000 → wt γ e1 v = 0) ∧ ∀ b, b ≠ γ 9 5 → e1 b = s1 b) ?_ ?_
  · intro F_1 l2_1 h1 h2 h3 h4 h5 h6
    intro h0 hv
    exact ⟨fun v hv2 => hv v (by have := h6; omega) hv2, fun _ _ => rfl⟩
  · intro F_1 l2_1 x1 x2 x3 x4 k e1 h1 h2 h3 h4 h5 h6 h7 h8 h9 h10 h11 h12 ih
    intro h0 hv
    have p1 := cB_of h8
    have p2 := cB_of h11
    have hz : (l2_1.toNatClampNeg : Int) = l2_1.toInt := g_nn h0
    obtain ⟨i1, i2⟩ := ih (by omega) (fun v hv1 hv2 => by
      show cB (x3 (γ 9 5)) v = 0
      rw [p2, h9]
      unfold upd
      by_cases e : v = l2_1.toNatClampNeg
      · rw [if_pos e]
      · rw [if_neg e]
        have w := hv v (by omega) hv2
        unfold wt at w
        rw [p1] at w
        exact w)
    exact ⟨i1, fun b hb => (i2 b hb).trans (h10 b hb)⟩
/-- weigh: the weights -/
theorem wg_r (hT : RS D I P F γ el) (hm : γ 0 q0 = 10) (hc9 : γ 0 c = 9) (hB2 : ∀ i, i < Q.1 → γ 0 (el (γ 14 c) i) = 2) (hq : rfW γ el F c Q) (hO : qOk Q) (h40 : Q.1 ≤ 40) (hP0 : 0 < Q.1) (h : tr_RModel_weigh D I γ el P F q0 c F1) : (∀ v, v < 2000 → wt γ F1 v = wPg Q (dpt Q) v Q.1) ∧ ∀ b, b ≠ γ 9 4 → b ≠ γ 9 5 → F1 b = F b := by
  obtain ⟨k94, k95⟩ := md_kd5 hT hm
  refine h (fun F1 => (∀ v, v < 2000 → wt γ F1 v = wPg Q (dpt Q) v Q.1) ∧ ∀ b, b ≠ γ 9 4 → b ≠ γ 9 5 → F1 b = F b) ?_
  · intro x1 x2 x3 h1 h2 h3 h4 h5 h6 h7
    obtain ⟨a1, a2⟩ := dp_tr hT hm hc9 hB2 hq hO h40 hP0 h5
    obtain ⟨b1, b2⟩ := w7 h6 (by decide) (fun v hv => by rw [show Int32.toInt 0 = 0 from by decide] at hv; omega)
    obtain ⟨c1, c2⟩ := w29 (P0 := Q) hT hm hc9 hB2 hq hO h7 0 (by decide) (Nat.zero_le _) (fun b hb => by
      have z := a1 b hb
      unfold dv at z ⊢
      rw [b2 _ (fun e => by rw [e, k95] at k94; cases k94)]
      exact z) (fun v hv => b1 v hv)
    exact ⟨c1, fun b h4 h5 => (c2 b h5).trans ((b2 b h5).trans (a2 b h4))⟩
end WGR
end
