/-! loops of the reference -/
abbrev bt (x : Int64) (b : Nat) : Bool := x.toBitVec.getLsbD b
theorem bt_sh {x u v : Int64} {i : Int32} (hu : u = (x.toUInt64 >>> (i.toInt64.toUInt64 &&& Int64.toUInt64 63)).toInt64) (hv : v = u &&& 1) (h0 : 0 ≤ i.toInt) (h1 : i.toInt < 64) : (v = 0 → bt x i.toInt.toNat = false) ∧ (¬ v = 0 → bt x i.toInt.toNat = true) := by
  have h := bit_sh hu hv h0
  rw [show i.toInt.toNat % 64 = i.toInt.toNat by omega] at h
  exact h
theorem bt_or {x y z : Int64} {i : Int32} (hy : y = 1 <<< (i.toInt64 &&& 63)) (hz : z = x ||| y) (h0 : 0 ≤ i.toInt) (h1 : i.toInt < 64) {b : Nat} (hb : b < 64) : bt z b = (bt x b || decide (b = i.toInt.toNat)) := by
  show z.toBitVec.getLsbD b = _
  rw [hz, Int64.toBitVec_or, BitVec.getLsbD_or, hy, lb_Qcnt i h0]
  have h2 : ((1 : Int64) <<< (Int64.ofNat (i.toInt.toNat % 64 % 64))).toBitVec.getLsbD b = decide (b = i.toInt.toNat % 64) := r1_bit ⟨i.toInt.toNat % 64, by omega⟩ ⟨b, hb⟩
  rw [Nat.mod_mod] at h2
  rw [h2, show i.toInt.toNat % 64 = i.toInt.toNat by omega]
theorem bt_one {u v : Int64} (hv : v = u &&& 1) (h : ¬ v = 0) : v = 1 := by
  have h0 : bt v 0 = true := by
    refine Classical.byContradiction fun hn => h ?_
    rw [Bool.not_eq_true] at hn
    apply Int64.toBitVec_inj.mp
    apply BitVec.eq_of_getLsbD_eq
    intro j hj
    have hz : (0 : Int64).toBitVec.getLsbD j = false := by show (0#64).getLsbD j = false; exact BitVec.getLsbD_zero
    rw [hz]
    by_cases e : j = 0
    · rw [e]; exact hn
    · have h1 : ∀ j : Fin 64, j.val ≠ 0 → (1 : Int64).toBitVec.getLsbD j.val = false := by decide +kernel
      rw [hv, Int64.toBitVec_and, BitVec.getLsbD_and, h1 ⟨j, hj⟩ e, Bool.and_false]
  apply Int64.toBitVec_inj.mp
  apply BitVec.eq_of_getLsbD_eq
  intro j hj
  have h1 : ∀ j : Fin 64, (1 : Int64).toBitVec.getLsbD j.val = decide (j.val = 0) := by decide +kernel
  rw [h1 ⟨j, hj⟩]
  by_cases e : j = 0
  · subst e
    rw [decide_eq_true rfl]
    exact h0
  · rw [decide_eq_false e, hv, Int64.toBitVec_and, BitVec.getLsbD_and, h1 ⟨j, hj⟩, decide_eq_false e, Bool.and_false]
theorem bt_z {b : Nat} : bt 0 b = false := by show (0#64).getLsbD b = false; exact BitVec.getLsbD_zero
theorem bt_1 {b : Nat} (hb : b < 64) : bt 1 b = decide (b = 0) := by
  have h1 : ∀ j : Fin 64, (1 : Int64).toBitVec.getLsbD j.val = decide (j.val = 0) := by decide +kernel
  exact h1 ⟨b, hb⟩
theorem bt_andn {x y z w : Int64} (hz : z = y ^^^ (-1)) (hw : w = x &&& z) {b : Nat} (hb : b < 64) : bt w b = (bt x b && !bt y b) := by
  show w.toBitVec.getLsbD b = _
  have hm1 : ∀ j : Fin 64, ((-1 : Int64)).toBitVec.getLsbD j.val = true := by decide +kernel
  rw [hw, Int64.toBitVec_and, BitVec.getLsbD_and, hz, Int64.toBitVec_xor, BitVec.getLsbD_xor, hm1 ⟨b, hb⟩]
  show (x.toBitVec.getLsbD b && (y.toBitVec.getLsbD b ^^ true)) = (x.toBitVec.getLsbD b && !y.toBitVec.getLsbD b)
  generalize y.toBitVec.getLsbD b = p
  generalize x.toBitVec.getLsbD b = q
  cases p <;> cases q <;> rfl
def wv (f s j : Int) : Int := if j = 0 then f else s
section DPT
variable {D : va_G} {I : FieldType → ClassId} {P : List Nat} {F F1 : Nat → va_E} {γ el : Nat → Nat → Nat} {q0 q1 c i : Nat} {Q : gPg} {a1 : Int32}
theorem rfW_rs (hT : RS D I P F γ el) (hq : rfW γ el F c Q) (hc9 : γ 0 c = 9) (hB2 : ∀ i, i < Q.1 → γ 0 (el (γ 14 c) i) = 2) (hs : rStr γ [] F F1) : rfW γ el F1 c Q := by
  obtain ⟨h1, h2, h3⟩ := hq
  refine ⟨by rw [rs0 hs hc9 (by decide)]; exact h1, h2, fun b hb => ?_⟩
  exact rfBw_c hT (hB2 b hb) (h3 b hb) (fun x hx => by
    rcases hx with hx | hx
    · exact rs0 hs hx (by decide)
    · exact rs0 hs hx (by decide)) rfl rfl ⟨rfl, rfl⟩
abbrev bF (F : Nat → va_E) (γ el : Nat → Nat → Nat) (c i : Nat) : Int := (fI (F (el (γ 14 c) i)) 2).toInt
abbrev bS (F : Nat → va_E) (γ el : Nat → Nat → Nat) (c i : Nat) : Int := (fI (F (el (γ 14 c) i)) 3).toInt
abbrev bW (F : Nat → va_E) (γ el : Nat → Nat → Nat) (c i : Nat) : Int := wnV (fI (F (γ 15 (el (γ 14 c) i))) 0).toInt (bF F γ el c i) (bS F γ el c i)
theorem wn_b {op f s : Int} : 0 ≤ wnV op f s ∧ wnV op f s ≤ 2 := by
  unfold wnV
  split
  · decide
  · split <;> decide
/-- the ways of a block are its goals -/
theorem wy_ed (hq : rfW γ el F c Q) (hO : qOk Q) (hi : i < Q.1) (y : Nat) : (∃ j : Int, 0 ≤ j ∧ j < bW F γ el c i ∧ (wv (bF F γ el c i) (bS F γ el c i) j).toNat = y) ↔ Ed Q i y := by
  have h1 := qbh (k := 0) (L := fun g _ => decide (g = y)) hq hO hi
  rw [bh_wn, decide_eq_true_eq, decide_eq_true_eq] at h1
  have h2 : goX Q (fun g => decide (g = y) = true) i ↔ Ed Q i y := by
    constructor
    · rintro ⟨t, g, w1, w2, w3, w4⟩
      rw [decide_eq_true_eq] at w4
      exact ⟨hi, t, w1, by rw [w2, w4]⟩
    · rintro ⟨w0, t, w1, w2⟩
      have w3 := (hO.1 i t hi w1 (by omega)).2
      exact ⟨t, y, w1, w2, by omega, decide_eq_true rfl⟩
  rw [← h2, ← h1]
  have hb := wn_b (op := (fI (F (γ 15 (el (γ 14 c) i))) 0).toInt) (f := (fI (F (el (γ 14 c) i)) 2).toInt) (s := (fI (F (el (γ 14 c) i)) 3).toInt)
  constructor
  · rintro ⟨j, w1, w2, w3⟩
    have w2 : j < wnV (fI (F (γ 15 (el (γ 14 c) i))) 0).toInt (fI (F (el (γ 14 c) i)) 2).toInt (fI (F (el (γ 14 c) i)) 3).toInt := w2
    unfold wv at w3
    by_cases e : j = 0
    · rw [if_pos e] at w3
      exact Or.inl ⟨by omega, w3⟩
    · rw [if_neg e] at w3
      exact Or.inr ⟨by omega, w3⟩
  · rintro (w | w)
    · exact ⟨0, by decide, w.1, by unfold wv; rw [if_pos rfl]; exact w.2⟩
    · exact ⟨1, by decide, w.1, by unfold wv; rw [if_neg (by decide)]; exact w.2⟩
theorem wy_b (hT : RS D I P F γ el) (hB : γ 0 (el (γ 14 c) i) = 2) (j : Int) : 0 ≤ wv (bF F γ el c i) (bS F γ el c i) j ∧ wv (bF F γ el c i) (bS F γ el c i) j < 40 := by
  obtain ⟨l, nn, p, s, v1, ⟨g1, g2, g3⟩, v3, v4, v5, v6, v7, v8, v9, -⟩ := show rk_2 γ (el (γ 14 c) i) (F (el (γ 14 c) i)) from RS_o hT hB
  have e1 : bF F γ el c i = p.toInt := by show (fI (F (el (γ 14 c) i)) 2).toInt = _; rw [v1]; rfl
  have e2 : bS F γ el c i = s.toInt := by show (fI (F (el (γ 14 c) i)) 3).toInt = _; rw [v1]; rfl
  have v81 := v8.1
  have v82 := v8.2
  have v91 := v9.1
  have v92 := v9.2
  unfold wv
  split
  · omega
  · omega
/-- a block's cells as the relations name them -/
theorem blk_c {x1 x2 x6 : Nat} {l x4 x5 x7 x8 : Int32} (hT : RS D I P F γ el) (hc9 : γ 0 c = 9) (hB2 : ∀ i, i < Q.1 → γ 0 (el (γ 14 c) i) = 2) (hi : l.toInt.toNat < Q.1) (h1 : fR (F c) 0 = x1) (h2 : x2 = el x1 l.toInt.toNat) : x2 = el (γ 14 c) l.toInt.toNat ∧ (fI (F x2) 2 = x4 → fI (F x2) 3 = x5 → fR (F x2) 1 = x6 → fI (F x6) 0 = x7 → tr_RBlock_ways x4 x5 x7 x8 → x4.toInt = bF F γ el c l.toInt.toNat ∧ x5.toInt = bS F γ el c l.toInt.toNat ∧ x8.toInt = bW F γ el c l.toInt.toNat) := by
  obtain ⟨lb, lr, rn, md, z1, ⟨z2, z3, z4⟩, -⟩ := show rk_9 γ el c (F c) from RS_o hT hc9
  have e1 : x1 = γ 14 c := by rw [← h1, z1, z2]; rfl
  have e2 : x2 = el (γ 14 c) l.toInt.toNat := by rw [h2, e1]
  refine ⟨e2, fun h3 h4 h5 h6 h7 => ?_⟩
  have hB := hB2 _ hi
  rw [← e2] at hB
  obtain ⟨l', nn, p, s, v1, ⟨g1, g2, g3⟩, v3, v4, v5, v6, v7, v8, v9, -⟩ := show rk_2 γ x2 (F x2) from RS_o hT hB
  have e6 : x6 = γ 15 x2 := by rw [← h5, v1, g2]; rfl
  have e4 : x4.toInt = bF F γ el c l.toInt.toNat := by rw [← h3, e2]
  have e5 : x5.toInt = bS F γ el c l.toInt.toNat := by rw [← h4, e2]
  refine ⟨e4, e5, ?_⟩
  rw [ws_tr h7, e4, e5, ← h6, e6, e2]
theorem wy_v {l x4 x5 x9 : Int32} (h : tr_RBlock_way2 l x4 x5 x9) : x9.toInt = wv x4.toInt x5.toInt l.toInt := by
  unfold wv
  rcases wy_tr h with ⟨z1, z2⟩ | ⟨z1, z2⟩
  · rw [if_pos z1, z2]
  · rw [if_neg z1, z2]
def sdR (Q : gPg) (a1 : Int32) (x : Int64) : Prop := ∀ b, b < 64 → bt x b = true → Wk (Ed Q) (fun b => b = 0) (fun b => (b : Int) = a1.toInt) b
theorem r48 {l2 s3 e2 : Int64} {l5 s1 s2 e1 : Int32} {kx : Nat} (hT : RS D I P F γ el) (hc9 : γ 0 c = 9) (hB2 : ∀ i, i < Q.1 → γ 0 (el (γ 14 c) i) = 2) (hq : rfW γ el F c Q) (hO : qOk Q) (hi : l5.toInt.toNat < Q.1) (hW : Wk (Ed Q) (fun b => b = 0) (fun b => (b : Int) = a1.toInt) l5.toInt.toNat) (h : tl_RModel_reached_48 D I γ el l2 F c l5 a1 s1 s2 s3 kx e1 e2) : 0 ≤ s1.toInt → sdR Q a1 s3 → sdR Q a1 e2 ∧ (∀ b, b < 64 → bt s3 b = true → bt e2 b = true) ∧ (e1.toInt = 0 → s2.toInt = 0 ∧ e2 = s3 ∧ ∀ j : Int, s1.toInt ≤ j → j < bW F γ el c l5.toInt.toNat → wv (bF F γ el c l5.toInt.toNat) (bS F γ el c l5.toInt.toNat) j = a1.toInt ∨ bt s3 (wv (bF F γ el c l5.toInt.toNat) (bS F γ el c l5.toInt.toNat) j).toNat = true) := by
  refine h (fun s1 s2 s3 _ e1 e2 => 0 ≤ s1.toInt → sdR Q a1 s3 → sdR Q a1 e2 ∧ (∀ b, b < 64 → bt s3 b = true → bt e2 b = true) ∧ (e1.toInt = 0 → s2.toInt = 0 ∧ e2 = s3 ∧ ∀ j : Int, s1.toInt ≤ j → j < bW F γ el c l5.toInt.toNat → wv (bF F γ el c l5.toInt.toNat) (bS F γ el c l5.toInt.toNat) j = a1.toInt ∨ bt s3 (wv (bF F γ el c l5.toInt.toNat) (bS F γ el c l5.toInt.toNat) j).toNat = true)) ?_ ?_ ?_ ?_
  · intro l6_3 l4_3 l2_3 x1 x2 x3 x4 x5 x6 x7 x8 h1 h2 h3 h4 h5 h6 h7 h8 h9 h10 h11 h12 h13 h14 h15
    intro h0 hS
    obtain ⟨e2, eB⟩ := blk_c (l := l5) hT hc9 hB2 hi h5 h6
    obtain ⟨e4, e5, e8⟩ := eB h9 h10 h11 h12 h14
    exact ⟨hS, fun _ _ z => z, fun z => ⟨z, rfl, fun j h1 h2 => absurd h2 (by have := h15; omega)⟩⟩
  · intro l6_3 l4_3 l2_3 x1 x2 x3 x4 x5 x6 x7 x8 x9 x10 k e1 e2 h1 h2 h3 h4 h5 h6 h7 h8 h9 h10 h11 h12 h13 h14 h15 h16 h17 h18 h19 h20 ih
    intro h0 hS
    obtain ⟨e2, eB⟩ := blk_c (l := l5) hT hc9 hB2 hi h5 h6
    obtain ⟨e4, e5, e8⟩ := eB h9 h10 h11 h12 h14
    have ey := wy_v h18
    rw [e4, e5] at ey
    have yb := wy_b hT (hB2 _ hi) l6_3.toInt
    rw [← ey] at yb
    have hlt := h15
    obtain ⟨i1, i2, i3⟩ := ih (by omega) hS
    refine ⟨i1, i2, fun z => ?_⟩
    obtain ⟨j1, j2, j3⟩ := i3 z
    refine ⟨j1, j2, fun j q1 q2 => ?_⟩
    by_cases e : j = l6_3.toInt
    · rw [e, ← ey]
      exact Or.inl h19
    · exact j3 j (by omega) q2
  · intro l6_3 l4_3 l2_3 x1 x2 x3 x4 x5 x6 x7 x8 x9 x10 x11 x12 x13 x14 k e1 e2 h1 h2 h3 h4 h5 h6 h7 h8 h9 h10 h11 h12 h13 h14 h15 h16 h17 h18 h19 h20 h21 h22 h23 h24 h25 ih
    intro h0 hS
    obtain ⟨e2, eB⟩ := blk_c (l := l5) hT hc9 hB2 hi h5 h6
    obtain ⟨e4, e5, e8⟩ := eB h9 h10 h11 h12 h14
    have ey := wy_v h18
    rw [e4, e5] at ey
    have yb := wy_b hT (hB2 _ hi) l6_3.toInt
    rw [← ey] at yb
    have hlt := h15
    have hor : ∀ b, b < 64 → bt x13 b = (bt l2_3 b || decide (b = x9.toInt.toNat)) := fun b hb => bt_or h23 h24 yb.1 (by omega) hb
    have hy : Ed Q l5.toInt.toNat x9.toInt.toNat := (wy_ed hq hO hi _).mp ⟨l6_3.toInt, h0, by omega, by rw [ey]⟩
    obtain ⟨i1, i2, i3⟩ := ih (by omega) (fun b hb z => by
      rw [hor b hb, Bool.or_eq_true, decide_eq_true_eq] at z
      rcases z with z | z
      · exact hS b hb z
      · rw [z]
        exact Wk_s hW hy (by have := h19; omega))
    exact ⟨i1, fun b hb z => i2 b hb (by rw [hor b hb, z]; rfl), fun z => absurd (i3 z).1 (by decide)⟩
  · intro l6_3 l4_3 l2_3 x1 x2 x3 x4 x5 x6 x7 x8 x9 x10 x11 x12 k e1 e2 h1 h2 h3 h4 h5 h6 h7 h8 h9 h10 h11 h12 h13 h14 h15 h16 h17 h18 h19 h20 h21 h22 h23 ih
    intro h0 hS
    obtain ⟨e2, eB⟩ := blk_c (l := l5) hT hc9 hB2 hi h5 h6
    obtain ⟨e4, e5, e8⟩ := eB h9 h10 h11 h12 h14
    have ey := wy_v h18
    rw [e4, e5] at ey
    have yb := wy_b hT (hB2 _ hi) l6_3.toInt
    rw [← ey] at yb
    have hlt := h15
    obtain ⟨i1, i2, i3⟩ := ih (by omega) hS
    refine ⟨i1, i2, fun z => ?_⟩
    obtain ⟨j1, j2, j3⟩ := i3 z
    refine ⟨j1, j2, fun j q1 q2 => ?_⟩
    by_cases e : j = l6_3.toInt
    · rw [e, ← ey]
      exact Or.inr ((bt_sh h20 h21 yb.1 (by omega)).2 h22)
    · exact j3 j (by omega) q2
theorem r22 {l2 s3 e2 : Int64} {s1 s2 e1 : Int32} {kx : Nat} (hT : RS D I P F γ el) (hc9 : γ 0 c = 9) (hB2 : ∀ i, i < Q.1 → γ 0 (el (γ 14 c) i) = 2) (hq : rfW γ el F c Q) (hO : qOk Q) (h40 : Q.1 ≤ 40) (h : tl_RModel_reached_22 D I γ el l2 F c a1 s1 s2 s3 kx e1 e2) : 0 ≤ s1.toInt → sdR Q a1 s3 → sdR Q a1 e2 ∧ (∀ b, b < 64 → bt s3 b = true → bt e2 b = true) ∧ (e1.toInt = 0 → s2.toInt = 0 ∧ e2 = s3 ∧ ∀ b y : Nat, s1.toInt ≤ (b : Int) → b < Q.1 → bt s3 b = true → Ed Q b y → (y : Int) = a1.toInt ∨ bt s3 y = true) := by
  refine h (fun s1 s2 s3 _ e1 e2 => 0 ≤ s1.toInt → sdR Q a1 s3 → sdR Q a1 e2 ∧ (∀ b, b < 64 → bt s3 b = true → bt e2 b = true) ∧ (e1.toInt = 0 → s2.toInt = 0 ∧ e2 = s3 ∧ ∀ b y : Nat, s1.toInt ≤ (b : Int) → b < Q.1 → bt s3 b = true → Ed Q b y → (y : Int) = a1.toInt ∨ bt s3 y = true)) ?_ ?_ ?_
  · intro l5_2 l4_2 l2_2 x1 h1 h2 h3 h4 h5 h6
    intro h0 hS
    have ex : x1.toInt = (Q.1 : Int) := by rw [← h5]; exact hq.1
    exact ⟨hS, fun _ _ z => z, fun z => ⟨z, rfl, fun b y h1 h2 => absurd h2 (by have := h6; omega)⟩⟩
  · intro l5_2 l4_2 l2_2 x1 x2 x3 x4 x5 x6 k e1 e2 h1 h2 h3 h4 h5 h6 h7 h8 h9 h10 h11 ih
    intro h0 hS
    have ex : x1.toInt = (Q.1 : Int) := by rw [← h5]; exact hq.1
    have hlt := h6
    have hi : l5_2.toInt.toNat < Q.1 := by omega
    have hb := (bt_sh h7 h8 h0 (by omega)).2 h9
    obtain ⟨y1, y2, y3⟩ := r48 hT hc9 hB2 hq hO hi (hS _ (by omega) hb) h10 (by decide) hS
    obtain ⟨i1, i2, i3⟩ := ih (by omega) y1
    refine ⟨i1, fun b hb z => i2 b hb (y2 b hb z), fun z => ?_⟩
    obtain ⟨j1, j2, j3⟩ := i3 z
    obtain ⟨w1, w2, w3⟩ := y3 j1
    rw [w2] at j2 j3
    refine ⟨w1, j2, fun b y q1 q2 q3 q4 => ?_⟩
    by_cases e : (b : Int) = l5_2.toInt
    · have e2 : b = l5_2.toInt.toNat := by omega
      rw [e2] at q4
      obtain ⟨j, u1, u2, u3⟩ := (wy_ed hq hO hi y).mpr q4
      have yb := wy_b hT (hB2 _ hi) j
      rcases w3 j (by rw [show Int32.toInt 0 = 0 from by decide]; exact u1) u2 with v | v
      · exact Or.inl (by omega)
      · rw [u3] at v
        exact Or.inr v
    · exact j3 b y (by omega) q2 q3 q4
  · intro l5_2 l4_2 l2_2 x1 x2 x3 x4 k e1 e2 h1 h2 h3 h4 h5 h6 h7 h8 h9 h10 ih
    intro h0 hS
    have ex : x1.toInt = (Q.1 : Int) := by rw [← h5]; exact hq.1
    have hlt := h6
    have hi : l5_2.toInt.toNat < Q.1 := by omega
    have hb := (bt_sh h7 h8 h0 (by omega)).1 h9
    obtain ⟨i1, i2, i3⟩ := ih (by omega) hS
    refine ⟨i1, i2, fun z => ?_⟩
    obtain ⟨j1, j2, j3⟩ := i3 z
    refine ⟨j1, j2, fun b y q1 q2 q3 q4 => ?_⟩
    by_cases e : (b : Int) = l5_2.toInt
    · rw [show b = l5_2.toInt.toNat by omega, hb] at q3
      cases q3
    · exact j3 b y (by omega) q2 q3 q4
def clR (Q : gPg) (a1 : Int32) (x : Int64) : Prop := ∀ b y : Nat, b < Q.1 → bt x b = true → Ed Q b y → (y : Int) = a1.toInt ∨ bt x y = true
theorem r11 {s2 e1 : Int64} {s1 : Int32} {kx : Nat} (hT : RS D I P F γ el) (hc9 : γ 0 c = 9) (hB2 : ∀ i, i < Q.1 → γ 0 (el (γ 14 c) i) = 2) (hq : rfW γ el F c Q) (hO : qOk Q) (h40 : Q.1 ≤ 40) (h : tl_RModel_reached_11 D I γ el F c a1 s1 s2 kx e1) : sdR Q a1 s2 → bt s2 0 = true → (s1.toInt = 0 → clR Q a1 s2) → sdR Q a1 e1 ∧ bt e1 0 = true ∧ clR Q a1 e1 := by
  refine h (fun s1 s2 _ e1 => sdR Q a1 s2 → bt s2 0 = true → (s1.toInt = 0 → clR Q a1 s2) → sdR Q a1 e1 ∧ bt e1 0 = true ∧ clR Q a1 e1) ?_ ?_
  · intro l4_1 l2_1 h1 h2 h3
    intro hS h0 hC
    exact ⟨hS, h0, hC h3⟩
  · intro l4_1 l2_1 x1 x2 k e1 h1 h2 h3 h4 ih
    intro hS h0 hC
    obtain ⟨y1, y2, y3⟩ := r22 hT hc9 hB2 hq hO h40 h4 (by decide) hS
    refine ih y1 (y2 0 (by decide) h0) (fun z => ?_)
    obtain ⟨w1, w2, w3⟩ := y3 z
    rw [w2]
    exact fun b y hb q1 q2 => w3 b y (by rw [show Int32.toInt 0 = 0 from by decide]; omega) hb q1 q2
theorem re_tr {x : Int64} (hT : RS D I P F γ el) (hc9 : γ 0 c = 9) (hB2 : ∀ i, i < Q.1 → γ 0 (el (γ 14 c) i) = 2) (hq : rfW γ el F c Q) (hO : qOk Q) (h40 : Q.1 ≤ 40) (hP0 : 0 < Q.1) (h : tr_RModel_reached D I γ el F c a1 x) : ∀ b, b < 64 → (bt x b = true ↔ Wk (Ed Q) (fun b => b = 0) (fun b => (b : Int) = a1.toInt) b) := by
  refine h (fun x => ∀ b, b < 64 → (bt x b = true ↔ Wk (Ed Q) (fun b => b = 0) (fun b => (b : Int) = a1.toInt) b)) ?_ ?_
  · intro x1 h1 h2
    have hne := h1
    obtain ⟨y1, y2, y3⟩ := r11 hT hc9 hB2 hq hO h40 h2 (fun b hb z => by
      rw [bt_1 hb, decide_eq_true_eq] at z
      rw [z]
      exact Wk_i rfl (by omega)) (by rw [bt_1 (by decide)]; rfl) (fun z => absurd z (by decide))
    intro b hb
    refine ⟨fun z => y1 b hb z, fun z => ?_⟩
    refine (z (fun b => b < Q.1 ∧ bt x1 b = true) (fun b h1 _ => ⟨by omega, by rw [h1]; exact y2⟩) (fun a b h1 h2 h3 => ?_)).2
    obtain ⟨w0, t, w1, w2⟩ := id h2
    exact ⟨by have := (hO.1 a t w0 w1 (by omega)).2; omega, (y3 a b h1.1 h1.2 h2).resolve_left h3⟩
  · intro h1
    intro b hb
    rw [bt_z]
    refine ⟨fun z => (nomatch z), fun z => ?_⟩
    exact (z (fun _ => False) (fun b q1 q2 => q2 (by rw [q1]; have := h1; omega)) (fun _ _ q _ _ => q)).elim
theorem lea2 {s1 : Int32} {kx : Nat} (hT : RS D I P F γ el) (hB : γ 0 (el (γ 14 c) i) = 2) (h : tl_RModel_leads_2 D I γ el F (el (γ 14 c) i) a1 s1 kx) : 0 ≤ s1.toInt → (kx = 27 → ∀ j : Int, s1.toInt ≤ j → j < bW F γ el c i → wv (bF F γ el c i) (bS F γ el c i) j ≠ a1.toInt) ∧ (kx = 19 → ∃ j : Int, 0 ≤ j ∧ j < bW F γ el c i ∧ wv (bF F γ el c i) (bS F γ el c i) j = a1.toInt) := by
  obtain ⟨l', nn, p, s, v1, ⟨g1, g2, g3⟩, v3, v4, v5, v6, v7, v8, v9, -⟩ := show rk_2 γ (el (γ 14 c) i) (F (el (γ 14 c) i)) from RS_o hT hB
  have er : fR (F (el (γ 14 c) i)) 1 = γ 15 (el (γ 14 c) i) := by rw [v1, g2]; rfl
  refine h (fun s1 kx => 0 ≤ s1.toInt → (kx = 27 → ∀ j : Int, s1.toInt ≤ j → j < bW F γ el c i → wv (bF F γ el c i) (bS F γ el c i) j ≠ a1.toInt) ∧ (kx = 19 → ∃ j : Int, 0 ≤ j ∧ j < bW F γ el c i ∧ wv (bF F γ el c i) (bS F γ el c i) j = a1.toInt)) ?_ ?_ ?_
  · intro l2_1 x1 x2 x3 x4 x5 h1 h2 h3 h4 h5 h6 h7 h8
    intro h0
    have e8 := ws_tr h7
    rw [← h2, ← h3, ← h5, ← h4, er] at e8
    have e8 : _ = bW F γ el c i := e8
    exact ⟨fun _ j q1 q2 => absurd q2 (by have := h8; omega), fun z => absurd z (by decide)⟩
  · intro l2_1 x1 x2 x3 x4 x5 x6 x7 k h1 h2 h3 h4 h5 h6 h7 h8 h9 h10 h11 h12 ih
    intro h0
    have e8 := ws_tr h7
    rw [← h2, ← h3, ← h5, ← h4, er] at e8
    have e8 : _ = bW F γ el c i := e8
    have ey := wy_v h10
    rw [← h2, ← h3] at ey
    have hlt := h8
    obtain ⟨i1, i2⟩ := ih (by omega)
    refine ⟨fun z j q1 q2 => ?_, i2⟩
    by_cases e : j = l2_1.toInt
    · rw [e]
      show wv (fI (F (el (γ 14 c) i)) 2).toInt (fI (F (el (γ 14 c) i)) 3).toInt l2_1.toInt ≠ _
      rw [← ey]
      exact h11
    · exact i1 z j (by omega) q2
  · intro l2_1 x1 x2 x3 x4 x5 x6 h1 h2 h3 h4 h5 h6 h7 h8 h9 h10 h11
    intro h0
    have e8 := ws_tr h7
    rw [← h2, ← h3, ← h5, ← h4, er] at e8
    have e8 : _ = bW F γ el c i := e8
    have ey := wy_v h10
    rw [← h2, ← h3] at ey
    have hlt := h8
    exact ⟨fun z => absurd z (by decide), fun _ => ⟨l2_1.toInt, h0, by omega, ey.symm.trans h11⟩⟩
theorem lea_tr {r : Int32} (hT : RS D I P F γ el) (hB : γ 0 (el (γ 14 c) i) = 2) (hq : rfW γ el F c Q) (hO : qOk Q) (hi : i < Q.1) (h0 : 0 ≤ a1.toInt) (h : tr_RModel_leads D I γ el F (el (γ 14 c) i) a1 r) : (r.toInt = 0 ∧ ¬ Ed Q i a1.toInt.toNat) ∨ (r.toInt = 1 ∧ Ed Q i a1.toInt.toNat) := by
  refine h (fun r => (r.toInt = 0 ∧ ¬ Ed Q i a1.toInt.toNat) ∨ (r.toInt = 1 ∧ Ed Q i a1.toInt.toNat)) ?_ ?_
  · intro h1
    have z := (lea2 hT hB h1 (by decide)).1 rfl
    refine Or.inl ⟨by decide, fun w => ?_⟩
    obtain ⟨j, u1, u2, u3⟩ := (wy_ed hq hO hi _).mpr w
    have yb := wy_b hT hB j
    exact z j (by rw [show Int32.toInt 0 = 0 from by decide]; exact u1) u2 (by omega)
  · intro h1
    obtain ⟨j, u1, u2, u3⟩ := (lea2 hT hB h1 (by decide)).2 rfl
    exact Or.inr ⟨by decide, (wy_ed hq hO hi _).mp ⟨j, u1, u2, by rw [u3]⟩⟩
end DPT
