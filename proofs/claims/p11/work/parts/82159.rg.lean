section RRG
variable {f : Nat → Int32} {n : Int32} {i : Nat} {at0 kd va : Int32} {xt : gTx} {rw : Int} {bk : Bool} {P : gPg}
/-- the goals that were read are those of the program -/
def gsR (gN : Int32) (gs : Nat → Int32) (P : gPg) : Prop := (∀ k : Nat, (k : Int) < gN.toInt → ∃ b t : Nat, b < P.1 ∧ t < 2 ∧ P.2.2.2 b t = (gs k).toInt ∧ P.2.2.2 b t ≠ -1) ∧ ∀ b t : Nat, b < P.1 → t < 2 → P.2.2.2 b t ≠ -1 → ∃ k : Nat, (k : Int) < gN.toInt ∧ (gs k).toInt = P.2.2.2 b t
theorem gsR_L {gN : Int32} {gs : Nat → Int32} {l : Nat → Int} (h : gsR gN gs P) : gsR gN gs (pgL P l) := h
theorem gsR_B {gN : Int32} {gs : Nat → Int32} (h : gsR gN gs P) : gsR gN gs (pgB P) := by
  refine ⟨fun k hk => ?_, fun b t hb ht hn => ?_⟩
  · obtain ⟨b, t, q1, q2, q3, q4⟩ := h.1 k hk
    have e : (pgB P).2.2.2 b t = P.2.2.2 b t := if_neg (by omega)
    exact ⟨b, t, by show b < P.1 + 1; omega, q2, by rw [e]; exact q3, by rw [e]; exact q4⟩
  · have hb2 : b < P.1 + 1 := hb
    by_cases c : b = P.1
    · exact absurd (show (pgB P).2.2.2 b t = -1 from if_pos c) hn
    · have e : (pgB P).2.2.2 b t = P.2.2.2 b t := if_neg c
      rw [e] at hn ⊢
      exact h.2 b t (by omega) ht hn
theorem gsR_G {gN gN2 v : Int32} {gs gs2 : Nat → Int32} {g : Int} {b0 : Nat} (h : gsR gN gs P) (h0 : 0 ≤ gN.toInt) (hb : b0 + 1 = P.1) (hsl : P.2.2.2 b0 (if P.2.2.2 b0 0 = -1 then 0 else 1) = -1) (hv : v.toInt = g) (hg : 0 ≤ g) (hN : gN2.toInt = gN.toInt + 1) (h1 : ∀ k : Nat, (k : Int) < gN.toInt → gs2 k = gs k) (h2 : gs2 gN.toInt.toNat = v) : gsR gN2 gs2 (pgG P g) := by
  have sl : (if P.2.2.2 b0 0 = -1 then 0 else 1) < 2 := by split <;> decide
  have at1 : (pgG P g).2.2.2 b0 (if P.2.2.2 b0 0 = -1 then 0 else 1) = g := if_pos ⟨hb, rfl⟩
  have ot : ∀ b t : Nat, ¬ (b = b0 ∧ t = (if P.2.2.2 b0 0 = -1 then 0 else 1)) → (pgG P g).2.2.2 b t = P.2.2.2 b t := fun b t hn => by
    refine if_neg (fun z => hn ?_)
    have e : b = b0 := by omega
    exact ⟨e, by rw [z.2, e]⟩
  refine ⟨fun k hk => ?_, fun b t hb2 ht hn => ?_⟩
  · by_cases c : (k : Int) < gN.toInt
    · obtain ⟨b, t, q1, q2, q3, q4⟩ := h.1 k c
      have ne : ¬ (b = b0 ∧ t = (if P.2.2.2 b0 0 = -1 then 0 else 1)) := fun z => by rw [z.1, z.2] at q4; exact q4 hsl
      exact ⟨b, t, q1, q2, by rw [ot b t ne, h1 k c]; exact q3, by rw [ot b t ne]; exact q4⟩
    · have ek : k = gN.toInt.toNat := by omega
      refine ⟨b0, _, by show b0 < P.1; omega, sl, ?_, ?_⟩
      · rw [at1, ek, h2, hv]
      · rw [at1]; omega
  · by_cases c : b = b0 ∧ t = (if P.2.2.2 b0 0 = -1 then 0 else 1)
    · refine ⟨gN.toInt.toNat, by omega, ?_⟩
      rw [h2, hv, c.1, c.2, at1]
    · rw [ot b t c] at hn ⊢
      obtain ⟨k, q1, q2⟩ := h.2 b t hb2 ht hn
      exact ⟨k, by omega, by rw [h1 k q1]; exact q2⟩
theorem cp4 {a1 : Int32} {g x : Nat → Int32} {m : Nat} (h : tr_RArrays_copyOf4 a1 g m x) (ha : (m : Int) ≤ a1.toInt) : ∀ k, k < m → x k = g k := by
  refine h (fun x => ∀ k, k < m → x k = g k) ?_
  · intro x1 x2 x3 x4 h1 h2 h3 h4 h5
    intro k hk
    have e : x3.toNatClampNeg = m := nnE (by omega)
    rw [h5, cn0, e, va_cpE (Nat.zero_le _) (by omega)]
    congr 1
    omega
theorem gl_1 {pl gN o1 o2 o3 o4 o5 : Int32} {p p3 o7 o9 : Nat → Int32} {p2 p4 o6 o8 : Nat} {o10 : gTx} (hF : ∀ k, gB (f k) (-128) 127) (hn : 0 ≤ n.toInt) (hn2 : n.toInt ≤ 8192) (h : rdT (bA f n.toInt) n.toInt i at0 kd va xt) (h0 : 0 ≤ gN.toInt) (hp : gN.toInt ≤ (p4 : Int)) (hpp : p2 = p4) (hp0 : 0 < p4) (hx : tr_RReader_goal n at0 kd pl va gN f p p2 p3 p4 o1 o2 o3 o4 o5 o6 o7 o8 o9 o10) : (tk (bA f n.toInt) n.toInt i).1 = 3 ∧ va.toInt = (tk (bA f n.toInt) n.toInt i).2.1 ∧ rdT (bA f n.toInt) n.toInt (i + 1) o1 o2 o4 o10 ∧ o3.toInt = (tk (bA f n.toInt) n.toInt (i + 1)).2.2.1 ∧ o5.toInt = gN.toInt + 1 ∧ o5.toInt ≤ (o8 : Int) ∧ o6 = o8 ∧ (∀ k : Nat, (k : Int) < gN.toInt → o9 k = p3 k) ∧ o9 gN.toInt.toNat = va := by
  refine hx (fun o1 o2 o3 o4 o5 o6 o7 o8 o9 o10 => (tk (bA f n.toInt) n.toInt i).1 = 3 ∧ va.toInt = (tk (bA f n.toInt) n.toInt i).2.1 ∧ rdT (bA f n.toInt) n.toInt (i + 1) o1 o2 o4 o10 ∧ o3.toInt = (tk (bA f n.toInt) n.toInt (i + 1)).2.2.1 ∧ o5.toInt = gN.toInt + 1 ∧ o5.toInt ≤ (o8 : Int) ∧ o6 = o8 ∧ (∀ k : Nat, (k : Int) < gN.toInt → o9 k = p3 k) ∧ o9 gN.toInt.toNat = va) ?_ ?_
  · intro x1 x2 x3 x4 x5 x6 x7 x8 x9 h1 h2 h3 h4 h5 h6 h7 h8 h9
    obtain ⟨e3, ev, d1, d2⟩ := w2_1 hF hn hn2 h (by decide) (by decide) h7
    rw [px_3] at e3
    have eg : gN.toInt = ((gN.toInt.toNat : Nat) : Int) := (Int.toNat_of_nonneg h0).symm
    have en := nnE eg
    rw [en] at h8
    refine ⟨e3, ev, d1, d2, h9, by omega, hpp, fun k hk => ?_, ?_⟩
    · rw [h8, updN (by omega)]
    · rw [h8, updE]
  · intro x1 x2 x3 x4 x5 x6 x7 x8 x9 x10 x11 x12 x13 h1 h2 h3 h4 h5 h6 h7 h8 h9 h10 h11 h12 h13
    obtain ⟨e3, ev, d1, d2⟩ := w2_1 hF hn hn2 h (by decide) (by decide) h11
    rw [px_3] at e3
    have eg : gN.toInt = ((gN.toInt.toNat : Nat) : Int) := (Int.toNat_of_nonneg h0).symm
    have en := nnE eg
    rw [en] at h12
    have q := cp4 h4 (by omega)
    refine ⟨e3, ev, d1, d2, h13, by omega, by omega, fun k hk => ?_, ?_⟩
    · rw [h12, updN (by omega), q k (by omega)]
    · rw [h12, updE]
theorem end_tr {a0_n : Int32} {a0_at : Int32} {a0_kind : Int32} {a0_value : Int32} {a0_goalN : Int32} {a0_t_v : Nat → Int32} {p : Nat → Int32} {p2 : Nat} {p3 : Nat → Int32} {p4 : Nat} {a1_end_b : Int32} {a1_end_regB : Int32} {o1 : Int32} {o2 : Int32} {o3 : Int32} {o4 : Int32} {o5 : Int32} {o6 : Int32} {o7 : Int32} {o8 : Int32} {o9 : Nat} {o10 : Nat → Int32} {o11 : Nat} {o12 : Nat → Int32} {o13 : Int32} {o14 : Int32} {o15 : Int32} {o16 : Int32} {o17 : Int32} {o18 : gTx} (hF : ∀ k, gB (a0_t_v k) (-128) 127) (hn : 0 ≤ a0_n.toInt) (hn2 : a0_n.toInt ≤ 8192) (h : rdT (bA a0_t_v a0_n.toInt) a0_n.toInt i a0_at a0_kind a0_value xt) (hm : mLn (bA a0_t_v a0_n.toInt) a0_n.toInt i rw bk P) (hP : 0 < P.1) (hgl : ∀ b, b + 1 = P.1 → P.2.2.2 b 0 = -1 ∧ P.2.2.2 b 1 = -1) (hg : gsR a0_goalN p3 P) (hg0 : 0 ≤ a0_goalN.toInt) (hgp : a0_goalN.toInt ≤ (p4 : Int)) (hpp : p2 = p4) (hp0 : 0 < p4) (hx : tr_RReader_end a0_n a0_at a0_kind a0_value a0_goalN a0_t_v p p2 p3 p4 a1_end_b a1_end_regB xt o1 o2 o3 o4 o5 o6 o7 o8 o9 o10 o11 o12 o13 o14 o15 o16 o17 o18) : ∃ (i2 : Nat) (l : Nat → Int) (Q : gPg), rdT (bA a0_t_v a0_n.toInt) a0_n.toInt i2 o1 o2 o4 o18 ∧ o3.toInt = (tk (bA a0_t_v a0_n.toInt) a0_n.toInt i2).2.2.1 ∧ (∃ st lf ln op, mrn (bA a0_t_v a0_n.toInt) a0_n.toInt i2 = some (1, st, lf, ln, op, rw, bk, Q)) ∧ Q.1 = P.1 ∧ Q.2.1 = (pgL P l).2.1 ∧ Q.2.2.1 = (pgL P l).2.2.1 ∧ (∀ b, b + 1 ≠ P.1 → Q.2.2.2 b = P.2.2.2 b) ∧ (∀ b, b + 1 = P.1 → edE l (Q.2.2.2 b) o13 o14 o16 o7 o8) ∧ gsR o6 o12 Q ∧ o6.toInt ≤ (o11 : Int) ∧ o9 = o11 ∧ 0 < o11 ∧ 0 ≤ o6.toInt := by
  obtain ⟨s0, op, m0, -, m1⟩ := mLn_s hm
  obtain ⟨-, -, k10, k12, k11, -⟩ := mln_k (k := (tk (bA a0_t_v a0_n.toInt) a0_n.toInt i).1) (v := (tk (bA a0_t_v a0_n.toInt) a0_n.toInt i).2.1) (op := op) (rw := rw) (bk := bk) (P := P)
  obtain ⟨b0, hb0⟩ : ∃ b0, b0 + 1 = P.1 := ⟨P.1 - 1, by omega⟩
  obtain ⟨g0, g1⟩ := hgl b0 hb0
  refine hx (fun o1 o2 o3 o4 o5 o6 o7 o8 o9 o10 o11 o12 o13 o14 o15 o16 o17 o18 => ∃ (i2 : Nat) (l : Nat → Int) (Q : gPg), rdT (bA a0_t_v a0_n.toInt) a0_n.toInt i2 o1 o2 o4 o18 ∧ o3.toInt = (tk (bA a0_t_v a0_n.toInt) a0_n.toInt i2).2.2.1 ∧ (∃ st lf ln op, mrn (bA a0_t_v a0_n.toInt) a0_n.toInt i2 = some (1, st, lf, ln, op, rw, bk, Q)) ∧ Q.1 = P.1 ∧ Q.2.1 = (pgL P l).2.1 ∧ Q.2.2.1 = (pgL P l).2.2.1 ∧ (∀ b, b + 1 ≠ P.1 → Q.2.2.2 b = P.2.2.2 b) ∧ (∀ b, b + 1 = P.1 → edE l (Q.2.2.2 b) o13 o14 o16 o7 o8) ∧ gsR o6 o12 Q ∧ o6.toInt ≤ (o11 : Int) ∧ o9 = o11 ∧ 0 < o11 ∧ 0 ≤ o6.toInt) ?_ ?_ ?_
  · intro x1 x2 x3 x4 x5 x6 x7 x8 x9 x10 x11 x12 x13 x14 x15 x16 x17 h1 h2 h3 h4 h5 h6 h7 h8 h9 h10 h11 h12 h13 h14 h15 h16 h17 h18 h19
    have z := (h.1.2.2.2.2.2.2.2.2.2.2.2.2.2).mp (is_1 h8 h9)
    rw [k12 z] at m1
    obtain ⟨d1, -⟩ := rnx hF hn hn2 h (by omega) h13
    obtain ⟨p1, p2', p3', p4', -⟩ := op_1 hF hn hn2 d1 h19
    have m2 := mst10 m1
    rw [if_pos p1] at m2
    refine ⟨i + 1 + 1, _, _, p2', p3', ⟨_, _, _, _, m2⟩, rfl, rfl, rfl, fun b _ => rfl, fun b hb => ⟨fun y => absurd y (by show ¬ (21 : Int) = 19; decide), fun y => absurd y (by show ¬ (21 : Int) = 20; decide), fun _ => ⟨by decide, (p4' (by decide)).1⟩⟩, gsR_L hg, hgp, hpp, hp0, hg0⟩
  · intro x1 x2 x3 x4 x5 x6 x7 x8 x9 x10 x11 x12 x13 x14 x15 x16 x17 x18 x19 x20 x21 x22 x23 x24 x25 x26 x27 x28 x29 x30 x31 x32 x33 x34 x35 x36 h1 h2 h3 h4 h5 h6 h7 h8 h9 h10 h11 h12 h13 h14 h15 h16 h17 h18 h19 h20 h21 h22 h23 h24 h25 h26
    have z := (h.1.2.2.2.2.2.2.2.2.2.2.2.1).mp (is_1 h5 h6)
    rw [k10 z] at m1
    obtain ⟨d1, -⟩ := rnx hF hn hn2 h (by omega) h10
    obtain ⟨p1, p2', p3', p4', -⟩ := op_1 hF hn hn2 d1 h16
    have m2 := mst9 m1
    rw [if_pos p1] at m2
    obtain ⟨e3, ev, d2, d3, n1, n2, n3, n4, n5⟩ := gl_1 hF hn hn2 p2' hg0 hgp hpp hp0 h21
    have m3 := mst11 m2
    rw [if_pos e3] at m3
    have hb := (tk_b (bOk_bA (f := a0_t_v) hn) (i + 1 + 1)).2.2.2.2.2.2.2.1 e3
    have gs := gsR_G (b0 := b0) (gsR_L (l := (mkL 20 (-1) (rgV (tk (bA a0_t_v a0_n.toInt) a0_n.toInt (i + 1)).1 (tk (bA a0_t_v a0_n.toInt) a0_n.toInt (i + 1)).2.1) (nmW (tk (bA a0_t_v a0_n.toInt) a0_n.toInt (i + 1)).1 (tk (bA a0_t_v a0_n.toInt) a0_n.toInt (i + 1)).2.1) (-1) 0)) hg) hg0 hb0 (by show P.2.2.2 b0 (if P.2.2.2 b0 0 = -1 then 0 else 1) = -1; rw [if_pos g0]; exact g0) ev hb.1 n1 n4 n5
    obtain ⟨f3, fv, d4, d5, l1, l2, l3, l4, l5⟩ := gl_1 hF hn hn2 d2 (by omega) n2 n3 (by omega) h26
    have m4 := mst12 m3
    rw [if_pos f3] at m4
    have hc := (tk_b (bOk_bA (f := a0_t_v) hn) (i + 1 + 1 + 1)).2.2.2.2.2.2.2.1 f3
    have A1 := (pgG_l (g := (tk (bA a0_t_v a0_n.toInt) a0_n.toInt (i + 1 + 1)).2.1) (P := pgL P (mkL 20 (-1) (rgV (tk (bA a0_t_v a0_n.toInt) a0_n.toInt (i + 1)).1 (tk (bA a0_t_v a0_n.toInt) a0_n.toInt (i + 1)).2.1) (nmW (tk (bA a0_t_v a0_n.toInt) a0_n.toInt (i + 1)).1 (tk (bA a0_t_v a0_n.toInt) a0_n.toInt (i + 1)).2.1) (-1) 0)) (b := b0) hb0).1 g0
    have A2 := (pgG_l (g := (tk (bA a0_t_v a0_n.toInt) a0_n.toInt (i + 1 + 1 + 1)).2.1) (P := pgG (pgL P (mkL 20 (-1) (rgV (tk (bA a0_t_v a0_n.toInt) a0_n.toInt (i + 1)).1 (tk (bA a0_t_v a0_n.toInt) a0_n.toInt (i + 1)).2.1) (nmW (tk (bA a0_t_v a0_n.toInt) a0_n.toInt (i + 1)).1 (tk (bA a0_t_v a0_n.toInt) a0_n.toInt (i + 1)).2.1) (-1) 0)) (tk (bA a0_t_v a0_n.toInt) a0_n.toInt (i + 1 + 1)).2.1) (b := b0) hb0).2 (by rw [A1.1]; omega)
    have gt := gsR_G (b0 := b0) gs (by omega) hb0 (by rw [if_neg (by rw [A1.1]; omega), A1.2]; exact g1) fv hc.1 l1 l4 l5
    refine ⟨i + 1 + 1 + 1 + 1, _, _, d4, d5, ⟨_, _, _, _, m4⟩, rfl, rfl, rfl, fun b hb' => ?_, fun b hb' => ⟨fun y => absurd y (by show ¬ (20 : Int) = 19; decide), fun _ => ?_, fun y => absurd y (by show ¬ (20 : Int) = 21; decide)⟩, gt, l2, l3, by omega, by omega⟩
    · rw [(pgG_o (P := pgG (pgL P (mkL 20 (-1) (rgV (tk (bA a0_t_v a0_n.toInt) a0_n.toInt (i + 1)).1 (tk (bA a0_t_v a0_n.toInt) a0_n.toInt (i + 1)).2.1) (nmW (tk (bA a0_t_v a0_n.toInt) a0_n.toInt (i + 1)).1 (tk (bA a0_t_v a0_n.toInt) a0_n.toInt (i + 1)).2.1) (-1) 0)) (tk (bA a0_t_v a0_n.toInt) a0_n.toInt (i + 1 + 1)).2.1) hb').2.2]
      exact (pgG_o (P := pgL P (mkL 20 (-1) (rgV (tk (bA a0_t_v a0_n.toInt) a0_n.toInt (i + 1)).1 (tk (bA a0_t_v a0_n.toInt) a0_n.toInt (i + 1)).2.1) (nmW (tk (bA a0_t_v a0_n.toInt) a0_n.toInt (i + 1)).1 (tk (bA a0_t_v a0_n.toInt) a0_n.toInt (i + 1)).2.1) (-1) 0)) hb').2.2
    · have eb : b = b0 := by omega
      rw [eb]
      exact ⟨by decide, (p4' (by decide)).1, by rw [A2.1, A1.1]; exact ev, by rw [A2.2]; exact fv⟩
  · intro x1 x2 x3 x4 x5 x6 x7 x8 x9 x10 x11 x12 x13 x14 x15 x16 h1 h2 h3 h4 h5 h6 h7 h8 h9 h10 h11 h12
    have z := (h.1.2.2.2.2.2.2.2.2.2.2.2.2.1).mp (is_1 h2 h3)
    rw [k11 z] at m1
    obtain ⟨d1, -⟩ := rnx hF hn hn2 h (by omega) h7
    obtain ⟨e3, ev, d2, d3, n1, n2, n3, n4, n5⟩ := gl_1 hF hn hn2 d1 hg0 hgp hpp hp0 h12
    have m2 := mst12 m1
    rw [if_pos e3] at m2
    have hb := (tk_b (bOk_bA (f := a0_t_v) hn) (i + 1)).2.2.2.2.2.2.2.1 e3
    have gs := gsR_G (b0 := b0) (gsR_L (l := mkL 19 (-1) (-1) 0 (-1) 0) hg) hg0 hb0 (by show P.2.2.2 b0 (if P.2.2.2 b0 0 = -1 then 0 else 1) = -1; rw [if_pos g0]; exact g0) ev hb.1 n1 n4 n5
    refine ⟨i + 1 + 1, _, _, d2, d3, ⟨_, _, _, _, m2⟩, rfl, rfl, rfl, fun b hb' => (pgG_o (P := pgL P (mkL 19 (-1) (-1) 0 (-1) 0)) hb').2.2, fun b hb' => ⟨fun _ => ?_, fun y => absurd y (by show ¬ (19 : Int) = 20; decide), fun y => absurd y (by show ¬ (19 : Int) = 21; decide)⟩, gs, n2, n3, by omega, by omega⟩
    have eb : b = b0 := by omega
    have q := ((pgG_l (g := (tk (bA a0_t_v a0_n.toInt) a0_n.toInt (i + 1)).2.1) (P := pgL P (mkL 19 (-1) (-1) 0 (-1) 0)) (b := b) hb').1 (by rw [eb]; exact g0)).1
    exact ⟨by decide, by rw [q]; exact ev, by rw [q]; exact ev⟩
theorem end_tx {a0_n : Int32} {a0_at : Int32} {a0_kind : Int32} {a0_value : Int32} {a0_goalN : Int32} {a0_t_v : Nat → Int32} {p : Nat → Int32} {p2 : Nat} {p3 : Nat → Int32} {p4 : Nat} {a1_end_b : Int32} {a1_end_regB : Int32} (hF : ∀ k, gB (a0_t_v k) (-128) 127) (hn : 0 ≤ a0_n.toInt) (hn2 : a0_n.toInt ≤ 8192) (h : rdT (bA a0_t_v a0_n.toInt) a0_n.toInt i a0_at a0_kind a0_value xt) (hm : mLn (bA a0_t_v a0_n.toInt) a0_n.toInt i rw bk P) (hk : ¬ ((tk (bA a0_t_v a0_n.toInt) a0_n.toInt i).1 = 2 ∨ (tk (bA a0_t_v a0_n.toInt) a0_n.toInt i).1 = 9)) (hg0 : 0 ≤ a0_goalN.toInt) (hgp : a0_goalN.toInt ≤ (p4 : Int)) (hpp : p2 = p4) (hp0 : 0 < p4) (hx : tx_RReader_end a0_n a0_at a0_kind a0_value a0_goalN a0_t_v p p2 p3 p4 a1_end_b a1_end_regB xt) : rjt (bA a0_t_v a0_n.toInt) a0_n.toInt := by
  obtain ⟨s0, op, m0, m00, m1⟩ := mLn_s hm
  obtain ⟨-, -, k10, k12, k11, kn⟩ := mln_k (k := (tk (bA a0_t_v a0_n.toInt) a0_n.toInt i).1) (v := (tk (bA a0_t_v a0_n.toInt) a0_n.toInt i).2.1) (op := op) (rw := rw) (bk := bk) (P := P)
  refine hx (rjt (bA a0_t_v a0_n.toInt) a0_n.toInt) ?_ ?_ ?_ ?_ ?_ ?_
  · intro x1 x2 x3 h1 h2 h3 h4 h5 h6 h7 h8 h9
    have n11 : ¬ (tk (bA a0_t_v a0_n.toInt) a0_n.toInt i).1 = 11 := fun y => is_0 h2 h3 ((h.1.2.2.2.2.2.2.2.2.2.2.2.2.1).mpr y)
    have n10 : ¬ (tk (bA a0_t_v a0_n.toInt) a0_n.toInt i).1 = 10 := fun y => is_0 h5 h6 ((h.1.2.2.2.2.2.2.2.2.2.2.2.1).mpr y)
    have n12 : ¬ (tk (bA a0_t_v a0_n.toInt) a0_n.toInt i).1 = 12 := fun y => is_0 h8 h9 ((h.1.2.2.2.2.2.2.2.2.2.2.2.2.2).mpr y)
    rw [kn (fun z => hk (Or.inl z)) (fun z => hk (Or.inr z)) n10 n12 n11] at m1
    exact ⟨i, _, m0, m1, fun _ => m00⟩
  · intro x1 x2 x3 x4 x5 x6 x7 x8 h1 h2 h3 h4 h5 h6 h7 h8 h9 h10 h11 h12 h13 h14
    have z := (h.1.2.2.2.2.2.2.2.2.2.2.2.2.2).mp (is_1 h8 h9)
    rw [k12 z] at m1
    obtain ⟨d1, -⟩ := rnx hF hn hn2 h (by omega) h13
    have m2 := mst10 m1
    have z2 := op_0 h14
    have e2 := d1.1.2.1
    have e4 := d1.1.2.2.2.1
    rw [if_neg (by omega)] at m2
    exact ⟨_, _, m1, m2, fun _ => by show (10 : Int) ≠ 1; decide⟩
  · intro x1 x2 x3 x4 x5 x6 x7 h1 h2 h3 h4 h5 h6 h7 h8 h9 h10 h11
    have z := (h.1.2.2.2.2.2.2.2.2.2.2.2.1).mp (is_1 h5 h6)
    rw [k10 z] at m1
    obtain ⟨d1, -⟩ := rnx hF hn hn2 h (by omega) h10
    have m2 := mst9 m1
    have z2 := op_0 h11
    have e2 := d1.1.2.1
    have e4 := d1.1.2.2.2.1
    rw [if_neg (by omega)] at m2
    exact ⟨_, _, m1, m2, fun _ => by show (9 : Int) ≠ 1; decide⟩
  · intro x1 x2 x3 x4 x5 x6 x7 x8 x9 x10 x11 x12 x13 x14 x15 x16 h1 h2 h3 h4 h5 h6 h7 h8 h9 h10 h11 h12 h13 h14 h15 h16 h17
    have z := (h.1.2.2.2.2.2.2.2.2.2.2.2.1).mp (is_1 h5 h6)
    rw [k10 z] at m1
    obtain ⟨d1, -⟩ := rnx hF hn hn2 h (by omega) h10
    have m2 := mst9 m1
    obtain ⟨p1, p2', -⟩ := op_1 hF hn hn2 d1 h16
    rw [if_pos p1] at m2
    have m3 := mst11 m2
    have z2 := gl_0 h17
    have e3 := p2'.1.2.2.1
    rw [if_neg (by omega)] at m3
    exact ⟨_, _, m2, m3, fun _ => by show (11 : Int) ≠ 1; decide⟩
  · intro x1 x2 x3 x4 x5 x6 x7 x8 x9 x10 x11 x12 x13 x14 x15 x16 x17 x18 x19 x20 x21 x22 x23 x24 x25 x26 h1 h2 h3 h4 h5 h6 h7 h8 h9 h10 h11 h12 h13 h14 h15 h16 h17 h18 h19 h20 h21 h22
    have z := (h.1.2.2.2.2.2.2.2.2.2.2.2.1).mp (is_1 h5 h6)
    rw [k10 z] at m1
    obtain ⟨d1, -⟩ := rnx hF hn hn2 h (by omega) h10
    have m2 := mst9 m1
    obtain ⟨p1, p2', -⟩ := op_1 hF hn hn2 d1 h16
    rw [if_pos p1] at m2
    have m3 := mst11 m2
    obtain ⟨e3, -, d2, -⟩ := gl_1 hF hn hn2 p2' hg0 hgp hpp hp0 h21
    rw [if_pos e3] at m3
    have m4 := mst12 m3
    have z2 := gl_0 h22
    have f3 := d2.1.2.2.1
    rw [if_neg (by omega)] at m4
    exact ⟨_, _, m3, m4, fun _ => by show (12 : Int) ≠ 1; decide⟩
  · intro x1 x2 x3 x4 x5 x6 h1 h2 h3 h4 h5 h6 h7 h8
    have z := (h.1.2.2.2.2.2.2.2.2.2.2.2.2.1).mp (is_1 h2 h3)
    rw [k11 z] at m1
    obtain ⟨d1, -⟩ := rnx hF hn hn2 h (by omega) h7
    have m2 := mst12 m1
    have z2 := gl_0 h8
    have e3 := d1.1.2.2.1
    rw [if_neg (by omega)] at m2
    exact ⟨_, _, m1, m2, fun _ => by show (12 : Int) ≠ 1; decide⟩
end RRG
