section
section RRG
variable {f : Nat → Int32} {n : Int32} {i : Nat} {at0 kd va : Int32} {xt : gTx} {rw : Int} {bk : Bool} {P : gPg}
/-- the goals that were read are those of the program -/
def gsR (gN : Int32) (gs : Nat → Int32) (P : gPg) : Prop := (∀ k : Nat, (k : Int) < gN.toInt → ∃ b t : Nat, b < P.1 ∧ t < 2 ∧ P.2.2.2 b t = (gs k).toInt ∧ P.2.2.2 b t ≠ -1) ∧ ∀ b t : Nat, b < P.1 → t < 2 → P.2.2.2 b t ≠ -1 → ∃ k : Nat, (k : Int) < gN.toInt ∧ (gs k).toInt = P.2.2.2 b t
theorem gsR_L {gN : Int32} {gs : Nat → Int32} {l : Nat → Int} (h : gsR gN gs P) : gsR gN gs (pgL P l) := h
theorem gsR_B {gN : Int32} {gs : Nat → Int32} (h : gsR gN gs P) : gsR gN gs (pgB P) := by
  refine ⟨fun k hk => ?_, fun b t hb ht hn => ?_⟩
  · obtain ⟨b, t, q1, q2, q3, q4⟩ := h.1 k hk
    have e : (pgB P).2.2.2 b t = P.2.2.2 b t := if_neg (by omega)
    exact ⟨b, t, by show b < P.1 + 1; omega, q2, by rw [e]; exact q3, by rw [e]; exact q4⟩
  · have hb2 : b < P.1 + 1 := hb
    by_cases c : b = P.1
    · exact absurd (show (pgB P).2.2.2 b t = -1 from if_pos c) hn
    · have e : (pgB P).2.2.2 b t = P.2.2.2 b t := if_neg c
      rw [e] at hn ⊢
      exact h.2 b t (by omega) ht hn
theorem gsR_G {gN gN2 v : Int32} {gs gs2 : Nat → Int32} {g : Int} {b0 : Nat} (h : gsR gN gs P) (h0 : 0 ≤ gN.toInt) (hb : b0 + 1 = P.1) (hsl : P.2.2.2 b0 (if P.2.2.2 b0 0 = -1 then 0 else 1) = -1) (hv : v.toInt = g) (hg : 0 ≤ g) (hN : gN2.toInt = gN.toInt + 1) (h1 : ∀ k : Nat, (k : Int) < gN.toInt → gs2 k = gs k) (h2 : gs2 gN.toInt.toNat = v) : gsR gN2 gs2 (pgG P g) := by
  have sl : (if P.2.2.2 b0 0 = -1 then 0 else 1) < 2 := by split <;> decide
  have at1 : (pgG P g).2.2.2 b0 (if P.2.2.2 b0 0 = -1 then 0 else 1) = g := if_pos ⟨hb, rfl⟩
  have ot : ∀ b t : Nat, ¬ (b = b0 ∧ t = (if P.2.2.2 b0 0 = -1 then 0 else 1)) → (pgG P g).2.2.2 b t = P.2.2.2 b t := fun b t hn => by
    refine if_neg (fun z => hn ?_)
    have e : b = b0 := by omega
    exact ⟨e, by rw [z.2, e]⟩
  refine ⟨fun k hk => ?_, fun b t hb2 ht hn => ?_⟩
  · by_cases c : (k : Int) < gN.toInt
    · obtain ⟨b, t, q1, q2, q3, q4⟩ := h.1 k c
      have ne : ¬ (b = b0 ∧ t = (if P.2.2.2 b0 0 = -1 then 0 else 1)) := fun z => by rw [z.1, z.2] at q4; exact q4 hsl
      exact ⟨b, t, q1, q2, by rw [ot b t ne, h1 k c]; exact q3, by rw [ot b t ne]; exact q4⟩
    · have ek : k = gN.toInt.toNat := by omega
      refine ⟨b0, _, by show b0 < P.1; omega, sl, ?_, ?_⟩
      · rw [at1, ek, h2, hv]
      · rw [at1]; omega
  · by_cases c : b = b0 ∧ t = (if P.2.2.2 b0 0 = -1 then 0 else 1)
    · refine ⟨gN.toInt.toNat, by omega, ?_⟩
      rw [h2, hv, c.1, c.2, at1]
    · rw [ot b t c] at hn ⊢
      obtain ⟨k, q1, q2⟩ := h.2 b t hb2 ht hn
      exact ⟨k, by omega, by rw [h1 k q1]; exact q2⟩
theorem cp4 {a1 : Int32} {g x : Nat → Int32} {m : Nat} (h : tr_RArrays_copyOf4 a1 g m x) (ha : (m : Int) ≤ a1.toInt) : ∀ k, k < m → x k = g k := by
  refine h (fun x => ∀ k, k < m → x k = g k) ?_
  · intro x1 x2 x3 x4 h1 h2 h3 h4 h5
    intro k hk
    have e : x3.toNatClampNeg = m := nnE (by omega)
    rw [h5, cn0, e, va_cpE (Nat.zero_le _) (by omega)]
    congr 1
    omega
theorem gl_1 {pl gN o1 o2 o3 o4 o5 : Int32} {p p3 o7 o9 : Nat → Int32} {p2 p4 o6 o8 : Nat} {o10 : gTx} (hF : ∀ k, gB (f k) (-128) 127) (hn : 0 ≤ n.toInt) (hn2 : n.toInt ≤ 8192) (h : rdT (bA f n.toInt) n.toInt i at0 kd va xt) (h0 : 0 ≤ gN.toInt) (hp : gN.toInt ≤ (p4 : Int)) (hpp : p2 = p4) (hp0 : 0 < p4) (hx : tr_RReader_goal n at0 kd pl va gN f p p2 p3 p4 o1 o2 o3 o4 o5 o6 o7 o8 o9 o10) : (tk (bA f n.toInt) n.toInt i).1 = 3 ∧ va.toInt = (tk (bA f n.toInt) n.toInt i).2.1 ∧ rdT (bA f n.toInt) n.toInt (i + 1) o1 o2 o4 o10 ∧ o3.toInt = (tk (bA f n.toInt) n.toInt (i + 1)).2.2.1 ∧ o5.toInt = gN.toInt + 1 ∧ o5.toInt ≤ (o8 : Int) ∧ o6 = o8 ∧ (∀ k : Nat, (k : Int) < gN.toInt → o9 k = p3 k) ∧ o9 gN.toInt.toNat = va := by
  refine hx (fun o1 o2 o3 o4 o5 o6 o7 o8 o9 o10 => (tk (bA f n.toInt) n.toInt i).1 = 3 ∧ va.toInt = (tk (bA f n.toInt) n.toInt i).2.1 ∧ rdT (bA f n.toInt) n.toInt (i + 1) o1 o2 o4 o10 ∧ o3.toInt = (tk (bA f n.toInt) n.toInt (i + 1)).2.2.1 ∧ o5.toInt = gN.toInt + 1 ∧ o5.toInt ≤ (o8 : Int) ∧ o6 = o8 ∧ (∀ k : Nat, (k : Int) < gN.toInt → o9 k = p3 k) ∧ o9 gN.toInt.toNat = va) ?_ ?_
  · intro x1 x2 x3 x4 x5 x6 x7 x8 x9 h1 h2 h3 h4 h5 h6 h7 h8 h9
    obtain ⟨e3, ev, d1, d2⟩ := w2_1 hF hn hn2 h (by decide) (by decide) h7
    rw [px_3] at e3
    have eg : gN.toInt = ((gN.toInt.toNat : Nat) : Int) := (Int.toNat_of_nonneg h0).symm
    have en := nnE eg
    rw [en] at h8
    refine ⟨e3, ev, d1, d2, h9, by omega, hpp, fun k hk => ?_, ?_⟩
    · rw [h8, updN (by omega)]
    · rw [h8, updE]
  · intro x1 x2 x3 x4 x5 x6 x7 x8 x9 x10 x11 x12 x13 h1 h2 h3 h4 h5 h6 h7 h8 h9 h10 h11 h12 h13
    obtain ⟨e3, ev, d1, d2⟩ := w2_1 hF hn hn2 h (by decide) (by decide) h11
    rw [px_3] at e3
    have eg : gN.toInt = ((gN.toInt.toNat : Nat) : Int) := (Int.toNat_of_nonneg h0).symm
    have en := nnE eg
    rw [en] at h12
    have q := cp4 h4 (by omega)
    refine ⟨e3, ev, d1, d2, h13, by omega, by omega, fun k hk => ?_, ?_⟩
    · rw [h12, updN (by omega), q k (by omega)]
    · rw [h12, updE]
theorem end_tr {a0_n : Int32} {a0_at : Int32} {a0_kind : Int32} {a0_value : Int32} {a0_goalN : Int32} {a0_t_v : Nat → Int32} {p : Nat → Int32} {p2 : Nat} {p3 : Nat → Int32} {p4 : Nat} {a1_end_b : Int32} {a1_end_regB : Int32} {o1 : Int32} {o2 : Int32} {o3 : Int32} {o4 : Int32} {o5 : Int32} {o6 : Int32} {o7 : Int32} {o8 : Int32} {o9 : Nat} {o10 : Nat → Int32} {o11 : Nat} {o12 : Nat → Int32} {o13 : Int32} {o14 : Int32} {o15 : Int32} {o16 : Int32} {o17 : Int32} {o18 : gTx} (hF : ∀ k, gB (a0_t_v k) (-128) 127) (hn : 0 ≤ a0_n.toInt) (hn2 : a0_n.toInt ≤ 8192) (h : rdT (bA a0_t_v a0_n.toInt) a0_n.toInt i a0_at a0_kind a0_value xt) (hm : mLn (bA a0_t_v a0_n.toInt) a0_n.toInt i rw bk P) (hP : 0 < P.1) (hgl : ∀ b, b + 1 = P.1 → P.2.2.2 b 0 = -1 ∧ P.2.2.2 b 1 = -1) (hg : gsR a0_goalN p3 P) (hg0 : 0 ≤ a0_goalN.toInt) (hgp : a0_goalN.toInt ≤ (p4 : Int)) (hpp : p2 = p4) (hp0 : 0 < p4) (hx : tr_RReader_end a0_n a0_at a0_kind a0_value a0_goalN a0_t_v p p2 p3 p4 a1_end_b a1_end_regB xt o1 o2 o3 o4 o5 o6 o7 o8 o9 o10 o11 o12 o13 o14 o15 o16 o17 o18) : ∃ (i2 : Nat) (l : Nat → Int) (Q : gPg), rdT (bA a0_t_v a0_n.toInt) a0_n.toInt i2 o1 o2 o4 o18 ∧ o3.toInt = (tk (bA a0_t_v a0_n.toInt) a0_n.toInt i2).2.2.1 ∧ (∃ st lf ln op, mrn (bA a0_t_v a0_n.toInt) a0_n.toInt i2 = some (1, st, lf, ln, op, rw, bk, Q)) ∧ Q.1 = P.1 ∧ Q.2.1 = (pgL P l).2.1 ∧ Q.2.2.1 = (pgL P l).2.2.1 ∧ (∀ b, b + 1 ≠ P.1 → Q.2.2.2 b = P.2.2.2 b) ∧ (∀ b, b + 1 = P.1 → edE l (Q.2.2.2 b) o13 o14 o16 o7 o8) ∧ gsR o6 o12 Q ∧ o6.toInt ≤ (o11 : Int) ∧ o9 = o11 ∧ 0 < o11 ∧ 0 ≤ o6.toInt := by
  obtain ⟨s0, op, m0, -, m1⟩ := mLn_s hm
  obtain ⟨-, -, k10, k12, k11, -⟩ := mln_k (k := (tk (bA a0_t_v a0_n.toInt) a0_n.toInt i).1) (v := (tk (bA a0_t_v a0_n.toInt) a0_n.toInt i).2.1) (op := op) (rw := rw) (bk := bk) (P := P)
  obtain ⟨b0, hb0⟩ : ∃ b0, b0 + 1 = P.1 := ⟨P.1 - 1, by omega⟩
  obtain ⟨g0, g1⟩ := hgl b0 hb0
  refine hx (fun o1 o2 o3 o4 o5 o6 o7 o8 o9 o10 o11 o12 o13 o14 o15 o16 o17 o18 => ∃ (i2 : Nat) (l : Nat → Int) (Q : gPg), rdT (bA a0_t_v a0_n.toInt) a0_n.toInt i2 o1 o2 o4 o18 ∧ o3.toInt = (tk (bA a0_t_v a0_n.toInt) a0_n.toInt i2).2.2.1 ∧ (∃ st lf ln op, mrn (bA a0_t_v a0_n.toInt) a0_n.toInt i2 = some (1, st, lf, ln, op, rw, bk, Q)) ∧ Q.1 = P.1 ∧ Q.2.1 = (pgL P l).2.1 ∧ Q.2.2.1 = (pgL P l).2.2.1 ∧ (∀ b, b + 1 ≠ P.1 → Q.2.2.2 b = P.2.2.2 b) ∧ (∀ b, b + 1 = P.1 → edE l (Q.2.2.2 b) o13 o14 o16 o7 o8) ∧ gsR o6 o12 Q ∧ o6.toInt ≤ (o11 : Int) ∧ o9 = o11 ∧ 0 < o11 ∧ 0 ≤ o6.toInt) ?_ ?_ ?_
  · intro x1 x2 x3 x4 x5 x6 x7 x8 x9 x10 x11 x12 x13 x14 x15 x16 x17 h1 h2 h3 h4 h5 h6 h7 h8 h9 h10 h11 h12 h13 h14 h15 h16 h17 h18 h19
    have z := (h.1.2.2.2.2.2.2.2.2.2.2.2.2.2).mp (is_1 h8 h9)
    rw [k12 z] at m1
    obtain ⟨d1, -⟩ := rnx hF hn hn2 h (by omega) h13
    obtain ⟨p1, p2', p3', p4', -⟩ := op_1 hF hn hn2 d1 h19
    have m2 := mst10 m1
    rw [if_pos p1] at m2
    refine ⟨i + 1 + 1, _, _, p2', p3', ⟨_, _, _, _, m2⟩, rfl, rfl, rfl, fun b _ => rfl, fun b hb => ⟨fun y => absurd y (by show ¬ (21 : Int) = 19; decide), fun y => absurd y (by show ¬ (21 : Int) = 20; decide), fun _ => ⟨by decide, (p4' (by decide)).1⟩⟩, gsR_L hg, hgp, hpp, hp0, hg0⟩
  · intro x1 x2 x3 x4 x5 x6 x7 x8 x9 x10 x11 x12 x13 x14 x15 x16 x17 x18 x19 x20 x21 x22 x23 x24 x25 x26 x27 x28 x29 x30 x31 x32 x33 x34 x35 x36 h1 h2 h3 h4 h5 h6 h7 h8 h9 h10 h11 h12 h13 h14 h15 h16 h17 h18 h19 h20 h21 h22 h23 h24 h25 h26
    have z := (h.1.2.2.2.2.2.2.2.2.2.2.2.1).mp (is_1 h5 h6)
    rw [k10 z] at m1
    obtain ⟨d1, -⟩ := rnx hF hn hn2 h (by omega) h10
    obtain ⟨p1, p2', p3', p4', -⟩ := op_1 hF hn hn2 d1 h16
    have m2 := mst9 m1
    rw [if_pos p1] at m2
    obtain ⟨e3, ev, d2, d3, n1, n2, n3, n4, n5⟩ := gl_1 hF hn hn2 p2' hg0 hgp hpp hp0 h21
    have m3 := mst11 m2
    rw [if_pos e3] at m3
    have hb := (tk_b (bOk_bA (f := a0_t_v) hn) (i + 1 + 1)).2.2.2.2.2.2.2.1 e3
    have gs := gsR_G (b0 := b0) (gsR_L (l := (mkL 20 (-1) (rgV (tk (bA a0_t_v a0_n.toInt) a0_n.toInt (i + 1)).1 (tk (bA a0_t_v a0_n.toInt) a0_n.toInt (i + 1)).2.1) (nmW (tk (bA a0_t_v a0_n.toInt) a0_n.toInt (i + 1)).1 (tk (bA a0_t_v a0_n.toInt) a0_n.toInt (i + 1)).2.1) (-1) 0)) hg) hg0 hb0 (by show P.2.2.2 b0 (if P.2.2.2 b0 0 = -1 then 0 else 1) = -1; rw [if_pos g0]; exact g0) ev hb.1 n1 n4 n5
    obtain ⟨f3, fv, d4, d5, l1, l2, l3, l4, l5⟩ := gl_1 hF hn hn2 d2 (by omega) n2 n3 (by omega) h26
    have m4 := mst12 m3
    rw [if_pos f3] at m4
    have hc := (tk_b (bOk_bA (f := a0_t_v) hn) (i + 1 + 1 + 1)).2.2.2.2.2.2.2.1 f3
    have A1 := (pgG_l (g := (tk (bA a0_t_v a0_n.toInt) a0_n.toInt (i + 1 + 1)).2.1) (P := pgL P (mkL 20 (-1) (rgV (tk (bA a0_t_v a0_n.toInt) a0_n.toInt (i + 1)).1 (tk (bA a0_t_v a0_n.toInt) a0_n.toInt (i + 1)).2.1) (nmW (tk (bA a0_t_v a0_n.toInt) a0_n.toInt (i + 1)).1 (tk (bA a0_t_v a0_n.toInt) a0_n.toInt (i + 1)).2.1) (-1) 0)) (b := b0) hb0).1 g0
    have A2 := (pgG_l (g := (tk (bA a0_t_v a0_n.toInt) a0_n.toInt (i + 1 + 1 + 1)).2.1) (P := pgG (pgL P (mkL 20 (-1) (rgV (tk (bA a0_t_v a0_n.toInt) a0_n.toInt (i + 1)).1 (tk (bA a0_t_v a0_n.toInt) a0_n.toInt (i + 1)).2.1) (nmW (tk (bA a0_t_v a0_n.toInt) a0_n.toInt (i + 1)).1 (tk (bA a0_t_v a0_n.toInt) a0_n.toInt (i + 1)).2.1) (-1) 0)) (tk (bA a0_t_v a0_n.toInt) a0_n.toInt (i + 1 + 1)).2.1) (b := b0) hb0).2 (by rw [A1.1]; omega)
    have gt := gsR_G (b0 := b0) gs (by omega) hb0 (by rw [if_neg (by rw [A1.1]; omega), A1.2]; exact g1) fv hc.1 l1 l4 l5
    refine ⟨i + 1 + 1 + 1 + 1, _, _, d4, d5, ⟨_, _, _, _, m4⟩, rfl, rfl, rfl, fun b hb' => ?_, fun b hb' => ⟨fun y => absurd y (by show ¬ (20 : Int) = 19; decide), fun _ => ?_, fun y => absurd y (by show ¬ (20 : Int) = 21; decide)⟩, gt, l2, l3, by omega, by omega⟩
    · rw [(pgG_o (P := pgG (pgL P (mkL 20 (-1) (rgV (tk (bA a0_t_v a0_n.toInt) a0_n.toInt (i + 1)).1 (tk (bA a0_t_v a0_n.toInt) a0_n.toInt (i + 1)).2.1) (nmW (tk (bA a0_t_v a0_n.toInt) a0_n.toInt (i + 1)).1 (tk (bA a0_t_v a0_n.toInt) a0_n.toInt (i + 1)).2.1) (-1) 0)) (tk (bA a0_t_v a0_n.toInt) a0_n.toInt (i + 1 + 1)).2.1) hb').2.2]
      exact (pgG_o (P := pgL P (mkL 20 (-1) (rgV (tk (bA a0_t_v a0_n.toInt) a0_n.toInt (i + 1)).1 (tk (bA a0_t_v a0_n.toInt) a0_n.toInt (i + 1)).2.1) (nmW (tk (bA a0_t_v a0_n.toInt) a0_n.toInt (i + 1)).1 (tk (bA a0_t_v a0_n.toInt) a0_n.toInt (i + 1)).2.1) (-1) 0)) hb').2.2
    · have eb : b = b0 := by omega
      rw [eb]
      exact ⟨by decide, (p4' (by decide)).1, by rw [A2.1, A1.1]; exact ev, by rw [A2.2]; exact fv⟩
  · intro x1 x2 x3 x4 x5 x6 x7 x8 x9 x10 x11 x12 x13 x14 x15 x16 h1 h2 h3 h4 h5 h6 h7 h8 h9 h10 h11 h12
    have z := (h.1.2.2.2.2.2.2.2.2.2.2.2.2.1).mp (is_1 h2 h3)
    rw [k11 z] at m1
    obtain ⟨d1, -⟩ := rnx hF hn hn2 h (by omega) h7
    obtain ⟨e3, ev, d2, d3, n1, n2, n3, n4, n5⟩ := gl_1 hF hn hn2 d1 hg0 hgp hpp hp0 h12
    have m2 := mst12 m1
    rw [if_pos e3] at m2
    have hb := (tk_b (bOk_bA (f := a0_t_v) hn) (i + 1)).2.2.2.2.2.2.2.1 e3
    have gs := gsR_G (b0 := b0) (gsR_L (l := mkL 19 (-1) (-1) 0 (-1) 0) hg) hg0 hb0 (by show P.2.2.2 b0 (if P.2.2.2 b0 0 = -1 then 0 else 1) = -1; rw [if_pos g0]; exact g0) ev hb.1 n1 n4 n5
    refine ⟨i + 1 + 1, _, _, d2, d3, ⟨_, _, _, _, m2⟩, rfl, rfl, rfl, fun b hb' => (pgG_o (P := pgL P (mkL 19 (-1) (-1) 0 (-1) 0)) hb').2.2, fun b hb' => ⟨fun _ => ?_, fun y => absurd y (by show ¬ (19 : Int) = 20; decide), fun y => absurd y (by show ¬ (19 : Int) = 21; decide)⟩, gs, n2, n3, by omega, by omega⟩
    have eb : b = b0 := by omega
    have q := ((pgG_l (g := (tk (bA a0_t_v a0_n.toInt) a0_n.toInt (i + 1)).2.1) (P := pgL P (mkL 19 (-1) (-1) 0 (-1) 0)) (b := b) hb').1 (by rw [eb]; exact g0)).1
    exact ⟨by decide, by rw [q]; exact ev, by rw [q]; exact ev⟩
theorem end_tx {a0_n : Int32} {a0_at : Int32} {a0_kind : Int32} {a0_value : Int32} {a0_goalN : Int32} {a0_t_v : Nat → Int32} {p : Nat → Int32} {p2 : Nat} {p3 : Nat → Int32} {p4 : Nat} {a1_end_b : Int32} {a1_end_regB : Int32} (hF : ∀ k, gB (a0_t_v k) (-128) 127) (hn : 0 ≤ a0_n.toInt) (hn2 : a0_n.toInt ≤ 8192) (h : rdT (bA a0_t_v a0_n.toInt) a0_n.toInt i a0_at a0_kind a0_value xt) (hm : mLn (bA a0_t_v a0_n.toInt) a0_n.toInt i rw bk P) (hk : ¬ ((tk (bA a0_t_v a0_n.toInt) a0_n.toInt i).1 = 2 ∨ (tk (bA a0_t_v a0_n.toInt) a0_n.toInt i).1 = 9)) (hg0 : 0 ≤ a0_goalN.toInt) (hgp : a0_goalN.toInt ≤ (p4 : Int)) (hpp : p2 = p4) (hp0 : 0 < p4) (hx : tx_RReader_end a0_n a0_at a0_kind a0_value a0_goalN a0_t_v p p2 p3 p4 a1_end_b a1_end_regB xt) : rjt (bA a0_t_v a0_n.toInt) a0_n.toInt := by
  obtain ⟨s0, op, m0, m00, m1⟩ := mLn_s hm
  obtain ⟨-, -, k10, k12, k11, kn⟩ := mln_k (k := (tk (bA a0_t_v a0_n.toInt) a0_n.toInt i).1) (v := (tk (bA a0_t_v a0_n.toInt) a0_n.toInt i).2.1) (op := op) (rw := rw) (bk := bk) (P := P)
  refine hx (rjt (bA a0_t_v a0_n.toInt) a0_n.toInt) ?_ ?_ ?_ ?_ ?_ ?_
  · intro x1 x2 x3 h1 h2 h3 h4 h5 h6 h7 h8 h9
    have n11 : ¬ (tk (bA a0_t_v a0_n.toInt) a0_n.toInt i).1 = 11 := fun y => is_0 h2 h3 ((h.1.2.2.2.2.2.2.2.2.2.2.2.2.1).mpr y)
    have n10 : ¬ (tk (bA a0_t_v a0_n.toInt) a0_n.toInt i).1 = 10 := fun y => is_0 h5 h6 ((h.1.2.2.2.2.2.2.2.2.2.2.2.1).mpr y)
    have n12 : ¬ (tk (bA a0_t_v a0_n.toInt) a0_n.toInt i).1 = 12 := fun y => is_0 h8 h9 ((h.1.2.2.2.2.2.2.2.2.2.2.2.2.2).mpr y)
    rw [kn (fun z => hk (Or.inl z)) (fun z => hk (Or.inr z)) n10 n12 n11] at m1
    exact ⟨i, _, m0, m1, fun _ => m00⟩
  · intro x1 x2 x3 x4 x5 x6 x7 x8 h1 h2 h3 h4 h5 h6 h7 h8 h9 h10 h11 h12 h13 h14
    have z := (h.1.2.2.2.2.2.2.2.2.2.2.2.2.2).mp (is_1 h8 h9)
    rw [k12 z] at m1
    obtain ⟨d1, -⟩ := rnx hF hn hn2 h (by omega) h13
    have m2 := mst10 m1
    have z2 := op_0 h14
    have e2 := d1.1.2.1
    have e4 := d1.1.2.2.2.1
    rw [if_neg (by omega)] at m2
    exact ⟨_, _, m1, m2, fun _ => by show (10 : Int) ≠ 1; decide⟩
  · intro x1 x2 x3 x4 x5 x6 x7 h1 h2 h3 h4 h5 h6 h7 h8 h9 h10 h11
    have z := (h.1.2.2.2.2.2.2.2.2.2.2.2.1).mp (is_1 h5 h6)
    rw [k10 z] at m1
    obtain ⟨d1, -⟩ := rnx hF hn hn2 h (by omega) h10
    have m2 := mst9 m1
    have z2 := op_0 h11
    have e2 := d1.1.2.1
    have e4 := d1.1.2.2.2.1
    rw [if_neg (by omega)] at m2
    exact ⟨_, _, m1, m2, fun _ => by show (9 : Int) ≠ 1; decide⟩
  · intro x1 x2 x3 x4 x5 x6 x7 x8 x9 x10 x11 x12 x13 x14 x15 x16 h1 h2 h3 h4 h5 h6 h7 h8 h9 h10 h11 h12 h13 h14 h15 h16 h17
    have z := (h.1.2.2.2.2.2.2.2.2.2.2.2.1).mp (is_1 h5 h6)
    rw [k10 z] at m1
    obtain ⟨d1, -⟩ := rnx hF hn hn2 h (by omega) h10
    have m2 := mst9 m1
    obtain ⟨p1, p2', -⟩ := op_1 hF hn hn2 d1 h16
    rw [if_pos p1] at m2
    have m3 := mst11 m2
    have z2 := gl_0 h17
    have e3 := p2'.1.2.2.1
    rw [if_neg (by omega)] at m3
    exact ⟨_, _, m2, m3, fun _ => by show (11 : Int) ≠ 1; decide⟩
  · intro x1 x2 x3 x4 x5 x6 x7 x8 x9 x10 x11 x12 x13 x14 x15 x16 x17 x18 x19 x20 x21 x22 x23 x24 x25 x26 h1 h2 h3 h4 h5 h6 h7 h8 h9 h10 h11 h12 h13 h14 h15 h16 h17 h18 h19 h20 h21 h22
    have z := (h.1.2.2.2.2.2.2.2.2.2.2.2.1).mp (is_1 h5 h6)
    rw [k10 z] at m1
    obtain ⟨d1, -⟩ := rnx hF hn hn2 h (by omega) h10
    have m2 := mst9 m1
    obtain ⟨p1, p2', -⟩ := op_1 hF hn hn2 d1 h16
    rw [if_pos p1] at m2
    have m3 := mst11 m2
    obtain ⟨e3, -, d2, -⟩ := gl_1 hF hn hn2 p2' hg0 hgp hpp hp0 h21
    rw [if_pos e3] at m3
    have m4 := mst12 m3
    have z2 := gl_0 h22
    have f3 := d2.1.2.2.1
    rw [if_neg (by omega)] at m4
    exact ⟨_, _, m3, m4, fun _ => by show (12 : Int) ≠ 1; decide⟩
  · intro x1 x2 x3 x4 x5 x6 h1 h2 h3 h4 h5 h6 h7 h8
    have z := (h.1.2.2.2.2.2.2.2.2.2.2.2.2.1).mp (is_1 h2 h3)
    rw [k11 z] at m1
    obtain ⟨d1, -⟩ := rnx hF hn hn2 h (by omega) h7
    have m2 := mst12 m1
    have z2 := gl_0 h8
    have e3 := d1.1.2.2.1
    rw [if_neg (by omega)] at m2
    exact ⟨_, _, m1, m2, fun _ => by show (12 : Int) ≠ 1; decide⟩
end RRG
end
section
/-! programs beside a reader: what is no part of a program stays, what has no kind gets none -/
def nT (e : va_E) : Prop := (∃ (c : Nat) (xs : List Value), e = .inr (c, xs) ∧ c ≠ 4 ∧ c ≠ 17 ∧ c ≠ 18 ∧ c ≠ 20) ∨ (∃ (i : ClassId) (n : Nat) (f : Nat → Int32), e = .inl (i, n, .inl f))
def rFz (P : List Nat) (F F1 : Nat → va_E) : Prop := ∀ a, a ∈ P → nT (F a) → F1 a = F a
def rZ (P : List Nat) (γ γ1 : Nat → Nat → Nat) : Prop := (∀ a, a ∈ P → γ 0 a = 0 → γ1 0 a = 0) ∧ ∀ a, γ1 0 a = 2 → γ 0 a = 2
section NT
variable {F F1 : Nat → va_E} {P W : List Nat} {a : Nat} {xs : List Value} {γ : Nat → Nat → Nat}
theorem nT_o {c : Nat} (h : F a = .inr (c, xs)) (hc : c = 4 ∨ c = 17 ∨ c = 18 ∨ c = 20) : ¬ nT (F a) := fun z => by
  rw [h] at z
  rcases z with ⟨c', xs', e, h1, h2, h3, h4⟩ | ⟨i, n, f, e⟩
  · injection e with e
    injection e with e1 e2
    omega
  · cases e
theorem nT_4 (h : F a = .inr (4, xs)) : ¬ nT (F a) := nT_o h (by decide)
theorem nT_17 (h : F a = .inr (17, xs)) : ¬ nT (F a) := nT_o h (by decide)
theorem nT_18 (h : F a = .inr (18, xs)) : ¬ nT (F a) := nT_o h (by decide)
theorem nT_20 (h : F a = .inr (20, xs)) : ¬ nT (F a) := nT_o h (by decide)
theorem nT_r {i : ClassId} {n : Nat} {f : Nat → Option Nat} (h : F a = .inl (i, n, .inr (.inr (.inr (.inr f))))) : ¬ nT (F a) := fun z => by
  rw [h] at z
  rcases z with ⟨c', xs', e, -⟩ | ⟨i, n, f, e⟩
  · cases e
  · injection e with e
    injection e with e1 e2
    injection e2 with e3 e4
    cases e4
theorem nz_n : ∀ w, w ∈ ([] : List Nat) → ¬ nT (F w) := fun _ h => nomatch h
theorem nz_c {x : Nat} (h : ¬ nT (F x)) (t : ∀ w, w ∈ W → ¬ nT (F w)) : ∀ w, w ∈ x :: W → ¬ nT (F w) := fun w hw => by
  rcases List.mem_cons.mp hw with e | e
  · rw [e]; exact h
  · exact t w e
theorem rFz_fr (h : rFr W P F F1) (hw : ∀ w, w ∈ W → ¬ nT (F w)) : rFz P F F1 := fun a ha hn => h a ha (fun hm => hw a hm hn)
theorem gRwn_2 {lr x e1 n1 f : Nat} : ∀ a, gRwn γ lr x e1 n1 f 0 a = 2 → γ 0 a = 2 := fun a h => by
  have h' : (if a = x then 101 else if a = e1 then 8 else γ 0 a) = 2 := h
  split at h'
  · cases h'
  · split at h'
    · cases h'
    · exact h'
theorem gBlo_2 {b l : Nat} : ∀ a, gBlo γ b l 0 a = 2 → γ 0 a = 2 := fun a h => by
  have h' : (if a = b then 202 else if a = l then 3 else γ 0 a) = 2 := h
  split at h'
  · cases h'
  · split at h'
    · cases h'
    · exact h'
theorem gIns_2 {l x e1 n1 k f : Nat} : ∀ a, gIns γ l x e1 n1 k f 0 a = 2 → γ 0 a = 2 := fun a h => by
  have h' : (if a = x then 1 else if a = e1 then 6 else γ 0 a) = 2 := h
  split at h'
  · cases h'
  · split at h'
    · cases h'
    · exact h'
theorem gBln_2 {lb b l n e1 n1 f : Nat} : ∀ a, gBln γ lb b l n e1 n1 f 0 a = 2 → γ 0 a = 2 := fun a h => by
  have h' : (if a = b then 202 else if a = l then 3 else if a = n then 101 else if a = e1 then 7 else γ 0 a) = 2 := h
  split at h'
  · cases h'
  · split at h'
    · cases h'
    · split at h'
      · cases h'
      · split at h'
        · cases h'
        · exact h'
theorem gRwn_z {lr x e1 n1 f : Nat} (h1 : x ∉ P) (h2 : e1 ∉ P ∨ γ 0 e1 ≠ 0) : ∀ a, a ∈ P → γ 0 a = 0 → gRwn γ lr x e1 n1 f 0 a = 0 := fun a ha h => (if_neg (fun e : a = x => h1 (e ▸ ha))).trans ((if_neg (fun e : a = e1 => h2.elim (fun q => q (e ▸ ha)) (fun q => q (e ▸ h)))).trans h)
theorem gIns_z {l x e1 n1 k f : Nat} (h1 : γ 0 x ≠ 0) (h2 : e1 ∉ P ∨ γ 0 e1 ≠ 0) : ∀ a, a ∈ P → γ 0 a = 0 → gIns γ l x e1 n1 k f 0 a = 0 := fun a ha h => (if_neg (fun e : a = x => h1 (e ▸ h))).trans ((if_neg (fun e : a = e1 => h2.elim (fun q => q (e ▸ ha)) (fun q => q (e ▸ h)))).trans h)
theorem gBlo_z {b l : Nat} (h1 : γ 0 b ≠ 0) (h2 : γ 0 l ≠ 0) : ∀ a, a ∈ P → γ 0 a = 0 → gBlo γ b l 0 a = 0 := fun a ha h => (if_neg (fun e : a = b => h1 (e ▸ h))).trans ((if_neg (fun e : a = l => h2 (e ▸ h))).trans h)
theorem gBln_z {lb b l n e1 n1 f : Nat} (h1 : b ∉ P) (h2 : l ∉ P) (h3 : n ∉ P) (h4 : e1 ∉ P ∨ γ 0 e1 ≠ 0) : ∀ a, a ∈ P → γ 0 a = 0 → gBln γ lb b l n e1 n1 f 0 a = 0 := fun a ha h => (if_neg (fun e : a = b => h1 (e ▸ ha))).trans ((if_neg (fun e : a = l => h2 (e ▸ ha))).trans ((if_neg (fun e : a = n => h3 (e ▸ ha))).trans ((if_neg (fun e : a = e1 => h4.elim (fun q => q (e ▸ ha)) (fun q => q (e ▸ h)))).trans h)))
theorem nk {a k : Nat} (h : γ 0 a = k) (h0 : k ≠ 0) : γ 0 a ≠ 0 := by rw [h]; exact h0
theorem gBeg_0 {f B : Nat} : ∀ a, γ 0 a = 0 → gBeg γ f B 0 a = 0 := fun a h => by
  show (if γ 1 a = f then (if γ 0 a = 1 then 101 else if γ 0 a = 2 ∨ γ 0 a = 202 then 102 else if γ 0 a = 3 then 103 else γ 0 a) else γ 0 a) = 0
  rw [h]
  split <;> simp
theorem gBeg_2 {f B : Nat} : ∀ a, gBeg γ f B 0 a = 2 → gBeg γ f B 1 a ≠ f := fun a h => by
  have h' : (if γ 1 a = f then (if γ 0 a = 1 then 101 else if γ 0 a = 2 ∨ γ 0 a = 202 then 102 else if γ 0 a = 3 then 103 else γ 0 a) else γ 0 a) = 2 := h
  show γ 1 a ≠ f
  intro q
  rw [if_pos q] at h'
  split at h'
  · cases h'
  · split at h'
    · cases h'
    · split at h'
      · cases h'
      · omega
end NT

section RDZ
variable {l : Launch} {R : Room} {Qf : gFin} {k : gKey} {pc cs sl i : Nat} {L : List (Nat × Value)} {st : List Value} {D : va_G} {I : FieldType → ClassId} {P : List Nat} {F : Nat → va_E} {γ el : Nat → Nat → Nat} {c f lst x j : Nat}
set_option maxHeartbeats 1000000 in
theorem Gt_row0 (hl0 : l.stackTraces = false) (d : decode k.1 pc = .ok (.invokevirtual i, 3)) (hw : gCw (gV D I) R k.2.2.1 i yX13_row cX13_row 2 (some (FieldType.object "SpillForgeModel$Row")) 7 149 0) (w2 : Cond.instanceMethod yX13_row ∈ (gV D I).2.2.2.2) (w3 : Cond.selects yX13_row.cls yX13_row yX13_row ∈ (gV D I).2.2.2.2)
    (hT : RS D I P F γ el) (hc : γ 0 c = 9) (hcf : γ 1 c = f) (hsz : γ 2 (γ 15 c) ≤ 600000) (hcs : cs + 2 ≤ R.cells) (hsl : sl + (2 * γ 13 (γ 15 c) + 18) ≤ R.slots) (hcat : (st.map fun u => u.category).sum ≤ 8)
    (kk : ∀ P1 F1 γ1 el1 x dc ds, rRq D I P F γ el f c P1 F1 γ1 el1 x dc ds → rFz P F F1 → rZ P γ γ1 → G (gV D I) l R Qf k (pc + 3) L (.ref x :: st) (va_pl P1 F1) (cs + dc) (sl + ds)) :
    G (gV D I) l R Qf k pc L (.ref c :: st) (va_pl P F) cs sl := by
  have h9 : rk_9 γ el c (F c) := RS_o hT hc
  obtain ⟨lb, lr, rn, md, w1, -⟩ := id h9
  obtain ⟨u2, u3, u4, u5, u6, u7, u8, u9, u10, u11, u12, u13, u14, u15, u16, u17⟩ := rk9_at w1 h9
  have hlr : γ 15 c = lr := u2.2.1
  rw [hlr] at hsz hsl
  obtain ⟨⟨m, z, e, v1, v2, v3, v4, v5⟩, v6⟩ := show rk_5 D I γ el F lr from RS_o hT u5
  have mc : c ∈ P := hT.1 c (by omega)
  have mlr : lr ∈ P := hT.1 lr (by omega)
  have bz : gB z 0 1000000 := ⟨by omega, by omega⟩
  have brn : gB rn 0 1000000 := ⟨by omega, by omega⟩
  have bmd : gB md 0 1000000 := ⟨by omega, by omega⟩
  by_cases hlt : rn.toInt < γ 2 lr
  · obtain ⟨x1, x2, n, g, y1, y2, y3, y4, y5, y6⟩ := rLC_n v4 (by omega)
    have hi : rn.toInt.toNat < γ 2 lr := by omega
    have x0 : γ 0 (el lr rn.toInt.toNat) = 101 := u16 _ (by omega) hi
    obtain ⟨op, t, a, b, s, ra, rb, r1, r2, r3, r4, r5, r6, r7, -⟩ := show rkR (F (el lr rn.toInt.toNat)) from RS_o hT x0
    have me : e ∈ P := RS_m hT x1 (by decide)
    refine Gw_callV (As := []) (gV_ok D I) (cp_2289_Code_row l hl0 D I P F c lr e lb rn md m z g n (el lr rn.toInt.toNat) op t a b s ra rb mc mlr me (hT.1 _ (by omega)) w1 v1 y1 r1 brn bmd bz r2 r3 r4 r5 r6 (by omega) (by omega) (y5 _ hi) (by omega)) d (gCw_mono hw (by decide) (by decide)) w2 w3 mc w1 rfl (by omega) (by omega) hcat (fun r w dc ds hp => ?_) (fun _ _ _ _ _ z => z.elim)
    obtain ⟨F1, o, rfl, rfl, p1, p2, p3, p4, p5, p6, p7, p8, p9⟩ := hp
    exact kk P F1 _ _ _ dc ds (St_rowo hT hc hcf w1 hlr hlt rfl (fun b h0 hb hx => p1 b (hT.1 b h0) (nm_c hx (nm_c hb nm_n))) p2 p9 (rkR0 p5 r2 r7) (fI0 p5) p6 p7) (rFz_fr p1 (nz_c (nT_20 r1) (nz_c (nT_18 w1) nz_n))) ⟨fun a _ h => h, fun a h => h⟩
  · have heq : rn.toInt = γ 2 lr := by omega
    unfold rCp at v5
    rcases v4 with ⟨e0, s0, c0⟩ | hN
    · subst e0
      refine Gw_callV (As := []) (gV_ok D I) (cp_2696_Code_row l hl0 D I P F c lr lb rn md m z mc mlr w1 v1 brn bmd bz (by omega) (by omega)) d (gCw_mono hw (by decide) (by decide)) w2 w3 mc w1 rfl (by omega) (by omega) hcat (fun r w dc ds hp => ?_) (fun _ _ _ _ _ z => z.elim)
      obtain ⟨P1, F1, o1, x, o3, o4, e1, n1, f1, rfl, rfl, p1, p2, p3, p4, p5, p6, p7, p8, p9, p10, p11, p12, p13, p14, p15, p16, p17, p18, p19⟩ := hp
      refine kk P1 F1 _ _ x dc ds (St_rown hT p1 hc hcf w1 heq (RS_new hT p8) p7 (Or.inr (RS_new hT p10)) p9 (rn_oa p4 p6) (fun b h0 h1 h2 h3 => p2 b (hT.1 b h0) (nm_c h1 (nm_c h2 nm_n))) p3 p15 (rkR00 p4) (fI0 p4) p5 (by omega) p6 (by omega) (by omega) (by omega) (by omega) (fun j hj => by omega) ?_ (fun j w hj => Or.inr (p18 j w hj)) (by omega) (by omega)) (rFz_fr p2 (nz_c (nT_18 w1) (nz_c (nT_4 v1) nz_n))) ⟨gRwn_z p8 (Or.inl p10), gRwn_2⟩
      rw [show z.toInt.toNat = γ 2 lr by omega] at p17
      exact p17
    · obtain ⟨x1, x2, n, g, y1, y2, y3, y4, y5, y6⟩ := hN
      have me : e ∈ P := RS_m hT x1 (by decide)
      have hel := RS_el hT y6
      by_cases hroom : γ 2 lr < n
      · refine Gw_callV (As := []) (gV_ok D I) (cp_2390_Code_row l hl0 D I P F c lr e lb rn md m z g n mc mlr me w1 v1 y1 brn bmd bz (by omega) (by omega) hel (by omega)) d (gCw_mono hw (by decide) (by decide)) w2 w3 mc w1 rfl (by omega) (by omega) hcat (fun r w dc ds hp => ?_) (fun _ _ _ _ _ z => z.elim)
        obtain ⟨P1, F1, o1, x, o3, o4, f1, rfl, rfl, p1, p2, p3, p4, p5, p6, p7, p8, p9, p10, p11, p12, p13, p14, ⟨p15, p16⟩, p17⟩ := hp
        refine kk P1 F1 _ _ x dc ds (St_rown hT p1 hc hcf w1 heq (RS_new hT p8) p7 (Or.inl ⟨x1, x2⟩) (p1 _ me) (rn_oa p5 p6) (fun b h0 h1 h2 h3 => p2 b (hT.1 b h0) (nm_c h1 (nm_c h2 (nm_c h3 nm_n)))) p3 p13 (rkR00 p5) (fI0 p5) p4 (by omega) p6 (by omega) (by omega) (by omega) (by omega) (fun j hj => (p15 j (by omega)).trans (y5 j hj)) ?_ (fun j w hj => ?_) (by omega) (by omega)) (rFz_fr p2 (nz_c (nT_18 w1) (nz_c (nT_4 v1) (nz_c (nT_r y1) nz_n)))) ⟨gRwn_z p8 (Or.inr (nk x1 (by decide))), gRwn_2⟩
        · rw [show z.toInt.toNat = γ 2 lr by omega] at p16
          exact p16
        · rcases p17 j w hj with h | ⟨q, h⟩
          · exact Or.inr h
          · exact Or.inl (y6 q w h)
      · refine Gw_callV (As := []) (gV_ok D I) (cp_2541_Code_row l hl0 D I P F c lr e lb rn md m z g n mc mlr me w1 v1 y1 brn bmd bz (by omega) (by omega) (by omega) (by omega) hel (by omega)) d (gCw_mono hw (by decide) (by decide)) w2 w3 mc w1 rfl (by omega) (by omega) hcat (fun r w dc ds hp => ?_) (fun _ _ _ _ _ z => z.elim)
        obtain ⟨P1, F1, o1, x, o3, o4, e1, n1, f1, rfl, rfl, p1, p2, p3, p4, p5, p6, p7, p8, p9, p10, p11, p12, p13, p14, p15, p16, ⟨p17, p18⟩, p19, p20⟩ := hp
        refine kk P1 F1 _ _ x dc ds (St_rown hT p1 hc hcf w1 heq (RS_new hT p8) p7 (Or.inr (RS_new hT p10)) p9 (rn_oa p4 p6) (fun b h0 h1 h2 h3 => p2 b (hT.1 b h0) (nm_c h1 (nm_c h2 nm_n))) p3 p15 (rkR00 p4) (fI0 p4) p5 (by omega) p6 (by omega) (by omega) (by omega) (by omega) (fun j hj => (p17 j (by omega)).trans (y5 j hj)) ?_ (fun j w hj => ?_) (by omega) (by omega)) (rFz_fr p2 (nz_c (nT_18 w1) (nz_c (nT_4 v1) nz_n))) ⟨gRwn_z p8 (Or.inl p10), gRwn_2⟩
        · rw [show z.toInt.toNat = γ 2 lr by omega] at p18
          exact p18
        · rcases p19 j w hj with h | ⟨q, h⟩
          · exact Or.inr h
          · exact Or.inl (y6 q w h)
set_option maxHeartbeats 1000000 in
theorem Gt_block0 (hl0 : l.stackTraces = false) (d : decode k.1 pc = .ok (.invokevirtual i, 3)) (hw : gCw (gV D I) R k.2.2.1 i yX13_block cX13_block 2 (some (FieldType.object "SpillForgeModel$Block")) 7 149 0) (w2 : Cond.instanceMethod yX13_block ∈ (gV D I).2.2.2.2) (w3 : Cond.selects yX13_block.cls yX13_block yX13_block ∈ (gV D I).2.2.2.2)
    (hT : RS D I P F γ el) (hc : γ 0 c = 9) (hcf : γ 1 c = f) (hv : γ 6 f = 0) (hsz : γ 2 (γ 14 c) ≤ 600000) (hcs : cs + 4 ≤ R.cells) (hsl : sl + (2 * γ 13 (γ 14 c) + 25) ≤ R.slots) (hcat : (st.map fun u => u.category).sum ≤ 8)
    (kk : ∀ P1 F1 γ1 el1 b dc ds, rBq D I P F γ el f c P1 F1 γ1 el1 b dc ds → rFz P F F1 → rZ P γ γ1 → G (gV D I) l R Qf k (pc + 3) L (.ref b :: st) (va_pl P1 F1) (cs + dc) (sl + ds)) :
    G (gV D I) l R Qf k pc L (.ref c :: st) (va_pl P F) cs sl := by
  have h9 : rk_9 γ el c (F c) := RS_o hT hc
  obtain ⟨lb, lr, rn, md, w1, -⟩ := id h9
  obtain ⟨u2, u3, u4, u5, u6, u7, u8, u9, u10, u11, u12, u13, u14, u15, u16, u17⟩ := rk9_at w1 h9
  have hlb : γ 14 c = lb := u2.1
  rw [hlb] at hsz hsl
  obtain ⟨⟨m, z, e, v1, v2, v3, v4, v5⟩, v6⟩ := show rk_4 D I γ el F lb from RS_o hT u3
  have mc : c ∈ P := hT.1 c (by omega)
  have mlb : lb ∈ P := hT.1 lb (by omega)
  have bz : gB z 0 1000000 := ⟨by omega, by omega⟩
  have brn : gB rn 0 1000000 := ⟨by omega, by omega⟩
  have bmd : gB md 0 1000000 := ⟨by omega, by omega⟩
  by_cases hlt : md.toInt < γ 2 lb
  · obtain ⟨x1, x2, n, g, y1, y2, y3, y4, y5, y6⟩ := rLC_n v4 (by omega)
    have hi : md.toInt.toNat < γ 2 lb := by omega
    have x0 : γ 0 (el lb md.toInt.toNat) = 102 := u15 _ (by omega) hi
    obtain ⟨bl, bn, p, s, r1, -⟩ := show rk_102 γ (el lb md.toInt.toNat) (F (el lb md.toInt.toNat)) from RS_o hT x0
    obtain ⟨t1, t2, t3, t4, t5, t6, t7, t8⟩ := rk102_at r1 (show rk_102 γ (el lb md.toInt.toNat) (F (el lb md.toInt.toNat)) from RS_o hT x0)
    obtain ⟨m', z', e', s1, s2, s3, s4, s5⟩ := show rkL D I γ el F 6 bl from RS_o hT t2
    have me : e ∈ P := RS_m hT x1 (by decide)
    have ml : bl ∈ P := hT.1 bl (by omega)
    have bz' : gB z' 0 1000000 := ⟨by omega, by omega⟩
    have hne : lb ≠ bl := fun q => by rw [q, t2] at u3; cases u3
    rcases s4 with ⟨e0, s0, c0⟩ | ⟨a1, a2, n', g', b1, b2, b3, b4, b5, b6⟩
    · subst e0
      refine Gw_callV (As := []) (gV_ok D I) (cp_2937_Code_block l hl0 D I P F c lb e lr rn md m z g n bl (el lb md.toInt.toNat) m' z' bn p s mc mlb me ml (hT.1 _ (by omega)) w1 v1 y1 s1 r1 hne brn bmd bz bz' t7 t8 (by omega) (by omega) (y5 _ hi) (by omega) (by omega)) d (gCw_mono hw (by decide) (by decide)) w2 w3 mc w1 rfl (by omega) (by omega) hcat (fun r w dc ds hp => ?_) (fun _ _ _ _ _ z => z.elim)
      obtain ⟨F1, o1, o2, rfl, rfl, p1, p2, p3, p4, p5, p6, p7, p8, p9, p10⟩ := hp
      exact kk P F1 _ _ _ dc ds (St_blko (e := bl) hT hc hcf w1 hv hlt rfl r1 (Or.inl rfl) (fun b h0 hb hx _ => p1 b (hT.1 b h0) (nm_c hb (nm_c hx nm_n))) p2 p10 p6 (Or.inl ⟨rfl, c0⟩) p7 p8) (rFz_fr p1 (nz_c (nT_18 w1) (nz_c (nT_4 s1) nz_n))) ⟨gBlo_z (nk x0 (by decide)) (nk t2 (by decide)), gBlo_2⟩
    · have me' : e' ∈ P := RS_m hT a1 (by decide)
      have hee : e ≠ e' := fun q => by rw [q] at x1; unfold rKd at a1 x1; omega
      refine Gw_callV (As := []) (gV_ok D I) (cp_2864_Code_block l hl0 D I P F c lb e lr rn md m z g n e' bl (el lb md.toInt.toNat) n' g' m' z' bn p s mc mlb me me' ml (hT.1 _ (by omega)) w1 v1 y1 b1 s1 r1 hee hne brn bmd bz bz' t7 t8 (by omega) (by omega) (y5 _ hi) (RS_el hT b6) (by omega) (by omega) (by omega)) d (gCw_mono hw (by decide) (by decide)) w2 w3 mc w1 rfl (by omega) (by omega) hcat (fun r w dc ds hp => ?_) (fun _ _ _ _ _ z => z.elim)
      obtain ⟨F1, o1, o2, f2, rfl, rfl, p1, p2, p3, p4, p5, p6, p7, p8, p9, p10, p11, p12⟩ := hp
      exact kk P F1 _ _ _ dc ds (St_blko (e := e') hT hc hcf w1 hv hlt rfl r1 (Or.inr ⟨a1, a2⟩) (fun b h0 hb hx he => p1 b (hT.1 b h0) (nm_c hb (nm_c hx (nm_c he nm_n)))) p2 p11 p6 (Or.inr ⟨rfl, a1, a2.1, a2.2, n', f2, p7, b3, b4, fun j w hj => by obtain ⟨q, h⟩ := p12 j w hj; exact b6 q w h⟩) p8 p9) (rFz_fr p1 (nz_c (nT_18 w1) (nz_c (nT_4 s1) (nz_c (nT_r b1) nz_n)))) ⟨gBlo_z (nk x0 (by decide)) (nk t2 (by decide)), gBlo_2⟩
  · have heq : md.toInt = γ 2 lb := by omega
    unfold rCp at v5
    rcases v4 with ⟨e0, s0, c0⟩ | hN
    · subst e0
      refine Gw_callV (As := []) (gV_ok D I) (cp_3643_Code_block l hl0 D I P F c lb lr rn md m z mc mlb w1 v1 brn bmd bz (by omega) (by omega)) d (gCw_mono hw (by decide) (by decide)) w2 w3 mc w1 rfl (by omega) (by omega) hcat (fun r w dc ds hp => ?_) (fun _ _ _ _ _ z => z.elim)
      obtain ⟨P1, F1, o1, b, o3, o4, bl, o5, bn, e1, n1, f1, rfl, rfl, p1, p2, p3, p4, p5, p6, p7, p8, q1, q2, q3, q4, q5, q6, q7, q8, p11, p12, p13, p14, p15, p16, p17, p18, p19⟩ := hp
      refine kk P1 F1 _ _ b dc ds (St_blkn hT p1 hc hcf w1 hv heq (RS_new hT q2) (RS_new hT q4) (RS_new hT q6) (rn_oo p4 p8 (by decide)) (rn_oo p4 p5 (by decide)) (rn_oo p8 p5 (by decide)) (rn_oa p4 p7) (rn_oa p8 p7) (rn_oa p5 p7) q1 q3 q5 (Or.inr (RS_new hT q8)) q7 (fun b h0 h1 h2 h3 => p2 b (hT.1 b h0) (nm_c h1 (nm_c h2 nm_n))) p3 p15 p4 ⟨by decide, by decide⟩ ⟨by decide, by decide⟩ (rkR00 p5) p8 p6 (by omega) p7 (by omega) (by omega) (by omega) (by omega) (fun j hj => by omega) ?_ (fun j w hj => Or.inr (p18 j w hj)) (by omega) (by omega)) (rFz_fr p2 (nz_c (nT_18 w1) (nz_c (nT_4 v1) nz_n))) ⟨gBln_z q2 q4 q6 (Or.inl q8), gBln_2⟩
      rw [show z.toInt.toNat = γ 2 lb by omega] at p17
      exact p17
    · obtain ⟨x1, x2, n, g, y1, y2, y3, y4, y5, y6⟩ := hN
      have me : e ∈ P := RS_m hT x1 (by decide)
      have hel := RS_el hT y6
      by_cases hroom : γ 2 lb < n
      · refine Gw_callV (As := []) (gV_ok D I) (cp_2997_Code_block l hl0 D I P F c lb e lr rn md m z g n mc mlb me w1 v1 y1 brn bmd bz (by omega) (by omega) hel (by omega)) d (gCw_mono hw (by decide) (by decide)) w2 w3 mc w1 rfl (by omega) (by omega) hcat (fun r w dc ds hp => ?_) (fun _ _ _ _ _ z => z.elim)
        obtain ⟨P1, F1, o1, b, o3, o4, bl, o5, bn, f1, rfl, rfl, p1, p2, p3, p4, p5, p6, p7, p8, q1, q2, q3, q4, q5, q6, p11, p12, p13, p14, p15, p16, ⟨p17, p18⟩, p19⟩ := hp
        refine kk P1 F1 _ _ b dc ds (St_blkn hT p1 hc hcf w1 hv heq (RS_new hT q2) (RS_new hT q4) (RS_new hT q6) (rn_oo p5 p8 (by decide)) (rn_oo p5 p7 (by decide)) (rn_oo p8 p7 (by decide)) (rn_oa p5 p6) (rn_oa p8 p6) (rn_oa p7 p6) q1 q3 q5 (Or.inl ⟨x1, x2⟩) (p1 _ me) (fun b h0 h1 h2 h3 => p2 b (hT.1 b h0) (nm_c h1 (nm_c h2 (nm_c h3 nm_n)))) p3 p15 p5 ⟨by decide, by decide⟩ ⟨by decide, by decide⟩ (rkR00 p7) p8 p4 (by omega) p6 (by omega) (by omega) (by omega) (by omega) (fun j hj => (p17 j (by omega)).trans (y5 j hj)) ?_ (fun j w hj => ?_) (by omega) (by omega)) (rFz_fr p2 (nz_c (nT_18 w1) (nz_c (nT_4 v1) (nz_c (nT_r y1) nz_n)))) ⟨gBln_z q2 q4 q6 (Or.inr (nk x1 (by decide))), gBln_2⟩
        · rw [show z.toInt.toNat = γ 2 lb by omega] at p18
          exact p18
        · rcases p19 j w hj with h | ⟨q, h⟩
          · exact Or.inr h
          · exact Or.inl (y6 q w h)
      · refine Gw_callV (As := []) (gV_ok D I) (cp_3321_Code_block l hl0 D I P F c lb e lr rn md m z g n mc mlb me w1 v1 y1 brn bmd bz (by omega) (by omega) (by omega) (by omega) hel (by omega)) d (gCw_mono hw (by decide) (by decide)) w2 w3 mc w1 rfl (by omega) (by omega) hcat (fun r w dc ds hp => ?_) (fun _ _ _ _ _ z => z.elim)
        obtain ⟨P1, F1, o1, b, o3, o4, bl, o5, bn, e1, n1, f1, rfl, rfl, p1, p2, p3, p4, p5, p6, p7, p8, q1, q2, q3, q4, q5, q6, q7, q8, p11, p12, p13, p14, p15, p16, ⟨p17, p18⟩, p19, p20⟩ := hp
        refine kk P1 F1 _ _ b dc ds (St_blkn hT p1 hc hcf w1 hv heq (RS_new hT q2) (RS_new hT q4) (RS_new hT q6) (rn_oo p4 p8 (by decide)) (rn_oo p4 p5 (by decide)) (rn_oo p8 p5 (by decide)) (rn_oa p4 p7) (rn_oa p8 p7) (rn_oa p5 p7) q1 q3 q5 (Or.inr (RS_new hT q8)) q7 (fun b h0 h1 h2 h3 => p2 b (hT.1 b h0) (nm_c h1 (nm_c h2 nm_n))) p3 p15 p4 ⟨by decide, by decide⟩ ⟨by decide, by decide⟩ (rkR00 p5) p8 p6 (by omega) p7 (by omega) (by omega) (by omega) (by omega) (fun j hj => (p17 j (by omega)).trans (y5 j hj)) ?_ (fun j w hj => ?_) (by omega) (by omega)) (rFz_fr p2 (nz_c (nT_18 w1) (nz_c (nT_4 v1) nz_n))) ⟨gBln_z q2 q4 q6 (Or.inl q8), gBln_2⟩
        · rw [show z.toInt.toNat = γ 2 lb by omega] at p18
          exact p18
        · rcases p19 j w hj with h | ⟨q, h⟩
          · exact Or.inr h
          · exact Or.inl (y6 q w h)
set_option maxHeartbeats 1000000 in
theorem Gt_add0 (hl0 : l.stackTraces = false) (d : decode k.1 pc = .ok (.invokevirtual i, 3)) (hw : gCw (gV D I) R k.2.2.1 i yJx4a65c_add_9ea2d cJx4a65c_add_9ea2d 2 (some FieldType.boolean) 6 128 1) (w2 : Cond.instanceMethod yJx4a65c_add_9ea2d ∈ (gV D I).2.2.2.2) (w3 : Cond.selects yJx4a65c_add_9ea2d.cls yJx4a65c_add_9ea2d yJx4a65c_add_9ea2d ∈ (gV D I).2.2.2.2)
    (hT : RS D I P F γ el) (hl : γ 0 lst = 3) (hlf : γ 1 lst = f) (hx : γ 0 x = 101) (hxf : γ 1 x = f) (hx22 : γ 22 x = 0) (hx8 : γ 8 x < γ 16 f) (h18 : 0 < γ 18 f) (hc : γ 0 c = 9) (hcf : γ 1 c = f) (hj : j < γ 2 (γ 14 c)) (hli : γ 14 (el (γ 14 c) j) = lst) (hx1 : rk_1 γ x (F x))
    (hsz : γ 2 lst ≤ 600000) (hcs : cs + 1 ≤ R.cells) (hsl : sl + (2 * γ 13 lst + 11) ≤ R.slots) (hcat : (st.map fun u => u.category).sum ≤ 8)
    (kk : ∀ P1 F1 γ1 el1 dc ds, rIq D I P F γ el f lst (γ 2 lst) x P1 F1 γ1 el1 dc ds → rFz P F F1 → rZ P γ γ1 → G (gV D I) l R Qf k (pc + 3) L (.int 1 :: st) (va_pl P1 F1) (cs + dc) (sl + ds)) :
    G (gV D I) l R Qf k pc L (.ref x :: .ref lst :: st) (va_pl P F) cs sl := by
  obtain ⟨⟨m, z, e, v1, v2, v3, v4, v5⟩, v6⟩ := show rk_3 D I γ el F lst from RS_o hT hl
  have ml : lst ∈ P := hT.1 lst (by omega)
  have mx : x ∈ P := hT.1 x (by omega)
  have bz : gB z 0 16777216 := ⟨by omega, by omega⟩
  obtain ⟨op, t, a, b, s, ra, rb, r1, r2, r3, r4, r5, r6, -⟩ := id hx1
  unfold rCp at v5
  rcases v4 with ⟨e0, s0, c0⟩ | ⟨x1, x2, n, g, y1, y2, y3, y4, y5, y6⟩
  · subst e0
    refine Gw_callV (As := [.ref x]) (gV_ok D I) (cp_746_ArrayList_add l hl0 D I P F lst x m z op t a b s ra rb ml mx v1 r1 bz r2 r3 r4 r5 r6 (by omega)) d (gCw_mono hw (by decide) (by decide)) w2 w3 ml v1 rfl (by omega) (by omega) hcat (fun r w dc ds hp => ?_) (fun _ _ _ _ _ z => z.elim)
    obtain ⟨P1, F1, o1, o2, e1, n1, f1, rfl, rfl, p1, p2, p3, p4, p5, p6, p7, p8, p9, p10, p11, p12, p13, p14⟩ := hp
    have zz : z.toInt.toNat = γ 2 lst := by omega
    rw [zz] at p12
    exact kk P1 F1 _ _ dc ds (Iq_of hT p1 hl hlf hx hxf hx22 hx8 h18 (Nat.le_refl _) hc hcf hj hli hx1 (Or.inr (RS_new hT p7)) p6 (fun b h0 h1 h2 => p2 b (hT.1 b h0) (nm_c h1 nm_n)) p4 (by omega) p5 (by omega) (by omega) (by omega) (by omega) (fun j hj => by omega) p12 (fun j h1 h2 => by omega) (fun j w hj => Or.inr (p13 j w hj)) (by omega) (by omega)) (rFz_fr p2 (nz_c (nT_4 v1) nz_n)) ⟨gIns_z (nk hx (by decide)) (Or.inl p7), gIns_2⟩
  · have me : e ∈ P := RS_m hT x1 (by decide)
    have hel := RS_el hT y6
    by_cases hroom : γ 2 lst < n
    · refine Gw_callV (As := [.ref x]) (gV_ok D I) (cp_88_ArrayList_add l hl0 D I P F lst x e m z op t a b s ra rb g n ml mx me v1 r1 y1 bz r2 r3 r4 r5 r6 (by omega) hel (by omega)) d (gCw_mono hw (by decide) (by decide)) w2 w3 ml v1 rfl (by omega) (by omega) hcat (fun r w dc ds hp => ?_) (fun _ _ _ _ _ z => z.elim)
      obtain ⟨F1, o1, o2, f1, rfl, rfl, p1, p2, p3, p4, p5, p6, p7, p8, ⟨p9, p10⟩, p11⟩ := hp
      have zz : z.toInt.toNat = γ 2 lst := by omega
      rw [zz] at p10
      exact kk P F1 _ _ dc ds (Iq_of hT rSub_rf hl hlf hx hxf hx22 hx8 h18 (Nat.le_refl _) hc hcf hj hli hx1 (Or.inl ⟨x1, x2⟩) me (fun b h0 h1 h2 => p1 b (hT.1 b h0) (nm_c h1 (nm_c h2 nm_n))) p2 (by omega) p4 (by omega) (by omega) (by omega) (by omega) (fun j hj => (p9 j (by omega)).trans (y5 j hj)) p10 (fun j h1 h2 => by omega) (fun j w hj => by rcases p11 j w hj with h | ⟨q, h⟩; exact Or.inr h; exact Or.inl (y6 q w h)) (by omega) (by omega)) (rFz_fr p1 (nz_c (nT_4 v1) (nz_c (nT_r y1) nz_n))) ⟨gIns_z (nk hx (by decide)) (Or.inr (nk x1 (by decide))), gIns_2⟩
    · refine Gw_callV (As := [.ref x]) (gV_ok D I) (cp_276_ArrayList_add l hl0 D I P F lst x e m z op t a b s ra rb g n ml mx me v1 r1 y1 bz r2 r3 r4 r5 r6 (by omega) (by omega) (by omega) hel (by omega)) d (gCw_mono hw (by decide) (by decide)) w2 w3 ml v1 rfl (by omega) (by omega) hcat (fun r w dc ds hp => ?_) (fun _ _ _ _ _ z => z.elim)
      obtain ⟨P1, F1, o1, o2, e1, n1, f1, rfl, rfl, p1, p2, p3, p4, p5, p6, p7, p8, p9, p10, p11, ⟨p12, p13⟩, p14, p15⟩ := hp
      have zz : z.toInt.toNat = γ 2 lst := by omega
      rw [zz] at p13
      exact kk P1 F1 _ _ dc ds (Iq_of hT p1 hl hlf hx hxf hx22 hx8 h18 (Nat.le_refl _) hc hcf hj hli hx1 (Or.inr (RS_new hT p7)) p6 (fun b h0 h1 h2 => p2 b (hT.1 b h0) (nm_c h1 nm_n)) p4 (by omega) p5 (by omega) (by omega) (by omega) (by omega) (fun j hj => (p12 j (by omega)).trans (y5 j hj)) p13 (fun j h1 h2 => by omega) (fun j w hj => by rcases p14 j w hj with h | ⟨q, h⟩; exact Or.inr h; exact Or.inl (y6 q w h)) (by omega) (by omega)) (rFz_fr p2 (nz_c (nT_4 v1) nz_n)) ⟨gIns_z (nk hx (by decide)) (Or.inl p7), gIns_2⟩
theorem Gt_beg0 (B : Nat) (hl0 : l.stackTraces = false) (d : decode k.1 pc = .ok (.invokevirtual i, 3)) (hw : gCw (gV D I) R k.2.2.1 i yX13_begin cX13_begin 1 none 0 0 0) (w2 : Cond.instanceMethod yX13_begin ∈ (gV D I).2.2.2.2) (w3 : Cond.selects yX13_begin.cls yX13_begin yX13_begin ∈ (gV D I).2.2.2.2)
    (hT : RS D I P F γ el) (hc : γ 0 c = 9) (hcf : γ 1 c = f) (hcs : cs + 0 ≤ R.cells) (hsl : sl + 0 ≤ R.slots) (hcat : (st.map fun u => u.category).sum ≤ 8)
    (kk : ∀ F1 γ1 el1, rGq D I P F γ el f c B F1 γ1 el1 → rFz P F F1 → (∀ a, γ 0 a = 0 → γ1 0 a = 0) → (∀ a, γ1 0 a = 2 → γ1 1 a ≠ f) → G (gV D I) l R Qf k (pc + 3) L st (va_pl P F1) cs sl) :
    G (gV D I) l R Qf k pc L (.ref c :: st) (va_pl P F) cs sl := by
  have h9 : rk_9 γ el c (F c) := RS_o hT hc
  obtain ⟨lb, lr, rn, md, w1, -⟩ := id h9
  obtain ⟨u2, u3, u4, u5, u6, u7, u8, u9, u10, u11, u12, u13, u14, u15, u16, u17⟩ := rk9_at w1 h9
  have mc : c ∈ P := hT.1 c (by omega)
  refine Gw_callV (As := []) (gV_ok D I) (cp_3928_Code_begin l hl0 D I P F c lb lr rn md mc w1 ⟨by omega, by omega⟩ ⟨by omega, by omega⟩) d hw w2 w3 mc w1 rfl (by omega) (by omega) hcat (fun r w dc ds hp => ?_) (fun _ _ _ _ _ z => z.elim)
  obtain ⟨F1, rfl, rfl, p1, p2, p3, p4⟩ := hp
  obtain ⟨h1, h2, h3, h4⟩ := St_beg (f := f) B hT hc hcf w1 (fun a h0 hne => p1 a (hT.1 a h0) (nm_c hne nm_n)) p2
  refine G_widen (cs' := cs) (sl' := sl) (by omega) (by omega) ?_
  exact kk F1 _ _ ⟨h1, if_pos rfl, if_pos rfl, if_pos rfl, if_pos rfl, if_pos rfl, if_pos rfl, rfl, rfl, by rw [p2]; rfl, h2, h3, h4⟩ (rFz_fr p1 (nz_c (nT_18 w1) nz_n)) gBeg_0 gBeg_2
end RDZ
end
