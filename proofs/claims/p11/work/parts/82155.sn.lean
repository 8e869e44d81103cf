section RSN
variable {bs : List Int32} {r a : Int32} {c d : Int}
theorem n8 (h0 : 0 ≤ a.toInt) (h1 : a.toInt ≤ 127) {y : Int32} (hy : y = a.toInt8.toInt32) : y.toInt = a.toInt := by
  rw [hy, Int8.toInt_toInt32, Int32.toInt_toInt8, Int.bmod_def]
  split <;> omega
theorem icr {a2 a3 : Int32} (h : tr_RStringLatin1_indexOfChar bs a a2 a3 r) (hz : a2.toInt = 0) (hl : a3.toInt = (bs.length : Int)) (b0 : 0 ≤ a.toInt) (b1 : a.toInt ≤ 127) : (0 ≤ r.toInt ∧ ∃ j : Nat, j < bs.length ∧ (bs.getD j 0).toInt = a.toInt) ∨ (r.toInt = -1 ∧ ∀ j : Nat, j < bs.length → (bs.getD j 0).toInt ≠ a.toInt) := by
  refine h (fun r => (0 ≤ r.toInt ∧ ∃ j : Nat, j < bs.length ∧ (bs.getD j 0).toInt = a.toInt) ∨ (r.toInt = -1 ∧ ∀ j : Nat, j < bs.length → (bs.getD j 0).toInt ≠ a.toInt)) ?_ ?_
  · intro x1 h1 h2
    have e := n8 b0 b1 h1
    rcases ic_tl h2 0 hz with ⟨q1, q2⟩ | ⟨q1, j, q2, q3, q4⟩
    · exact Or.inr ⟨px_m1, fun j hj => by rw [← e]; exact q2 j (Nat.zero_le _) (by omega)⟩
    · exact absurd q1 (by decide)
  · intro x1 x2 h1 h2
    have e := n8 b0 b1 h1
    rcases ic_tl h2 0 hz with ⟨q1, q2⟩ | ⟨q1, j, q2, q3, q4⟩
    · exact absurd q1 (by decide)
    · exact Or.inl ⟨by omega, j, by omega, by rw [← e]; exact q4⟩
theorem ce2 (h : tr_RStringLatin1_canEncode2 a 0) : ¬ (0 ≤ a.toInt ∧ a.toInt ≤ 255) := by
  have q : (0 : Int32).toInt = 0 → ¬ (0 ≤ a.toInt ∧ a.toInt ≤ 255) := by
    refine h (fun r => r.toInt = 0 → ¬ (0 ≤ a.toInt ∧ a.toInt ≤ 255)) ?_ ?_ ?_
    · intro h1
      intro _; omega
    · intro h1 h2
      intro _; omega
    · intro h1 h2
      exact fun z => absurd z (by decide)
  exact q (by decide)
theorem ic3 {a2 a3 : Int32} (h : tr_RStringLatin1_indexOf3 bs a a2 a3 r) (hz : a2.toInt = 0) (hl : a3.toInt = (bs.length : Int)) (hb : 0 < bs.length) (b0 : 0 ≤ a.toInt) (b1 : a.toInt ≤ 127) : (0 ≤ r.toInt ∧ ∃ j : Nat, j < bs.length ∧ (bs.getD j 0).toInt = a.toInt) ∨ (r.toInt = -1 ∧ ∀ j : Nat, j < bs.length → (bs.getD j 0).toInt ≠ a.toInt) := by
  refine h (fun r => (0 ≤ r.toInt ∧ ∃ j : Nat, j < bs.length ∧ (bs.getD j 0).toInt = a.toInt) ∨ (r.toInt = -1 ∧ ∀ j : Nat, j < bs.length → (bs.getD j 0).toInt ≠ a.toInt)) ?_ ?_ ?_
  · intro h1
    exact absurd (ce2 h1) (by omega)
  · intro x1 x2 x3 x4 h1 h2 h3 h4 h5 h6 h7
    exact icr h7 (by omega) (by omega) b0 b1
  · intro x1 x2 x3 h1 h2 h3 h4 h5
    omega
theorem ic2 (h : tr_RString_indexOf3 bs a 0 r) (hb : 0 < bs.length) (b0 : 0 ≤ a.toInt) (b1 : a.toInt ≤ 127) : (0 ≤ r.toInt ∧ ∃ j : Nat, j < bs.length ∧ (bs.getD j 0).toInt = a.toInt) ∨ (r.toInt = -1 ∧ ∀ j : Nat, j < bs.length → (bs.getD j 0).toInt ≠ a.toInt) := by
  refine h (fun r => (0 ≤ r.toInt ∧ ∃ j : Nat, j < bs.length ∧ (bs.getD j 0).toInt = a.toInt) ∨ (r.toInt = -1 ∧ ∀ j : Nat, j < bs.length → (bs.getD j 0).toInt ≠ a.toInt)) ?_
  · intro x1 x2 h1 h2 h3 h4
    exact ic3 h4 (by decide) (sl2_tr h2) hb b0 b1
theorem ic1 (h : tr_RString_indexOf2 bs a r) (hb : 0 < bs.length) (b0 : 0 ≤ a.toInt) (b1 : a.toInt ≤ 127) : (0 ≤ r.toInt ∧ ∃ j : Nat, j < bs.length ∧ (bs.getD j 0).toInt = a.toInt) ∨ (r.toInt = -1 ∧ ∀ j : Nat, j < bs.length → (bs.getD j 0).toInt ≠ a.toInt) := by
  refine h (fun r => (0 ≤ r.toInt ∧ ∃ j : Nat, j < bs.length ∧ (bs.getD j 0).toInt = a.toInt) ∨ (r.toInt = -1 ∧ ∀ j : Nat, j < bs.length → (bs.getD j 0).toInt ≠ a.toInt)) ?_
  · intro x1 h1 h2
    exact ic2 h2 hb b0 b1
theorem sgC_37 : (∃ j : Nat, j < sb_37.length ∧ (sb_37.getD j 0).toInt = c) ↔ sgC c := by
  have L : sb_37.length = 14 := by decide
  have T : ∀ j : Fin 14, sgC (sb_37.getD j.val 0).toInt := by unfold sgC; decide +kernel
  constructor
  · rintro ⟨j, h1, h2⟩
    rw [← h2]
    exact T ⟨j, by omega⟩
  · unfold sgC
    rintro (h | h | h | h | h | h | h | h | h | h | h | h | h | h)
    · exact ⟨0, by rw [L]; decide, by rw [h]; decide⟩
    · exact ⟨1, by rw [L]; decide, by rw [h]; decide⟩
    · exact ⟨2, by rw [L]; decide, by rw [h]; decide⟩
    · exact ⟨3, by rw [L]; decide, by rw [h]; decide⟩
    · exact ⟨4, by rw [L]; decide, by rw [h]; decide⟩
    · exact ⟨5, by rw [L]; decide, by rw [h]; decide⟩
    · exact ⟨6, by rw [L]; decide, by rw [h]; decide⟩
    · exact ⟨7, by rw [L]; decide, by rw [h]; decide⟩
    · exact ⟨8, by rw [L]; decide, by rw [h]; decide⟩
    · exact ⟨9, by rw [L]; decide, by rw [h]; decide⟩
    · exact ⟨10, by rw [L]; decide, by rw [h]; decide⟩
    · exact ⟨11, by rw [L]; decide, by rw [h]; decide⟩
    · exact ⟨12, by rw [L]; decide, by rw [h]; decide⟩
    · exact ⟨13, by rw [L]; decide, by rw [h]; decide⟩
/-- what a symbol is -/
def syR (c d : Int) (at0 : Int) (at' kd : Int32) (xt : gTx) : Prop := (kd.toInt = 6 ∧ ¬ sgC c ∧ ¬ tw c d ∧ at'.toInt = at0 + 1) ∨ (kd.toInt = 5 ∧ xt.1 = 2 ∧ (xt.2 0).toInt = c ∧ (xt.2 1).toInt = d ∧ tw c d ∧ at'.toInt = at0 + 2) ∨ (kd.toInt = 5 ∧ xt.1 = 1 ∧ (xt.2 0).toInt = c ∧ sgC c ∧ ¬ tw c d ∧ at'.toInt = at0 + 1)
theorem s1b {x1 x2 x3 : Int32} {f1 f2 f3 : Nat → Int32} {m : Nat} (h1 : tr_RStringBuilder_append4 sb_32 0 (fun _ => 0) 16 x1 f1) (h2 : x2 = (a.toUInt32 % 65536).toInt32) (h3 : tr_RStringBuilder_append x2 x1 f1 16 x3 f2) (h4 : tr_RStringBuilder_toString x3 f2 16 m f3) (b0 : 0 ≤ a.toInt) (b1 : a.toInt ≤ 127) : m = 1 ∧ (f3 0).toInt = a.toInt := by
  have L : sb_32.length = 0 := by decide
  obtain ⟨a1, a2, a3, a4⟩ := apl h1 (c := 0) (by decide) (by decide)
  rw [L] at a1
  have e := px_i2c h2 b0 (by omega)
  obtain ⟨c1, c2, c3, c4⟩ := apn h3 (c := 0) a1 (by decide) (by omega) (by omega)
  obtain ⟨d1, d2⟩ := tos_tr h4 (c := 0 + 1) c1 c4
  exact ⟨d1, by rw [d2 0 (by decide), c3, e]⟩
theorem sym_tr {a1 : Int32} {a0_n : Int32} {a0_at : Int32} {a0_t_v : Nat → Int32} {o1 : Int32} {o2 : Int32} {o3 : gTx} (hx : a1 = a0_t_v a0_at.toNatClampNeg) (hb : gB a1 (-128) 127) (h0 : 0 ≤ a0_at.toInt) (hl : a0_at.toInt < a0_n.toInt) (hn : a0_n.toInt ≤ 8192) (h : tr_RReader_symbol a1 a0_n a0_at a0_t_v o1 o2 o3) : syR (bA a0_t_v a0_n.toInt a0_at.toInt) (bA a0_t_v a0_n.toInt (a0_at.toInt + 1)) a0_at.toInt o1 o2 o3 := by
  have qc := rb (n := a0_n) hx hb h0 hl
  have b1 := hb.1
  have b2 := hb.2
  have out : ∀ {e : Int}, a1.toInt ≤ 32 → ¬ sgC (bA a0_t_v a0_n.toInt a0_at.toInt) ∧ ¬ tw (bA a0_t_v a0_n.toInt a0_at.toInt) e := fun {e} z => by
    unfold sgC tw
    split at qc <;> omega
  have L7 : sb_37.length = 14 := by decide
  have L6 : sb_36.length = 16 := by decide
  have L5 : sb_35.length = 1 := by decide
  have L2 : sb_32.length = 0 := by decide
  refine h (fun o1 o2 o3 => syR (bA a0_t_v a0_n.toInt a0_at.toInt) (bA a0_t_v a0_n.toInt (a0_at.toInt + 1)) a0_at.toInt o1 o2 o3) ?_ ?_ ?_ ?_ ?_ ?_
  · intro x1 x2 h1 h2 h3 h4 h5
    have nt : ¬ tw (bA a0_t_v a0_n.toInt a0_at.toInt) (bA a0_t_v a0_n.toInt (a0_at.toInt + 1)) := by
      rcases h1 with ⟨y1, e1, e2⟩ | ⟨y1, y2, e1, e2, e3, e4, e5⟩ | ⟨y1, y2, e1, e2, e3, e4, e5, e6⟩
      · have q := bA_out (f := a0_t_v) (n := a0_n.toInt) (i := a0_at.toInt + 1) (by omega)
        rw [q]; unfold tw; omega
      · have q := rb (n := a0_n) e3 e4 (by omega) e2
        have q1 := e4.1
        rw [e1] at q
        unfold tw
        split at q <;> omega
      · exact (out e6).2
    exact Or.inl ⟨px_6, (out (e := 0) h4).1, nt, h5⟩
  · intro x1 x2 x3 x4 x5 x6 x7 x8 x9 x10 x11 h1 h2 h3 h4 h5 h6 h7 h8 h9 h10 h11 h12 h13 h14 h15
    have nt : ¬ tw (bA a0_t_v a0_n.toInt a0_at.toInt) (bA a0_t_v a0_n.toInt (a0_at.toInt + 1)) := by
      rcases h1 with ⟨y1, e1, e2⟩ | ⟨y1, y2, e1, e2, e3, e4, e5⟩ | ⟨y1, y2, e1, e2, e3, e4, e5, e6⟩
      · have q := bA_out (f := a0_t_v) (n := a0_n.toInt) (i := a0_at.toInt + 1) (by omega)
        rw [q]; unfold tw; omega
      · have q := rb (n := a0_n) e3 e4 (by omega) e2
        have q1 := e4.1
        rw [e1] at q
        unfold tw
        split at q <;> omega
      · exact (out e6).2
    rw [if_pos (by omega)] at qc
    have ec := px_i2c h5 (by omega) (by omega)
    have ix := ic1 h7 (by rw [L7]; decide) (by omega) (by omega)
    rw [ec, ← qc] at ix
    rcases ix with ⟨q, -⟩ | ⟨-, q⟩
    · omega
    · exact Or.inl ⟨px_6, fun z => (by obtain ⟨j, j1, j2⟩ := sgC_37.mpr z; exact q j j1 j2), nt, h15⟩
  · intro x1 x2 x3 x4 x5 x6 x7 x8 x9 x10 x11 h1 h2 h3 h4 h5 h6 h7 h8 h9 h10 h11 h12 h13 h14 h15
    have nt : ¬ tw (bA a0_t_v a0_n.toInt a0_at.toInt) (bA a0_t_v a0_n.toInt (a0_at.toInt + 1)) := by
      rcases h1 with ⟨y1, e1, e2⟩ | ⟨y1, y2, e1, e2, e3, e4, e5⟩ | ⟨y1, y2, e1, e2, e3, e4, e5, e6⟩
      · have q := bA_out (f := a0_t_v) (n := a0_n.toInt) (i := a0_at.toInt + 1) (by omega)
        rw [q]; unfold tw; omega
      · have q := rb (n := a0_n) e3 e4 (by omega) e2
        have q1 := e4.1
        rw [e1] at q
        unfold tw
        split at q <;> omega
      · exact (out e6).2
    rw [if_pos (by omega)] at qc
    have ec := px_i2c h5 (by omega) (by omega)
    have ix := ic1 h7 (by rw [L7]; decide) (by omega) (by omega)
    rw [ec, ← qc] at ix
    rcases ix with ⟨-, q⟩ | ⟨q, -⟩
    · obtain ⟨s1, s2⟩ := s1b h10 h11 h13 h14 (by omega) (by omega)
      exact Or.inr (Or.inr ⟨px_5, s1, by rw [qc]; exact s2, sgC_37.mp q, nt, h15⟩)
    · omega
  · intro x1 x2 x3 x4 x5 x6 x7 x8 x9 x10 x11 x12 x13 x14 x15 x16 x17 x18 x19 x20 x21 x22 x23 x24 x25 x26 x27 x28 x29 x30 x31 h1 h2 h3 h4 h5 h6 h7 h8 h9 h10 h11 h12 h13 h14 h15 h16 h17 h18 h19 h20 h21 h22 h23 h24 h25 h26 h27 h28 h29 h30 h31 h32 h33 h34 h35 h36 h37
    have qd := rb (n := a0_n) h3 h4 (by omega) h2
    have g1 := h4.1
    have g2 := h4.2
    rw [if_pos (by omega)] at qc qd
    rw [h1] at qd
    have ec := px_i2c h9 (by omega) (by omega)
    have ed := px_i2c h12 (by omega) (by omega)
    obtain ⟨a1', a2', a3', a4'⟩ := apl h8 (c := 0) (by decide) (by decide)
    rw [L2] at a1'
    obtain ⟨c1, c2, c3, c4⟩ := apn h11 (c := 0) a1' (by decide) (by omega) (by omega)
    obtain ⟨d1, d2, d3, d4⟩ := apn h14 (c := 0 + 1) c1 c4 (by omega) (by omega)
    obtain ⟨t1, t2⟩ := tos_tr h15 (c := 0 + 1 + 1) d1 d4
    have tx0 : (x12 0).toInt = bA a0_t_v a0_n.toInt a0_at.toInt := by rw [t2 0 (by decide), d2 0 (by decide), c3, ec, qc]
    have tx1 : (x12 1).toInt = bA a0_t_v a0_n.toInt (a0_at.toInt + 1) := by rw [t2 1 (by decide), d3, ed, qd]
    obtain ⟨e1, e2, e3, e4⟩ := apl h19 (c := 0) (by decide) (by decide)
    rw [L5] at e1 e3
    rw [t1] at h21
    obtain ⟨f1, f2, f3, f4⟩ := ap3 h21 (c0 := 1) e1
    obtain ⟨k1, k2, k3, k4⟩ := apl h23 (c := 1 + (0 + 1 + 1)) f1 f4
    rw [L5] at k1 k3 k4
    obtain ⟨m1, m2⟩ := tos_tr h24 (c := 1 + (0 + 1 + 1) + 1) k1 k4
    have e32 : (sb_35.getD 0 0).toInt = 32 := by decide
    have yb : bbT x12 2 x21 := by
      refine ⟨?_, fun j hj => ?_, ?_⟩
      · rw [m2 0 (by decide), k2 0 (by decide), f2 0 (by decide)]
        have := e3 0 (by decide)
        rw [Nat.zero_add] at this
        rw [this]; exact e32
      · rw [m2 _ (by omega), k2 _ (by omega)]; exact f3 j (by omega)
      · rw [m2 _ (by decide)]
        have := k3 0 (by decide)
        rw [this]; exact e32
    rw [m1] at h26
    have io := iof_tr (m := 2 + 2) (by decide) (by rw [L6]; decide) (by rw [L6]; decide) h26
    have two : (∃ q, mtc sb_36 (2 + 2) x21 q) ↔ tw (bA a0_t_v a0_n.toInt a0_at.toInt) (bA a0_t_v a0_n.toInt (a0_at.toInt + 1)) := by
      constructor
      · rintro ⟨q, hq⟩
        obtain ⟨p1, p2, p3, p4, p5⟩ := mt4e yb tx0 tx1 hq
        rw [L6] at p1
        have tb := tab3 ⟨q, by omega⟩ p2 p5 (by rw [p3]; omega) (by rw [p4]; omega)
        rw [p3, p4] at tb
        exact v2_tw.mp tb
      · unfold tw
        rintro (⟨p, q⟩ | ⟨p, q⟩ | ⟨p, q⟩ | ⟨p, q⟩ | ⟨p, q⟩)
        · exact ⟨0, mt4 yb tx0 tx1 (by decide) (by rw [p]; decide) (by rw [q]; decide) (by decide) (by rw [L6]; decide)⟩
        · exact ⟨3, mt4 yb tx0 tx1 (by decide) (by rw [p]; decide) (by rw [q]; decide) (by decide) (by rw [L6]; decide)⟩
        · exact ⟨6, mt4 yb tx0 tx1 (by decide) (by rw [p]; decide) (by rw [q]; decide) (by decide) (by rw [L6]; decide)⟩
        · exact ⟨9, mt4 yb tx0 tx1 (by decide) (by rw [p]; decide) (by rw [q]; decide) (by decide) (by rw [L6]; decide)⟩
        · exact ⟨12, mt4 yb tx0 tx1 (by decide) (by rw [p]; decide) (by rw [q]; decide) (by decide) (by rw [L6]; decide)⟩
    have nt : ¬ tw (bA a0_t_v a0_n.toInt a0_at.toInt) (bA a0_t_v a0_n.toInt (a0_at.toInt + 1)) := fun z => by
      obtain ⟨q, hq⟩ := two.mpr z
      rcases io with ⟨-, k⟩ | ⟨q', k, -⟩
      · exact k q hq
      · omega
    have e23 := px_i2c h28 (by omega) (by omega)
    have ix := ic1 h30 (by rw [L7]; decide) (by omega) (by omega)
    rw [e23, ← qc] at ix
    rcases ix with ⟨q, -⟩ | ⟨-, q⟩
    · omega
    · exact Or.inl ⟨px_6, fun z => (by obtain ⟨j, j1, j2⟩ := sgC_37.mpr z; exact q j j1 j2), nt, h1⟩
  · intro x1 x2 x3 x4 x5 x6 x7 x8 x9 x10 x11 x12 x13 x14 x15 x16 x17 x18 x19 x20 x21 x22 x23 x24 x25 x26 x27 x28 x29 x30 x31 h1 h2 h3 h4 h5 h6 h7 h8 h9 h10 h11 h12 h13 h14 h15 h16 h17 h18 h19 h20 h21 h22 h23 h24 h25 h26 h27 h28 h29 h30 h31 h32 h33 h34 h35 h36 h37
    have qd := rb (n := a0_n) h3 h4 (by omega) h2
    have g1 := h4.1
    have g2 := h4.2
    rw [if_pos (by omega)] at qc qd
    rw [h1] at qd
    have ec := px_i2c h9 (by omega) (by omega)
    have ed := px_i2c h12 (by omega) (by omega)
    obtain ⟨a1', a2', a3', a4'⟩ := apl h8 (c := 0) (by decide) (by decide)
    rw [L2] at a1'
    obtain ⟨c1, c2, c3, c4⟩ := apn h11 (c := 0) a1' (by decide) (by omega) (by omega)
    obtain ⟨d1, d2, d3, d4⟩ := apn h14 (c := 0 + 1) c1 c4 (by omega) (by omega)
    obtain ⟨t1, t2⟩ := tos_tr h15 (c := 0 + 1 + 1) d1 d4
    have tx0 : (x12 0).toInt = bA a0_t_v a0_n.toInt a0_at.toInt := by rw [t2 0 (by decide), d2 0 (by decide), c3, ec, qc]
    have tx1 : (x12 1).toInt = bA a0_t_v a0_n.toInt (a0_at.toInt + 1) := by rw [t2 1 (by decide), d3, ed, qd]
    obtain ⟨e1, e2, e3, e4⟩ := apl h19 (c := 0) (by decide) (by decide)
    rw [L5] at e1 e3
    rw [t1] at h21
    obtain ⟨f1, f2, f3, f4⟩ := ap3 h21 (c0 := 1) e1
    obtain ⟨k1, k2, k3, k4⟩ := apl h23 (c := 1 + (0 + 1 + 1)) f1 f4
    rw [L5] at k1 k3 k4
    obtain ⟨m1, m2⟩ := tos_tr h24 (c := 1 + (0 + 1 + 1) + 1) k1 k4
    have e32 : (sb_35.getD 0 0).toInt = 32 := by decide
    have yb : bbT x12 2 x21 := by
      refine ⟨?_, fun j hj => ?_, ?_⟩
      · rw [m2 0 (by decide), k2 0 (by decide), f2 0 (by decide)]
        have := e3 0 (by decide)
        rw [Nat.zero_add] at this
        rw [this]; exact e32
      · rw [m2 _ (by omega), k2 _ (by omega)]; exact f3 j (by omega)
      · rw [m2 _ (by decide)]
        have := k3 0 (by decide)
        rw [this]; exact e32
    rw [m1] at h26
    have io := iof_tr (m := 2 + 2) (by decide) (by rw [L6]; decide) (by rw [L6]; decide) h26
    have two : (∃ q, mtc sb_36 (2 + 2) x21 q) ↔ tw (bA a0_t_v a0_n.toInt a0_at.toInt) (bA a0_t_v a0_n.toInt (a0_at.toInt + 1)) := by
      constructor
      · rintro ⟨q, hq⟩
        obtain ⟨p1, p2, p3, p4, p5⟩ := mt4e yb tx0 tx1 hq
        rw [L6] at p1
        have tb := tab3 ⟨q, by omega⟩ p2 p5 (by rw [p3]; omega) (by rw [p4]; omega)
        rw [p3, p4] at tb
        exact v2_tw.mp tb
      · unfold tw
        rintro (⟨p, q⟩ | ⟨p, q⟩ | ⟨p, q⟩ | ⟨p, q⟩ | ⟨p, q⟩)
        · exact ⟨0, mt4 yb tx0 tx1 (by decide) (by rw [p]; decide) (by rw [q]; decide) (by decide) (by rw [L6]; decide)⟩
        · exact ⟨3, mt4 yb tx0 tx1 (by decide) (by rw [p]; decide) (by rw [q]; decide) (by decide) (by rw [L6]; decide)⟩
        · exact ⟨6, mt4 yb tx0 tx1 (by decide) (by rw [p]; decide) (by rw [q]; decide) (by decide) (by rw [L6]; decide)⟩
        · exact ⟨9, mt4 yb tx0 tx1 (by decide) (by rw [p]; decide) (by rw [q]; decide) (by decide) (by rw [L6]; decide)⟩
        · exact ⟨12, mt4 yb tx0 tx1 (by decide) (by rw [p]; decide) (by rw [q]; decide) (by decide) (by rw [L6]; decide)⟩
    have nt : ¬ tw (bA a0_t_v a0_n.toInt a0_at.toInt) (bA a0_t_v a0_n.toInt (a0_at.toInt + 1)) := fun z => by
      obtain ⟨q, hq⟩ := two.mpr z
      rcases io with ⟨-, k⟩ | ⟨q', k, -⟩
      · exact k q hq
      · omega
    have e23 := px_i2c h28 (by omega) (by omega)
    have ix := ic1 h30 (by rw [L7]; decide) (by omega) (by omega)
    rw [e23, ← qc] at ix
    rcases ix with ⟨-, q⟩ | ⟨q, -⟩
    · obtain ⟨s1, s2⟩ := s1b h33 h34 h36 h37 (by omega) (by omega)
      exact Or.inr (Or.inr ⟨px_5, s1, by rw [qc]; exact s2, sgC_37.mp q, nt, h1⟩)
    · omega
  · intro x1 x2 x3 x4 x5 x6 x7 x8 x9 x10 x11 x12 x13 x14 x15 x16 x17 x18 x19 x20 x21 x22 x23 h1 h2 h3 h4 h5 h6 h7 h8 h9 h10 h11 h12 h13 h14 h15 h16 h17 h18 h19 h20 h21 h22 h23 h24 h25 h26 h27 h28
    have qd := rb (n := a0_n) h3 h4 (by omega) h2
    have g1 := h4.1
    have g2 := h4.2
    rw [if_pos (by omega)] at qc qd
    rw [h1] at qd
    have ec := px_i2c h9 (by omega) (by omega)
    have ed := px_i2c h12 (by omega) (by omega)
    obtain ⟨a1', a2', a3', a4'⟩ := apl h8 (c := 0) (by decide) (by decide)
    rw [L2] at a1'
    obtain ⟨c1, c2, c3, c4⟩ := apn h11 (c := 0) a1' (by decide) (by omega) (by omega)
    obtain ⟨d1, d2, d3, d4⟩ := apn h14 (c := 0 + 1) c1 c4 (by omega) (by omega)
    obtain ⟨t1, t2⟩ := tos_tr h15 (c := 0 + 1 + 1) d1 d4
    have tx0 : (x12 0).toInt = bA a0_t_v a0_n.toInt a0_at.toInt := by rw [t2 0 (by decide), d2 0 (by decide), c3, ec, qc]
    have tx1 : (x12 1).toInt = bA a0_t_v a0_n.toInt (a0_at.toInt + 1) := by rw [t2 1 (by decide), d3, ed, qd]
    obtain ⟨e1, e2, e3, e4⟩ := apl h19 (c := 0) (by decide) (by decide)
    rw [L5] at e1 e3
    rw [t1] at h21
    obtain ⟨f1, f2, f3, f4⟩ := ap3 h21 (c0 := 1) e1
    obtain ⟨k1, k2, k3, k4⟩ := apl h23 (c := 1 + (0 + 1 + 1)) f1 f4
    rw [L5] at k1 k3 k4
    obtain ⟨m1, m2⟩ := tos_tr h24 (c := 1 + (0 + 1 + 1) + 1) k1 k4
    have e32 : (sb_35.getD 0 0).toInt = 32 := by decide
    have yb : bbT x12 2 x21 := by
      refine ⟨?_, fun j hj => ?_, ?_⟩
      · rw [m2 0 (by decide), k2 0 (by decide), f2 0 (by decide)]
        have := e3 0 (by decide)
        rw [Nat.zero_add] at this
        rw [this]; exact e32
      · rw [m2 _ (by omega), k2 _ (by omega)]; exact f3 j (by omega)
      · rw [m2 _ (by decide)]
        have := k3 0 (by decide)
        rw [this]; exact e32
    rw [m1] at h26
    have io := iof_tr (m := 2 + 2) (by decide) (by rw [L6]; decide) (by rw [L6]; decide) h26
    have two : (∃ q, mtc sb_36 (2 + 2) x21 q) ↔ tw (bA a0_t_v a0_n.toInt a0_at.toInt) (bA a0_t_v a0_n.toInt (a0_at.toInt + 1)) := by
      constructor
      · rintro ⟨q, hq⟩
        obtain ⟨p1, p2, p3, p4, p5⟩ := mt4e yb tx0 tx1 hq
        rw [L6] at p1
        have tb := tab3 ⟨q, by omega⟩ p2 p5 (by rw [p3]; omega) (by rw [p4]; omega)
        rw [p3, p4] at tb
        exact v2_tw.mp tb
      · unfold tw
        rintro (⟨p, q⟩ | ⟨p, q⟩ | ⟨p, q⟩ | ⟨p, q⟩ | ⟨p, q⟩)
        · exact ⟨0, mt4 yb tx0 tx1 (by decide) (by rw [p]; decide) (by rw [q]; decide) (by decide) (by rw [L6]; decide)⟩
        · exact ⟨3, mt4 yb tx0 tx1 (by decide) (by rw [p]; decide) (by rw [q]; decide) (by decide) (by rw [L6]; decide)⟩
        · exact ⟨6, mt4 yb tx0 tx1 (by decide) (by rw [p]; decide) (by rw [q]; decide) (by decide) (by rw [L6]; decide)⟩
        · exact ⟨9, mt4 yb tx0 tx1 (by decide) (by rw [p]; decide) (by rw [q]; decide) (by decide) (by rw [L6]; decide)⟩
        · exact ⟨12, mt4 yb tx0 tx1 (by decide) (by rw [p]; decide) (by rw [q]; decide) (by decide) (by rw [L6]; decide)⟩
    rcases io with ⟨q, -⟩ | ⟨q, -, q2, -⟩
    · omega
    · exact Or.inr (Or.inl ⟨px_5, t1, tx0, tx1, two.mp ⟨q, q2⟩, h28⟩)
end RSN
