/-- a text that is a program: P, no rule broken, all goals those of blocks but the first -/
def glO (P : gPg) : Prop := ∀ b i : Nat, b < P.1 → i < 2 → P.2.2.2 b i ≠ -1 → P.2.2.2 b i ≠ 0 ∧ P.2.2.2 b i < (P.1 : Int)
def okP (B : Int → Int) (n : Int) (P : gPg) : Prop := ∃ (j : Nat) (st lf ln op rw : Int), mrn B n j = some (1, st, lf, ln, op, rw, false, P) ∧ (tk B n j).1 = 1 ∧ glO P
theorem mrn_f {B : Int → Int} {n : Int} {j : Nat} {s : gMs} (h : mrn B n j = some s) (hf : (tk B n j).1 = 1) : mrn B n (j + 1) = none := by
  rw [mrn_e h, hf]; exact mst_1 s
theorem fin_u {B : Int → Int} {n : Int} {i j : Nat} {s t : gMs} (h : mrn B n j = some s) (hf : (tk B n j).1 = 1) (h2 : mrn B n i = some t) (hf2 : (tk B n i).1 = 1) : i = j := by
  by_cases c : i < j
  · have := mrn_n (mrn_f h2 hf2) j (by omega)
    rw [this] at h; cases h
  · by_cases d : j < i
    · have := mrn_n (mrn_f h hf) i (by omega)
      rw [this] at h2; cases h2
    · omega
theorem no_st {B : Int → Int} {n : Int} {j : Nat} {s : gMs} (h : mrn B n j = some s) (hn : mrn B n (j + 1) = none) (hf : (tk B n j).1 ≠ 1) (P : gPg) : ¬ okP B n P := fun ⟨i, _, _, _, _, _, h2, hf2, _⟩ => by
  by_cases c : i < j
  · have := mrn_n (mrn_f h2 hf2) j (by omega)
    rw [this] at h; cases h
  · by_cases d : j < i
    · have := mrn_n hn i (by omega)
      rw [this] at h2; cases h2
    · have e : i = j := by omega
      rw [e] at hf2; exact hf hf2
theorem no_bk {B : Int → Int} {n : Int} {j : Nat} {s : gMs} (h : mrn B n j = some s) (hf : (tk B n j).1 = 1) (hs : s.1 ≠ 1 ∨ s.2.2.2.2.2.2.1 = true ∨ ¬ glO s.2.2.2.2.2.2.2) (P : gPg) : ¬ okP B n P := fun ⟨i, _, _, _, _, _, h2, hf2, hg⟩ => by
  have e := fin_u h hf h2 hf2
  rw [e, h] at h2
  cases h2
  rcases hs with hs | hs | hs
  · exact hs rfl
  · cases hs
  · exact hs hg
theorem hl_tr {a1 a2 r : Int32} {fg sg : Nat → Int32} (h : tr_Code_goal a1 a2 fg sg r) : r = if a2.toInt = 0 then fg a1.toNatClampNeg else sg a1.toNatClampNeg := by
  refine h (fun r => r = if a2.toInt = 0 then fg a1.toNatClampNeg else sg a1.toNatClampNeg) ?_ ?_
  · intro x1 h1 h2
    rw [if_neg h1]; exact h2
  · intro x1 h1 h2
    rw [if_pos h1]; exact h2
theorem px_and1 {x z : Int32} {m : Nat} (hz : z = x &&& 1) (hx : x.toInt = (m : Int)) : z.toInt = ((m % 2 : Nat) : Int) := by
  have h1 : z.toBitVec.toNat = x.toBitVec.toNat &&& 1 := by rw [hz]; rfl
  rw [Nat.and_one_is_mod] at h1
  have h2 : x.toBitVec.toNat = m := by
    have h3 : x.toInt = if 2 * x.toBitVec.toNat < 2 ^ 32 then (x.toBitVec.toNat : Int) else (x.toBitVec.toNat : Int) - (2 ^ 32 : Nat) := BitVec.toInt_eq_toNat_cond x.toBitVec
    have h5 := x.toBitVec.isLt
    split at h3 <;> omega
  rw [h2] at h1
  exact gI_ofNat h1 (by omega)
/-- the bit that a shift to the right brings down -/
theorem sh_bitM {x y z : Int64} {i : Int32} {m : Nat} (hy : y = x >>> (i.toInt64 &&& 63)) (hz : z = y &&& 1) (hi : i.toInt = (m : Int)) : (z = 0) ↔ x.toBitVec.getLsbD (m % 64) = false := by
  have e : i.toInt.toNat % 64 = m % 64 := by rw [hi, Int.toNat_natCast]
  have hc : i.toInt64 &&& 63 = Int64.ofNat (m % 64) := by rw [lb_Qcnt i (by omega), e]
  have hm : m % 64 < 64 := Nat.mod_lt _ (by decide)
  have hy2 : y.toBitVec.getLsbD 0 = x.toBitVec.getLsbD (m % 64) := by
    rw [hy, hc, Int64.toBitVec_shiftRight]
    have e2 : ((Int64.ofNat (m % 64)).toBitVec.smod 64).toNat = m % 64 := by
      have : ∀ j : Fin 64, ((Int64.ofNat j.val).toBitVec.smod 64).toNat = j.val := by decide +kernel
      exact this ⟨m % 64, hm⟩
    rw [BitVec.sshiftRight', e2, BitVec.getLsbD_sshiftRight]
    simp [hm]
  have hz2 : ∀ k, z.toBitVec.getLsbD k = (y.toBitVec.getLsbD k && decide (k = 0)) := fun k => by
    rw [hz, Int64.toBitVec_and, BitVec.getLsbD_and]
    congr 1
    by_cases q : k < 64
    · have : ∀ j : Fin 64, (Int64.toBitVec 1).getLsbD j.val = decide (j.val = 0) := by decide +kernel
      exact this ⟨k, q⟩
    · rw [BitVec.getLsbD_of_ge _ _ (by omega), decide_eq_false (by omega)]
  constructor
  · intro h
    rw [← hy2]
    have := hz2 0
    rw [h] at this
    simpa using this.symm
  · intro h
    rw [← Int64.toBitVec_inj]
    apply BitVec.eq_of_getLsbD_eq
    intro k hk
    rw [hz2 k]
    by_cases q : k = 0
    · rw [q, hy2, h]; rfl
    · rw [decide_eq_false q, Bool.and_false]
      simp
theorem sh_bit {x y z : Int64} {i : Int32} {m : Nat} (hy : y = x >>> (i.toInt64 &&& 63)) (hz : z = y &&& 1) (hi : i.toInt = (m : Int)) (hm : m < 64) : (z = 0) ↔ x.toBitVec.getLsbD m = false := by
  have q := sh_bitM hy hz hi
  rw [Nat.mod_eq_of_lt hm] at q
  exact q
theorem cg_tl {bl : Int32} {fg sg : Nat → Int32} {lab : Int64} {i e : Int32} {k : Nat} {P : gPg} (hb : bl.toInt = (P.1 : Int)) (hP : P.1 ≤ 40) (hg : ∀ b : Nat, b < P.1 → (fg b).toInt = P.2.2.2 b 0 ∧ (sg b).toInt = P.2.2.2 b 1) (hr : ∀ b i : Nat, b < P.1 → i < 2 → -1 ≤ P.2.2.2 b i ∧ P.2.2.2 b i ≤ 39) (hl : lbP lab P.1) (h : tl_Reader_checkGoals_2 bl fg sg lab i k e) :
    (k = 76 ∧ ∀ b t : Nat, b < P.1 → t < 2 → i.toInt ≤ ((2 * b + t : Nat) : Int) → P.2.2.2 b t ≠ -1 → P.2.2.2 b t ≠ 0 ∧ P.2.2.2 b t < (P.1 : Int)) ∨ (k = 54 ∧ ∃ b t : Nat, b < P.1 ∧ t < 2 ∧ e.toInt = ((2 * b + t : Nat) : Int) ∧ P.2.2.2 b t ≠ -1 ∧ ¬ (P.2.2.2 b t ≠ 0 ∧ P.2.2.2 b t < (P.1 : Int))) := by
  refine h (fun i k e => (k = 76 ∧ ∀ b t : Nat, b < P.1 → t < 2 → i.toInt ≤ ((2 * b + t : Nat) : Int) → P.2.2.2 b t ≠ -1 → P.2.2.2 b t ≠ 0 ∧ P.2.2.2 b t < (P.1 : Int)) ∨ (k = 54 ∧ ∃ b t : Nat, b < P.1 ∧ t < 2 ∧ e.toInt = ((2 * b + t : Nat) : Int) ∧ P.2.2.2 b t ≠ -1 ∧ ¬ (P.2.2.2 b t ≠ 0 ∧ P.2.2.2 b t < (P.1 : Int)))) ?_ ?_ ?_ ?_ ?_
  · intro l2_1 x1 h1 h2 h3
    try dsimp only at *
    exact Or.inl ⟨rfl, fun b t hb ht hi => by omega⟩
  · intro l2_1 x1 x2 x3 x4 x5 k e1 h1 h2 h3 h4 h5 h6 h7 h8 ih
    try dsimp only at *
    revert ih
    have b0 := h1.1
    have eM : l2_1.toInt = ((l2_1.toInt.toNat : Nat) : Int) := (Int.toNat_of_nonneg b0).symm
    have e3 := px_and1 h5 eM
    have hbb : l2_1.toInt.toNat / 2 < P.1 := by omega
    have e2 : x2.toNatClampNeg = l2_1.toInt.toNat / 2 := nnE (by omega)
    have q := hl_tr h6
    rw [e2] at q
    obtain ⟨g0, g1⟩ := hg _ hbb
    have ht2 : l2_1.toInt.toNat % 2 < 2 := Nat.mod_lt _ (by decide)
    have ev : x4.toInt = P.2.2.2 (l2_1.toInt.toNat / 2) (l2_1.toInt.toNat % 2) := by
      by_cases c : l2_1.toInt.toNat % 2 = 0
      · rw [if_pos (by omega)] at q; rw [q, c]; exact g0
      · have c1 : l2_1.toInt.toNat % 2 = 1 := by omega
        rw [if_neg (by omega)] at q; rw [q, c1]; exact g1
    have hrr := hr _ _ hbb ht2
    have em : 2 * (l2_1.toInt.toNat / 2) + l2_1.toInt.toNat % 2 = l2_1.toInt.toNat := Nat.div_add_mod _ 2
    intro ih
    rcases ih with ⟨k1, k2⟩ | k1
    · refine Or.inl ⟨k1, fun b t hb ht hi hn => ?_⟩
      by_cases c : 2 * b + t = l2_1.toInt.toNat
      · have c1 : b = l2_1.toInt.toNat / 2 := by omega
        have c2 : t = l2_1.toInt.toNat % 2 := by omega
        rw [c1, c2] at hn ⊢
        omega
      · exact k2 b t hb ht (by omega) hn
    · exact Or.inr k1
  · intro l2_1 x1 x2 x3 x4 h1 h2 h3 h4 h5 h6 h7 h8
    try dsimp only at *
    have b0 := h1.1
    have eM : l2_1.toInt = ((l2_1.toInt.toNat : Nat) : Int) := (Int.toNat_of_nonneg b0).symm
    have e3 := px_and1 h5 eM
    have hbb : l2_1.toInt.toNat / 2 < P.1 := by omega
    have e2 : x2.toNatClampNeg = l2_1.toInt.toNat / 2 := nnE (by omega)
    have q := hl_tr h6
    rw [e2] at q
    obtain ⟨g0, g1⟩ := hg _ hbb
    have ht2 : l2_1.toInt.toNat % 2 < 2 := Nat.mod_lt _ (by decide)
    have ev : x4.toInt = P.2.2.2 (l2_1.toInt.toNat / 2) (l2_1.toInt.toNat % 2) := by
      by_cases c : l2_1.toInt.toNat % 2 = 0
      · rw [if_pos (by omega)] at q; rw [q, c]; exact g0
      · have c1 : l2_1.toInt.toNat % 2 = 1 := by omega
        rw [if_neg (by omega)] at q; rw [q, c1]; exact g1
    have hrr := hr _ _ hbb ht2
    have em : 2 * (l2_1.toInt.toNat / 2) + l2_1.toInt.toNat % 2 = l2_1.toInt.toNat := Nat.div_add_mod _ 2
    exact Or.inr ⟨rfl, _, _, hbb, ht2, by omega, by omega, by omega⟩
  · intro l2_1 x1 x2 x3 x4 x5 x6 x7 k e1 h1 h2 h3 h4 h5 h6 h7 h8 h9 h10 h11 h12 ih
    try dsimp only at *
    revert ih
    have b0 := h1.1
    have eM : l2_1.toInt = ((l2_1.toInt.toNat : Nat) : Int) := (Int.toNat_of_nonneg b0).symm
    have e3 := px_and1 h5 eM
    have hbb : l2_1.toInt.toNat / 2 < P.1 := by omega
    have e2 : x2.toNatClampNeg = l2_1.toInt.toNat / 2 := nnE (by omega)
    have q := hl_tr h6
    rw [e2] at q
    obtain ⟨g0, g1⟩ := hg _ hbb
    have ht2 : l2_1.toInt.toNat % 2 < 2 := Nat.mod_lt _ (by decide)
    have ev : x4.toInt = P.2.2.2 (l2_1.toInt.toNat / 2) (l2_1.toInt.toNat % 2) := by
      by_cases c : l2_1.toInt.toNat % 2 = 0
      · rw [if_pos (by omega)] at q; rw [q, c]; exact g0
      · have c1 : l2_1.toInt.toNat % 2 = 1 := by omega
        rw [if_neg (by omega)] at q; rw [q, c1]; exact g1
    have hrr := hr _ _ hbb ht2
    have em : 2 * (l2_1.toInt.toNat / 2) + l2_1.toInt.toNat % 2 = l2_1.toInt.toNat := Nat.div_add_mod _ 2
    have sb := sh_bit (m := x4.toInt.toNat) h9 h10 (by omega) (by omega)
    have lb := hl x4.toInt.toNat (by omega)
    have hlt : x4.toInt.toNat < P.1 := by
      by_cases c : x4.toInt.toNat < P.1
      · exact c
      · rw [decide_eq_false c] at lb
        exact absurd (sb.mpr lb) h11
    intro ih
    rcases ih with ⟨k1, k2⟩ | k1
    · refine Or.inl ⟨k1, fun b t hb ht hi hn => ?_⟩
      by_cases c : 2 * b + t = l2_1.toInt.toNat
      · have c1 : b = l2_1.toInt.toNat / 2 := by omega
        have c2 : t = l2_1.toInt.toNat % 2 := by omega
        rw [c1, c2] at hn ⊢
        omega
      · exact k2 b t hb ht (by omega) hn
    · exact Or.inr k1
  · intro l2_1 x1 x2 x3 x4 x5 x6 h1 h2 h3 h4 h5 h6 h7 h8 h9 h10 h11
    try dsimp only at *
    have b0 := h1.1
    have eM : l2_1.toInt = ((l2_1.toInt.toNat : Nat) : Int) := (Int.toNat_of_nonneg b0).symm
    have e3 := px_and1 h5 eM
    have hbb : l2_1.toInt.toNat / 2 < P.1 := by omega
    have e2 : x2.toNatClampNeg = l2_1.toInt.toNat / 2 := nnE (by omega)
    have q := hl_tr h6
    rw [e2] at q
    obtain ⟨g0, g1⟩ := hg _ hbb
    have ht2 : l2_1.toInt.toNat % 2 < 2 := Nat.mod_lt _ (by decide)
    have ev : x4.toInt = P.2.2.2 (l2_1.toInt.toNat / 2) (l2_1.toInt.toNat % 2) := by
      by_cases c : l2_1.toInt.toNat % 2 = 0
      · rw [if_pos (by omega)] at q; rw [q, c]; exact g0
      · have c1 : l2_1.toInt.toNat % 2 = 1 := by omega
        rw [if_neg (by omega)] at q; rw [q, c1]; exact g1
    have hrr := hr _ _ hbb ht2
    have em : 2 * (l2_1.toInt.toNat / 2) + l2_1.toInt.toNat % 2 = l2_1.toInt.toNat := Nat.div_add_mod _ 2
    have sb := sh_bit (m := x4.toInt.toNat) h9 h10 (by omega) (by omega)
    have lb := hl x4.toInt.toNat (by omega)
    have hlt : ¬ x4.toInt.toNat < P.1 := fun c => by
      have e1 := sb.mp h11
      rw [lb, decide_eq_true c] at e1
      cases e1
    exact Or.inr ⟨rfl, _, _, hbb, ht2, by omega, by omega, by omega⟩
theorem rI_tl {n : Int32} {f : Nat → Int32} {k : Nat} {l3 : Int32} {l2 : Int32} {rp : Int32} {rr : Int32} {lab : Int64} {rws : Int32} {due : Int32} {cop : Int32} {cset : Int32} {clf : Int32} {cln : Int32} {gp : Nat → Int32} {bl : Int32} {li : Int32} {fl : Int32} {fi : Nat → Int32} {fg : Nat → Int32} {sg : Nat → Int32} {op : Nat → Int32} {st : Nat → Int32} {lf : Nat → Int32} {ln : Nat → Int32} {rt : Nat → Int32} {rn : Nat → Int32} {sk : Int32} {sv : Int32} {sp : Int32} {sb : Int32} {e1 : Int32} {e2 : Int32} {e3 : Int32} {e4 : Int64} {e5 : Int32} {e6 : Int32} {e7 : Int32} {e8 : Int32} {e9 : Int32} {e10 : Int32} {e11 : Nat → Int32} {e12 : Int32} {e13 : Int32} {e14 : Int32} {e15 : Nat → Int32} {e16 : Nat → Int32} {e17 : Nat → Int32} {e18 : Nat → Int32} {e19 : Nat → Int32} {e20 : Nat → Int32} {e21 : Nat → Int32} {e22 : Nat → Int32} {e23 : Nat → Int32} {e24 : Int32} {e25 : Int32} {e26 : Int32} {e27 : Int32} (hn : 0 ≤ n.toInt) (hn2 : n.toInt ≤ 8192) (h : tl_Reader_readInto_40 n f l3 l2 rp rr lab rws due cop cset clf cln gp bl li fl fi fg sg op st lf ln rt rn sk sv sp sb k e1 e2 e3 e4 e5 e6 e7 e8 e9 e10 e11 e12 e13 e14 e15 e16 e17 e18 e19 e20 e21 e22 e23 e24 e25 e26 e27) : ((k = 1085 → e1.toInt = 0) ∧ (k = 2085 → e1.toInt ≠ 0)) ∧ (l2.toInt = 0 → e1.toInt = 0 ∧ e26 = sp) ∧ (l2.toInt = 1 → ∀ (i : Nat) (s : gMs), l3.toInt = (i : Int) → mrn (bA f n.toInt) n.toInt i = some s → rdC due cset clf cln cop rws rp lab gp bl li fi fg sg op st lf ln rt rn s → sgK sk sv (tk (bA f n.toInt) n.toInt i).1 (tk (bA f n.toInt) n.toInt i).2.1 → sp.toInt = (tk (bA f n.toInt) n.toInt i).2.2.1 → sb.toInt = (tk (bA f n.toInt) n.toInt i).2.2.2 → ∃ (j : Nat) (t : gMs), mrn (bA f n.toInt) n.toInt j = some t ∧ ((e1.toInt = 1 ∧ (tk (bA f n.toInt) n.toInt j).1 = 1 ∧ rdC e6 e8 e9 e10 e7 e5 e2 e4 e11 e12 e13 e15 e16 e17 e18 e19 e20 e21 e22 e23 t ∧ e26.toInt = (tk (bA f n.toInt) n.toInt j).2.2.1) ∨ (e1.toInt = 0 ∧ mrn (bA f n.toInt) n.toInt (j + 1) = none ∧ (tk (bA f n.toInt) n.toInt j).1 ≠ 1 ∧ e26.toInt = (tk (bA f n.toInt) n.toInt j).2.2.1))) := by
  have hB := bOk_bA (f := f) hn
  refine h (fun l3 l2 rp rr lab rws due cop cset clf cln gp bl li fl fi fg sg op st lf ln rt rn sk sv sp sb k e1 e2 e3 e4 e5 e6 e7 e8 e9 e10 e11 e12 e13 e14 e15 e16 e17 e18 e19 e20 e21 e22 e23 e24 e25 e26 e27 => ((k = 1085 → e1.toInt = 0) ∧ (k = 2085 → e1.toInt ≠ 0)) ∧ (l2.toInt = 0 → e1.toInt = 0 ∧ e26 = sp) ∧ (l2.toInt = 1 → ∀ (i : Nat) (s : gMs), l3.toInt = (i : Int) → mrn (bA f n.toInt) n.toInt i = some s → rdC due cset clf cln cop rws rp lab gp bl li fi fg sg op st lf ln rt rn s → sgK sk sv (tk (bA f n.toInt) n.toInt i).1 (tk (bA f n.toInt) n.toInt i).2.1 → sp.toInt = (tk (bA f n.toInt) n.toInt i).2.2.1 → sb.toInt = (tk (bA f n.toInt) n.toInt i).2.2.2 → ∃ (j : Nat) (t : gMs), mrn (bA f n.toInt) n.toInt j = some t ∧ ((e1.toInt = 1 ∧ (tk (bA f n.toInt) n.toInt j).1 = 1 ∧ rdC e6 e8 e9 e10 e7 e5 e2 e4 e11 e12 e13 e15 e16 e17 e18 e19 e20 e21 e22 e23 t ∧ e26.toInt = (tk (bA f n.toInt) n.toInt j).2.2.1) ∨ (e1.toInt = 0 ∧ mrn (bA f n.toInt) n.toInt (j + 1) = none ∧ (tk (bA f n.toInt) n.toInt j).1 ≠ 1 ∧ e26.toInt = (tk (bA f n.toInt) n.toInt j).2.2.1)))) ?_ ?_ ?_ ?_ ?_
  · intro l3_1 l2_1 Reader_rulePlace_1 Reader_ruleReason_1 Reader_labels_1 Reader_rows_1 Reader_due_1 Reader_op_1 Reader_set_1 Reader_left_1 Reader_leftNumber_1 Reader_goalPlaces_1 Code_blocks_1 Code_lines_1 Code_isFull_1 Code_first_1 Code_firstGoal_1 Code_secondGoal_1 Code_op_1 Code_set_1 Code_left_1 Code_leftNumber_1 Code_right_1 Code_rightNumber_1 Signs_kind_1 Signs_value_1 Signs_place_1 Signs_behind_1 h1 h2 h3 h4 h5 h6 h7 h8 h9
    try dsimp only at *
    refine ⟨⟨fun z => absurd z (by decide), fun z => absurd z (by decide)⟩, fun z => ⟨z, rfl⟩, fun z i s hi hm hc hs hp hq => ?_⟩
    have w := mrn_w hB hm
    have b := tk_b hB i
    exact ⟨i, s, hm, Or.inl ⟨z, b.2.2.2.2.1.mpr (by omega), hc, hp⟩⟩
  · intro l3_1 l2_1 Reader_rulePlace_1 Reader_ruleReason_1 Reader_labels_1 Reader_rows_1 Reader_due_1 Reader_op_1 Reader_set_1 Reader_left_1 Reader_leftNumber_1 Reader_goalPlaces_1 Code_blocks_1 Code_lines_1 Code_isFull_1 Code_first_1 Code_firstGoal_1 Code_secondGoal_1 Code_op_1 Code_set_1 Code_left_1 Code_leftNumber_1 Code_right_1 Code_rightNumber_1 Signs_kind_1 Signs_value_1 Signs_place_1 Signs_behind_1 h1 h2 h3 h4 h5 h6 h7 h8 h9 h10
    try dsimp only at *
    exact ⟨⟨fun _ => h10, fun z => absurd z (by decide)⟩, fun z => ⟨z, rfl⟩, fun z => by omega⟩
  · intro l3_1 l2_1 Reader_rulePlace_1 Reader_ruleReason_1 Reader_labels_1 Reader_rows_1 Reader_due_1 Reader_op_1 Reader_set_1 Reader_left_1 Reader_leftNumber_1 Reader_goalPlaces_1 Code_blocks_1 Code_lines_1 Code_isFull_1 Code_first_1 Code_firstGoal_1 Code_secondGoal_1 Code_op_1 Code_set_1 Code_left_1 Code_leftNumber_1 Code_right_1 Code_rightNumber_1 Signs_kind_1 Signs_value_1 Signs_place_1 Signs_behind_1 h1 h2 h3 h4 h5 h6 h7 h8 h9 h10 h11
    try dsimp only at *
    refine ⟨⟨fun z => absurd z (by decide), fun _ => h10⟩, fun z => ⟨z, rfl⟩, fun z i s hi hm hc hs hp hq => ?_⟩
    exact ⟨i, s, hm, Or.inl ⟨z, by rw [← hs.1]; exact h11, hc, hp⟩⟩
  · intro l3_1 l2_1 Reader_rulePlace_1 Reader_ruleReason_1 Reader_labels_1 Reader_rows_1 Reader_due_1 Reader_op_1 Reader_set_1 Reader_left_1 Reader_leftNumber_1 Reader_goalPlaces_1 Code_blocks_1 Code_lines_1 Code_isFull_1 Code_first_1 Code_firstGoal_1 Code_secondGoal_1 Code_op_1 Code_set_1 Code_left_1 Code_leftNumber_1 Code_right_1 Code_rightNumber_1 Signs_kind_1 Signs_value_1 Signs_place_1 Signs_behind_1 x1 x2 x3 x4 x5 x6 x7 x8 x9 x10 x11 x12 x13 x14 x15 x16 x17 x18 x19 x20 x21 x22 x23 x24 k e1 e2 e3 e4 e5 e6 e7 e8 e9 e10 e11 e12 e13 e14 e15 e16 e17 e18 e19 e20 e21 e22 e23 e24 e25 e26 e27 h1 h2 h3 h4 h5 h6 h7 h8 h9 h10 h11 h12 h13 h14 h15 h16 h17 h18 h19 ih
    try dsimp only at *
    refine ⟨ih.1, fun z => absurd z h10, fun z i s hi hm hc hs hp hq => ?_⟩
    obtain ⟨w1, w2, w3⟩ := mrn_w hB hm
    have b := tk_b hB i
    have hrr : Reader_rows_1.toInt ≤ 8192 := by
      obtain ⟨du, mS, mL, mN, mO, mR, bk, P⟩ := s
      have c4 := hc.2.2.2.1
      have w4 : mR ≤ (i : Int) := w3
      omega
    have a := acc_tr h17 hs b.2.2.2.2.2.2 (by omega) hc w1 hrr
    have me := mrn_e hm
    rcases a with ⟨a1, s', a2, a3⟩ | ⟨a1, a2⟩
    · omega
    · obtain ⟨r1, r2⟩ := ih.2.1 a1
      exact ⟨i, s, hm, Or.inr ⟨r1, me.trans a2, by rw [← hs.1]; exact h11, by rw [r2]; exact hp⟩⟩
  · intro l3_1 l2_1 Reader_rulePlace_1 Reader_ruleReason_1 Reader_labels_1 Reader_rows_1 Reader_due_1 Reader_op_1 Reader_set_1 Reader_left_1 Reader_leftNumber_1 Reader_goalPlaces_1 Code_blocks_1 Code_lines_1 Code_isFull_1 Code_first_1 Code_firstGoal_1 Code_secondGoal_1 Code_op_1 Code_set_1 Code_left_1 Code_leftNumber_1 Code_right_1 Code_rightNumber_1 Signs_kind_1 Signs_value_1 Signs_place_1 Signs_behind_1 x1 x2 x3 x4 x5 x6 x7 x8 x9 x10 x11 x12 x13 x14 x15 x16 x17 x18 x19 x20 x21 x22 x23 x24 x25 x26 x27 x28 k e1 e2 e3 e4 e5 e6 e7 e8 e9 e10 e11 e12 e13 e14 e15 e16 e17 e18 e19 e20 e21 e22 e23 e24 e25 e26 e27 h1 h2 h3 h4 h5 h6 h7 h8 h9 h10 h11 h12 h13 h14 h15 h16 h17 h18 h19 h20 h21 h22 ih
    try dsimp only at *
    refine ⟨ih.1, fun z => absurd z h10, fun z i s hi hm hc hs hp hq => ?_⟩
    obtain ⟨w1, w2, w3⟩ := mrn_w hB hm
    have b := tk_b hB i
    have hrr : Reader_rows_1.toInt ≤ 8192 := by
      obtain ⟨du, mS, mL, mN, mO, mR, bk, P⟩ := s
      have c4 := hc.2.2.2.1
      have w4 : mR ≤ (i : Int) := w3
      omega
    have a := acc_tr h17 hs b.2.2.2.2.2.2 (by omega) hc w1 hrr
    have me := mrn_e hm
    rcases a with ⟨a1, s', a2, a3⟩ | ⟨a1, a2⟩
    · have ad := adv_tr (by omega) (by omega) hn2 h21
      obtain ⟨d1, d2, d3, d4⟩ := ad
      have dk := hs.1
      have e0 : (tk (bA f n.toInt) n.toInt (i + 1)).2.2.1 = skp (bA f n.toInt) n.toInt (tk (bA f n.toInt) n.toInt i).2.2.2 0 := rfl
      rw [hq] at d1
      rw [d1, dk] at d2 d3 d4
      exact ih.2.2 a1 (i + 1) s' (by omega) (me.trans a2) a3 ⟨d2, fun p q => d4 (by rw [d2]; exact p) (by rw [d2]; exact q)⟩ d1 d3
    · omega
theorem opn_tr {n k v p e : Int32} {f : Nat → Int32} (hn : 0 ≤ n.toInt) (hn2 : n.toInt ≤ 8192) (h : tr_Signs_open n f k v p e) : k.toInt = (tk (bA f n.toInt) n.toInt 0).1 ∧ (2 ≤ (tk (bA f n.toInt) n.toInt 0).1 → (tk (bA f n.toInt) n.toInt 0).1 ≤ 5 → v.toInt = (tk (bA f n.toInt) n.toInt 0).2.1) ∧ p.toInt = (tk (bA f n.toInt) n.toInt 0).2.2.1 ∧ e.toInt = (tk (bA f n.toInt) n.toInt 0).2.2.2 := by
  refine h (fun k v p e => k.toInt = (tk (bA f n.toInt) n.toInt 0).1 ∧ (2 ≤ (tk (bA f n.toInt) n.toInt 0).1 → (tk (bA f n.toInt) n.toInt 0).1 ≤ 5 → v.toInt = (tk (bA f n.toInt) n.toInt 0).2.1) ∧ p.toInt = (tk (bA f n.toInt) n.toInt 0).2.2.1 ∧ e.toInt = (tk (bA f n.toInt) n.toInt 0).2.2.2) ?_
  · intro x1 x2 x3 x4 h1 h2 h3
    obtain ⟨d1, d2, d3, d4⟩ := adv_tr (by decide) (by rw [px_0]; exact hn) hn2 h3
    rw [px_0] at d1
    rw [d1, px_0, decide_eq_false (by decide)] at d2 d3 d4
    exact ⟨d2, fun a b => d4 (by rw [d2]; exact a) (by rw [d2]; exact b), d1, d3⟩
theorem cgP_tl {bl : Int32} {gp fg sg : Nat → Int32} {lab : Int64} {i e : Int32} {k : Nat} (hg : gpC gp bl fg sg) (h : tl_Reader_checkGoals_2 bl fg sg lab i k e) : k = 76 ∨ (k = 54 ∧ 0 ≤ (gp e.toNatClampNeg).toInt) := by
  refine h (fun i k e => k = 76 ∨ (k = 54 ∧ 0 ≤ (gp e.toNatClampNeg).toInt)) ?_ ?_ ?_ ?_ ?_
  · intro l2_1 x1 h1 h2 h3
    try dsimp only at *
    exact Or.inl rfl
  · intro l2_1 x1 x2 x3 x4 x5 k e1 h1 h2 h3 h4 h5 h6 h7 h8 ih
    try dsimp only at *
    exact ih
  · intro l2_1 x1 x2 x3 x4 h1 h2 h3 h4 h5 h6 h7 h8
    try dsimp only at *
    refine Or.inr ⟨rfl, ?_⟩
    have b0 := h1.1
    have eM : l2_1.toInt = ((l2_1.toInt.toNat : Nat) : Int) := (Int.toNat_of_nonneg b0).symm
    have e3 := px_and1 h5 eM
    have e2 : x2.toNatClampNeg = l2_1.toInt.toNat / 2 := nnE (by omega)
    have q := hl_tr h6
    rw [e2] at q
    obtain ⟨g0, g1⟩ := hg (l2_1.toInt.toNat / 2) (by omega)
    rw [nnE eM]
    by_cases c : l2_1.toInt.toNat % 2 = 0
    · rw [if_pos (by omega)] at q
      have e5 : l2_1.toInt.toNat = 2 * (l2_1.toInt.toNat / 2) := by omega
      rw [e5]
      exact g0 (by rw [← q]; assumption)
    · rw [if_neg (by omega)] at q
      have e5 : l2_1.toInt.toNat = 2 * (l2_1.toInt.toNat / 2) + 1 := by omega
      rw [e5]
      exact g1 (by rw [← q]; assumption)
  · intro l2_1 x1 x2 x3 x4 x5 x6 x7 k e1 h1 h2 h3 h4 h5 h6 h7 h8 h9 h10 h11 h12 ih
    try dsimp only at *
    exact ih
  · intro l2_1 x1 x2 x3 x4 x5 x6 h1 h2 h3 h4 h5 h6 h7 h8 h9 h10 h11
    try dsimp only at *
    refine Or.inr ⟨rfl, ?_⟩
    have b0 := h1.1
    have eM : l2_1.toInt = ((l2_1.toInt.toNat : Nat) : Int) := (Int.toNat_of_nonneg b0).symm
    have e3 := px_and1 h5 eM
    have e2 : x2.toNatClampNeg = l2_1.toInt.toNat / 2 := nnE (by omega)
    have q := hl_tr h6
    rw [e2] at q
    obtain ⟨g0, g1⟩ := hg (l2_1.toInt.toNat / 2) (by omega)
    rw [nnE eM]
    by_cases c : l2_1.toInt.toNat % 2 = 0
    · rw [if_pos (by omega)] at q
      have e5 : l2_1.toInt.toNat = 2 * (l2_1.toInt.toNat / 2) := by omega
      rw [e5]
      exact g0 (by rw [← q]; assumption)
    · rw [if_neg (by omega)] at q
      have e5 : l2_1.toInt.toNat = 2 * (l2_1.toInt.toNat / 2) + 1 := by omega
      rw [e5]
      exact g1 (by rw [← q]; assumption)
theorem cGo_tr {rp rr bl li x y : Int32} {lab : Int64} {gp fi fg sg op st lf ln rt rn : Nat → Int32} {bk : Bool} {P : gPg} (h : tr_Reader_checkGoals rp rr lab bl gp fg sg x y) (hk : rdK rp lab gp bl li fi fg sg op st lf ln rt rn bk P) :
    (x = rp ∧ (bk = false → ∀ {mS mL mN mO mR : Int}, mwf (1, mS, mL, mN, mO, mR, false, P) → glO P)) ∨ (0 ≤ x.toInt ∧ (bk = false → ∀ {du mS mL mN mO mR : Int}, mwf (du, mS, mL, mN, mO, mR, false, P) → du = 1 → ¬ glO P)) := by
  have hh : ∀ {mS mL mN mO mR : Int}, mwf (1, mS, mL, mN, mO, mR, false, P) → P.1 ≤ 40 ∧ ∀ b i : Nat, b < P.1 → i < 2 → -1 ≤ P.2.2.2 b i ∧ P.2.2.2 b i ≤ 39 := fun w => by
    obtain ⟨-, -, -, -, w5, -, -, -, -, -, -, w12, w13, -⟩ := w
    refine ⟨(w5 rfl).1, fun b i hb hi => ?_⟩
    have hc : blC (P.2.1 b) (P.2.2.1 b) (P.2.2.2 b) := by
      by_cases e : b + 1 = P.1
      · exact w13 rfl b e
      · exact w12 b (by omega)
    have hg := hc.2.2.2
    unfold edG at hg
    have e : i = 0 ∨ i = 1 := by omega
    rcases e with e | e <;> (rw [e]; omega)
  refine h (fun x y => (x = rp ∧ (bk = false → ∀ {mS mL mN mO mR : Int}, mwf (1, mS, mL, mN, mO, mR, false, P) → glO P)) ∨ (0 ≤ x.toInt ∧ (bk = false → ∀ {du mS mL mN mO mR : Int}, mwf (du, mS, mL, mN, mO, mR, false, P) → du = 1 → ¬ glO P))) ?_ ?_
  · intro h1
    refine Or.inl ⟨rfl, fun z => ?_⟩
    intro mS mL mN mO mR w
    obtain ⟨w1, w2⟩ := hh w
    obtain ⟨k1, k2, k3⟩ := hk.2.2 z
    rcases cg_tl k2.1 w1 (fun b hb => (k2.2.2.1 b hb).2) w2 k3 h1 with ⟨-, q⟩ | ⟨q, -⟩
    · exact fun b i hb hi hn => q b i hb hi (by rw [px_0]; omega) hn
    · exact absurd q (by decide)
  · intro x1 x2 h1 h2
    rcases cgP_tl hk.2.1 h1 with q | q
    · exact absurd q (by decide)
    refine Or.inr ⟨by rw [h2]; exact q.2, fun z => ?_⟩
    intro du mS mL mN mO mR w hd
    subst hd
    obtain ⟨w1, w2⟩ := hh w
    obtain ⟨k1, k2, k3⟩ := hk.2.2 z
    rcases cg_tl k2.1 w1 (fun b hb => (k2.2.2.1 b hb).2) w2 k3 h1 with ⟨q, -⟩ | ⟨-, b, t, c1, c2, c3, c4, c5⟩
    · exact absurd q (by decide)
    · exact fun g => c5 (g b t c1 c2 c4)
theorem rI_tr {Reader_op : Int32} {Reader_set : Int32} {Reader_left : Int32} {Reader_leftNumber : Int32} {Reader_goalPlaces : Nat → Int32} {Code_first : Nat → Int32} {Code_firstGoal : Nat → Int32} {Code_secondGoal : Nat → Int32} {Code_op : Nat → Int32} {Code_set : Nat → Int32} {Code_left : Nat → Int32} {Code_leftNumber : Nat → Int32} {Code_right : Nat → Int32} {Code_rightNumber : Nat → Int32} {Tape_size : Int32} {Tape_bytes : Nat → Int32} {o1 : Int32} {o2 : Int32} {o3 : Int32} {o4 : Int32} {o5 : Int64} {o6 : Int32} {o7 : Int32} {o8 : Int32} {o9 : Int32} {o10 : Int32} {o11 : Int32} {o12 : Int32} {o13 : Int32} {o14 : Int32} {o15 : Int32} {o16 : Int32} {o17 : Int32} {o18 : Int32} {o19 : Nat → Int32} {o20 : Nat → Int32} {o21 : Nat → Int32} {o22 : Nat → Int32} {o23 : Nat → Int32} {o24 : Nat → Int32} {o25 : Nat → Int32} {o26 : Nat → Int32} {o27 : Nat → Int32} {o28 : Nat → Int32} (hn : 0 ≤ Tape_size.toInt) (hn2 : Tape_size.toInt ≤ 8192) (h : tr_Reader_readInto Reader_op Reader_set Reader_left Reader_leftNumber Reader_goalPlaces Code_first Code_firstGoal Code_secondGoal Code_op Code_set Code_left Code_leftNumber Code_right Code_rightNumber Tape_size Tape_bytes o1 o2 o3 o4 o5 o6 o7 o8 o9 o10 o11 o12 o13 o14 o15 o16 o17 o18 o19 o20 o21 o22 o23 o24 o25 o26 o27 o28) : (o1.toInt = -1 ∧ ∃ P, okP (bA Tape_bytes Tape_size.toInt) Tape_size.toInt P ∧ cdP o12 o13 o20 o21 o22 o23 o24 o25 o26 o27 o28 P) ∨ (0 ≤ o1.toInt ∧ ∀ P, ¬ okP (bA Tape_bytes Tape_size.toInt) Tape_size.toInt P) := by
  have hB := bOk_bA (f := Tape_bytes) hn
  have c0 : Int32.toInt 0 = 0 := by decide
  refine h (fun o1 o2 o3 o4 o5 o6 o7 o8 o9 o10 o11 o12 o13 o14 o15 o16 o17 o18 o19 o20 o21 o22 o23 o24 o25 o26 o27 o28 => (o1.toInt = -1 ∧ ∃ P, okP (bA Tape_bytes Tape_size.toInt) Tape_size.toInt P ∧ cdP o12 o13 o20 o21 o22 o23 o24 o25 o26 o27 o28 P) ∨ (0 ≤ o1.toInt ∧ ∀ P, ¬ okP (bA Tape_bytes Tape_size.toInt) Tape_size.toInt P)) ?_ ?_ ?_ ?_ ?_ ?_
  · intro x1 x2 x3 x4 x5 x6 x7 x8 x9 x10 x11 x12 x13 x14 x15 x16 x17 x18 x19 x20 x21 x22 x23 x24 x25 x26 x27 x28 x29 x30 x31 x32 x33 x34 h1 h2 h3 h4 h5 h6 h7 h8 h9
    try dsimp only at *
    have g1 : x1.toInt = 0 := by have a := h1.1; have b := h1.2; omega
    have g2 : x2.toInt = 0 := by have a := h2.1; have b := h2.2; omega
    obtain ⟨d1, d2, d3, d4⟩ := opn_tr hn hn2 h7
    have rc : rdC 0 Reader_set Reader_left Reader_leftNumber Reader_op 0 (-1) 0 Reader_goalPlaces x1 x2 Code_first Code_firstGoal Code_secondGoal Code_op Code_set Code_left Code_leftNumber Code_right Code_rightNumber (0, -1, -1, 0, 0, 0, false, pgO) :=
      ⟨by decide, fun z => absurd z (by decide), fun z => absurd z (by decide), by decide, fun z => absurd z (by decide), fun b hb => by omega, fun _ => ⟨by decide, cdP_O g1 g2, fun g _ => by simp [pgO]⟩⟩
    obtain ⟨j, t, m1, m2⟩ := (rI_tl hn hn2 h8).2.2 px_1 0 _ (by decide) rfl rc ⟨d1, d2⟩ d3 d4
    obtain ⟨du, mS, mL, mN, mO, mR, bk, P⟩ := t
    have tb := tk_b hB j
    rcases m2 with ⟨m3, m4, m5, m6⟩ | ⟨m3, m4, m5, m6⟩
    · omega
    · exact Or.inr ⟨by rw [m6]; exact tb.1, no_st m1 m4 m5⟩
  · intro x1 x2 x3 x4 x5 x6 x7 x8 x9 x10 x11 x12 x13 x14 x15 x16 x17 x18 x19 x20 x21 x22 x23 x24 x25 x26 x27 x28 x29 x30 x31 x32 x33 x34 x35 x36 h1 h2 h3 h4 h5 h6 h7 h8 h9 h10 h11
    try dsimp only at *
    have g1 : x1.toInt = 0 := by have a := h1.1; have b := h1.2; omega
    have g2 : x2.toInt = 0 := by have a := h2.1; have b := h2.2; omega
    obtain ⟨d1, d2, d3, d4⟩ := opn_tr hn hn2 h7
    have rc : rdC 0 Reader_set Reader_left Reader_leftNumber Reader_op 0 (-1) 0 Reader_goalPlaces x1 x2 Code_first Code_firstGoal Code_secondGoal Code_op Code_set Code_left Code_leftNumber Code_right Code_rightNumber (0, -1, -1, 0, 0, 0, false, pgO) :=
      ⟨by decide, fun z => absurd z (by decide), fun z => absurd z (by decide), by decide, fun z => absurd z (by decide), fun b hb => by omega, fun _ => ⟨by decide, cdP_O g1 g2, fun g _ => by simp [pgO]⟩⟩
    obtain ⟨j, t, m1, m2⟩ := (rI_tl hn hn2 h8).2.2 px_1 0 _ (by decide) rfl rc ⟨d1, d2⟩ d3 d4
    obtain ⟨du, mS, mL, mN, mO, mR, bk, P⟩ := t
    have tb := tk_b hB j
    rcases m2 with ⟨m3, m4, m5, m6⟩ | ⟨m3, m4, m5, m6⟩
    · obtain ⟨m51, -, -, -, m55⟩ := m5
      have edu : du = 1 := by omega
      obtain ⟨ww, -⟩ := mrn_w hB m1
      rcases cGo_tr h11 m55 with ⟨e1, e2⟩ | ⟨e1, e2⟩
      · cases hbk : bk with
        | true => exact Or.inr ⟨by rw [e1]; exact m55.1 hbk, no_bk m1 m4 (Or.inr (Or.inl hbk))⟩
        | false =>
          subst edu
          rw [hbk] at m1 m55 ww
          have hg := e2 hbk ww
          exact Or.inl ⟨by rw [e1]; exact (m55.2.2 rfl).1, P, ⟨j, mS, mL, mN, mO, mR, m1, m4, hg⟩, (m55.2.2 rfl).2.1⟩
      · refine Or.inr ⟨e1, ?_⟩
        cases hbk : bk with
        | true => exact no_bk m1 m4 (Or.inr (Or.inl hbk))
        | false =>
          rw [hbk] at ww
          exact no_bk m1 m4 (Or.inr (Or.inr (e2 hbk ww edu)))
    · omega
  · intro x1 x2 x3 x4 x5 x6 x7 x8 x9 x10 x11 x12 x13 x14 x15 x16 x17 x18 x19 x20 x21 x22 x23 x24 x25 x26 x27 x28 x29 x30 x31 x32 x33 x34 h1 h2 h3 h4 h5 h6 h7 h8 h9 h10
    try dsimp only at *
    have g1 : x1.toInt = 0 := by have a := h1.1; have b := h1.2; omega
    have g2 : x2.toInt = 0 := by have a := h2.1; have b := h2.2; omega
    obtain ⟨d1, d2, d3, d4⟩ := opn_tr hn hn2 h7
    have rc : rdC 0 Reader_set Reader_left Reader_leftNumber Reader_op 0 (-1) 0 Reader_goalPlaces x1 x2 Code_first Code_firstGoal Code_secondGoal Code_op Code_set Code_left Code_leftNumber Code_right Code_rightNumber (0, -1, -1, 0, 0, 0, false, pgO) :=
      ⟨by decide, fun z => absurd z (by decide), fun z => absurd z (by decide), by decide, fun z => absurd z (by decide), fun b hb => by omega, fun _ => ⟨by decide, cdP_O g1 g2, fun g _ => by simp [pgO]⟩⟩
    obtain ⟨j, t, m1, m2⟩ := (rI_tl hn hn2 h8).2.2 px_1 0 _ (by decide) rfl rc ⟨d1, d2⟩ d3 d4
    obtain ⟨du, mS, mL, mN, mO, mR, bk, P⟩ := t
    have tb := tk_b hB j
    rcases m2 with ⟨m3, m4, m5, m6⟩ | ⟨m3, m4, m5, m6⟩
    · have du1 := m5.1
      exact Or.inr ⟨by rw [m6]; exact tb.1, no_bk m1 m4 (Or.inl (show du ≠ 1 by omega))⟩
    · omega
  · intro x1 x2 x3 x4 x5 x6 x7 x8 x9 x10 x11 x12 x13 x14 x15 x16 x17 x18 x19 x20 x21 x22 x23 x24 x25 x26 x27 x28 x29 x30 x31 x32 x33 x34 h1 h2 h3 h4 h5 h6 h7 h8
    try dsimp only at *
    have g1 : x1.toInt = 0 := by have a := h1.1; have b := h1.2; omega
    have g2 : x2.toInt = 0 := by have a := h2.1; have b := h2.2; omega
    obtain ⟨d1, d2, d3, d4⟩ := opn_tr hn hn2 h7
    have rc : rdC 0 Reader_set Reader_left Reader_leftNumber Reader_op 0 (-1) 0 Reader_goalPlaces x1 x2 Code_first Code_firstGoal Code_secondGoal Code_op Code_set Code_left Code_leftNumber Code_right Code_rightNumber (0, -1, -1, 0, 0, 0, false, pgO) :=
      ⟨by decide, fun z => absurd z (by decide), fun z => absurd z (by decide), by decide, fun z => absurd z (by decide), fun b hb => by omega, fun _ => ⟨by decide, cdP_O g1 g2, fun g _ => by simp [pgO]⟩⟩
    obtain ⟨j, t, m1, m2⟩ := (rI_tl hn hn2 h8).2.2 px_1 0 _ (by decide) rfl rc ⟨d1, d2⟩ d3 d4
    obtain ⟨du, mS, mL, mN, mO, mR, bk, P⟩ := t
    have tb := tk_b hB j
    have hx8 := (rI_tl hn hn2 h8).1.1 rfl
    rcases m2 with ⟨m3, m4, m5, m6⟩ | ⟨m3, m4, m5, m6⟩
    · omega
    · exact Or.inr ⟨by rw [m6]; exact tb.1, no_st m1 m4 m5⟩
  · intro x1 x2 x3 x4 x5 x6 x7 x8 x9 x10 x11 x12 x13 x14 x15 x16 x17 x18 x19 x20 x21 x22 x23 x24 x25 x26 x27 x28 x29 x30 x31 x32 x33 x34 x35 x36 h1 h2 h3 h4 h5 h6 h7 h8 h9 h10
    try dsimp only at *
    have g1 : x1.toInt = 0 := by have a := h1.1; have b := h1.2; omega
    have g2 : x2.toInt = 0 := by have a := h2.1; have b := h2.2; omega
    obtain ⟨d1, d2, d3, d4⟩ := opn_tr hn hn2 h7
    have rc : rdC 0 Reader_set Reader_left Reader_leftNumber Reader_op 0 (-1) 0 Reader_goalPlaces x1 x2 Code_first Code_firstGoal Code_secondGoal Code_op Code_set Code_left Code_leftNumber Code_right Code_rightNumber (0, -1, -1, 0, 0, 0, false, pgO) :=
      ⟨by decide, fun z => absurd z (by decide), fun z => absurd z (by decide), by decide, fun z => absurd z (by decide), fun b hb => by omega, fun _ => ⟨by decide, cdP_O g1 g2, fun g _ => by simp [pgO]⟩⟩
    obtain ⟨j, t, m1, m2⟩ := (rI_tl hn hn2 h8).2.2 px_1 0 _ (by decide) rfl rc ⟨d1, d2⟩ d3 d4
    obtain ⟨du, mS, mL, mN, mO, mR, bk, P⟩ := t
    have tb := tk_b hB j
    have hx8 := (rI_tl hn hn2 h8).1.2 rfl
    rcases m2 with ⟨m3, m4, m5, m6⟩ | ⟨m3, m4, m5, m6⟩
    · obtain ⟨m51, -, -, -, m55⟩ := m5
      have edu : du = 1 := by omega
      obtain ⟨ww, -⟩ := mrn_w hB m1
      rcases cGo_tr h10 m55 with ⟨e1, e2⟩ | ⟨e1, e2⟩
      · cases hbk : bk with
        | true => exact Or.inr ⟨by rw [e1]; exact m55.1 hbk, no_bk m1 m4 (Or.inr (Or.inl hbk))⟩
        | false =>
          subst edu
          rw [hbk] at m1 m55 ww
          have hg := e2 hbk ww
          exact Or.inl ⟨by rw [e1]; exact (m55.2.2 rfl).1, P, ⟨j, mS, mL, mN, mO, mR, m1, m4, hg⟩, (m55.2.2 rfl).2.1⟩
      · refine Or.inr ⟨e1, ?_⟩
        cases hbk : bk with
        | true => exact no_bk m1 m4 (Or.inr (Or.inl hbk))
        | false =>
          rw [hbk] at ww
          exact no_bk m1 m4 (Or.inr (Or.inr (e2 hbk ww edu)))
    · omega
  · intro x1 x2 x3 x4 x5 x6 x7 x8 x9 x10 x11 x12 x13 x14 x15 x16 x17 x18 x19 x20 x21 x22 x23 x24 x25 x26 x27 x28 x29 x30 x31 x32 x33 x34 h1 h2 h3 h4 h5 h6 h7 h8 h9
    try dsimp only at *
    have g1 : x1.toInt = 0 := by have a := h1.1; have b := h1.2; omega
    have g2 : x2.toInt = 0 := by have a := h2.1; have b := h2.2; omega
    obtain ⟨d1, d2, d3, d4⟩ := opn_tr hn hn2 h7
    have rc : rdC 0 Reader_set Reader_left Reader_leftNumber Reader_op 0 (-1) 0 Reader_goalPlaces x1 x2 Code_first Code_firstGoal Code_secondGoal Code_op Code_set Code_left Code_leftNumber Code_right Code_rightNumber (0, -1, -1, 0, 0, 0, false, pgO) :=
      ⟨by decide, fun z => absurd z (by decide), fun z => absurd z (by decide), by decide, fun z => absurd z (by decide), fun b hb => by omega, fun _ => ⟨by decide, cdP_O g1 g2, fun g _ => by simp [pgO]⟩⟩
    obtain ⟨j, t, m1, m2⟩ := (rI_tl hn hn2 h8).2.2 px_1 0 _ (by decide) rfl rc ⟨d1, d2⟩ d3 d4
    obtain ⟨du, mS, mL, mN, mO, mR, bk, P⟩ := t
    have tb := tk_b hB j
    have hx8 := (rI_tl hn hn2 h8).1.2 rfl
    rcases m2 with ⟨m3, m4, m5, m6⟩ | ⟨m3, m4, m5, m6⟩
    · have du1 := m5.1
      exact Or.inr ⟨by rw [m6]; exact tb.1, no_bk m1 m4 (Or.inl (show du ≠ 1 by omega))⟩
    · omega
