section MGD2
variable {Q : gPg} {W Nm b j v u w : Nat}
theorem drf_tl {Code_blocks : Int32} {a1 : Int32} {s1 : Int32} {s2 : Nat → Int32} {k : Nat} {e1 : Nat → Int32} (hB : Code_blocks.toInt = (Q.1 : Int)) (hb : b < Q.1) (hj : j < Q.2.1 b) (ha : a1.toInt = ((fsm Q.2.1 b + j : Nat) : Int)) (h : tl_Code_drop_126 Code_blocks a1 s1 s2 k e1) : ∀ c : Nat, s1.toInt = (c : Int) → (∀ d, d < Q.1 → c ≤ d → (s2 d).toInt = (fsm Q.2.1 d : Int)) → ∀ d, d < Q.1 → (d < c → e1 d = s2 d) ∧ (c ≤ d → (e1 d).toInt = ((if d ≤ b then fsm Q.2.1 d else fsm Q.2.1 d - 1 : Nat) : Int)) := by
  have lo : ∀ d, d ≤ b → fsm Q.2.1 d ≤ fsm Q.2.1 b := fun d hd => fsm_mo hd
  have hi : ∀ d, b < d → fsm Q.2.1 b + j < fsm Q.2.1 d := fun d hd => fsm_lt hd hj
  refine h (fun s1 s2 _ e1 => ∀ c : Nat, s1.toInt = (c : Int) → (∀ d, d < Q.1 → c ≤ d → (s2 d).toInt = (fsm Q.2.1 d : Int)) → ∀ d, d < Q.1 → (d < c → e1 d = s2 d) ∧ (c ≤ d → (e1 d).toInt = ((if d ≤ b then fsm Q.2.1 d else fsm Q.2.1 d - 1 : Nat) : Int))) ?_ ?_ ?_
  · intro l3_1 Code_first_1 h1 h2
    intro c hc hs d hd
    exact ⟨fun _ => rfl, fun z => by omega⟩
  · intro l3_1 Code_first_1 x1 x2 k e1 h1 h2 h3 h4 h5 h6 ih
    intro c hc hs d hd
    have cQ : c < Q.1 := by omega
    rw [nnE hc] at h3
    have e := hs c cQ (Nat.le_refl _)
    have i1 := ih (c + 1) (by omega) (fun d hd hcd => hs d hd (by omega)) d hd
    refine ⟨fun z => i1.1 (by omega), fun z => ?_⟩
    by_cases p : c = d
    · rw [i1.1 (by omega), ← p, e, if_pos]
      refine Classical.byContradiction fun n => ?_
      have := hi c (by omega)
      rw [h3] at h5
      omega
    · exact i1.2 (by omega)
  · intro l3_1 Code_first_1 x1 x2 x3 x4 k e1 h1 h2 h3 h4 h5 h6 h7 h8 ih
    intro c hc hs d hd
    have cQ : c < Q.1 := by omega
    rw [nnE hc] at h3 h7
    have e := hs c cQ (Nat.le_refl _)
    have i1 := ih (c + 1) (by omega) (fun d hd hcd => by rw [h7, updN (by omega)]; exact hs d hd (by omega)) d hd
    refine ⟨fun z => by rw [i1.1 (by omega), h7, updN (by omega)], fun z => ?_⟩
    by_cases p : c = d
    · rw [i1.1 (by omega), ← p, h7, updE, if_neg (fun n => ?_)]
      · rw [h3] at h6
        have := hi c (Classical.byContradiction fun n => by
          have := lo c (by omega)
          rw [h3] at h5
          omega)
        omega
      · have := lo c n
        rw [h3] at h5
        omega
    · exact i1.2 (by omega)
theorem drp_ix {Q : gPg} {b j d l : Nat} (hb : b < Q.1) (hj : j < Q.2.1 b) (hd : d < Q.1) (hl2 : l < if d = b then Q.2.1 d - 1 else Q.2.1 d) : ∃ l2, l2 = (if d = b ∧ j ≤ l then l + 1 else l) ∧ l2 < Q.2.1 d ∧ ∃ q, (if d ≤ b then fsm Q.2.1 d else fsm Q.2.1 d - 1) + l = q ∧ q + 1 < fsm Q.2.1 Q.1 ∧ (if fsm Q.2.1 b + j ≤ q then q + 1 else q) = fsm Q.2.1 d + l2 := by
  have m0 := fsm_lt hb hj
  rcases Nat.lt_trichotomy d b with p | p | p
  · rw [if_neg (show ¬ d = b by omega)] at hl2
    have m2 := fsm_lt p hl2
    exact ⟨l, by rw [if_neg (show ¬ (d = b ∧ j ≤ l) by omega)], hl2, fsm Q.2.1 d + l, by rw [if_pos (show d ≤ b by omega)], by omega, by rw [if_neg (by omega)]⟩
  · subst p
    rw [if_pos rfl] at hl2
    have m2 := fsm_lt hd (show l + 1 < Q.2.1 d by omega)
    by_cases c : j ≤ l
    · exact ⟨l + 1, by rw [if_pos ⟨rfl, c⟩], by omega, fsm Q.2.1 d + l, by rw [if_pos (Nat.le_refl _)], by omega, by rw [if_pos (by omega)]; omega⟩
    · exact ⟨l, by rw [if_neg (show ¬ (d = d ∧ j ≤ l) by omega)], by omega, fsm Q.2.1 d + l, by rw [if_pos (Nat.le_refl _)], by omega, by rw [if_neg (by omega)]⟩
  · rw [if_neg (show ¬ d = b by omega)] at hl2
    have m1 := fsm_lt p hj
    have m3 := fsm_lt hd hl2
    exact ⟨l, by rw [if_neg (show ¬ (d = b ∧ j ≤ l) by omega)], hl2, fsm Q.2.1 d - 1 + l, by rw [if_neg (show ¬ d ≤ b by omega)], by omega, by rw [if_pos (by omega)]; omega⟩
theorem cpy_dr {f h : Nat → Int32} {x y a : Int32} {p n : Nat} (ha : a.toInt = (p : Int)) (hx : x.toInt = a.toInt + 1) (hy : y.toInt = (n : Int) - (p : Int) - 1) (hn : p < n) (hh : h = va_cpy f f x.toNatClampNeg a.toNatClampNeg y.toNatClampNeg) : ∀ q, q + 1 < n → h q = f (if p ≤ q then q + 1 else q) := fun q hq => by
  have e1 : x.toNatClampNeg = p + 1 := nnE (by omega)
  have e2 : y.toNatClampNeg = n - p - 1 := nnE (by omega)
  rw [hh, e1, e2, nnE ha]
  unfold va_cpy
  by_cases c : p ≤ q
  · rw [if_pos c, if_pos ⟨c, by omega⟩, show p + 1 + (q - p) = q + 1 by omega]
  · rw [if_neg c, if_neg (fun z => c z.1)]
theorem drp_tr {a1 : Int32} {Code_blocks : Int32} {Code_lines : Int32} {Code_first : Nat → Int32} {Code_op : Nat → Int32} {Code_set : Nat → Int32} {Code_left : Nat → Int32} {Code_leftNumber : Nat → Int32} {Code_right : Nat → Int32} {Code_rightNumber : Nat → Int32} {o1 : Int32} {o2 : Nat → Int32} {o3 : Nat → Int32} {o4 : Nat → Int32} {o5 : Nat → Int32} {o6 : Nat → Int32} {o7 : Nat → Int32} {o8 : Nat → Int32} {fg sg : Nat → Int32} (hc : cdP Code_blocks Code_lines Code_first fg sg Code_op Code_set Code_left Code_leftNumber Code_right Code_rightNumber Q) (hb : b < Q.1) (hj : j < Q.2.1 b) (ha : a1.toInt = ((fsm Q.2.1 b + j : Nat) : Int)) (h : tr_Code_drop a1 Code_blocks Code_lines Code_first Code_op Code_set Code_left Code_leftNumber Code_right Code_rightNumber o1 o2 o3 o4 o5 o6 o7 o8) : cdP Code_blocks o1 o2 fg sg o3 o4 o5 o6 o7 o8 (pgDr Q b j) := by
  obtain ⟨c1, c2, c3, c4⟩ := hc
  have hpn : fsm Q.2.1 b + j < fsm Q.2.1 Q.1 := fsm_lt hb hj
  have fd := fsm_dr (l := Q.2.1) (b := b) (by omega)
  refine h (fun o1 o2 o3 o4 o5 o6 o7 o8 => cdP Code_blocks o1 o2 fg sg o3 o4 o5 o6 o7 o8 (pgDr Q b j)) ?_ ?_
  · intro x1 x2 x3 x4 x5 x6 x7 x8 x9 x10 x11 x12 x13 x14 x15 x16 h1 h2 h3 h4 h5 h6 h7 h8 h9 h10 h11 h12 h13 h14 h15 h16 h17
    have ey : x2.toInt = ((fsm Q.2.1 Q.1 : Nat) : Int) - ((fsm Q.2.1 b + j : Nat) : Int) - 1 := by omega
    have c_op := cpy_dr ha h4 ey hpn h5
    have c_st := cpy_dr ha h6 ey hpn h7
    have c_lf := cpy_dr ha h8 ey hpn h9
    have c_ln := cpy_dr ha h10 ey hpn h11
    have c_rt := cpy_dr ha h12 ey hpn h13
    have c_rn := cpy_dr ha h14 ey hpn h15
    have df := drf_tl c1 hb hj ha h17 0 (by decide) (fun d hd _ => (c3 d hd).1)
    refine ⟨c1, ?_, fun d hd => ⟨?_, (c3 d hd).2⟩, fun d l hd hl => ?_⟩
    · show x15.toInt = ((fsm (fun c => if c = b then Q.2.1 c - 1 else Q.2.1 c) Q.1 : Nat) : Int)
      rw [fd Q.1, if_neg (by omega)]
      omega
    · show (x16 d).toInt = ((fsm (fun c => if c = b then Q.2.1 c - 1 else Q.2.1 c) d : Nat) : Int)
      rw [fd d]
      exact (df d hd).2 (Nat.zero_le _)
    · have hl2 : l < if d = b then Q.2.1 d - 1 else Q.2.1 d := hl
      show (x4 (fsm (fun c => if c = b then Q.2.1 c - 1 else Q.2.1 c) d + l)).toInt = Q.2.2.1 d (if d = b ∧ j ≤ l then l + 1 else l) 0 ∧ (x6 (fsm (fun c => if c = b then Q.2.1 c - 1 else Q.2.1 c) d + l)).toInt = Q.2.2.1 d (if d = b ∧ j ≤ l then l + 1 else l) 1 ∧ (x8 (fsm (fun c => if c = b then Q.2.1 c - 1 else Q.2.1 c) d + l)).toInt = Q.2.2.1 d (if d = b ∧ j ≤ l then l + 1 else l) 2 ∧ (x10 (fsm (fun c => if c = b then Q.2.1 c - 1 else Q.2.1 c) d + l)).toInt = Q.2.2.1 d (if d = b ∧ j ≤ l then l + 1 else l) 3 ∧ (x12 (fsm (fun c => if c = b then Q.2.1 c - 1 else Q.2.1 c) d + l)).toInt = Q.2.2.1 d (if d = b ∧ j ≤ l then l + 1 else l) 4 ∧ (x14 (fsm (fun c => if c = b then Q.2.1 c - 1 else Q.2.1 c) d + l)).toInt = Q.2.2.1 d (if d = b ∧ j ≤ l then l + 1 else l) 5
      rw [fd d]
      obtain ⟨l2, k1, k2, k3⟩ := drp_ix hb hj (show d < Q.1 from hd) hl2
      obtain ⟨q, k4, k5, k6⟩ := k3
      rw [k4, ← k1, c_op q k5, c_st q k5, c_lf q k5, c_ln q k5, c_rt q k5, c_rn q k5, k6]
      exact c4 d l2 hd k2
  · intro x1 x2 h1 h2 h3
    omega
/-- the names of an array from i on, below n, renamed -/
def rpl (a : Int) (v : Int32) (i n : Nat) (f g : Nat → Int32) : Prop := ∀ p, (i ≤ p → p < n → g p = if (f p).toInt = a then v else f p) ∧ (p < i ∨ n ≤ p → g p = f p)
theorem rpl_e {a : Int} {v : Int32} {i n : Nat} {f : Nat → Int32} (h : n ≤ i) : rpl a v i n f f := fun p => ⟨fun h1 h2 => by omega, fun _ => rfl⟩
theorem rpl_s {a : Int} {v x : Int32} {i n : Nat} {f g h : Nat → Int32} (hi : i < n) (hg : g = upd f i x) (hx : x = if (f i).toInt = a then v else f i) (h1 : rpl a v (i + 1) n g h) : rpl a v i n f h := fun p => by
  obtain ⟨h2, h3⟩ := h1 p
  refine ⟨fun q1 q2 => ?_, fun q => ?_⟩
  · by_cases c : p = i
    · rw [h3 (Or.inl (by omega)), hg, c, updE, hx]
    · rw [h2 (by omega) q2, hg, updN c]
  · rw [h3 (q.elim (fun z => Or.inl (by omega)) Or.inr), hg, updN (by omega)]
theorem rpl_tl {Code_lines : Int32} {a1 : Int32} {a2 : Int32} {s1 : Int32} {s2 : Nat → Int32} {s3 : Nat → Int32} {s4 : Nat → Int32} {k : Nat} {e1 : Nat → Int32} {e2 : Nat → Int32} {e3 : Nat → Int32} {n : Nat} (hn : Code_lines.toInt = (n : Int)) (h : tl_Code_replace_2 Code_lines a1 a2 s1 s2 s3 s4 k e1 e2 e3) : ∀ i : Nat, s1.toInt = (i : Int) → rpl a1.toInt a2 i n s2 e1 ∧ rpl a1.toInt a2 i n s3 e2 ∧ rpl a1.toInt a2 i n s4 e3 := by
  refine h (fun s1 s2 s3 s4 _ e1 e2 e3 => ∀ i : Nat, s1.toInt = (i : Int) → rpl a1.toInt a2 i n s2 e1 ∧ rpl a1.toInt a2 i n s3 e2 ∧ rpl a1.toInt a2 i n s4 e3) ?_ ?_ ?_ ?_ ?_ ?_ ?_ ?_ ?_
  · intro l3_1 Code_set_1 Code_left_1 Code_right_1 h1 h2
    intro i hi
    exact ⟨rpl_e (by omega), rpl_e (by omega), rpl_e (by omega)⟩
  · intro l3_1 Code_set_1 Code_left_1 Code_right_1 x1 x2 x3 x4 x5 x6 x7 k e1 e2 e3 h1 h2 h3 h4 h5 h6 h7 h8 h9 h10 h11 h12 ih
    intro i hi
    have ei := nnE hi
    have hin : i < n := by omega
    obtain ⟨r1, r2, r3⟩ := ih (i + 1) (by omega)
    rw [ei] at h3 h5
    rw [ei] at h6 h8
    rw [ei] at h9 h11
    exact ⟨rpl_s hin h5 (by rw [← h3, if_neg h4]) r1, rpl_s hin h8 (by rw [← h6, if_neg h7]) r2, rpl_s hin h11 (by rw [← h9, if_neg h10]) r3⟩
  · intro l3_1 Code_set_1 Code_left_1 Code_right_1 x1 x2 x3 x4 x5 x6 x7 k e1 e2 e3 h1 h2 h3 h4 h5 h6 h7 h8 h9 h10 h11 h12 ih
    intro i hi
    have ei := nnE hi
    have hin : i < n := by omega
    obtain ⟨r1, r2, r3⟩ := ih (i + 1) (by omega)
    rw [ei] at h3 h5
    rw [ei] at h6 h8
    rw [ei] at h9 h11
    exact ⟨rpl_s hin h5 (by rw [← h3, if_neg h4]) r1, rpl_s hin h8 (by rw [← h6, if_neg h7]) r2, rpl_s hin h11 (by rw [← h9, if_pos h10]) r3⟩
  · intro l3_1 Code_set_1 Code_left_1 Code_right_1 x1 x2 x3 x4 x5 x6 x7 k e1 e2 e3 h1 h2 h3 h4 h5 h6 h7 h8 h9 h10 h11 h12 ih
    intro i hi
    have ei := nnE hi
    have hin : i < n := by omega
    obtain ⟨r1, r2, r3⟩ := ih (i + 1) (by omega)
    rw [ei] at h3 h5
    rw [ei] at h6 h8
    rw [ei] at h9 h11
    exact ⟨rpl_s hin h5 (by rw [← h3, if_neg h4]) r1, rpl_s hin h8 (by rw [← h6, if_pos h7]) r2, rpl_s hin h11 (by rw [← h9, if_neg h10]) r3⟩
  · intro l3_1 Code_set_1 Code_left_1 Code_right_1 x1 x2 x3 x4 x5 x6 x7 k e1 e2 e3 h1 h2 h3 h4 h5 h6 h7 h8 h9 h10 h11 h12 ih
    intro i hi
    have ei := nnE hi
    have hin : i < n := by omega
    obtain ⟨r1, r2, r3⟩ := ih (i + 1) (by omega)
    rw [ei] at h3 h5
    rw [ei] at h6 h8
    rw [ei] at h9 h11
    exact ⟨rpl_s hin h5 (by rw [← h3, if_neg h4]) r1, rpl_s hin h8 (by rw [← h6, if_pos h7]) r2, rpl_s hin h11 (by rw [← h9, if_pos h10]) r3⟩
  · intro l3_1 Code_set_1 Code_left_1 Code_right_1 x1 x2 x3 x4 x5 x6 x7 k e1 e2 e3 h1 h2 h3 h4 h5 h6 h7 h8 h9 h10 h11 h12 ih
    intro i hi
    have ei := nnE hi
    have hin : i < n := by omega
    obtain ⟨r1, r2, r3⟩ := ih (i + 1) (by omega)
    rw [ei] at h3 h5
    rw [ei] at h6 h8
    rw [ei] at h9 h11
    exact ⟨rpl_s hin h5 (by rw [← h3, if_pos h4]) r1, rpl_s hin h8 (by rw [← h6, if_neg h7]) r2, rpl_s hin h11 (by rw [← h9, if_neg h10]) r3⟩
  · intro l3_1 Code_set_1 Code_left_1 Code_right_1 x1 x2 x3 x4 x5 x6 x7 k e1 e2 e3 h1 h2 h3 h4 h5 h6 h7 h8 h9 h10 h11 h12 ih
    intro i hi
    have ei := nnE hi
    have hin : i < n := by omega
    obtain ⟨r1, r2, r3⟩ := ih (i + 1) (by omega)
    rw [ei] at h3 h5
    rw [ei] at h6 h8
    rw [ei] at h9 h11
    exact ⟨rpl_s hin h5 (by rw [← h3, if_pos h4]) r1, rpl_s hin h8 (by rw [← h6, if_neg h7]) r2, rpl_s hin h11 (by rw [← h9, if_pos h10]) r3⟩
  · intro l3_1 Code_set_1 Code_left_1 Code_right_1 x1 x2 x3 x4 x5 x6 x7 k e1 e2 e3 h1 h2 h3 h4 h5 h6 h7 h8 h9 h10 h11 h12 ih
    intro i hi
    have ei := nnE hi
    have hin : i < n := by omega
    obtain ⟨r1, r2, r3⟩ := ih (i + 1) (by omega)
    rw [ei] at h3 h5
    rw [ei] at h6 h8
    rw [ei] at h9 h11
    exact ⟨rpl_s hin h5 (by rw [← h3, if_pos h4]) r1, rpl_s hin h8 (by rw [← h6, if_pos h7]) r2, rpl_s hin h11 (by rw [← h9, if_neg h10]) r3⟩
  · intro l3_1 Code_set_1 Code_left_1 Code_right_1 x1 x2 x3 x4 x5 x6 x7 k e1 e2 e3 h1 h2 h3 h4 h5 h6 h7 h8 h9 h10 h11 h12 ih
    intro i hi
    have ei := nnE hi
    have hin : i < n := by omega
    obtain ⟨r1, r2, r3⟩ := ih (i + 1) (by omega)
    rw [ei] at h3 h5
    rw [ei] at h6 h8
    rw [ei] at h9 h11
    exact ⟨rpl_s hin h5 (by rw [← h3, if_pos h4]) r1, rpl_s hin h8 (by rw [← h6, if_pos h7]) r2, rpl_s hin h11 (by rw [← h9, if_pos h10]) r3⟩
theorem rpl_v {a : Int} {v : Int32} {n p : Nat} {f g : Nat → Int32} {x : Int} (h : rpl a v 0 n f g) (hp : p < n) (hx : (f p).toInt = x) : (g p).toInt = rnV a v.toInt x := by
  rw [(h p).1 (Nat.zero_le _) hp]
  unfold rnV
  rw [← hx]
  split <;> rfl
theorem rpl_tr {a1 : Int32} {a2 : Int32} {Code_lines : Int32} {Code_set : Nat → Int32} {Code_left : Nat → Int32} {Code_right : Nat → Int32} {o1 : Nat → Int32} {o2 : Nat → Int32} {o3 : Nat → Int32} {bl : Int32} {fi fg sg op ln rn : Nat → Int32} (hc : cdP bl Code_lines fi fg sg op Code_set Code_left ln Code_right rn Q) (h : tr_Code_replace a1 a2 Code_lines Code_set Code_left Code_right o1 o2 o3) : cdP bl Code_lines fi fg sg op o1 o2 ln o3 rn (pgRn Q a1.toInt a2.toInt) := by
  refine h (fun o1 o2 o3 => cdP bl Code_lines fi fg sg op o1 o2 ln o3 rn (pgRn Q a1.toInt a2.toInt)) ?_
  · intro x1 x2 x3 h1
    obtain ⟨c1, c2, c3, c4⟩ := hc
    obtain ⟨r1, r2, r3⟩ := rpl_tl (n := fsm Q.2.1 Q.1) c2 h1 0 (by decide)
    refine ⟨c1, c2, c3, fun d l hd hl => ?_⟩
    have hp := fsm_lt hd hl
    obtain ⟨d0, d1, d2, d3, d4, d5⟩ := c4 d l hd hl
    exact ⟨d0, rpl_v r1 hp d1, rpl_v r2 hp d2, d3, rpl_v r3 hp d4, d5⟩
theorem mgc_tl {Code_lines : Int32} {Giver_names : Int32} {Code_blocks : Int32} {Code_firstGoal : Nat → Int32} {Code_secondGoal : Nat → Int32} {a1 : Int32} {s1 : Int32} {s2 : Int32} {s3 : Int32} {s4 : Int32} {s5 : Int32} {s6 : Int32} {s7 : Int32} {s8 : Int32} {s9 : Nat → Int64} {s10 : Nat → Int64} {s11 : Nat → Int32} {s12 : Nat → Int32} {s13 : Nat → Int32} {s14 : Nat → Int32} {s15 : Nat → Int32} {s16 : Nat → Int32} {s17 : Nat → Int32} {s18 : Nat → Int32} {s19 : Nat → Int64} {s20 : Nat → Int64} {s21 : Nat → Int64} {s22 : Nat → Int64} {k : Nat} {e1 : Int32} {e2 : Int32} {e3 : Int32} {e4 : Int32} {e5 : Int32} {e6 : Int32} {e7 : Int32} {e8 : Nat → Int64} {e9 : Nat → Int64} {e10 : Nat → Int32} {e11 : Nat → Int32} {e12 : Nat → Int32} {e13 : Nat → Int32} {e14 : Nat → Int32} {e15 : Nat → Int32} {e16 : Nat → Int32} {e17 : Nat → Int32} {e18 : Nat → Int64} {e19 : Nat → Int64} {e20 : Nat → Int64} {e21 : Nat → Int64} (hN : Giver_names.toInt = (Nm : Int)) (hN2 : Nm ≤ 720) (h : tl_Giver_mergeCopies_10 Code_lines Giver_names Code_blocks Code_firstGoal Code_secondGoal a1 s1 s2 s3 s4 s5 s6 s7 s8 s9 s10 s11 s12 s13 s14 s15 s16 s17 s18 s19 s20 s21 s22 k e1 e2 e3 e4 e5 e6 e7 e8 e9 e10 e11 e12 e13 e14 e15 e16 e17 e18 e19 e20 e21) : ∀ (Q : gPg) (n : Nat), s1.toInt = (n : Int) → cdP Code_blocks s5 s12 Code_firstGoal Code_secondGoal s13 s14 s15 s16 s17 s18 Q → nmO Q Nm → (fsm Q.2.1 Q.1 + n : Nat) ≤ Code_lines.toInt → ∃ m R, MGn a1.toInt m Q R ∧ cdP Code_blocks e4 e11 Code_firstGoal Code_secondGoal e12 e13 e14 e15 e16 e17 R ∧ gfC R Nm ((Nm + 63) / 64) e2 e3 e8 e9 e10 := by
  refine h (fun s1 s2 s3 s4 s5 s6 s7 s8 s9 s10 s11 s12 s13 s14 s15 s16 s17 s18 s19 s20 s21 s22 _ e1 e2 e3 e4 e5 e6 e7 e8 e9 e10 e11 e12 e13 e14 e15 e16 e17 e18 e19 e20 e21 => ∀ (Q : gPg) (n : Nat), s1.toInt = (n : Int) → cdP Code_blocks s5 s12 Code_firstGoal Code_secondGoal s13 s14 s15 s16 s17 s18 Q → nmO Q Nm → (fsm Q.2.1 Q.1 + n : Nat) ≤ Code_lines.toInt → ∃ m R, MGn a1.toInt m Q R ∧ cdP Code_blocks e4 e11 Code_firstGoal Code_secondGoal e12 e13 e14 e15 e16 e17 R ∧ gfC R Nm ((Nm + 63) / 64) e2 e3 e8 e9 e10) ?_ ?_ ?_
  · intro l3_1 Giver_merged_1 Graph_names_1 Graph_words_1 Code_lines_1 Live_names_1 Live_words_1 Live_ofSlots_1 Graph_joined_1 Graph_standing_1 Graph_degree_1 Code_first_1 Code_op_1 Code_set_1 Code_left_1 Code_leftNumber_1 Code_right_1 Code_rightNumber_1 Live_in_1 Live_used_1 Live_set_1 Live_now_1 h1 h2 h3 h4 h5 h6 h7 h8
    intro Q n hn hc hq hl
    omega
  · intro l3_1 Giver_merged_1 Graph_names_1 Graph_words_1 Code_lines_1 Live_names_1 Live_words_1 Live_ofSlots_1 Graph_joined_1 Graph_standing_1 Graph_degree_1 Code_first_1 Code_op_1 Code_set_1 Code_left_1 Code_leftNumber_1 Code_right_1 Code_rightNumber_1 Live_in_1 Live_used_1 Live_set_1 Live_now_1 x1 x2 x3 x4 x5 x6 x7 x8 x9 x10 x11 x12 x13 x14 x15 x16 x17 x18 x19 x20 x21 x22 x23 x24 x25 x26 x27 x28 x29 x30 k e1 e2 e3 e4 e5 e6 e7 e8 e9 e10 e11 e12 e13 e14 e15 e16 e17 e18 e19 e20 e21 h1 h2 h3 h4 h5 h6 h7 h8 h9 h10 h11 h12 h13 h14 h15 h16 h17 h18 h19 h20 h21 h22 h23 h24 h25 h26 ih
    intro Q n hn hc hq hl
    have gf := gfC_b hc hN hN2 (by decide) hq h14
    have nt := ntm_tr hc gf h16
    rcases nt with ⟨n1, -⟩ | ⟨-, b, j, n2, n3⟩
    · exact absurd n1 h17
    have hb := n3.1.1
    have hj := n3.1.2.1
    have d1 := drp_tr hc hb hj n2 h23
    have d2 := rpl_tr d1 h24
    obtain ⟨y0, y1, y2, -⟩ := hc.2.2.2 b j hb hj
    rw [nnE n2] at h18 h19
    rw [← h18] at y1
    rw [← h19] at y2
    have ea : x17.toInt = max (Q.2.2.1 b j 1) (Q.2.2.1 b j 2) := by rw [← y1, ← y2]; omega
    have eb : x16.toInt = min (Q.2.2.1 b j 1) (Q.2.2.1 b j 2) := by rw [← y1, ← y2]; omega
    rw [ea, eb] at d2
    have fl : fsm (mg1 Q b j).2.1 (mg1 Q b j).1 + 1 = fsm Q.2.1 Q.1 := by
      show fsm (fun c => if c = b then Q.2.1 c - 1 else Q.2.1 c) Q.1 + 1 = _
      rw [fsm_dr (l := Q.2.1) (b := b) (by omega) Q.1, if_neg (by omega)]
      have := fsm_lt hb hj
      omega
    obtain ⟨m, R, m1, m2⟩ := ih (mg1 Q b j) (n + 1) (by omega) d2 (nmO_mg hq hb hj) (by omega)
    exact ⟨m + 1, R, ⟨b, j, n3, m1⟩, m2⟩
  · intro l3_1 Giver_merged_1 Graph_names_1 Graph_words_1 Code_lines_1 Live_names_1 Live_words_1 Live_ofSlots_1 Graph_joined_1 Graph_standing_1 Graph_degree_1 Code_first_1 Code_op_1 Code_set_1 Code_left_1 Code_leftNumber_1 Code_right_1 Code_rightNumber_1 Live_in_1 Live_used_1 Live_set_1 Live_now_1 x1 x2 x3 x4 x5 x6 x7 x8 x9 x10 x11 x12 x13 h1 h2 h3 h4 h5 h6 h7 h8 h9 h10 h11 h12 h13 h14 h15 h16 h17
    intro Q n hn hc hq hl
    have gf := gfC_b hc hN hN2 (by decide) hq h14
    have nt := ntm_tr hc gf h16
    rcases nt with ⟨-, n2⟩ | ⟨n1, -⟩
    · exact ⟨0, Q, ⟨rfl, n2⟩, hc, gf⟩
    · exact absurd h17 n1
theorem mgc_tr {a1 : Int32} {Giver_names : Int32} {Giver_merged : Int32} {Graph_names : Int32} {Graph_words : Int32} {Code_blocks : Int32} {Code_lines : Int32} {Live_names : Int32} {Live_words : Int32} {Live_ofSlots : Int32} {Graph_joined : Nat → Int64} {Graph_standing : Nat → Int64} {Graph_degree : Nat → Int32} {Code_first : Nat → Int32} {Code_firstGoal : Nat → Int32} {Code_secondGoal : Nat → Int32} {Code_op : Nat → Int32} {Code_set : Nat → Int32} {Code_left : Nat → Int32} {Code_leftNumber : Nat → Int32} {Code_right : Nat → Int32} {Code_rightNumber : Nat → Int32} {Live_in : Nat → Int64} {Live_used : Nat → Int64} {Live_set : Nat → Int64} {Live_now : Nat → Int64} {o1 : Int32} {o2 : Int32} {o3 : Int32} {o4 : Int32} {o5 : Int32} {o6 : Int32} {o7 : Int32} {o8 : Nat → Int64} {o9 : Nat → Int64} {o10 : Nat → Int32} {o11 : Nat → Int32} {o12 : Nat → Int32} {o13 : Nat → Int32} {o14 : Nat → Int32} {o15 : Nat → Int32} {o16 : Nat → Int32} {o17 : Nat → Int32} {o18 : Nat → Int64} {o19 : Nat → Int64} {o20 : Nat → Int64} {o21 : Nat → Int64} (hc : cdP Code_blocks Code_lines Code_first Code_firstGoal Code_secondGoal Code_op Code_set Code_left Code_leftNumber Code_right Code_rightNumber Q) (hn : nmO Q Nm) (hN : Giver_names.toInt = (Nm : Int)) (hN2 : Nm ≤ 720) (h : tr_Giver_mergeCopies a1 Giver_names Giver_merged Graph_names Graph_words Code_blocks Code_lines Live_names Live_words Live_ofSlots Graph_joined Graph_standing Graph_degree Code_first Code_firstGoal Code_secondGoal Code_op Code_set Code_left Code_leftNumber Code_right Code_rightNumber Live_in Live_used Live_set Live_now o1 o2 o3 o4 o5 o6 o7 o8 o9 o10 o11 o12 o13 o14 o15 o16 o17 o18 o19 o20 o21) : ∃ m R, MGn a1.toInt m Q R ∧ cdP Code_blocks o4 o11 Code_firstGoal Code_secondGoal o12 o13 o14 o15 o16 o17 R ∧ gfC R Nm ((Nm + 63) / 64) o2 o3 o8 o9 o10 := by
  refine h (fun o1 o2 o3 o4 o5 o6 o7 o8 o9 o10 o11 o12 o13 o14 o15 o16 o17 o18 o19 o20 o21 => ∃ m R, MGn a1.toInt m Q R ∧ cdP Code_blocks o4 o11 Code_firstGoal Code_secondGoal o12 o13 o14 o15 o16 o17 R ∧ gfC R Nm ((Nm + 63) / 64) o2 o3 o8 o9 o10) ?_ ?_
  · intro x1 x2 x3 x4 x5 x6 x7 x8 x9 x10 x11 x12 x13 x14 x15 x16 x17 x18 x19 x20 x21 h1
    exact mgc_tl hN hN2 h1 Q 0 (by decide) hc hn (by rw [hc.2.1]; omega)
  · intro x1 x2 x3 x4 x5 x6 x7 x8 x9 x10 x11 x12 x13 x14 x15 x16 x17 x18 x19 x20 x21 h1
    exact mgc_tl hN hN2 h1 Q 0 (by decide) hc hn (by rw [hc.2.1]; omega)
end MGD2
