/-! the class's listing -/
section LSC
variable {a b : List Int32} {s s1 s2 : Int32} {f f1 f2 : Nat → Int32} {n : Nat} {Q : gPg} {l g : Nat → Int} {I : Nat}
def zlA (a : List Int32) (s : Int32) (f : Nat → Int32) (s1 : Int32) (f1 : Nat → Int32) : Prop := ∀ k : Nat, s.toInt = (k : Int) → k + a.length ≤ 16384 → s1.toInt = ((k + a.length : Nat) : Int) ∧ apd a k f f1
theorem zlA_0 : zlA [] s f s f := fun k hk _ => ⟨hk, apd_0⟩
theorem zlA_t (h : zlA a s f s1 f1) (g : zlA b s1 f1 s2 f2) : zlA (a ++ b) s f s2 f2 := fun k hk hl => by
  have e : (a ++ b).length = a.length + b.length := List.length_append
  rw [e] at hl ⊢
  obtain ⟨p1, p2⟩ := h k hk (by omega)
  obtain ⟨q1, q2⟩ := g (k + a.length) p1 (by omega)
  exact ⟨by omega, apd_t p2 q2⟩
theorem nar_c {c y : Int32} (h0 : 0 ≤ c.toInt) (h1 : c.toInt ≤ 127) (hy : y = c.toInt8.toInt32) : vp_nar .byte y = c := by
  have e : c.toInt8.toInt32.toInt = c.toInt := by
    rw [Int8.toInt_toInt32, Int32.toInt_toInt8]
    rw [Int.bmod_def]; split <;> omega
  have e2 : vp_nar .byte y = y.toInt8.toInt32 := rfl
  refine Int32.toInt_inj.mp ?_
  rw [e2, hy, Int8.toInt_toInt32, Int32.toInt_toInt8, e, Int.bmod_def]
  split <;> omega
theorem zlA_1 {c : Int32} (b0 : 0 ≤ c.toInt) (b1 : c.toInt ≤ 127) (h : tr_Listing_addByte c s f s1 f1) : zlA [c] s f s1 f1 := by
  refine h (fun s1 f1 => zlA [c] s f s1 f1) ?_ ?_
  · intro h1
    intro k hk hl
    have hl2 : k + 1 ≤ 16384 := hl
    omega
  · intro x1 x2 x3 h1 h2 h3 h4
    intro k hk hl
    rw [nnE hk] at h3
    refine ⟨by show x3.toInt = ((k + 1 : Nat) : Int); omega, fun i hi => ?_, fun i hi => ?_⟩
    · rw [h3, updN (by omega)]
    · have e : i = 0 := by have hi2 : i < 1 := hi; omega
      subst e
      show x2 (k + 0) = c
      rw [Nat.add_zero, h3, updE]
      exact nar_c b0 b1 h2
/-- plain letters -/
def azc (bs : List Int32) : Prop := ∀ j, j < bs.length → chr bs j = (bs.getD j 0).toInt ∧ chr bs j ≤ 127
theorem adt_l {bs : List Int32} {s1 : Int32} {s2 : Int32} {s3 : Nat → Int32} {k : Nat} {e1 : Int32} {e2 : Nat → Int32} (hb : azc bs) (h : tl_Listing_addText_2 bs s1 s2 s3 k e1 e2) : ∀ j m : Nat, s1.toInt = (j : Int) → j + m = bs.length → zlA (sgm bs j m) s2 s3 e1 e2 := by
  refine h (fun s1 s2 s3 _ e1 e2 => ∀ j m : Nat, s1.toInt = (j : Int) → j + m = bs.length → zlA (sgm bs j m) s2 s3 e1 e2) ?_ ?_
  · intro l2_1 Listing_size_1 Listing_bytes_1 x1 h1 h2 h3 h4 h5
    intro j m hj hm
    have q := ln_tr h4
    have e : m = 0 := by omega
    rw [e]
    exact zlA_0
  · intro l2_1 Listing_size_1 Listing_bytes_1 x1 x2 x3 x4 x5 k e1 e2 h1 h2 h3 h4 h5 h6 h7 h8 h9 h10 ih
    intro j m hj hm
    have q := ln_tr h4
    obtain ⟨m1, rfl⟩ : ∃ m1, m = m1 + 1 := ⟨m - 1, by omega⟩
    have q2 := ch_tr h7
    have ej : l2_1.toInt.toNat = j := by omega
    rw [ej] at q2
    obtain ⟨y1, y2⟩ := hb j (by omega)
    have y0 := (chr_lt (bs := bs) (j := j)).1
    have ex : x2 = bs.getD j 0 := Int32.toInt_inj.mp (q2.trans y1)
    have w := zlA_1 (by omega) (by omega) h9
    rw [ex] at w
    exact zlA_t w (ih (j + 1) m1 (by omega) (by omega))
theorem adt_tr {bs : List Int32} (hb : azc bs) (h : tr_Listing_addText bs s f s1 f1) : zlA bs s f s1 f1 := by
  refine h (fun s1 f1 => zlA bs s f s1 f1) ?_
  · intro x1 x2 h1
    have q := adt_l hb h1 0 bs.length (by decide) (Nat.zero_add _)
    rw [sgm_l] at q
    exact q
theorem d64 {x y z : Int64} {p q : Nat} (h : z = x / y) (hx : x.toInt = (p : Int)) (hy : y.toInt = (q : Int)) (hp : p ≤ 4294967296) : z.toInt = ((p / q : Nat) : Int) := by
  have e : (p : Int).tdiv (q : Int) = ((p / q : Nat) : Int) := (Int.ofNat_tdiv p q).symm
  have l := Nat.div_le_self p q
  rw [h, Int64.toInt_div, hx, hy, e]
  clear e
  generalize p / q = w at l ⊢
  exact px_64 (by omega) (by omega)
theorem zd10 : Int64.toInt 10 = ((10 : Nat) : Int) := by decide
theorem zd10i : Int64.toInt 10 = 10 := by decide
theorem zd48 : Int64.toInt 48 = 48 := by decide
theorem zz0 : Int64.toInt 0 = 0 := by decide
theorem abs_tr {x y : Int64} (hb : -4294967296 ≤ x.toInt) (h : tr_Math_abs x y) : y.toInt = (x.toInt.natAbs : Int) := by
  refine h (fun y => y.toInt = (x.toInt.natAbs : Int)) ?_ ?_
  · intro x1 h1 h2
    have q := px_cge h1 h2
    rw [zz0] at q
    omega
  · intro x1 x2 h1 h2 h3
    have q := px_clt h1 h2
    rw [zz0] at q
    have e : x2.toInt = -x.toInt := by
      rw [h3, Int64.toInt_neg]; exact px_64 (by omega) (by omega)
    omega
theorem n22 {c1 : Int64} {s1 : Int32} {s2 : Int64} {k : Nat} {e1 : Int64} (hn : n ≤ 4294967296) (hc : c1.toInt = (n : Int)) (h : tl_Listing_addNumber_22 c1 s1 s2 k e1) : ∀ j : Nat, s1.toInt = (j : Int) → s2.toInt = ((10 ^ j : Nat) : Int) → j ≤ 9 → (∀ i, i < j → 10 ^ i ≤ n / 10) → ∃ q : Nat, q ≤ 9 ∧ e1.toInt = ((10 ^ q : Nat) : Int) ∧ (q = 9 ∨ n / 10 < 10 ^ q) ∧ ∀ i, i < q → 10 ^ i ≤ n / 10 := by
  refine h (fun s1 s2 _ e1 => ∀ j : Nat, s1.toInt = (j : Int) → s2.toInt = ((10 ^ j : Nat) : Int) → j ≤ 9 → (∀ i, i < j → 10 ^ i ≤ n / 10) → ∃ q : Nat, q ≤ 9 ∧ e1.toInt = ((10 ^ q : Nat) : Int) ∧ (q = 9 ∨ n / 10 < 10 ^ q) ∧ ∀ i, i < q → 10 ^ i ≤ n / 10) ?_ ?_ ?_
  · intro l6_1 l4_1 h1 h2
    intro j hj h10 hj9 hl
    exact ⟨j, hj9, h10, Or.inl (by omega), hl⟩
  · intro l6_1 l4_1 x1 x2 h1 h2 h3 h4 h5
    intro j hj h10 hj9 hl
    have q := d64 h3 hc zd10 hn
    have w := px_cgt h4 h5
    rw [q, h10] at w
    exact ⟨j, hj9, h10, Or.inr (Int.ofNat_lt.mp w), hl⟩
  · intro l6_1 l4_1 x1 x2 x3 x4 k e1 h1 h2 h3 h4 h5 h6 h7 ih
    intro j hj h10 hj9 hl
    have q := d64 h3 hc zd10 hn
    have w := px_cle h4 h5
    rw [q, h10] at w
    have w2 : 10 ^ j ≤ n / 10 := Int.ofNat_le.mp w
    obtain ⟨P, hP⟩ : ∃ P : Nat, P = 10 ^ j := ⟨_, rfl⟩
    have e10 : (10 : Nat) ^ (j + 1) = P * 10 := by rw [hP]; exact Nat.pow_succ 10 j
    rw [← hP] at h10 w2
    have ex : x3.toInt = ((10 ^ (j + 1) : Nat) : Int) := by
      rw [h6, Int64.toInt_mul, h10, zd10i, e10, px_64 (x := (P : Int) * 10) (by omega) (by omega)]
      omega
    refine ih (j + 1) (by omega) ex (by omega) (fun i hi => ?_)
    by_cases c : i = j
    · rw [c, ← hP]; exact w2
    · exact hl i (by omega)
theorem n22_2 {c1 : Int64} {s1 : Int32} {s2 : Int64} {k : Nat} {e1 : Int64} (hn : n ≤ 4294967296) (hc : c1.toInt = (n : Int)) (h : tl_Listing_addNumber_22_2 c1 s1 s2 k e1) : ∀ j : Nat, s1.toInt = (j : Int) → s2.toInt = ((10 ^ j : Nat) : Int) → j ≤ 9 → (∀ i, i < j → 10 ^ i ≤ n / 10) → ∃ q : Nat, q ≤ 9 ∧ e1.toInt = ((10 ^ q : Nat) : Int) ∧ (q = 9 ∨ n / 10 < 10 ^ q) ∧ ∀ i, i < q → 10 ^ i ≤ n / 10 := by
  refine h (fun s1 s2 _ e1 => ∀ j : Nat, s1.toInt = (j : Int) → s2.toInt = ((10 ^ j : Nat) : Int) → j ≤ 9 → (∀ i, i < j → 10 ^ i ≤ n / 10) → ∃ q : Nat, q ≤ 9 ∧ e1.toInt = ((10 ^ q : Nat) : Int) ∧ (q = 9 ∨ n / 10 < 10 ^ q) ∧ ∀ i, i < q → 10 ^ i ≤ n / 10) ?_ ?_ ?_
  · intro l6_1 l4_1 h1 h2
    intro j hj h10 hj9 hl
    exact ⟨j, hj9, h10, Or.inl (by omega), hl⟩
  · intro l6_1 l4_1 x1 x2 h1 h2 h3 h4 h5
    intro j hj h10 hj9 hl
    have q := d64 h3 hc zd10 hn
    have w := px_cgt h4 h5
    rw [q, h10] at w
    exact ⟨j, hj9, h10, Or.inr (Int.ofNat_lt.mp w), hl⟩
  · intro l6_1 l4_1 x1 x2 x3 x4 k e1 h1 h2 h3 h4 h5 h6 h7 ih
    intro j hj h10 hj9 hl
    have q := d64 h3 hc zd10 hn
    have w := px_cle h4 h5
    rw [q, h10] at w
    have w2 : 10 ^ j ≤ n / 10 := Int.ofNat_le.mp w
    obtain ⟨P, hP⟩ : ∃ P : Nat, P = 10 ^ j := ⟨_, rfl⟩
    have e10 : (10 : Nat) ^ (j + 1) = P * 10 := by rw [hP]; exact Nat.pow_succ 10 j
    rw [← hP] at h10 w2
    have ex : x3.toInt = ((10 ^ (j + 1) : Nat) : Int) := by
      rw [h6, Int64.toInt_mul, h10, zd10i, e10, px_64 (x := (P : Int) * 10) (by omega) (by omega)]
      omega
    refine ih (j + 1) (by omega) ex (by omega) (fun i hi => ?_)
    by_cases c : i = j
    · rw [c, ← hP]; exact w2
    · exact hl i (by omega)
/-- the value of a step: 10 ^ (m - 1), 0 behind the last -/
def unt : Nat → Nat
  | 0 => 0
  | m + 1 => 10 ^ m
theorem unt_d : ∀ m, unt (m + 1) / 10 = unt m
  | 0 => rfl
  | m + 1 => by
    show 10 ^ (m + 1) / 10 = 10 ^ m
    rw [Nat.pow_succ]
    exact Nat.mul_div_cancel _ (by decide)
theorem unt_b : ∀ m, m < 11 → unt m ≤ 1000000000 := by decide +kernel
theorem unt_p (m : Nat) : 0 < unt (m + 1) := Nat.pow_pos (by decide)
theorem n57 {c1 : Int64} {s1 : Int32} {s2 : Int64} {s3 : Int32} {s4 : Nat → Int32} {k : Nat} {e1 : Int32} {e2 : Nat → Int32} (hn : n ≤ 4294967296) (hc : c1.toInt = (n : Int)) (h : tl_Listing_addNumber_57 c1 s1 s2 s3 s4 k e1 e2) : ∀ i m : Nat, s1.toInt = (i : Int) → i + m = dgl n → s2.toInt = (unt m : Int) → zlA (dgq n i m) s3 s4 e1 e2 := by
  have hL := dgl_b (n := n)
  refine h (fun s1 s2 s3 s4 _ e1 e2 => ∀ i m : Nat, s1.toInt = (i : Int) → i + m = dgl n → s2.toInt = (unt m : Int) → zlA (dgq n i m) s3 s4 e1 e2) ?_ ?_ ?_
  · intro l6_1 l4_1 Listing_size_1 Listing_bytes_1 h1 h2 h3
    intro i m hi hm hu
    have e : m = 0 := by omega
    rw [e]
    exact zlA_0
  · intro l6_1 l4_1 Listing_size_1 Listing_bytes_1 x1 h1 h2 h3 h4 h5
    intro i m hi hm hu
    have w := px_cle h4 h5
    rw [zz0, hu] at w
    have e : m = 0 := by
      cases m with
      | zero => rfl
      | succ m => have := unt_p m; omega
    rw [e]
    exact zlA_0
  · intro l6_1 l4_1 Listing_size_1 Listing_bytes_1 x1 x2 x3 x4 x5 x6 x7 x8 x9 x10 k e1 e2 h1 h2 h3 h4 h5 h6 h7 h8 h9 h10 h11 h12 h13 h14 ih
    intro i m hi hm hu
    have w := px_cgt h4 h5
    rw [zz0, hu] at w
    obtain ⟨m1, rfl⟩ : ∃ m1, m = m1 + 1 := by
      cases m with
      | zero => exact absurd w (by decide)
      | succ m => exact ⟨m, rfl⟩
    have ub := unt_b (m1 + 1) (by omega)
    obtain ⟨N, hN⟩ : ∃ N : Nat, N = n / unt (m1 + 1) := ⟨_, rfl⟩
    have q2 : x2.toInt = (N : Int) := by rw [hN]; exact d64 h6 hc hu hn
    have l2 : N ≤ n := by rw [hN]; exact Nat.div_le_self n _
    obtain ⟨y, hy⟩ : ∃ y : Int64, y = x2 / 10 := ⟨_, rfl⟩
    have qy := d64 hy q2 zd10 (by omega)
    have q3 : x3.toInt = ((N % 10 : Nat) : Int) := by
      have e : (y * 10).toInt = y.toInt * 10 := by
        rw [Int64.toInt_mul, zd10i]; exact px_64 (by omega) (by omega)
      rw [h7, ← hy, Int64.toInt_sub, e, px_64 (x := x2.toInt - y.toInt * 10) (by omega) (by omega)]
      omega
    have q4 : x4.toInt = 48 + x3.toInt := by
      rw [h8, Int64.toInt_add, zd48]; exact px_64 (by omega) (by omega)
    have q5 : x5.toInt = x4.toInt := by
      rw [h9, Int64.toInt_toInt32]; exact gM_of (by omega) (by omega)
    have q6 : x6.toInt = x5.toInt := px_i2c h10 (by omega) (by omega)
    have ex : x6 = dgD n i := Int32.toInt_inj.mp (by
      unfold dgD
      rw [dch_t, show dgl n - 1 - i = m1 by omega, show n / 10 ^ m1 = N from hN.symm]
      omega)
    have z := zlA_1 (by omega) (by omega) h12
    rw [ex] at z
    exact zlA_t z (ih (i + 1) m1 (by omega) (by omega) ((d64 h13 hu zd10 (by omega)).trans (by rw [unt_d])))
theorem n57_2 {c1 : Int64} {s1 : Int32} {s2 : Int64} {s3 : Int32} {s4 : Nat → Int32} {k : Nat} {e1 : Int32} {e2 : Nat → Int32} (hn : n ≤ 4294967296) (hc : c1.toInt = (n : Int)) (h : tl_Listing_addNumber_57_2 c1 s1 s2 s3 s4 k e1 e2) : ∀ i m : Nat, s1.toInt = (i : Int) → i + m = dgl n → s2.toInt = (unt m : Int) → zlA (dgq n i m) s3 s4 e1 e2 := by
  have hL := dgl_b (n := n)
  refine h (fun s1 s2 s3 s4 _ e1 e2 => ∀ i m : Nat, s1.toInt = (i : Int) → i + m = dgl n → s2.toInt = (unt m : Int) → zlA (dgq n i m) s3 s4 e1 e2) ?_ ?_ ?_
  · intro l6_1 l4_1 Listing_size_1 Listing_bytes_1 h1 h2 h3
    intro i m hi hm hu
    have e : m = 0 := by omega
    rw [e]
    exact zlA_0
  · intro l6_1 l4_1 Listing_size_1 Listing_bytes_1 x1 h1 h2 h3 h4 h5
    intro i m hi hm hu
    have w := px_cle h4 h5
    rw [zz0, hu] at w
    have e : m = 0 := by
      cases m with
      | zero => rfl
      | succ m => have := unt_p m; omega
    rw [e]
    exact zlA_0
  · intro l6_1 l4_1 Listing_size_1 Listing_bytes_1 x1 x2 x3 x4 x5 x6 x7 x8 x9 x10 k e1 e2 h1 h2 h3 h4 h5 h6 h7 h8 h9 h10 h11 h12 h13 h14 ih
    intro i m hi hm hu
    have w := px_cgt h4 h5
    rw [zz0, hu] at w
    obtain ⟨m1, rfl⟩ : ∃ m1, m = m1 + 1 := by
      cases m with
      | zero => exact absurd w (by decide)
      | succ m => exact ⟨m, rfl⟩
    have ub := unt_b (m1 + 1) (by omega)
    obtain ⟨N, hN⟩ : ∃ N : Nat, N = n / unt (m1 + 1) := ⟨_, rfl⟩
    have q2 : x2.toInt = (N : Int) := by rw [hN]; exact d64 h6 hc hu hn
    have l2 : N ≤ n := by rw [hN]; exact Nat.div_le_self n _
    obtain ⟨y, hy⟩ : ∃ y : Int64, y = x2 / 10 := ⟨_, rfl⟩
    have qy := d64 hy q2 zd10 (by omega)
    have q3 : x3.toInt = ((N % 10 : Nat) : Int) := by
      have e : (y * 10).toInt = y.toInt * 10 := by
        rw [Int64.toInt_mul, zd10i]; exact px_64 (by omega) (by omega)
      rw [h7, ← hy, Int64.toInt_sub, e, px_64 (x := x2.toInt - y.toInt * 10) (by omega) (by omega)]
      omega
    have q4 : x4.toInt = 48 + x3.toInt := by
      rw [h8, Int64.toInt_add, zd48]; exact px_64 (by omega) (by omega)
    have q5 : x5.toInt = x4.toInt := by
      rw [h9, Int64.toInt_toInt32]; exact gM_of (by omega) (by omega)
    have q6 : x6.toInt = x5.toInt := px_i2c h10 (by omega) (by omega)
    have ex : x6 = dgD n i := Int32.toInt_inj.mp (by
      unfold dgD
      rw [dch_t, show dgl n - 1 - i = m1 by omega, show n / 10 ^ m1 = N from hN.symm]
      omega)
    have z := zlA_1 (by omega) (by omega) h12
    rw [ex] at z
    exact zlA_t z (ih (i + 1) m1 (by omega) (by omega) ((d64 h13 hu zd10 (by omega)).trans (by rw [unt_d])))
theorem n57_3 {c1 : Int64} {s1 : Int32} {s2 : Int64} {s3 : Int32} {s4 : Nat → Int32} {k : Nat} {e1 : Int32} {e2 : Nat → Int32} (hn : n ≤ 4294967296) (hc : c1.toInt = (n : Int)) (h : tl_Listing_addNumber_57_3 c1 s1 s2 s3 s4 k e1 e2) : ∀ i m : Nat, s1.toInt = (i : Int) → i + m = dgl n → s2.toInt = (unt m : Int) → zlA (dgq n i m) s3 s4 e1 e2 := by
  have hL := dgl_b (n := n)
  refine h (fun s1 s2 s3 s4 _ e1 e2 => ∀ i m : Nat, s1.toInt = (i : Int) → i + m = dgl n → s2.toInt = (unt m : Int) → zlA (dgq n i m) s3 s4 e1 e2) ?_ ?_ ?_
  · intro l6_1 l4_1 Listing_size_1 Listing_bytes_1 h1 h2 h3
    intro i m hi hm hu
    have e : m = 0 := by omega
    rw [e]
    exact zlA_0
  · intro l6_1 l4_1 Listing_size_1 Listing_bytes_1 x1 h1 h2 h3 h4 h5
    intro i m hi hm hu
    have w := px_cle h4 h5
    rw [zz0, hu] at w
    have e : m = 0 := by
      cases m with
      | zero => rfl
      | succ m => have := unt_p m; omega
    rw [e]
    exact zlA_0
  · intro l6_1 l4_1 Listing_size_1 Listing_bytes_1 x1 x2 x3 x4 x5 x6 x7 x8 x9 x10 k e1 e2 h1 h2 h3 h4 h5 h6 h7 h8 h9 h10 h11 h12 h13 h14 ih
    intro i m hi hm hu
    have w := px_cgt h4 h5
    rw [zz0, hu] at w
    obtain ⟨m1, rfl⟩ : ∃ m1, m = m1 + 1 := by
      cases m with
      | zero => exact absurd w (by decide)
      | succ m => exact ⟨m, rfl⟩
    have ub := unt_b (m1 + 1) (by omega)
    obtain ⟨N, hN⟩ : ∃ N : Nat, N = n / unt (m1 + 1) := ⟨_, rfl⟩
    have q2 : x2.toInt = (N : Int) := by rw [hN]; exact d64 h6 hc hu hn
    have l2 : N ≤ n := by rw [hN]; exact Nat.div_le_self n _
    obtain ⟨y, hy⟩ : ∃ y : Int64, y = x2 / 10 := ⟨_, rfl⟩
    have qy := d64 hy q2 zd10 (by omega)
    have q3 : x3.toInt = ((N % 10 : Nat) : Int) := by
      have e : (y * 10).toInt = y.toInt * 10 := by
        rw [Int64.toInt_mul, zd10i]; exact px_64 (by omega) (by omega)
      rw [h7, ← hy, Int64.toInt_sub, e, px_64 (x := x2.toInt - y.toInt * 10) (by omega) (by omega)]
      omega
    have q4 : x4.toInt = 48 + x3.toInt := by
      rw [h8, Int64.toInt_add, zd48]; exact px_64 (by omega) (by omega)
    have q5 : x5.toInt = x4.toInt := by
      rw [h9, Int64.toInt_toInt32]; exact gM_of (by omega) (by omega)
    have q6 : x6.toInt = x5.toInt := px_i2c h10 (by omega) (by omega)
    have ex : x6 = dgD n i := Int32.toInt_inj.mp (by
      unfold dgD
      rw [dch_t, show dgl n - 1 - i = m1 by omega, show n / 10 ^ m1 = N from hN.symm]
      omega)
    have z := zlA_1 (by omega) (by omega) h12
    rw [ex] at z
    exact zlA_t z (ih (i + 1) m1 (by omega) (by omega) ((d64 h13 hu zd10 (by omega)).trans (by rw [unt_d])))
theorem n57_4 {c1 : Int64} {s1 : Int32} {s2 : Int64} {s3 : Int32} {s4 : Nat → Int32} {k : Nat} {e1 : Int32} {e2 : Nat → Int32} (hn : n ≤ 4294967296) (hc : c1.toInt = (n : Int)) (h : tl_Listing_addNumber_57_4 c1 s1 s2 s3 s4 k e1 e2) : ∀ i m : Nat, s1.toInt = (i : Int) → i + m = dgl n → s2.toInt = (unt m : Int) → zlA (dgq n i m) s3 s4 e1 e2 := by
  have hL := dgl_b (n := n)
  refine h (fun s1 s2 s3 s4 _ e1 e2 => ∀ i m : Nat, s1.toInt = (i : Int) → i + m = dgl n → s2.toInt = (unt m : Int) → zlA (dgq n i m) s3 s4 e1 e2) ?_ ?_ ?_
  · intro l6_1 l4_1 Listing_size_1 Listing_bytes_1 h1 h2 h3
    intro i m hi hm hu
    have e : m = 0 := by omega
    rw [e]
    exact zlA_0
  · intro l6_1 l4_1 Listing_size_1 Listing_bytes_1 x1 h1 h2 h3 h4 h5
    intro i m hi hm hu
    have w := px_cle h4 h5
    rw [zz0, hu] at w
    have e : m = 0 := by
      cases m with
      | zero => rfl
      | succ m => have := unt_p m; omega
    rw [e]
    exact zlA_0
  · intro l6_1 l4_1 Listing_size_1 Listing_bytes_1 x1 x2 x3 x4 x5 x6 x7 x8 x9 x10 k e1 e2 h1 h2 h3 h4 h5 h6 h7 h8 h9 h10 h11 h12 h13 h14 ih
    intro i m hi hm hu
    have w := px_cgt h4 h5
    rw [zz0, hu] at w
    obtain ⟨m1, rfl⟩ : ∃ m1, m = m1 + 1 := by
      cases m with
      | zero => exact absurd w (by decide)
      | succ m => exact ⟨m, rfl⟩
    have ub := unt_b (m1 + 1) (by omega)
    obtain ⟨N, hN⟩ : ∃ N : Nat, N = n / unt (m1 + 1) := ⟨_, rfl⟩
    have q2 : x2.toInt = (N : Int) := by rw [hN]; exact d64 h6 hc hu hn
    have l2 : N ≤ n := by rw [hN]; exact Nat.div_le_self n _
    obtain ⟨y, hy⟩ : ∃ y : Int64, y = x2 / 10 := ⟨_, rfl⟩
    have qy := d64 hy q2 zd10 (by omega)
    have q3 : x3.toInt = ((N % 10 : Nat) : Int) := by
      have e : (y * 10).toInt = y.toInt * 10 := by
        rw [Int64.toInt_mul, zd10i]; exact px_64 (by omega) (by omega)
      rw [h7, ← hy, Int64.toInt_sub, e, px_64 (x := x2.toInt - y.toInt * 10) (by omega) (by omega)]
      omega
    have q4 : x4.toInt = 48 + x3.toInt := by
      rw [h8, Int64.toInt_add, zd48]; exact px_64 (by omega) (by omega)
    have q5 : x5.toInt = x4.toInt := by
      rw [h9, Int64.toInt_toInt32]; exact gM_of (by omega) (by omega)
    have q6 : x6.toInt = x5.toInt := px_i2c h10 (by omega) (by omega)
    have ex : x6 = dgD n i := Int32.toInt_inj.mp (by
      unfold dgD
      rw [dch_t, show dgl n - 1 - i = m1 by omega, show n / 10 ^ m1 = N from hN.symm]
      omega)
    have z := zlA_1 (by omega) (by omega) h12
    rw [ex] at z
    exact zlA_t z (ih (i + 1) m1 (by omega) (by omega) ((d64 h13 hu zd10 (by omega)).trans (by rw [unt_d])))
theorem adn_tr {x : Int32} (h : tr_Listing_addNumber x s f s1 f1) : zlA (dgI x.toInt) s f s1 f1 := by
  have bx := Int32.toInt_lt x
  have bx0 := Int32.le_toInt x
  refine h (fun s1 f1 => zlA (dgI x.toInt) s f s1 f1) ?_ ?_ ?_ ?_
  · intro x1 x2 x3 x4 x5 h1 h2 h3 h4 h5
    have e1 : x1.toInt = x.toInt := by rw [h2]; exact Int32.toInt_toInt64 x
    have e2 := abs_tr (by omega) h3
    rw [e1] at e2
    obtain ⟨q, y1, y2, y3, y4⟩ := n22 (n := x.toInt.natAbs) (by omega) e2 h4 0 (by decide) (by decide) (by decide) (fun i hi => absurd hi (Nat.not_lt_zero i))
    have eL := dgl_u y1 y3 y4
    have z := n57 (n := x.toInt.natAbs) (by omega) e2 h5 0 (q + 1) (by decide) (by omega) y2
    rw [← eL] at z
    rw [dgI_p h1]
    exact z
  · intro x1 x2 x3 x4 x5 h1 h2 h3 h4 h5
    have e1 : x1.toInt = x.toInt := by rw [h2]; exact Int32.toInt_toInt64 x
    have e2 := abs_tr (by omega) h3
    rw [e1] at e2
    obtain ⟨q, y1, y2, y3, y4⟩ := n22 (n := x.toInt.natAbs) (by omega) e2 h4 0 (by decide) (by decide) (by decide) (fun i hi => absurd hi (Nat.not_lt_zero i))
    have eL := dgl_u y1 y3 y4
    have z := n57_2 (n := x.toInt.natAbs) (by omega) e2 h5 0 (q + 1) (by decide) (by omega) y2
    rw [← eL] at z
    rw [dgI_p h1]
    exact z
  · intro x1 x2 x3 x4 x5 x6 x7 h1 h2 h3 h4 h5 h6 h7
    have e1 : x3.toInt = x.toInt := by rw [h4]; exact Int32.toInt_toInt64 x
    have e2 := abs_tr (by omega) h5
    rw [e1] at e2
    obtain ⟨q, y1, y2, y3, y4⟩ := n22_2 (n := x.toInt.natAbs) (by omega) e2 h6 0 (by decide) (by decide) (by decide) (fun i hi => absurd hi (Nat.not_lt_zero i))
    have eL := dgl_u y1 y3 y4
    have z := n57_3 (n := x.toInt.natAbs) (by omega) e2 h7 0 (q + 1) (by decide) (by omega) y2
    rw [← eL] at z
    rw [dgI_n h1]
    exact zlA_t (zlA_1 (by decide) (by decide) h3) z
  · intro x1 x2 x3 x4 x5 x6 x7 h1 h2 h3 h4 h5 h6 h7
    have e1 : x3.toInt = x.toInt := by rw [h4]; exact Int32.toInt_toInt64 x
    have e2 := abs_tr (by omega) h5
    rw [e1] at e2
    obtain ⟨q, y1, y2, y3, y4⟩ := n22_2 (n := x.toInt.natAbs) (by omega) e2 h6 0 (by decide) (by decide) (by decide) (fun i hi => absurd hi (Nat.not_lt_zero i))
    have eL := dgl_u y1 y3 y4
    have z := n57_4 (n := x.toInt.natAbs) (by omega) e2 h7 0 (q + 1) (by decide) (by omega) y2
    rw [← eL] at z
    rw [dgI_n h1]
    exact zlA_t (zlA_1 (by decide) (by decide) h3) z
theorem adm_tr {bs : List Int32} {x : Int32} (hb : azc bs) (h : tr_Listing_addNamed bs x s f s1 f1) : zlA (bs ++ dgI x.toInt) s f s1 f1 := by
  refine h (fun s1 f1 => zlA (bs ++ dgI x.toInt) s f s1 f1) ?_
  · intro x1 x2 x3 x4 h1 h2 h3 h4
    exact zlA_t (adt_tr hb h2) (adn_tr h4)
theorem as_18 : azc sb_18 := by unfold azc; decide +kernel
theorem as_19 : azc sb_19 := by unfold azc; decide +kernel
theorem as_20 : azc sb_20 := by unfold azc; decide +kernel
theorem as_21 : azc sb_21 := by unfold azc; decide +kernel
theorem as_22 : azc sb_22 := by unfold azc; decide +kernel
theorem as_23 : azc sb_23 := by unfold azc; decide +kernel
theorem as_24 : azc sb_24 := by unfold azc; decide +kernel
theorem as_25 : azc sb_25 := by unfold azc; decide +kernel
theorem as_26 : azc sb_26 := by unfold azc; decide +kernel
theorem as_27 : azc sb_27 := by unfold azc; decide +kernel
theorem as_28 : azc sb_28 := by unfold azc; decide +kernel
theorem as_29 : azc sb_29 := by unfold azc; decide +kernel
theorem as_30 : azc sb_30 := by unfold azc; decide +kernel
theorem ado_tr {x y : Int32} (hx : -1 ≤ x.toInt) (h : tr_Listing_addOperand x y s f s1 f1) : zlA (zlO x.toInt y.toInt) s f s1 f1 := by
  refine h (fun s1 f1 => zlA (zlO x.toInt y.toInt) s f s1 f1) ?_ ?_
  · intro x1 x2 h1 h2 h3
    unfold zlO
    rw [if_pos (by omega)]
    exact adm_tr as_21 h3
  · intro x1 x2 h1 h2 h3
    unfold zlO
    rw [if_neg (by omega)]
    exact adn_tr h3
theorem opS_1 : ∀ o : Nat, o < 14 → chr sb_30 (2 * o + 1) = 32 → zlS (o : Int) = [sb_30.getD (2 * o) 0] := by decide +kernel
theorem opS_2 : ∀ o : Nat, o < 14 → chr sb_30 (2 * o + 1) ≠ 32 → zlS (o : Int) = [sb_30.getD (2 * o) 0, sb_30.getD (2 * o + 1) 0] := by decide +kernel
theorem ch_e {bs : List Int32} {j r : Int32} {p : Nat} (hb : azc bs) (hp : p < bs.length) (hj : j.toInt = (p : Int)) (h : tr_String_charAt bs j r) : r = bs.getD p 0 ∧ 0 ≤ r.toInt ∧ r.toInt ≤ 127 ∧ r.toInt = chr bs p := by
  have q := ch_tr h
  rw [show j.toInt.toNat = p by omega] at q
  obtain ⟨y1, y2⟩ := hb p hp
  have y0 := (chr_lt (bs := bs) (j := p)).1
  exact ⟨Int32.toInt_inj.mp (q.trans y1), by omega, by omega, q⟩
theorem adp_tr {x : Int32} (b0 : 0 ≤ x.toInt) (b13 : x.toInt ≤ 13) (h : tr_Listing_addOp x s f s1 f1) : zlA ([32] ++ zlS x.toInt ++ [32]) s f s1 f1 := by
  obtain ⟨o, ho⟩ : ∃ o : Nat, x.toInt = (o : Int) := ⟨x.toInt.toNat, by omega⟩
  have hl : sb_30.length = 28 := by decide +kernel
  rw [ho]
  refine h (fun s1 f1 => zlA ([32] ++ zlS (o : Int) ++ [32]) s f s1 f1) ?_ ?_
  · intro x1 x2 x3 x4 x5 x6 x7 x8 x9 x10 x11 h1 h2 h3 h4 h5 h6 h7 h8 h9 h10 h11 h12 h13 h14
    obtain ⟨u1, u2, u3, u4⟩ := ch_e (p := 2 * o) as_30 (by omega) (by omega) h5
    obtain ⟨v1, v2, v3, v4⟩ := ch_e (p := 2 * o + 1) as_30 (by omega) (by omega) h11
    have w1 := zlA_1 (by decide) (by decide) h2
    have w2 := zlA_1 u2 u3 h7
    rw [u1] at w2
    have w3 := zlA_1 (by decide) (by decide) h14
    rw [opS_1 o (by omega) (by rw [← v4]; exact h12)]
    exact zlA_t (zlA_t w1 w2) w3
  · intro x1 x2 x3 x4 x5 x6 x7 x8 x9 x10 x11 x12 x13 x14 x15 x16 h1 h2 h3 h4 h5 h6 h7 h8 h9 h10 h11 h12 h13 h14 h15 h16 h17 h18 h19 h20
    obtain ⟨u1, u2, u3, u4⟩ := ch_e (p := 2 * o) as_30 (by omega) (by omega) h5
    obtain ⟨v1, v2, v3, v4⟩ := ch_e (p := 2 * o + 1) as_30 (by omega) (by omega) h11
    have w1 := zlA_1 (by decide) (by decide) h2
    have w2 := zlA_1 u2 u3 h7
    rw [u1] at w2
    obtain ⟨r1, r2, r3, r4⟩ := ch_e (p := 2 * o + 1) as_30 (by omega) (by omega) h16
    have w3 := zlA_1 r2 r3 h18
    rw [r1] at w3
    have w4 := zlA_1 (by decide) (by decide) h20
    rw [opS_2 o (by omega) (by rw [← v4]; exact h12)]
    exact zlA_t (zlA_t w1 (zlA_t w2 w3)) w4
/-- line l lies at I -/
def cdL (I : Nat) (l : Nat → Int) (op st lf ln rt rn : Nat → Int32) : Prop := (op I).toInt = l 0 ∧ (st I).toInt = l 1 ∧ (lf I).toInt = l 2 ∧ (ln I).toInt = l 3 ∧ (rt I).toInt = l 4 ∧ (rn I).toInt = l 5
theorem ads_tr {op st lf ln rt rn : Nat → Int32} {x : Int32} (hi : x.toNatClampNeg = I) (hc : cdL I l op st lf ln rt rn) (hO : rnO l) (h : tr_Listing_addSource x s f op lf ln rt rn s1 f1) : zlA (zlE l) s f s1 f1 := by
  obtain ⟨c0, c1, c2, c3, c4, c5⟩ := hc
  obtain ⟨o0, o2, o4, o1, o5⟩ := hO
  unfold zlE
  refine h (fun s1 f1 => zlA (if l 0 = 15 then [105, 110] else if l 0 = 17 then [115, 108, 111, 116, 32] ++ dgI (l 5) else zlO (l 2) (l 3) ++ (if l 0 ≤ 13 then ([32] ++ zlS (l 0) ++ [32]) ++ zlO (l 4) (l 5) else [])) s f s1 f1) ?_ ?_ ?_ ?_
  · intro x1 x2 x3 x4 x5 h1 h2 h3 h4 h5 h6 h7 h8 h9
    rw [hi] at h1
    rw [← h1] at c0
    rw [if_neg (by omega), if_neg (by omega)]
    have q1 : x2.toInt = l 2 := by rw [h5, hi]; exact c2
    have q2 : x3.toInt = l 3 := by rw [h6, hi]; exact c3
    have w := ado_tr (by omega) h8
    rw [q1, q2] at w
    rw [if_neg (by omega), List.append_nil]
    exact w
  · intro x1 x2 x3 x4 x5 x6 x7 x8 x9 x10 x11 h1 h2 h3 h4 h5 h6 h7 h8 h9 h10 h11 h12 h13 h14 h15
    rw [hi] at h1
    rw [← h1] at c0
    rw [if_neg (by omega), if_neg (by omega)]
    have q1 : x2.toInt = l 2 := by rw [h5, hi]; exact c2
    have q2 : x3.toInt = l 3 := by rw [h6, hi]; exact c3
    have w := ado_tr (by omega) h8
    rw [q1, q2] at w
    have q3 : x8.toInt = l 4 := by rw [h12, hi]; exact c4
    have q4 : x9.toInt = l 5 := by rw [h13, hi]; exact c5
    have w2 := adp_tr (by omega) (by omega) h11
    have w3 := ado_tr (by omega) h15
    rw [q3, q4] at w3
    rw [c0] at w2
    rw [if_pos (by omega)]
    exact zlA_t w (zlA_t w2 w3)
  · intro x1 x2 x3 x4 h1 h2 h3 h4 h5 h6 h7
    rw [hi] at h1
    rw [← h1] at c0
    rw [if_neg (by omega), if_pos (by omega)]
    have w := adm_tr as_26 h7
    rw [h5, hi, c5] at w
    exact w
  · intro x1 x2 x3 h1 h2 h3 h4 h5
    rw [hi] at h1
    rw [← h1] at c0
    rw [if_pos (by omega)]
    exact adt_tr as_29 h5
theorem adr_tr {op st lf ln rt rn : Nat → Int32} {x : Int32} (hi : x.toNatClampNeg = I) (hc : cdL I l op st lf ln rt rn) (hO : rnO l) (h : tr_Listing_addRow x s f op st lf ln rt rn s1 f1) : zlA (zlR l) s f s1 f1 := by
  obtain ⟨c0, c1, c2, c3, c4, c5⟩ := id hc
  obtain ⟨o0, o2, o4, o1, o5⟩ := id hO
  unfold zlR
  refine h (fun s1 f1 => zlA (if l 0 = 16 then [115, 104, 111, 119, 32] ++ zlO (l 2) (l 3) else if l 0 = 18 then ([115, 108, 111, 116, 32] ++ dgI (l 5)) ++ ([32, 61, 32, 118] ++ dgI (l 2)) else (([118] ++ dgI (l 1)) ++ [32, 61, 32]) ++ zlE l) s f s1 f1) ?_ ?_ ?_
  · intro x1 x2 x3 x4 x5 x6 x7 x8 h1 h2 h3 h4 h5 h6 h7 h8 h9 h10 h11
    rw [hi] at h1
    rw [← h1] at c0
    rw [if_neg (by omega), if_neg (by omega)]
    have w1 := adm_tr as_21 h7
    rw [h5, hi, c1] at w1
    exact zlA_t (zlA_t w1 (adt_tr as_28 h9)) (ads_tr hi hc hO h11)
  · intro x1 x2 x3 x4 x5 x6 x7 h1 h2 h3 h4 h5 h6 h7 h8 h9 h10
    rw [hi] at h1
    rw [← h1] at c0
    rw [if_neg (by omega), if_pos (by omega)]
    have w1 := adm_tr as_26 h7
    rw [h5, hi, c5] at w1
    have w2 := adm_tr as_27 h10
    rw [h8, hi, c2] at w2
    exact zlA_t w1 w2
  · intro x1 x2 x3 x4 x5 x6 x7 h1 h2 h3 h4 h5 h6 h7 h8 h9
    rw [hi] at h1
    rw [← h1] at c0
    rw [if_pos (by omega)]
    have q1 : x4.toInt = l 2 := by rw [h6, hi]; exact c2
    have q2 : x5.toInt = l 3 := by rw [h7, hi]; exact c3
    have w := ado_tr (by omega) h9
    rw [q1, q2] at w
    exact zlA_t (adt_tr as_25 h5) w
theorem ade_tr {op st lf ln rt rn : Nat → Int32} {fg sg : Nat → Int32} {x y : Int32} {c : Nat} (hi : x.toNatClampNeg = I) (hy : y.toNatClampNeg = c) (hc : cdL I l op st lf ln rt rn) (hO : edO l) (hG : edG (l 0) (g 0) (g 1)) (g0 : (fg c).toInt = g 0) (g1 : (sg c).toInt = g 1) (h : tr_Listing_addEnd y x s f fg sg op lf ln s1 f1) : zlA (zlF g l) s f s1 f1 := by
  obtain ⟨c0, c1, c2, c3, c4, c5⟩ := hc
  obtain ⟨o1, o2, o4, o5⟩ := hO
  unfold edG at hG
  unfold zlF
  refine h (fun s1 f1 => zlA (if l 0 = 21 then [114, 101, 116, 32] ++ zlO (l 2) (l 3) else if l 0 = 19 then [106, 117, 109, 112, 32, 98] ++ dgI (g 0) else (([105, 102, 32] ++ zlO (l 2) (l 3)) ++ ([32, 98] ++ dgI (g 0))) ++ ([32, 98] ++ dgI (g 1))) s f s1 f1) ?_ ?_ ?_
  · intro x1 x2 x3 x4 x5 x6 x7 x8 x9 x10 x11 x12 x13 h1 h2 h3 h4 h5 h6 h7 h8 h9 h10 h11 h12 h13 h14 h15 h16
    rw [hi] at h1
    rw [← h1] at c0
    rw [if_neg (by omega), if_neg (by omega)]
    have q1 : x4.toInt = l 2 := by rw [h7, hi]; exact c2
    have q2 : x5.toInt = l 3 := by rw [h8, hi]; exact c3
    have w := ado_tr (by omega) h10
    rw [q1, q2] at w
    have w1 := adm_tr as_24 h13
    rw [h11, hy, g0] at w1
    have w2 := adm_tr as_24 h16
    rw [h14, hy, g1] at w2
    exact zlA_t (zlA_t (zlA_t (adt_tr as_23 h6) w) w1) w2
  · intro x1 x2 x3 x4 h1 h2 h3 h4 h5 h6 h7
    rw [hi] at h1
    rw [← h1] at c0
    rw [if_neg (by omega), if_pos (by omega)]
    have w1 := adm_tr as_22 h7
    rw [h5, hy, g0] at w1
    exact w1
  · intro x1 x2 x3 x4 x5 x6 x7 h1 h2 h3 h4 h5 h6 h7 h8 h9
    rw [hi] at h1
    rw [← h1] at c0
    rw [if_pos (by omega)]
    have q1 : x4.toInt = l 2 := by rw [h6, hi]; exact c2
    have q2 : x5.toInt = l 3 := by rw [h7, hi]; exact c3
    have w := ado_tr (by omega) h9
    rw [q1, q2] at w
    exact zlA_t (adt_tr as_20 h5) w
theorem zw35 {l2_1 : Int32} {Code_blocks : Int32} {Code_lines : Int32} {Code_first : Nat → Int32} {Code_op : Nat → Int32} {Code_set : Nat → Int32} {Code_left : Nat → Int32} {Code_leftNumber : Nat → Int32} {Code_right : Nat → Int32} {Code_rightNumber : Nat → Int32} {Code_firstGoal : Nat → Int32} {Code_secondGoal : Nat → Int32} {s1 : Int32} {s2 : Int32} {s3 : Nat → Int32} {k : Nat} {e1 : Int32} {e2 : Nat → Int32} {c : Nat} (hP : rnP Q) (hcd : cdP Code_blocks Code_lines Code_first Code_firstGoal Code_secondGoal Code_op Code_set Code_left Code_leftNumber Code_right Code_rightNumber Q) (hb : l2_1.toInt = (c : Int)) (hcl : c < Q.1) (h : tl_Listing_write_35 l2_1 Code_blocks Code_lines Code_first Code_op Code_set Code_left Code_leftNumber Code_right Code_rightNumber Code_firstGoal Code_secondGoal s1 s2 s3 k e1 e2) : ∀ j m : Nat, s1.toInt = ((fsm Q.2.1 c + j : Nat) : Int) → j + m = Q.2.1 c → zlA (zlK Q c j m) s2 s3 e1 e2 := by
  refine h (fun s1 s2 s3 _ e1 e2 => ∀ j m : Nat, s1.toInt = ((fsm Q.2.1 c + j : Nat) : Int) → j + m = Q.2.1 c → zlA (zlK Q c j m) s2 s3 e1 e2) ?_ ?_ ?_ ?_ ?_ ?_
  · intro l3_2 Listing_size_2 Listing_bytes_2 h1 h2 h3 h4
    intro j m hj hm
    have be := bE_tr hcd hb hcl h3
    have ef : fsm Q.2.1 (c + 1) = fsm Q.2.1 c + Q.2.1 c := rfl
    rw [ef] at be
    have e : m = 0 := by omega
    rw [e]
    exact zlA_0
  · intro l3_2 Listing_size_2 Listing_bytes_2 x1 x2 x3 x4 x5 x6 k e1 e2 h1 h2 h3 h4 h5 h6 h7 h8 h9 h10 h11 h12 ih
    intro j m hj hm
    have be := bE_tr hcd hb hcl h3
    have ef : fsm Q.2.1 (c + 1) = fsm Q.2.1 c + Q.2.1 c := rfl
    rw [ef] at be
    obtain ⟨m1, rfl⟩ : ∃ m1, m = m1 + 1 := ⟨m - 1, by omega⟩
    have hi : l3_2.toNatClampNeg = fsm Q.2.1 c + j := nnE hj
    have cl : cdL (fsm Q.2.1 c + j) (Q.2.2.1 c j) Code_op Code_set Code_left Code_leftNumber Code_right Code_rightNumber := hcd.2.2.2 c j hcl (by omega)
    have eo := cl.1
    rw [← hi, ← h5] at eo
    have w := adr_tr (l := Q.2.2.1 c j) hi cl (rn_r (j := j) hP hcl (by omega) (by omega)).2 h9
    have el : zlN (Q.2.2.2 c) (Q.2.2.1 c j) = zlR (Q.2.2.1 c j) ++ [10] := by unfold zlN; rw [if_pos (by omega)]
    show zlA (zlN (Q.2.2.2 c) (Q.2.2.1 c j) ++ zlK Q c (j + 1) m1) Listing_size_2 Listing_bytes_2 e1 e2
    rw [el]
    exact zlA_t (zlA_t w (zlA_1 (by decide) (by decide) h11)) (ih (j + 1) m1 (by omega) (by omega))
  · intro l3_2 Listing_size_2 Listing_bytes_2 x1 x2 x3 x4 x5 x6 k e1 e2 h1 h2 h3 h4 h5 h6 h7 h8 h9 h10 h11 h12 ih
    intro j m hj hm
    have be := bE_tr hcd hb hcl h3
    have ef : fsm Q.2.1 (c + 1) = fsm Q.2.1 c + Q.2.1 c := rfl
    rw [ef] at be
    obtain ⟨m1, rfl⟩ : ∃ m1, m = m1 + 1 := ⟨m - 1, by omega⟩
    have hi : l3_2.toNatClampNeg = fsm Q.2.1 c + j := nnE hj
    have cl : cdL (fsm Q.2.1 c + j) (Q.2.2.1 c j) Code_op Code_set Code_left Code_leftNumber Code_right Code_rightNumber := hcd.2.2.2 c j hcl (by omega)
    have eo := cl.1
    rw [← hi, ← h5] at eo
    have hg := hcd.2.2.1 c hcl
    obtain ⟨r1, r2⟩ := rn_e hP hcl (show j < Q.2.1 c by omega) (by omega)
    have w := ade_tr (l := Q.2.2.1 c j) (g := Q.2.2.2 c) hi (nnE hb) cl r1 r2 hg.2.1 hg.2.2 h9
    have el : zlN (Q.2.2.2 c) (Q.2.2.1 c j) = zlF (Q.2.2.2 c) (Q.2.2.1 c j) ++ [10] := by unfold zlN; rw [if_neg (by omega)]
    show zlA (zlN (Q.2.2.2 c) (Q.2.2.1 c j) ++ zlK Q c (j + 1) m1) Listing_size_2 Listing_bytes_2 e1 e2
    rw [el]
    exact zlA_t (zlA_t w (zlA_1 (by decide) (by decide) h11)) (ih (j + 1) m1 (by omega) (by omega))
  · intro l3_2 Listing_size_2 Listing_bytes_2 x1 h1 h2 h3 h4
    intro j m hj hm
    have be := bE_tr hcd hb hcl h3
    have ef : fsm Q.2.1 (c + 1) = fsm Q.2.1 c + Q.2.1 c := rfl
    rw [ef] at be
    have e : m = 0 := by omega
    rw [e]
    exact zlA_0
  · intro l3_2 Listing_size_2 Listing_bytes_2 x1 x2 x3 x4 x5 x6 x7 k e1 e2 h1 h2 h3 h4 h5 h6 h7 h8 h9 h10 h11 h12 ih
    intro j m hj hm
    have be := bE_tr hcd hb hcl h3
    have ef : fsm Q.2.1 (c + 1) = fsm Q.2.1 c + Q.2.1 c := rfl
    rw [ef] at be
    obtain ⟨m1, rfl⟩ : ∃ m1, m = m1 + 1 := ⟨m - 1, by omega⟩
    have hi : l3_2.toNatClampNeg = fsm Q.2.1 c + j := nnE hj
    have cl : cdL (fsm Q.2.1 c + j) (Q.2.2.1 c j) Code_op Code_set Code_left Code_leftNumber Code_right Code_rightNumber := hcd.2.2.2 c j hcl (by omega)
    have eo := cl.1
    rw [← hi, ← h5] at eo
    have w := adr_tr (l := Q.2.2.1 c j) hi cl (rn_r (j := j) hP hcl (by omega) (by omega)).2 h9
    have el : zlN (Q.2.2.2 c) (Q.2.2.1 c j) = zlR (Q.2.2.1 c j) ++ [10] := by unfold zlN; rw [if_pos (by omega)]
    show zlA (zlN (Q.2.2.2 c) (Q.2.2.1 c j) ++ zlK Q c (j + 1) m1) Listing_size_2 Listing_bytes_2 e1 e2
    rw [el]
    exact zlA_t (zlA_t w (zlA_1 (by decide) (by decide) h11)) (ih (j + 1) m1 (by omega) (by omega))
  · intro l3_2 Listing_size_2 Listing_bytes_2 x1 x2 x3 x4 x5 x6 x7 k e1 e2 h1 h2 h3 h4 h5 h6 h7 h8 h9 h10 h11 h12 ih
    intro j m hj hm
    have be := bE_tr hcd hb hcl h3
    have ef : fsm Q.2.1 (c + 1) = fsm Q.2.1 c + Q.2.1 c := rfl
    rw [ef] at be
    obtain ⟨m1, rfl⟩ : ∃ m1, m = m1 + 1 := ⟨m - 1, by omega⟩
    have hi : l3_2.toNatClampNeg = fsm Q.2.1 c + j := nnE hj
    have cl : cdL (fsm Q.2.1 c + j) (Q.2.2.1 c j) Code_op Code_set Code_left Code_leftNumber Code_right Code_rightNumber := hcd.2.2.2 c j hcl (by omega)
    have eo := cl.1
    rw [← hi, ← h5] at eo
    have hg := hcd.2.2.1 c hcl
    obtain ⟨r1, r2⟩ := rn_e hP hcl (show j < Q.2.1 c by omega) (by omega)
    have w := ade_tr (l := Q.2.2.1 c j) (g := Q.2.2.2 c) hi (nnE hb) cl r1 r2 hg.2.1 hg.2.2 h9
    have el : zlN (Q.2.2.2 c) (Q.2.2.1 c j) = zlF (Q.2.2.2 c) (Q.2.2.1 c j) ++ [10] := by unfold zlN; rw [if_neg (by omega)]
    show zlA (zlN (Q.2.2.2 c) (Q.2.2.1 c j) ++ zlK Q c (j + 1) m1) Listing_size_2 Listing_bytes_2 e1 e2
    rw [el]
    exact zlA_t (zlA_t w (zlA_1 (by decide) (by decide) h11)) (ih (j + 1) m1 (by omega) (by omega))
theorem zw7 {Code_blocks : Int32} {Code_first : Nat → Int32} {Code_lines : Int32} {Code_op : Nat → Int32} {Code_set : Nat → Int32} {Code_left : Nat → Int32} {Code_leftNumber : Nat → Int32} {Code_right : Nat → Int32} {Code_rightNumber : Nat → Int32} {Code_firstGoal : Nat → Int32} {Code_secondGoal : Nat → Int32} {s1 : Int32} {s2 : Int32} {s3 : Nat → Int32} {k : Nat} {e1 : Int32} {e2 : Nat → Int32} (hP : rnP Q) (hcd : cdP Code_blocks Code_lines Code_first Code_firstGoal Code_secondGoal Code_op Code_set Code_left Code_leftNumber Code_right Code_rightNumber Q) (h : tl_Listing_write_7 Code_blocks Code_first Code_lines Code_op Code_set Code_left Code_leftNumber Code_right Code_rightNumber Code_firstGoal Code_secondGoal s1 s2 s3 k e1 e2) : ∀ c m : Nat, s1.toInt = (c : Int) → c + m = Q.1 → zlA (zlM Q c m) s2 s3 e1 e2 := by
  refine h (fun s1 s2 s3 _ e1 e2 => ∀ c m : Nat, s1.toInt = (c : Int) → c + m = Q.1 → zlA (zlM Q c m) s2 s3 e1 e2) ?_ ?_
  · intro l2_1 Listing_size_1 Listing_bytes_1 h1 h2 h3
    intro c m hc hm
    have e1 := hcd.1
    have e : m = 0 := by omega
    rw [e]
    exact zlA_0
  · intro l2_1 Listing_size_1 Listing_bytes_1 x1 x2 x3 x4 x5 x6 x7 x8 k e1 e2 h1 h2 h3 h4 h5 h6 h7 h8 h9 h10 h11 ih
    intro c m hc hm
    have e1 := hcd.1
    obtain ⟨m1, rfl⟩ : ∃ m1, m = m1 + 1 := ⟨m - 1, by omega⟩
    have hcl : c < Q.1 := by omega
    have w1 := adm_tr as_18 h5
    rw [hc] at w1
    have hx := h8
    rw [nnE hc] at hx
    have w3 := zw35 hP hcd hc hcl h10 0 (Q.2.1 c) (by rw [hx]; exact (hcd.2.2.1 c hcl).1) (Nat.zero_add _)
    rw [zlK_0] at w3
    exact zlA_t (zlA_t (zlA_t w1 (adt_tr as_19 h7)) w3) (ih (c + 1) m1 (by omega) (by omega))
theorem wr_tr {Code_blocks : Int32} {Code_lines : Int32} {Listing_bytes : Nat → Int32} {Code_first : Nat → Int32} {Code_firstGoal : Nat → Int32} {Code_secondGoal : Nat → Int32} {Code_op : Nat → Int32} {Code_set : Nat → Int32} {Code_left : Nat → Int32} {Code_leftNumber : Nat → Int32} {Code_right : Nat → Int32} {Code_rightNumber : Nat → Int32} {o1 : Int32} {o2 : Nat → Int32} (hP : rnP Q) (hcd : cdP Code_blocks Code_lines Code_first Code_firstGoal Code_secondGoal Code_op Code_set Code_left Code_leftNumber Code_right Code_rightNumber Q) (h : tr_Listing_write Code_blocks Code_lines Listing_bytes Code_first Code_firstGoal Code_secondGoal Code_op Code_set Code_left Code_leftNumber Code_right Code_rightNumber o1 o2) : (zlB Q Q.1).length ≤ 16384 → o1.toInt = ((zlB Q Q.1).length : Int) ∧ ∀ i, i < (zlB Q Q.1).length → o2 i = (zlB Q Q.1).getD i 0 := by
  refine h (fun o1 o2 => (zlB Q Q.1).length ≤ 16384 → o1.toInt = ((zlB Q Q.1).length : Int) ∧ ∀ i, i < (zlB Q Q.1).length → o2 i = (zlB Q Q.1).getD i 0) ?_
  · intro x1 x2 h1
    intro hl
    have w := zw7 hP hcd h1 0 Q.1 (by decide) (Nat.zero_add _)
    rw [zlM_0] at w
    obtain ⟨q1, -, q2⟩ := w 0 (by decide) (by omega)
    exact ⟨by omega, fun i hi => by have q := q2 i hi; rw [Nat.zero_add] at q; exact q⟩
theorem ads_tr2 {op st lf ln rt rn : Nat → Int32} {x : Int32} (hi : x.toNatClampNeg = I) (hc : cdL I l op st lf ln rt rn) (hO : rnO l) (h : tr_Listing_addSource2 x s f op lf ln rt rn s1 f1) : zlA (zlE l) s f s1 f1 := by
  obtain ⟨c0, c1, c2, c3, c4, c5⟩ := hc
  obtain ⟨o0, o2, o4, o1, o5⟩ := hO
  unfold zlE
  refine h (fun s1 f1 => zlA (if l 0 = 15 then [105, 110] else if l 0 = 17 then [115, 108, 111, 116, 32] ++ dgI (l 5) else zlO (l 2) (l 3) ++ (if l 0 ≤ 13 then ([32] ++ zlS (l 0) ++ [32]) ++ zlO (l 4) (l 5) else [])) s f s1 f1) ?_ ?_ ?_ ?_
  · intro x1 x2 x3 x4 x5 h1 h2 h3 h4 h5 h6 h7 h8 h9
    rw [hi] at h1
    rw [← h1] at c0
    rw [if_neg (by omega), if_neg (by omega)]
    have q1 : x2.toInt = l 2 := by rw [h5, hi]; exact c2
    have q2 : x3.toInt = l 3 := by rw [h6, hi]; exact c3
    have w := ado_tr (by omega) h8
    rw [q1, q2] at w
    rw [if_neg (by omega), List.append_nil]
    exact w
  · intro x1 x2 x3 x4 x5 x6 x7 x8 x9 x10 x11 h1 h2 h3 h4 h5 h6 h7 h8 h9 h10 h11 h12 h13 h14 h15
    rw [hi] at h1
    rw [← h1] at c0
    rw [if_neg (by omega), if_neg (by omega)]
    have q1 : x2.toInt = l 2 := by rw [h5, hi]; exact c2
    have q2 : x3.toInt = l 3 := by rw [h6, hi]; exact c3
    have w := ado_tr (by omega) h8
    rw [q1, q2] at w
    have q3 : x8.toInt = l 4 := by rw [h12, hi]; exact c4
    have q4 : x9.toInt = l 5 := by rw [h13, hi]; exact c5
    have w2 := adp_tr (by omega) (by omega) h11
    have w3 := ado_tr (by omega) h15
    rw [q3, q4] at w3
    rw [c0] at w2
    rw [if_pos (by omega)]
    exact zlA_t w (zlA_t w2 w3)
  · intro x1 x2 x3 x4 h1 h2 h3 h4 h5 h6 h7
    rw [hi] at h1
    rw [← h1] at c0
    rw [if_neg (by omega), if_pos (by omega)]
    have w := adm_tr as_26 h7
    rw [h5, hi, c5] at w
    exact w
  · intro x1 x2 x3 h1 h2 h3 h4 h5
    rw [hi] at h1
    rw [← h1] at c0
    rw [if_pos (by omega)]
    exact adt_tr as_29 h5
theorem adr_tr2 {op st lf ln rt rn : Nat → Int32} {x : Int32} (hi : x.toNatClampNeg = I) (hc : cdL I l op st lf ln rt rn) (hO : rnO l) (h : tr_Listing_addRow2 x s f op st lf ln rt rn s1 f1) : zlA (zlR l) s f s1 f1 := by
  obtain ⟨c0, c1, c2, c3, c4, c5⟩ := id hc
  obtain ⟨o0, o2, o4, o1, o5⟩ := id hO
  unfold zlR
  refine h (fun s1 f1 => zlA (if l 0 = 16 then [115, 104, 111, 119, 32] ++ zlO (l 2) (l 3) else if l 0 = 18 then ([115, 108, 111, 116, 32] ++ dgI (l 5)) ++ ([32, 61, 32, 118] ++ dgI (l 2)) else (([118] ++ dgI (l 1)) ++ [32, 61, 32]) ++ zlE l) s f s1 f1) ?_ ?_ ?_
  · intro x1 x2 x3 x4 x5 x6 x7 x8 h1 h2 h3 h4 h5 h6 h7 h8 h9 h10 h11
    rw [hi] at h1
    rw [← h1] at c0
    rw [if_neg (by omega), if_neg (by omega)]
    have w1 := adm_tr as_21 h7
    rw [h5, hi, c1] at w1
    exact zlA_t (zlA_t w1 (adt_tr as_28 h9)) (ads_tr2 hi hc hO h11)
  · intro x1 x2 x3 x4 x5 x6 x7 h1 h2 h3 h4 h5 h6 h7 h8 h9 h10
    rw [hi] at h1
    rw [← h1] at c0
    rw [if_neg (by omega), if_pos (by omega)]
    have w1 := adm_tr as_26 h7
    rw [h5, hi, c5] at w1
    have w2 := adm_tr as_27 h10
    rw [h8, hi, c2] at w2
    exact zlA_t w1 w2
  · intro x1 x2 x3 x4 x5 x6 x7 h1 h2 h3 h4 h5 h6 h7 h8 h9
    rw [hi] at h1
    rw [← h1] at c0
    rw [if_pos (by omega)]
    have q1 : x4.toInt = l 2 := by rw [h6, hi]; exact c2
    have q2 : x5.toInt = l 3 := by rw [h7, hi]; exact c3
    have w := ado_tr (by omega) h9
    rw [q1, q2] at w
    exact zlA_t (adt_tr as_25 h5) w
theorem ade_tr2 {op st lf ln rt rn : Nat → Int32} {fg sg : Nat → Int32} {x y : Int32} {c : Nat} (hi : x.toNatClampNeg = I) (hy : y.toNatClampNeg = c) (hc : cdL I l op st lf ln rt rn) (hO : edO l) (hG : edG (l 0) (g 0) (g 1)) (g0 : (fg c).toInt = g 0) (g1 : (sg c).toInt = g 1) (h : tr_Listing_addEnd2 y x s f fg sg op lf ln s1 f1) : zlA (zlF g l) s f s1 f1 := by
  obtain ⟨c0, c1, c2, c3, c4, c5⟩ := hc
  obtain ⟨o1, o2, o4, o5⟩ := hO
  unfold edG at hG
  unfold zlF
  refine h (fun s1 f1 => zlA (if l 0 = 21 then [114, 101, 116, 32] ++ zlO (l 2) (l 3) else if l 0 = 19 then [106, 117, 109, 112, 32, 98] ++ dgI (g 0) else (([105, 102, 32] ++ zlO (l 2) (l 3)) ++ ([32, 98] ++ dgI (g 0))) ++ ([32, 98] ++ dgI (g 1))) s f s1 f1) ?_ ?_ ?_
  · intro x1 x2 x3 x4 x5 x6 x7 x8 x9 x10 x11 x12 x13 h1 h2 h3 h4 h5 h6 h7 h8 h9 h10 h11 h12 h13 h14 h15 h16
    rw [hi] at h1
    rw [← h1] at c0
    rw [if_neg (by omega), if_neg (by omega)]
    have q1 : x4.toInt = l 2 := by rw [h7, hi]; exact c2
    have q2 : x5.toInt = l 3 := by rw [h8, hi]; exact c3
    have w := ado_tr (by omega) h10
    rw [q1, q2] at w
    have w1 := adm_tr as_24 h13
    rw [h11, hy, g0] at w1
    have w2 := adm_tr as_24 h16
    rw [h14, hy, g1] at w2
    exact zlA_t (zlA_t (zlA_t (adt_tr as_23 h6) w) w1) w2
  · intro x1 x2 x3 x4 h1 h2 h3 h4 h5 h6 h7
    rw [hi] at h1
    rw [← h1] at c0
    rw [if_neg (by omega), if_pos (by omega)]
    have w1 := adm_tr as_22 h7
    rw [h5, hy, g0] at w1
    exact w1
  · intro x1 x2 x3 x4 x5 x6 x7 h1 h2 h3 h4 h5 h6 h7 h8 h9
    rw [hi] at h1
    rw [← h1] at c0
    rw [if_pos (by omega)]
    have q1 : x4.toInt = l 2 := by rw [h6, hi]; exact c2
    have q2 : x5.toInt = l 3 := by rw [h7, hi]; exact c3
    have w := ado_tr (by omega) h9
    rw [q1, q2] at w
    exact zlA_t (adt_tr as_20 h5) w
theorem zw352 {l2_1 : Int32} {Code_blocks : Int32} {Code_lines : Int32} {Code_first : Nat → Int32} {Code_op : Nat → Int32} {Code_set : Nat → Int32} {Code_left : Nat → Int32} {Code_leftNumber : Nat → Int32} {Code_right : Nat → Int32} {Code_rightNumber : Nat → Int32} {Code_firstGoal : Nat → Int32} {Code_secondGoal : Nat → Int32} {s1 : Int32} {s2 : Int32} {s3 : Nat → Int32} {k : Nat} {e1 : Int32} {e2 : Nat → Int32} {c : Nat} (hP : rnP Q) (hcd : cdP Code_blocks Code_lines Code_first Code_firstGoal Code_secondGoal Code_op Code_set Code_left Code_leftNumber Code_right Code_rightNumber Q) (hb : l2_1.toInt = (c : Int)) (hcl : c < Q.1) (h : tl_Listing_write2_35 l2_1 Code_blocks Code_lines Code_first Code_op Code_set Code_left Code_leftNumber Code_right Code_rightNumber Code_firstGoal Code_secondGoal s1 s2 s3 k e1 e2) : ∀ j m : Nat, s1.toInt = ((fsm Q.2.1 c + j : Nat) : Int) → j + m = Q.2.1 c → zlA (zlK Q c j m) s2 s3 e1 e2 := by
  refine h (fun s1 s2 s3 _ e1 e2 => ∀ j m : Nat, s1.toInt = ((fsm Q.2.1 c + j : Nat) : Int) → j + m = Q.2.1 c → zlA (zlK Q c j m) s2 s3 e1 e2) ?_ ?_ ?_ ?_ ?_ ?_
  · intro l3_2 Listing_size_2 Listing_bytes_2 h1 h2 h3 h4
    intro j m hj hm
    have be := bE_tr2 hcd hb hcl h3
    have ef : fsm Q.2.1 (c + 1) = fsm Q.2.1 c + Q.2.1 c := rfl
    rw [ef] at be
    have e : m = 0 := by omega
    rw [e]
    exact zlA_0
  · intro l3_2 Listing_size_2 Listing_bytes_2 x1 x2 x3 x4 x5 x6 k e1 e2 h1 h2 h3 h4 h5 h6 h7 h8 h9 h10 h11 h12 ih
    intro j m hj hm
    have be := bE_tr2 hcd hb hcl h3
    have ef : fsm Q.2.1 (c + 1) = fsm Q.2.1 c + Q.2.1 c := rfl
    rw [ef] at be
    obtain ⟨m1, rfl⟩ : ∃ m1, m = m1 + 1 := ⟨m - 1, by omega⟩
    have hi : l3_2.toNatClampNeg = fsm Q.2.1 c + j := nnE hj
    have cl : cdL (fsm Q.2.1 c + j) (Q.2.2.1 c j) Code_op Code_set Code_left Code_leftNumber Code_right Code_rightNumber := hcd.2.2.2 c j hcl (by omega)
    have eo := cl.1
    rw [← hi, ← h5] at eo
    have w := adr_tr2 (l := Q.2.2.1 c j) hi cl (rn_r (j := j) hP hcl (by omega) (by omega)).2 h9
    have el : zlN (Q.2.2.2 c) (Q.2.2.1 c j) = zlR (Q.2.2.1 c j) ++ [10] := by unfold zlN; rw [if_pos (by omega)]
    show zlA (zlN (Q.2.2.2 c) (Q.2.2.1 c j) ++ zlK Q c (j + 1) m1) Listing_size_2 Listing_bytes_2 e1 e2
    rw [el]
    exact zlA_t (zlA_t w (zlA_1 (by decide) (by decide) h11)) (ih (j + 1) m1 (by omega) (by omega))
  · intro l3_2 Listing_size_2 Listing_bytes_2 x1 x2 x3 x4 x5 x6 k e1 e2 h1 h2 h3 h4 h5 h6 h7 h8 h9 h10 h11 h12 ih
    intro j m hj hm
    have be := bE_tr2 hcd hb hcl h3
    have ef : fsm Q.2.1 (c + 1) = fsm Q.2.1 c + Q.2.1 c := rfl
    rw [ef] at be
    obtain ⟨m1, rfl⟩ : ∃ m1, m = m1 + 1 := ⟨m - 1, by omega⟩
    have hi : l3_2.toNatClampNeg = fsm Q.2.1 c + j := nnE hj
    have cl : cdL (fsm Q.2.1 c + j) (Q.2.2.1 c j) Code_op Code_set Code_left Code_leftNumber Code_right Code_rightNumber := hcd.2.2.2 c j hcl (by omega)
    have eo := cl.1
    rw [← hi, ← h5] at eo
    have hg := hcd.2.2.1 c hcl
    obtain ⟨r1, r2⟩ := rn_e hP hcl (show j < Q.2.1 c by omega) (by omega)
    have w := ade_tr2 (l := Q.2.2.1 c j) (g := Q.2.2.2 c) hi (nnE hb) cl r1 r2 hg.2.1 hg.2.2 h9
    have el : zlN (Q.2.2.2 c) (Q.2.2.1 c j) = zlF (Q.2.2.2 c) (Q.2.2.1 c j) ++ [10] := by unfold zlN; rw [if_neg (by omega)]
    show zlA (zlN (Q.2.2.2 c) (Q.2.2.1 c j) ++ zlK Q c (j + 1) m1) Listing_size_2 Listing_bytes_2 e1 e2
    rw [el]
    exact zlA_t (zlA_t w (zlA_1 (by decide) (by decide) h11)) (ih (j + 1) m1 (by omega) (by omega))
  · intro l3_2 Listing_size_2 Listing_bytes_2 x1 h1 h2 h3 h4
    intro j m hj hm
    have be := bE_tr2 hcd hb hcl h3
    have ef : fsm Q.2.1 (c + 1) = fsm Q.2.1 c + Q.2.1 c := rfl
    rw [ef] at be
    have e : m = 0 := by omega
    rw [e]
    exact zlA_0
  · intro l3_2 Listing_size_2 Listing_bytes_2 x1 x2 x3 x4 x5 x6 x7 k e1 e2 h1 h2 h3 h4 h5 h6 h7 h8 h9 h10 h11 h12 ih
    intro j m hj hm
    have be := bE_tr2 hcd hb hcl h3
    have ef : fsm Q.2.1 (c + 1) = fsm Q.2.1 c + Q.2.1 c := rfl
    rw [ef] at be
    obtain ⟨m1, rfl⟩ : ∃ m1, m = m1 + 1 := ⟨m - 1, by omega⟩
    have hi : l3_2.toNatClampNeg = fsm Q.2.1 c + j := nnE hj
    have cl : cdL (fsm Q.2.1 c + j) (Q.2.2.1 c j) Code_op Code_set Code_left Code_leftNumber Code_right Code_rightNumber := hcd.2.2.2 c j hcl (by omega)
    have eo := cl.1
    rw [← hi, ← h5] at eo
    have w := adr_tr2 (l := Q.2.2.1 c j) hi cl (rn_r (j := j) hP hcl (by omega) (by omega)).2 h9
    have el : zlN (Q.2.2.2 c) (Q.2.2.1 c j) = zlR (Q.2.2.1 c j) ++ [10] := by unfold zlN; rw [if_pos (by omega)]
    show zlA (zlN (Q.2.2.2 c) (Q.2.2.1 c j) ++ zlK Q c (j + 1) m1) Listing_size_2 Listing_bytes_2 e1 e2
    rw [el]
    exact zlA_t (zlA_t w (zlA_1 (by decide) (by decide) h11)) (ih (j + 1) m1 (by omega) (by omega))
  · intro l3_2 Listing_size_2 Listing_bytes_2 x1 x2 x3 x4 x5 x6 x7 k e1 e2 h1 h2 h3 h4 h5 h6 h7 h8 h9 h10 h11 h12 ih
    intro j m hj hm
    have be := bE_tr2 hcd hb hcl h3
    have ef : fsm Q.2.1 (c + 1) = fsm Q.2.1 c + Q.2.1 c := rfl
    rw [ef] at be
    obtain ⟨m1, rfl⟩ : ∃ m1, m = m1 + 1 := ⟨m - 1, by omega⟩
    have hi : l3_2.toNatClampNeg = fsm Q.2.1 c + j := nnE hj
    have cl : cdL (fsm Q.2.1 c + j) (Q.2.2.1 c j) Code_op Code_set Code_left Code_leftNumber Code_right Code_rightNumber := hcd.2.2.2 c j hcl (by omega)
    have eo := cl.1
    rw [← hi, ← h5] at eo
    have hg := hcd.2.2.1 c hcl
    obtain ⟨r1, r2⟩ := rn_e hP hcl (show j < Q.2.1 c by omega) (by omega)
    have w := ade_tr2 (l := Q.2.2.1 c j) (g := Q.2.2.2 c) hi (nnE hb) cl r1 r2 hg.2.1 hg.2.2 h9
    have el : zlN (Q.2.2.2 c) (Q.2.2.1 c j) = zlF (Q.2.2.2 c) (Q.2.2.1 c j) ++ [10] := by unfold zlN; rw [if_neg (by omega)]
    show zlA (zlN (Q.2.2.2 c) (Q.2.2.1 c j) ++ zlK Q c (j + 1) m1) Listing_size_2 Listing_bytes_2 e1 e2
    rw [el]
    exact zlA_t (zlA_t w (zlA_1 (by decide) (by decide) h11)) (ih (j + 1) m1 (by omega) (by omega))
theorem zw72 {Code_blocks : Int32} {Code_first : Nat → Int32} {Code_lines : Int32} {Code_op : Nat → Int32} {Code_set : Nat → Int32} {Code_left : Nat → Int32} {Code_leftNumber : Nat → Int32} {Code_right : Nat → Int32} {Code_rightNumber : Nat → Int32} {Code_firstGoal : Nat → Int32} {Code_secondGoal : Nat → Int32} {s1 : Int32} {s2 : Int32} {s3 : Nat → Int32} {k : Nat} {e1 : Int32} {e2 : Nat → Int32} (hP : rnP Q) (hcd : cdP Code_blocks Code_lines Code_first Code_firstGoal Code_secondGoal Code_op Code_set Code_left Code_leftNumber Code_right Code_rightNumber Q) (h : tl_Listing_write2_7 Code_blocks Code_first Code_lines Code_op Code_set Code_left Code_leftNumber Code_right Code_rightNumber Code_firstGoal Code_secondGoal s1 s2 s3 k e1 e2) : ∀ c m : Nat, s1.toInt = (c : Int) → c + m = Q.1 → zlA (zlM Q c m) s2 s3 e1 e2 := by
  refine h (fun s1 s2 s3 _ e1 e2 => ∀ c m : Nat, s1.toInt = (c : Int) → c + m = Q.1 → zlA (zlM Q c m) s2 s3 e1 e2) ?_ ?_
  · intro l2_1 Listing_size_1 Listing_bytes_1 h1 h2 h3
    intro c m hc hm
    have e1 := hcd.1
    have e : m = 0 := by omega
    rw [e]
    exact zlA_0
  · intro l2_1 Listing_size_1 Listing_bytes_1 x1 x2 x3 x4 x5 x6 x7 x8 k e1 e2 h1 h2 h3 h4 h5 h6 h7 h8 h9 h10 h11 ih
    intro c m hc hm
    have e1 := hcd.1
    obtain ⟨m1, rfl⟩ : ∃ m1, m = m1 + 1 := ⟨m - 1, by omega⟩
    have hcl : c < Q.1 := by omega
    have w1 := adm_tr as_18 h5
    rw [hc] at w1
    have hx := h8
    rw [nnE hc] at hx
    have w3 := zw352 hP hcd hc hcl h10 0 (Q.2.1 c) (by rw [hx]; exact (hcd.2.2.1 c hcl).1) (Nat.zero_add _)
    rw [zlK_0] at w3
    exact zlA_t (zlA_t (zlA_t w1 (adt_tr as_19 h7)) w3) (ih (c + 1) m1 (by omega) (by omega))
theorem wr_tr2 {Code_blocks : Int32} {Code_lines : Int32} {Listing_bytes : Nat → Int32} {Code_first : Nat → Int32} {Code_firstGoal : Nat → Int32} {Code_secondGoal : Nat → Int32} {Code_op : Nat → Int32} {Code_set : Nat → Int32} {Code_left : Nat → Int32} {Code_leftNumber : Nat → Int32} {Code_right : Nat → Int32} {Code_rightNumber : Nat → Int32} {o1 : Int32} {o2 : Nat → Int32} (hP : rnP Q) (hcd : cdP Code_blocks Code_lines Code_first Code_firstGoal Code_secondGoal Code_op Code_set Code_left Code_leftNumber Code_right Code_rightNumber Q) (h : tr_Listing_write2 Code_blocks Code_lines Listing_bytes Code_first Code_firstGoal Code_secondGoal Code_op Code_set Code_left Code_leftNumber Code_right Code_rightNumber o1 o2) : (zlB Q Q.1).length ≤ 16384 → o1.toInt = ((zlB Q Q.1).length : Int) ∧ ∀ i, i < (zlB Q Q.1).length → o2 i = (zlB Q Q.1).getD i 0 := by
  refine h (fun o1 o2 => (zlB Q Q.1).length ≤ 16384 → o1.toInt = ((zlB Q Q.1).length : Int) ∧ ∀ i, i < (zlB Q Q.1).length → o2 i = (zlB Q Q.1).getD i 0) ?_
  · intro x1 x2 h1
    intro hl
    have w := zw72 hP hcd h1 0 Q.1 (by decide) (Nat.zero_add _)
    rw [zlM_0] at w
    obtain ⟨q1, -, q2⟩ := w 0 (by decide) (by omega)
    exact ⟨by omega, fun i hi => by have q := q2 i hi; rw [Nat.zero_add] at q; exact q⟩
/-- eight bytes from i on: how many are done -/
def w8 (f : Nat → Int32) (n i : Nat) : Nat → Int64
  | 0 => 0
  | j + 1 => w8 f n i j <<< ((8 : Int32).toInt64 &&& 63) ||| (if i + j < n then (f (i + j) &&& 255).toInt64 else 0)
theorem w8_c {f g : Nat → Int32} {n i : Nat} (h : ∀ j, j < n → f j = g j) : ∀ j, w8 f n i j = w8 g n i j
  | 0 => rfl
  | j + 1 => by
    show w8 f n i j <<< ((8 : Int32).toInt64 &&& 63) ||| (if i + j < n then (f (i + j) &&& 255).toInt64 else 0) = w8 g n i j <<< ((8 : Int32).toInt64 &&& 63) ||| (if i + j < n then (g (i + j) &&& 255).toInt64 else 0)
    rw [w8_c h j]
    by_cases c : i + j < n
    · rw [if_pos c, if_pos c, h _ c]
    · rw [if_neg c, if_neg c]
theorem e8_l {a1 : Int32} {Listing_size : Int32} {Listing_bytes : Nat → Int32} {s1 : Int32} {s2 : Int64} {k : Nat} {e1 : Int64} (h : tl_Listing_eightFrom_5 a1 Listing_size Listing_bytes s1 s2 k e1) : ∀ i j n : Nat, a1.toInt = (i : Int) → Listing_size.toInt = (n : Int) → n ≤ 16384 → i < n → j ≤ 8 → s1.toInt = ((i + j : Nat) : Int) → s2 = w8 Listing_bytes n i j → e1 = w8 Listing_bytes n i 8 := by
  refine h (fun s1 s2 _ e1 => ∀ i j n : Nat, a1.toInt = (i : Int) → Listing_size.toInt = (n : Int) → n ≤ 16384 → i < n → j ≤ 8 → s1.toInt = ((i + j : Nat) : Int) → s2 = w8 Listing_bytes n i j → e1 = w8 Listing_bytes n i 8) ?_ ?_ ?_ ?_
  · intro l4_1 l2_1 x1 h1 h2
    intro i j n hi hn hN hin hj hs hw
    have q1 := px_add h1 (by rw [px_8]; omega) (by rw [px_8]; omega)
    rw [px_8] at q1
    have e : j = 8 := by omega
    rw [e] at hw
    exact hw
  · intro l4_1 l2_1 x1 x2 x3 x4 x5 k e1 h1 h2 h3 h4 h5 h6 h7 ih
    intro i j n hi hn hN hin hj hs hw
    have q1 := px_add h1 (by rw [px_8]; omega) (by rw [px_8]; omega)
    rw [px_8] at q1
    have w := h4
    omega
  · intro l4_1 l2_1 x1 x2 x3 x4 x5 k e1 h1 h2 h3 h4 h5 h6 h7 h8 ih
    intro i j n hi hn hN hin hj hs hw
    have q1 := px_add h1 (by rw [px_8]; omega) (by rw [px_8]; omega)
    rw [px_8] at q1
    refine ih i (j + 1) n hi hn hN hin (by omega) (by omega) ?_
    show _ = w8 Listing_bytes n i j <<< ((8 : Int32).toInt64 &&& 63) ||| (if i + j < n then (Listing_bytes (i + j) &&& 255).toInt64 else 0)
    rw [if_neg (by omega), h7, h3, hw, h6]; rfl
  · intro l4_1 l2_1 x1 x2 x3 x4 x5 x6 x7 k e1 h1 h2 h3 h4 h5 h6 h7 h8 h9 h10 h11 ih
    intro i j n hi hn hN hin hj hs hw
    have q1 := px_add h1 (by rw [px_8]; omega) (by rw [px_8]; omega)
    rw [px_8] at q1
    refine ih i (j + 1) n hi hn hN hin (by omega) (by omega) ?_
    show _ = w8 Listing_bytes n i j <<< ((8 : Int32).toInt64 &&& 63) ||| (if i + j < n then (Listing_bytes (i + j) &&& 255).toInt64 else 0)
    rw [if_pos (by omega), h10, h3, hw, h9, h8, h6, nnE hs]
theorem e8_tr {x : Int32} {z : Int64} {i n : Nat} (hx : x.toInt = (i : Int)) (hn : s.toInt = (n : Int)) (hN : n ≤ 16384) (hin : i < n) (h : tr_Listing_eightFrom x s f z) : z = w8 f n i 8 := by
  refine h (fun z => z = w8 f n i 8) ?_
  · intro x1 h1
    exact e8_l h1 i 0 n hx hn hN hin (by decide) hx rfl
end LSC
