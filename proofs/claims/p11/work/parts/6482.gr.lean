/-- a line that sets v behind which u is alive, a copy of u apart -/
def jdA (P : gPg) (sl : Bool) (Nm b j v u : Nat) : Prop := v < Nm ∧ u < Nm ∧ seR sl (P.2.2.1 b j) v ∧ Lv P sl u b (j + 1) ∧ u ≠ v ∧ ¬ (sl = false ∧ P.2.2.1 b j 0 = 14 ∧ P.2.2.1 b j 2 = (u : Int))
def Jn (P : gPg) (sl : Bool) (Nm v u : Nat) : Prop := ∃ b j, b < P.1 ∧ j < P.2.1 b ∧ (jdA P sl Nm b j v u ∨ jdA P sl Nm b j u v)
def Sd (P : gPg) (sl : Bool) (Nm v : Nat) : Prop := v < Nm ∧ ∃ b j, b < P.1 ∧ j < P.2.1 b ∧ (usR sl (P.2.2.1 b j) v ∨ seR sl (P.2.2.1 b j) v)
theorem Sd_iff {P : gPg} {sl : Bool} {Nm v : Nat} : Sd P sl Nm v ↔ v < Nm ∧ ∃ b, b < P.1 ∧ (usd P sl v b ∨ std P sl v b) := by
  constructor
  · rintro ⟨h0, b, j, h1, h2, h3⟩
    refine ⟨h0, b, h1, ?_⟩
    by_cases c : std P sl v b
    · exact Or.inr c
    · rcases h3 with h3 | h3
      · exact Or.inl ⟨j, h2, h3, fun k hk hs => c ⟨k, by omega, hs⟩⟩
      · exact Or.inr ⟨j, h2, h3⟩
  · rintro ⟨h0, b, h1, ⟨j, h2, h3, _⟩ | ⟨j, h2, h3⟩⟩
    · exact ⟨h0, b, j, h1, h2, Or.inl h3⟩
    · exact ⟨h0, b, j, h1, h2, Or.inr h3⟩
/-- bits counted, word by word -/
def bsm (f : Nat → Int64) (a : Nat) : Nat → Int
  | 0 => 0
  | w + 1 => bsm f a w + (lb_bc (f (a + w))).toInt
def isD (Q : Nat → Prop) (W : Nat) (d : Int) : Prop := ∃ (f : Nat → Int64) (a : Nat), (∀ v, v < 64 * W → (gbit f (64 * a + v) = true ↔ Q v)) ∧ d = bsm f a W
theorem bsm_c {f g : Nat → Int64} {a c : Nat} : ∀ {W : Nat}, (∀ w, w < W → f (a + w) = g (c + w)) → bsm f a W = bsm g c W
  | 0, _ => rfl
  | W + 1, h => by
    show bsm f a W + (lb_bc (f (a + W))).toInt = bsm g c W + (lb_bc (g (c + W))).toInt
    rw [bsm_c (fun w hw => h w (by omega)), h W (Nat.lt_succ_self W)]
theorem bsm_z {f : Nat → Int64} {a W : Nat} : ∀ {k : Nat}, (∀ w, W ≤ w → w < W + k → f (a + w) = 0) → bsm f a (W + k) = bsm f a W
  | 0, _ => rfl
  | k + 1, h => by
    show bsm f a (W + k) + (lb_bc (f (a + (W + k)))).toInt = bsm f a W
    rw [bsm_z (fun w h1 h2 => h w h1 (by omega)), h (W + k) (by omega) (by omega)]
    have z : (lb_bc 0).toInt = 0 := by decide
    rw [z, Int.add_zero]
theorem wd_eq {f g : Nat → Int64} {a c w : Nat} (h : ∀ v, v / 64 = w → gbit f (64 * a + v) = gbit g (64 * c + v)) : f (a + w) = g (c + w) := by
  refine bit_eq (fun n hn => ?_)
  have q := h (64 * w + n) (by omega)
  unfold gbit at q
  rw [show (64 * a + (64 * w + n)) / 64 = a + w by omega, show (64 * c + (64 * w + n)) / 64 = c + w by omega, show (64 * a + (64 * w + n)) % 64 = n by omega, show (64 * c + (64 * w + n)) % 64 = n by omega] at q
  exact q
theorem isD_u {Q : Nat → Prop} {W V : Nat} {d e : Int} (h : isD Q W d) (h2 : isD Q V e) (hW : W ≤ V) (hQ : ∀ v, 64 * W ≤ v → ¬ Q v) : d = e := by
  obtain ⟨f, a, f1, f2⟩ := h
  obtain ⟨g, c, g1, g2⟩ := h2
  have e1 : V = W + (V - W) := by omega
  have z : ∀ w, W ≤ w → w < W + (V - W) → g (c + w) = 0 := fun w hw hv => by
    refine bit_eq (fun n hn => ?_)
    have q := g1 (64 * w + n) (by omega)
    unfold gbit at q
    rw [show (64 * c + (64 * w + n)) / 64 = c + w by omega, show (64 * c + (64 * w + n)) % 64 = n by omega] at q
    have n0 : (g (c + w)).toBitVec.getLsbD n = false := Bool.eq_false_iff.mpr (fun y => hQ _ (by omega) (q.mp y))
    rw [n0]; simp
  rw [f2, g2, e1, bsm_z z]
  refine bsm_c (fun w hw => wd_eq (fun v hv => ?_))
  rw [Bool.eq_iff_iff, f1 v (by omega), g1 v (by omega)]
section GR
variable {P : gPg} {sl : Bool} {W Nm : Nat}
/-- lowest bits -/
theorem bit_neg1 {x y z : Int64} (hy : y = x - 1) (hz : z = x &&& y) {j : Nat} (hj : j < 64) (h1 : x.toBitVec.getLsbD j = true) (h2 : ∀ i, i < j → x.toBitVec.getLsbD i = false) (n : Nat) (hn : n < 64) : z.toBitVec.getLsbD n = (x.toBitVec.getLsbD n && decide (n ≠ j)) := by
  have e1 : y.toBitVec = ~~~(-x.toBitVec) := by
    have q := BitVec.neg_eq_not_add (-x.toBitVec)
    rw [BitVec.neg_neg] at q
    have e : y.toBitVec = x.toBitVec - 1#64 := by rw [hy]; rfl
    rw [e]
    conv => lhs; rw [q]
    exact BitVec.add_sub_cancel _ _
  have e2 := lb_andneg h1 h2
  have e3 : (x.toBitVec &&& -x.toBitVec).getLsbD n = decide (n = j) := by
    rw [e2, BitVec.getLsbD_twoPow]
    by_cases c : n = j
    · rw [c]; simp [hj]
    · simp [c, Ne.symm c]
  rw [BitVec.getLsbD_and] at e3
  rw [hz, Int64.toBitVec_and, BitVec.getLsbD_and, e1, BitVec.getLsbD_not, decide_eq_true hn, Bool.true_and]
  cases hx : x.toBitVec.getLsbD n with
  | false => simp
  | true =>
    rw [hx, Bool.true_and] at e3
    rw [e3, Bool.true_and, Bool.true_and]
    by_cases c : n = j
    · simp [c]
    · simp [c]
theorem low_le {x : Int64} {z : Int32} (hx : ¬ x = 0) (hz : z = lb_bc ((x &&& (-x)) - 1)) : ∃ j : Nat, j < 64 ∧ z.toInt = (j : Int) ∧ x.toBitVec.getLsbD j = true ∧ ∀ i, i < j → x.toBitVec.getLsbD i = false := by
  have hx' : x.toBitVec ≠ 0#64 := fun e => hx (Int64.toBitVec_inj.mp e)
  obtain ⟨j, h1, h2, h3⟩ := lb_least hx'
  refine ⟨j, h1, ?_, h2, h3⟩
  have e : x &&& (-x) = Int64.ofNat (2 ^ j) := by
    apply Int64.toBitVec_inj.mp
    rw [Int64.toBitVec_and, Int64.toBitVec_neg, lb_andneg h2 h3]
    show BitVec.twoPow 64 j = BitVec.ofNat 64 (2 ^ j)
    apply BitVec.eq_of_toNat_eq
    rw [BitVec.toNat_twoPow, BitVec.toNat_ofNat]
  rw [hz, e]
  exact lb_bcT ⟨j, h1⟩
/-- symmetric rows -/
def symB (Nm W : Nat) (f : Nat → Int64) : Prop := ∀ x y, x < Nm → y < Nm → gbit f (64 * (x * W) + y) = gbit f (64 * (y * W) + x)
/-- q is one of the two bits of v and u -/
def bth (W v u q : Nat) : Prop := q = 64 * (v * W) + u ∨ q = 64 * (u * W) + v
theorem bth_s {v u x y : Nat} (hv : v < 64 * W) (hu : u < 64 * W) (hx : x < 64 * W) (hy : y < 64 * W) : bth W v u (64 * (x * W) + y) ↔ (x = v ∧ y = u) ∨ (x = u ∧ y = v) := by
  constructor
  · rintro (h | h)
    · exact Or.inl (reg_u h hy hu)
    · exact Or.inr (reg_u h hy hv)
  · rintro (⟨h1, h2⟩ | ⟨h1, h2⟩)
    · rw [h1, h2]; exact Or.inl rfl
    · rw [h1, h2]; exact Or.inr rfl
theorem sym_st {f g : Nat → Int64} {v : Nat} {Q : Nat → Prop} (hN : Nm ≤ 64 * W) (hs : symB Nm W f) (hv : v < 64 * W) (hQ : ∀ u, Q u → u < 64 * W) (h : ∀ q, gbit g q = true ↔ gbit f q = true ∨ ∃ u, Q u ∧ bth W v u q) : symB Nm W g := fun x y hx hy => by
  have hx' : x < 64 * W := by omega
  have hy' : y < 64 * W := by omega
  rw [Bool.eq_iff_iff, h, h, hs x y hx hy]
  constructor
  · rintro (z | ⟨u, z1, z2⟩)
    · exact Or.inl z
    · refine Or.inr ⟨u, z1, (bth_s hv (hQ u z1) hy' hx').mpr ?_⟩
      rcases (bth_s hv (hQ u z1) hx' hy').mp z2 with z | z
      · exact Or.inr ⟨z.2, z.1⟩
      · exact Or.inl ⟨z.2, z.1⟩
  · rintro (z | ⟨u, z1, z2⟩)
    · exact Or.inl z
    · refine Or.inr ⟨u, z1, (bth_s hv (hQ u z1) hx' hy').mpr ?_⟩
      rcases (bth_s hv (hQ u z1) hy' hx').mp z2 with z | z
      · exact Or.inr ⟨z.2, z.1⟩
      · exact Or.inl ⟨z.2, z.1⟩
end GR
