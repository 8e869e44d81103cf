/-! the rows of a valid program by their places (a block's end stands behind its last row); names -/
/-- an implication that omega doesn't see -/
def gIp (A Q : Prop) : Prop := A → Q
def rwL (γ el : Nat → Nat → Nat) (c i : Nat) : Nat := γ 14 (el (γ 14 c) i)
def rAt (γ el : Nat → Nat → Nat) (c i j : Nat) : Nat := if j < γ 2 (rwL γ el c i) then el (rwL γ el c i) j else γ 15 (el (γ 14 c) i)
def rPl (γ el : Nat → Nat → Nat) (F : Nat → va_E) (c n : Nat) (R : Nat → Nat → va_E → Prop) : Prop := ∀ i, i < n → ∀ j, j ≤ γ 2 (rwL γ el c i) → R i j (F (rAt γ el c i j))
def nmV (op t a b ra rb : Int) (n : Nat) : Prop := (op ≤ 21 ∧ n = t.toNat) ∨ ((op ≠ 20 ∧ op ≠ 21 ∧ op ≠ 30 ∧ ra = 1) ∧ n = a.toNat) ∨ ((0 < op ∧ op < 20 ∧ rb = 1) ∧ n = b.toNat)
/-- n is a name that the row uses or sets -/
def nmS (e : va_E) (n : Nat) : Prop := nmV (fI e 0).toInt (fI e 1).toInt (fI e 2).toInt (fI e 3).toInt (fI e 5).toInt (fI e 6).toInt n
theorem nmS_of {F : Nat → va_E} {x cc : Nat} {op t a b s ra rb : Int32} (h : F x = .inr (cc, [.int op, .int t, .int a, .int b, .int s, .int ra, .int rb])) : nmS (F x) = nmV op.toInt t.toInt a.toInt b.toInt ra.toInt rb.toInt := by
  rw [h]
  rfl
def rNm (N : Nat → Prop) (e : va_E) : Prop := ∀ n, nmS e n → N n
theorem rNm_mono {N N2 : Nat → Prop} {e : va_E} (h : ∀ n, N n → N2 n) (z : rNm N e) : rNm N2 e := fun n q => h n (z n q)
def cB (e : va_E) : Nat → Int32 := match e with
  | .inl (_, _, .inl f) => f
  | _ => fun _ => 0
theorem cB_of {F : Nat → va_E} {a n : Nat} {c : ClassId} {f : Nat → Int32} (h : F a = .inl (c, n, .inl f)) : cB (F a) = f := by rw [h]; rfl
/-- register n stands -/
def rSd (g : Nat → Int32) (n : Nat) : Prop := n < 2000 ∧ (g n).toInt = 1
theorem sd_u {f f2 : Nat → Int32} {k : Int32} (h : f2 = upd f k.toNatClampNeg (vp_nar .boolean 1)) (h0 : 0 ≤ k.toInt) (h1 : k.toInt < 2000) (n : Nat) : rSd f2 n ↔ (rSd f n ∨ n = k.toInt.toNat) := by
  have hk : k.toNatClampNeg = k.toInt.toNat := rfl
  have hv : (vp_nar .boolean 1).toInt = 1 := by decide
  subst h
  unfold rSd upd
  rw [hk]
  by_cases e : n = k.toInt.toNat
  · rw [if_pos e, hv]
    exact ⟨fun _ => Or.inr e, fun _ => ⟨by omega, rfl⟩⟩
  · rw [if_neg e]
    exact ⟨fun z => Or.inl z, fun z => z.resolve_right e⟩
theorem sd_z {f f2 : Nat → Int32} {k : Int32} (h : f2 = upd f k.toNatClampNeg (vp_nar .boolean 0)) (h0 : 0 ≤ k.toInt) (hz : ∀ n : Nat, (n : Int) < k.toInt → ¬ rSd f n) (n : Nat) (hn : (n : Int) < k.toInt + 1) : ¬ rSd f2 n := by
  have hk : k.toNatClampNeg = k.toInt.toNat := rfl
  have hv : (vp_nar .boolean 0).toInt = 0 := by decide
  subst h
  intro z
  unfold rSd upd at z
  rw [hk] at z
  by_cases e : n = k.toInt.toNat
  · rw [if_pos e, hv] at z
    omega
  · rw [if_neg e] at z
    exact hz n (by omega) z
theorem nm_fin {g g2 : Nat → Int32} {op t a b ra rb : Int} {n : Nat} (us ua ub : Bool) (hs : decide (op ≤ 21) = us) (ha : decide (op ≠ 20 ∧ op ≠ 21 ∧ op ≠ 30 ∧ ra = 1) = ua) (hb : decide (0 < op ∧ op < 20 ∧ rb = 1) = ub) (hx : rSd g2 n ↔ (((rSd g n ∨ (us = true ∧ n = t.toNat)) ∨ (ua = true ∧ n = a.toNat)) ∨ (ub = true ∧ n = b.toNat))) : rSd g2 n ↔ (rSd g n ∨ nmV op t a b ra rb n) := by
  subst hs ha hb
  rw [hx]
  unfold nmV
  simp only [decide_eq_true_eq]
  rw [or_assoc, or_assoc]
/-- stands are the names of the places v, and no others than names -/
def rGr (γ el : Nat → Nat → Nat) (F : Nat → va_E) (c n : Nat) (g : Nat → Int32) (v : Nat → Nat → Prop) : Prop := (∀ i, i < n → ∀ j, j ≤ γ 2 (rwL γ el c i) → v i j → rNm (rSd g) (F (rAt γ el c i j))) ∧ ∀ m, rSd g m → ∃ i j, i < n ∧ j ≤ γ 2 (rwL γ el c i) ∧ nmS (F (rAt γ el c i j)) m
def vA (b : Nat) : Nat → Nat → Prop := fun i _ => i < b
def vB (b s : Nat) : Nat → Nat → Prop := fun i j => i < b ∨ (i = b ∧ s ≤ j)
section RGR
variable {γ el : Nat → Nat → Nat} {F : Nat → va_E} {c n b s x : Nat} {g g2 : Nat → Int32} {v v2 : Nat → Nat → Prop}
theorem gq_0 (h : ∀ m : Nat, (m : Int) < 2000 → ¬ rSd g m) : rGr γ el F c n g (vA 0) := ⟨fun i hi j hj z => absurd z (Nat.not_lt_zero _), fun m hm => absurd hm (h m (by have := hm.1; omega))⟩
theorem gq_w (h : rGr γ el F c n g v) (hv : ∀ i j, i < n → j ≤ γ 2 (rwL γ el c i) → v2 i j → v i j) : rGr γ el F c n g v2 := ⟨fun i hi j hj z => h.1 i hi j hj (hv i j hi hj z), h.2⟩
theorem gq_st (h : rGr γ el F c n g v) (hs : ∀ m, rSd g2 m ↔ (rSd g m ∨ nmS (F x) m)) (hx : rAt γ el c b s = x) (hb : b < n) (hj : s ≤ γ 2 (rwL γ el c b)) (hv : ∀ i j, i < n → j ≤ γ 2 (rwL γ el c i) → v2 i j → v i j ∨ (i = b ∧ j = s)) : rGr γ el F c n g2 v2 := by
  refine ⟨fun i hi j hj2 z => ?_, fun m hm => ?_⟩
  · rcases hv i j hi hj2 z with q | ⟨rfl, rfl⟩
    · exact rNm_mono (fun m hm => (hs m).2 (Or.inl hm)) (h.1 i hi j hj2 q)
    · rw [hx]
      exact fun m hm => (hs m).2 (Or.inr hm)
  · rcases (hs m).1 hm with q | q
    · exact h.2 m q
    · exact ⟨b, s, hb, hj, by rw [hx]; exact q⟩
theorem gq_end (h : rGr γ el F c n g (vA b)) (hs : ∀ m, rSd g2 m ↔ (rSd g m ∨ nmS (F x) m)) (hx : rAt γ el c b s = x) (hb : b < n) (hj : γ 2 (rwL γ el c b) = s) : rGr γ el F c n g2 (vB b s) :=
  gq_st h hs hx hb (by omega) (fun i j hi hj2 z => by
    rcases z with q | ⟨q, q2⟩
    · exact Or.inl q
    · subst q
      exact Or.inr ⟨rfl, by omega⟩)
theorem gq_row {s1 : Nat} (h : rGr γ el F c n g (vB b s1)) (hs : ∀ m, rSd g2 m ↔ (rSd g m ∨ nmS (F x) m)) (hx : rAt γ el c b s = x) (hb : b < n) (hj : s ≤ γ 2 (rwL γ el c b)) (h1 : s1 = s + 1) : rGr γ el F c n g2 (vB b s) :=
  gq_st h hs hx hb hj (fun i j hi hj2 z => by
    rcases z with q | ⟨q, q2⟩
    · exact Or.inl (Or.inl q)
    · by_cases e : j = s
      · exact Or.inr ⟨q, e⟩
      · exact Or.inl (Or.inr ⟨q, by omega⟩))
theorem gq_nx {b1 : Nat} (h : rGr γ el F c n g (vB b s)) (h0 : s = 0) (h1 : b1 = b + 1) : rGr γ el F c n g (vA b1) := gq_w h (fun i j _ _ (z : i < b1) => show i < b ∨ (i = b ∧ s ≤ j) by omega)
theorem gq_al (h : rGr γ el F c n g (vA b)) (h1 : n ≤ b) : rGr γ el F c n g (vA n) := gq_w h (fun i j hi _ _ => show i < b by omega)
end RGR
section RPL
variable {D : va_G} {I : FieldType → ClassId} {P P1 : List Nat} {F F1 : Nat → va_E} {γ el γ1 el1 : Nat → Nat → Nat} {f c i j i0 j0 a k x lst dc ds : Nat} {R R' : Nat → Nat → va_E → Prop} {K KF : List Nat}
theorem rBk_at (hT : RS D I P F γ el) (hc : γ 0 c = 9) (hcf : γ 1 c = f) (hi : i < γ 6 f) :
    i < γ 2 (γ 14 c) ∧ γ 0 (el (γ 14 c) i) = 2 ∧ γ 8 (el (γ 14 c) i) = i ∧ γ 0 (rwL γ el c i) = 3 ∧ γ 20 (rwL γ el c i) = el (γ 14 c) i ∧ γ 1 (rwL γ el c i) = f ∧
    γ 0 (γ 15 (el (γ 14 c) i)) = 1 ∧ γ 1 (γ 15 (el (γ 14 c) i)) = f ∧ γ 4 (γ 15 (el (γ 14 c) i)) = el (γ 14 c) i ∧ γ 22 (γ 15 (el (γ 14 c) i)) = 1 ∧
    ∀ j, j < γ 2 (rwL γ el c i) → γ 0 (el (rwL γ el c i) j) = 1 ∧ γ 1 (el (rwL γ el c i) j) = f ∧ γ 4 (el (rwL γ el c i) j) = rwL γ el c i ∧ γ 5 (el (rwL γ el c i) j) = j ∧ γ 22 (el (rwL γ el c i) j) = 0 := by
  obtain ⟨v1, v2, v3, v4, v5⟩ := RS_valid hT hc hcf (by omega)
  obtain ⟨a21, a4, a41, a5, a51⟩ := rc_at hT hc hcf
  have k2 := v4 i hi
  obtain ⟨-, q1, q8⟩ := (show rk_4 D I γ el F (γ 14 c) from RS_o hT a4).2 i (by omega)
  obtain ⟨l, n, p, s, w1, ⟨g1, g2, g3⟩, w3, w4, w5, w6, ⟨w7, w8⟩, -⟩ := show rk_2 γ _ (F _) from RS_o hT k2
  have hl : rwL γ el c i = l := g1
  have e3 : γ 0 l = 3 := w3
  have e4 : γ 1 l = γ 1 (el (γ 14 c) i) := w4
  have e5 : γ 0 n = 1 := w5
  have e6 : γ 1 n = γ 1 (el (γ 14 c) i) := w6
  have h3 := (show rk_3 D I γ el F l from RS_o hT e3).2
  rw [hl, g2]
  refine ⟨by omega, k2, q8, e3, g3, by omega, e5, by omega, w7, w8, fun j hj => ?_⟩
  obtain ⟨r1, r2, r3, r4, r5⟩ := h3 j hj
  exact ⟨r1, by omega, r3, r4, r5⟩
theorem rAt_r (hb : el (γ 14 c) i = x) (hl : γ 14 x = lst) (hj : j < γ 2 lst) : rAt γ el c i j = el lst j := by
  unfold rAt rwL
  rw [hb, hl, if_pos hj]
theorem rAt_e (hb : el (γ 14 c) i = x) (hl : γ 14 x = lst) (hj : γ 2 lst ≤ j) : rAt γ el c i j = γ 15 x := by
  unfold rAt rwL
  rw [hb, hl, if_neg (by omega)]
theorem rAt_k (hT : RS D I P F γ el) (hc : γ 0 c = 9) (hcf : γ 1 c = f) (hi : i < γ 6 f) : γ 0 (rAt γ el c i j) = 1 ∧ γ 1 (rAt γ el c i j) = f := by
  obtain ⟨-, -, -, -, -, -, q7, q8, -, -, q11⟩ := rBk_at hT hc hcf hi
  unfold rAt
  split
  · rename_i h
    exact ⟨(q11 j h).1, (q11 j h).2.1⟩
  · exact ⟨q7, q8⟩
theorem rAt_inj {i' j' : Nat} (hT : RS D I P F γ el) (hc : γ 0 c = 9) (hcf : γ 1 c = f) (hi : i < γ 6 f) (hi' : i' < γ 6 f) (hj : j ≤ γ 2 (rwL γ el c i)) (hj' : j' ≤ γ 2 (rwL γ el c i')) (h : rAt γ el c i j = rAt γ el c i' j') : i = i' ∧ j = j' := by
  obtain ⟨-, -, a3, -, a5, -, -, -, a9, a10, a11⟩ := rBk_at hT hc hcf hi
  obtain ⟨-, -, b3, -, b5, -, -, -, b9, b10, b11⟩ := rBk_at hT hc hcf hi'
  unfold rAt at h
  by_cases q : j < γ 2 (rwL γ el c i)
  · obtain ⟨-, -, c3, c4, c5⟩ := a11 j q
    rw [if_pos q] at h
    by_cases q' : j' < γ 2 (rwL γ el c i')
    · obtain ⟨-, -, d3, d4, d5⟩ := b11 j' q'
      rw [if_pos q'] at h
      rw [h] at c3 c4
      have e : rwL γ el c i = rwL γ el c i' := c3.symm.trans d3
      rw [e, b5] at a5
      rw [← a5, b3] at a3
      exact ⟨a3.symm, c4.symm.trans d4⟩
    · rw [if_neg q'] at h
      rw [h, b10] at c5
      omega
  · rw [if_neg q] at h
    by_cases q' : j' < γ 2 (rwL γ el c i')
    · obtain ⟨-, -, d3, d4, d5⟩ := b11 j' q'
      rw [if_pos q'] at h
      rw [← h, a10] at d5
      omega
    · rw [if_neg q'] at h
      rw [h, b9] at a9
      rw [← a9, b3] at a3
      subst a3
      exact ⟨rfl, by omega⟩
theorem rPl_mono {n : Nat} (h : rPl γ el F c n R) (hR : ∀ i j e, i < n → j ≤ γ 2 (rwL γ el c i) → R i j e → R' i j e) : rPl γ el F c n R' := fun i hi j hj => hR i j _ hi hj (h i hi j hj)
theorem rPl_fr (hT : RS D I P F γ el) (hc : γ 0 c = 9) (hcf : γ 1 c = f) (h : rPl γ el F c (γ 6 f) R) (hF : ∀ a, γ 0 a = 1 → γ 1 a = f → F1 a = F a) : rPl γ el F1 c (γ 6 f) R := fun i hi j hj => by
  obtain ⟨k1, k2⟩ := rAt_k (j := j) hT hc hcf hi
  rw [hF _ k1 k2]
  exact h i hi j hj
theorem rPl_put (hT : RS D I P F γ el) (hc : γ 0 c = 9) (hcf : γ 1 c = f) (h : rPl γ el F c (γ 6 f) R) (n : ∀ b, b ≠ a → F1 b = F b) (ha : rAt γ el c i0 j0 = a) (hi0 : i0 < γ 6 f) (hj0 : j0 ≤ γ 2 (rwL γ el c i0)) (hR : ∀ i j e, (i ≠ i0 ∨ j ≠ j0) → R i j e → R' i j e) (h0 : R' i0 j0 (F1 a)) : rPl γ el F1 c (γ 6 f) R' := fun i hi j hj => by
  by_cases e : i = i0 ∧ j = j0
  · obtain ⟨rfl, rfl⟩ := e
    rw [ha]
    exact h0
  · have e2 : i ≠ i0 ∨ j ≠ j0 := by omega
    rw [n _ (fun q => e (rAt_inj hT hc hcf hi hi0 hj hj0 (q.trans ha.symm)))]
    exact hR i j _ e2 (h i hi j hj)
theorem rPl_st (hT : RS D I P F γ el) (hc : γ 0 c = 9) (hcf : γ 1 c = f) (hk : rSk f K KF D I P F γ el P1 F1 γ1 el1) (h1 : 1 ∉ KF) (hot : ∀ a, γ 0 a = 3 ∨ γ 0 a = 4 → γ1 2 a = γ 2 a ∧ el1 a = el a) (h6 : γ1 6 f = γ 6 f) (h : rPl γ el F c (γ 6 f) R) : rPl γ1 el1 F1 c (γ1 6 f) R := fun i hi j hj => by
  rw [h6] at hi
  obtain ⟨b1, b2, b3, b4, b5, b6, b7, b8, b9, b10, b11⟩ := rBk_at hT hc hcf hi
  obtain ⟨a21, a4, a41, a5, a51⟩ := rc_at hT hc hcf
  have s1 := (rSk_s hk (show rKd γ c 9 from hc) (by decide)).2.1
  obtain ⟨-, s2⟩ := hot _ (Or.inr a4)
  have s3 := rSk_s hk (show rKd γ (el (γ 14 c) i) 2 from b2) (by decide)
  have el_ : rwL γ1 el1 c i = rwL γ el c i := by unfold rwL; rw [s1, s2, s3.2.1]
  obtain ⟨l1, l2⟩ := hot _ (Or.inl b4)
  have ea : rAt γ1 el1 c i j = rAt γ el c i j := by unfold rAt; rw [el_, l1, l2, s1, s2, s3.2.2.1]
  rw [el_, l1] at hj
  rw [ea, rSk_F hk (show rKd γ (rAt γ el c i j) 1 from (rAt_k hT hc hcf hi).1) (by decide) h1]
  exact h i hi j hj
theorem rPl_row (hT : RS D I P F γ el) (hc : γ 0 c = 9) (hcf : γ 1 c = f) (hq : rRq D I P F γ el f c P1 F1 γ1 el1 x dc ds) (h : rPl γ el F c (γ 6 f) R) : rPl γ1 el1 F1 c (γ1 6 f) R := by
  obtain ⟨q1, -, -, -, -, -, -, q8, q9, -⟩ := hq
  exact rPl_st hT hc hcf (rSk_of q1) (by decide) (fun a ha => q9 a (by omega) (by omega)) q8.1 h
theorem rPl_ins (hT : RS D I P F γ el) (hc : γ 0 c = 9) (hcf : γ 1 c = f) (hq : rIq D I P F γ el f lst k x P1 F1 γ1 el1 dc ds) (hl : γ 14 (el (γ 14 c) i0) = lst) (hi0 : i0 < γ 6 f) (hk : k ≤ γ 2 lst) (h : rPl γ el F c (γ 6 f) R) (h1 : ∀ i j e, i ≠ i0 → R i j e → R' i j e) (h2 : ∀ j e, j < k → R i0 j e → R' i0 j e) (h3 : R' i0 k (F x)) (h4 : ∀ j e, k ≤ j → R i0 j e → R' i0 (j + 1) e) : rPl γ1 el1 F1 c (γ1 6 f) R' := by
  obtain ⟨q1, q2, q3, q4, q5, -, -, q8, q9, -⟩ := hq
  have hs := rSk_of q1
  intro i hi j hj
  rw [q8.1] at hi
  obtain ⟨b1, b2, b3, b4, b5, b6, b7, b8, b9, b10, b11⟩ := rBk_at hT hc hcf hi
  obtain ⟨c1, c2, c3, c4, c5, c6, c7, c8, c9, c10, c11⟩ := rBk_at hT hc hcf hi0
  obtain ⟨a21, a4, a41, a5, a51⟩ := rc_at hT hc hcf
  have hl' : rwL γ el c i0 = lst := hl
  rw [hl'] at c4 c5 c6 c11
  have s1 := (rSk_s hs (show rKd γ c 9 from hc) (by decide)).2.1
  obtain ⟨-, s2⟩ := q5 (γ 14 c) (by omega) (fun e => by rw [e] at a4; omega)
  have s3 := rSk_s hs (show rKd γ (el (γ 14 c) i) 2 from b2) (by decide)
  have el_ : rwL γ1 el1 c i = rwL γ el c i := by unfold rwL; rw [s1, s2, s3.2.1]
  have e15 : γ1 15 (el1 (γ1 14 c) i) = γ 15 (el (γ 14 c) i) := by rw [s1, s2, s3.2.2.1]
  have F1r : ∀ j, F1 (rAt γ el c i j) = F (rAt γ el c i j) := fun j => rSk_F hs (show rKd γ _ 1 from (rAt_k hT hc hcf hi).1) (by decide) (by decide)
  rw [el_] at hj
  by_cases ei : i = i0
  · subst ei
    rw [hl', q3] at hj
    have hF := F1r
    unfold rAt at hF ⊢
    rw [el_, hl', q3, q4, e15]
    rw [hl'] at hF
    have hh : ∀ j, j ≤ γ 2 lst → R i j (F (if j < γ 2 lst then el lst j else γ 15 (el (γ 14 c) i))) := fun j hj2 => by
      have z := h i hi j (by rw [hl']; exact hj2)
      unfold rAt at z
      rw [hl'] at z
      exact z
    by_cases t1 : j < k
    · rw [if_pos (by omega), if_pos t1]
      have z := hh j (by omega)
      have z2 := hF j
      rw [if_pos (by omega)] at z z2
      rw [z2]
      exact h2 j _ t1 z
    · by_cases t2 : j = k
      · rw [if_pos (by omega), if_neg t1, if_pos t2, q9, t2]
        exact h3
      · have z := hh (j - 1) (by omega)
        have z2 := hF (j - 1)
        have z3 := h4 (j - 1) _ (by omega) z
        rw [show j - 1 + 1 = j by omega] at z3
        by_cases t3 : j < γ 2 lst + 1
        · rw [if_pos t3, if_neg t1, if_neg t2]
          rw [if_pos (by omega)] at z3 z2
          rw [z2]
          exact z3
        · rw [if_neg t3]
          rw [if_neg (by omega)] at z3 z2
          rw [z2]
          exact z3
  · have hne : rwL γ el c i ≠ lst := fun e => by
      rw [e, c5] at b5
      rw [← b5, c3] at b3
      exact ei b3.symm
    obtain ⟨l1, l2⟩ := q5 _ (by rw [b4]; decide) hne
    have ea : rAt γ1 el1 c i j = rAt γ el c i j := by unfold rAt; rw [el_, l1, l2, e15]
    rw [l1] at hj
    rw [ea, F1r]
    exact h1 i j _ ei (h i hi j hj)
theorem rPl_del (hT : RS D I P F γ el) (hc : γ 0 c = 9) (hcf : γ 1 c = f) (hq : rDq D I P F γ el f lst k F1 γ1 el1) (hl : γ 14 (el (γ 14 c) i0) = lst) (hi0 : i0 < γ 6 f) (hk : k < γ 2 lst) {N : Nat → Prop} (h : rPl γ el F c (γ 6 f) (fun _ _ => rNm N)) : rPl γ1 el1 F1 c (γ1 6 f) (fun _ _ => rNm N) := by
  obtain ⟨q1, q3, q4, q5, -, -, q8, -⟩ := hq
  have hs := rSk_of q1
  intro i hi j hj
  rw [q8.1] at hi
  obtain ⟨b1, b2, b3, b4, b5, b6, b7, b8, b9, b10, b11⟩ := rBk_at hT hc hcf hi
  obtain ⟨c1, c2, c3, c4, c5, c6, c7, c8, c9, c10, c11⟩ := rBk_at hT hc hcf hi0
  obtain ⟨a21, a4, a41, a5, a51⟩ := rc_at hT hc hcf
  have hl' : rwL γ el c i0 = lst := hl
  rw [hl'] at c4 c5 c6 c11
  have s1 := (rSk_s hs (show rKd γ c 9 from hc) (by decide)).2.1
  obtain ⟨-, s2⟩ := q5 (γ 14 c) (by omega) (fun e => by rw [e] at a4; omega)
  have s3 := rSk_s hs (show rKd γ (el (γ 14 c) i) 2 from b2) (by decide)
  have el_ : rwL γ1 el1 c i = rwL γ el c i := by unfold rwL; rw [s1, s2, s3.2.1]
  have e15 : γ1 15 (el1 (γ1 14 c) i) = γ 15 (el (γ 14 c) i) := by rw [s1, s2, s3.2.2.1]
  have F1r : ∀ j, F1 (rAt γ el c i j) = F (rAt γ el c i j) := fun j => rSk_F hs (show rKd γ _ 1 from (rAt_k hT hc hcf hi).1) (by decide) (by decide)
  rw [el_] at hj
  by_cases ei : i = i0
  · subst ei
    rw [hl', q3] at hj
    have hF := F1r
    unfold rAt at hF ⊢
    rw [el_, hl', q3, q4, e15]
    rw [hl'] at hF
    have hh : ∀ j, j ≤ γ 2 lst → rNm N (F (if j < γ 2 lst then el lst j else γ 15 (el (γ 14 c) i))) := fun j hj2 => by
      have z := h i hi j (by rw [hl']; exact hj2)
      unfold rAt at z
      rw [hl'] at z
      exact z
    by_cases t1 : j < k
    · rw [if_pos (by omega), if_pos t1]
      have z := hh j (by omega)
      have z2 := hF j
      rw [if_pos (by omega)] at z z2
      rw [z2]
      exact z
    · have z := hh (j + 1) (by omega)
      have z2 := hF (j + 1)
      by_cases t3 : j < γ 2 lst - 1
      · rw [if_pos t3, if_neg t1]
        rw [if_pos (by omega)] at z z2
        rw [z2]
        exact z
      · rw [if_neg t3]
        rw [if_neg (by omega)] at z z2
        rw [z2]
        exact z
  · have hne : rwL γ el c i ≠ lst := fun e => by
      rw [e, c5] at b5
      rw [← b5, c3] at b3
      exact ei b3.symm
    obtain ⟨l1, l2⟩ := q5 _ (by rw [b4]; decide) hne
    have ea : rAt γ1 el1 c i j = rAt γ el c i j := by unfold rAt; rw [el_, l1, l2, e15]
    rw [l1] at hj
    rw [ea, F1r]
    exact h i hi j hj
end RPL
