section
/-! names: loads have names of temporaries; renaming; registers given slots -/
def rNx (N : Nat → Prop) (e : va_E) : Prop := rNm N e ∧ ((fI e 0).toInt = 21 → 100 ≤ (fI e 1).toInt)
theorem rNx_mono {N N2 : Nat → Prop} {e : va_E} (h : ∀ n, N n → N2 n) (z : rNx N e) : rNx N2 e := ⟨rNm_mono h z.1, z.2⟩
theorem rNx_of {F : Nat → va_E} {x cc : Nat} {op t a b s ra rb : Int32} {N : Nat → Prop} (h : F x = .inr (cc, [.int op, .int t, .int a, .int b, .int s, .int ra, .int rb])) : rNx N (F x) ↔ ((∀ n, nmV op.toInt t.toInt a.toInt b.toInt ra.toInt rb.toInt n → N n) ∧ (op.toInt = 21 → 100 ≤ t.toInt)) := by
  unfold rNx rNm
  rw [nmS_of h, h]
  exact Iff.rfl
theorem rNx_ren {F F1 : Nat → va_E} {x cc : Nat} {op t a b s ra rb t1 a1 b1 : Int32} {N : Nat → Prop} {u v : Int} (h : F x = .inr (cc, [.int op, .int t, .int a, .int b, .int s, .int ra, .int rb])) (h1 : F1 x = .inr (cc, [.int op, .int t1, .int a1, .int b1, .int s, .int ra, .int rb])) (hu : u < 100) (hv : N v.toNat) (ha : a1.toInt = a.toInt ∨ a1.toInt = v) (hb : b1.toInt = b.toInt ∨ b1.toInt = v) (ht : t1.toInt = t.toInt ∨ (t1.toInt = v ∧ t.toInt = u)) (z : rNx N (F x)) : rNx N (F1 x) := by
  rw [rNx_of h] at z
  rw [rNx_of h1]
  refine ⟨fun n hn => ?_, fun q => ?_⟩
  · unfold nmV at hn
    rcases hn with ⟨c1, c2⟩ | ⟨c1, c2⟩ | ⟨c1, c2⟩
    · rcases ht with e | ⟨e, -⟩
      · exact z.1 n (Or.inl ⟨c1, by rw [← e]; exact c2⟩)
      · rw [c2, e]; exact hv
    · rcases ha with e | e
      · exact z.1 n (Or.inr (Or.inl ⟨c1, by rw [← e]; exact c2⟩))
      · rw [c2, e]; exact hv
    · rcases hb with e | e
      · exact z.1 n (Or.inr (Or.inr ⟨c1, by rw [← e]; exact c2⟩))
      · rw [c2, e]; exact hv
  · have := z.2 q
    omega
section RNX
variable {D : va_G} {I : FieldType → ClassId} {P P1 : List Nat} {F F1 : Nat → va_E} {γ el γ1 el1 : Nat → Nat → Nat} {f c i j i0 a k x lst dc ds : Nat} {N : Nat → Prop}
theorem rPl_nm {cc : Nat} {op t a b s ra rb : Int32} (h : rPl γ el F c (γ 6 f) (fun _ _ => rNx N)) (hi : i < γ 6 f) (hl : γ 14 (el (γ 14 c) i) = lst) (hj : j < γ 2 lst) (hx : el lst j = x) (he : F x = .inr (cc, [.int op, .int t, .int a, .int b, .int s, .int ra, .int rb])) (h0 : op.toInt = 0) (hr : ra.toInt = 1) : N t.toInt.toNat ∧ N a.toInt.toNat := by
  have e : rAt γ el c i j = x := (rAt_r rfl hl hj).trans hx
  have hL : rwL γ el c i = lst := hl
  have z := h i hi j (by rw [hL]; omega)
  rw [e, rNx_of he] at z
  exact ⟨z.1 _ (Or.inl ⟨by omega, rfl⟩), z.1 _ (Or.inr (Or.inl ⟨⟨by omega, by omega, by omega, hr⟩, rfl⟩))⟩
theorem rPl_dl (hT : RS D I P F γ el) (hc : γ 0 c = 9) (hcf : γ 1 c = f) (hq : rDq D I P F γ el f lst k F1 γ1 el1) (hl : γ 14 (el (γ 14 c) i0) = lst) (hi0 : i0 < γ 6 f) (hk : k < γ 2 lst) {R : va_E → Prop} (h : rPl γ el F c (γ 6 f) (fun _ _ => R)) : rPl γ1 el1 F1 c (γ1 6 f) (fun _ _ => R) := by
  obtain ⟨q1, q3, q4, q5, -, -, q8, -⟩ := hq
  have hs := rSk_of q1
  intro i hi j hj
  rw [q8.1] at hi
  obtain ⟨b1, b2, b3, b4, b5, b6, b7, b8, b9, b10, b11⟩ := rBk_at hT hc hcf hi
  obtain ⟨c1, c2, c3, c4, c5, c6, c7, c8, c9, c10, c11⟩ := rBk_at hT hc hcf hi0
  obtain ⟨a21, a4, a41, a5, a51⟩ := rc_at hT hc hcf
  have hl' : rwL γ el c i0 = lst := hl
  rw [hl'] at c4 c5 c6 c11
  have s1 := (rSk_s hs (show rKd γ c 9 from hc) (by decide)).2.1
  obtain ⟨-, s2⟩ := q5 (γ 14 c) (by omega) (fun e => by rw [e] at a4; omega)
  have s3 := rSk_s hs (show rKd γ (el (γ 14 c) i) 2 from b2) (by decide)
  have el_ : rwL γ1 el1 c i = rwL γ el c i := by unfold rwL; rw [s1, s2, s3.2.1]
  have e15 : γ1 15 (el1 (γ1 14 c) i) = γ 15 (el (γ 14 c) i) := by rw [s1, s2, s3.2.2.1]
  have F1r : ∀ j, F1 (rAt γ el c i j) = F (rAt γ el c i j) := fun j => rSk_F hs (show rKd γ _ 1 from (rAt_k hT hc hcf hi).1) (by decide) (by decide)
  rw [el_] at hj
  by_cases ei : i = i0
  · subst ei
    rw [hl', q3] at hj
    have hF := F1r
    unfold rAt at hF ⊢
    rw [el_, hl', q3, q4, e15]
    rw [hl'] at hF
    have hh : ∀ j, j ≤ γ 2 lst → R (F (if j < γ 2 lst then el lst j else γ 15 (el (γ 14 c) i))) := fun j hj2 => by
      have z := h i hi j (by rw [hl']; exact hj2)
      unfold rAt at z
      rw [hl'] at z
      exact z
    by_cases t1 : j < k
    · rw [if_pos (by omega), if_pos t1]
      have z := hh j (by omega)
      have z2 := hF j
      rw [if_pos (by omega)] at z z2
      rw [z2]
      exact z
    · have z := hh (j + 1) (by omega)
      have z2 := hF (j + 1)
      by_cases t3 : j < γ 2 lst - 1
      · rw [if_pos t3, if_neg t1]
        rw [if_pos (by omega)] at z z2
        rw [z2]
        exact z
      · rw [if_neg t3]
        rw [if_neg (by omega)] at z z2
        rw [z2]
        exact z
  · have hne : rwL γ el c i ≠ lst := fun e => by
      rw [e, c5] at b5
      rw [← b5, c3] at b3
      exact ei b3.symm
    obtain ⟨l1, l2⟩ := q5 _ (by rw [b4]; decide) hne
    have ea : rAt γ1 el1 c i j = rAt γ el c i j := by unfold rAt; rw [el_, l1, l2, e15]
    rw [l1] at hj
    rw [ea, F1r]
    exact h i hi j hj
theorem rPl_dx (hT : RS D I P F γ el) (hc : γ 0 c = 9) (hcf : γ 1 c = f) (hq : rDq D I P F γ el f lst k F1 γ1 el1) (hl : γ 14 (el (γ 14 c) i) = lst) (hi0 : i < γ 6 f) (hk : k < γ 2 lst) (h : rPl γ el F c (γ 6 f) (fun _ _ => rNx N)) : rPl γ1 el1 F1 c (γ1 6 f) (fun _ _ => rNx N) := rPl_dl (R := rNx N) hT hc hcf hq hl hi0 hk h
/-- the registers that are named, and the slots given: together at most 100 -/
def rNI (γ el : Nat → Nat → Nat) (F : Nat → va_E) (c n : Nat) (s : Int) : Prop := ∃ g : Nat → Int32, rPl γ el F c n (fun _ _ => rNx (fun m => 100 ≤ m ∨ rSd g m)) ∧ s + (rcn g 100 : Nat) ≤ 100
theorem rcn_1 : ∀ n, rcn (fun _ => 1) n = n
  | 0 => rfl
  | n + 1 => by
    show rcn (fun _ => 1) n + _ = n + 1
    rw [rcn_1 n]
    rfl
theorem rcn_m {g h : Nat → Int32} : ∀ n, (∀ i, i < n → (g i).toInt = 1 → (h i).toInt = 1) → rcn g n ≤ rcn h n
  | 0, _ => Nat.le_refl _
  | n + 1, q => by
    have ih := rcn_m n (fun i hi => q i (by omega))
    show rcn g n + _ ≤ rcn h n + _
    by_cases e : (g n).toInt = 1
    · rw [if_pos e, if_pos (q n (by omega) e)]
      omega
    · rw [if_neg e]
      omega
theorem rcn_mn {g : Nat → Int32} {n : Nat} : ∀ m, n ≤ m → rcn g n ≤ rcn g m
  | 0, h => by
    have e : n = 0 := by omega
    rw [e]
    exact Nat.le_refl _
  | m + 1, h => by
    by_cases e : n = m + 1
    · rw [e]
      exact Nat.le_refl _
    · have := rcn_mn (g := g) m (show n ≤ m by omega)
      show rcn g n ≤ rcn g m + _
      omega
theorem rNI_0 (hT : RS D I P F γ el) (hc : γ 0 c = 9) (hcf : γ 1 c = f) (h7 : γ 7 f = 0) : rNI γ el F c (γ 6 f) 0 := by
  refine ⟨fun _ => 1, fun i hi j hj => ⟨fun n hn => ?_, fun q => ?_⟩, by rw [rcn_1]; decide⟩
  · by_cases e : 100 ≤ n
    · exact Or.inl e
    · exact Or.inr ⟨by omega, rfl⟩
  · obtain ⟨k1, k2⟩ := rAt_k (j := j) hT hc hcf hi
    obtain ⟨op, t, a, b, s, ra, rb, w1, w2, w3, w4, w5, w6, w7, w8, w9, w10, -⟩ := show rk_1 γ _ (F _) from RS_o hT k1
    rw [k2, h7] at w10
    rw [w1] at q
    have q2 : op.toInt = 21 := q
    have := w4.1
    omega
/-- behind graph: the stands are among the names -/
theorem rNI_gr {g : Nat → Int32} {n : Nat} {s : Int} (h : rNI γ el F c n s) (hg : rGr γ el F c n g (vA n)) : s + (rcn g 100 : Nat) ≤ 100 ∧ rPl γ el F c n (fun _ _ => rNx (rSd g)) := by
  obtain ⟨g0, h1, h2⟩ := h
  refine ⟨?_, fun i hi j hj => ⟨hg.1 i hi j hj hi, (h1 i hi j hj).2⟩⟩
  have : rcn g 100 ≤ rcn g0 100 := rcn_m 100 (fun m hm e => by
    obtain ⟨i, j, hi, hj, q⟩ := hg.2 m ⟨by omega, e⟩
    rcases (h1 i hi j hj).1 m q with z | z
    · omega
    · exact z.2)
  omega
theorem rNI_st {g : Nat → Int32} {n : Nat} {s : Int} (h : s + (rcn g 100 : Nat) ≤ 100) (hp : rPl γ el F c n (fun _ _ => rNx (rSd g))) : rNI γ el F c n s := ⟨g, rPl_mono hp (fun _ _ _ _ _ z => rNx_mono (fun _ q => Or.inr q) z), h⟩
end RNX
def uA (r op ra : Int) : Prop := (r = 1 ∧ op ≠ 20 ∧ op ≠ 21 ∧ op ≠ 30 ∧ ra = 1) ∨ (r = 0 ∧ (op = 20 ∨ op = 21 ∨ op = 30 ∨ ra = 0))
def uB (r op rb : Int) : Prop := (r = 1 ∧ 0 < op ∧ op < 20 ∧ rb = 1) ∨ (r = 0 ∧ (op ≤ 0 ∨ 20 ≤ op ∨ rb = 0))
def uS (r op : Int) : Prop := (r = 1 ∧ op ≤ 21) ∨ (r = 0 ∧ 21 < op)
theorem uA_0 {r op ra : Int} (h : uA r op ra) (r0 : r = 0) (h1 : op ≠ 20) (h2 : op ≠ 21) (h3 : op ≠ 30) (h4 : ra = 1) : False := by unfold uA at h; omega
theorem uB_0 {r op rb : Int} (h : uB r op rb) (r0 : r = 0) (h1 : 0 < op) (h2 : op < 20) (h3 : rb = 1) : False := by unfold uB at h; omega
theorem uS_0 {r op : Int} (h : uS r op) (r0 : r = 0) (h1 : op ≤ 21) : False := by unfold uS at h; omega
end
section
/-! spill: the rows that were visited have names without slots, the others names that stand -/
theorem rFk_rf {K : List Nat} {γ : Nat → Nat → Nat} {F : Nat → va_E} : rFk K γ F F := fun _ _ _ => rfl
theorem rFk_put {K : List Nat} {γ : Nat → Nat → Nat} {F F1 F2 : Nat → va_E} {a k : Nat} (h : rFk K γ F F1) (n : ∀ b, b ≠ a → F2 b = F1 b) (hk : rKd γ a k) (hK : k ∈ K) : rFk K γ F F2 := fun b h0 hb => (n b (fun e => hb (by rw [e, show γ 0 a = k from hk]; exact hK))).trans (h b h0 hb)
def rInsP (γ0 el0 : Nat → Nat → Nat) (F : Nat → va_E) (γ el : Nat → Nat → Nat) (F1 : Nat → va_E) (c f i0 k t : Nat) : Prop := ∀ (R R' : Nat → Nat → va_E → Prop), rPl γ0 el0 F c (γ0 6 f) R → (∀ i j e, i ≠ i0 → R i j e → R' i j e) → (∀ j e, j < k → R i0 j e → R' i0 j e) → (∀ e, (∀ n, nmS e n → n = t) → ((fI e 0).toInt = 21 → (fI e 1).toInt.toNat = t) → R' i0 k e) → (∀ j e, k ≤ j → R i0 j e → R' i0 (j + 1) e) → rPl γ el F1 c (γ 6 f) R'
/-- names behind spill: temporaries, and what stands without a slot -/
def gSp (g h : Nat → Int32) : Nat → Int32 := fun n => if (h n).toInt < 0 then g n else 0
def nSp (g h : Nat → Int32) (n : Nat) : Prop := 100 ≤ n ∨ rSd (gSp g h) n
def spQ (g h : Nat → Int32) (b j : Nat) (i j' : Nat) (e : va_E) : Prop := (i < b ∨ (i = b ∧ j' < j) → rNx (nSp g h) e) ∧ (b < i ∨ (i = b ∧ j ≤ j') → rNx (rSd g) e)
def spX (g h : Nat → Int32) (b j : Nat) (i j' : Nat) (e : va_E) : Prop := (i < b ∨ (i = b ∧ j' < j) → rNx (nSp g h) e) ∧ (b < i ∨ (i = b ∧ j < j') → rNx (rSd g) e)
section RSP
variable {D : va_G} {I : FieldType → ClassId} {P P1 : List Nat} {F F1 : Nat → va_E} {γ el γ1 el1 : Nat → Nat → Nat} {f c b j j1 b1 a x y lst n t dc ds : Nat} {g h : Nat → Int32}
theorem nmT {e : va_E} {t : Nat} (h1 : ∀ n, nmS e n → n = t) (h2 : (fI e 0).toInt = 21 → (fI e 1).toInt.toNat = t) (ht : 100 ≤ t) : rNx (nSp g h) e := ⟨fun n hn => Or.inl (by rw [h1 n hn]; exact ht), fun q => by have := h2 q; omega⟩
theorem nm_ld {cc : Nat} {op t a b s ra rb : Int32} (he : F y = .inr (cc, [.int op, .int t, .int a, .int b, .int s, .int ra, .int rb])) (ho : op.toInt = 21) : (∀ n, nmS (F y) n → n = t.toInt.toNat) ∧ ((fI (F y) 0).toInt = 21 → (fI (F y) 1).toInt.toNat = t.toInt.toNat) := by
  refine ⟨fun n hn => ?_, fun _ => by rw [he]; rfl⟩
  rw [nmS_of he] at hn
  unfold nmV at hn
  omega
theorem nm_sto {cc : Nat} {op t a b s ra rb : Int32} (he : F y = .inr (cc, [.int op, .int t, .int a, .int b, .int s, .int ra, .int rb])) (ho : op.toInt = 23) : (∀ n, nmS (F y) n → n = a.toInt.toNat) ∧ ((fI (F y) 0).toInt = 21 → (fI (F y) 1).toInt.toNat = a.toInt.toNat) := by
  refine ⟨fun n hn => ?_, fun q => ?_⟩
  · rw [nmS_of he] at hn
    unfold nmV at hn
    omega
  · rw [he] at q
    have q2 : op.toInt = 21 := q
    omega
theorem sp_0 (hp : rPl γ el F c n (fun _ _ => rNx (rSd g))) : rPl γ el F c n (spQ g h 0 0) := rPl_mono hp (fun i j' e _ _ z => ⟨fun q => by omega, fun _ => z⟩)
theorem sp_hd (hp : rPl γ el F c n (spQ g h b j)) (hx : rAt γ el c b j = x) (hb : b < n) (hj : j ≤ γ 2 (rwL γ el c b)) : rPl γ el F c n (spX g h b j) ∧ rNx (rSd g) (F x) := by
  refine ⟨rPl_mono hp (fun i j' e _ _ z => ⟨z.1, fun q => z.2 (by omega)⟩), ?_⟩
  have z := (hp b hb j hj).2 (Or.inr ⟨rfl, Nat.le_refl _⟩)
  rw [hx] at z
  exact z
theorem sp_ld (hi : rInsP γ el F γ1 el1 F1 c f b j t) (hp : rPl γ el F c (γ 6 f) (spX g h b j)) (ht : 100 ≤ t) (hj : j1 = j + 1) : rPl γ1 el1 F1 c (γ1 6 f) (spX g h b j1) := by
  subst hj
  refine hi _ _ hp (fun i j' e hne z => ⟨fun q => z.1 (by omega), fun q => z.2 (by omega)⟩) (fun j' e hlt z => ⟨fun _ => z.1 (by omega), fun q => by omega⟩) (fun e h1 h2 => ⟨fun _ => nmT h1 h2 ht, fun q => by omega⟩) (fun j' e hle z => ⟨fun q => by omega, fun q => z.2 (by omega)⟩)
theorem sp_put (hT : RS D I P F γ el) (hc : γ 0 c = 9) (hcf : γ 1 c = f) (hp : rPl γ el F c (γ 6 f) (spX g h b j)) (n : ∀ z, z ≠ x → F1 z = F z) (hx : rAt γ el c b j = x) (hb : b < γ 6 f) (hj : j ≤ γ 2 (rwL γ el c b)) : rPl γ el F1 c (γ 6 f) (spX g h b j) :=
  rPl_put hT hc hcf hp n hx hb hj (fun _ _ _ _ z => z) ⟨fun q => by omega, fun q => by omega⟩
theorem sp_fin (hp : rPl γ el F c n (spX g h b j)) (hx : rAt γ el c b j = x) (hr : rNx (nSp g h) (F x)) (hj : j1 = j + 1) : rPl γ el F c n (spQ g h b j1) := by
  subst hj
  intro i hi j' hj'
  have z := hp i hi j' hj'
  refine ⟨fun q => ?_, fun q => z.2 (by omega)⟩
  by_cases e : i = b ∧ j' = j
  · rw [e.1, e.2, hx]
    exact hr
  · exact z.1 (by omega)
theorem sp_ins (hT : RS D I P F γ el) (hc : γ 0 c = 9) (hcf : γ 1 c = f) (hq : rIq D I P F γ el f lst j y P1 F1 γ1 el1 dc ds) (hl : γ 14 (el (γ 14 c) b) = lst) (hb : b < γ 6 f) (hk : j ≤ γ 2 lst) (hp : rPl γ el F c (γ 6 f) (spQ g h b j)) (h1 : ∀ n, nmS (F y) n → n = t) (h2 : (fI (F y) 0).toInt = 21 → (fI (F y) 1).toInt.toNat = t) (ht : 100 ≤ t) (hj : j1 = j + 1) : rPl γ1 el1 F1 c (γ1 6 f) (spQ g h b j1) := by
  subst hj
  exact rPl_ins hT hc hcf hq hl hb hk hp (fun i j' e hne z => ⟨fun q => z.1 (by omega), fun q => z.2 (by omega)⟩) (fun j' e hlt z => ⟨fun _ => z.1 (by omega), fun q => by omega⟩) ⟨fun _ => nmT h1 h2 ht, fun q => by omega⟩ (fun j' e hle z => ⟨fun q => by omega, fun q => z.2 (by omega)⟩)
theorem sp_nx (hp : rPl γ el F c n (spQ g h b j)) (hj : γ 2 (rwL γ el c b) < j) (hb : b1 = b + 1) : rPl γ el F c n (spQ g h b1 0) := by
  subst hb
  refine rPl_mono hp (fun i j' e _ hj' z => ⟨fun q => z.1 ?_, fun q => z.2 (by omega)⟩)
  by_cases e : i = b
  · subst e
    omega
  · omega
theorem sp_end (hp : rPl γ el F c n (spQ g h b 0)) (hb : n ≤ b) : rPl γ el F c n (fun _ _ => rNx (nSp g h)) := rPl_mono hp (fun i j' e hi _ z => z.1 (by omega))
/-- the row itself -/
theorem rn_fin {cc : Nat} {op t a b s ra rb op1 t1 a1 b1 s1 ra1 rb1 : Int32} (he : F x = .inr (cc, [.int op, .int t, .int a, .int b, .int s, .int ra, .int rb])) (he1 : F1 x = .inr (cc, [.int op, .int t1, .int a1, .int b1, .int s, .int ra, .int rb])) (z : rNx (rSd g) (F x)) (ha : op.toInt ≠ 20 → op.toInt ≠ 21 → op.toInt ≠ 30 → ra.toInt = 1 → 100 ≤ a1.toInt ∨ (a1.toInt = a.toInt ∧ (h a.toInt.toNat).toInt < 0)) (hb : 0 < op.toInt → op.toInt < 20 → rb.toInt = 1 → 100 ≤ b1.toInt ∨ (b1.toInt = b.toInt ∧ (h b.toInt.toNat).toInt < 0)) (ht : op.toInt ≤ 21 → 100 ≤ t1.toInt ∨ (t1.toInt = t.toInt ∧ (op.toInt = 21 ∨ (h t.toInt.toNat).toInt < 0))) : rNx (nSp g h) (F1 x) := by
  rw [rNx_of he] at z
  rw [rNx_of he1]
  have key : ∀ m, rSd g m → (h m).toInt < 0 → nSp g h m := fun m hm hh => Or.inr ⟨hm.1, by unfold gSp; rw [if_pos hh]; exact hm.2⟩
  refine ⟨fun m hm => ?_, fun q => ?_⟩
  · unfold nmV at hm
    rcases hm with ⟨c1, c2⟩ | ⟨c1, c2⟩ | ⟨c1, c2⟩
    · rcases ht c1 with e | ⟨e, e2⟩
      · exact Or.inl (by omega)
      · rcases e2 with e2 | e2
        · have := z.2 e2
          exact Or.inl (by omega)
        · rw [c2, e]
          exact key _ (z.1 _ (Or.inl ⟨c1, rfl⟩)) e2
    · rcases ha c1.1 c1.2.1 c1.2.2.1 c1.2.2.2 with e | ⟨e, e2⟩
      · exact Or.inl (by omega)
      · rw [c2, e]
        exact key _ (z.1 _ (Or.inr (Or.inl ⟨c1, rfl⟩))) e2
    · rcases hb c1.1 c1.2.1 c1.2.2 with e | ⟨e, e2⟩
      · exact Or.inl (by omega)
      · rw [c2, e]
        exact key _ (z.1 _ (Or.inr (Or.inr ⟨c1, rfl⟩))) e2
  · rcases ht (by omega) with e | ⟨e, -⟩
    · exact e
    · have := z.2 q
      omega
/-- slots given so far -/
def rsc (h : Nat → Int32) : Nat → Nat
  | 0 => 0
  | n + 1 => rsc h n + if 0 ≤ (h n).toInt then 1 else 0
theorem rsc_eq {h h2 : Nat → Int32} : ∀ n, (∀ i, i < n → h2 i = h i) → rsc h2 n = rsc h n
  | 0, _ => rfl
  | n + 1, q => by
    show rsc h2 n + _ = rsc h n + _
    rw [rsc_eq n (fun i hi => q i (by omega)), q n (by omega)]
theorem rcn_sp (g h : Nat → Int32) : ∀ n, (∀ i, i < n → 0 ≤ (h i).toInt → (g i).toInt = 1) → rcn (gSp g h) n + rsc h n = rcn g n
  | 0, _ => rfl
  | n + 1, q => by
    have ih := rcn_sp g h n (fun i hi => q i (by omega))
    show rcn (gSp g h) n + _ + (rsc h n + _) = rcn g n + _
    have e : gSp g h n = if (h n).toInt < 0 then g n else 0 := rfl
    rw [e]
    by_cases c : (h n).toInt < 0
    · rw [if_pos c, if_neg (show ¬ 0 ≤ (h n).toInt by omega)]
      omega
    · rw [if_neg c, if_pos (show 0 ≤ (h n).toInt by omega), if_pos (q n (by omega) (by omega)), if_neg (by decide)]
      omega
theorem rsc_100 (h : Nat → Int32) : ∀ n, 100 ≤ n → (∀ i, i < n → 0 ≤ (h i).toInt → i < 100) → rsc h n = rsc h 100
  | 0, q, _ => by omega
  | n + 1, q, z => by
    by_cases e : n + 1 = 100
    · rw [e]
    · have ih := rsc_100 h n (by omega) (fun i hi => z i (by omega))
      show rsc h n + _ = rsc h 100
      rw [ih, if_neg (fun k => by have := z n (by omega) k; omega)]
      omega
/-- the first loop: what it knows before register r -/
def spI (g h : Nat → Int32) (r : Nat) (s0 s : Int) : Prop := s = s0 + (rsc h r : Nat) ∧ rsc h r ≤ rcn g r ∧ rsc h r ≤ rcn g 100 ∧ ∀ m, m < r → 0 ≤ (h m).toInt → (rSd g m ∧ m < 100 ∧ (h m).toInt < s)
theorem spI_0 {s : Int} : spI g h 0 s s := ⟨by show s = s + (0 : Nat); omega, Nat.le_refl _, Nat.zero_le _, fun m hm => by omega⟩
theorem upd_ne {k : Nat} {v : Int32} {i : Nat} (e : i ≠ k) : upd h k v i = h i := by unfold upd; rw [if_neg e]
theorem upd_eq {k : Nat} {v : Int32} : upd h k v k = v := by unfold upd; rw [if_pos rfl]
theorem spI_n {h1 h2 : Nat → Int32} {k v : Int32} {r1 : Int} {s0 s : Int} (e1 : h1 = upd h k.toNatClampNeg v) (hv : v.toInt < 0) (hk : 0 ≤ k.toInt) (hr : r1 = k.toInt + 1) (z : spI g h k.toInt.toNat s0 s) : spI g h1 r1.toNat s0 s := by
  have ek : k.toNatClampNeg = k.toInt.toNat := rfl
  rw [ek] at e1
  have hr2 : r1.toNat = k.toInt.toNat + 1 := by omega
  rw [hr2]
  generalize k.toInt.toNat = r at *
  subst e1
  obtain ⟨z1, z2, z3, z4⟩ := z
  have q : rsc (upd h r v) (r + 1) = rsc h r := by
    show rsc (upd h r v) r + _ = _
    rw [rsc_eq (h := h) r (fun i hi => upd_ne (by omega)), upd_eq, if_neg (by omega)]
    omega
  have q2 : rcn g r ≤ rcn g (r + 1) := rcn_mn _ (by omega)
  refine ⟨by rw [q]; exact z1, by omega, by omega, fun m hm h0 => ?_⟩
  by_cases e : m = r
  · subst e
    rw [upd_eq] at h0
    omega
  · rw [upd_ne e] at h0 ⊢
    exact z4 m (by omega) h0
theorem spI_s {h1 h2 : Nat → Int32} {k v w : Int32} {r1 : Int} {s0 s s1 : Int} (e1 : h1 = upd h k.toNatClampNeg v) (e2 : h2 = upd h1 k.toNatClampNeg w) (hw : w.toInt = s) (hs : 0 ≤ s) (hk : 0 ≤ k.toInt) (hr : r1 = k.toInt + 1) (h100 : k.toInt < 100) (hg : rSd g k.toInt.toNat) (hs1 : s1 = s + 1) (z : spI g h k.toInt.toNat s0 s) : spI g h2 r1.toNat s0 s1 ∧ rsc h k.toInt.toNat + 1 ≤ rcn g 100 := by
  have ek : k.toNatClampNeg = k.toInt.toNat := rfl
  rw [ek] at e1 e2
  have hr2 : r1.toNat = k.toInt.toNat + 1 := by omega
  rw [hr2]
  have h1r : k.toInt.toNat < 100 := by omega
  generalize k.toInt.toNat = r at *
  subst e1 e2
  obtain ⟨z1, z2, z3, z4⟩ := z
  have ne : ∀ i, i ≠ r → upd (upd h r v) r w i = h i := fun i hi => (upd_ne hi).trans (upd_ne hi)
  have q : rsc (upd (upd h r v) r w) (r + 1) = rsc h r + 1 := by
    show rsc (upd (upd h r v) r w) r + _ = _
    rw [rsc_eq (h := h) r (fun i hi => ne i (by omega)), upd_eq, if_pos (by omega)]
  have q2 : rcn g (r + 1) = rcn g r + 1 := by
    show rcn g r + _ = _
    rw [if_pos hg.2]
  have q3 : rcn g (r + 1) ≤ rcn g 100 := rcn_mn _ (by omega)
  refine ⟨⟨by rw [q]; omega, by omega, by omega, fun m hm h0 => ?_⟩, by omega⟩
  by_cases e : m = r
  · subst e
    rw [upd_eq]
    exact ⟨hg, h1r, by omega⟩
  · rw [ne m e] at h0 ⊢
    have := z4 m (by omega) h0
    exact ⟨this.1, this.2.1, by omega⟩
theorem spI_e {s0 s : Int} {r : Nat} (hr : r = 2000) (z : spI g h r s0 s) (hs : s0 + (rcn g 100 : Nat) ≤ 100) (hp : rPl γ el F c n (fun _ _ => rNx (nSp g h))) : rNI γ el F c n s := by
  subst hr
  obtain ⟨z1, z2, z3, z4⟩ := z
  refine ⟨gSp g h, hp, ?_⟩
  have e1 := rcn_sp g h 100 (fun i hi h0 => (z4 i (by omega) h0).1.2)
  have e2 := rsc_100 h 2000 (by omega) (fun i hi h0 => (z4 i hi h0).2.1)
  omega
end RSP
section RSP2
variable {D : va_G} {I : FieldType → ClassId} {P P1 : List Nat} {F F1 : Nat → va_E} {γ el γ1 el1 : Nat → Nat → Nat} {f c i j k x lst n dc ds : Nat} {R : Nat → Nat → va_E → Prop}
theorem rAt_row (hT : RS D I P F γ el) (hc : γ 0 c = 9) (hcf : γ 1 c = f) (hq : rRq D I P F γ el f c P1 F1 γ1 el1 x dc ds) (hi : i < γ 6 f) (j : Nat) : rAt γ1 el1 c i j = rAt γ el c i j := by
  obtain ⟨q1, -, -, -, -, -, -, q8, q9, -⟩ := hq
  have hk := rSk_of q1
  obtain ⟨b1, b2, b3, b4, b5, b6, b7, b8, b9, b10, b11⟩ := rBk_at hT hc hcf hi
  obtain ⟨a21, a4, a41, a5, a51⟩ := rc_at hT hc hcf
  have s1 := (rSk_s hk (show rKd γ c 9 from hc) (by decide)).2.1
  obtain ⟨-, s2⟩ := q9 _ (by omega) (show γ 0 (γ 14 c) ≠ 5 by omega)
  have s3 := rSk_s hk (show rKd γ (el (γ 14 c) i) 2 from b2) (by decide)
  have el_ : rwL γ1 el1 c i = rwL γ el c i := by unfold rwL; rw [s1, s2, s3.2.1]
  obtain ⟨l1, l2⟩ := q9 _ (by omega) (show γ 0 (rwL γ el c i) ≠ 5 by omega)
  unfold rAt
  rw [el_, l1, l2, s1, s2, s3.2.2.1]
theorem rAt_ins (hT : RS D I P F γ el) (hc : γ 0 c = 9) (hcf : γ 1 c = f) (hq : rIq D I P F γ el f lst k x P1 F1 γ1 el1 dc ds) (hl : γ 14 (el (γ 14 c) i) = lst) (hi : i < γ 6 f) (hk : k ≤ γ 2 lst) (j : Nat) (hj : k ≤ j) : rAt γ1 el1 c i (j + 1) = rAt γ el c i j := by
  obtain ⟨q1, q2, q3, q4, q5, -, -, q8, q9, -⟩ := hq
  have hs := rSk_of q1
  obtain ⟨c1, c2, c3, c4, c5, c6, c7, c8, c9, c10, c11⟩ := rBk_at hT hc hcf hi
  obtain ⟨a21, a4, a41, a5, a51⟩ := rc_at hT hc hcf
  have hl' : rwL γ el c i = lst := hl
  rw [hl'] at c4 c5 c6 c11
  have s1 := (rSk_s hs (show rKd γ c 9 from hc) (by decide)).2.1
  obtain ⟨-, s2⟩ := q5 (γ 14 c) (by omega) (fun e => by rw [e] at a4; omega)
  have s3 := rSk_s hs (show rKd γ (el (γ 14 c) i) 2 from c2) (by decide)
  have el_ : rwL γ1 el1 c i = lst := by rw [← hl']; unfold rwL; rw [s1, s2, s3.2.1]
  unfold rAt
  rw [el_, hl', q3, q4, s1, s2, s3.2.2.1]
  by_cases t : j < γ 2 lst
  · rw [if_pos (by omega), if_neg (by omega), if_neg (by omega), if_pos t, show j + 1 - 1 = j by omega]
  · rw [if_neg (by omega), if_neg t]
theorem rPl_val (hT : RS D I P F γ el) (hc : γ 0 c = 9) (hcf : γ 1 c = f) (hk : rSk f [] [] D I P F γ el P F γ1 el) (hg : γ1 = gVal γ 7 f n) (h : rPl γ el F c (γ 6 f) R) : rPl γ1 el F c (γ1 6 f) R :=
  rPl_st hT hc hcf hk (by decide) (fun a _ => ⟨by rw [hg, gVal_ne (by decide)], rfl⟩) (by rw [hg, gVal_ne (by decide)]) h
theorem gVal_7 (h : γ1 = gVal γ 7 f n) : γ1 7 f = n ∧ γ1 6 f = γ 6 f ∧ γ1 16 f = γ 16 f ∧ γ1 18 f = γ 18 f := by
  subst h
  refine ⟨if_pos ⟨rfl, rfl⟩, ?_, ?_, ?_⟩ <;> rw [gVal_ne (by decide)]
end RSP2
end
section
/-! spill: a row half done -/
def rS1 (g h : Nat → Int32) (e : va_E) (a q : Int) : Prop := ((fI e 0).toInt ≠ 20 → (fI e 0).toInt ≠ 21 → (fI e 0).toInt ≠ 30 → (fI e 5).toInt = 1 → nSp g h (fI e 2).toInt.toNat) ∧ (0 < (fI e 0).toInt → (fI e 0).toInt < 20 → (fI e 6).toInt = 1 → (0 ≤ q ∧ q ≠ a ∧ (fI e 3).toInt = q ∧ rSd g q.toNat) ∨ nSp g h (fI e 3).toInt.toNat) ∧ ((fI e 0).toInt ≤ 21 → rSd g (fI e 1).toInt.toNat) ∧ ((fI e 0).toInt = 21 → 100 ≤ (fI e 1).toInt)
def rS2 (g h : Nat → Int32) (e : va_E) : Prop := ((fI e 0).toInt ≠ 20 → (fI e 0).toInt ≠ 21 → (fI e 0).toInt ≠ 30 → (fI e 5).toInt = 1 → nSp g h (fI e 2).toInt.toNat) ∧ (0 < (fI e 0).toInt → (fI e 0).toInt < 20 → (fI e 6).toInt = 1 → nSp g h (fI e 3).toInt.toNat) ∧ ((fI e 0).toInt ≤ 21 → rSd g (fI e 1).toInt.toNat) ∧ ((fI e 0).toInt = 21 → 100 ≤ (fI e 1).toInt)
section RSJ
variable {F F1 : Nat → va_E} {x cc : Nat} {op t a b s ra rb t1 a1 b1 : Int32} {g h : Nat → Int32} {aL q : Int}
theorem nSp_k {m : Nat} (hm : rSd g m) (hh : (h m).toInt < 0) : nSp g h m := Or.inr ⟨hm.1, by unfold gSp; rw [if_pos hh]; exact hm.2⟩
theorem nSp_t {v : Int} (hv : 100 ≤ v) : nSp g h v.toNat := Or.inl (by omega)
theorem rS1_of (he : F x = .inr (cc, [.int op, .int t, .int a, .int b, .int s, .int ra, .int rb])) (he1 : F1 x = .inr (cc, [.int op, .int t, .int a1, .int b1, .int s, .int ra, .int rb])) (z : rNx (rSd g) (F x)) (ha : op.toInt ≠ 20 → op.toInt ≠ 21 → op.toInt ≠ 30 → ra.toInt = 1 → 100 ≤ a1.toInt ∨ (a1.toInt = a.toInt ∧ (h a.toInt.toNat).toInt < 0)) (hb : 0 < op.toInt → op.toInt < 20 → rb.toInt = 1 → 100 ≤ b1.toInt ∨ (b1.toInt = b.toInt ∧ b.toInt = q ∧ 0 ≤ q ∧ (q ≠ aL ∨ (h b.toInt.toNat).toInt < 0))) : rS1 g h (F1 x) aL q := by
  rw [rNx_of he] at z
  unfold rS1
  rw [he1]
  refine ⟨fun (c1 : op.toInt ≠ 20) (c2 : op.toInt ≠ 21) (c3 : op.toInt ≠ 30) (c4 : ra.toInt = 1) => ?_, fun (c1 : 0 < op.toInt) (c2 : op.toInt < 20) (c3 : rb.toInt = 1) => ?_, fun (c1 : op.toInt ≤ 21) => z.1 _ (Or.inl ⟨c1, rfl⟩), z.2⟩
  · show nSp g h a1.toInt.toNat
    rcases ha c1 c2 c3 c4 with e | ⟨e, e2⟩
    · exact nSp_t e
    · rw [e]
      exact nSp_k (z.1 _ (Or.inr (Or.inl ⟨⟨c1, c2, c3, c4⟩, rfl⟩))) e2
  · show (0 ≤ q ∧ q ≠ aL ∧ b1.toInt = q ∧ rSd g q.toNat) ∨ nSp g h b1.toInt.toNat
    have zb := z.1 _ (Or.inr (Or.inr ⟨⟨c1, c2, c3⟩, rfl⟩))
    rcases hb c1 c2 c3 with e | ⟨e, e2, e3, e4⟩
    · exact Or.inr (nSp_t e)
    · rcases e4 with e4 | e4
      · exact Or.inl ⟨e3, e4, e.trans e2, by rw [← e2]; exact zb⟩
      · rw [e]
        exact Or.inr (nSp_k zb e4)
theorem rS1_2 (z : rS1 g h (F x) aL q) (hq : q < 0 ∨ q = aL ∨ (h q.toNat).toInt < 0) : rS2 g h (F x) := by
  refine ⟨z.1, fun c1 c2 c3 => ?_, z.2.2⟩
  rcases z.2.1 c1 c2 c3 with ⟨e1, e2, e3, e4⟩ | e
  · rcases hq with k | k | k
    · omega
    · exact absurd k e2
    · rw [e3]
      exact nSp_k e4 k
  · exact e
theorem rS1_b (he : F x = .inr (cc, [.int op, .int t, .int a, .int b, .int s, .int ra, .int rb])) (he1 : F1 x = .inr (cc, [.int op, .int t, .int a, .int b1, .int s, .int ra, .int rb])) (hb : 100 ≤ b1.toInt) (z : rS1 g h (F x) aL q) : rS2 g h (F1 x) := by
  unfold rS1 at z
  unfold rS2
  rw [he] at z
  rw [he1]
  exact ⟨z.1, fun _ _ _ => nSp_t hb, z.2.2⟩
theorem rS2_n (he : F x = .inr (cc, [.int op, .int t, .int a, .int b, .int s, .int ra, .int rb])) (he1 : F1 x = .inr (cc, [.int op, .int t1, .int a, .int b, .int s, .int ra, .int rb])) (z : rS2 g h (F x)) (ht : op.toInt ≤ 21 → 100 ≤ t1.toInt ∨ (t1.toInt = t.toInt ∧ (op.toInt = 21 ∨ (h t.toInt.toNat).toInt < 0))) : rNx (nSp g h) (F1 x) := by
  unfold rS2 at z
  rw [he] at z
  rw [rNx_of he1]
  refine ⟨fun m hm => ?_, fun k => ?_⟩
  · unfold nmV at hm
    rcases hm with ⟨c1, c2⟩ | ⟨c1, c2⟩ | ⟨c1, c2⟩
    · rcases ht c1 with e | ⟨e, e2⟩
      · rw [c2]
        exact nSp_t e
      · rcases e2 with e2 | e2
        · have k : 100 ≤ t.toInt := z.2.2.2 e2
          rw [c2, e]
          exact nSp_t k
        · rw [c2, e]
          exact nSp_k (z.2.2.1 c1) e2
    · rw [c2]
      exact z.1 c1.1 c1.2.1 c1.2.2.1 c1.2.2.2
    · rw [c2]
      exact z.2.1 c1.1 c1.2.1 c1.2.2
  · rcases ht (by omega) with e | ⟨e, -⟩
    · exact e
    · have k2 : 100 ≤ t.toInt := z.2.2.2 k
      omega
end RSJ
theorem uA_1 {r op ra : Int} (h : uA r op ra) (r1 : r = 1) : op ≠ 20 ∧ op ≠ 21 ∧ op ≠ 30 ∧ ra = 1 := by unfold uA at h; omega
theorem uB_1 {r op rb : Int} (h : uB r op rb) (r1 : r = 1) : 0 < op ∧ op < 20 ∧ rb = 1 := by unfold uB at h; omega
theorem ms_g {S S' n : Nat} {g z : Int} (h : S + 1 - g.toNat < n + 1) (hz : z - g = (S' : Int) - S + 1) (h0 : 0 ≤ g) (h1 : g ≤ S) : S' + 1 - z.toNat < n := by omega
theorem ms_j {S S' n : Nat} {g z : Int} (h : S + 1 - g.toNat < n + 1) (hz : z - g = (S' : Int) - S) (h0 : 0 ≤ g) (h1 : g ≤ S + 1) : S' + 1 - z.toNat < n + 1 := by omega
theorem tn_lt {b : Int} {n : Nat} (h0 : 0 ≤ b) (h : b < n) : b.toNat < n := by omega
theorem tn_le0 {b : Int} {n : Nat} (h0 : 0 ≤ b) (h : b ≤ n) : b.toNat ≤ n := by omega
theorem tn_le1 {b : Int} {n : Nat} (h0 : 0 ≤ b) (h : b + 1 ≤ n) : b.toNat + 1 ≤ n := by omega
theorem tn_le2 {b : Int} {n : Nat} (h0 : 0 ≤ b) (h : b + 2 ≤ n) : b.toNat + 1 + 1 ≤ n := by omega
theorem tn_eq0 {z g : Int} (h0 : 0 ≤ g) (h : z = g) : z.toNat = g.toNat := by omega
theorem tn_eq1 {z g : Int} (h0 : 0 ≤ g) (h : z = g + 1) : z.toNat = g.toNat + 1 := by omega
theorem tn_eq2 {z g : Int} (h0 : 0 ≤ g) (h : z = g + 2) : z.toNat = g.toNat + 1 + 1 := by omega
theorem tn_ge {v : Int} (h : 100 ≤ v) : 100 ≤ v.toNat := by omega
/-- row j of s rows, or the end of the block (its operation is 30 or more) -/
def eO (j : Int) (s : Nat) (o : Int) : Prop := j < s ∨ 30 ≤ o
theorem eO_l {j : Int} {s : Nat} {o : Int} (h : j < s) : eO j s o := Or.inl h
theorem eO_c {j : Int} {s : Nat} {o op : Int} (e : o = op) (h : j < s ∨ 30 ≤ op) : eO j s o := by unfold eO; omega
theorem eO_j {j j1 : Int} {s s1 : Nat} {o o1 op : Int} (h : eO j s o) (e1 : o1 = op) (e : o = op) (k : j1 - j = (s1 : Int) - s) : eO j1 s1 o1 := by unfold eO at h ⊢; omega
theorem eO_r {j : Int} {s : Nat} {o op : Int} (h : eO j s o) (e : o = op) (k : op ≤ 21) : j < s := by unfold eO at h; omega
theorem uS_1 {r op : Int} (h : uS r op) (r1 : r = 1) : op ≤ 21 := by unfold uS at h; omega
theorem rm_pp {a b : Nat} (h : a ≤ b) : 18 * ((b - a) / 18) + a ≤ b ∧ (b - a) + a ≤ b := by omega
end
section
/-! giveAll: names over calls that leave the rows; the colouring of the rows -/
section RGA
variable {D : va_G} {I : FieldType → ClassId} {P P1 : List Nat} {F F1 : Nat → va_E} {γ el γ1 el1 : Nat → Nat → Nat} {f c i j b j1 b1 x n : Nat} {R : Nat → Nat → va_E → Prop} {W : List Nat} {g : Nat → Int32} {s : Int}
theorem rPl_str (hT : RS D I P F γ el) (hc : γ 0 c = 9) (hcf : γ 1 c = f) (hs : rStr γ W F F1) (hW : 1 ∉ W) (h : rPl γ el F c (γ 6 f) R) : rPl γ el F1 c (γ 6 f) R := rPl_fr hT hc hcf h (fun a ha _ => hs a (by omega) (by omega) (by rw [ha]; exact hW))
theorem rNI_str (hT : RS D I P F γ el) (hc : γ 0 c = 9) (hcf : γ 1 c = f) (hs : rStr γ W F F1) (hW : 1 ∉ W) (h : rNI γ el F c (γ 6 f) s) : rNI γ el F1 c (γ 6 f) s := by
  obtain ⟨g, h1, h2⟩ := h
  exact ⟨g, rPl_str hT hc hcf hs hW h1, h2⟩
theorem rNI_put {a k : Nat} (hT : RS D I P F γ el) (hc : γ 0 c = 9) (hcf : γ 1 c = f) (hn : ∀ z, z ≠ a → F1 z = F z) (hk : rKd γ a k) (h1 : k ≠ 1) (h : rNI γ el F c (γ 6 f) s) : rNI γ el F1 c (γ 6 f) s := by
  obtain ⟨g, q1, h2⟩ := h
  exact ⟨g, rPl_fr hT hc hcf q1 (fun z hz _ => hn z (rn_ty (show rKd γ z 1 from hz) hk (fun e => h1 e.symm))), h2⟩
theorem rNI_mg {F0 : Nat → va_E} {γ0 el0 : Nat → Nat → Nat} (hm : ∀ N : Nat → Prop, rPl γ0 el0 F0 c (γ0 6 f) (fun _ _ => rNx N) → rPl γ el F c (γ 6 f) (fun _ _ => rNx N)) (h : rNI γ0 el0 F0 c (γ0 6 f) s) : rNI γ el F c (γ 6 f) s := by
  obtain ⟨g, q1, h2⟩ := h
  exact ⟨g, hm _ q1, h2⟩
theorem rNI_s {s1 : Int} (h : rNI γ el F c n s) (e : s1 = s) : rNI γ el F c n s1 := by rw [e]; exact h
theorem gq_str {v : Nat → Nat → Prop} (hT : RS D I P F γ el) (hc : γ 0 c = 9) (hcf : γ 1 c = f) (hs : rStr γ W F F1) (hW : 1 ∉ W) (h : rGr γ el F c (γ 6 f) g v) : rGr γ el F1 c (γ 6 f) g v := by
  have e : ∀ i j, i < γ 6 f → F1 (rAt γ el c i j) = F (rAt γ el c i j) := fun i j hi => by
    obtain ⟨k1, k2⟩ := rAt_k (j := j) hT hc hcf hi
    exact hs _ (by omega) (by omega) (by rw [k1]; exact hW)
  refine ⟨fun i hi j hj z => ?_, fun m hm => ?_⟩
  · rw [e i j hi]
    exact h.1 i hi j hj z
  · obtain ⟨i, j, hi, hj, q⟩ := h.2 m hm
    exact ⟨i, j, hi, hj, by rw [e i j hi]; exact q⟩
/-- rows not coloured yet have names with colours -/
def cqR (h : Nat → Int32) (b j : Nat) (i j' : Nat) (e : va_E) : Prop := (b < i ∨ (i = b ∧ j ≤ j')) → rNm (fun m => 0 ≤ (h m).toInt) e
theorem cq_0 {h : Nat → Int32} (hg : rGr γ el F c n g (vA n)) (hc : ∀ m, rSd g m → 0 ≤ (h m).toInt) : rPl γ el F c n (cqR h 0 0) := fun i hi j hj _ => rNm_mono hc (hg.1 i hi j hj hi)
theorem cq_at {h : Nat → Int32} (hp : rPl γ el F c n (cqR h b j)) (hx : rAt γ el c b j = x) (hb : b < n) (hj : j ≤ γ 2 (rwL γ el c b)) : rNm (fun m => 0 ≤ (h m).toInt) (F x) := by
  have z := hp b hb j hj (Or.inr ⟨rfl, Nat.le_refl _⟩)
  rw [hx] at z
  exact z
theorem cq_put {h : Nat → Int32} (hT : RS D I P F γ el) (hc : γ 0 c = 9) (hcf : γ 1 c = f) (hp : rPl γ el F c (γ 6 f) (cqR h b j)) (hn : ∀ z, z ≠ x → F1 z = F z) (hx : rAt γ el c b j = x) (hb : b < γ 6 f) (hj : j ≤ γ 2 (rwL γ el c b)) (h1 : j1 = j + 1) : rPl γ el F1 c (γ 6 f) (cqR h b j1) := by
  subst h1
  exact rPl_put hT hc hcf hp hn hx hb hj (fun i j' e hne z q => z (by omega)) (fun q => by omega)
theorem cq_nx {h : Nat → Int32} (hp : rPl γ el F c n (cqR h b j)) (hb : b1 = b + 1) : rPl γ el F c n (cqR h b1 0) := by
  subst hb
  exact rPl_mono hp (fun i j' e _ _ z q => z (by omega))
end RGA
end
section
/- tl_RModel_rename_20: F, l5; out: F -/
def tl_RModel_rename_20 (D : va_G) (I : FieldType → ClassId) (γ el : Nat → Nat → Nat) (P : List Nat) (F : Nat → va_E) (a2 : Int32) (a1 : Int32) (q0 : Nat) (c1 : Nat) (s1 : Nat → va_E) (s2 : Int32) (k : Nat) (e1 : Nat → va_E) : Prop := ∀ R : (Nat → va_E) → (Int32) → Nat → (Nat → va_E) → Prop,
  (∀ (F_2 : Nat → va_E) (l5_2 : Int32) (x1 : Nat) (x2 : Int32), gB l5_2 0 1000001 → RS D I P F_2 γ el → rStr γ [1] F F_2 → ((∀ N : Nat → Prop, N (a2.toInt : Int).toNat → a1.toInt < 100 → rPl γ el F q0 (γ 6 (γ 1 q0)) (fun _ _ => rNx N) → rPl γ el F_2 q0 (γ 6 (γ 1 q0)) (fun _ _ => rNx N))) → rFk [1] γ F F_2 → rFs γ (γ 1 q0) F F_2 → fR (F_2 c1) 0 = x1 → x2.toInt = (γ 2 x1 : Int) → fI (F_2 x1) 2 = x2 → x2.toInt < l5_2.toInt → R F_2 l5_2 144 F_2) →
  (∀ (F_2 : Nat → va_E) (l5_2 : Int32) (x1 : Nat) (x2 : Int32) (x3 : Nat) (x4 : Int32) (x5 : Int32) (x6 : Int32) (x7 : Int32) (x8 : Int32) (x9 : Int32) (x10 : Int32) (k : Nat) (e1 : Nat → va_E), gB l5_2 0 1000001 → RS D I P F_2 γ el → rStr γ [1] F F_2 → ((∀ N : Nat → Prop, N (a2.toInt : Int).toNat → a1.toInt < 100 → rPl γ el F q0 (γ 6 (γ 1 q0)) (fun _ _ => rNx N) → rPl γ el F_2 q0 (γ 6 (γ 1 q0)) (fun _ _ => rNx N))) → rFk [1] γ F F_2 → rFs γ (γ 1 q0) F F_2 → fR (F_2 c1) 0 = x1 → x2.toInt = (γ 2 x1 : Int) → fI (F_2 x1) 2 = x2 → l5_2.toInt ≤ x2.toInt → x2.toInt = (γ 2 x1 : Int) → x2.toInt ≤ l5_2.toInt → fR (F_2 c1) 1 = x3 → fI (F_2 x3) 0 = x4 → fI (F_2 x3) 5 = x5 → gB x6 0 1 → tr_RRow_usesA x4 x5 x6 → x6.toInt = 0 → fI (F_2 x3) 6 = x7 → gB x8 0 1 → tr_RRow_usesB x4 x7 x8 → x8.toInt = 0 → gB x9 0 1 → tr_RRow_sets x4 x9 → x9.toInt = 0 → x10.toInt = l5_2.toInt + 1 → R F_2 x10 k e1 → R F_2 l5_2 k e1) →
  (∀ (F_2 : Nat → va_E) (l5_2 : Int32) (x1 : Nat) (x2 : Int32) (x3 : Nat) (x4 : Int32) (x5 : Int32) (x6 : Int32) (x7 : Int32) (x8 : Int32) (x9 : Int32) (x10 : Int32) (x11 : Int32) (k : Nat) (e1 : Nat → va_E), gB l5_2 0 1000001 → RS D I P F_2 γ el → rStr γ [1] F F_2 → ((∀ N : Nat → Prop, N (a2.toInt : Int).toNat → a1.toInt < 100 → rPl γ el F q0 (γ 6 (γ 1 q0)) (fun _ _ => rNx N) → rPl γ el F_2 q0 (γ 6 (γ 1 q0)) (fun _ _ => rNx N))) → rFk [1] γ F F_2 → rFs γ (γ 1 q0) F F_2 → fR (F_2 c1) 0 = x1 → x2.toInt = (γ 2 x1 : Int) → fI (F_2 x1) 2 = x2 → l5_2.toInt ≤ x2.toInt → x2.toInt = (γ 2 x1 : Int) → x2.toInt ≤ l5_2.toInt → fR (F_2 c1) 1 = x3 → fI (F_2 x3) 0 = x4 → fI (F_2 x3) 5 = x5 → gB x6 0 1 → tr_RRow_usesA x4 x5 x6 → x6.toInt = 0 → fI (F_2 x3) 6 = x7 → gB x8 0 1 → tr_RRow_usesB x4 x7 x8 → x8.toInt = 0 → gB x9 0 1 → tr_RRow_sets x4 x9 → x9.toInt ≠ 0 → fI (F_2 x3) 1 = x10 → x10.toInt ≠ a1.toInt → x11.toInt = l5_2.toInt + 1 → R F_2 x11 k e1 → R F_2 l5_2 k e1) →
  (∀ (F_2 : Nat → va_E) (l5_2 : Int32) (x1 : Nat) (x2 : Int32) (x3 : Nat) (x4 : Int32) (x5 : Int32) (x6 : Int32) (x7 : Int32) (x8 : Int32) (x9 : Int32) (x10 : Int32) (x11 : Nat → va_E) (x12 : Int32) (k : Nat) (e1 : Nat → va_E), gB l5_2 0 1000001 → RS D I P F_2 γ el → rStr γ [1] F F_2 → ((∀ N : Nat → Prop, N (a2.toInt : Int).toNat → a1.toInt < 100 → rPl γ el F q0 (γ 6 (γ 1 q0)) (fun _ _ => rNx N) → rPl γ el F_2 q0 (γ 6 (γ 1 q0)) (fun _ _ => rNx N))) → rFk [1] γ F F_2 → rFs γ (γ 1 q0) F F_2 → fR (F_2 c1) 0 = x1 → x2.toInt = (γ 2 x1 : Int) → fI (F_2 x1) 2 = x2 → l5_2.toInt ≤ x2.toInt → x2.toInt = (γ 2 x1 : Int) → x2.toInt ≤ l5_2.toInt → fR (F_2 c1) 1 = x3 → fI (F_2 x3) 0 = x4 → fI (F_2 x3) 5 = x5 → gB x6 0 1 → tr_RRow_usesA x4 x5 x6 → x6.toInt = 0 → fI (F_2 x3) 6 = x7 → gB x8 0 1 → tr_RRow_usesB x4 x7 x8 → x8.toInt = 0 → gB x9 0 1 → tr_RRow_sets x4 x9 → x9.toInt ≠ 0 → fI (F_2 x3) 1 = x10 → x10.toInt = a1.toInt → (∀ b, b ≠ x3 → x11 b = F_2 b) → x11 x3 = cF (F_2 x3) 1 (.int a2) → x12.toInt = l5_2.toInt + 1 → R x11 x12 k e1 → R F_2 l5_2 k e1) →
  (∀ (F_2 : Nat → va_E) (l5_2 : Int32) (x1 : Nat) (x2 : Int32) (x3 : Nat) (x4 : Int32) (x5 : Int32) (x6 : Int32) (x7 : Int32) (x8 : Int32) (x9 : Int32) (x10 : Int32) (x11 : Int32) (k : Nat) (e1 : Nat → va_E), gB l5_2 0 1000001 → RS D I P F_2 γ el → rStr γ [1] F F_2 → ((∀ N : Nat → Prop, N (a2.toInt : Int).toNat → a1.toInt < 100 → rPl γ el F q0 (γ 6 (γ 1 q0)) (fun _ _ => rNx N) → rPl γ el F_2 q0 (γ 6 (γ 1 q0)) (fun _ _ => rNx N))) → rFk [1] γ F F_2 → rFs γ (γ 1 q0) F F_2 → fR (F_2 c1) 0 = x1 → x2.toInt = (γ 2 x1 : Int) → fI (F_2 x1) 2 = x2 → l5_2.toInt ≤ x2.toInt → x2.toInt = (γ 2 x1 : Int) → x2.toInt ≤ l5_2.toInt → fR (F_2 c1) 1 = x3 → fI (F_2 x3) 0 = x4 → fI (F_2 x3) 5 = x5 → gB x6 0 1 → tr_RRow_usesA x4 x5 x6 → x6.toInt = 0 → fI (F_2 x3) 6 = x7 → gB x8 0 1 → tr_RRow_usesB x4 x7 x8 → x8.toInt ≠ 0 → fI (F_2 x3) 3 = x9 → x9.toInt ≠ a1.toInt → gB x10 0 1 → tr_RRow_sets x4 x10 → x10.toInt = 0 → x11.toInt = l5_2.toInt + 1 → R F_2 x11 k e1 → R F_2 l5_2 k e1) →
  (∀ (F_2 : Nat → va_E) (l5_2 : Int32) (x1 : Nat) (x2 : Int32) (x3 : Nat) (x4 : Int32) (x5 : Int32) (x6 : Int32) (x7 : Int32) (x8 : Int32) (x9 : Int32) (x10 : Int32) (x11 : Int32) (x12 : Int32) (k : Nat) (e1 : Nat → va_E), gB l5_2 0 1000001 → RS D I P F_2 γ el → rStr γ [1] F F_2 → ((∀ N : Nat → Prop, N (a2.toInt : Int).toNat → a1.toInt < 100 → rPl γ el F q0 (γ 6 (γ 1 q0)) (fun _ _ => rNx N) → rPl γ el F_2 q0 (γ 6 (γ 1 q0)) (fun _ _ => rNx N))) → rFk [1] γ F F_2 → rFs γ (γ 1 q0) F F_2 → fR (F_2 c1) 0 = x1 → x2.toInt = (γ 2 x1 : Int) → fI (F_2 x1) 2 = x2 → l5_2.toInt ≤ x2.toInt → x2.toInt = (γ 2 x1 : Int) → x2.toInt ≤ l5_2.toInt → fR (F_2 c1) 1 = x3 → fI (F_2 x3) 0 = x4 → fI (F_2 x3) 5 = x5 → gB x6 0 1 → tr_RRow_usesA x4 x5 x6 → x6.toInt = 0 → fI (F_2 x3) 6 = x7 → gB x8 0 1 → tr_RRow_usesB x4 x7 x8 → x8.toInt ≠ 0 → fI (F_2 x3) 3 = x9 → x9.toInt ≠ a1.toInt → gB x10 0 1 → tr_RRow_sets x4 x10 → x10.toInt ≠ 0 → fI (F_2 x3) 1 = x11 → x11.toInt ≠ a1.toInt → x12.toInt = l5_2.toInt + 1 → R F_2 x12 k e1 → R F_2 l5_2 k e1) →
  (∀ (F_2 : Nat → va_E) (l5_2 : Int32) (x1 : Nat) (x2 : Int32) (x3 : Nat) (x4 : Int32) (x5 : Int32) (x6 : Int32) (x7 : Int32) (x8 : Int32) (x9 : Int32) (x10 : Int32) (x11 : Int32) (x12 : Nat → va_E) (x13 : Int32) (k : Nat) (e1 : Nat → va_E), gB l5_2 0 1000001 → RS D I P F_2 γ el → rStr γ [1] F F_2 → ((∀ N : Nat → Prop, N (a2.toInt : Int).toNat → a1.toInt < 100 → rPl γ el F q0 (γ 6 (γ 1 q0)) (fun _ _ => rNx N) → rPl γ el F_2 q0 (γ 6 (γ 1 q0)) (fun _ _ => rNx N))) → rFk [1] γ F F_2 → rFs γ (γ 1 q0) F F_2 → fR (F_2 c1) 0 = x1 → x2.toInt = (γ 2 x1 : Int) → fI (F_2 x1) 2 = x2 → l5_2.toInt ≤ x2.toInt → x2.toInt = (γ 2 x1 : Int) → x2.toInt ≤ l5_2.toInt → fR (F_2 c1) 1 = x3 → fI (F_2 x3) 0 = x4 → fI (F_2 x3) 5 = x5 → gB x6 0 1 → tr_RRow_usesA x4 x5 x6 → x6.toInt = 0 → fI (F_2 x3) 6 = x7 → gB x8 0 1 → tr_RRow_usesB x4 x7 x8 → x8.toInt ≠ 0 → fI (F_2 x3) 3 = x9 → x9.toInt ≠ a1.toInt → gB x10 0 1 → tr_RRow_sets x4 x10 → x10.toInt ≠ 0 → fI (F_2 x3) 1 = x11 → x11.toInt = a1.toInt → (∀ b, b ≠ x3 → x12 b = F_2 b) → x12 x3 = cF (F_2 x3) 1 (.int a2) → x13.toInt = l5_2.toInt + 1 → R x12 x13 k e1 → R F_2 l5_2 k e1) →
  (∀ (F_2 : Nat → va_E) (l5_2 : Int32) (x1 : Nat) (x2 : Int32) (x3 : Nat) (x4 : Int32) (x5 : Int32) (x6 : Int32) (x7 : Int32) (x8 : Int32) (x9 : Int32) (x10 : Nat → va_E) (x11 : Int32) (x12 : Int32) (k : Nat) (e1 : Nat → va_E), gB l5_2 0 1000001 → RS D I P F_2 γ el → rStr γ [1] F F_2 → ((∀ N : Nat → Prop, N (a2.toInt : Int).toNat → a1.toInt < 100 → rPl γ el F q0 (γ 6 (γ 1 q0)) (fun _ _ => rNx N) → rPl γ el F_2 q0 (γ 6 (γ 1 q0)) (fun _ _ => rNx N))) → rFk [1] γ F F_2 → rFs γ (γ 1 q0) F F_2 → fR (F_2 c1) 0 = x1 → x2.toInt = (γ 2 x1 : Int) → fI (F_2 x1) 2 = x2 → l5_2.toInt ≤ x2.toInt → x2.toInt = (γ 2 x1 : Int) → x2.toInt ≤ l5_2.toInt → fR (F_2 c1) 1 = x3 → fI (F_2 x3) 0 = x4 → fI (F_2 x3) 5 = x5 → gB x6 0 1 → tr_RRow_usesA x4 x5 x6 → x6.toInt = 0 → fI (F_2 x3) 6 = x7 → gB x8 0 1 → tr_RRow_usesB x4 x7 x8 → x8.toInt ≠ 0 → fI (F_2 x3) 3 = x9 → x9.toInt = a1.toInt → (∀ b, b ≠ x3 → x10 b = F_2 b) → x10 x3 = cF (F_2 x3) 3 (.int a2) → fI (x10 x3) 0 = x4 → gB x11 0 1 → tr_RRow_sets x4 x11 → x11.toInt = 0 → x12.toInt = l5_2.toInt + 1 → R x10 x12 k e1 → R F_2 l5_2 k e1) →
  (∀ (F_2 : Nat → va_E) (l5_2 : Int32) (x1 : Nat) (x2 : Int32) (x3 : Nat) (x4 : Int32) (x5 : Int32) (x6 : Int32) (x7 : Int32) (x8 : Int32) (x9 : Int32) (x10 : Nat → va_E) (x11 : Int32) (x12 : Int32) (x13 : Int32) (k : Nat) (e1 : Nat → va_E), gB l5_2 0 1000001 → RS D I P F_2 γ el → rStr γ [1] F F_2 → ((∀ N : Nat → Prop, N (a2.toInt : Int).toNat → a1.toInt < 100 → rPl γ el F q0 (γ 6 (γ 1 q0)) (fun _ _ => rNx N) → rPl γ el F_2 q0 (γ 6 (γ 1 q0)) (fun _ _ => rNx N))) → rFk [1] γ F F_2 → rFs γ (γ 1 q0) F F_2 → fR (F_2 c1) 0 = x1 → x2.toInt = (γ 2 x1 : Int) → fI (F_2 x1) 2 = x2 → l5_2.toInt ≤ x2.toInt → x2.toInt = (γ 2 x1 : Int) → x2.toInt ≤ l5_2.toInt → fR (F_2 c1) 1 = x3 → fI (F_2 x3) 0 = x4 → fI (F_2 x3) 5 = x5 → gB x6 0 1 → tr_RRow_usesA x4 x5 x6 → x6.toInt = 0 → fI (F_2 x3) 6 = x7 → gB x8 0 1 → tr_RRow_usesB x4 x7 x8 → x8.toInt ≠ 0 → fI (F_2 x3) 3 = x9 → x9.toInt = a1.toInt → (∀ b, b ≠ x3 → x10 b = F_2 b) → x10 x3 = cF (F_2 x3) 3 (.int a2) → fI (x10 x3) 0 = x4 → gB x11 0 1 → tr_RRow_sets x4 x11 → x11.toInt ≠ 0 → fI (x10 x3) 1 = x12 → x12.toInt ≠ a1.toInt → x13.toInt = l5_2.toInt + 1 → R x10 x13 k e1 → R F_2 l5_2 k e1) →
  (∀ (F_2 : Nat → va_E) (l5_2 : Int32) (x1 : Nat) (x2 : Int32) (x3 : Nat) (x4 : Int32) (x5 : Int32) (x6 : Int32) (x7 : Int32) (x8 : Int32) (x9 : Int32) (x10 : Nat → va_E) (x11 : Int32) (x12 : Int32) (x13 : Nat → va_E) (x14 : Int32) (k : Nat) (e1 : Nat → va_E), gB l5_2 0 1000001 → RS D I P F_2 γ el → rStr γ [1] F F_2 → ((∀ N : Nat → Prop, N (a2.toInt : Int).toNat → a1.toInt < 100 → rPl γ el F q0 (γ 6 (γ 1 q0)) (fun _ _ => rNx N) → rPl γ el F_2 q0 (γ 6 (γ 1 q0)) (fun _ _ => rNx N))) → rFk [1] γ F F_2 → rFs γ (γ 1 q0) F F_2 → fR (F_2 c1) 0 = x1 → x2.toInt = (γ 2 x1 : Int) → fI (F_2 x1) 2 = x2 → l5_2.toInt ≤ x2.toInt → x2.toInt = (γ 2 x1 : Int) → x2.toInt ≤ l5_2.toInt → fR (F_2 c1) 1 = x3 → fI (F_2 x3) 0 = x4 → fI (F_2 x3) 5 = x5 → gB x6 0 1 → tr_RRow_usesA x4 x5 x6 → x6.toInt = 0 → fI (F_2 x3) 6 = x7 → gB x8 0 1 → tr_RRow_usesB x4 x7 x8 → x8.toInt ≠ 0 → fI (F_2 x3) 3 = x9 → x9.toInt = a1.toInt → (∀ b, b ≠ x3 → x10 b = F_2 b) → x10 x3 = cF (F_2 x3) 3 (.int a2) → fI (x10 x3) 0 = x4 → gB x11 0 1 → tr_RRow_sets x4 x11 → x11.toInt ≠ 0 → fI (x10 x3) 1 = x12 → x12.toInt = a1.toInt → (∀ b, b ≠ x3 → x13 b = x10 b) → x13 x3 = cF (x10 x3) 1 (.int a2) → x14.toInt = l5_2.toInt + 1 → R x13 x14 k e1 → R F_2 l5_2 k e1) →
  (∀ (F_2 : Nat → va_E) (l5_2 : Int32) (x1 : Nat) (x2 : Int32) (x3 : Nat) (x4 : Int32) (x5 : Int32) (x6 : Int32) (x7 : Int32) (x8 : Int32) (x9 : Int32) (x10 : Int32) (x11 : Int32) (k : Nat) (e1 : Nat → va_E), gB l5_2 0 1000001 → RS D I P F_2 γ el → rStr γ [1] F F_2 → ((∀ N : Nat → Prop, N (a2.toInt : Int).toNat → a1.toInt < 100 → rPl γ el F q0 (γ 6 (γ 1 q0)) (fun _ _ => rNx N) → rPl γ el F_2 q0 (γ 6 (γ 1 q0)) (fun _ _ => rNx N))) → rFk [1] γ F F_2 → rFs γ (γ 1 q0) F F_2 → fR (F_2 c1) 0 = x1 → x2.toInt = (γ 2 x1 : Int) → fI (F_2 x1) 2 = x2 → l5_2.toInt ≤ x2.toInt → x2.toInt = (γ 2 x1 : Int) → x2.toInt ≤ l5_2.toInt → fR (F_2 c1) 1 = x3 → fI (F_2 x3) 0 = x4 → fI (F_2 x3) 5 = x5 → gB x6 0 1 → tr_RRow_usesA x4 x5 x6 → x6.toInt ≠ 0 → fI (F_2 x3) 2 = x7 → x7.toInt ≠ a1.toInt → fI (F_2 x3) 6 = x8 → gB x9 0 1 → tr_RRow_usesB x4 x8 x9 → x9.toInt = 0 → gB x10 0 1 → tr_RRow_sets x4 x10 → x10.toInt = 0 → x11.toInt = l5_2.toInt + 1 → R F_2 x11 k e1 → R F_2 l5_2 k e1) →
  (∀ (F_2 : Nat → va_E) (l5_2 : Int32) (x1 : Nat) (x2 : Int32) (x3 : Nat) (x4 : Int32) (x5 : Int32) (x6 : Int32) (x7 : Int32) (x8 : Int32) (x9 : Int32) (x10 : Int32) (x11 : Int32) (x12 : Int32) (k : Nat) (e1 : Nat → va_E), gB l5_2 0 1000001 → RS D I P F_2 γ el → rStr γ [1] F F_2 → ((∀ N : Nat → Prop, N (a2.toInt : Int).toNat → a1.toInt < 100 → rPl γ el F q0 (γ 6 (γ 1 q0)) (fun _ _ => rNx N) → rPl γ el F_2 q0 (γ 6 (γ 1 q0)) (fun _ _ => rNx N))) → rFk [1] γ F F_2 → rFs γ (γ 1 q0) F F_2 → fR (F_2 c1) 0 = x1 → x2.toInt = (γ 2 x1 : Int) → fI (F_2 x1) 2 = x2 → l5_2.toInt ≤ x2.toInt → x2.toInt = (γ 2 x1 : Int) → x2.toInt ≤ l5_2.toInt → fR (F_2 c1) 1 = x3 → fI (F_2 x3) 0 = x4 → fI (F_2 x3) 5 = x5 → gB x6 0 1 → tr_RRow_usesA x4 x5 x6 → x6.toInt ≠ 0 → fI (F_2 x3) 2 = x7 → x7.toInt ≠ a1.toInt → fI (F_2 x3) 6 = x8 → gB x9 0 1 → tr_RRow_usesB x4 x8 x9 → x9.toInt = 0 → gB x10 0 1 → tr_RRow_sets x4 x10 → x10.toInt ≠ 0 → fI (F_2 x3) 1 = x11 → x11.toInt ≠ a1.toInt → x12.toInt = l5_2.toInt + 1 → R F_2 x12 k e1 → R F_2 l5_2 k e1) →
  (∀ (F_2 : Nat → va_E) (l5_2 : Int32) (x1 : Nat) (x2 : Int32) (x3 : Nat) (x4 : Int32) (x5 : Int32) (x6 : Int32) (x7 : Int32) (x8 : Int32) (x9 : Int32) (x10 : Int32) (x11 : Int32) (x12 : Nat → va_E) (x13 : Int32) (k : Nat) (e1 : Nat → va_E), gB l5_2 0 1000001 → RS D I P F_2 γ el → rStr γ [1] F F_2 → ((∀ N : Nat → Prop, N (a2.toInt : Int).toNat → a1.toInt < 100 → rPl γ el F q0 (γ 6 (γ 1 q0)) (fun _ _ => rNx N) → rPl γ el F_2 q0 (γ 6 (γ 1 q0)) (fun _ _ => rNx N))) → rFk [1] γ F F_2 → rFs γ (γ 1 q0) F F_2 → fR (F_2 c1) 0 = x1 → x2.toInt = (γ 2 x1 : Int) → fI (F_2 x1) 2 = x2 → l5_2.toInt ≤ x2.toInt → x2.toInt = (γ 2 x1 : Int) → x2.toInt ≤ l5_2.toInt → fR (F_2 c1) 1 = x3 → fI (F_2 x3) 0 = x4 → fI (F_2 x3) 5 = x5 → gB x6 0 1 → tr_RRow_usesA x4 x5 x6 → x6.toInt ≠ 0 → fI (F_2 x3) 2 = x7 → x7.toInt ≠ a1.toInt → fI (F_2 x3) 6 = x8 → gB x9 0 1 → tr_RRow_usesB x4 x8 x9 → x9.toInt = 0 → gB x10 0 1 → tr_RRow_sets x4 x10 → x10.toInt ≠ 0 → fI (F_2 x3) 1 = x11 → x11.toInt = a1.toInt → (∀ b, b ≠ x3 → x12 b = F_2 b) → x12 x3 = cF (F_2 x3) 1 (.int a2) → x13.toInt = l5_2.toInt + 1 → R x12 x13 k e1 → R F_2 l5_2 k e1) →
  (∀ (F_2 : Nat → va_E) (l5_2 : Int32) (x1 : Nat) (x2 : Int32) (x3 : Nat) (x4 : Int32) (x5 : Int32) (x6 : Int32) (x7 : Int32) (x8 : Int32) (x9 : Int32) (x10 : Int32) (x11 : Int32) (x12 : Int32) (k : Nat) (e1 : Nat → va_E), gB l5_2 0 1000001 → RS D I P F_2 γ el → rStr γ [1] F F_2 → ((∀ N : Nat → Prop, N (a2.toInt : Int).toNat → a1.toInt < 100 → rPl γ el F q0 (γ 6 (γ 1 q0)) (fun _ _ => rNx N) → rPl γ el F_2 q0 (γ 6 (γ 1 q0)) (fun _ _ => rNx N))) → rFk [1] γ F F_2 → rFs γ (γ 1 q0) F F_2 → fR (F_2 c1) 0 = x1 → x2.toInt = (γ 2 x1 : Int) → fI (F_2 x1) 2 = x2 → l5_2.toInt ≤ x2.toInt → x2.toInt = (γ 2 x1 : Int) → x2.toInt ≤ l5_2.toInt → fR (F_2 c1) 1 = x3 → fI (F_2 x3) 0 = x4 → fI (F_2 x3) 5 = x5 → gB x6 0 1 → tr_RRow_usesA x4 x5 x6 → x6.toInt ≠ 0 → fI (F_2 x3) 2 = x7 → x7.toInt ≠ a1.toInt → fI (F_2 x3) 6 = x8 → gB x9 0 1 → tr_RRow_usesB x4 x8 x9 → x9.toInt ≠ 0 → fI (F_2 x3) 3 = x10 → x10.toInt ≠ a1.toInt → gB x11 0 1 → tr_RRow_sets x4 x11 → x11.toInt = 0 → x12.toInt = l5_2.toInt + 1 → R F_2 x12 k e1 → R F_2 l5_2 k e1) →
  (∀ (F_2 : Nat → va_E) (l5_2 : Int32) (x1 : Nat) (x2 : Int32) (x3 : Nat) (x4 : Int32) (x5 : Int32) (x6 : Int32) (x7 : Int32) (x8 : Int32) (x9 : Int32) (x10 : Int32) (x11 : Int32) (x12 : Int32) (x13 : Int32) (k : Nat) (e1 : Nat → va_E), gB l5_2 0 1000001 → RS D I P F_2 γ el → rStr γ [1] F F_2 → ((∀ N : Nat → Prop, N (a2.toInt : Int).toNat → a1.toInt < 100 → rPl γ el F q0 (γ 6 (γ 1 q0)) (fun _ _ => rNx N) → rPl γ el F_2 q0 (γ 6 (γ 1 q0)) (fun _ _ => rNx N))) → rFk [1] γ F F_2 → rFs γ (γ 1 q0) F F_2 → fR (F_2 c1) 0 = x1 → x2.toInt = (γ 2 x1 : Int) → fI (F_2 x1) 2 = x2 → l5_2.toInt ≤ x2.toInt → x2.toInt = (γ 2 x1 : Int) → x2.toInt ≤ l5_2.toInt → fR (F_2 c1) 1 = x3 → fI (F_2 x3) 0 = x4 → fI (F_2 x3) 5 = x5 → gB x6 0 1 → tr_RRow_usesA x4 x5 x6 → x6.toInt ≠ 0 → fI (F_2 x3) 2 = x7 → x7.toInt ≠ a1.toInt → fI (F_2 x3) 6 = x8 → gB x9 0 1 → tr_RRow_usesB x4 x8 x9 → x9.toInt ≠ 0 → fI (F_2 x3) 3 = x10 → x10.toInt ≠ a1.toInt → gB x11 0 1 → tr_RRow_sets x4 x11 → x11.toInt ≠ 0 → fI (F_2 x3) 1 = x12 → x12.toInt ≠ a1.toInt → x13.toInt = l5_2.toInt + 1 → R F_2 x13 k e1 → R F_2 l5_2 k e1) →
  (∀ (F_2 : Nat → va_E) (l5_2 : Int32) (x1 : Nat) (x2 : Int32) (x3 : Nat) (x4 : Int32) (x5 : Int32) (x6 : Int32) (x7 : Int32) (x8 : Int32) (x9 : Int32) (x10 : Int32) (x11 : Int32) (x12 : Int32) (x13 : Nat → va_E) (x14 : Int32) (k : Nat) (e1 : Nat → va_E), gB l5_2 0 1000001 → RS D I P F_2 γ el → rStr γ [1] F F_2 → ((∀ N : Nat → Prop, N (a2.toInt : Int).toNat → a1.toInt < 100 → rPl γ el F q0 (γ 6 (γ 1 q0)) (fun _ _ => rNx N) → rPl γ el F_2 q0 (γ 6 (γ 1 q0)) (fun _ _ => rNx N))) → rFk [1] γ F F_2 → rFs γ (γ 1 q0) F F_2 → fR (F_2 c1) 0 = x1 → x2.toInt = (γ 2 x1 : Int) → fI (F_2 x1) 2 = x2 → l5_2.toInt ≤ x2.toInt → x2.toInt = (γ 2 x1 : Int) → x2.toInt ≤ l5_2.toInt → fR (F_2 c1) 1 = x3 → fI (F_2 x3) 0 = x4 → fI (F_2 x3) 5 = x5 → gB x6 0 1 → tr_RRow_usesA x4 x5 x6 → x6.toInt ≠ 0 → fI (F_2 x3) 2 = x7 → x7.toInt ≠ a1.toInt → fI (F_2 x3) 6 = x8 → gB x9 0 1 → tr_RRow_usesB x4 x8 x9 → x9.toInt ≠ 0 → fI (F_2 x3) 3 = x10 → x10.toInt ≠ a1.toInt → gB x11 0 1 → tr_RRow_sets x4 x11 → x11.toInt ≠ 0 → fI (F_2 x3) 1 = x12 → x12.toInt = a1.toInt → (∀ b, b ≠ x3 → x13 b = F_2 b) → x13 x3 = cF (F_2 x3) 1 (.int a2) → x14.toInt = l5_2.toInt + 1 → R x13 x14 k e1 → R F_2 l5_2 k e1) →
  (∀ (F_2 : Nat → va_E) (l5_2 : Int32) (x1 : Nat) (x2 : Int32) (x3 : Nat) (x4 : Int32) (x5 : Int32) (x6 : Int32) (x7 : Int32) (x8 : Int32) (x9 : Int32) (x10 : Int32) (x11 : Nat → va_E) (x12 : Int32) (x13 : Int32) (k : Nat) (e1 : Nat → va_E), gB l5_2 0 1000001 → RS D I P F_2 γ el → rStr γ [1] F F_2 → ((∀ N : Nat → Prop, N (a2.toInt : Int).toNat → a1.toInt < 100 → rPl γ el F q0 (γ 6 (γ 1 q0)) (fun _ _ => rNx N) → rPl γ el F_2 q0 (γ 6 (γ 1 q0)) (fun _ _ => rNx N))) → rFk [1] γ F F_2 → rFs γ (γ 1 q0) F F_2 → fR (F_2 c1) 0 = x1 → x2.toInt = (γ 2 x1 : Int) → fI (F_2 x1) 2 = x2 → l5_2.toInt ≤ x2.toInt → x2.toInt = (γ 2 x1 : Int) → x2.toInt ≤ l5_2.toInt → fR (F_2 c1) 1 = x3 → fI (F_2 x3) 0 = x4 → fI (F_2 x3) 5 = x5 → gB x6 0 1 → tr_RRow_usesA x4 x5 x6 → x6.toInt ≠ 0 → fI (F_2 x3) 2 = x7 → x7.toInt ≠ a1.toInt → fI (F_2 x3) 6 = x8 → gB x9 0 1 → tr_RRow_usesB x4 x8 x9 → x9.toInt ≠ 0 → fI (F_2 x3) 3 = x10 → x10.toInt = a1.toInt → (∀ b, b ≠ x3 → x11 b = F_2 b) → x11 x3 = cF (F_2 x3) 3 (.int a2) → fI (x11 x3) 0 = x4 → gB x12 0 1 → tr_RRow_sets x4 x12 → x12.toInt = 0 → x13.toInt = l5_2.toInt + 1 → R x11 x13 k e1 → R F_2 l5_2 k e1) →
  (∀ (F_2 : Nat → va_E) (l5_2 : Int32) (x1 : Nat) (x2 : Int32) (x3 : Nat) (x4 : Int32) (x5 : Int32) (x6 : Int32) (x7 : Int32) (x8 : Int32) (x9 : Int32) (x10 : Int32) (x11 : Nat → va_E) (x12 : Int32) (x13 : Int32) (x14 : Int32) (k : Nat) (e1 : Nat → va_E), gB l5_2 0 1000001 → RS D I P F_2 γ el → rStr γ [1] F F_2 → ((∀ N : Nat → Prop, N (a2.toInt : Int).toNat → a1.toInt < 100 → rPl γ el F q0 (γ 6 (γ 1 q0)) (fun _ _ => rNx N) → rPl γ el F_2 q0 (γ 6 (γ 1 q0)) (fun _ _ => rNx N))) → rFk [1] γ F F_2 → rFs γ (γ 1 q0) F F_2 → fR (F_2 c1) 0 = x1 → x2.toInt = (γ 2 x1 : Int) → fI (F_2 x1) 2 = x2 → l5_2.toInt ≤ x2.toInt → x2.toInt = (γ 2 x1 : Int) → x2.toInt ≤ l5_2.toInt → fR (F_2 c1) 1 = x3 → fI (F_2 x3) 0 = x4 → fI (F_2 x3) 5 = x5 → gB x6 0 1 → tr_RRow_usesA x4 x5 x6 → x6.toInt ≠ 0 → fI (F_2 x3) 2 = x7 → x7.toInt ≠ a1.toInt → fI (F_2 x3) 6 = x8 → gB x9 0 1 → tr_RRow_usesB x4 x8 x9 → x9.toInt ≠ 0 → fI (F_2 x3) 3 = x10 → x10.toInt = a1.toInt → (∀ b, b ≠ x3 → x11 b = F_2 b) → x11 x3 = cF (F_2 x3) 3 (.int a2) → fI (x11 x3) 0 = x4 → gB x12 0 1 → tr_RRow_sets x4 x12 → x12.toInt ≠ 0 → fI (x11 x3) 1 = x13 → x13.toInt ≠ a1.toInt → x14.toInt = l5_2.toInt + 1 → R x11 x14 k e1 → R F_2 l5_2 k e1) →
  (∀ (F_2 : Nat → va_E) (l5_2 : Int32) (x1 : Nat) (x2 : Int32) (x3 : Nat) (x4 : Int32) (x5 : Int32) (x6 : Int32) (x7 : Int32) (x8 : Int32) (x9 : Int32) (x10 : Int32) (x11 : Nat → va_E) (x12 : Int32) (x13 : Int32) (x14 : Nat → va_E) (x15 : Int32) (k : Nat) (e1 : Nat → va_E), gB l5_2 0 1000001 → RS D I P F_2 γ el → rStr γ [1] F F_2 → ((∀ N : Nat → Prop, N (a2.toInt : Int).toNat → a1.toInt < 100 → rPl γ el F q0 (γ 6 (γ 1 q0)) (fun _ _ => rNx N) → rPl γ el F_2 q0 (γ 6 (γ 1 q0)) (fun _ _ => rNx N))) → rFk [1] γ F F_2 → rFs γ (γ 1 q0) F F_2 → fR (F_2 c1) 0 = x1 → x2.toInt = (γ 2 x1 : Int) → fI (F_2 x1) 2 = x2 → l5_2.toInt ≤ x2.toInt → x2.toInt = (γ 2 x1 : Int) → x2.toInt ≤ l5_2.toInt → fR (F_2 c1) 1 = x3 → fI (F_2 x3) 0 = x4 → fI (F_2 x3) 5 = x5 → gB x6 0 1 → tr_RRow_usesA x4 x5 x6 → x6.toInt ≠ 0 → fI (F_2 x3) 2 = x7 → x7.toInt ≠ a1.toInt → fI (F_2 x3) 6 = x8 → gB x9 0 1 → tr_RRow_usesB x4 x8 x9 → x9.toInt ≠ 0 → fI (F_2 x3) 3 = x10 → x10.toInt = a1.toInt → (∀ b, b ≠ x3 → x11 b = F_2 b) → x11 x3 = cF (F_2 x3) 3 (.int a2) → fI (x11 x3) 0 = x4 → gB x12 0 1 → tr_RRow_sets x4 x12 → x12.toInt ≠ 0 → fI (x11 x3) 1 = x13 → x13.toInt = a1.toInt → (∀ b, b ≠ x3 → x14 b = x11 b) → x14 x3 = cF (x11 x3) 1 (.int a2) → x15.toInt = l5_2.toInt + 1 → R x14 x15 k e1 → R F_2 l5_2 k e1) →
  (∀ (F_2 : Nat → va_E) (l5_2 : Int32) (x1 : Nat) (x2 : Int32) (x3 : Nat) (x4 : Int32) (x5 : Int32) (x6 : Int32) (x7 : Int32) (x8 : Nat → va_E) (x9 : Int32) (x10 : Int32) (x11 : Int32) (x12 : Int32) (k : Nat) (e1 : Nat → va_E), gB l5_2 0 1000001 → RS D I P F_2 γ el → rStr γ [1] F F_2 → ((∀ N : Nat → Prop, N (a2.toInt : Int).toNat → a1.toInt < 100 → rPl γ el F q0 (γ 6 (γ 1 q0)) (fun _ _ => rNx N) → rPl γ el F_2 q0 (γ 6 (γ 1 q0)) (fun _ _ => rNx N))) → rFk [1] γ F F_2 → rFs γ (γ 1 q0) F F_2 → fR (F_2 c1) 0 = x1 → x2.toInt = (γ 2 x1 : Int) → fI (F_2 x1) 2 = x2 → l5_2.toInt ≤ x2.toInt → x2.toInt = (γ 2 x1 : Int) → x2.toInt ≤ l5_2.toInt → fR (F_2 c1) 1 = x3 → fI (F_2 x3) 0 = x4 → fI (F_2 x3) 5 = x5 → gB x6 0 1 → tr_RRow_usesA x4 x5 x6 → x6.toInt ≠ 0 → fI (F_2 x3) 2 = x7 → x7.toInt = a1.toInt → (∀ b, b ≠ x3 → x8 b = F_2 b) → x8 x3 = cF (F_2 x3) 2 (.int a2) → fI (x8 x3) 0 = x4 → fI (x8 x3) 6 = x9 → gB x10 0 1 → tr_RRow_usesB x4 x9 x10 → x10.toInt = 0 → gB x11 0 1 → tr_RRow_sets x4 x11 → x11.toInt = 0 → x12.toInt = l5_2.toInt + 1 → R x8 x12 k e1 → R F_2 l5_2 k e1) →
  (∀ (F_2 : Nat → va_E) (l5_2 : Int32) (x1 : Nat) (x2 : Int32) (x3 : Nat) (x4 : Int32) (x5 : Int32) (x6 : Int32) (x7 : Int32) (x8 : Nat → va_E) (x9 : Int32) (x10 : Int32) (x11 : Int32) (x12 : Int32) (x13 : Int32) (k : Nat) (e1 : Nat → va_E), gB l5_2 0 1000001 → RS D I P F_2 γ el → rStr γ [1] F F_2 → ((∀ N : Nat → Prop, N (a2.toInt : Int).toNat → a1.toInt < 100 → rPl γ el F q0 (γ 6 (γ 1 q0)) (fun _ _ => rNx N) → rPl γ el F_2 q0 (γ 6 (γ 1 q0)) (fun _ _ => rNx N))) → rFk [1] γ F F_2 → rFs γ (γ 1 q0) F F_2 → fR (F_2 c1) 0 = x1 → x2.toInt = (γ 2 x1 : Int) → fI (F_2 x1) 2 = x2 → l5_2.toInt ≤ x2.toInt → x2.toInt = (γ 2 x1 : Int) → x2.toInt ≤ l5_2.toInt → fR (F_2 c1) 1 = x3 → fI (F_2 x3) 0 = x4 → fI (F_2 x3) 5 = x5 → gB x6 0 1 → tr_RRow_usesA x4 x5 x6 → x6.toInt ≠ 0 → fI (F_2 x3) 2 = x7 → x7.toInt = a1.toInt → (∀ b, b ≠ x3 → x8 b = F_2 b) → x8 x3 = cF (F_2 x3) 2 (.int a2) → fI (x8 x3) 0 = x4 → fI (x8 x3) 6 = x9 → gB x10 0 1 → tr_RRow_usesB x4 x9 x10 → x10.toInt = 0 → gB x11 0 1 → tr_RRow_sets x4 x11 → x11.toInt ≠ 0 → fI (x8 x3) 1 = x12 → x12.toInt ≠ a1.toInt → x13.toInt = l5_2.toInt + 1 → R x8 x13 k e1 → R F_2 l5_2 k e1) →
  (∀ (F_2 : Nat → va_E) (l5_2 : Int32) (x1 : Nat) (x2 : Int32) (x3 : Nat) (x4 : Int32) (x5 : Int32) (x6 : Int32) (x7 : Int32) (x8 : Nat → va_E) (x9 : Int32) (x10 : Int32) (x11 : Int32) (x12 : Int32) (x13 : Nat → va_E) (x14 : Int32) (k : Nat) (e1 : Nat → va_E), gB l5_2 0 1000001 → RS D I P F_2 γ el → rStr γ [1] F F_2 → ((∀ N : Nat → Prop, N (a2.toInt : Int).toNat → a1.toInt < 100 → rPl γ el F q0 (γ 6 (γ 1 q0)) (fun _ _ => rNx N) → rPl γ el F_2 q0 (γ 6 (γ 1 q0)) (fun _ _ => rNx N))) → rFk [1] γ F F_2 → rFs γ (γ 1 q0) F F_2 → fR (F_2 c1) 0 = x1 → x2.toInt = (γ 2 x1 : Int) → fI (F_2 x1) 2 = x2 → l5_2.toInt ≤ x2.toInt → x2.toInt = (γ 2 x1 : Int) → x2.toInt ≤ l5_2.toInt → fR (F_2 c1) 1 = x3 → fI (F_2 x3) 0 = x4 → fI (F_2 x3) 5 = x5 → gB x6 0 1 → tr_RRow_usesA x4 x5 x6 → x6.toInt ≠ 0 → fI (F_2 x3) 2 = x7 → x7.toInt = a1.toInt → (∀ b, b ≠ x3 → x8 b = F_2 b) → x8 x3 = cF (F_2 x3) 2 (.int a2) → fI (x8 x3) 0 = x4 → fI (x8 x3) 6 = x9 → gB x10 0 1 → tr_RRow_usesB x4 x9 x10 → x10.toInt = 0 → gB x11 0 1 → tr_RRow_sets x4 x11 → x11.toInt ≠ 0 → fI (x8 x3) 1 = x12 → x12.toInt = a1.toInt → (∀ b, b ≠ x3 → x13 b = x8 b) → x13 x3 = cF (x8 x3) 1 (.int a2) → x14.toInt = l5_2.toInt + 1 → R x13 x14 k e1 → R F_2 l5_2 k e1) →
  (∀ (F_2 : Nat → va_E) (l5_2 : Int32) (x1 : Nat) (x2 : Int32) (x3 : Nat) (x4 : Int32) (x5 : Int32) (x6 : Int32) (x7 : Int32) (x8 : Nat → va_E) (x9 : Int32) (x10 : Int32) (x11 : Int32) (x12 : Int32) (x13 : Int32) (k : Nat) (e1 : Nat → va_E), gB l5_2 0 1000001 → RS D I P F_2 γ el → rStr γ [1] F F_2 → ((∀ N : Nat → Prop, N (a2.toInt : Int).toNat → a1.toInt < 100 → rPl γ el F q0 (γ 6 (γ 1 q0)) (fun _ _ => rNx N) → rPl γ el F_2 q0 (γ 6 (γ 1 q0)) (fun _ _ => rNx N))) → rFk [1] γ F F_2 → rFs γ (γ 1 q0) F F_2 → fR (F_2 c1) 0 = x1 → x2.toInt = (γ 2 x1 : Int) → fI (F_2 x1) 2 = x2 → l5_2.toInt ≤ x2.toInt → x2.toInt = (γ 2 x1 : Int) → x2.toInt ≤ l5_2.toInt → fR (F_2 c1) 1 = x3 → fI (F_2 x3) 0 = x4 → fI (F_2 x3) 5 = x5 → gB x6 0 1 → tr_RRow_usesA x4 x5 x6 → x6.toInt ≠ 0 → fI (F_2 x3) 2 = x7 → x7.toInt = a1.toInt → (∀ b, b ≠ x3 → x8 b = F_2 b) → x8 x3 = cF (F_2 x3) 2 (.int a2) → fI (x8 x3) 0 = x4 → fI (x8 x3) 6 = x9 → gB x10 0 1 → tr_RRow_usesB x4 x9 x10 → x10.toInt ≠ 0 → fI (x8 x3) 3 = x11 → x11.toInt ≠ a1.toInt → gB x12 0 1 → tr_RRow_sets x4 x12 → x12.toInt = 0 → x13.toInt = l5_2.toInt + 1 → R x8 x13 k e1 → R F_2 l5_2 k e1) →
  (∀ (F_2 : Nat → va_E) (l5_2 : Int32) (x1 : Nat) (x2 : Int32) (x3 : Nat) (x4 : Int32) (x5 : Int32) (x6 : Int32) (x7 : Int32) (x8 : Nat → va_E) (x9 : Int32) (x10 : Int32) (x11 : Int32) (x12 : Int32) (x13 : Int32) (x14 : Int32) (k : Nat) (e1 : Nat → va_E), gB l5_2 0 1000001 → RS D I P F_2 γ el → rStr γ [1] F F_2 → ((∀ N : Nat → Prop, N (a2.toInt : Int).toNat → a1.toInt < 100 → rPl γ el F q0 (γ 6 (γ 1 q0)) (fun _ _ => rNx N) → rPl γ el F_2 q0 (γ 6 (γ 1 q0)) (fun _ _ => rNx N))) → rFk [1] γ F F_2 → rFs γ (γ 1 q0) F F_2 → fR (F_2 c1) 0 = x1 → x2.toInt = (γ 2 x1 : Int) → fI (F_2 x1) 2 = x2 → l5_2.toInt ≤ x2.toInt → x2.toInt = (γ 2 x1 : Int) → x2.toInt ≤ l5_2.toInt → fR (F_2 c1) 1 = x3 → fI (F_2 x3) 0 = x4 → fI (F_2 x3) 5 = x5 → gB x6 0 1 → tr_RRow_usesA x4 x5 x6 → x6.toInt ≠ 0 → fI (F_2 x3) 2 = x7 → x7.toInt = a1.toInt → (∀ b, b ≠ x3 → x8 b = F_2 b) → x8 x3 = cF (F_2 x3) 2 (.int a2) → fI (x8 x3) 0 = x4 → fI (x8 x3) 6 = x9 → gB x10 0 1 → tr_RRow_usesB x4 x9 x10 → x10.toInt ≠ 0 → fI (x8 x3) 3 = x11 → x11.toInt ≠ a1.toInt → gB x12 0 1 → tr_RRow_sets x4 x12 → x12.toInt ≠ 0 → fI (x8 x3) 1 = x13 → x13.toInt ≠ a1.toInt → x14.toInt = l5_2.toInt + 1 → R x8 x14 k e1 → R F_2 l5_2 k e1) →
  (∀ (F_2 : Nat → va_E) (l5_2 : Int32) (x1 : Nat) (x2 : Int32) (x3 : Nat) (x4 : Int32) (x5 : Int32) (x6 : Int32) (x7 : Int32) (x8 : Nat → va_E) (x9 : Int32) (x10 : Int32) (x11 : Int32) (x12 : Int32) (x13 : Int32) (x14 : Nat → va_E) (x15 : Int32) (k : Nat) (e1 : Nat → va_E), gB l5_2 0 1000001 → RS D I P F_2 γ el → rStr γ [1] F F_2 → ((∀ N : Nat → Prop, N (a2.toInt : Int).toNat → a1.toInt < 100 → rPl γ el F q0 (γ 6 (γ 1 q0)) (fun _ _ => rNx N) → rPl γ el F_2 q0 (γ 6 (γ 1 q0)) (fun _ _ => rNx N))) → rFk [1] γ F F_2 → rFs γ (γ 1 q0) F F_2 → fR (F_2 c1) 0 = x1 → x2.toInt = (γ 2 x1 : Int) → fI (F_2 x1) 2 = x2 → l5_2.toInt ≤ x2.toInt → x2.toInt = (γ 2 x1 : Int) → x2.toInt ≤ l5_2.toInt → fR (F_2 c1) 1 = x3 → fI (F_2 x3) 0 = x4 → fI (F_2 x3) 5 = x5 → gB x6 0 1 → tr_RRow_usesA x4 x5 x6 → x6.toInt ≠ 0 → fI (F_2 x3) 2 = x7 → x7.toInt = a1.toInt → (∀ b, b ≠ x3 → x8 b = F_2 b) → x8 x3 = cF (F_2 x3) 2 (.int a2) → fI (x8 x3) 0 = x4 → fI (x8 x3) 6 = x9 → gB x10 0 1 → tr_RRow_usesB x4 x9 x10 → x10.toInt ≠ 0 → fI (x8 x3) 3 = x11 → x11.toInt ≠ a1.toInt → gB x12 0 1 → tr_RRow_sets x4 x12 → x12.toInt ≠ 0 → fI (x8 x3) 1 = x13 → x13.toInt = a1.toInt → (∀ b, b ≠ x3 → x14 b = x8 b) → x14 x3 = cF (x8 x3) 1 (.int a2) → x15.toInt = l5_2.toInt + 1 → R x14 x15 k e1 → R F_2 l5_2 k e1) →
  (∀ (F_2 : Nat → va_E) (l5_2 : Int32) (x1 : Nat) (x2 : Int32) (x3 : Nat) (x4 : Int32) (x5 : Int32) (x6 : Int32) (x7 : Int32) (x8 : Nat → va_E) (x9 : Int32) (x10 : Int32) (x11 : Int32) (x12 : Nat → va_E) (x13 : Int32) (x14 : Int32) (k : Nat) (e1 : Nat → va_E), gB l5_2 0 1000001 → RS D I P F_2 γ el → rStr γ [1] F F_2 → ((∀ N : Nat → Prop, N (a2.toInt : Int).toNat → a1.toInt < 100 → rPl γ el F q0 (γ 6 (γ 1 q0)) (fun _ _ => rNx N) → rPl γ el F_2 q0 (γ 6 (γ 1 q0)) (fun _ _ => rNx N))) → rFk [1] γ F F_2 → rFs γ (γ 1 q0) F F_2 → fR (F_2 c1) 0 = x1 → x2.toInt = (γ 2 x1 : Int) → fI (F_2 x1) 2 = x2 → l5_2.toInt ≤ x2.toInt → x2.toInt = (γ 2 x1 : Int) → x2.toInt ≤ l5_2.toInt → fR (F_2 c1) 1 = x3 → fI (F_2 x3) 0 = x4 → fI (F_2 x3) 5 = x5 → gB x6 0 1 → tr_RRow_usesA x4 x5 x6 → x6.toInt ≠ 0 → fI (F_2 x3) 2 = x7 → x7.toInt = a1.toInt → (∀ b, b ≠ x3 → x8 b = F_2 b) → x8 x3 = cF (F_2 x3) 2 (.int a2) → fI (x8 x3) 0 = x4 → fI (x8 x3) 6 = x9 → gB x10 0 1 → tr_RRow_usesB x4 x9 x10 → x10.toInt ≠ 0 → fI (x8 x3) 3 = x11 → x11.toInt = a1.toInt → (∀ b, b ≠ x3 → x12 b = x8 b) → x12 x3 = cF (x8 x3) 3 (.int a2) → fI (x12 x3) 0 = x4 → gB x13 0 1 → tr_RRow_sets x4 x13 → x13.toInt = 0 → x14.toInt = l5_2.toInt + 1 → R x12 x14 k e1 → R F_2 l5_2 k e1) →
  (∀ (F_2 : Nat → va_E) (l5_2 : Int32) (x1 : Nat) (x2 : Int32) (x3 : Nat) (x4 : Int32) (x5 : Int32) (x6 : Int32) (x7 : Int32) (x8 : Nat → va_E) (x9 : Int32) (x10 : Int32) (x11 : Int32) (x12 : Nat → va_E) (x13 : Int32) (x14 : Int32) (x15 : Int32) (k : Nat) (e1 : Nat → va_E), gB l5_2 0 1000001 → RS D I P F_2 γ el → rStr γ [1] F F_2 → ((∀ N : Nat → Prop, N (a2.toInt : Int).toNat → a1.toInt < 100 → rPl γ el F q0 (γ 6 (γ 1 q0)) (fun _ _ => rNx N) → rPl γ el F_2 q0 (γ 6 (γ 1 q0)) (fun _ _ => rNx N))) → rFk [1] γ F F_2 → rFs γ (γ 1 q0) F F_2 → fR (F_2 c1) 0 = x1 → x2.toInt = (γ 2 x1 : Int) → fI (F_2 x1) 2 = x2 → l5_2.toInt ≤ x2.toInt → x2.toInt = (γ 2 x1 : Int) → x2.toInt ≤ l5_2.toInt → fR (F_2 c1) 1 = x3 → fI (F_2 x3) 0 = x4 → fI (F_2 x3) 5 = x5 → gB x6 0 1 → tr_RRow_usesA x4 x5 x6 → x6.toInt ≠ 0 → fI (F_2 x3) 2 = x7 → x7.toInt = a1.toInt → (∀ b, b ≠ x3 → x8 b = F_2 b) → x8 x3 = cF (F_2 x3) 2 (.int a2) → fI (x8 x3) 0 = x4 → fI (x8 x3) 6 = x9 → gB x10 0 1 → tr_RRow_usesB x4 x9 x10 → x10.toInt ≠ 0 → fI (x8 x3) 3 = x11 → x11.toInt = a1.toInt → (∀ b, b ≠ x3 → x12 b = x8 b) → x12 x3 = cF (x8 x3) 3 (.int a2) → fI (x12 x3) 0 = x4 → gB x13 0 1 → tr_RRow_sets x4 x13 → x13.toInt ≠ 0 → fI (x12 x3) 1 = x14 → x14.toInt ≠ a1.toInt → x15.toInt = l5_2.toInt + 1 → R x12 x15 k e1 → R F_2 l5_2 k e1) →
  (∀ (F_2 : Nat → va_E) (l5_2 : Int32) (x1 : Nat) (x2 : Int32) (x3 : Nat) (x4 : Int32) (x5 : Int32) (x6 : Int32) (x7 : Int32) (x8 : Nat → va_E) (x9 : Int32) (x10 : Int32) (x11 : Int32) (x12 : Nat → va_E) (x13 : Int32) (x14 : Int32) (x15 : Nat → va_E) (x16 : Int32) (k : Nat) (e1 : Nat → va_E), gB l5_2 0 1000001 → RS D I P F_2 γ el → rStr γ [1] F F_2 → ((∀ N : Nat → Prop, N (a2.toInt : Int).toNat → a1.toInt < 100 → rPl γ el F q0 (γ 6 (γ 1 q0)) (fun _ _ => rNx N) → rPl γ el F_2 q0 (γ 6 (γ 1 q0)) (fun _ _ => rNx N))) → rFk [1] γ F F_2 → rFs γ (γ 1 q0) F F_2 → fR (F_2 c1) 0 = x1 → x2.toInt = (γ 2 x1 : Int) → fI (F_2 x1) 2 = x2 → l5_2.toInt ≤ x2.toInt → x2.toInt = (γ 2 x1 : Int) → x2.toInt ≤ l5_2.toInt → fR (F_2 c1) 1 = x3 → fI (F_2 x3) 0 = x4 → fI (F_2 x3) 5 = x5 → gB x6 0 1 → tr_RRow_usesA x4 x5 x6 → x6.toInt ≠ 0 → fI (F_2 x3) 2 = x7 → x7.toInt = a1.toInt → (∀ b, b ≠ x3 → x8 b = F_2 b) → x8 x3 = cF (F_2 x3) 2 (.int a2) → fI (x8 x3) 0 = x4 → fI (x8 x3) 6 = x9 → gB x10 0 1 → tr_RRow_usesB x4 x9 x10 → x10.toInt ≠ 0 → fI (x8 x3) 3 = x11 → x11.toInt = a1.toInt → (∀ b, b ≠ x3 → x12 b = x8 b) → x12 x3 = cF (x8 x3) 3 (.int a2) → fI (x12 x3) 0 = x4 → gB x13 0 1 → tr_RRow_sets x4 x13 → x13.toInt ≠ 0 → fI (x12 x3) 1 = x14 → x14.toInt = a1.toInt → (∀ b, b ≠ x3 → x15 b = x12 b) → x15 x3 = cF (x12 x3) 1 (.int a2) → x16.toInt = l5_2.toInt + 1 → R x15 x16 k e1 → R F_2 l5_2 k e1) →
  (∀ (F_2 : Nat → va_E) (l5_2 : Int32) (x1 : Nat) (x2 : Int32) (x3 : Nat) (x4 : Int32) (x5 : Int32) (x6 : Int32) (x7 : Int32) (x8 : Int32) (x9 : Int32) (x10 : Int32) (k : Nat) (e1 : Nat → va_E), gB l5_2 0 1000001 → RS D I P F_2 γ el → rStr γ [1] F F_2 → ((∀ N : Nat → Prop, N (a2.toInt : Int).toNat → a1.toInt < 100 → rPl γ el F q0 (γ 6 (γ 1 q0)) (fun _ _ => rNx N) → rPl γ el F_2 q0 (γ 6 (γ 1 q0)) (fun _ _ => rNx N))) → rFk [1] γ F F_2 → rFs γ (γ 1 q0) F F_2 → fR (F_2 c1) 0 = x1 → x2.toInt = (γ 2 x1 : Int) → fI (F_2 x1) 2 = x2 → l5_2.toInt ≤ x2.toInt → x2.toInt = (γ 2 x1 : Int) → l5_2.toInt < x2.toInt → x3 = el x1 l5_2.toInt.toNat → tr_RArrayList_get l5_2 x2 → fI (F_2 x3) 0 = x4 → fI (F_2 x3) 5 = x5 → gB x6 0 1 → tr_RRow_usesA x4 x5 x6 → x6.toInt = 0 → fI (F_2 x3) 6 = x7 → gB x8 0 1 → tr_RRow_usesB x4 x7 x8 → x8.toInt = 0 → gB x9 0 1 → tr_RRow_sets x4 x9 → x9.toInt = 0 → x10.toInt = l5_2.toInt + 1 → R F_2 x10 k e1 → R F_2 l5_2 k e1) →
  (∀ (F_2 : Nat → va_E) (l5_2 : Int32) (x1 : Nat) (x2 : Int32) (x3 : Nat) (x4 : Int32) (x5 : Int32) (x6 : Int32) (x7 : Int32) (x8 : Int32) (x9 : Int32) (x10 : Int32) (x11 : Int32) (k : Nat) (e1 : Nat → va_E), gB l5_2 0 1000001 → RS D I P F_2 γ el → rStr γ [1] F F_2 → ((∀ N : Nat → Prop, N (a2.toInt : Int).toNat → a1.toInt < 100 → rPl γ el F q0 (γ 6 (γ 1 q0)) (fun _ _ => rNx N) → rPl γ el F_2 q0 (γ 6 (γ 1 q0)) (fun _ _ => rNx N))) → rFk [1] γ F F_2 → rFs γ (γ 1 q0) F F_2 → fR (F_2 c1) 0 = x1 → x2.toInt = (γ 2 x1 : Int) → fI (F_2 x1) 2 = x2 → l5_2.toInt ≤ x2.toInt → x2.toInt = (γ 2 x1 : Int) → l5_2.toInt < x2.toInt → x3 = el x1 l5_2.toInt.toNat → tr_RArrayList_get l5_2 x2 → fI (F_2 x3) 0 = x4 → fI (F_2 x3) 5 = x5 → gB x6 0 1 → tr_RRow_usesA x4 x5 x6 → x6.toInt = 0 → fI (F_2 x3) 6 = x7 → gB x8 0 1 → tr_RRow_usesB x4 x7 x8 → x8.toInt = 0 → gB x9 0 1 → tr_RRow_sets x4 x9 → x9.toInt ≠ 0 → fI (F_2 x3) 1 = x10 → x10.toInt ≠ a1.toInt → x11.toInt = l5_2.toInt + 1 → R F_2 x11 k e1 → R F_2 l5_2 k e1) →
  (∀ (F_2 : Nat → va_E) (l5_2 : Int32) (x1 : Nat) (x2 : Int32) (x3 : Nat) (x4 : Int32) (x5 : Int32) (x6 : Int32) (x7 : Int32) (x8 : Int32) (x9 : Int32) (x10 : Int32) (x11 : Nat → va_E) (x12 : Int32) (k : Nat) (e1 : Nat → va_E), gB l5_2 0 1000001 → RS D I P F_2 γ el → rStr γ [1] F F_2 → ((∀ N : Nat → Prop, N (a2.toInt : Int).toNat → a1.toInt < 100 → rPl γ el F q0 (γ 6 (γ 1 q0)) (fun _ _ => rNx N) → rPl γ el F_2 q0 (γ 6 (γ 1 q0)) (fun _ _ => rNx N))) → rFk [1] γ F F_2 → rFs γ (γ 1 q0) F F_2 → fR (F_2 c1) 0 = x1 → x2.toInt = (γ 2 x1 : Int) → fI (F_2 x1) 2 = x2 → l5_2.toInt ≤ x2.toInt → x2.toInt = (γ 2 x1 : Int) → l5_2.toInt < x2.toInt → x3 = el x1 l5_2.toInt.toNat → tr_RArrayList_get l5_2 x2 → fI (F_2 x3) 0 = x4 → fI (F_2 x3) 5 = x5 → gB x6 0 1 → tr_RRow_usesA x4 x5 x6 → x6.toInt = 0 → fI (F_2 x3) 6 = x7 → gB x8 0 1 → tr_RRow_usesB x4 x7 x8 → x8.toInt = 0 → gB x9 0 1 → tr_RRow_sets x4 x9 → x9.toInt ≠ 0 → fI (F_2 x3) 1 = x10 → x10.toInt = a1.toInt → (∀ b, b ≠ x3 → x11 b = F_2 b) → x11 x3 = cF (F_2 x3) 1 (.int a2) → x12.toInt = l5_2.toInt + 1 → R x11 x12 k e1 → R F_2 l5_2 k e1) →
  (∀ (F_2 : Nat → va_E) (l5_2 : Int32) (x1 : Nat) (x2 : Int32) (x3 : Nat) (x4 : Int32) (x5 : Int32) (x6 : Int32) (x7 : Int32) (x8 : Int32) (x9 : Int32) (x10 : Int32) (x11 : Int32) (k : Nat) (e1 : Nat → va_E), gB l5_2 0 1000001 → RS D I P F_2 γ el → rStr γ [1] F F_2 → ((∀ N : Nat → Prop, N (a2.toInt : Int).toNat → a1.toInt < 100 → rPl γ el F q0 (γ 6 (γ 1 q0)) (fun _ _ => rNx N) → rPl γ el F_2 q0 (γ 6 (γ 1 q0)) (fun _ _ => rNx N))) → rFk [1] γ F F_2 → rFs γ (γ 1 q0) F F_2 → fR (F_2 c1) 0 = x1 → x2.toInt = (γ 2 x1 : Int) → fI (F_2 x1) 2 = x2 → l5_2.toInt ≤ x2.toInt → x2.toInt = (γ 2 x1 : Int) → l5_2.toInt < x2.toInt → x3 = el x1 l5_2.toInt.toNat → tr_RArrayList_get l5_2 x2 → fI (F_2 x3) 0 = x4 → fI (F_2 x3) 5 = x5 → gB x6 0 1 → tr_RRow_usesA x4 x5 x6 → x6.toInt = 0 → fI (F_2 x3) 6 = x7 → gB x8 0 1 → tr_RRow_usesB x4 x7 x8 → x8.toInt ≠ 0 → fI (F_2 x3) 3 = x9 → x9.toInt ≠ a1.toInt → gB x10 0 1 → tr_RRow_sets x4 x10 → x10.toInt = 0 → x11.toInt = l5_2.toInt + 1 → R F_2 x11 k e1 → R F_2 l5_2 k e1) →
  (∀ (F_2 : Nat → va_E) (l5_2 : Int32) (x1 : Nat) (x2 : Int32) (x3 : Nat) (x4 : Int32) (x5 : Int32) (x6 : Int32) (x7 : Int32) (x8 : Int32) (x9 : Int32) (x10 : Int32) (x11 : Int32) (x12 : Int32) (k : Nat) (e1 : Nat → va_E), gB l5_2 0 1000001 → RS D I P F_2 γ el → rStr γ [1] F F_2 → ((∀ N : Nat → Prop, N (a2.toInt : Int).toNat → a1.toInt < 100 → rPl γ el F q0 (γ 6 (γ 1 q0)) (fun _ _ => rNx N) → rPl γ el F_2 q0 (γ 6 (γ 1 q0)) (fun _ _ => rNx N))) → rFk [1] γ F F_2 → rFs γ (γ 1 q0) F F_2 → fR (F_2 c1) 0 = x1 → x2.toInt = (γ 2 x1 : Int) → fI (F_2 x1) 2 = x2 → l5_2.toInt ≤ x2.toInt → x2.toInt = (γ 2 x1 : Int) → l5_2.toInt < x2.toInt → x3 = el x1 l5_2.toInt.toNat → tr_RArrayList_get l5_2 x2 → fI (F_2 x3) 0 = x4 → fI (F_2 x3) 5 = x5 → gB x6 0 1 → tr_RRow_usesA x4 x5 x6 → x6.toInt = 0 → fI (F_2 x3) 6 = x7 → gB x8 0 1 → tr_RRow_usesB x4 x7 x8 → x8.toInt ≠ 0 → fI (F_2 x3) 3 = x9 → x9.toInt ≠ a1.toInt → gB x10 0 1 → tr_RRow_sets x4 x10 → x10.toInt ≠ 0 → fI (F_2 x3) 1 = x11 → x11.toInt ≠ a1.toInt → x12.toInt = l5_2.toInt + 1 → R F_2 x12 k e1 → R F_2 l5_2 k e1) →
  (∀ (F_2 : Nat → va_E) (l5_2 : Int32) (x1 : Nat) (x2 : Int32) (x3 : Nat) (x4 : Int32) (x5 : Int32) (x6 : Int32) (x7 : Int32) (x8 : Int32) (x9 : Int32) (x10 : Int32) (x11 : Int32) (x12 : Nat → va_E) (x13 : Int32) (k : Nat) (e1 : Nat → va_E), gB l5_2 0 1000001 → RS D I P F_2 γ el → rStr γ [1] F F_2 → ((∀ N : Nat → Prop, N (a2.toInt : Int).toNat → a1.toInt < 100 → rPl γ el F q0 (γ 6 (γ 1 q0)) (fun _ _ => rNx N) → rPl γ el F_2 q0 (γ 6 (γ 1 q0)) (fun _ _ => rNx N))) → rFk [1] γ F F_2 → rFs γ (γ 1 q0) F F_2 → fR (F_2 c1) 0 = x1 → x2.toInt = (γ 2 x1 : Int) → fI (F_2 x1) 2 = x2 → l5_2.toInt ≤ x2.toInt → x2.toInt = (γ 2 x1 : Int) → l5_2.toInt < x2.toInt → x3 = el x1 l5_2.toInt.toNat → tr_RArrayList_get l5_2 x2 → fI (F_2 x3) 0 = x4 → fI (F_2 x3) 5 = x5 → gB x6 0 1 → tr_RRow_usesA x4 x5 x6 → x6.toInt = 0 → fI (F_2 x3) 6 = x7 → gB x8 0 1 → tr_RRow_usesB x4 x7 x8 → x8.toInt ≠ 0 → fI (F_2 x3) 3 = x9 → x9.toInt ≠ a1.toInt → gB x10 0 1 → tr_RRow_sets x4 x10 → x10.toInt ≠ 0 → fI (F_2 x3) 1 = x11 → x11.toInt = a1.toInt → (∀ b, b ≠ x3 → x12 b = F_2 b) → x12 x3 = cF (F_2 x3) 1 (.int a2) → x13.toInt = l5_2.toInt + 1 → R x12 x13 k e1 → R F_2 l5_2 k e1) →
  (∀ (F_2 : Nat → va_E) (l5_2 : Int32) (x1 : Nat) (x2 : Int32) (x3 : Nat) (x4 : Int32) (x5 : Int32) (x6 : Int32) (x7 : Int32) (x8 : Int32) (x9 : Int32) (x10 : Nat → va_E) (x11 : Int32) (x12 : Int32) (k : Nat) (e1 : Nat → va_E), gB l5_2 0 1000001 → RS D I P F_2 γ el → rStr γ [1] F F_2 → ((∀ N : Nat → Prop, N (a2.toInt : Int).toNat → a1.toInt < 100 → rPl γ el F q0 (γ 6 (γ 1 q0)) (fun _ _ => rNx N) → rPl γ el F_2 q0 (γ 6 (γ 1 q0)) (fun _ _ => rNx N))) → rFk [1] γ F F_2 → rFs γ (γ 1 q0) F F_2 → fR (F_2 c1) 0 = x1 → x2.toInt = (γ 2 x1 : Int) → fI (F_2 x1) 2 = x2 → l5_2.toInt ≤ x2.toInt → x2.toInt = (γ 2 x1 : Int) → l5_2.toInt < x2.toInt → x3 = el x1 l5_2.toInt.toNat → tr_RArrayList_get l5_2 x2 → fI (F_2 x3) 0 = x4 → fI (F_2 x3) 5 = x5 → gB x6 0 1 → tr_RRow_usesA x4 x5 x6 → x6.toInt = 0 → fI (F_2 x3) 6 = x7 → gB x8 0 1 → tr_RRow_usesB x4 x7 x8 → x8.toInt ≠ 0 → fI (F_2 x3) 3 = x9 → x9.toInt = a1.toInt → (∀ b, b ≠ x3 → x10 b = F_2 b) → x10 x3 = cF (F_2 x3) 3 (.int a2) → fI (x10 x3) 0 = x4 → gB x11 0 1 → tr_RRow_sets x4 x11 → x11.toInt = 0 → x12.toInt = l5_2.toInt + 1 → R x10 x12 k e1 → R F_2 l5_2 k e1) →
  (∀ (F_2 : Nat → va_E) (l5_2 : Int32) (x1 : Nat) (x2 : Int32) (x3 : Nat) (x4 : Int32) (x5 : Int32) (x6 : Int32) (x7 : Int32) (x8 : Int32) (x9 : Int32) (x10 : Nat → va_E) (x11 : Int32) (x12 : Int32) (x13 : Int32) (k : Nat) (e1 : Nat → va_E), gB l5_2 0 1000001 → RS D I P F_2 γ el → rStr γ [1] F F_2 → ((∀ N : Nat → Prop, N (a2.toInt : Int).toNat → a1.toInt < 100 → rPl γ el F q0 (γ 6 (γ 1 q0)) (fun _ _ => rNx N) → rPl γ el F_2 q0 (γ 6 (γ 1 q0)) (fun _ _ => rNx N))) → rFk [1] γ F F_2 → rFs γ (γ 1 q0) F F_2 → fR (F_2 c1) 0 = x1 → x2.toInt = (γ 2 x1 : Int) → fI (F_2 x1) 2 = x2 → l5_2.toInt ≤ x2.toInt → x2.toInt = (γ 2 x1 : Int) → l5_2.toInt < x2.toInt → x3 = el x1 l5_2.toInt.toNat → tr_RArrayList_get l5_2 x2 → fI (F_2 x3) 0 = x4 → fI (F_2 x3) 5 = x5 → gB x6 0 1 → tr_RRow_usesA x4 x5 x6 → x6.toInt = 0 → fI (F_2 x3) 6 = x7 → gB x8 0 1 → tr_RRow_usesB x4 x7 x8 → x8.toInt ≠ 0 → fI (F_2 x3) 3 = x9 → x9.toInt = a1.toInt → (∀ b, b ≠ x3 → x10 b = F_2 b) → x10 x3 = cF (F_2 x3) 3 (.int a2) → fI (x10 x3) 0 = x4 → gB x11 0 1 → tr_RRow_sets x4 x11 → x11.toInt ≠ 0 → fI (x10 x3) 1 = x12 → x12.toInt ≠ a1.toInt → x13.toInt = l5_2.toInt + 1 → R x10 x13 k e1 → R F_2 l5_2 k e1) →
  (∀ (F_2 : Nat → va_E) (l5_2 : Int32) (x1 : Nat) (x2 : Int32) (x3 : Nat) (x4 : Int32) (x5 : Int32) (x6 : Int32) (x7 : Int32) (x8 : Int32) (x9 : Int32) (x10 : Nat → va_E) (x11 : Int32) (x12 : Int32) (x13 : Nat → va_E) (x14 : Int32) (k : Nat) (e1 : Nat → va_E), gB l5_2 0 1000001 → RS D I P F_2 γ el → rStr γ [1] F F_2 → ((∀ N : Nat → Prop, N (a2.toInt : Int).toNat → a1.toInt < 100 → rPl γ el F q0 (γ 6 (γ 1 q0)) (fun _ _ => rNx N) → rPl γ el F_2 q0 (γ 6 (γ 1 q0)) (fun _ _ => rNx N))) → rFk [1] γ F F_2 → rFs γ (γ 1 q0) F F_2 → fR (F_2 c1) 0 = x1 → x2.toInt = (γ 2 x1 : Int) → fI (F_2 x1) 2 = x2 → l5_2.toInt ≤ x2.toInt → x2.toInt = (γ 2 x1 : Int) → l5_2.toInt < x2.toInt → x3 = el x1 l5_2.toInt.toNat → tr_RArrayList_get l5_2 x2 → fI (F_2 x3) 0 = x4 → fI (F_2 x3) 5 = x5 → gB x6 0 1 → tr_RRow_usesA x4 x5 x6 → x6.toInt = 0 → fI (F_2 x3) 6 = x7 → gB x8 0 1 → tr_RRow_usesB x4 x7 x8 → x8.toInt ≠ 0 → fI (F_2 x3) 3 = x9 → x9.toInt = a1.toInt → (∀ b, b ≠ x3 → x10 b = F_2 b) → x10 x3 = cF (F_2 x3) 3 (.int a2) → fI (x10 x3) 0 = x4 → gB x11 0 1 → tr_RRow_sets x4 x11 → x11.toInt ≠ 0 → fI (x10 x3) 1 = x12 → x12.toInt = a1.toInt → (∀ b, b ≠ x3 → x13 b = x10 b) → x13 x3 = cF (x10 x3) 1 (.int a2) → x14.toInt = l5_2.toInt + 1 → R x13 x14 k e1 → R F_2 l5_2 k e1) →
  (∀ (F_2 : Nat → va_E) (l5_2 : Int32) (x1 : Nat) (x2 : Int32) (x3 : Nat) (x4 : Int32) (x5 : Int32) (x6 : Int32) (x7 : Int32) (x8 : Int32) (x9 : Int32) (x10 : Int32) (x11 : Int32) (k : Nat) (e1 : Nat → va_E), gB l5_2 0 1000001 → RS D I P F_2 γ el → rStr γ [1] F F_2 → ((∀ N : Nat → Prop, N (a2.toInt : Int).toNat → a1.toInt < 100 → rPl γ el F q0 (γ 6 (γ 1 q0)) (fun _ _ => rNx N) → rPl γ el F_2 q0 (γ 6 (γ 1 q0)) (fun _ _ => rNx N))) → rFk [1] γ F F_2 → rFs γ (γ 1 q0) F F_2 → fR (F_2 c1) 0 = x1 → x2.toInt = (γ 2 x1 : Int) → fI (F_2 x1) 2 = x2 → l5_2.toInt ≤ x2.toInt → x2.toInt = (γ 2 x1 : Int) → l5_2.toInt < x2.toInt → x3 = el x1 l5_2.toInt.toNat → tr_RArrayList_get l5_2 x2 → fI (F_2 x3) 0 = x4 → fI (F_2 x3) 5 = x5 → gB x6 0 1 → tr_RRow_usesA x4 x5 x6 → x6.toInt ≠ 0 → fI (F_2 x3) 2 = x7 → x7.toInt ≠ a1.toInt → fI (F_2 x3) 6 = x8 → gB x9 0 1 → tr_RRow_usesB x4 x8 x9 → x9.toInt = 0 → gB x10 0 1 → tr_RRow_sets x4 x10 → x10.toInt = 0 → x11.toInt = l5_2.toInt + 1 → R F_2 x11 k e1 → R F_2 l5_2 k e1) →
  (∀ (F_2 : Nat → va_E) (l5_2 : Int32) (x1 : Nat) (x2 : Int32) (x3 : Nat) (x4 : Int32) (x5 : Int32) (x6 : Int32) (x7 : Int32) (x8 : Int32) (x9 : Int32) (x10 : Int32) (x11 : Int32) (x12 : Int32) (k : Nat) (e1 : Nat → va_E), gB l5_2 0 1000001 → RS D I P F_2 γ el → rStr γ [1] F F_2 → ((∀ N : Nat → Prop, N (a2.toInt : Int).toNat → a1.toInt < 100 → rPl γ el F q0 (γ 6 (γ 1 q0)) (fun _ _ => rNx N) → rPl γ el F_2 q0 (γ 6 (γ 1 q0)) (fun _ _ => rNx N))) → rFk [1] γ F F_2 → rFs γ (γ 1 q0) F F_2 → fR (F_2 c1) 0 = x1 → x2.toInt = (γ 2 x1 : Int) → fI (F_2 x1) 2 = x2 → l5_2.toInt ≤ x2.toInt → x2.toInt = (γ 2 x1 : Int) → l5_2.toInt < x2.toInt → x3 = el x1 l5_2.toInt.toNat → tr_RArrayList_get l5_2 x2 → fI (F_2 x3) 0 = x4 → fI (F_2 x3) 5 = x5 → gB x6 0 1 → tr_RRow_usesA x4 x5 x6 → x6.toInt ≠ 0 → fI (F_2 x3) 2 = x7 → x7.toInt ≠ a1.toInt → fI (F_2 x3) 6 = x8 → gB x9 0 1 → tr_RRow_usesB x4 x8 x9 → x9.toInt = 0 → gB x10 0 1 → tr_RRow_sets x4 x10 → x10.toInt ≠ 0 → fI (F_2 x3) 1 = x11 → x11.toInt ≠ a1.toInt → x12.toInt = l5_2.toInt + 1 → R F_2 x12 k e1 → R F_2 l5_2 k e1) →
  (∀ (F_2 : Nat → va_E) (l5_2 : Int32) (x1 : Nat) (x2 : Int32) (x3 : Nat) (x4 : Int32) (x5 : Int32) (x6 : Int32) (x7 : Int32) (x8 : Int32) (x9 : Int32) (x10 : Int32) (x11 : Int32) (x12 : Nat → va_E) (x13 : Int32) (k : Nat) (e1 : Nat → va_E), gB l5_2 0 1000001 → RS D I P F_2 γ el → rStr γ [1] F F_2 → ((∀ N : Nat → Prop, N (a2.toInt : Int).toNat → a1.toInt < 100 → rPl γ el F q0 (γ 6 (γ 1 q0)) (fun _ _ => rNx N) → rPl γ el F_2 q0 (γ 6 (γ 1 q0)) (fun _ _ => rNx N))) → rFk [1] γ F F_2 → rFs γ (γ 1 q0) F F_2 → fR (F_2 c1) 0 = x1 → x2.toInt = (γ 2 x1 : Int) → fI (F_2 x1) 2 = x2 → l5_2.toInt ≤ x2.toInt → x2.toInt = (γ 2 x1 : Int) → l5_2.toInt < x2.toInt → x3 = el x1 l5_2.toInt.toNat → tr_RArrayList_get l5_2 x2 → fI (F_2 x3) 0 = x4 → fI (F_2 x3) 5 = x5 → gB x6 0 1 → tr_RRow_usesA x4 x5 x6 → x6.toInt ≠ 0 → fI (F_2 x3) 2 = x7 → x7.toInt ≠ a1.toInt → fI (F_2 x3) 6 = x8 → gB x9 0 1 → tr_RRow_usesB x4 x8 x9 → x9.toInt = 0 → gB x10 0 1 → tr_RRow_sets x4 x10 → x10.toInt ≠ 0 → fI (F_2 x3) 1 = x11 → x11.toInt = a1.toInt → (∀ b, b ≠ x3 → x12 b = F_2 b) → x12 x3 = cF (F_2 x3) 1 (.int a2) → x13.toInt = l5_2.toInt + 1 → R x12 x13 k e1 → R F_2 l5_2 k e1) →
  (∀ (F_2 : Nat → va_E) (l5_2 : Int32) (x1 : Nat) (x2 : Int32) (x3 : Nat) (x4 : Int32) (x5 : Int32) (x6 : Int32) (x7 : Int32) (x8 : Int32) (x9 : Int32) (x10 : Int32) (x11 : Int32) (x12 : Int32) (k : Nat) (e1 : Nat → va_E), gB l5_2 0 1000001 → RS D I P F_2 γ el → rStr γ [1] F F_2 → ((∀ N : Nat → Prop, N (a2.toInt : Int).toNat → a1.toInt < 100 → rPl γ el F q0 (γ 6 (γ 1 q0)) (fun _ _ => rNx N) → rPl γ el F_2 q0 (γ 6 (γ 1 q0)) (fun _ _ => rNx N))) → rFk [1] γ F F_2 → rFs γ (γ 1 q0) F F_2 → fR (F_2 c1) 0 = x1 → x2.toInt = (γ 2 x1 : Int) → fI (F_2 x1) 2 = x2 → l5_2.toInt ≤ x2.toInt → x2.toInt = (γ 2 x1 : Int) → l5_2.toInt < x2.toInt → x3 = el x1 l5_2.toInt.toNat → tr_RArrayList_get l5_2 x2 → fI (F_2 x3) 0 = x4 → fI (F_2 x3) 5 = x5 → gB x6 0 1 → tr_RRow_usesA x4 x5 x6 → x6.toInt ≠ 0 → fI (F_2 x3) 2 = x7 → x7.toInt ≠ a1.toInt → fI (F_2 x3) 6 = x8 → gB x9 0 1 → tr_RRow_usesB x4 x8 x9 → x9.toInt ≠ 0 → fI (F_2 x3) 3 = x10 → x10.toInt ≠ a1.toInt → gB x11 0 1 → tr_RRow_sets x4 x11 → x11.toInt = 0 → x12.toInt = l5_2.toInt + 1 → R F_2 x12 k e1 → R F_2 l5_2 k e1) →
  (∀ (F_2 : Nat → va_E) (l5_2 : Int32) (x1 : Nat) (x2 : Int32) (x3 : Nat) (x4 : Int32) (x5 : Int32) (x6 : Int32) (x7 : Int32) (x8 : Int32) (x9 : Int32) (x10 : Int32) (x11 : Int32) (x12 : Int32) (x13 : Int32) (k : Nat) (e1 : Nat → va_E), gB l5_2 0 1000001 → RS D I P F_2 γ el → rStr γ [1] F F_2 → ((∀ N : Nat → Prop, N (a2.toInt : Int).toNat → a1.toInt < 100 → rPl γ el F q0 (γ 6 (γ 1 q0)) (fun _ _ => rNx N) → rPl γ el F_2 q0 (γ 6 (γ 1 q0)) (fun _ _ => rNx N))) → rFk [1] γ F F_2 → rFs γ (γ 1 q0) F F_2 → fR (F_2 c1) 0 = x1 → x2.toInt = (γ 2 x1 : Int) → fI (F_2 x1) 2 = x2 → l5_2.toInt ≤ x2.toInt → x2.toInt = (γ 2 x1 : Int) → l5_2.toInt < x2.toInt → x3 = el x1 l5_2.toInt.toNat → tr_RArrayList_get l5_2 x2 → fI (F_2 x3) 0 = x4 → fI (F_2 x3) 5 = x5 → gB x6 0 1 → tr_RRow_usesA x4 x5 x6 → x6.toInt ≠ 0 → fI (F_2 x3) 2 = x7 → x7.toInt ≠ a1.toInt → fI (F_2 x3) 6 = x8 → gB x9 0 1 → tr_RRow_usesB x4 x8 x9 → x9.toInt ≠ 0 → fI (F_2 x3) 3 = x10 → x10.toInt ≠ a1.toInt → gB x11 0 1 → tr_RRow_sets x4 x11 → x11.toInt ≠ 0 → fI (F_2 x3) 1 = x12 → x12.toInt ≠ a1.toInt → x13.toInt = l5_2.toInt + 1 → R F_2 x13 k e1 → R F_2 l5_2 k e1) →
  (∀ (F_2 : Nat → va_E) (l5_2 : Int32) (x1 : Nat) (x2 : Int32) (x3 : Nat) (x4 : Int32) (x5 : Int32) (x6 : Int32) (x7 : Int32) (x8 : Int32) (x9 : Int32) (x10 : Int32) (x11 : Int32) (x12 : Int32) (x13 : Nat → va_E) (x14 : Int32) (k : Nat) (e1 : Nat → va_E), gB l5_2 0 1000001 → RS D I P F_2 γ el → rStr γ [1] F F_2 → ((∀ N : Nat → Prop, N (a2.toInt : Int).toNat → a1.toInt < 100 → rPl γ el F q0 (γ 6 (γ 1 q0)) (fun _ _ => rNx N) → rPl γ el F_2 q0 (γ 6 (γ 1 q0)) (fun _ _ => rNx N))) → rFk [1] γ F F_2 → rFs γ (γ 1 q0) F F_2 → fR (F_2 c1) 0 = x1 → x2.toInt = (γ 2 x1 : Int) → fI (F_2 x1) 2 = x2 → l5_2.toInt ≤ x2.toInt → x2.toInt = (γ 2 x1 : Int) → l5_2.toInt < x2.toInt → x3 = el x1 l5_2.toInt.toNat → tr_RArrayList_get l5_2 x2 → fI (F_2 x3) 0 = x4 → fI (F_2 x3) 5 = x5 → gB x6 0 1 → tr_RRow_usesA x4 x5 x6 → x6.toInt ≠ 0 → fI (F_2 x3) 2 = x7 → x7.toInt ≠ a1.toInt → fI (F_2 x3) 6 = x8 → gB x9 0 1 → tr_RRow_usesB x4 x8 x9 → x9.toInt ≠ 0 → fI (F_2 x3) 3 = x10 → x10.toInt ≠ a1.toInt → gB x11 0 1 → tr_RRow_sets x4 x11 → x11.toInt ≠ 0 → fI (F_2 x3) 1 = x12 → x12.toInt = a1.toInt → (∀ b, b ≠ x3 → x13 b = F_2 b) → x13 x3 = cF (F_2 x3) 1 (.int a2) → x14.toInt = l5_2.toInt + 1 → R x13 x14 k e1 → R F_2 l5_2 k e1) →
  (∀ (F_2 : Nat → va_E) (l5_2 : Int32) (x1 : Nat) (x2 : Int32) (x3 : Nat) (x4 : Int32) (x5 : Int32) (x6 : Int32) (x7 : Int32) (x8 : Int32) (x9 : Int32) (x10 : Int32) (x11 : Nat → va_E) (x12 : Int32) (x13 : Int32) (k : Nat) (e1 : Nat → va_E), gB l5_2 0 1000001 → RS D I P F_2 γ el → rStr γ [1] F F_2 → ((∀ N : Nat → Prop, N (a2.toInt : Int).toNat → a1.toInt < 100 → rPl γ el F q0 (γ 6 (γ 1 q0)) (fun _ _ => rNx N) → rPl γ el F_2 q0 (γ 6 (γ 1 q0)) (fun _ _ => rNx N))) → rFk [1] γ F F_2 → rFs γ (γ 1 q0) F F_2 → fR (F_2 c1) 0 = x1 → x2.toInt = (γ 2 x1 : Int) → fI (F_2 x1) 2 = x2 → l5_2.toInt ≤ x2.toInt → x2.toInt = (γ 2 x1 : Int) → l5_2.toInt < x2.toInt → x3 = el x1 l5_2.toInt.toNat → tr_RArrayList_get l5_2 x2 → fI (F_2 x3) 0 = x4 → fI (F_2 x3) 5 = x5 → gB x6 0 1 → tr_RRow_usesA x4 x5 x6 → x6.toInt ≠ 0 → fI (F_2 x3) 2 = x7 → x7.toInt ≠ a1.toInt → fI (F_2 x3) 6 = x8 → gB x9 0 1 → tr_RRow_usesB x4 x8 x9 → x9.toInt ≠ 0 → fI (F_2 x3) 3 = x10 → x10.toInt = a1.toInt → (∀ b, b ≠ x3 → x11 b = F_2 b) → x11 x3 = cF (F_2 x3) 3 (.int a2) → fI (x11 x3) 0 = x4 → gB x12 0 1 → tr_RRow_sets x4 x12 → x12.toInt = 0 → x13.toInt = l5_2.toInt + 1 → R x11 x13 k e1 → R F_2 l5_2 k e1) →
  (∀ (F_2 : Nat → va_E) (l5_2 : Int32) (x1 : Nat) (x2 : Int32) (x3 : Nat) (x4 : Int32) (x5 : Int32) (x6 : Int32) (x7 : Int32) (x8 : Int32) (x9 : Int32) (x10 : Int32) (x11 : Nat → va_E) (x12 : Int32) (x13 : Int32) (x14 : Int32) (k : Nat) (e1 : Nat → va_E), gB l5_2 0 1000001 → RS D I P F_2 γ el → rStr γ [1] F F_2 → ((∀ N : Nat → Prop, N (a2.toInt : Int).toNat → a1.toInt < 100 → rPl γ el F q0 (γ 6 (γ 1 q0)) (fun _ _ => rNx N) → rPl γ el F_2 q0 (γ 6 (γ 1 q0)) (fun _ _ => rNx N))) → rFk [1] γ F F_2 → rFs γ (γ 1 q0) F F_2 → fR (F_2 c1) 0 = x1 → x2.toInt = (γ 2 x1 : Int) → fI (F_2 x1) 2 = x2 → l5_2.toInt ≤ x2.toInt → x2.toInt = (γ 2 x1 : Int) → l5_2.toInt < x2.toInt → x3 = el x1 l5_2.toInt.toNat → tr_RArrayList_get l5_2 x2 → fI (F_2 x3) 0 = x4 → fI (F_2 x3) 5 = x5 → gB x6 0 1 → tr_RRow_usesA x4 x5 x6 → x6.toInt ≠ 0 → fI (F_2 x3) 2 = x7 → x7.toInt ≠ a1.toInt → fI (F_2 x3) 6 = x8 → gB x9 0 1 → tr_RRow_usesB x4 x8 x9 → x9.toInt ≠ 0 → fI (F_2 x3) 3 = x10 → x10.toInt = a1.toInt → (∀ b, b ≠ x3 → x11 b = F_2 b) → x11 x3 = cF (F_2 x3) 3 (.int a2) → fI (x11 x3) 0 = x4 → gB x12 0 1 → tr_RRow_sets x4 x12 → x12.toInt ≠ 0 → fI (x11 x3) 1 = x13 → x13.toInt ≠ a1.toInt → x14.toInt = l5_2.toInt + 1 → R x11 x14 k e1 → R F_2 l5_2 k e1) →
  (∀ (F_2 : Nat → va_E) (l5_2 : Int32) (x1 : Nat) (x2 : Int32) (x3 : Nat) (x4 : Int32) (x5 : Int32) (x6 : Int32) (x7 : Int32) (x8 : Int32) (x9 : Int32) (x10 : Int32) (x11 : Nat → va_E) (x12 : Int32) (x13 : Int32) (x14 : Nat → va_E) (x15 : Int32) (k : Nat) (e1 : Nat → va_E), gB l5_2 0 1000001 → RS D I P F_2 γ el → rStr γ [1] F F_2 → ((∀ N : Nat → Prop, N (a2.toInt : Int).toNat → a1.toInt < 100 → rPl γ el F q0 (γ 6 (γ 1 q0)) (fun _ _ => rNx N) → rPl γ el F_2 q0 (γ 6 (γ 1 q0)) (fun _ _ => rNx N))) → rFk [1] γ F F_2 → rFs γ (γ 1 q0) F F_2 → fR (F_2 c1) 0 = x1 → x2.toInt = (γ 2 x1 : Int) → fI (F_2 x1) 2 = x2 → l5_2.toInt ≤ x2.toInt → x2.toInt = (γ 2 x1 : Int) → l5_2.toInt < x2.toInt → x3 = el x1 l5_2.toInt.toNat → tr_RArrayList_get l5_2 x2 → fI (F_2 x3) 0 = x4 → fI (F_2 x3) 5 = x5 → gB x6 0 1 → tr_RRow_usesA x4 x5 x6 → x6.toInt ≠ 0 → fI (F_2 x3) 2 = x7 → x7.toInt ≠ a1.toInt → fI (F_2 x3) 6 = x8 → gB x9 0 1 → tr_RRow_usesB x4 x8 x9 → x9.toInt ≠ 0 → fI (F_2 x3) 3 = x10 → x10.toInt = a1.toInt → (∀ b, b ≠ x3 → x11 b = F_2 b) → x11 x3 = cF (F_2 x3) 3 (.int a2) → fI (x11 x3) 0 = x4 → gB x12 0 1 → tr_RRow_sets x4 x12 → x12.toInt ≠ 0 → fI (x11 x3) 1 = x13 → x13.toInt = a1.toInt → (∀ b, b ≠ x3 → x14 b = x11 b) → x14 x3 = cF (x11 x3) 1 (.int a2) → x15.toInt = l5_2.toInt + 1 → R x14 x15 k e1 → R F_2 l5_2 k e1) →
  (∀ (F_2 : Nat → va_E) (l5_2 : Int32) (x1 : Nat) (x2 : Int32) (x3 : Nat) (x4 : Int32) (x5 : Int32) (x6 : Int32) (x7 : Int32) (x8 : Nat → va_E) (x9 : Int32) (x10 : Int32) (x11 : Int32) (x12 : Int32) (k : Nat) (e1 : Nat → va_E), gB l5_2 0 1000001 → RS D I P F_2 γ el → rStr γ [1] F F_2 → ((∀ N : Nat → Prop, N (a2.toInt : Int).toNat → a1.toInt < 100 → rPl γ el F q0 (γ 6 (γ 1 q0)) (fun _ _ => rNx N) → rPl γ el F_2 q0 (γ 6 (γ 1 q0)) (fun _ _ => rNx N))) → rFk [1] γ F F_2 → rFs γ (γ 1 q0) F F_2 → fR (F_2 c1) 0 = x1 → x2.toInt = (γ 2 x1 : Int) → fI (F_2 x1) 2 = x2 → l5_2.toInt ≤ x2.toInt → x2.toInt = (γ 2 x1 : Int) → l5_2.toInt < x2.toInt → x3 = el x1 l5_2.toInt.toNat → tr_RArrayList_get l5_2 x2 → fI (F_2 x3) 0 = x4 → fI (F_2 x3) 5 = x5 → gB x6 0 1 → tr_RRow_usesA x4 x5 x6 → x6.toInt ≠ 0 → fI (F_2 x3) 2 = x7 → x7.toInt = a1.toInt → (∀ b, b ≠ x3 → x8 b = F_2 b) → x8 x3 = cF (F_2 x3) 2 (.int a2) → fI (x8 x3) 0 = x4 → fI (x8 x3) 6 = x9 → gB x10 0 1 → tr_RRow_usesB x4 x9 x10 → x10.toInt = 0 → gB x11 0 1 → tr_RRow_sets x4 x11 → x11.toInt = 0 → x12.toInt = l5_2.toInt + 1 → R x8 x12 k e1 → R F_2 l5_2 k e1) →
  (∀ (F_2 : Nat → va_E) (l5_2 : Int32) (x1 : Nat) (x2 : Int32) (x3 : Nat) (x4 : Int32) (x5 : Int32) (x6 : Int32) (x7 : Int32) (x8 : Nat → va_E) (x9 : Int32) (x10 : Int32) (x11 : Int32) (x12 : Int32) (x13 : Int32) (k : Nat) (e1 : Nat → va_E), gB l5_2 0 1000001 → RS D I P F_2 γ el → rStr γ [1] F F_2 → ((∀ N : Nat → Prop, N (a2.toInt : Int).toNat → a1.toInt < 100 → rPl γ el F q0 (γ 6 (γ 1 q0)) (fun _ _ => rNx N) → rPl γ el F_2 q0 (γ 6 (γ 1 q0)) (fun _ _ => rNx N))) → rFk [1] γ F F_2 → rFs γ (γ 1 q0) F F_2 → fR (F_2 c1) 0 = x1 → x2.toInt = (γ 2 x1 : Int) → fI (F_2 x1) 2 = x2 → l5_2.toInt ≤ x2.toInt → x2.toInt = (γ 2 x1 : Int) → l5_2.toInt < x2.toInt → x3 = el x1 l5_2.toInt.toNat → tr_RArrayList_get l5_2 x2 → fI (F_2 x3) 0 = x4 → fI (F_2 x3) 5 = x5 → gB x6 0 1 → tr_RRow_usesA x4 x5 x6 → x6.toInt ≠ 0 → fI (F_2 x3) 2 = x7 → x7.toInt = a1.toInt → (∀ b, b ≠ x3 → x8 b = F_2 b) → x8 x3 = cF (F_2 x3) 2 (.int a2) → fI (x8 x3) 0 = x4 → fI (x8 x3) 6 = x9 → gB x10 0 1 → tr_RRow_usesB x4 x9 x10 → x10.toInt = 0 → gB x11 0 1 → tr_RRow_sets x4 x11 → x11.toInt ≠ 0 → fI (x8 x3) 1 = x12 → x12.toInt ≠ a1.toInt → x13.toInt = l5_2.toInt + 1 → R x8 x13 k e1 → R F_2 l5_2 k e1) →
  (∀ (F_2 : Nat → va_E) (l5_2 : Int32) (x1 : Nat) (x2 : Int32) (x3 : Nat) (x4 : Int32) (x5 : Int32) (x6 : Int32) (x7 : Int32) (x8 : Nat → va_E) (x9 : Int32) (x10 : Int32) (x11 : Int32) (x12 : Int32) (x13 : Nat → va_E) (x14 : Int32) (k : Nat) (e1 : Nat → va_E), gB l5_2 0 1000001 → RS D I P F_2 γ el → rStr γ [1] F F_2 → ((∀ N : Nat → Prop, N (a2.toInt : Int).toNat → a1.toInt < 100 → rPl γ el F q0 (γ 6 (γ 1 q0)) (fun _ _ => rNx N) → rPl γ el F_2 q0 (γ 6 (γ 1 q0)) (fun _ _ => rNx N))) → rFk [1] γ F F_2 → rFs γ (γ 1 q0) F F_2 → fR (F_2 c1) 0 = x1 → x2.toInt = (γ 2 x1 : Int) → fI (F_2 x1) 2 = x2 → l5_2.toInt ≤ x2.toInt → x2.toInt = (γ 2 x1 : Int) → l5_2.toInt < x2.toInt → x3 = el x1 l5_2.toInt.toNat → tr_RArrayList_get l5_2 x2 → fI (F_2 x3) 0 = x4 → fI (F_2 x3) 5 = x5 → gB x6 0 1 → tr_RRow_usesA x4 x5 x6 → x6.toInt ≠ 0 → fI (F_2 x3) 2 = x7 → x7.toInt = a1.toInt → (∀ b, b ≠ x3 → x8 b = F_2 b) → x8 x3 = cF (F_2 x3) 2 (.int a2) → fI (x8 x3) 0 = x4 → fI (x8 x3) 6 = x9 → gB x10 0 1 → tr_RRow_usesB x4 x9 x10 → x10.toInt = 0 → gB x11 0 1 → tr_RRow_sets x4 x11 → x11.toInt ≠ 0 → fI (x8 x3) 1 = x12 → x12.toInt = a1.toInt → (∀ b, b ≠ x3 → x13 b = x8 b) → x13 x3 = cF (x8 x3) 1 (.int a2) → x14.toInt = l5_2.toInt + 1 → R x13 x14 k e1 → R F_2 l5_2 k e1) →
  (∀ (F_2 : Nat → va_E) (l5_2 : Int32) (x1 : Nat) (x2 : Int32) (x3 : Nat) (x4 : Int32) (x5 : Int32) (x6 : Int32) (x7 : Int32) (x8 : Nat → va_E) (x9 : Int32) (x10 : Int32) (x11 : Int32) (x12 : Int32) (x13 : Int32) (k : Nat) (e1 : Nat → va_E), gB l5_2 0 1000001 → RS D I P F_2 γ el → rStr γ [1] F F_2 → ((∀ N : Nat → Prop, N (a2.toInt : Int).toNat → a1.toInt < 100 → rPl γ el F q0 (γ 6 (γ 1 q0)) (fun _ _ => rNx N) → rPl γ el F_2 q0 (γ 6 (γ 1 q0)) (fun _ _ => rNx N))) → rFk [1] γ F F_2 → rFs γ (γ 1 q0) F F_2 → fR (F_2 c1) 0 = x1 → x2.toInt = (γ 2 x1 : Int) → fI (F_2 x1) 2 = x2 → l5_2.toInt ≤ x2.toInt → x2.toInt = (γ 2 x1 : Int) → l5_2.toInt < x2.toInt → x3 = el x1 l5_2.toInt.toNat → tr_RArrayList_get l5_2 x2 → fI (F_2 x3) 0 = x4 → fI (F_2 x3) 5 = x5 → gB x6 0 1 → tr_RRow_usesA x4 x5 x6 → x6.toInt ≠ 0 → fI (F_2 x3) 2 = x7 → x7.toInt = a1.toInt → (∀ b, b ≠ x3 → x8 b = F_2 b) → x8 x3 = cF (F_2 x3) 2 (.int a2) → fI (x8 x3) 0 = x4 → fI (x8 x3) 6 = x9 → gB x10 0 1 → tr_RRow_usesB x4 x9 x10 → x10.toInt ≠ 0 → fI (x8 x3) 3 = x11 → x11.toInt ≠ a1.toInt → gB x12 0 1 → tr_RRow_sets x4 x12 → x12.toInt = 0 → x13.toInt = l5_2.toInt + 1 → R x8 x13 k e1 → R F_2 l5_2 k e1) →
  (∀ (F_2 : Nat → va_E) (l5_2 : Int32) (x1 : Nat) (x2 : Int32) (x3 : Nat) (x4 : Int32) (x5 : Int32) (x6 : Int32) (x7 : Int32) (x8 : Nat → va_E) (x9 : Int32) (x10 : Int32) (x11 : Int32) (x12 : Int32) (x13 : Int32) (x14 : Int32) (k : Nat) (e1 : Nat → va_E), gB l5_2 0 1000001 → RS D I P F_2 γ el → rStr γ [1] F F_2 → ((∀ N : Nat → Prop, N (a2.toInt : Int).toNat → a1.toInt < 100 → rPl γ el F q0 (γ 6 (γ 1 q0)) (fun _ _ => rNx N) → rPl γ el F_2 q0 (γ 6 (γ 1 q0)) (fun _ _ => rNx N))) → rFk [1] γ F F_2 → rFs γ (γ 1 q0) F F_2 → fR (F_2 c1) 0 = x1 → x2.toInt = (γ 2 x1 : Int) → fI (F_2 x1) 2 = x2 → l5_2.toInt ≤ x2.toInt → x2.toInt = (γ 2 x1 : Int) → l5_2.toInt < x2.toInt → x3 = el x1 l5_2.toInt.toNat → tr_RArrayList_get l5_2 x2 → fI (F_2 x3) 0 = x4 → fI (F_2 x3) 5 = x5 → gB x6 0 1 → tr_RRow_usesA x4 x5 x6 → x6.toInt ≠ 0 → fI (F_2 x3) 2 = x7 → x7.toInt = a1.toInt → (∀ b, b ≠ x3 → x8 b = F_2 b) → x8 x3 = cF (F_2 x3) 2 (.int a2) → fI (x8 x3) 0 = x4 → fI (x8 x3) 6 = x9 → gB x10 0 1 → tr_RRow_usesB x4 x9 x10 → x10.toInt ≠ 0 → fI (x8 x3) 3 = x11 → x11.toInt ≠ a1.toInt → gB x12 0 1 → tr_RRow_sets x4 x12 → x12.toInt ≠ 0 → fI (x8 x3) 1 = x13 → x13.toInt ≠ a1.toInt → x14.toInt = l5_2.toInt + 1 → R x8 x14 k e1 → R F_2 l5_2 k e1) →
  (∀ (F_2 : Nat → va_E) (l5_2 : Int32) (x1 : Nat) (x2 : Int32) (x3 : Nat) (x4 : Int32) (x5 : Int32) (x6 : Int32) (x7 : Int32) (x8 : Nat → va_E) (x9 : Int32) (x10 : Int32) (x11 : Int32) (x12 : Int32) (x13 : Int32) (x14 : Nat → va_E) (x15 : Int32) (k : Nat) (e1 : Nat → va_E), gB l5_2 0 1000001 → RS D I P F_2 γ el → rStr γ [1] F F_2 → ((∀ N : Nat → Prop, N (a2.toInt : Int).toNat → a1.toInt < 100 → rPl γ el F q0 (γ 6 (γ 1 q0)) (fun _ _ => rNx N) → rPl γ el F_2 q0 (γ 6 (γ 1 q0)) (fun _ _ => rNx N))) → rFk [1] γ F F_2 → rFs γ (γ 1 q0) F F_2 → fR (F_2 c1) 0 = x1 → x2.toInt = (γ 2 x1 : Int) → fI (F_2 x1) 2 = x2 → l5_2.toInt ≤ x2.toInt → x2.toInt = (γ 2 x1 : Int) → l5_2.toInt < x2.toInt → x3 = el x1 l5_2.toInt.toNat → tr_RArrayList_get l5_2 x2 → fI (F_2 x3) 0 = x4 → fI (F_2 x3) 5 = x5 → gB x6 0 1 → tr_RRow_usesA x4 x5 x6 → x6.toInt ≠ 0 → fI (F_2 x3) 2 = x7 → x7.toInt = a1.toInt → (∀ b, b ≠ x3 → x8 b = F_2 b) → x8 x3 = cF (F_2 x3) 2 (.int a2) → fI (x8 x3) 0 = x4 → fI (x8 x3) 6 = x9 → gB x10 0 1 → tr_RRow_usesB x4 x9 x10 → x10.toInt ≠ 0 → fI (x8 x3) 3 = x11 → x11.toInt ≠ a1.toInt → gB x12 0 1 → tr_RRow_sets x4 x12 → x12.toInt ≠ 0 → fI (x8 x3) 1 = x13 → x13.toInt = a1.toInt → (∀ b, b ≠ x3 → x14 b = x8 b) → x14 x3 = cF (x8 x3) 1 (.int a2) → x15.toInt = l5_2.toInt + 1 → R x14 x15 k e1 → R F_2 l5_2 k e1) →
  (∀ (F_2 : Nat → va_E) (l5_2 : Int32) (x1 : Nat) (x2 : Int32) (x3 : Nat) (x4 : Int32) (x5 : Int32) (x6 : Int32) (x7 : Int32) (x8 : Nat → va_E) (x9 : Int32) (x10 : Int32) (x11 : Int32) (x12 : Nat → va_E) (x13 : Int32) (x14 : Int32) (k : Nat) (e1 : Nat → va_E), gB l5_2 0 1000001 → RS D I P F_2 γ el → rStr γ [1] F F_2 → ((∀ N : Nat → Prop, N (a2.toInt : Int).toNat → a1.toInt < 100 → rPl γ el F q0 (γ 6 (γ 1 q0)) (fun _ _ => rNx N) → rPl γ el F_2 q0 (γ 6 (γ 1 q0)) (fun _ _ => rNx N))) → rFk [1] γ F F_2 → rFs γ (γ 1 q0) F F_2 → fR (F_2 c1) 0 = x1 → x2.toInt = (γ 2 x1 : Int) → fI (F_2 x1) 2 = x2 → l5_2.toInt ≤ x2.toInt → x2.toInt = (γ 2 x1 : Int) → l5_2.toInt < x2.toInt → x3 = el x1 l5_2.toInt.toNat → tr_RArrayList_get l5_2 x2 → fI (F_2 x3) 0 = x4 → fI (F_2 x3) 5 = x5 → gB x6 0 1 → tr_RRow_usesA x4 x5 x6 → x6.toInt ≠ 0 → fI (F_2 x3) 2 = x7 → x7.toInt = a1.toInt → (∀ b, b ≠ x3 → x8 b = F_2 b) → x8 x3 = cF (F_2 x3) 2 (.int a2) → fI (x8 x3) 0 = x4 → fI (x8 x3) 6 = x9 → gB x10 0 1 → tr_RRow_usesB x4 x9 x10 → x10.toInt ≠ 0 → fI (x8 x3) 3 = x11 → x11.toInt = a1.toInt → (∀ b, b ≠ x3 → x12 b = x8 b) → x12 x3 = cF (x8 x3) 3 (.int a2) → fI (x12 x3) 0 = x4 → gB x13 0 1 → tr_RRow_sets x4 x13 → x13.toInt = 0 → x14.toInt = l5_2.toInt + 1 → R x12 x14 k e1 → R F_2 l5_2 k e1) →
  (∀ (F_2 : Nat → va_E) (l5_2 : Int32) (x1 : Nat) (x2 : Int32) (x3 : Nat) (x4 : Int32) (x5 : Int32) (x6 : Int32) (x7 : Int32) (x8 : Nat → va_E) (x9 : Int32) (x10 : Int32) (x11 : Int32) (x12 : Nat → va_E) (x13 : Int32) (x14 : Int32) (x15 : Int32) (k : Nat) (e1 : Nat → va_E), gB l5_2 0 1000001 → RS D I P F_2 γ el → rStr γ [1] F F_2 → ((∀ N : Nat → Prop, N (a2.toInt : Int).toNat → a1.toInt < 100 → rPl γ el F q0 (γ 6 (γ 1 q0)) (fun _ _ => rNx N) → rPl γ el F_2 q0 (γ 6 (γ 1 q0)) (fun _ _ => rNx N))) → rFk [1] γ F F_2 → rFs γ (γ 1 q0) F F_2 → fR (F_2 c1) 0 = x1 → x2.toInt = (γ 2 x1 : Int) → fI (F_2 x1) 2 = x2 → l5_2.toInt ≤ x2.toInt → x2.toInt = (γ 2 x1 : Int) → l5_2.toInt < x2.toInt → x3 = el x1 l5_2.toInt.toNat → tr_RArrayList_get l5_2 x2 → fI (F_2 x3) 0 = x4 → fI (F_2 x3) 5 = x5 → gB x6 0 1 → tr_RRow_usesA x4 x5 x6 → x6.toInt ≠ 0 → fI (F_2 x3) 2 = x7 → x7.toInt = a1.toInt → (∀ b, b ≠ x3 → x8 b = F_2 b) → x8 x3 = cF (F_2 x3) 2 (.int a2) → fI (x8 x3) 0 = x4 → fI (x8 x3) 6 = x9 → gB x10 0 1 → tr_RRow_usesB x4 x9 x10 → x10.toInt ≠ 0 → fI (x8 x3) 3 = x11 → x11.toInt = a1.toInt → (∀ b, b ≠ x3 → x12 b = x8 b) → x12 x3 = cF (x8 x3) 3 (.int a2) → fI (x12 x3) 0 = x4 → gB x13 0 1 → tr_RRow_sets x4 x13 → x13.toInt ≠ 0 → fI (x12 x3) 1 = x14 → x14.toInt ≠ a1.toInt → x15.toInt = l5_2.toInt + 1 → R x12 x15 k e1 → R F_2 l5_2 k e1) →
  (∀ (F_2 : Nat → va_E) (l5_2 : Int32) (x1 : Nat) (x2 : Int32) (x3 : Nat) (x4 : Int32) (x5 : Int32) (x6 : Int32) (x7 : Int32) (x8 : Nat → va_E) (x9 : Int32) (x10 : Int32) (x11 : Int32) (x12 : Nat → va_E) (x13 : Int32) (x14 : Int32) (x15 : Nat → va_E) (x16 : Int32) (k : Nat) (e1 : Nat → va_E), gB l5_2 0 1000001 → RS D I P F_2 γ el → rStr γ [1] F F_2 → ((∀ N : Nat → Prop, N (a2.toInt : Int).toNat → a1.toInt < 100 → rPl γ el F q0 (γ 6 (γ 1 q0)) (fun _ _ => rNx N) → rPl γ el F_2 q0 (γ 6 (γ 1 q0)) (fun _ _ => rNx N))) → rFk [1] γ F F_2 → rFs γ (γ 1 q0) F F_2 → fR (F_2 c1) 0 = x1 → x2.toInt = (γ 2 x1 : Int) → fI (F_2 x1) 2 = x2 → l5_2.toInt ≤ x2.toInt → x2.toInt = (γ 2 x1 : Int) → l5_2.toInt < x2.toInt → x3 = el x1 l5_2.toInt.toNat → tr_RArrayList_get l5_2 x2 → fI (F_2 x3) 0 = x4 → fI (F_2 x3) 5 = x5 → gB x6 0 1 → tr_RRow_usesA x4 x5 x6 → x6.toInt ≠ 0 → fI (F_2 x3) 2 = x7 → x7.toInt = a1.toInt → (∀ b, b ≠ x3 → x8 b = F_2 b) → x8 x3 = cF (F_2 x3) 2 (.int a2) → fI (x8 x3) 0 = x4 → fI (x8 x3) 6 = x9 → gB x10 0 1 → tr_RRow_usesB x4 x9 x10 → x10.toInt ≠ 0 → fI (x8 x3) 3 = x11 → x11.toInt = a1.toInt → (∀ b, b ≠ x3 → x12 b = x8 b) → x12 x3 = cF (x8 x3) 3 (.int a2) → fI (x12 x3) 0 = x4 → gB x13 0 1 → tr_RRow_sets x4 x13 → x13.toInt ≠ 0 → fI (x12 x3) 1 = x14 → x14.toInt = a1.toInt → (∀ b, b ≠ x3 → x15 b = x12 b) → x15 x3 = cF (x12 x3) 1 (.int a2) → x16.toInt = l5_2.toInt + 1 → R x15 x16 k e1 → R F_2 l5_2 k e1) →
  R s1 s2 k e1
/- tl_RModel_rename_2: F, l3; out: F -/
def tl_RModel_rename_2 (D : va_G) (I : FieldType → ClassId) (γ el : Nat → Nat → Nat) (P : List Nat) (F : Nat → va_E) (a2 : Int32) (a1 : Int32) (q0 : Nat) (s1 : Nat → va_E) (s2 : Int32) (k : Nat) (e1 : Nat → va_E) : Prop := ∀ R : (Nat → va_E) → (Int32) → Nat → (Nat → va_E) → Prop,
  (∀ (F_1 : Nat → va_E) (l3_1 : Int32) (x1 : Int32), gB l3_1 0 1000000 → RS D I P F_1 γ el → rStr γ [1] F F_1 → ((∀ N : Nat → Prop, N (a2.toInt : Int).toNat → a1.toInt < 100 → rPl γ el F q0 (γ 6 (γ 1 q0)) (fun _ _ => rNx N) → rPl γ el F_1 q0 (γ 6 (γ 1 q0)) (fun _ _ => rNx N))) → rFk [1] γ F F_1 → rFs γ (γ 1 q0) F F_1 → fI (F_1 q0) 3 = x1 → x1.toInt ≤ l3_1.toInt → R F_1 l3_1 150 F_1) →
  (∀ (F_1 : Nat → va_E) (l3_1 : Int32) (x1 : Int32) (x2 : Nat) (x3 : Nat) (x4 : Int32) (x5 : Nat → va_E) (x6 : Int32) (k : Nat) (e1 : Nat → va_E), gB l3_1 0 1000000 → RS D I P F_1 γ el → rStr γ [1] F F_1 → ((∀ N : Nat → Prop, N (a2.toInt : Int).toNat → a1.toInt < 100 → rPl γ el F q0 (γ 6 (γ 1 q0)) (fun _ _ => rNx N) → rPl γ el F_1 q0 (γ 6 (γ 1 q0)) (fun _ _ => rNx N))) → rFk [1] γ F F_1 → rFs γ (γ 1 q0) F F_1 → fI (F_1 q0) 3 = x1 → l3_1.toInt < x1.toInt → fR (F_1 q0) 0 = x2 → x3 = el x2 l3_1.toInt.toNat → fI (F_1 x2) 2 = x4 → tr_RCode_get l3_1 x4 → tl_RModel_rename_20 D I γ el P F a2 a1 q0 x3 F_1 (0 : Int32) 144 x5 → x6.toInt = l3_1.toInt + 1 → R x5 x6 k e1 → R F_1 l3_1 k e1) →
  R s1 s2 k e1
/- tr_RModel_rename: F -/
def tr_RModel_rename (D : va_G) (I : FieldType → ClassId) (γ el : Nat → Nat → Nat) (P : List Nat) (F : Nat → va_E) (q0 : Nat) (a1 : Int32) (a2 : Int32) (o1 : Nat → va_E) : Prop := ∀ R : (Nat → va_E) → Prop,
  (∀ (x1 : Nat → va_E), tl_RModel_rename_2 D I γ el P F a2 a1 q0 F (0 : Int32) 150 x1 → R x1) →
  R o1
end
section
abbrev ky_369991_SpillForgeModel_rename : gKey := (cX17_rename, 7, "SpillForgeModel", none, [], "rename", fun _ _ => True)
def pt_369991_SpillForgeModel_rename (D : va_G) (I : FieldType → ClassId) (γ el : Nat → Nat → Nat) (P369985 : List Nat) (F369986 : Nat → va_E) (q369987 : Nat) (p369988 : Int32) (p369989 : Int32) : Option Value → va_W → Nat → Nat → Prop := fun r w dc ds => ∃ (F397051 : Nat → va_E), r = none ∧ w = va_pl P369985 F397051 ∧ RS D I P369985 F397051 γ el ∧ rStr γ [1] F369986 F397051 ∧ dc ≤ 0 ∧ ds ≤ 0 ∧ (∀ N : Nat → Prop, N (p369989.toInt : Int).toNat → p369988.toInt < 100 → rPl γ el F369986 q369987 (γ 6 (γ 1 q369987)) (fun _ _ => rNx N) → rPl γ el F397051 q369987 (γ 6 (γ 1 q369987)) (fun _ _ => rNx N)) ∧ rFk [1] γ F369986 F397051 ∧ rFs γ (γ 1 q369987) F369986 F397051 ∧ tr_RModel_rename D I γ el P369985 F369986 q369987 p369988 p369989 F397051
set_option maxRecDepth 100000 in
set_option maxHeartbeats 4000000 in
theorem ct_369991_SpillForgeModel_rename (l : Launch) (hl0 : l.stackTraces = false) (D : va_G) (I : FieldType → ClassId) (γ el : Nat → Nat → Nat) (P369985 : List Nat) (F369986 : Nat → va_E) (q369987 : Nat) (p369988 : Int32) (p369989 : Int32) (hT : RS D I P369985 F369986 γ el) (htq369987 : rKd γ q369987 9) (bp369988 : gB p369988 0 1999) (bp369989 : gB p369989 0 1999) (x369990 : 0 < γ 6 (γ 1 q369987)) : CtA (gV D I) l yX17_rename cX17_rename 7 none 4 85 0 0 [.ref q369987, .int p369988, .int p369989] (va_pl P369985 F369986) (pt_369991_SpillForgeModel_rename D I γ el P369985 F369986 q369987 p369988 p369989) gNA := by
  refine CtA_of hl0 (by decide) (Nat.le_of_ble_eq_true rfl) ?_
  refine G_iconst 0 dr_cX17_rename_0 (by decide +kernel) ?_
  refine G_istore_n (L' := [(3, .int 0), (0, .ref q369987), (1, .int p369988), (2, .int p369989)]) dr_cX17_rename_1 (Nat.le_of_ble_eq_true rfl) rfl ?_
  have hlp2_395139 : ∀ (n2_395139 : Nat) (F395134 : Nat → va_E) (g395133 : Int32), gB g395133 0 1000000 → RS D I P369985 F395134 γ el → rStr γ [1] F369986 F395134 → (∀ N : Nat → Prop, N (p369989.toInt : Int).toNat → p369988.toInt < 100 → rPl γ el F369986 q369987 (γ 6 (γ 1 q369987)) (fun _ _ => rNx N) → rPl γ el F395134 q369987 (γ 6 (γ 1 q369987)) (fun _ _ => rNx N)) → rFk [1] γ F369986 F395134 → rFs γ (γ 1 q369987) F369986 F395134 → (∀ (k : Nat) (e1 : Nat → va_E), tl_RModel_rename_2 D I γ el P369985 F369986 p369989 p369988 q369987 F395134 g395133 k e1 → tl_RModel_rename_2 D I γ el P369985 F369986 p369989 p369988 q369987 F369986 (0 : Int32) k e1) → ((1000001 : Int) - g395133.toInt).toNat < n2_395139 → G (gV D I) l (gRm 4 85 0 0) (gMA (gV D I) (pt_369991_SpillForgeModel_rename D I γ el P369985 F369986 q369987 p369988 p369989) gNA 0 0) ky_369991_SpillForgeModel_rename 2 [(3, .int g395133), (0, .ref q369987), (1, .int p369988), (2, .int p369989)] [] (va_pl P369985 F395134) 0 0 := by
    intro n2_395139
    induction n2_395139 with
    | zero => intro F395134 g395133 bg395133 hT395135 hs395136 x395137 x395138 x395139 kt2_395140 hm2_395139; exact absurd hm2_395139 (Nat.not_lt_zero _)
    | succ n2_395139 ih2_395139 =>
      intro F395134 g395133 bg395133 hT395135 hs395136 x395137 x395138 x395139 kt2_395140 hm2_395139
      have hs395141 : rStr γ [1] F369986 F395134 := fun b h0 hb hw => (hs395136 b h0 hb hw).trans ((rStr_rf (γ := γ) (W := [1]) (F := F369986)) b h0 hb hw).symm
      have hs395142 : rStr γ [1] F369986 F395134 := rStr_tr (rStr_rf (γ := γ) (W := [1]) (F := F369986)) hs395141
      refine G_iload_n 0 dr_cX17_rename_2 rfl ?_
      refine G_aload_n 1 dr_cX17_rename_3 rfl ?_
      have hm395143 : q369987 ∈ P369985 := RS_m hT395135 htq369987 (by decide)
      obtain ⟨q395145, q395146, p395147, p395148, he395144, ht395164, ht395149, ht395150, ht395151, ht395152, r395153, r395154, r395155, r395156, r395157, r395158, r395159, r395160, r395161, r395162, r395163⟩ := show rk_9 γ el q369987 (F395134 q369987) from RS_o hT395135 htq369987
      have bp395147 : gB p395147 0 1000000 := ⟨by omega, by omega⟩
      have bp395148 : gB p395148 0 1000000 := ⟨by omega, by omega⟩
      have fq395165 : fI (F395134 q369987) 3 = p395148 := by rw [he395144]; rfl
      refine Gw_callV (As := []) (gV_ok D I) (cp_12780_Code_size l hl0 D I P369985 F395134 q369987 q395145 q395146 p395147 p395148 hm395143 he395144) dr_cX17_rename_4 ⟨wr_10_160, wr_1_15, wr_9_131, by decide, rfl, (Nat.le_of_ble_eq_true rfl), (Nat.le_of_ble_eq_true rfl)⟩ wr_9_129 wr_9_130 hm395143 he395144 rfl (show 0 + 0 ≤ 0 by first | omega | decide) (show 0 + 0 ≤ 0 by first | omega | decide) (Nat.le_of_ble_eq_true rfl) (fun r395169 w395170 dc395166 ds395167 hp395168 => ?_) (fun _ _ _ _ _ z => z.elim)
      obtain ⟨rfl, rfl, hdc, hds⟩ := hp395168
      change G _ _ _ _ _ _ _ (.int p395148 :: _) _ _ _
      refine G_widen (cs' := 0) (sl' := 0) (by omega) (by omega) ?_
      refine G_icmp_ge 150 dr_cX17_rename_7 (by decide +kernel) (fun hc395171 => ?_) (fun hc395171 => ?_)
      · have r395172 : p395148.toInt ≤ g395133.toInt := gC_le hc395171
        have hx395173 : tl_RModel_rename_2 D I γ el P369985 F369986 p369989 p369988 q369987 F369986 (0 : Int32) 150 F395134 := kt2_395140 150 F395134 (fun R c1 c2 => c1 F395134 g395133 p395148 bg395133 hT395135 hs395136 x395137 x395138 x395139 fq395165 r395172)
        exact G_vretA dr_cX17_rename_150 rfl (Nat.le_of_ble_eq_true rfl) (Nat.le_of_ble_eq_true rfl) ⟨F395134, rfl, rfl, hT395135, hs395136, (Nat.le_of_ble_eq_true rfl), (Nat.le_of_ble_eq_true rfl), x395137, x395138, x395139, (fun R c1 => c1 F395134 hx395173)⟩
      · have r395174 : g395133.toInt < p395148.toInt := gC_nle hc395171
        have bg395133' : gB g395133 0 999999 := ⟨by omega, by omega⟩
        have bp395148' : gB p395148 1 1000000 := ⟨by omega, by omega⟩
        refine G_aload_n 1 dr_cX17_rename_10 rfl ?_
        refine G_iload_n 0 dr_cX17_rename_11 rfl ?_
        have hm395175 : q395145 ∈ P369985 := RS_m hT395135 ht395149 (by decide)
        obtain ⟨⟨p395177, p395178, q395179, he395176, r395180, r395181, r395182, r395184⟩, r395183⟩ := show rk_4 D I γ el F395134 q395145 from RS_o hT395135 ht395149
        have bp395177 := gB_any p395177
        have bp395178 : gB p395178 0 1000000 := ⟨by omega, by omega⟩
        obtain ⟨r395185, r395186, n395193, f395194, r395187, r395188, r395189, r395190, r395191, r395192⟩ := rLC_n r395182 (by omega)
        have hm395195 : q395179 ∈ P369985 := RS_m hT395135 r395185 (by decide)
        obtain ⟨q395196, hx395197⟩ : ∃ x, x = el q395145 g395133.toInt.toNat := ⟨_, rfl⟩
        have fq395201 : fR (F395134 q369987) 0 = q395145 := by rw [he395144]; rfl
        have hx395198 : f395194 g395133.toNatClampNeg = some q395196 := (r395191 _ (show g395133.toInt.toNat < γ 2 q395145 by omega)).trans (by rw [hx395197])
        have ht395202 : rKd γ q395196 2 := by rw [hx395197]; exact (r395160 _ (by omega)).resolve_right (fun z => absurd z.1 (by omega))
        have ht395203 : rFm γ q395196 q395145 := by rw [hx395197]; exact (r395183 _ (show g395133.toInt.toNat < γ 2 q395145 by omega)).2.1
        have hm395204 : q395196 ∈ P369985 := RS_m hT395135 ht395202 (by decide)
        obtain ⟨q395206, q395207, p395208, p395209, he395205, ht395216, ht395210, ht395211, ht395212, ht395213, ht395214, bp395208, bp395209, r395215, r395217, r395218⟩ := show rk_2 γ q395196 (F395134 q395196) from RS_o hT395135 ht395202
        have fq395219 : fI (F395134 q395145) 2 = p395178 := by rw [he395176]; rfl
        refine Gw_callV (As := [.int g395133]) (gV_ok D I) (cp_7901_Code_get l hl0 D I P369985 F395134 q369987 q395145 q395179 g395133 q395146 p395147 p395148 p395177 p395178 f395194 n395193 q395196 q395206 q395207 p395208 p395209 hm395143 hm395175 hm395195 hm395204 he395144 he395176 r395187 he395205 (gB_w bg395133' (by decide) (by decide)) (gB_w bp395178 (by decide) (by decide)) (by omega) (by omega) (by assumption) (by omega)) dr_cX17_rename_12 ⟨wr_10_161, wr_1_15, wr_10_141, by decide, rfl, (Nat.le_of_ble_eq_true rfl), (Nat.le_of_ble_eq_true rfl)⟩ wr_10_139 wr_10_140 hm395143 he395144 rfl (show 0 + 0 ≤ 0 by first | omega | decide) (show 0 + 0 ≤ 0 by first | omega | decide) (Nat.le_of_ble_eq_true rfl) (fun r395223 w395224 dc395220 ds395221 hp395222 => ?_) (fun _ _ _ _ _ z => z.elim)
        obtain ⟨rfl, rfl, hdc, hds, ht395225⟩ := hp395222
        change G _ _ _ _ _ _ _ (.ref q395196 :: _) _ _ _
        refine G_widen (cs' := 0) (sl' := 0) (by omega) (by omega) ?_
        have hb395226 : el (γ 14 q369987) (g395133.toInt : Int).toNat = q395196 := by rw [ht395164.1, hx395197]
        refine G_astore (L' := [(4, .ref q395196), (3, .int g395133), (0, .ref q369987), (1, .int p369988), (2, .int p369989)]) dr_cX17_rename_15 (Nat.le_of_ble_eq_true rfl) rfl ?_
        refine G_iconst 0 dr_cX17_rename_17 (by decide +kernel) ?_
        refine G_istore (L' := [(5, .int 0), (4, .ref q395196), (3, .int g395133), (0, .ref q369987), (1, .int p369988), (2, .int p369989)]) dr_cX17_rename_18 (Nat.le_of_ble_eq_true rfl) rfl ?_
        have hlp20_396105 : ∀ (n20_396105 : Nat) (F396100 : Nat → va_E) (g396099 : Int32), gB g396099 0 1000001 → RS D I P369985 F396100 γ el → rStr γ [1] F369986 F396100 → (∀ N : Nat → Prop, N (p369989.toInt : Int).toNat → p369988.toInt < 100 → rPl γ el F369986 q369987 (γ 6 (γ 1 q369987)) (fun _ _ => rNx N) → rPl γ el F396100 q369987 (γ 6 (γ 1 q369987)) (fun _ _ => rNx N)) → rFk [1] γ F369986 F396100 → rFs γ (γ 1 q369987) F369986 F396100 → (∀ (k : Nat) (e1 : Nat → va_E), tl_RModel_rename_20 D I γ el P369985 F369986 p369989 p369988 q369987 q395196 F396100 g396099 k e1 → tl_RModel_rename_20 D I γ el P369985 F369986 p369989 p369988 q369987 q395196 F395134 (0 : Int32) k e1) → ((1000002 : Int) - g396099.toInt).toNat < n20_396105 → G (gV D I) l (gRm 4 85 0 0) (gMA (gV D I) (pt_369991_SpillForgeModel_rename D I γ el P369985 F369986 q369987 p369988 p369989) gNA 0 0) ky_369991_SpillForgeModel_rename 20 [(5, .int g396099), (4, .ref q395196), (3, .int g395133), (0, .ref q369987), (1, .int p369988), (2, .int p369989)] [] (va_pl P369985 F396100) 0 0 := by
          intro n20_396105
          induction n20_396105 with
          | zero => intro F396100 g396099 bg396099 hT396101 hs396102 x396103 x396104 x396105 kt20_396106 hm20_396105; exact absurd hm20_396105 (Nat.not_lt_zero _)
          | succ n20_396105 ih20_396105 =>
            intro F396100 g396099 bg396099 hT396101 hs396102 x396103 x396104 x396105 kt20_396106 hm20_396105
            have hs396107 : rStr γ [1] F395134 F396100 := fun b h0 hb hw => (hs396102 b h0 hb hw).trans (hs395136 b h0 hb hw).symm
            have he396108 : F396100 q369987 = .inr (18, [.ref q395145, .ref q395146, .int p395147, .int p395148]) := (hs396107 q369987 (rT0 htq369987 (by decide)) (rT1 htq369987 (by decide)) (rT2 htq369987 (by decide))).trans he395144
            have he396109 : F396100 q395145 = .inr (4, [.int p395177, .ref q395179, .int p395178]) := (hs396107 q395145 (rT0 ht395149 (by decide)) (rT1 ht395149 (by decide)) (rT2 ht395149 (by decide))).trans he395176
            have he396110 : F396100 q395179 = .inl (I (.object "java/lang/Object"), n395193, .inr (.inr (.inr (.inr f395194)))) := (hs396107 q395179 (rT0 r395185 (by decide)) (rT1 r395185 (by decide)) (rT2 r395185 (by decide))).trans r395187
            have he396111 : F396100 q395196 = .inr (17, [.ref q395206, .ref q395207, .int p395208, .int p395209]) := (hs396107 q395196 (rT0 ht395202 (by decide)) (rT1 ht395202 (by decide)) (rT2 ht395202 (by decide))).trans he395205
            have hs396112 : rStr γ [1] F369986 F396100 := rStr_tr hs395136 hs396107
            refine G_iload 0 dr_cX17_rename_20 rfl ?_
            refine G_aload 1 dr_cX17_rename_22 rfl ?_
            have fq396113 : fR (F396100 q395196) 0 = q395206 := by rw [he396111]; rfl
            refine Gp_get 0 hm395204 he396111 dr_cX17_rename_24 (gk_X12 D I) (Nat.le_of_ble_eq_true rfl) wr_9_220 rfl ?_
            have hm396114 : q395206 ∈ P369985 := RS_m hT396101 ht395210 (by decide)
            obtain ⟨⟨p396116, p396117, q396118, he396115, r396119, r396120, r396121, r396123⟩, r396122⟩ := show rk_3 D I γ el F396100 q395206 from RS_o hT396101 ht395210
            have bp396116 := gB_any p396116
            have bp396117 : gB p396117 0 1000000 := ⟨by omega, by omega⟩
            have fq396124 : p396117.toInt = (γ 2 q395206 : Int) := by omega
            have fq396125 : fI (F396100 q395206) 2 = p396117 := by rw [he396115]; rfl
            refine Gw_callV (As := []) (gV_ok D I) (cp_7_ArrayList_size l hl0 D I P369985 F396100 q395206 p396116 q396118 p396117 hm396114 he396115 (gB_w bp396117 (by decide) (by decide))) dr_cX17_rename_27 ⟨wr_10_200, wr_1_18, wr_9_160, by decide, rfl, (Nat.le_of_ble_eq_true rfl), (Nat.le_of_ble_eq_true rfl)⟩ wr_9_158 wr_9_159 hm396114 he396115 rfl (show 0 + 0 ≤ 0 by first | omega | decide) (show 0 + 0 ≤ 0 by first | omega | decide) (Nat.le_of_ble_eq_true rfl) (fun r396129 w396130 dc396126 ds396127 hp396128 => ?_) (fun _ _ _ _ _ z => z.elim)
            obtain ⟨rfl, rfl, hdc, hds⟩ := hp396128
            change G _ _ _ _ _ _ _ (.int p396117 :: _) _ _ _
            refine G_widen (cs' := 0) (sl' := 0) (by omega) (by omega) ?_
            refine G_icmp_gt 144 dr_cX17_rename_30 (by decide +kernel) (fun hc396131 => ?_) (fun hc396131 => ?_)
            · have r396132 : p396117.toInt < g396099.toInt := gC_lt hc396131
              have bg396099' : gB g396099 1 1000001 := ⟨by omega, by omega⟩
              have hx396133 : tl_RModel_rename_20 D I γ el P369985 F369986 p369989 p369988 q369987 q395196 F395134 (0 : Int32) 144 F396100 := kt20_396106 144 F396100 (fun R c1 c2 c3 c4 c5 c6 c7 c8 c9 c10 c11 c12 c13 c14 c15 c16 c17 c18 c19 c20 c21 c22 c23 c24 c25 c26 c27 c28 c29 c30 c31 c32 c33 c34 c35 c36 c37 c38 c39 c40 c41 c42 c43 c44 c45 c46 c47 c48 c49 c50 c51 c52 c53 c54 c55 => c1 F396100 g396099 q395206 p396117 bg396099 hT396101 hs396102 x396103 x396104 x396105 fq396113 fq396124 fq396125 r396132)
              obtain ⟨z396134, hz396134⟩ : ∃ z : Int32, z = g395133 + Int32.ofInt 1 := ⟨_, rfl⟩
              have ez396134 : z396134.toInt = g395133.toInt + 1 := gI_inc hz396134 (by decide) bg395133' (by decide) (by decide)
              have bz396134 : gB z396134 1 1000000 := ⟨by omega, by omega⟩
              refine G_iinc (L' := [(3, .int z396134), (5, .int g396099), (4, .ref q395196), (0, .ref q369987), (1, .int p369988), (2, .int p369989)]) z396134 2 dr_cX17_rename_144 rfl hz396134.symm (Nat.le_of_ble_eq_true rfl) rfl ?_
              refine G_goto 2 dr_cX17_rename_147 (by decide +kernel) ?_
              refine G_lv (L' := [(3, .int z396134), (0, .ref q369987), (1, .int p369988), (2, .int p369989)]) [0, 3, 4, 5] rfl ?_
              exact ih2_395139 F396100 z396134 (gB_w bz396134 (by decide) (by decide)) hT396101 hs396102 x396103 x396104 x396105 (fun k e1 ht => kt2_395140 k e1 (fun R c1 c2 => c2 F395134 g395133 p395148 q395145 q395196 p395178 F396100 z396134 k e1 bg395133 hT395135 hs395136 x395137 x395138 x395139 fq395165 r395174 fq395201 hx395197 fq395219 ht395225 hx396133 ez396134 (ht R c1 c2))) (mz_up ez396134 (Int.le_trans bg395133'.2 (by decide)) hm2_395139)
            · have r396135 : g396099.toInt ≤ p396117.toInt := gC_nlt hc396131
              have bg396099' : gB g396099 0 1000000 := ⟨by omega, by omega⟩
              refine G_iload 0 dr_cX17_rename_33 rfl ?_
              refine G_aload 1 dr_cX17_rename_35 rfl ?_
              refine Gp_get 0 hm395204 he396111 dr_cX17_rename_37 (gk_X12 D I) (Nat.le_of_ble_eq_true rfl) wr_9_220 rfl ?_
              have fq396136 : p396117.toInt = (γ 2 q395206 : Int) := by omega
              refine Gw_callV (As := []) (gV_ok D I) (cp_7_ArrayList_size l hl0 D I P369985 F396100 q395206 p396116 q396118 p396117 hm396114 he396115 (gB_w bp396117 (by decide) (by decide))) dr_cX17_rename_40 ⟨wr_10_200, wr_1_18, wr_9_160, by decide, rfl, (Nat.le_of_ble_eq_true rfl), (Nat.le_of_ble_eq_true rfl)⟩ wr_9_158 wr_9_159 hm396114 he396115 rfl (show 0 + 0 ≤ 0 by first | omega | decide) (show 0 + 0 ≤ 0 by first | omega | decide) (Nat.le_of_ble_eq_true rfl) (fun r396140 w396141 dc396137 ds396138 hp396139 => ?_) (fun _ _ _ _ _ z => z.elim)
              obtain ⟨rfl, rfl, hdc, hds⟩ := hp396139
              change G _ _ _ _ _ _ _ (.int p396117 :: _) _ _ _
              refine G_widen (cs' := 0) (sl' := 0) (by omega) (by omega) ?_
              refine G_icmp_ge 62 dr_cX17_rename_43 (by decide +kernel) (fun hc396142 => ?_) (fun hc396142 => ?_)
              · have r396143 : p396117.toInt ≤ g396099.toInt := gC_le hc396142
                refine G_aload 1 dr_cX17_rename_62 rfl ?_
                have fq396144 : fR (F396100 q395196) 1 = q395207 := by rw [he396111]; rfl
                refine Gp_get 1 hm395204 he396111 dr_cX17_rename_64 (gk_X12 D I) (Nat.le_of_ble_eq_true rfl) wr_9_223 rfl ?_
                have fl396147 : p396117.toInt = γ 2 q395206 := r396119
                have hp396145 : rAt γ el q369987 (g395133.toInt : Int).toNat (g396099.toInt : Int).toNat = q395207 := (rAt_e hb395226 ht395216.1 (by omega)).trans ht395216.2.1
                have hL396146 : (g396099.toInt : Int).toNat ≤ γ 2 (rwL γ el q369987 (g395133.toInt : Int).toNat) := by unfold rwL; rw [hb395226, ht395216.1]; omega
                have nb396148 : (g395133.toInt : Int).toNat < γ 6 (γ 1 q369987) := by omega
                have hm396149 : q395207 ∈ P369985 := RS_m hT396101 ht395212 (by decide)
                obtain ⟨p396151, p396152, p396153, p396154, p396155, p396156, p396157, he396150, bp396151, bp396152, bp396155, bp396156, bp396157, r396158, r396159, r396160, r396161, r396162⟩ := show rk_1 γ q395207 (F396100 q395207) from RS_o hT396101 ht395212
                have bp396153 := gB_any p396153
                have bp396154 := gB_any p396154
                refine G_astore (L' := [(6, .ref q395207), (5, .int g396099), (4, .ref q395196), (3, .int g395133), (0, .ref q369987), (1, .int p369988), (2, .int p369989)]) dr_cX17_rename_67 (Nat.le_of_ble_eq_true rfl) rfl ?_
                refine G_aload 0 dr_cX17_rename_69 rfl ?_
                have fq396163 : fI (F396100 q395207) 0 = p396151 := by rw [he396150]; rfl
                have fq396164 : fI (F396100 q395207) 5 = p396156 := by rw [he396150]; rfl
                refine Gw_callV (As := []) (gV_ok D I) (cp_1675_Row_usesA l hl0 D I P369985 F396100 q395207 p396151 p396152 p396153 p396154 p396155 p396156 p396157 hm396149 he396150 bp396151 bp396152 bp396155 bp396156 bp396157) dr_cX17_rename_71 ⟨wr_10_192, wr_1_39, wr_10_195, by decide, rfl, (Nat.le_of_ble_eq_true rfl), (Nat.le_of_ble_eq_true rfl)⟩ wr_10_193 wr_10_194 hm396149 he396150 rfl (show 0 + 0 ≤ 0 by first | omega | decide) (show 0 + 0 ≤ 0 by first | omega | decide) (Nat.le_of_ble_eq_true rfl) (fun r396168 w396169 dc396165 ds396166 hp396167 => ?_) (fun _ _ _ _ _ z => z.elim)
                obtain ⟨o396170, rfl, rfl, hdc, hds, bo396170, x396171, ht396172⟩ := hp396167
                change G _ _ _ _ _ _ _ (.int o396170 :: _) _ _ _
                refine G_widen (cs' := 0) (sl' := 0) (by omega) (by omega) ?_
                refine G_if_eq 92 dr_cX17_rename_74 (by decide +kernel) (fun hc396173 => ?_) (fun hc396173 => ?_)
                · have r396174 : o396170.toInt = 0 := gj_eq hc396173 (show Int32.toInt 0 = 0 by decide)
                  have bo396170' : gB o396170 0 0 := gB_t0 r396174
                  refine G_aload 0 dr_cX17_rename_92 rfl ?_
                  have fq396175 : fI (F396100 q395207) 6 = p396157 := by rw [he396150]; rfl
                  refine Gw_callV (As := []) (gV_ok D I) (cp_1699_Row_usesB l hl0 D I P369985 F396100 q395207 p396151 p396152 p396153 p396154 p396155 p396156 p396157 hm396149 he396150 bp396151 bp396152 bp396155 bp396156 bp396157) dr_cX17_rename_94 ⟨wr_10_196, wr_1_39, wr_10_199, by decide, rfl, (Nat.le_of_ble_eq_true rfl), (Nat.le_of_ble_eq_true rfl)⟩ wr_10_197 wr_10_198 hm396149 he396150 rfl (show 0 + 0 ≤ 0 by first | omega | decide) (show 0 + 0 ≤ 0 by first | omega | decide) (Nat.le_of_ble_eq_true rfl) (fun r396179 w396180 dc396176 ds396177 hp396178 => ?_) (fun _ _ _ _ _ z => z.elim)
                  obtain ⟨o396181, rfl, rfl, hdc, hds, bo396181, x396182, ht396183⟩ := hp396178
                  change G _ _ _ _ _ _ _ (.int o396181 :: _) _ _ _
                  refine G_widen (cs' := 0) (sl' := 0) (by omega) (by omega) ?_
                  refine G_if_eq 115 dr_cX17_rename_97 (by decide +kernel) (fun hc396184 => ?_) (fun hc396184 => ?_)
                  · have r396185 : o396181.toInt = 0 := gj_eq hc396184 (show Int32.toInt 0 = 0 by decide)
                    have bo396181' : gB o396181 0 0 := gB_t0 r396185
                    refine G_aload 0 dr_cX17_rename_115 rfl ?_
                    refine Gw_callV (As := []) (gV_ok D I) (cp_1660_Row_sets l hl0 D I P369985 F396100 q395207 p396151 p396152 p396153 p396154 p396155 p396156 p396157 hm396149 he396150 bp396151 bp396152 bp396155 bp396156 bp396157) dr_cX17_rename_117 ⟨wr_10_181, wr_1_39, wr_10_184, by decide, rfl, (Nat.le_of_ble_eq_true rfl), (Nat.le_of_ble_eq_true rfl)⟩ wr_10_182 wr_10_183 hm396149 he396150 rfl (show 0 + 0 ≤ 0 by first | omega | decide) (show 0 + 0 ≤ 0 by first | omega | decide) (Nat.le_of_ble_eq_true rfl) (fun r396189 w396190 dc396186 ds396187 hp396188 => ?_) (fun _ _ _ _ _ z => z.elim)
                    obtain ⟨o396191, rfl, rfl, hdc, hds, bo396191, ht396192⟩ := hp396188
                    change G _ _ _ _ _ _ _ (.int o396191 :: _) _ _ _
                    refine G_widen (cs' := 0) (sl' := 0) (by omega) (by omega) ?_
                    refine G_if_eq 138 dr_cX17_rename_120 (by decide +kernel) (fun hc396193 => ?_) (fun hc396193 => ?_)
                    · have r396194 : o396191.toInt = 0 := gj_eq hc396193 (show Int32.toInt 0 = 0 by decide)
                      have bo396191' : gB o396191 0 0 := gB_t0 r396194
                      obtain ⟨z396195, hz396195⟩ : ∃ z : Int32, z = g396099 + Int32.ofInt 1 := ⟨_, rfl⟩
                      have ez396195 : z396195.toInt = g396099.toInt + 1 := gI_inc hz396195 (by decide) bg396099' (by decide) (by decide)
                      have bz396195 : gB z396195 1 1000001 := ⟨by omega, by omega⟩
                      refine G_iinc (L' := [(5, .int z396195), (6, .ref q395207), (4, .ref q395196), (3, .int g395133), (0, .ref q369987), (1, .int p369988), (2, .int p369989)]) z396195 1 dr_cX17_rename_138 rfl hz396195.symm (Nat.le_of_ble_eq_true rfl) rfl ?_
                      refine G_goto 20 dr_cX17_rename_141 (by decide +kernel) ?_
                      refine G_lv (L' := [(5, .int z396195), (4, .ref q395196), (3, .int g395133), (0, .ref q369987), (1, .int p369988), (2, .int p369989)]) [0, 2, 3, 4, 5, 6] rfl ?_
                      exact ih20_396105 F396100 z396195 (gB_w bz396195 (by decide) (by decide)) hT396101 hs396102 x396103 x396104 x396105 (fun k e1 ht => kt20_396106 k e1 (fun R c1 c2 c3 c4 c5 c6 c7 c8 c9 c10 c11 c12 c13 c14 c15 c16 c17 c18 c19 c20 c21 c22 c23 c24 c25 c26 c27 c28 c29 c30 c31 c32 c33 c34 c35 c36 c37 c38 c39 c40 c41 c42 c43 c44 c45 c46 c47 c48 c49 c50 c51 c52 c53 c54 c55 => c2 F396100 g396099 q395206 p396117 q395207 p396151 p396156 o396170 p396157 o396181 o396191 z396195 k e1 bg396099 hT396101 hs396102 x396103 x396104 x396105 fq396113 fq396124 fq396125 r396135 fq396136 r396143 fq396144 fq396163 fq396164 bo396170 ht396172 r396174 fq396175 bo396181 ht396183 r396185 bo396191 ht396192 r396194 ez396195 (ht R c1 c2 c3 c4 c5 c6 c7 c8 c9 c10 c11 c12 c13 c14 c15 c16 c17 c18 c19 c20 c21 c22 c23 c24 c25 c26 c27 c28 c29 c30 c31 c32 c33 c34 c35 c36 c37 c38 c39 c40 c41 c42 c43 c44 c45 c46 c47 c48 c49 c50 c51 c52 c53 c54 c55))) (mz_up ez396195 (Int.le_trans bg396099'.2 (by decide)) hm20_396105)
                    · have r396196 : o396191.toInt ≠ 0 := gj_neq hc396193 (show Int32.toInt 0 = 0 by decide)
                      have bo396191' : gB o396191 1 1 := gB_t1 bo396191 r396196
                      refine G_aload 0 dr_cX17_rename_123 rfl ?_
                      have fq396197 : fI (F396100 q395207) 1 = p396152 := by rw [he396150]; rfl
                      refine Gp_get 1 hm396149 he396150 dr_cX17_rename_125 (gk_X15 D I) (Nat.le_of_ble_eq_true rfl) wr_9_182 rfl ?_
                      refine G_iload_n 5 dr_cX17_rename_128 rfl ?_
                      refine G_icmp_ne 138 dr_cX17_rename_129 (by decide +kernel) (fun hc396198 => ?_) (fun hc396198 => ?_)
                      · have r396199 : p396152.toInt ≠ p369988.toInt := gC_ne hc396198
                        obtain ⟨z396200, hz396200⟩ : ∃ z : Int32, z = g396099 + Int32.ofInt 1 := ⟨_, rfl⟩
                        have ez396200 : z396200.toInt = g396099.toInt + 1 := gI_inc hz396200 (by decide) bg396099' (by decide) (by decide)
                        have bz396200 : gB z396200 1 1000001 := ⟨by omega, by omega⟩
                        refine G_iinc (L' := [(5, .int z396200), (6, .ref q395207), (4, .ref q395196), (3, .int g395133), (0, .ref q369987), (1, .int p369988), (2, .int p369989)]) z396200 1 dr_cX17_rename_138 rfl hz396200.symm (Nat.le_of_ble_eq_true rfl) rfl ?_
                        refine G_goto 20 dr_cX17_rename_141 (by decide +kernel) ?_
                        refine G_lv (L' := [(5, .int z396200), (4, .ref q395196), (3, .int g395133), (0, .ref q369987), (1, .int p369988), (2, .int p369989)]) [0, 2, 3, 4, 5, 6] rfl ?_
                        exact ih20_396105 F396100 z396200 (gB_w bz396200 (by decide) (by decide)) hT396101 hs396102 x396103 x396104 x396105 (fun k e1 ht => kt20_396106 k e1 (fun R c1 c2 c3 c4 c5 c6 c7 c8 c9 c10 c11 c12 c13 c14 c15 c16 c17 c18 c19 c20 c21 c22 c23 c24 c25 c26 c27 c28 c29 c30 c31 c32 c33 c34 c35 c36 c37 c38 c39 c40 c41 c42 c43 c44 c45 c46 c47 c48 c49 c50 c51 c52 c53 c54 c55 => c3 F396100 g396099 q395206 p396117 q395207 p396151 p396156 o396170 p396157 o396181 o396191 p396152 z396200 k e1 bg396099 hT396101 hs396102 x396103 x396104 x396105 fq396113 fq396124 fq396125 r396135 fq396136 r396143 fq396144 fq396163 fq396164 bo396170 ht396172 r396174 fq396175 bo396181 ht396183 r396185 bo396191 ht396192 r396196 fq396197 r396199 ez396200 (ht R c1 c2 c3 c4 c5 c6 c7 c8 c9 c10 c11 c12 c13 c14 c15 c16 c17 c18 c19 c20 c21 c22 c23 c24 c25 c26 c27 c28 c29 c30 c31 c32 c33 c34 c35 c36 c37 c38 c39 c40 c41 c42 c43 c44 c45 c46 c47 c48 c49 c50 c51 c52 c53 c54 c55))) (mz_up ez396200 (Int.le_trans bg396099'.2 (by decide)) hm20_396105)
                      · have r396201 : p396152.toInt = p369988.toInt := gC_eq hc396198
                        refine G_aload 0 dr_cX17_rename_132 rfl ?_
                        refine G_iload_n 6 dr_cX17_rename_134 rfl ?_
                        refine Gp_put 1 hm396149 he396150 dr_cX17_rename_135 (gk_X15 D I) (Nat.le_of_ble_eq_true rfl) wr_9_182 rfl rfl rfl (Nat.le_of_ble_eq_true rfl) (fun F396202 e396203 n396204 => ?_)
                        have he396205 : F396202 q369987 = .inr (18, [.ref q395145, .ref q395146, .int p395147, .int p395148]) := (n396204 q369987 (rn_oo he396108 he396150 (by decide))).trans he396108
                        have he396206 : F396202 q395145 = .inr (4, [.int p395177, .ref q395179, .int p395178]) := (n396204 q395145 (rn_oo he396109 he396150 (by decide))).trans he396109
                        have he396207 : F396202 q395179 = .inl (I (.object "java/lang/Object"), n395193, .inr (.inr (.inr (.inr f395194)))) := (n396204 q395179 (rn_ao he396110 he396150)).trans he396110
                        have he396208 : F396202 q395196 = .inr (17, [.ref q395206, .ref q395207, .int p395208, .int p395209]) := (n396204 q395196 (rn_oo he396111 he396150 (by decide))).trans he396111
                        have he396209 : F396202 q395206 = .inr (4, [.int p396116, .ref q396118, .int p396117]) := (n396204 q395206 (rn_oo he396115 he396150 (by decide))).trans he396115
                        have he396210 : F396202 q395207 = .inr (20, [.int p396151, .int p369989, .int p396153, .int p396154, .int p396155, .int p396156, .int p396157]) := e396203
                        have hs396211 : rStr γ [1] F369986 F396202 := rStr_pu2 hs396102 n396204 ht395212 (by decide)
                        have fs396212 : rFs γ (γ 1 q369987) F369986 F396202 := rFs_put x396105 n396204 ((show γ 1 q395207 = γ 1 q395196 from ht395213).trans ((show γ 1 q395196 = γ 1 q395145 from ht395203).trans (show γ 1 q395145 = γ 1 q369987 from ht395150)))
                        have fk396213 : rFk [1] γ F369986 F396202 := rFk_put x396104 n396204 ht395212 (by decide)
                        have fq396214 : F396202 q395207 = cF (F396100 q395207) 1 (.int p369989) := by rw [he396210, he396150]; rfl
                        obtain ⟨z396215, hz396215⟩ : ∃ z : Int32, z = g396099 + Int32.ofInt 1 := ⟨_, rfl⟩
                        have ez396215 : z396215.toInt = g396099.toInt + 1 := gI_inc hz396215 (by decide) bg396099' (by decide) (by decide)
                        have bz396215 : gB z396215 1 1000001 := ⟨by omega, by omega⟩
                        refine G_iinc (L' := [(5, .int z396215), (6, .ref q395207), (4, .ref q395196), (3, .int g395133), (0, .ref q369987), (1, .int p369988), (2, .int p369989)]) z396215 1 dr_cX17_rename_138 rfl hz396215.symm (Nat.le_of_ble_eq_true rfl) rfl ?_
                        refine G_goto 20 dr_cX17_rename_141 (by decide +kernel) ?_
                        have hT396216 : RS D I P369985 F396202 γ el := RS_set hT396101 n396204 ht395212 (by decide) ⟨p396151, p369989, p396153, p396154, p396155, p396156, p396157, he396210, bp396151, bp369989, bp396155, bp396156, bp396157, r396158, r396159, r396160, r396161, r396162⟩
                        refine G_lv (L' := [(5, .int z396215), (4, .ref q395196), (3, .int g395133), (0, .ref q369987), (1, .int p369988), (2, .int p369989)]) [0, 2, 3, 4, 5, 6] rfl ?_
                        exact ih20_396105 F396202 z396215 (gB_w bz396215 (by decide) (by decide)) hT396216 hs396211 (fun N hv hu hp => rPl_put hT396101 htq369987 rfl (x396103 N hv hu hp) n396204 hp396145 nb396148 hL396146 (fun _ _ _ _ z => z) (rNx_ren he396150 he396210 hu hv (Or.inl rfl) (Or.inl rfl) (Or.inr ⟨rfl, by first | assumption | omega⟩) (by rw [← hp396145]; exact x396103 N hv hu hp _ nb396148 _ hL396146))) fk396213 fs396212 (fun k e1 ht => kt20_396106 k e1 (fun R c1 c2 c3 c4 c5 c6 c7 c8 c9 c10 c11 c12 c13 c14 c15 c16 c17 c18 c19 c20 c21 c22 c23 c24 c25 c26 c27 c28 c29 c30 c31 c32 c33 c34 c35 c36 c37 c38 c39 c40 c41 c42 c43 c44 c45 c46 c47 c48 c49 c50 c51 c52 c53 c54 c55 => c4 F396100 g396099 q395206 p396117 q395207 p396151 p396156 o396170 p396157 o396181 o396191 p396152 F396202 z396215 k e1 bg396099 hT396101 hs396102 x396103 x396104 x396105 fq396113 fq396124 fq396125 r396135 fq396136 r396143 fq396144 fq396163 fq396164 bo396170 ht396172 r396174 fq396175 bo396181 ht396183 r396185 bo396191 ht396192 r396196 fq396197 r396201 n396204 fq396214 ez396215 (ht R c1 c2 c3 c4 c5 c6 c7 c8 c9 c10 c11 c12 c13 c14 c15 c16 c17 c18 c19 c20 c21 c22 c23 c24 c25 c26 c27 c28 c29 c30 c31 c32 c33 c34 c35 c36 c37 c38 c39 c40 c41 c42 c43 c44 c45 c46 c47 c48 c49 c50 c51 c52 c53 c54 c55))) (mz_up ez396215 (Int.le_trans bg396099'.2 (by decide)) hm20_396105)
                  · have r396218 : o396181.toInt ≠ 0 := gj_neq hc396184 (show Int32.toInt 0 = 0 by decide)
                    have bo396181' : gB o396181 1 1 := gB_t1 bo396181 r396218
                    refine G_aload 0 dr_cX17_rename_100 rfl ?_
                    have fq396219 : fI (F396100 q395207) 3 = p396154 := by rw [he396150]; rfl
                    refine Gp_get 3 hm396149 he396150 dr_cX17_rename_102 (gk_X15 D I) (Nat.le_of_ble_eq_true rfl) wr_9_190 rfl ?_
                    refine G_iload_n 5 dr_cX17_rename_105 rfl ?_
                    refine G_icmp_ne 115 dr_cX17_rename_106 (by decide +kernel) (fun hc396220 => ?_) (fun hc396220 => ?_)
                    · have r396221 : p396154.toInt ≠ p369988.toInt := gC_ne hc396220
                      refine G_aload 0 dr_cX17_rename_115 rfl ?_
                      refine Gw_callV (As := []) (gV_ok D I) (cp_1660_Row_sets l hl0 D I P369985 F396100 q395207 p396151 p396152 p396153 p396154 p396155 p396156 p396157 hm396149 he396150 bp396151 bp396152 bp396155 bp396156 bp396157) dr_cX17_rename_117 ⟨wr_10_181, wr_1_39, wr_10_184, by decide, rfl, (Nat.le_of_ble_eq_true rfl), (Nat.le_of_ble_eq_true rfl)⟩ wr_10_182 wr_10_183 hm396149 he396150 rfl (show 0 + 0 ≤ 0 by first | omega | decide) (show 0 + 0 ≤ 0 by first | omega | decide) (Nat.le_of_ble_eq_true rfl) (fun r396225 w396226 dc396222 ds396223 hp396224 => ?_) (fun _ _ _ _ _ z => z.elim)
                      obtain ⟨o396227, rfl, rfl, hdc, hds, bo396227, ht396228⟩ := hp396224
                      change G _ _ _ _ _ _ _ (.int o396227 :: _) _ _ _
                      refine G_widen (cs' := 0) (sl' := 0) (by omega) (by omega) ?_
                      refine G_if_eq 138 dr_cX17_rename_120 (by decide +kernel) (fun hc396229 => ?_) (fun hc396229 => ?_)
                      · have r396230 : o396227.toInt = 0 := gj_eq hc396229 (show Int32.toInt 0 = 0 by decide)
                        have bo396227' : gB o396227 0 0 := gB_t0 r396230
                        obtain ⟨z396231, hz396231⟩ : ∃ z : Int32, z = g396099 + Int32.ofInt 1 := ⟨_, rfl⟩
                        have ez396231 : z396231.toInt = g396099.toInt + 1 := gI_inc hz396231 (by decide) bg396099' (by decide) (by decide)
                        have bz396231 : gB z396231 1 1000001 := ⟨by omega, by omega⟩
                        refine G_iinc (L' := [(5, .int z396231), (6, .ref q395207), (4, .ref q395196), (3, .int g395133), (0, .ref q369987), (1, .int p369988), (2, .int p369989)]) z396231 1 dr_cX17_rename_138 rfl hz396231.symm (Nat.le_of_ble_eq_true rfl) rfl ?_
                        refine G_goto 20 dr_cX17_rename_141 (by decide +kernel) ?_
                        refine G_lv (L' := [(5, .int z396231), (4, .ref q395196), (3, .int g395133), (0, .ref q369987), (1, .int p369988), (2, .int p369989)]) [0, 2, 3, 4, 5, 6] rfl ?_
                        exact ih20_396105 F396100 z396231 (gB_w bz396231 (by decide) (by decide)) hT396101 hs396102 x396103 x396104 x396105 (fun k e1 ht => kt20_396106 k e1 (fun R c1 c2 c3 c4 c5 c6 c7 c8 c9 c10 c11 c12 c13 c14 c15 c16 c17 c18 c19 c20 c21 c22 c23 c24 c25 c26 c27 c28 c29 c30 c31 c32 c33 c34 c35 c36 c37 c38 c39 c40 c41 c42 c43 c44 c45 c46 c47 c48 c49 c50 c51 c52 c53 c54 c55 => c5 F396100 g396099 q395206 p396117 q395207 p396151 p396156 o396170 p396157 o396181 p396154 o396227 z396231 k e1 bg396099 hT396101 hs396102 x396103 x396104 x396105 fq396113 fq396124 fq396125 r396135 fq396136 r396143 fq396144 fq396163 fq396164 bo396170 ht396172 r396174 fq396175 bo396181 ht396183 r396218 fq396219 r396221 bo396227 ht396228 r396230 ez396231 (ht R c1 c2 c3 c4 c5 c6 c7 c8 c9 c10 c11 c12 c13 c14 c15 c16 c17 c18 c19 c20 c21 c22 c23 c24 c25 c26 c27 c28 c29 c30 c31 c32 c33 c34 c35 c36 c37 c38 c39 c40 c41 c42 c43 c44 c45 c46 c47 c48 c49 c50 c51 c52 c53 c54 c55))) (mz_up ez396231 (Int.le_trans bg396099'.2 (by decide)) hm20_396105)
                      · have r396232 : o396227.toInt ≠ 0 := gj_neq hc396229 (show Int32.toInt 0 = 0 by decide)
                        have bo396227' : gB o396227 1 1 := gB_t1 bo396227 r396232
                        refine G_aload 0 dr_cX17_rename_123 rfl ?_
                        have fq396233 : fI (F396100 q395207) 1 = p396152 := by rw [he396150]; rfl
                        refine Gp_get 1 hm396149 he396150 dr_cX17_rename_125 (gk_X15 D I) (Nat.le_of_ble_eq_true rfl) wr_9_182 rfl ?_
                        refine G_iload_n 5 dr_cX17_rename_128 rfl ?_
                        refine G_icmp_ne 138 dr_cX17_rename_129 (by decide +kernel) (fun hc396234 => ?_) (fun hc396234 => ?_)
                        · have r396235 : p396152.toInt ≠ p369988.toInt := gC_ne hc396234
                          obtain ⟨z396236, hz396236⟩ : ∃ z : Int32, z = g396099 + Int32.ofInt 1 := ⟨_, rfl⟩
                          have ez396236 : z396236.toInt = g396099.toInt + 1 := gI_inc hz396236 (by decide) bg396099' (by decide) (by decide)
                          have bz396236 : gB z396236 1 1000001 := ⟨by omega, by omega⟩
                          refine G_iinc (L' := [(5, .int z396236), (6, .ref q395207), (4, .ref q395196), (3, .int g395133), (0, .ref q369987), (1, .int p369988), (2, .int p369989)]) z396236 1 dr_cX17_rename_138 rfl hz396236.symm (Nat.le_of_ble_eq_true rfl) rfl ?_
                          refine G_goto 20 dr_cX17_rename_141 (by decide +kernel) ?_
                          refine G_lv (L' := [(5, .int z396236), (4, .ref q395196), (3, .int g395133), (0, .ref q369987), (1, .int p369988), (2, .int p369989)]) [0, 2, 3, 4, 5, 6] rfl ?_
                          exact ih20_396105 F396100 z396236 (gB_w bz396236 (by decide) (by decide)) hT396101 hs396102 x396103 x396104 x396105 (fun k e1 ht => kt20_396106 k e1 (fun R c1 c2 c3 c4 c5 c6 c7 c8 c9 c10 c11 c12 c13 c14 c15 c16 c17 c18 c19 c20 c21 c22 c23 c24 c25 c26 c27 c28 c29 c30 c31 c32 c33 c34 c35 c36 c37 c38 c39 c40 c41 c42 c43 c44 c45 c46 c47 c48 c49 c50 c51 c52 c53 c54 c55 => c6 F396100 g396099 q395206 p396117 q395207 p396151 p396156 o396170 p396157 o396181 p396154 o396227 p396152 z396236 k e1 bg396099 hT396101 hs396102 x396103 x396104 x396105 fq396113 fq396124 fq396125 r396135 fq396136 r396143 fq396144 fq396163 fq396164 bo396170 ht396172 r396174 fq396175 bo396181 ht396183 r396218 fq396219 r396221 bo396227 ht396228 r396232 fq396233 r396235 ez396236 (ht R c1 c2 c3 c4 c5 c6 c7 c8 c9 c10 c11 c12 c13 c14 c15 c16 c17 c18 c19 c20 c21 c22 c23 c24 c25 c26 c27 c28 c29 c30 c31 c32 c33 c34 c35 c36 c37 c38 c39 c40 c41 c42 c43 c44 c45 c46 c47 c48 c49 c50 c51 c52 c53 c54 c55))) (mz_up ez396236 (Int.le_trans bg396099'.2 (by decide)) hm20_396105)
                        · have r396237 : p396152.toInt = p369988.toInt := gC_eq hc396234
                          refine G_aload 0 dr_cX17_rename_132 rfl ?_
                          refine G_iload_n 6 dr_cX17_rename_134 rfl ?_
                          refine Gp_put 1 hm396149 he396150 dr_cX17_rename_135 (gk_X15 D I) (Nat.le_of_ble_eq_true rfl) wr_9_182 rfl rfl rfl (Nat.le_of_ble_eq_true rfl) (fun F396238 e396239 n396240 => ?_)
                          have he396241 : F396238 q369987 = .inr (18, [.ref q395145, .ref q395146, .int p395147, .int p395148]) := (n396240 q369987 (rn_oo he396108 he396150 (by decide))).trans he396108
                          have he396242 : F396238 q395145 = .inr (4, [.int p395177, .ref q395179, .int p395178]) := (n396240 q395145 (rn_oo he396109 he396150 (by decide))).trans he396109
                          have he396243 : F396238 q395179 = .inl (I (.object "java/lang/Object"), n395193, .inr (.inr (.inr (.inr f395194)))) := (n396240 q395179 (rn_ao he396110 he396150)).trans he396110
                          have he396244 : F396238 q395196 = .inr (17, [.ref q395206, .ref q395207, .int p395208, .int p395209]) := (n396240 q395196 (rn_oo he396111 he396150 (by decide))).trans he396111
                          have he396245 : F396238 q395206 = .inr (4, [.int p396116, .ref q396118, .int p396117]) := (n396240 q395206 (rn_oo he396115 he396150 (by decide))).trans he396115
                          have he396246 : F396238 q395207 = .inr (20, [.int p396151, .int p369989, .int p396153, .int p396154, .int p396155, .int p396156, .int p396157]) := e396239
                          have hs396247 : rStr γ [1] F369986 F396238 := rStr_pu2 hs396102 n396240 ht395212 (by decide)
                          have fs396248 : rFs γ (γ 1 q369987) F369986 F396238 := rFs_put x396105 n396240 ((show γ 1 q395207 = γ 1 q395196 from ht395213).trans ((show γ 1 q395196 = γ 1 q395145 from ht395203).trans (show γ 1 q395145 = γ 1 q369987 from ht395150)))
                          have fk396249 : rFk [1] γ F369986 F396238 := rFk_put x396104 n396240 ht395212 (by decide)
                          have fq396250 : F396238 q395207 = cF (F396100 q395207) 1 (.int p369989) := by rw [he396246, he396150]; rfl
                          obtain ⟨z396251, hz396251⟩ : ∃ z : Int32, z = g396099 + Int32.ofInt 1 := ⟨_, rfl⟩
                          have ez396251 : z396251.toInt = g396099.toInt + 1 := gI_inc hz396251 (by decide) bg396099' (by decide) (by decide)
                          have bz396251 : gB z396251 1 1000001 := ⟨by omega, by omega⟩
                          refine G_iinc (L' := [(5, .int z396251), (6, .ref q395207), (4, .ref q395196), (3, .int g395133), (0, .ref q369987), (1, .int p369988), (2, .int p369989)]) z396251 1 dr_cX17_rename_138 rfl hz396251.symm (Nat.le_of_ble_eq_true rfl) rfl ?_
                          refine G_goto 20 dr_cX17_rename_141 (by decide +kernel) ?_
                          have hT396252 : RS D I P369985 F396238 γ el := RS_set hT396101 n396240 ht395212 (by decide) ⟨p396151, p369989, p396153, p396154, p396155, p396156, p396157, he396246, bp396151, bp369989, bp396155, bp396156, bp396157, r396158, r396159, r396160, r396161, r396162⟩
                          refine G_lv (L' := [(5, .int z396251), (4, .ref q395196), (3, .int g395133), (0, .ref q369987), (1, .int p369988), (2, .int p369989)]) [0, 2, 3, 4, 5, 6] rfl ?_
                          exact ih20_396105 F396238 z396251 (gB_w bz396251 (by decide) (by decide)) hT396252 hs396247 (fun N hv hu hp => rPl_put hT396101 htq369987 rfl (x396103 N hv hu hp) n396240 hp396145 nb396148 hL396146 (fun _ _ _ _ z => z) (rNx_ren he396150 he396246 hu hv (Or.inl rfl) (Or.inl rfl) (Or.inr ⟨rfl, by first | assumption | omega⟩) (by rw [← hp396145]; exact x396103 N hv hu hp _ nb396148 _ hL396146))) fk396249 fs396248 (fun k e1 ht => kt20_396106 k e1 (fun R c1 c2 c3 c4 c5 c6 c7 c8 c9 c10 c11 c12 c13 c14 c15 c16 c17 c18 c19 c20 c21 c22 c23 c24 c25 c26 c27 c28 c29 c30 c31 c32 c33 c34 c35 c36 c37 c38 c39 c40 c41 c42 c43 c44 c45 c46 c47 c48 c49 c50 c51 c52 c53 c54 c55 => c7 F396100 g396099 q395206 p396117 q395207 p396151 p396156 o396170 p396157 o396181 p396154 o396227 p396152 F396238 z396251 k e1 bg396099 hT396101 hs396102 x396103 x396104 x396105 fq396113 fq396124 fq396125 r396135 fq396136 r396143 fq396144 fq396163 fq396164 bo396170 ht396172 r396174 fq396175 bo396181 ht396183 r396218 fq396219 r396221 bo396227 ht396228 r396232 fq396233 r396237 n396240 fq396250 ez396251 (ht R c1 c2 c3 c4 c5 c6 c7 c8 c9 c10 c11 c12 c13 c14 c15 c16 c17 c18 c19 c20 c21 c22 c23 c24 c25 c26 c27 c28 c29 c30 c31 c32 c33 c34 c35 c36 c37 c38 c39 c40 c41 c42 c43 c44 c45 c46 c47 c48 c49 c50 c51 c52 c53 c54 c55))) (mz_up ez396251 (Int.le_trans bg396099'.2 (by decide)) hm20_396105)
                    · have r396254 : p396154.toInt = p369988.toInt := gC_eq hc396220
                      have bp396154' : gB p396154 0 1999 := ⟨by omega, by omega⟩
                      refine G_aload 0 dr_cX17_rename_109 rfl ?_
                      refine G_iload_n 6 dr_cX17_rename_111 rfl ?_
                      refine Gp_put 3 hm396149 he396150 dr_cX17_rename_112 (gk_X15 D I) (Nat.le_of_ble_eq_true rfl) wr_9_190 rfl rfl rfl (Nat.le_of_ble_eq_true rfl) (fun F396255 e396256 n396257 => ?_)
                      have he396258 : F396255 q369987 = .inr (18, [.ref q395145, .ref q395146, .int p395147, .int p395148]) := (n396257 q369987 (rn_oo he396108 he396150 (by decide))).trans he396108
                      have he396259 : F396255 q395145 = .inr (4, [.int p395177, .ref q395179, .int p395178]) := (n396257 q395145 (rn_oo he396109 he396150 (by decide))).trans he396109
                      have he396260 : F396255 q395179 = .inl (I (.object "java/lang/Object"), n395193, .inr (.inr (.inr (.inr f395194)))) := (n396257 q395179 (rn_ao he396110 he396150)).trans he396110
                      have he396261 : F396255 q395196 = .inr (17, [.ref q395206, .ref q395207, .int p395208, .int p395209]) := (n396257 q395196 (rn_oo he396111 he396150 (by decide))).trans he396111
                      have he396262 : F396255 q395206 = .inr (4, [.int p396116, .ref q396118, .int p396117]) := (n396257 q395206 (rn_oo he396115 he396150 (by decide))).trans he396115
                      have he396263 : F396255 q395207 = .inr (20, [.int p396151, .int p396152, .int p396153, .int p369989, .int p396155, .int p396156, .int p396157]) := e396256
                      have hs396264 : rStr γ [1] F369986 F396255 := rStr_pu2 hs396102 n396257 ht395212 (by decide)
                      have fs396265 : rFs γ (γ 1 q369987) F369986 F396255 := rFs_put x396105 n396257 ((show γ 1 q395207 = γ 1 q395196 from ht395213).trans ((show γ 1 q395196 = γ 1 q395145 from ht395203).trans (show γ 1 q395145 = γ 1 q369987 from ht395150)))
                      have fk396266 : rFk [1] γ F369986 F396255 := rFk_put x396104 n396257 ht395212 (by decide)
                      have fq396267 : F396255 q395207 = cF (F396100 q395207) 3 (.int p369989) := by rw [he396263, he396150]; rfl
                      refine G_aload 0 dr_cX17_rename_115 rfl ?_
                      have hT396268 : RS D I P369985 F396255 γ el := RS_set hT396101 n396257 ht395212 (by decide) ⟨p396151, p396152, p396153, p369989, p396155, p396156, p396157, he396263, bp396151, bp396152, bp396155, bp396156, bp396157, r396158, r396159, (Or.inr bp369989), r396161, r396162⟩
                      have fq396270 : fI (F396255 q395207) 0 = p396151 := by rw [he396263]; rfl
                      refine Gw_callV (As := []) (gV_ok D I) (cp_1660_Row_sets l hl0 D I P369985 F396255 q395207 p396151 p396152 p396153 p369989 p396155 p396156 p396157 hm396149 he396263 bp396151 bp396152 bp396155 bp396156 bp396157) dr_cX17_rename_117 ⟨wr_10_181, wr_1_39, wr_10_184, by decide, rfl, (Nat.le_of_ble_eq_true rfl), (Nat.le_of_ble_eq_true rfl)⟩ wr_10_182 wr_10_183 hm396149 he396263 rfl (show 0 + 0 ≤ 0 by first | omega | decide) (show 0 + 0 ≤ 0 by first | omega | decide) (Nat.le_of_ble_eq_true rfl) (fun r396274 w396275 dc396271 ds396272 hp396273 => ?_) (fun _ _ _ _ _ z => z.elim)
                      obtain ⟨o396276, rfl, rfl, hdc, hds, bo396276, ht396277⟩ := hp396273
                      change G _ _ _ _ _ _ _ (.int o396276 :: _) _ _ _
                      refine G_widen (cs' := 0) (sl' := 0) (by omega) (by omega) ?_
                      refine G_if_eq 138 dr_cX17_rename_120 (by decide +kernel) (fun hc396278 => ?_) (fun hc396278 => ?_)
                      · have r396279 : o396276.toInt = 0 := gj_eq hc396278 (show Int32.toInt 0 = 0 by decide)
                        have bo396276' : gB o396276 0 0 := gB_t0 r396279
                        obtain ⟨z396280, hz396280⟩ : ∃ z : Int32, z = g396099 + Int32.ofInt 1 := ⟨_, rfl⟩
                        have ez396280 : z396280.toInt = g396099.toInt + 1 := gI_inc hz396280 (by decide) bg396099' (by decide) (by decide)
                        have bz396280 : gB z396280 1 1000001 := ⟨by omega, by omega⟩
                        refine G_iinc (L' := [(5, .int z396280), (6, .ref q395207), (4, .ref q395196), (3, .int g395133), (0, .ref q369987), (1, .int p369988), (2, .int p369989)]) z396280 1 dr_cX17_rename_138 rfl hz396280.symm (Nat.le_of_ble_eq_true rfl) rfl ?_
                        refine G_goto 20 dr_cX17_rename_141 (by decide +kernel) ?_
                        refine G_lv (L' := [(5, .int z396280), (4, .ref q395196), (3, .int g395133), (0, .ref q369987), (1, .int p369988), (2, .int p369989)]) [0, 2, 3, 4, 5, 6] rfl ?_
                        exact ih20_396105 F396255 z396280 (gB_w bz396280 (by decide) (by decide)) hT396268 hs396264 (fun N hv hu hp => rPl_put hT396101 htq369987 rfl (x396103 N hv hu hp) n396257 hp396145 nb396148 hL396146 (fun _ _ _ _ z => z) (rNx_ren he396150 he396263 hu hv (Or.inl rfl) (Or.inr rfl) (Or.inl rfl) (by rw [← hp396145]; exact x396103 N hv hu hp _ nb396148 _ hL396146))) fk396266 fs396265 (fun k e1 ht => kt20_396106 k e1 (fun R c1 c2 c3 c4 c5 c6 c7 c8 c9 c10 c11 c12 c13 c14 c15 c16 c17 c18 c19 c20 c21 c22 c23 c24 c25 c26 c27 c28 c29 c30 c31 c32 c33 c34 c35 c36 c37 c38 c39 c40 c41 c42 c43 c44 c45 c46 c47 c48 c49 c50 c51 c52 c53 c54 c55 => c8 F396100 g396099 q395206 p396117 q395207 p396151 p396156 o396170 p396157 o396181 p396154 F396255 o396276 z396280 k e1 bg396099 hT396101 hs396102 x396103 x396104 x396105 fq396113 fq396124 fq396125 r396135 fq396136 r396143 fq396144 fq396163 fq396164 bo396170 ht396172 r396174 fq396175 bo396181 ht396183 r396218 fq396219 r396254 n396257 fq396267 fq396270 bo396276 ht396277 r396279 ez396280 (ht R c1 c2 c3 c4 c5 c6 c7 c8 c9 c10 c11 c12 c13 c14 c15 c16 c17 c18 c19 c20 c21 c22 c23 c24 c25 c26 c27 c28 c29 c30 c31 c32 c33 c34 c35 c36 c37 c38 c39 c40 c41 c42 c43 c44 c45 c46 c47 c48 c49 c50 c51 c52 c53 c54 c55))) (mz_up ez396280 (Int.le_trans bg396099'.2 (by decide)) hm20_396105)
                      · have r396281 : o396276.toInt ≠ 0 := gj_neq hc396278 (show Int32.toInt 0 = 0 by decide)
                        have bo396276' : gB o396276 1 1 := gB_t1 bo396276 r396281
                        refine G_aload 0 dr_cX17_rename_123 rfl ?_
                        have fq396282 : fI (F396255 q395207) 1 = p396152 := by rw [he396263]; rfl
                        refine Gp_get 1 hm396149 he396263 dr_cX17_rename_125 (gk_X15 D I) (Nat.le_of_ble_eq_true rfl) wr_9_182 rfl ?_
                        refine G_iload_n 5 dr_cX17_rename_128 rfl ?_
                        refine G_icmp_ne 138 dr_cX17_rename_129 (by decide +kernel) (fun hc396283 => ?_) (fun hc396283 => ?_)
                        · have r396284 : p396152.toInt ≠ p369988.toInt := gC_ne hc396283
                          obtain ⟨z396285, hz396285⟩ : ∃ z : Int32, z = g396099 + Int32.ofInt 1 := ⟨_, rfl⟩
                          have ez396285 : z396285.toInt = g396099.toInt + 1 := gI_inc hz396285 (by decide) bg396099' (by decide) (by decide)
                          have bz396285 : gB z396285 1 1000001 := ⟨by omega, by omega⟩
                          refine G_iinc (L' := [(5, .int z396285), (6, .ref q395207), (4, .ref q395196), (3, .int g395133), (0, .ref q369987), (1, .int p369988), (2, .int p369989)]) z396285 1 dr_cX17_rename_138 rfl hz396285.symm (Nat.le_of_ble_eq_true rfl) rfl ?_
                          refine G_goto 20 dr_cX17_rename_141 (by decide +kernel) ?_
                          refine G_lv (L' := [(5, .int z396285), (4, .ref q395196), (3, .int g395133), (0, .ref q369987), (1, .int p369988), (2, .int p369989)]) [0, 2, 3, 4, 5, 6] rfl ?_
                          exact ih20_396105 F396255 z396285 (gB_w bz396285 (by decide) (by decide)) hT396268 hs396264 (fun N hv hu hp => rPl_put hT396101 htq369987 rfl (x396103 N hv hu hp) n396257 hp396145 nb396148 hL396146 (fun _ _ _ _ z => z) (rNx_ren he396150 he396263 hu hv (Or.inl rfl) (Or.inr rfl) (Or.inl rfl) (by rw [← hp396145]; exact x396103 N hv hu hp _ nb396148 _ hL396146))) fk396266 fs396265 (fun k e1 ht => kt20_396106 k e1 (fun R c1 c2 c3 c4 c5 c6 c7 c8 c9 c10 c11 c12 c13 c14 c15 c16 c17 c18 c19 c20 c21 c22 c23 c24 c25 c26 c27 c28 c29 c30 c31 c32 c33 c34 c35 c36 c37 c38 c39 c40 c41 c42 c43 c44 c45 c46 c47 c48 c49 c50 c51 c52 c53 c54 c55 => c9 F396100 g396099 q395206 p396117 q395207 p396151 p396156 o396170 p396157 o396181 p396154 F396255 o396276 p396152 z396285 k e1 bg396099 hT396101 hs396102 x396103 x396104 x396105 fq396113 fq396124 fq396125 r396135 fq396136 r396143 fq396144 fq396163 fq396164 bo396170 ht396172 r396174 fq396175 bo396181 ht396183 r396218 fq396219 r396254 n396257 fq396267 fq396270 bo396276 ht396277 r396281 fq396282 r396284 ez396285 (ht R c1 c2 c3 c4 c5 c6 c7 c8 c9 c10 c11 c12 c13 c14 c15 c16 c17 c18 c19 c20 c21 c22 c23 c24 c25 c26 c27 c28 c29 c30 c31 c32 c33 c34 c35 c36 c37 c38 c39 c40 c41 c42 c43 c44 c45 c46 c47 c48 c49 c50 c51 c52 c53 c54 c55))) (mz_up ez396285 (Int.le_trans bg396099'.2 (by decide)) hm20_396105)
                        · have r396286 : p396152.toInt = p369988.toInt := gC_eq hc396283
                          refine G_aload 0 dr_cX17_rename_132 rfl ?_
                          refine G_iload_n 6 dr_cX17_rename_134 rfl ?_
                          refine Gp_put 1 hm396149 he396263 dr_cX17_rename_135 (gk_X15 D I) (Nat.le_of_ble_eq_true rfl) wr_9_182 rfl rfl rfl (Nat.le_of_ble_eq_true rfl) (fun F396287 e396288 n396289 => ?_)
                          have he396290 : F396287 q369987 = .inr (18, [.ref q395145, .ref q395146, .int p395147, .int p395148]) := (n396289 q369987 (rn_oo he396258 he396263 (by decide))).trans he396258
                          have he396291 : F396287 q395145 = .inr (4, [.int p395177, .ref q395179, .int p395178]) := (n396289 q395145 (rn_oo he396259 he396263 (by decide))).trans he396259
                          have he396292 : F396287 q395179 = .inl (I (.object "java/lang/Object"), n395193, .inr (.inr (.inr (.inr f395194)))) := (n396289 q395179 (rn_ao he396260 he396263)).trans he396260
                          have he396293 : F396287 q395196 = .inr (17, [.ref q395206, .ref q395207, .int p395208, .int p395209]) := (n396289 q395196 (rn_oo he396261 he396263 (by decide))).trans he396261
                          have he396294 : F396287 q395206 = .inr (4, [.int p396116, .ref q396118, .int p396117]) := (n396289 q395206 (rn_oo he396262 he396263 (by decide))).trans he396262
                          have he396295 : F396287 q395207 = .inr (20, [.int p396151, .int p369989, .int p396153, .int p369989, .int p396155, .int p396156, .int p396157]) := e396288
                          have hs396296 : rStr γ [1] F369986 F396287 := rStr_pu2 hs396264 n396289 ht395212 (by decide)
                          have fs396297 : rFs γ (γ 1 q369987) F369986 F396287 := rFs_put fs396265 n396289 ((show γ 1 q395207 = γ 1 q395196 from ht395213).trans ((show γ 1 q395196 = γ 1 q395145 from ht395203).trans (show γ 1 q395145 = γ 1 q369987 from ht395150)))
                          have fk396298 : rFk [1] γ F369986 F396287 := rFk_put fk396266 n396289 ht395212 (by decide)
                          have fq396299 : F396287 q395207 = cF (F396255 q395207) 1 (.int p369989) := by rw [he396295, he396263]; rfl
                          obtain ⟨z396300, hz396300⟩ : ∃ z : Int32, z = g396099 + Int32.ofInt 1 := ⟨_, rfl⟩
                          have ez396300 : z396300.toInt = g396099.toInt + 1 := gI_inc hz396300 (by decide) bg396099' (by decide) (by decide)
                          have bz396300 : gB z396300 1 1000001 := ⟨by omega, by omega⟩
                          refine G_iinc (L' := [(5, .int z396300), (6, .ref q395207), (4, .ref q395196), (3, .int g395133), (0, .ref q369987), (1, .int p369988), (2, .int p369989)]) z396300 1 dr_cX17_rename_138 rfl hz396300.symm (Nat.le_of_ble_eq_true rfl) rfl ?_
                          refine G_goto 20 dr_cX17_rename_141 (by decide +kernel) ?_
                          have hT396301 : RS D I P369985 F396287 γ el := RS_set hT396268 n396289 ht395212 (by decide) ⟨p396151, p369989, p396153, p369989, p396155, p396156, p396157, he396295, bp396151, bp369989, bp396155, bp396156, bp396157, r396158, r396159, (Or.inr bp369989), r396161, r396162⟩
                          have of396302 : ∀ b, b ≠ q395207 → F396287 b = F396100 b := fun b hb => (n396289 b hb).trans (n396257 b hb)
                          refine G_lv (L' := [(5, .int z396300), (4, .ref q395196), (3, .int g395133), (0, .ref q369987), (1, .int p369988), (2, .int p369989)]) [0, 2, 3, 4, 5, 6] rfl ?_
                          exact ih20_396105 F396287 z396300 (gB_w bz396300 (by decide) (by decide)) hT396301 hs396296 (fun N hv hu hp => rPl_put hT396101 htq369987 rfl (x396103 N hv hu hp) of396302 hp396145 nb396148 hL396146 (fun _ _ _ _ z => z) (rNx_ren he396150 he396295 hu hv (Or.inl rfl) (Or.inr rfl) (Or.inr ⟨rfl, by first | assumption | omega⟩) (by rw [← hp396145]; exact x396103 N hv hu hp _ nb396148 _ hL396146))) fk396298 fs396297 (fun k e1 ht => kt20_396106 k e1 (fun R c1 c2 c3 c4 c5 c6 c7 c8 c9 c10 c11 c12 c13 c14 c15 c16 c17 c18 c19 c20 c21 c22 c23 c24 c25 c26 c27 c28 c29 c30 c31 c32 c33 c34 c35 c36 c37 c38 c39 c40 c41 c42 c43 c44 c45 c46 c47 c48 c49 c50 c51 c52 c53 c54 c55 => c10 F396100 g396099 q395206 p396117 q395207 p396151 p396156 o396170 p396157 o396181 p396154 F396255 o396276 p396152 F396287 z396300 k e1 bg396099 hT396101 hs396102 x396103 x396104 x396105 fq396113 fq396124 fq396125 r396135 fq396136 r396143 fq396144 fq396163 fq396164 bo396170 ht396172 r396174 fq396175 bo396181 ht396183 r396218 fq396219 r396254 n396257 fq396267 fq396270 bo396276 ht396277 r396281 fq396282 r396286 n396289 fq396299 ez396300 (ht R c1 c2 c3 c4 c5 c6 c7 c8 c9 c10 c11 c12 c13 c14 c15 c16 c17 c18 c19 c20 c21 c22 c23 c24 c25 c26 c27 c28 c29 c30 c31 c32 c33 c34 c35 c36 c37 c38 c39 c40 c41 c42 c43 c44 c45 c46 c47 c48 c49 c50 c51 c52 c53 c54 c55))) (mz_up ez396300 (Int.le_trans bg396099'.2 (by decide)) hm20_396105)
                · have r396303 : o396170.toInt ≠ 0 := gj_neq hc396173 (show Int32.toInt 0 = 0 by decide)
                  have bo396170' : gB o396170 1 1 := gB_t1 bo396170 r396303
                  refine G_aload 0 dr_cX17_rename_77 rfl ?_
                  have fq396304 : fI (F396100 q395207) 2 = p396153 := by rw [he396150]; rfl
                  refine Gp_get 2 hm396149 he396150 dr_cX17_rename_79 (gk_X15 D I) (Nat.le_of_ble_eq_true rfl) wr_9_186 rfl ?_
                  refine G_iload_n 5 dr_cX17_rename_82 rfl ?_
                  refine G_icmp_ne 92 dr_cX17_rename_83 (by decide +kernel) (fun hc396305 => ?_) (fun hc396305 => ?_)
                  · have r396306 : p396153.toInt ≠ p369988.toInt := gC_ne hc396305
                    refine G_aload 0 dr_cX17_rename_92 rfl ?_
                    have fq396307 : fI (F396100 q395207) 6 = p396157 := by rw [he396150]; rfl
                    refine Gw_callV (As := []) (gV_ok D I) (cp_1699_Row_usesB l hl0 D I P369985 F396100 q395207 p396151 p396152 p396153 p396154 p396155 p396156 p396157 hm396149 he396150 bp396151 bp396152 bp396155 bp396156 bp396157) dr_cX17_rename_94 ⟨wr_10_196, wr_1_39, wr_10_199, by decide, rfl, (Nat.le_of_ble_eq_true rfl), (Nat.le_of_ble_eq_true rfl)⟩ wr_10_197 wr_10_198 hm396149 he396150 rfl (show 0 + 0 ≤ 0 by first | omega | decide) (show 0 + 0 ≤ 0 by first | omega | decide) (Nat.le_of_ble_eq_true rfl) (fun r396311 w396312 dc396308 ds396309 hp396310 => ?_) (fun _ _ _ _ _ z => z.elim)
                    obtain ⟨o396313, rfl, rfl, hdc, hds, bo396313, x396314, ht396315⟩ := hp396310
                    change G _ _ _ _ _ _ _ (.int o396313 :: _) _ _ _
                    refine G_widen (cs' := 0) (sl' := 0) (by omega) (by omega) ?_
                    refine G_if_eq 115 dr_cX17_rename_97 (by decide +kernel) (fun hc396316 => ?_) (fun hc396316 => ?_)
                    · have r396317 : o396313.toInt = 0 := gj_eq hc396316 (show Int32.toInt 0 = 0 by decide)
                      have bo396313' : gB o396313 0 0 := gB_t0 r396317
                      refine G_aload 0 dr_cX17_rename_115 rfl ?_
                      refine Gw_callV (As := []) (gV_ok D I) (cp_1660_Row_sets l hl0 D I P369985 F396100 q395207 p396151 p396152 p396153 p396154 p396155 p396156 p396157 hm396149 he396150 bp396151 bp396152 bp396155 bp396156 bp396157) dr_cX17_rename_117 ⟨wr_10_181, wr_1_39, wr_10_184, by decide, rfl, (Nat.le_of_ble_eq_true rfl), (Nat.le_of_ble_eq_true rfl)⟩ wr_10_182 wr_10_183 hm396149 he396150 rfl (show 0 + 0 ≤ 0 by first | omega | decide) (show 0 + 0 ≤ 0 by first | omega | decide) (Nat.le_of_ble_eq_true rfl) (fun r396321 w396322 dc396318 ds396319 hp396320 => ?_) (fun _ _ _ _ _ z => z.elim)
                      obtain ⟨o396323, rfl, rfl, hdc, hds, bo396323, ht396324⟩ := hp396320
                      change G _ _ _ _ _ _ _ (.int o396323 :: _) _ _ _
                      refine G_widen (cs' := 0) (sl' := 0) (by omega) (by omega) ?_
                      refine G_if_eq 138 dr_cX17_rename_120 (by decide +kernel) (fun hc396325 => ?_) (fun hc396325 => ?_)
                      · have r396326 : o396323.toInt = 0 := gj_eq hc396325 (show Int32.toInt 0 = 0 by decide)
                        have bo396323' : gB o396323 0 0 := gB_t0 r396326
                        obtain ⟨z396327, hz396327⟩ : ∃ z : Int32, z = g396099 + Int32.ofInt 1 := ⟨_, rfl⟩
                        have ez396327 : z396327.toInt = g396099.toInt + 1 := gI_inc hz396327 (by decide) bg396099' (by decide) (by decide)
                        have bz396327 : gB z396327 1 1000001 := ⟨by omega, by omega⟩
                        refine G_iinc (L' := [(5, .int z396327), (6, .ref q395207), (4, .ref q395196), (3, .int g395133), (0, .ref q369987), (1, .int p369988), (2, .int p369989)]) z396327 1 dr_cX17_rename_138 rfl hz396327.symm (Nat.le_of_ble_eq_true rfl) rfl ?_
                        refine G_goto 20 dr_cX17_rename_141 (by decide +kernel) ?_
                        refine G_lv (L' := [(5, .int z396327), (4, .ref q395196), (3, .int g395133), (0, .ref q369987), (1, .int p369988), (2, .int p369989)]) [0, 2, 3, 4, 5, 6] rfl ?_
                        exact ih20_396105 F396100 z396327 (gB_w bz396327 (by decide) (by decide)) hT396101 hs396102 x396103 x396104 x396105 (fun k e1 ht => kt20_396106 k e1 (fun R c1 c2 c3 c4 c5 c6 c7 c8 c9 c10 c11 c12 c13 c14 c15 c16 c17 c18 c19 c20 c21 c22 c23 c24 c25 c26 c27 c28 c29 c30 c31 c32 c33 c34 c35 c36 c37 c38 c39 c40 c41 c42 c43 c44 c45 c46 c47 c48 c49 c50 c51 c52 c53 c54 c55 => c11 F396100 g396099 q395206 p396117 q395207 p396151 p396156 o396170 p396153 p396157 o396313 o396323 z396327 k e1 bg396099 hT396101 hs396102 x396103 x396104 x396105 fq396113 fq396124 fq396125 r396135 fq396136 r396143 fq396144 fq396163 fq396164 bo396170 ht396172 r396303 fq396304 r396306 fq396307 bo396313 ht396315 r396317 bo396323 ht396324 r396326 ez396327 (ht R c1 c2 c3 c4 c5 c6 c7 c8 c9 c10 c11 c12 c13 c14 c15 c16 c17 c18 c19 c20 c21 c22 c23 c24 c25 c26 c27 c28 c29 c30 c31 c32 c33 c34 c35 c36 c37 c38 c39 c40 c41 c42 c43 c44 c45 c46 c47 c48 c49 c50 c51 c52 c53 c54 c55))) (mz_up ez396327 (Int.le_trans bg396099'.2 (by decide)) hm20_396105)
                      · have r396328 : o396323.toInt ≠ 0 := gj_neq hc396325 (show Int32.toInt 0 = 0 by decide)
                        have bo396323' : gB o396323 1 1 := gB_t1 bo396323 r396328
                        refine G_aload 0 dr_cX17_rename_123 rfl ?_
                        have fq396329 : fI (F396100 q395207) 1 = p396152 := by rw [he396150]; rfl
                        refine Gp_get 1 hm396149 he396150 dr_cX17_rename_125 (gk_X15 D I) (Nat.le_of_ble_eq_true rfl) wr_9_182 rfl ?_
                        refine G_iload_n 5 dr_cX17_rename_128 rfl ?_
                        refine G_icmp_ne 138 dr_cX17_rename_129 (by decide +kernel) (fun hc396330 => ?_) (fun hc396330 => ?_)
                        · have r396331 : p396152.toInt ≠ p369988.toInt := gC_ne hc396330
                          obtain ⟨z396332, hz396332⟩ : ∃ z : Int32, z = g396099 + Int32.ofInt 1 := ⟨_, rfl⟩
                          have ez396332 : z396332.toInt = g396099.toInt + 1 := gI_inc hz396332 (by decide) bg396099' (by decide) (by decide)
                          have bz396332 : gB z396332 1 1000001 := ⟨by omega, by omega⟩
                          refine G_iinc (L' := [(5, .int z396332), (6, .ref q395207), (4, .ref q395196), (3, .int g395133), (0, .ref q369987), (1, .int p369988), (2, .int p369989)]) z396332 1 dr_cX17_rename_138 rfl hz396332.symm (Nat.le_of_ble_eq_true rfl) rfl ?_
                          refine G_goto 20 dr_cX17_rename_141 (by decide +kernel) ?_
                          refine G_lv (L' := [(5, .int z396332), (4, .ref q395196), (3, .int g395133), (0, .ref q369987), (1, .int p369988), (2, .int p369989)]) [0, 2, 3, 4, 5, 6] rfl ?_
                          exact ih20_396105 F396100 z396332 (gB_w bz396332 (by decide) (by decide)) hT396101 hs396102 x396103 x396104 x396105 (fun k e1 ht => kt20_396106 k e1 (fun R c1 c2 c3 c4 c5 c6 c7 c8 c9 c10 c11 c12 c13 c14 c15 c16 c17 c18 c19 c20 c21 c22 c23 c24 c25 c26 c27 c28 c29 c30 c31 c32 c33 c34 c35 c36 c37 c38 c39 c40 c41 c42 c43 c44 c45 c46 c47 c48 c49 c50 c51 c52 c53 c54 c55 => c12 F396100 g396099 q395206 p396117 q395207 p396151 p396156 o396170 p396153 p396157 o396313 o396323 p396152 z396332 k e1 bg396099 hT396101 hs396102 x396103 x396104 x396105 fq396113 fq396124 fq396125 r396135 fq396136 r396143 fq396144 fq396163 fq396164 bo396170 ht396172 r396303 fq396304 r396306 fq396307 bo396313 ht396315 r396317 bo396323 ht396324 r396328 fq396329 r396331 ez396332 (ht R c1 c2 c3 c4 c5 c6 c7 c8 c9 c10 c11 c12 c13 c14 c15 c16 c17 c18 c19 c20 c21 c22 c23 c24 c25 c26 c27 c28 c29 c30 c31 c32 c33 c34 c35 c36 c37 c38 c39 c40 c41 c42 c43 c44 c45 c46 c47 c48 c49 c50 c51 c52 c53 c54 c55))) (mz_up ez396332 (Int.le_trans bg396099'.2 (by decide)) hm20_396105)
                        · have r396333 : p396152.toInt = p369988.toInt := gC_eq hc396330
                          refine G_aload 0 dr_cX17_rename_132 rfl ?_
                          refine G_iload_n 6 dr_cX17_rename_134 rfl ?_
                          refine Gp_put 1 hm396149 he396150 dr_cX17_rename_135 (gk_X15 D I) (Nat.le_of_ble_eq_true rfl) wr_9_182 rfl rfl rfl (Nat.le_of_ble_eq_true rfl) (fun F396334 e396335 n396336 => ?_)
                          have he396337 : F396334 q369987 = .inr (18, [.ref q395145, .ref q395146, .int p395147, .int p395148]) := (n396336 q369987 (rn_oo he396108 he396150 (by decide))).trans he396108
                          have he396338 : F396334 q395145 = .inr (4, [.int p395177, .ref q395179, .int p395178]) := (n396336 q395145 (rn_oo he396109 he396150 (by decide))).trans he396109
                          have he396339 : F396334 q395179 = .inl (I (.object "java/lang/Object"), n395193, .inr (.inr (.inr (.inr f395194)))) := (n396336 q395179 (rn_ao he396110 he396150)).trans he396110
                          have he396340 : F396334 q395196 = .inr (17, [.ref q395206, .ref q395207, .int p395208, .int p395209]) := (n396336 q395196 (rn_oo he396111 he396150 (by decide))).trans he396111
                          have he396341 : F396334 q395206 = .inr (4, [.int p396116, .ref q396118, .int p396117]) := (n396336 q395206 (rn_oo he396115 he396150 (by decide))).trans he396115
                          have he396342 : F396334 q395207 = .inr (20, [.int p396151, .int p369989, .int p396153, .int p396154, .int p396155, .int p396156, .int p396157]) := e396335
                          have hs396343 : rStr γ [1] F369986 F396334 := rStr_pu2 hs396102 n396336 ht395212 (by decide)
                          have fs396344 : rFs γ (γ 1 q369987) F369986 F396334 := rFs_put x396105 n396336 ((show γ 1 q395207 = γ 1 q395196 from ht395213).trans ((show γ 1 q395196 = γ 1 q395145 from ht395203).trans (show γ 1 q395145 = γ 1 q369987 from ht395150)))
                          have fk396345 : rFk [1] γ F369986 F396334 := rFk_put x396104 n396336 ht395212 (by decide)
                          have fq396346 : F396334 q395207 = cF (F396100 q395207) 1 (.int p369989) := by rw [he396342, he396150]; rfl
                          obtain ⟨z396347, hz396347⟩ : ∃ z : Int32, z = g396099 + Int32.ofInt 1 := ⟨_, rfl⟩
                          have ez396347 : z396347.toInt = g396099.toInt + 1 := gI_inc hz396347 (by decide) bg396099' (by decide) (by decide)
                          have bz396347 : gB z396347 1 1000001 := ⟨by omega, by omega⟩
                          refine G_iinc (L' := [(5, .int z396347), (6, .ref q395207), (4, .ref q395196), (3, .int g395133), (0, .ref q369987), (1, .int p369988), (2, .int p369989)]) z396347 1 dr_cX17_rename_138 rfl hz396347.symm (Nat.le_of_ble_eq_true rfl) rfl ?_
                          refine G_goto 20 dr_cX17_rename_141 (by decide +kernel) ?_
                          have hT396348 : RS D I P369985 F396334 γ el := RS_set hT396101 n396336 ht395212 (by decide) ⟨p396151, p369989, p396153, p396154, p396155, p396156, p396157, he396342, bp396151, bp369989, bp396155, bp396156, bp396157, r396158, r396159, r396160, r396161, r396162⟩
                          refine G_lv (L' := [(5, .int z396347), (4, .ref q395196), (3, .int g395133), (0, .ref q369987), (1, .int p369988), (2, .int p369989)]) [0, 2, 3, 4, 5, 6] rfl ?_
                          exact ih20_396105 F396334 z396347 (gB_w bz396347 (by decide) (by decide)) hT396348 hs396343 (fun N hv hu hp => rPl_put hT396101 htq369987 rfl (x396103 N hv hu hp) n396336 hp396145 nb396148 hL396146 (fun _ _ _ _ z => z) (rNx_ren he396150 he396342 hu hv (Or.inl rfl) (Or.inl rfl) (Or.inr ⟨rfl, by first | assumption | omega⟩) (by rw [← hp396145]; exact x396103 N hv hu hp _ nb396148 _ hL396146))) fk396345 fs396344 (fun k e1 ht => kt20_396106 k e1 (fun R c1 c2 c3 c4 c5 c6 c7 c8 c9 c10 c11 c12 c13 c14 c15 c16 c17 c18 c19 c20 c21 c22 c23 c24 c25 c26 c27 c28 c29 c30 c31 c32 c33 c34 c35 c36 c37 c38 c39 c40 c41 c42 c43 c44 c45 c46 c47 c48 c49 c50 c51 c52 c53 c54 c55 => c13 F396100 g396099 q395206 p396117 q395207 p396151 p396156 o396170 p396153 p396157 o396313 o396323 p396152 F396334 z396347 k e1 bg396099 hT396101 hs396102 x396103 x396104 x396105 fq396113 fq396124 fq396125 r396135 fq396136 r396143 fq396144 fq396163 fq396164 bo396170 ht396172 r396303 fq396304 r396306 fq396307 bo396313 ht396315 r396317 bo396323 ht396324 r396328 fq396329 r396333 n396336 fq396346 ez396347 (ht R c1 c2 c3 c4 c5 c6 c7 c8 c9 c10 c11 c12 c13 c14 c15 c16 c17 c18 c19 c20 c21 c22 c23 c24 c25 c26 c27 c28 c29 c30 c31 c32 c33 c34 c35 c36 c37 c38 c39 c40 c41 c42 c43 c44 c45 c46 c47 c48 c49 c50 c51 c52 c53 c54 c55))) (mz_up ez396347 (Int.le_trans bg396099'.2 (by decide)) hm20_396105)
                    · have r396350 : o396313.toInt ≠ 0 := gj_neq hc396316 (show Int32.toInt 0 = 0 by decide)
                      have bo396313' : gB o396313 1 1 := gB_t1 bo396313 r396350
                      refine G_aload 0 dr_cX17_rename_100 rfl ?_
                      have fq396351 : fI (F396100 q395207) 3 = p396154 := by rw [he396150]; rfl
                      refine Gp_get 3 hm396149 he396150 dr_cX17_rename_102 (gk_X15 D I) (Nat.le_of_ble_eq_true rfl) wr_9_190 rfl ?_
                      refine G_iload_n 5 dr_cX17_rename_105 rfl ?_
                      refine G_icmp_ne 115 dr_cX17_rename_106 (by decide +kernel) (fun hc396352 => ?_) (fun hc396352 => ?_)
                      · have r396353 : p396154.toInt ≠ p369988.toInt := gC_ne hc396352
                        refine G_aload 0 dr_cX17_rename_115 rfl ?_
                        refine Gw_callV (As := []) (gV_ok D I) (cp_1660_Row_sets l hl0 D I P369985 F396100 q395207 p396151 p396152 p396153 p396154 p396155 p396156 p396157 hm396149 he396150 bp396151 bp396152 bp396155 bp396156 bp396157) dr_cX17_rename_117 ⟨wr_10_181, wr_1_39, wr_10_184, by decide, rfl, (Nat.le_of_ble_eq_true rfl), (Nat.le_of_ble_eq_true rfl)⟩ wr_10_182 wr_10_183 hm396149 he396150 rfl (show 0 + 0 ≤ 0 by first | omega | decide) (show 0 + 0 ≤ 0 by first | omega | decide) (Nat.le_of_ble_eq_true rfl) (fun r396357 w396358 dc396354 ds396355 hp396356 => ?_) (fun _ _ _ _ _ z => z.elim)
                        obtain ⟨o396359, rfl, rfl, hdc, hds, bo396359, ht396360⟩ := hp396356
                        change G _ _ _ _ _ _ _ (.int o396359 :: _) _ _ _
                        refine G_widen (cs' := 0) (sl' := 0) (by omega) (by omega) ?_
                        refine G_if_eq 138 dr_cX17_rename_120 (by decide +kernel) (fun hc396361 => ?_) (fun hc396361 => ?_)
                        · have r396362 : o396359.toInt = 0 := gj_eq hc396361 (show Int32.toInt 0 = 0 by decide)
                          have bo396359' : gB o396359 0 0 := gB_t0 r396362
                          obtain ⟨z396363, hz396363⟩ : ∃ z : Int32, z = g396099 + Int32.ofInt 1 := ⟨_, rfl⟩
                          have ez396363 : z396363.toInt = g396099.toInt + 1 := gI_inc hz396363 (by decide) bg396099' (by decide) (by decide)
                          have bz396363 : gB z396363 1 1000001 := ⟨by omega, by omega⟩
                          refine G_iinc (L' := [(5, .int z396363), (6, .ref q395207), (4, .ref q395196), (3, .int g395133), (0, .ref q369987), (1, .int p369988), (2, .int p369989)]) z396363 1 dr_cX17_rename_138 rfl hz396363.symm (Nat.le_of_ble_eq_true rfl) rfl ?_
                          refine G_goto 20 dr_cX17_rename_141 (by decide +kernel) ?_
                          refine G_lv (L' := [(5, .int z396363), (4, .ref q395196), (3, .int g395133), (0, .ref q369987), (1, .int p369988), (2, .int p369989)]) [0, 2, 3, 4, 5, 6] rfl ?_
                          exact ih20_396105 F396100 z396363 (gB_w bz396363 (by decide) (by decide)) hT396101 hs396102 x396103 x396104 x396105 (fun k e1 ht => kt20_396106 k e1 (fun R c1 c2 c3 c4 c5 c6 c7 c8 c9 c10 c11 c12 c13 c14 c15 c16 c17 c18 c19 c20 c21 c22 c23 c24 c25 c26 c27 c28 c29 c30 c31 c32 c33 c34 c35 c36 c37 c38 c39 c40 c41 c42 c43 c44 c45 c46 c47 c48 c49 c50 c51 c52 c53 c54 c55 => c14 F396100 g396099 q395206 p396117 q395207 p396151 p396156 o396170 p396153 p396157 o396313 p396154 o396359 z396363 k e1 bg396099 hT396101 hs396102 x396103 x396104 x396105 fq396113 fq396124 fq396125 r396135 fq396136 r396143 fq396144 fq396163 fq396164 bo396170 ht396172 r396303 fq396304 r396306 fq396307 bo396313 ht396315 r396350 fq396351 r396353 bo396359 ht396360 r396362 ez396363 (ht R c1 c2 c3 c4 c5 c6 c7 c8 c9 c10 c11 c12 c13 c14 c15 c16 c17 c18 c19 c20 c21 c22 c23 c24 c25 c26 c27 c28 c29 c30 c31 c32 c33 c34 c35 c36 c37 c38 c39 c40 c41 c42 c43 c44 c45 c46 c47 c48 c49 c50 c51 c52 c53 c54 c55))) (mz_up ez396363 (Int.le_trans bg396099'.2 (by decide)) hm20_396105)
                        · have r396364 : o396359.toInt ≠ 0 := gj_neq hc396361 (show Int32.toInt 0 = 0 by decide)
                          have bo396359' : gB o396359 1 1 := gB_t1 bo396359 r396364
                          refine G_aload 0 dr_cX17_rename_123 rfl ?_
                          have fq396365 : fI (F396100 q395207) 1 = p396152 := by rw [he396150]; rfl
                          refine Gp_get 1 hm396149 he396150 dr_cX17_rename_125 (gk_X15 D I) (Nat.le_of_ble_eq_true rfl) wr_9_182 rfl ?_
                          refine G_iload_n 5 dr_cX17_rename_128 rfl ?_
                          refine G_icmp_ne 138 dr_cX17_rename_129 (by decide +kernel) (fun hc396366 => ?_) (fun hc396366 => ?_)
                          · have r396367 : p396152.toInt ≠ p369988.toInt := gC_ne hc396366
                            obtain ⟨z396368, hz396368⟩ : ∃ z : Int32, z = g396099 + Int32.ofInt 1 := ⟨_, rfl⟩
                            have ez396368 : z396368.toInt = g396099.toInt + 1 := gI_inc hz396368 (by decide) bg396099' (by decide) (by decide)
                            have bz396368 : gB z396368 1 1000001 := ⟨by omega, by omega⟩
                            refine G_iinc (L' := [(5, .int z396368), (6, .ref q395207), (4, .ref q395196), (3, .int g395133), (0, .ref q369987), (1, .int p369988), (2, .int p369989)]) z396368 1 dr_cX17_rename_138 rfl hz396368.symm (Nat.le_of_ble_eq_true rfl) rfl ?_
                            refine G_goto 20 dr_cX17_rename_141 (by decide +kernel) ?_
                            refine G_lv (L' := [(5, .int z396368), (4, .ref q395196), (3, .int g395133), (0, .ref q369987), (1, .int p369988), (2, .int p369989)]) [0, 2, 3, 4, 5, 6] rfl ?_
                            exact ih20_396105 F396100 z396368 (gB_w bz396368 (by decide) (by decide)) hT396101 hs396102 x396103 x396104 x396105 (fun k e1 ht => kt20_396106 k e1 (fun R c1 c2 c3 c4 c5 c6 c7 c8 c9 c10 c11 c12 c13 c14 c15 c16 c17 c18 c19 c20 c21 c22 c23 c24 c25 c26 c27 c28 c29 c30 c31 c32 c33 c34 c35 c36 c37 c38 c39 c40 c41 c42 c43 c44 c45 c46 c47 c48 c49 c50 c51 c52 c53 c54 c55 => c15 F396100 g396099 q395206 p396117 q395207 p396151 p396156 o396170 p396153 p396157 o396313 p396154 o396359 p396152 z396368 k e1 bg396099 hT396101 hs396102 x396103 x396104 x396105 fq396113 fq396124 fq396125 r396135 fq396136 r396143 fq396144 fq396163 fq396164 bo396170 ht396172 r396303 fq396304 r396306 fq396307 bo396313 ht396315 r396350 fq396351 r396353 bo396359 ht396360 r396364 fq396365 r396367 ez396368 (ht R c1 c2 c3 c4 c5 c6 c7 c8 c9 c10 c11 c12 c13 c14 c15 c16 c17 c18 c19 c20 c21 c22 c23 c24 c25 c26 c27 c28 c29 c30 c31 c32 c33 c34 c35 c36 c37 c38 c39 c40 c41 c42 c43 c44 c45 c46 c47 c48 c49 c50 c51 c52 c53 c54 c55))) (mz_up ez396368 (Int.le_trans bg396099'.2 (by decide)) hm20_396105)
                          · have r396369 : p396152.toInt = p369988.toInt := gC_eq hc396366
                            refine G_aload 0 dr_cX17_rename_132 rfl ?_
                            refine G_iload_n 6 dr_cX17_rename_134 rfl ?_
                            refine Gp_put 1 hm396149 he396150 dr_cX17_rename_135 (gk_X15 D I) (Nat.le_of_ble_eq_true rfl) wr_9_182 rfl rfl rfl (Nat.le_of_ble_eq_true rfl) (fun F396370 e396371 n396372 => ?_)
                            have he396373 : F396370 q369987 = .inr (18, [.ref q395145, .ref q395146, .int p395147, .int p395148]) := (n396372 q369987 (rn_oo he396108 he396150 (by decide))).trans he396108
                            have he396374 : F396370 q395145 = .inr (4, [.int p395177, .ref q395179, .int p395178]) := (n396372 q395145 (rn_oo he396109 he396150 (by decide))).trans he396109
                            have he396375 : F396370 q395179 = .inl (I (.object "java/lang/Object"), n395193, .inr (.inr (.inr (.inr f395194)))) := (n396372 q395179 (rn_ao he396110 he396150)).trans he396110
                            have he396376 : F396370 q395196 = .inr (17, [.ref q395206, .ref q395207, .int p395208, .int p395209]) := (n396372 q395196 (rn_oo he396111 he396150 (by decide))).trans he396111
                            have he396377 : F396370 q395206 = .inr (4, [.int p396116, .ref q396118, .int p396117]) := (n396372 q395206 (rn_oo he396115 he396150 (by decide))).trans he396115
                            have he396378 : F396370 q395207 = .inr (20, [.int p396151, .int p369989, .int p396153, .int p396154, .int p396155, .int p396156, .int p396157]) := e396371
                            have hs396379 : rStr γ [1] F369986 F396370 := rStr_pu2 hs396102 n396372 ht395212 (by decide)
                            have fs396380 : rFs γ (γ 1 q369987) F369986 F396370 := rFs_put x396105 n396372 ((show γ 1 q395207 = γ 1 q395196 from ht395213).trans ((show γ 1 q395196 = γ 1 q395145 from ht395203).trans (show γ 1 q395145 = γ 1 q369987 from ht395150)))
                            have fk396381 : rFk [1] γ F369986 F396370 := rFk_put x396104 n396372 ht395212 (by decide)
                            have fq396382 : F396370 q395207 = cF (F396100 q395207) 1 (.int p369989) := by rw [he396378, he396150]; rfl
                            obtain ⟨z396383, hz396383⟩ : ∃ z : Int32, z = g396099 + Int32.ofInt 1 := ⟨_, rfl⟩
                            have ez396383 : z396383.toInt = g396099.toInt + 1 := gI_inc hz396383 (by decide) bg396099' (by decide) (by decide)
                            have bz396383 : gB z396383 1 1000001 := ⟨by omega, by omega⟩
                            refine G_iinc (L' := [(5, .int z396383), (6, .ref q395207), (4, .ref q395196), (3, .int g395133), (0, .ref q369987), (1, .int p369988), (2, .int p369989)]) z396383 1 dr_cX17_rename_138 rfl hz396383.symm (Nat.le_of_ble_eq_true rfl) rfl ?_
                            refine G_goto 20 dr_cX17_rename_141 (by decide +kernel) ?_
                            have hT396384 : RS D I P369985 F396370 γ el := RS_set hT396101 n396372 ht395212 (by decide) ⟨p396151, p369989, p396153, p396154, p396155, p396156, p396157, he396378, bp396151, bp369989, bp396155, bp396156, bp396157, r396158, r396159, r396160, r396161, r396162⟩
                            refine G_lv (L' := [(5, .int z396383), (4, .ref q395196), (3, .int g395133), (0, .ref q369987), (1, .int p369988), (2, .int p369989)]) [0, 2, 3, 4, 5, 6] rfl ?_
                            exact ih20_396105 F396370 z396383 (gB_w bz396383 (by decide) (by decide)) hT396384 hs396379 (fun N hv hu hp => rPl_put hT396101 htq369987 rfl (x396103 N hv hu hp) n396372 hp396145 nb396148 hL396146 (fun _ _ _ _ z => z) (rNx_ren he396150 he396378 hu hv (Or.inl rfl) (Or.inl rfl) (Or.inr ⟨rfl, by first | assumption | omega⟩) (by rw [← hp396145]; exact x396103 N hv hu hp _ nb396148 _ hL396146))) fk396381 fs396380 (fun k e1 ht => kt20_396106 k e1 (fun R c1 c2 c3 c4 c5 c6 c7 c8 c9 c10 c11 c12 c13 c14 c15 c16 c17 c18 c19 c20 c21 c22 c23 c24 c25 c26 c27 c28 c29 c30 c31 c32 c33 c34 c35 c36 c37 c38 c39 c40 c41 c42 c43 c44 c45 c46 c47 c48 c49 c50 c51 c52 c53 c54 c55 => c16 F396100 g396099 q395206 p396117 q395207 p396151 p396156 o396170 p396153 p396157 o396313 p396154 o396359 p396152 F396370 z396383 k e1 bg396099 hT396101 hs396102 x396103 x396104 x396105 fq396113 fq396124 fq396125 r396135 fq396136 r396143 fq396144 fq396163 fq396164 bo396170 ht396172 r396303 fq396304 r396306 fq396307 bo396313 ht396315 r396350 fq396351 r396353 bo396359 ht396360 r396364 fq396365 r396369 n396372 fq396382 ez396383 (ht R c1 c2 c3 c4 c5 c6 c7 c8 c9 c10 c11 c12 c13 c14 c15 c16 c17 c18 c19 c20 c21 c22 c23 c24 c25 c26 c27 c28 c29 c30 c31 c32 c33 c34 c35 c36 c37 c38 c39 c40 c41 c42 c43 c44 c45 c46 c47 c48 c49 c50 c51 c52 c53 c54 c55))) (mz_up ez396383 (Int.le_trans bg396099'.2 (by decide)) hm20_396105)
                      · have r396386 : p396154.toInt = p369988.toInt := gC_eq hc396352
                        have bp396154' : gB p396154 0 1999 := ⟨by omega, by omega⟩
                        refine G_aload 0 dr_cX17_rename_109 rfl ?_
                        refine G_iload_n 6 dr_cX17_rename_111 rfl ?_
                        refine Gp_put 3 hm396149 he396150 dr_cX17_rename_112 (gk_X15 D I) (Nat.le_of_ble_eq_true rfl) wr_9_190 rfl rfl rfl (Nat.le_of_ble_eq_true rfl) (fun F396387 e396388 n396389 => ?_)
                        have he396390 : F396387 q369987 = .inr (18, [.ref q395145, .ref q395146, .int p395147, .int p395148]) := (n396389 q369987 (rn_oo he396108 he396150 (by decide))).trans he396108
                        have he396391 : F396387 q395145 = .inr (4, [.int p395177, .ref q395179, .int p395178]) := (n396389 q395145 (rn_oo he396109 he396150 (by decide))).trans he396109
                        have he396392 : F396387 q395179 = .inl (I (.object "java/lang/Object"), n395193, .inr (.inr (.inr (.inr f395194)))) := (n396389 q395179 (rn_ao he396110 he396150)).trans he396110
                        have he396393 : F396387 q395196 = .inr (17, [.ref q395206, .ref q395207, .int p395208, .int p395209]) := (n396389 q395196 (rn_oo he396111 he396150 (by decide))).trans he396111
                        have he396394 : F396387 q395206 = .inr (4, [.int p396116, .ref q396118, .int p396117]) := (n396389 q395206 (rn_oo he396115 he396150 (by decide))).trans he396115
                        have he396395 : F396387 q395207 = .inr (20, [.int p396151, .int p396152, .int p396153, .int p369989, .int p396155, .int p396156, .int p396157]) := e396388
                        have hs396396 : rStr γ [1] F369986 F396387 := rStr_pu2 hs396102 n396389 ht395212 (by decide)
                        have fs396397 : rFs γ (γ 1 q369987) F369986 F396387 := rFs_put x396105 n396389 ((show γ 1 q395207 = γ 1 q395196 from ht395213).trans ((show γ 1 q395196 = γ 1 q395145 from ht395203).trans (show γ 1 q395145 = γ 1 q369987 from ht395150)))
                        have fk396398 : rFk [1] γ F369986 F396387 := rFk_put x396104 n396389 ht395212 (by decide)
                        have fq396399 : F396387 q395207 = cF (F396100 q395207) 3 (.int p369989) := by rw [he396395, he396150]; rfl
                        refine G_aload 0 dr_cX17_rename_115 rfl ?_
                        have hT396400 : RS D I P369985 F396387 γ el := RS_set hT396101 n396389 ht395212 (by decide) ⟨p396151, p396152, p396153, p369989, p396155, p396156, p396157, he396395, bp396151, bp396152, bp396155, bp396156, bp396157, r396158, r396159, (Or.inr bp369989), r396161, r396162⟩
                        have fq396402 : fI (F396387 q395207) 0 = p396151 := by rw [he396395]; rfl
                        refine Gw_callV (As := []) (gV_ok D I) (cp_1660_Row_sets l hl0 D I P369985 F396387 q395207 p396151 p396152 p396153 p369989 p396155 p396156 p396157 hm396149 he396395 bp396151 bp396152 bp396155 bp396156 bp396157) dr_cX17_rename_117 ⟨wr_10_181, wr_1_39, wr_10_184, by decide, rfl, (Nat.le_of_ble_eq_true rfl), (Nat.le_of_ble_eq_true rfl)⟩ wr_10_182 wr_10_183 hm396149 he396395 rfl (show 0 + 0 ≤ 0 by first | omega | decide) (show 0 + 0 ≤ 0 by first | omega | decide) (Nat.le_of_ble_eq_true rfl) (fun r396406 w396407 dc396403 ds396404 hp396405 => ?_) (fun _ _ _ _ _ z => z.elim)
                        obtain ⟨o396408, rfl, rfl, hdc, hds, bo396408, ht396409⟩ := hp396405
                        change G _ _ _ _ _ _ _ (.int o396408 :: _) _ _ _
                        refine G_widen (cs' := 0) (sl' := 0) (by omega) (by omega) ?_
                        refine G_if_eq 138 dr_cX17_rename_120 (by decide +kernel) (fun hc396410 => ?_) (fun hc396410 => ?_)
                        · have r396411 : o396408.toInt = 0 := gj_eq hc396410 (show Int32.toInt 0 = 0 by decide)
                          have bo396408' : gB o396408 0 0 := gB_t0 r396411
                          obtain ⟨z396412, hz396412⟩ : ∃ z : Int32, z = g396099 + Int32.ofInt 1 := ⟨_, rfl⟩
                          have ez396412 : z396412.toInt = g396099.toInt + 1 := gI_inc hz396412 (by decide) bg396099' (by decide) (by decide)
                          have bz396412 : gB z396412 1 1000001 := ⟨by omega, by omega⟩
                          refine G_iinc (L' := [(5, .int z396412), (6, .ref q395207), (4, .ref q395196), (3, .int g395133), (0, .ref q369987), (1, .int p369988), (2, .int p369989)]) z396412 1 dr_cX17_rename_138 rfl hz396412.symm (Nat.le_of_ble_eq_true rfl) rfl ?_
                          refine G_goto 20 dr_cX17_rename_141 (by decide +kernel) ?_
                          refine G_lv (L' := [(5, .int z396412), (4, .ref q395196), (3, .int g395133), (0, .ref q369987), (1, .int p369988), (2, .int p369989)]) [0, 2, 3, 4, 5, 6] rfl ?_
                          exact ih20_396105 F396387 z396412 (gB_w bz396412 (by decide) (by decide)) hT396400 hs396396 (fun N hv hu hp => rPl_put hT396101 htq369987 rfl (x396103 N hv hu hp) n396389 hp396145 nb396148 hL396146 (fun _ _ _ _ z => z) (rNx_ren he396150 he396395 hu hv (Or.inl rfl) (Or.inr rfl) (Or.inl rfl) (by rw [← hp396145]; exact x396103 N hv hu hp _ nb396148 _ hL396146))) fk396398 fs396397 (fun k e1 ht => kt20_396106 k e1 (fun R c1 c2 c3 c4 c5 c6 c7 c8 c9 c10 c11 c12 c13 c14 c15 c16 c17 c18 c19 c20 c21 c22 c23 c24 c25 c26 c27 c28 c29 c30 c31 c32 c33 c34 c35 c36 c37 c38 c39 c40 c41 c42 c43 c44 c45 c46 c47 c48 c49 c50 c51 c52 c53 c54 c55 => c17 F396100 g396099 q395206 p396117 q395207 p396151 p396156 o396170 p396153 p396157 o396313 p396154 F396387 o396408 z396412 k e1 bg396099 hT396101 hs396102 x396103 x396104 x396105 fq396113 fq396124 fq396125 r396135 fq396136 r396143 fq396144 fq396163 fq396164 bo396170 ht396172 r396303 fq396304 r396306 fq396307 bo396313 ht396315 r396350 fq396351 r396386 n396389 fq396399 fq396402 bo396408 ht396409 r396411 ez396412 (ht R c1 c2 c3 c4 c5 c6 c7 c8 c9 c10 c11 c12 c13 c14 c15 c16 c17 c18 c19 c20 c21 c22 c23 c24 c25 c26 c27 c28 c29 c30 c31 c32 c33 c34 c35 c36 c37 c38 c39 c40 c41 c42 c43 c44 c45 c46 c47 c48 c49 c50 c51 c52 c53 c54 c55))) (mz_up ez396412 (Int.le_trans bg396099'.2 (by decide)) hm20_396105)
                        · have r396413 : o396408.toInt ≠ 0 := gj_neq hc396410 (show Int32.toInt 0 = 0 by decide)
                          have bo396408' : gB o396408 1 1 := gB_t1 bo396408 r396413
                          refine G_aload 0 dr_cX17_rename_123 rfl ?_
                          have fq396414 : fI (F396387 q395207) 1 = p396152 := by rw [he396395]; rfl
                          refine Gp_get 1 hm396149 he396395 dr_cX17_rename_125 (gk_X15 D I) (Nat.le_of_ble_eq_true rfl) wr_9_182 rfl ?_
                          refine G_iload_n 5 dr_cX17_rename_128 rfl ?_
                          refine G_icmp_ne 138 dr_cX17_rename_129 (by decide +kernel) (fun hc396415 => ?_) (fun hc396415 => ?_)
                          · have r396416 : p396152.toInt ≠ p369988.toInt := gC_ne hc396415
                            obtain ⟨z396417, hz396417⟩ : ∃ z : Int32, z = g396099 + Int32.ofInt 1 := ⟨_, rfl⟩
                            have ez396417 : z396417.toInt = g396099.toInt + 1 := gI_inc hz396417 (by decide) bg396099' (by decide) (by decide)
                            have bz396417 : gB z396417 1 1000001 := ⟨by omega, by omega⟩
                            refine G_iinc (L' := [(5, .int z396417), (6, .ref q395207), (4, .ref q395196), (3, .int g395133), (0, .ref q369987), (1, .int p369988), (2, .int p369989)]) z396417 1 dr_cX17_rename_138 rfl hz396417.symm (Nat.le_of_ble_eq_true rfl) rfl ?_
                            refine G_goto 20 dr_cX17_rename_141 (by decide +kernel) ?_
                            refine G_lv (L' := [(5, .int z396417), (4, .ref q395196), (3, .int g395133), (0, .ref q369987), (1, .int p369988), (2, .int p369989)]) [0, 2, 3, 4, 5, 6] rfl ?_
                            exact ih20_396105 F396387 z396417 (gB_w bz396417 (by decide) (by decide)) hT396400 hs396396 (fun N hv hu hp => rPl_put hT396101 htq369987 rfl (x396103 N hv hu hp) n396389 hp396145 nb396148 hL396146 (fun _ _ _ _ z => z) (rNx_ren he396150 he396395 hu hv (Or.inl rfl) (Or.inr rfl) (Or.inl rfl) (by rw [← hp396145]; exact x396103 N hv hu hp _ nb396148 _ hL396146))) fk396398 fs396397 (fun k e1 ht => kt20_396106 k e1 (fun R c1 c2 c3 c4 c5 c6 c7 c8 c9 c10 c11 c12 c13 c14 c15 c16 c17 c18 c19 c20 c21 c22 c23 c24 c25 c26 c27 c28 c29 c30 c31 c32 c33 c34 c35 c36 c37 c38 c39 c40 c41 c42 c43 c44 c45 c46 c47 c48 c49 c50 c51 c52 c53 c54 c55 => c18 F396100 g396099 q395206 p396117 q395207 p396151 p396156 o396170 p396153 p396157 o396313 p396154 F396387 o396408 p396152 z396417 k e1 bg396099 hT396101 hs396102 x396103 x396104 x396105 fq396113 fq396124 fq396125 r396135 fq396136 r396143 fq396144 fq396163 fq396164 bo396170 ht396172 r396303 fq396304 r396306 fq396307 bo396313 ht396315 r396350 fq396351 r396386 n396389 fq396399 fq396402 bo396408 ht396409 r396413 fq396414 r396416 ez396417 (ht R c1 c2 c3 c4 c5 c6 c7 c8 c9 c10 c11 c12 c13 c14 c15 c16 c17 c18 c19 c20 c21 c22 c23 c24 c25 c26 c27 c28 c29 c30 c31 c32 c33 c34 c35 c36 c37 c38 c39 c40 c41 c42 c43 c44 c45 c46 c47 c48 c49 c50 c51 c52 c53 c54 c55))) (mz_up ez396417 (Int.le_trans bg396099'.2 (by decide)) hm20_396105)
                          · have r396418 : p396152.toInt = p369988.toInt := gC_eq hc396415
                            refine G_aload 0 dr_cX17_rename_132 rfl ?_
                            refine G_iload_n 6 dr_cX17_rename_134 rfl ?_
                            refine Gp_put 1 hm396149 he396395 dr_cX17_rename_135 (gk_X15 D I) (Nat.le_of_ble_eq_true rfl) wr_9_182 rfl rfl rfl (Nat.le_of_ble_eq_true rfl) (fun F396419 e396420 n396421 => ?_)
                            have he396422 : F396419 q369987 = .inr (18, [.ref q395145, .ref q395146, .int p395147, .int p395148]) := (n396421 q369987 (rn_oo he396390 he396395 (by decide))).trans he396390
                            have he396423 : F396419 q395145 = .inr (4, [.int p395177, .ref q395179, .int p395178]) := (n396421 q395145 (rn_oo he396391 he396395 (by decide))).trans he396391
                            have he396424 : F396419 q395179 = .inl (I (.object "java/lang/Object"), n395193, .inr (.inr (.inr (.inr f395194)))) := (n396421 q395179 (rn_ao he396392 he396395)).trans he396392
                            have he396425 : F396419 q395196 = .inr (17, [.ref q395206, .ref q395207, .int p395208, .int p395209]) := (n396421 q395196 (rn_oo he396393 he396395 (by decide))).trans he396393
                            have he396426 : F396419 q395206 = .inr (4, [.int p396116, .ref q396118, .int p396117]) := (n396421 q395206 (rn_oo he396394 he396395 (by decide))).trans he396394
                            have he396427 : F396419 q395207 = .inr (20, [.int p396151, .int p369989, .int p396153, .int p369989, .int p396155, .int p396156, .int p396157]) := e396420
                            have hs396428 : rStr γ [1] F369986 F396419 := rStr_pu2 hs396396 n396421 ht395212 (by decide)
                            have fs396429 : rFs γ (γ 1 q369987) F369986 F396419 := rFs_put fs396397 n396421 ((show γ 1 q395207 = γ 1 q395196 from ht395213).trans ((show γ 1 q395196 = γ 1 q395145 from ht395203).trans (show γ 1 q395145 = γ 1 q369987 from ht395150)))
                            have fk396430 : rFk [1] γ F369986 F396419 := rFk_put fk396398 n396421 ht395212 (by decide)
                            have fq396431 : F396419 q395207 = cF (F396387 q395207) 1 (.int p369989) := by rw [he396427, he396395]; rfl
                            obtain ⟨z396432, hz396432⟩ : ∃ z : Int32, z = g396099 + Int32.ofInt 1 := ⟨_, rfl⟩
                            have ez396432 : z396432.toInt = g396099.toInt + 1 := gI_inc hz396432 (by decide) bg396099' (by decide) (by decide)
                            have bz396432 : gB z396432 1 1000001 := ⟨by omega, by omega⟩
                            refine G_iinc (L' := [(5, .int z396432), (6, .ref q395207), (4, .ref q395196), (3, .int g395133), (0, .ref q369987), (1, .int p369988), (2, .int p369989)]) z396432 1 dr_cX17_rename_138 rfl hz396432.symm (Nat.le_of_ble_eq_true rfl) rfl ?_
                            refine G_goto 20 dr_cX17_rename_141 (by decide +kernel) ?_
                            have hT396433 : RS D I P369985 F396419 γ el := RS_set hT396400 n396421 ht395212 (by decide) ⟨p396151, p369989, p396153, p369989, p396155, p396156, p396157, he396427, bp396151, bp369989, bp396155, bp396156, bp396157, r396158, r396159, (Or.inr bp369989), r396161, r396162⟩
                            have of396434 : ∀ b, b ≠ q395207 → F396419 b = F396100 b := fun b hb => (n396421 b hb).trans (n396389 b hb)
                            refine G_lv (L' := [(5, .int z396432), (4, .ref q395196), (3, .int g395133), (0, .ref q369987), (1, .int p369988), (2, .int p369989)]) [0, 2, 3, 4, 5, 6] rfl ?_
                            exact ih20_396105 F396419 z396432 (gB_w bz396432 (by decide) (by decide)) hT396433 hs396428 (fun N hv hu hp => rPl_put hT396101 htq369987 rfl (x396103 N hv hu hp) of396434 hp396145 nb396148 hL396146 (fun _ _ _ _ z => z) (rNx_ren he396150 he396427 hu hv (Or.inl rfl) (Or.inr rfl) (Or.inr ⟨rfl, by first | assumption | omega⟩) (by rw [← hp396145]; exact x396103 N hv hu hp _ nb396148 _ hL396146))) fk396430 fs396429 (fun k e1 ht => kt20_396106 k e1 (fun R c1 c2 c3 c4 c5 c6 c7 c8 c9 c10 c11 c12 c13 c14 c15 c16 c17 c18 c19 c20 c21 c22 c23 c24 c25 c26 c27 c28 c29 c30 c31 c32 c33 c34 c35 c36 c37 c38 c39 c40 c41 c42 c43 c44 c45 c46 c47 c48 c49 c50 c51 c52 c53 c54 c55 => c19 F396100 g396099 q395206 p396117 q395207 p396151 p396156 o396170 p396153 p396157 o396313 p396154 F396387 o396408 p396152 F396419 z396432 k e1 bg396099 hT396101 hs396102 x396103 x396104 x396105 fq396113 fq396124 fq396125 r396135 fq396136 r396143 fq396144 fq396163 fq396164 bo396170 ht396172 r396303 fq396304 r396306 fq396307 bo396313 ht396315 r396350 fq396351 r396386 n396389 fq396399 fq396402 bo396408 ht396409 r396413 fq396414 r396418 n396421 fq396431 ez396432 (ht R c1 c2 c3 c4 c5 c6 c7 c8 c9 c10 c11 c12 c13 c14 c15 c16 c17 c18 c19 c20 c21 c22 c23 c24 c25 c26 c27 c28 c29 c30 c31 c32 c33 c34 c35 c36 c37 c38 c39 c40 c41 c42 c43 c44 c45 c46 c47 c48 c49 c50 c51 c52 c53 c54 c55))) (mz_up ez396432 (Int.le_trans bg396099'.2 (by decide)) hm20_396105)
                  · have r396435 : p396153.toInt = p369988.toInt := gC_eq hc396305
                    have bp396153' : gB p396153 0 1999 := ⟨by omega, by omega⟩
                    refine G_aload 0 dr_cX17_rename_86 rfl ?_
                    refine G_iload_n 6 dr_cX17_rename_88 rfl ?_
                    refine Gp_put 2 hm396149 he396150 dr_cX17_rename_89 (gk_X15 D I) (Nat.le_of_ble_eq_true rfl) wr_9_186 rfl rfl rfl (Nat.le_of_ble_eq_true rfl) (fun F396436 e396437 n396438 => ?_)
                    have he396439 : F396436 q369987 = .inr (18, [.ref q395145, .ref q395146, .int p395147, .int p395148]) := (n396438 q369987 (rn_oo he396108 he396150 (by decide))).trans he396108
                    have he396440 : F396436 q395145 = .inr (4, [.int p395177, .ref q395179, .int p395178]) := (n396438 q395145 (rn_oo he396109 he396150 (by decide))).trans he396109
                    have he396441 : F396436 q395179 = .inl (I (.object "java/lang/Object"), n395193, .inr (.inr (.inr (.inr f395194)))) := (n396438 q395179 (rn_ao he396110 he396150)).trans he396110
                    have he396442 : F396436 q395196 = .inr (17, [.ref q395206, .ref q395207, .int p395208, .int p395209]) := (n396438 q395196 (rn_oo he396111 he396150 (by decide))).trans he396111
                    have he396443 : F396436 q395206 = .inr (4, [.int p396116, .ref q396118, .int p396117]) := (n396438 q395206 (rn_oo he396115 he396150 (by decide))).trans he396115
                    have he396444 : F396436 q395207 = .inr (20, [.int p396151, .int p396152, .int p369989, .int p396154, .int p396155, .int p396156, .int p396157]) := e396437
                    have hs396445 : rStr γ [1] F369986 F396436 := rStr_pu2 hs396102 n396438 ht395212 (by decide)
                    have fs396446 : rFs γ (γ 1 q369987) F369986 F396436 := rFs_put x396105 n396438 ((show γ 1 q395207 = γ 1 q395196 from ht395213).trans ((show γ 1 q395196 = γ 1 q395145 from ht395203).trans (show γ 1 q395145 = γ 1 q369987 from ht395150)))
                    have fk396447 : rFk [1] γ F369986 F396436 := rFk_put x396104 n396438 ht395212 (by decide)
                    have fq396448 : F396436 q395207 = cF (F396100 q395207) 2 (.int p369989) := by rw [he396444, he396150]; rfl
                    refine G_aload 0 dr_cX17_rename_92 rfl ?_
                    have hT396449 : RS D I P369985 F396436 γ el := RS_set hT396101 n396438 ht395212 (by decide) ⟨p396151, p396152, p369989, p396154, p396155, p396156, p396157, he396444, bp396151, bp396152, bp396155, bp396156, bp396157, r396158, (Or.inr bp369989), r396160, r396161, r396162⟩
                    have fq396451 : fI (F396436 q395207) 0 = p396151 := by rw [he396444]; rfl
                    have fq396452 : fI (F396436 q395207) 6 = p396157 := by rw [he396444]; rfl
                    refine Gw_callV (As := []) (gV_ok D I) (cp_1699_Row_usesB l hl0 D I P369985 F396436 q395207 p396151 p396152 p369989 p396154 p396155 p396156 p396157 hm396149 he396444 bp396151 bp396152 bp396155 bp396156 bp396157) dr_cX17_rename_94 ⟨wr_10_196, wr_1_39, wr_10_199, by decide, rfl, (Nat.le_of_ble_eq_true rfl), (Nat.le_of_ble_eq_true rfl)⟩ wr_10_197 wr_10_198 hm396149 he396444 rfl (show 0 + 0 ≤ 0 by first | omega | decide) (show 0 + 0 ≤ 0 by first | omega | decide) (Nat.le_of_ble_eq_true rfl) (fun r396456 w396457 dc396453 ds396454 hp396455 => ?_) (fun _ _ _ _ _ z => z.elim)
                    obtain ⟨o396458, rfl, rfl, hdc, hds, bo396458, x396459, ht396460⟩ := hp396455
                    change G _ _ _ _ _ _ _ (.int o396458 :: _) _ _ _
                    refine G_widen (cs' := 0) (sl' := 0) (by omega) (by omega) ?_
                    refine G_if_eq 115 dr_cX17_rename_97 (by decide +kernel) (fun hc396461 => ?_) (fun hc396461 => ?_)
                    · have r396462 : o396458.toInt = 0 := gj_eq hc396461 (show Int32.toInt 0 = 0 by decide)
                      have bo396458' : gB o396458 0 0 := gB_t0 r396462
                      refine G_aload 0 dr_cX17_rename_115 rfl ?_
                      refine Gw_callV (As := []) (gV_ok D I) (cp_1660_Row_sets l hl0 D I P369985 F396436 q395207 p396151 p396152 p369989 p396154 p396155 p396156 p396157 hm396149 he396444 bp396151 bp396152 bp396155 bp396156 bp396157) dr_cX17_rename_117 ⟨wr_10_181, wr_1_39, wr_10_184, by decide, rfl, (Nat.le_of_ble_eq_true rfl), (Nat.le_of_ble_eq_true rfl)⟩ wr_10_182 wr_10_183 hm396149 he396444 rfl (show 0 + 0 ≤ 0 by first | omega | decide) (show 0 + 0 ≤ 0 by first | omega | decide) (Nat.le_of_ble_eq_true rfl) (fun r396466 w396467 dc396463 ds396464 hp396465 => ?_) (fun _ _ _ _ _ z => z.elim)
                      obtain ⟨o396468, rfl, rfl, hdc, hds, bo396468, ht396469⟩ := hp396465
                      change G _ _ _ _ _ _ _ (.int o396468 :: _) _ _ _
                      refine G_widen (cs' := 0) (sl' := 0) (by omega) (by omega) ?_
                      refine G_if_eq 138 dr_cX17_rename_120 (by decide +kernel) (fun hc396470 => ?_) (fun hc396470 => ?_)
                      · have r396471 : o396468.toInt = 0 := gj_eq hc396470 (show Int32.toInt 0 = 0 by decide)
                        have bo396468' : gB o396468 0 0 := gB_t0 r396471
                        obtain ⟨z396472, hz396472⟩ : ∃ z : Int32, z = g396099 + Int32.ofInt 1 := ⟨_, rfl⟩
                        have ez396472 : z396472.toInt = g396099.toInt + 1 := gI_inc hz396472 (by decide) bg396099' (by decide) (by decide)
                        have bz396472 : gB z396472 1 1000001 := ⟨by omega, by omega⟩
                        refine G_iinc (L' := [(5, .int z396472), (6, .ref q395207), (4, .ref q395196), (3, .int g395133), (0, .ref q369987), (1, .int p369988), (2, .int p369989)]) z396472 1 dr_cX17_rename_138 rfl hz396472.symm (Nat.le_of_ble_eq_true rfl) rfl ?_
                        refine G_goto 20 dr_cX17_rename_141 (by decide +kernel) ?_
                        refine G_lv (L' := [(5, .int z396472), (4, .ref q395196), (3, .int g395133), (0, .ref q369987), (1, .int p369988), (2, .int p369989)]) [0, 2, 3, 4, 5, 6] rfl ?_
                        exact ih20_396105 F396436 z396472 (gB_w bz396472 (by decide) (by decide)) hT396449 hs396445 (fun N hv hu hp => rPl_put hT396101 htq369987 rfl (x396103 N hv hu hp) n396438 hp396145 nb396148 hL396146 (fun _ _ _ _ z => z) (rNx_ren he396150 he396444 hu hv (Or.inr rfl) (Or.inl rfl) (Or.inl rfl) (by rw [← hp396145]; exact x396103 N hv hu hp _ nb396148 _ hL396146))) fk396447 fs396446 (fun k e1 ht => kt20_396106 k e1 (fun R c1 c2 c3 c4 c5 c6 c7 c8 c9 c10 c11 c12 c13 c14 c15 c16 c17 c18 c19 c20 c21 c22 c23 c24 c25 c26 c27 c28 c29 c30 c31 c32 c33 c34 c35 c36 c37 c38 c39 c40 c41 c42 c43 c44 c45 c46 c47 c48 c49 c50 c51 c52 c53 c54 c55 => c20 F396100 g396099 q395206 p396117 q395207 p396151 p396156 o396170 p396153 F396436 p396157 o396458 o396468 z396472 k e1 bg396099 hT396101 hs396102 x396103 x396104 x396105 fq396113 fq396124 fq396125 r396135 fq396136 r396143 fq396144 fq396163 fq396164 bo396170 ht396172 r396303 fq396304 r396435 n396438 fq396448 fq396451 fq396452 bo396458 ht396460 r396462 bo396468 ht396469 r396471 ez396472 (ht R c1 c2 c3 c4 c5 c6 c7 c8 c9 c10 c11 c12 c13 c14 c15 c16 c17 c18 c19 c20 c21 c22 c23 c24 c25 c26 c27 c28 c29 c30 c31 c32 c33 c34 c35 c36 c37 c38 c39 c40 c41 c42 c43 c44 c45 c46 c47 c48 c49 c50 c51 c52 c53 c54 c55))) (mz_up ez396472 (Int.le_trans bg396099'.2 (by decide)) hm20_396105)
                      · have r396473 : o396468.toInt ≠ 0 := gj_neq hc396470 (show Int32.toInt 0 = 0 by decide)
                        have bo396468' : gB o396468 1 1 := gB_t1 bo396468 r396473
                        refine G_aload 0 dr_cX17_rename_123 rfl ?_
                        have fq396474 : fI (F396436 q395207) 1 = p396152 := by rw [he396444]; rfl
                        refine Gp_get 1 hm396149 he396444 dr_cX17_rename_125 (gk_X15 D I) (Nat.le_of_ble_eq_true rfl) wr_9_182 rfl ?_
                        refine G_iload_n 5 dr_cX17_rename_128 rfl ?_
                        refine G_icmp_ne 138 dr_cX17_rename_129 (by decide +kernel) (fun hc396475 => ?_) (fun hc396475 => ?_)
                        · have r396476 : p396152.toInt ≠ p369988.toInt := gC_ne hc396475
                          obtain ⟨z396477, hz396477⟩ : ∃ z : Int32, z = g396099 + Int32.ofInt 1 := ⟨_, rfl⟩
                          have ez396477 : z396477.toInt = g396099.toInt + 1 := gI_inc hz396477 (by decide) bg396099' (by decide) (by decide)
                          have bz396477 : gB z396477 1 1000001 := ⟨by omega, by omega⟩
                          refine G_iinc (L' := [(5, .int z396477), (6, .ref q395207), (4, .ref q395196), (3, .int g395133), (0, .ref q369987), (1, .int p369988), (2, .int p369989)]) z396477 1 dr_cX17_rename_138 rfl hz396477.symm (Nat.le_of_ble_eq_true rfl) rfl ?_
                          refine G_goto 20 dr_cX17_rename_141 (by decide +kernel) ?_
                          refine G_lv (L' := [(5, .int z396477), (4, .ref q395196), (3, .int g395133), (0, .ref q369987), (1, .int p369988), (2, .int p369989)]) [0, 2, 3, 4, 5, 6] rfl ?_
                          exact ih20_396105 F396436 z396477 (gB_w bz396477 (by decide) (by decide)) hT396449 hs396445 (fun N hv hu hp => rPl_put hT396101 htq369987 rfl (x396103 N hv hu hp) n396438 hp396145 nb396148 hL396146 (fun _ _ _ _ z => z) (rNx_ren he396150 he396444 hu hv (Or.inr rfl) (Or.inl rfl) (Or.inl rfl) (by rw [← hp396145]; exact x396103 N hv hu hp _ nb396148 _ hL396146))) fk396447 fs396446 (fun k e1 ht => kt20_396106 k e1 (fun R c1 c2 c3 c4 c5 c6 c7 c8 c9 c10 c11 c12 c13 c14 c15 c16 c17 c18 c19 c20 c21 c22 c23 c24 c25 c26 c27 c28 c29 c30 c31 c32 c33 c34 c35 c36 c37 c38 c39 c40 c41 c42 c43 c44 c45 c46 c47 c48 c49 c50 c51 c52 c53 c54 c55 => c21 F396100 g396099 q395206 p396117 q395207 p396151 p396156 o396170 p396153 F396436 p396157 o396458 o396468 p396152 z396477 k e1 bg396099 hT396101 hs396102 x396103 x396104 x396105 fq396113 fq396124 fq396125 r396135 fq396136 r396143 fq396144 fq396163 fq396164 bo396170 ht396172 r396303 fq396304 r396435 n396438 fq396448 fq396451 fq396452 bo396458 ht396460 r396462 bo396468 ht396469 r396473 fq396474 r396476 ez396477 (ht R c1 c2 c3 c4 c5 c6 c7 c8 c9 c10 c11 c12 c13 c14 c15 c16 c17 c18 c19 c20 c21 c22 c23 c24 c25 c26 c27 c28 c29 c30 c31 c32 c33 c34 c35 c36 c37 c38 c39 c40 c41 c42 c43 c44 c45 c46 c47 c48 c49 c50 c51 c52 c53 c54 c55))) (mz_up ez396477 (Int.le_trans bg396099'.2 (by decide)) hm20_396105)
                        · have r396478 : p396152.toInt = p369988.toInt := gC_eq hc396475
                          refine G_aload 0 dr_cX17_rename_132 rfl ?_
                          refine G_iload_n 6 dr_cX17_rename_134 rfl ?_
                          refine Gp_put 1 hm396149 he396444 dr_cX17_rename_135 (gk_X15 D I) (Nat.le_of_ble_eq_true rfl) wr_9_182 rfl rfl rfl (Nat.le_of_ble_eq_true rfl) (fun F396479 e396480 n396481 => ?_)
                          have he396482 : F396479 q369987 = .inr (18, [.ref q395145, .ref q395146, .int p395147, .int p395148]) := (n396481 q369987 (rn_oo he396439 he396444 (by decide))).trans he396439
                          have he396483 : F396479 q395145 = .inr (4, [.int p395177, .ref q395179, .int p395178]) := (n396481 q395145 (rn_oo he396440 he396444 (by decide))).trans he396440
                          have he396484 : F396479 q395179 = .inl (I (.object "java/lang/Object"), n395193, .inr (.inr (.inr (.inr f395194)))) := (n396481 q395179 (rn_ao he396441 he396444)).trans he396441
                          have he396485 : F396479 q395196 = .inr (17, [.ref q395206, .ref q395207, .int p395208, .int p395209]) := (n396481 q395196 (rn_oo he396442 he396444 (by decide))).trans he396442
                          have he396486 : F396479 q395206 = .inr (4, [.int p396116, .ref q396118, .int p396117]) := (n396481 q395206 (rn_oo he396443 he396444 (by decide))).trans he396443
                          have he396487 : F396479 q395207 = .inr (20, [.int p396151, .int p369989, .int p369989, .int p396154, .int p396155, .int p396156, .int p396157]) := e396480
                          have hs396488 : rStr γ [1] F369986 F396479 := rStr_pu2 hs396445 n396481 ht395212 (by decide)
                          have fs396489 : rFs γ (γ 1 q369987) F369986 F396479 := rFs_put fs396446 n396481 ((show γ 1 q395207 = γ 1 q395196 from ht395213).trans ((show γ 1 q395196 = γ 1 q395145 from ht395203).trans (show γ 1 q395145 = γ 1 q369987 from ht395150)))
                          have fk396490 : rFk [1] γ F369986 F396479 := rFk_put fk396447 n396481 ht395212 (by decide)
                          have fq396491 : F396479 q395207 = cF (F396436 q395207) 1 (.int p369989) := by rw [he396487, he396444]; rfl
                          obtain ⟨z396492, hz396492⟩ : ∃ z : Int32, z = g396099 + Int32.ofInt 1 := ⟨_, rfl⟩
                          have ez396492 : z396492.toInt = g396099.toInt + 1 := gI_inc hz396492 (by decide) bg396099' (by decide) (by decide)
                          have bz396492 : gB z396492 1 1000001 := ⟨by omega, by omega⟩
                          refine G_iinc (L' := [(5, .int z396492), (6, .ref q395207), (4, .ref q395196), (3, .int g395133), (0, .ref q369987), (1, .int p369988), (2, .int p369989)]) z396492 1 dr_cX17_rename_138 rfl hz396492.symm (Nat.le_of_ble_eq_true rfl) rfl ?_
                          refine G_goto 20 dr_cX17_rename_141 (by decide +kernel) ?_
                          have hT396493 : RS D I P369985 F396479 γ el := RS_set hT396449 n396481 ht395212 (by decide) ⟨p396151, p369989, p369989, p396154, p396155, p396156, p396157, he396487, bp396151, bp369989, bp396155, bp396156, bp396157, r396158, (Or.inr bp369989), r396160, r396161, r396162⟩
                          have of396494 : ∀ b, b ≠ q395207 → F396479 b = F396100 b := fun b hb => (n396481 b hb).trans (n396438 b hb)
                          refine G_lv (L' := [(5, .int z396492), (4, .ref q395196), (3, .int g395133), (0, .ref q369987), (1, .int p369988), (2, .int p369989)]) [0, 2, 3, 4, 5, 6] rfl ?_
                          exact ih20_396105 F396479 z396492 (gB_w bz396492 (by decide) (by decide)) hT396493 hs396488 (fun N hv hu hp => rPl_put hT396101 htq369987 rfl (x396103 N hv hu hp) of396494 hp396145 nb396148 hL396146 (fun _ _ _ _ z => z) (rNx_ren he396150 he396487 hu hv (Or.inr rfl) (Or.inl rfl) (Or.inr ⟨rfl, by first | assumption | omega⟩) (by rw [← hp396145]; exact x396103 N hv hu hp _ nb396148 _ hL396146))) fk396490 fs396489 (fun k e1 ht => kt20_396106 k e1 (fun R c1 c2 c3 c4 c5 c6 c7 c8 c9 c10 c11 c12 c13 c14 c15 c16 c17 c18 c19 c20 c21 c22 c23 c24 c25 c26 c27 c28 c29 c30 c31 c32 c33 c34 c35 c36 c37 c38 c39 c40 c41 c42 c43 c44 c45 c46 c47 c48 c49 c50 c51 c52 c53 c54 c55 => c22 F396100 g396099 q395206 p396117 q395207 p396151 p396156 o396170 p396153 F396436 p396157 o396458 o396468 p396152 F396479 z396492 k e1 bg396099 hT396101 hs396102 x396103 x396104 x396105 fq396113 fq396124 fq396125 r396135 fq396136 r396143 fq396144 fq396163 fq396164 bo396170 ht396172 r396303 fq396304 r396435 n396438 fq396448 fq396451 fq396452 bo396458 ht396460 r396462 bo396468 ht396469 r396473 fq396474 r396478 n396481 fq396491 ez396492 (ht R c1 c2 c3 c4 c5 c6 c7 c8 c9 c10 c11 c12 c13 c14 c15 c16 c17 c18 c19 c20 c21 c22 c23 c24 c25 c26 c27 c28 c29 c30 c31 c32 c33 c34 c35 c36 c37 c38 c39 c40 c41 c42 c43 c44 c45 c46 c47 c48 c49 c50 c51 c52 c53 c54 c55))) (mz_up ez396492 (Int.le_trans bg396099'.2 (by decide)) hm20_396105)
                    · have r396495 : o396458.toInt ≠ 0 := gj_neq hc396461 (show Int32.toInt 0 = 0 by decide)
                      have bo396458' : gB o396458 1 1 := gB_t1 bo396458 r396495
                      refine G_aload 0 dr_cX17_rename_100 rfl ?_
                      have fq396496 : fI (F396436 q395207) 3 = p396154 := by rw [he396444]; rfl
                      refine Gp_get 3 hm396149 he396444 dr_cX17_rename_102 (gk_X15 D I) (Nat.le_of_ble_eq_true rfl) wr_9_190 rfl ?_
                      refine G_iload_n 5 dr_cX17_rename_105 rfl ?_
                      refine G_icmp_ne 115 dr_cX17_rename_106 (by decide +kernel) (fun hc396497 => ?_) (fun hc396497 => ?_)
                      · have r396498 : p396154.toInt ≠ p369988.toInt := gC_ne hc396497
                        refine G_aload 0 dr_cX17_rename_115 rfl ?_
                        refine Gw_callV (As := []) (gV_ok D I) (cp_1660_Row_sets l hl0 D I P369985 F396436 q395207 p396151 p396152 p369989 p396154 p396155 p396156 p396157 hm396149 he396444 bp396151 bp396152 bp396155 bp396156 bp396157) dr_cX17_rename_117 ⟨wr_10_181, wr_1_39, wr_10_184, by decide, rfl, (Nat.le_of_ble_eq_true rfl), (Nat.le_of_ble_eq_true rfl)⟩ wr_10_182 wr_10_183 hm396149 he396444 rfl (show 0 + 0 ≤ 0 by first | omega | decide) (show 0 + 0 ≤ 0 by first | omega | decide) (Nat.le_of_ble_eq_true rfl) (fun r396502 w396503 dc396499 ds396500 hp396501 => ?_) (fun _ _ _ _ _ z => z.elim)
                        obtain ⟨o396504, rfl, rfl, hdc, hds, bo396504, ht396505⟩ := hp396501
                        change G _ _ _ _ _ _ _ (.int o396504 :: _) _ _ _
                        refine G_widen (cs' := 0) (sl' := 0) (by omega) (by omega) ?_
                        refine G_if_eq 138 dr_cX17_rename_120 (by decide +kernel) (fun hc396506 => ?_) (fun hc396506 => ?_)
                        · have r396507 : o396504.toInt = 0 := gj_eq hc396506 (show Int32.toInt 0 = 0 by decide)
                          have bo396504' : gB o396504 0 0 := gB_t0 r396507
                          obtain ⟨z396508, hz396508⟩ : ∃ z : Int32, z = g396099 + Int32.ofInt 1 := ⟨_, rfl⟩
                          have ez396508 : z396508.toInt = g396099.toInt + 1 := gI_inc hz396508 (by decide) bg396099' (by decide) (by decide)
                          have bz396508 : gB z396508 1 1000001 := ⟨by omega, by omega⟩
                          refine G_iinc (L' := [(5, .int z396508), (6, .ref q395207), (4, .ref q395196), (3, .int g395133), (0, .ref q369987), (1, .int p369988), (2, .int p369989)]) z396508 1 dr_cX17_rename_138 rfl hz396508.symm (Nat.le_of_ble_eq_true rfl) rfl ?_
                          refine G_goto 20 dr_cX17_rename_141 (by decide +kernel) ?_
                          refine G_lv (L' := [(5, .int z396508), (4, .ref q395196), (3, .int g395133), (0, .ref q369987), (1, .int p369988), (2, .int p369989)]) [0, 2, 3, 4, 5, 6] rfl ?_
                          exact ih20_396105 F396436 z396508 (gB_w bz396508 (by decide) (by decide)) hT396449 hs396445 (fun N hv hu hp => rPl_put hT396101 htq369987 rfl (x396103 N hv hu hp) n396438 hp396145 nb396148 hL396146 (fun _ _ _ _ z => z) (rNx_ren he396150 he396444 hu hv (Or.inr rfl) (Or.inl rfl) (Or.inl rfl) (by rw [← hp396145]; exact x396103 N hv hu hp _ nb396148 _ hL396146))) fk396447 fs396446 (fun k e1 ht => kt20_396106 k e1 (fun R c1 c2 c3 c4 c5 c6 c7 c8 c9 c10 c11 c12 c13 c14 c15 c16 c17 c18 c19 c20 c21 c22 c23 c24 c25 c26 c27 c28 c29 c30 c31 c32 c33 c34 c35 c36 c37 c38 c39 c40 c41 c42 c43 c44 c45 c46 c47 c48 c49 c50 c51 c52 c53 c54 c55 => c23 F396100 g396099 q395206 p396117 q395207 p396151 p396156 o396170 p396153 F396436 p396157 o396458 p396154 o396504 z396508 k e1 bg396099 hT396101 hs396102 x396103 x396104 x396105 fq396113 fq396124 fq396125 r396135 fq396136 r396143 fq396144 fq396163 fq396164 bo396170 ht396172 r396303 fq396304 r396435 n396438 fq396448 fq396451 fq396452 bo396458 ht396460 r396495 fq396496 r396498 bo396504 ht396505 r396507 ez396508 (ht R c1 c2 c3 c4 c5 c6 c7 c8 c9 c10 c11 c12 c13 c14 c15 c16 c17 c18 c19 c20 c21 c22 c23 c24 c25 c26 c27 c28 c29 c30 c31 c32 c33 c34 c35 c36 c37 c38 c39 c40 c41 c42 c43 c44 c45 c46 c47 c48 c49 c50 c51 c52 c53 c54 c55))) (mz_up ez396508 (Int.le_trans bg396099'.2 (by decide)) hm20_396105)
                        · have r396509 : o396504.toInt ≠ 0 := gj_neq hc396506 (show Int32.toInt 0 = 0 by decide)
                          have bo396504' : gB o396504 1 1 := gB_t1 bo396504 r396509
                          refine G_aload 0 dr_cX17_rename_123 rfl ?_
                          have fq396510 : fI (F396436 q395207) 1 = p396152 := by rw [he396444]; rfl
                          refine Gp_get 1 hm396149 he396444 dr_cX17_rename_125 (gk_X15 D I) (Nat.le_of_ble_eq_true rfl) wr_9_182 rfl ?_
                          refine G_iload_n 5 dr_cX17_rename_128 rfl ?_
                          refine G_icmp_ne 138 dr_cX17_rename_129 (by decide +kernel) (fun hc396511 => ?_) (fun hc396511 => ?_)
                          · have r396512 : p396152.toInt ≠ p369988.toInt := gC_ne hc396511
                            obtain ⟨z396513, hz396513⟩ : ∃ z : Int32, z = g396099 + Int32.ofInt 1 := ⟨_, rfl⟩
                            have ez396513 : z396513.toInt = g396099.toInt + 1 := gI_inc hz396513 (by decide) bg396099' (by decide) (by decide)
                            have bz396513 : gB z396513 1 1000001 := ⟨by omega, by omega⟩
                            refine G_iinc (L' := [(5, .int z396513), (6, .ref q395207), (4, .ref q395196), (3, .int g395133), (0, .ref q369987), (1, .int p369988), (2, .int p369989)]) z396513 1 dr_cX17_rename_138 rfl hz396513.symm (Nat.le_of_ble_eq_true rfl) rfl ?_
                            refine G_goto 20 dr_cX17_rename_141 (by decide +kernel) ?_
                            refine G_lv (L' := [(5, .int z396513), (4, .ref q395196), (3, .int g395133), (0, .ref q369987), (1, .int p369988), (2, .int p369989)]) [0, 2, 3, 4, 5, 6] rfl ?_
                            exact ih20_396105 F396436 z396513 (gB_w bz396513 (by decide) (by decide)) hT396449 hs396445 (fun N hv hu hp => rPl_put hT396101 htq369987 rfl (x396103 N hv hu hp) n396438 hp396145 nb396148 hL396146 (fun _ _ _ _ z => z) (rNx_ren he396150 he396444 hu hv (Or.inr rfl) (Or.inl rfl) (Or.inl rfl) (by rw [← hp396145]; exact x396103 N hv hu hp _ nb396148 _ hL396146))) fk396447 fs396446 (fun k e1 ht => kt20_396106 k e1 (fun R c1 c2 c3 c4 c5 c6 c7 c8 c9 c10 c11 c12 c13 c14 c15 c16 c17 c18 c19 c20 c21 c22 c23 c24 c25 c26 c27 c28 c29 c30 c31 c32 c33 c34 c35 c36 c37 c38 c39 c40 c41 c42 c43 c44 c45 c46 c47 c48 c49 c50 c51 c52 c53 c54 c55 => c24 F396100 g396099 q395206 p396117 q395207 p396151 p396156 o396170 p396153 F396436 p396157 o396458 p396154 o396504 p396152 z396513 k e1 bg396099 hT396101 hs396102 x396103 x396104 x396105 fq396113 fq396124 fq396125 r396135 fq396136 r396143 fq396144 fq396163 fq396164 bo396170 ht396172 r396303 fq396304 r396435 n396438 fq396448 fq396451 fq396452 bo396458 ht396460 r396495 fq396496 r396498 bo396504 ht396505 r396509 fq396510 r396512 ez396513 (ht R c1 c2 c3 c4 c5 c6 c7 c8 c9 c10 c11 c12 c13 c14 c15 c16 c17 c18 c19 c20 c21 c22 c23 c24 c25 c26 c27 c28 c29 c30 c31 c32 c33 c34 c35 c36 c37 c38 c39 c40 c41 c42 c43 c44 c45 c46 c47 c48 c49 c50 c51 c52 c53 c54 c55))) (mz_up ez396513 (Int.le_trans bg396099'.2 (by decide)) hm20_396105)
                          · have r396514 : p396152.toInt = p369988.toInt := gC_eq hc396511
                            refine G_aload 0 dr_cX17_rename_132 rfl ?_
                            refine G_iload_n 6 dr_cX17_rename_134 rfl ?_
                            refine Gp_put 1 hm396149 he396444 dr_cX17_rename_135 (gk_X15 D I) (Nat.le_of_ble_eq_true rfl) wr_9_182 rfl rfl rfl (Nat.le_of_ble_eq_true rfl) (fun F396515 e396516 n396517 => ?_)
                            have he396518 : F396515 q369987 = .inr (18, [.ref q395145, .ref q395146, .int p395147, .int p395148]) := (n396517 q369987 (rn_oo he396439 he396444 (by decide))).trans he396439
                            have he396519 : F396515 q395145 = .inr (4, [.int p395177, .ref q395179, .int p395178]) := (n396517 q395145 (rn_oo he396440 he396444 (by decide))).trans he396440
                            have he396520 : F396515 q395179 = .inl (I (.object "java/lang/Object"), n395193, .inr (.inr (.inr (.inr f395194)))) := (n396517 q395179 (rn_ao he396441 he396444)).trans he396441
                            have he396521 : F396515 q395196 = .inr (17, [.ref q395206, .ref q395207, .int p395208, .int p395209]) := (n396517 q395196 (rn_oo he396442 he396444 (by decide))).trans he396442
                            have he396522 : F396515 q395206 = .inr (4, [.int p396116, .ref q396118, .int p396117]) := (n396517 q395206 (rn_oo he396443 he396444 (by decide))).trans he396443
                            have he396523 : F396515 q395207 = .inr (20, [.int p396151, .int p369989, .int p369989, .int p396154, .int p396155, .int p396156, .int p396157]) := e396516
                            have hs396524 : rStr γ [1] F369986 F396515 := rStr_pu2 hs396445 n396517 ht395212 (by decide)
                            have fs396525 : rFs γ (γ 1 q369987) F369986 F396515 := rFs_put fs396446 n396517 ((show γ 1 q395207 = γ 1 q395196 from ht395213).trans ((show γ 1 q395196 = γ 1 q395145 from ht395203).trans (show γ 1 q395145 = γ 1 q369987 from ht395150)))
                            have fk396526 : rFk [1] γ F369986 F396515 := rFk_put fk396447 n396517 ht395212 (by decide)
                            have fq396527 : F396515 q395207 = cF (F396436 q395207) 1 (.int p369989) := by rw [he396523, he396444]; rfl
                            obtain ⟨z396528, hz396528⟩ : ∃ z : Int32, z = g396099 + Int32.ofInt 1 := ⟨_, rfl⟩
                            have ez396528 : z396528.toInt = g396099.toInt + 1 := gI_inc hz396528 (by decide) bg396099' (by decide) (by decide)
                            have bz396528 : gB z396528 1 1000001 := ⟨by omega, by omega⟩
                            refine G_iinc (L' := [(5, .int z396528), (6, .ref q395207), (4, .ref q395196), (3, .int g395133), (0, .ref q369987), (1, .int p369988), (2, .int p369989)]) z396528 1 dr_cX17_rename_138 rfl hz396528.symm (Nat.le_of_ble_eq_true rfl) rfl ?_
                            refine G_goto 20 dr_cX17_rename_141 (by decide +kernel) ?_
                            have hT396529 : RS D I P369985 F396515 γ el := RS_set hT396449 n396517 ht395212 (by decide) ⟨p396151, p369989, p369989, p396154, p396155, p396156, p396157, he396523, bp396151, bp369989, bp396155, bp396156, bp396157, r396158, (Or.inr bp369989), r396160, r396161, r396162⟩
                            have of396530 : ∀ b, b ≠ q395207 → F396515 b = F396100 b := fun b hb => (n396517 b hb).trans (n396438 b hb)
                            refine G_lv (L' := [(5, .int z396528), (4, .ref q395196), (3, .int g395133), (0, .ref q369987), (1, .int p369988), (2, .int p369989)]) [0, 2, 3, 4, 5, 6] rfl ?_
                            exact ih20_396105 F396515 z396528 (gB_w bz396528 (by decide) (by decide)) hT396529 hs396524 (fun N hv hu hp => rPl_put hT396101 htq369987 rfl (x396103 N hv hu hp) of396530 hp396145 nb396148 hL396146 (fun _ _ _ _ z => z) (rNx_ren he396150 he396523 hu hv (Or.inr rfl) (Or.inl rfl) (Or.inr ⟨rfl, by first | assumption | omega⟩) (by rw [← hp396145]; exact x396103 N hv hu hp _ nb396148 _ hL396146))) fk396526 fs396525 (fun k e1 ht => kt20_396106 k e1 (fun R c1 c2 c3 c4 c5 c6 c7 c8 c9 c10 c11 c12 c13 c14 c15 c16 c17 c18 c19 c20 c21 c22 c23 c24 c25 c26 c27 c28 c29 c30 c31 c32 c33 c34 c35 c36 c37 c38 c39 c40 c41 c42 c43 c44 c45 c46 c47 c48 c49 c50 c51 c52 c53 c54 c55 => c25 F396100 g396099 q395206 p396117 q395207 p396151 p396156 o396170 p396153 F396436 p396157 o396458 p396154 o396504 p396152 F396515 z396528 k e1 bg396099 hT396101 hs396102 x396103 x396104 x396105 fq396113 fq396124 fq396125 r396135 fq396136 r396143 fq396144 fq396163 fq396164 bo396170 ht396172 r396303 fq396304 r396435 n396438 fq396448 fq396451 fq396452 bo396458 ht396460 r396495 fq396496 r396498 bo396504 ht396505 r396509 fq396510 r396514 n396517 fq396527 ez396528 (ht R c1 c2 c3 c4 c5 c6 c7 c8 c9 c10 c11 c12 c13 c14 c15 c16 c17 c18 c19 c20 c21 c22 c23 c24 c25 c26 c27 c28 c29 c30 c31 c32 c33 c34 c35 c36 c37 c38 c39 c40 c41 c42 c43 c44 c45 c46 c47 c48 c49 c50 c51 c52 c53 c54 c55))) (mz_up ez396528 (Int.le_trans bg396099'.2 (by decide)) hm20_396105)
                      · have r396531 : p396154.toInt = p369988.toInt := gC_eq hc396497
                        have bp396154' : gB p396154 0 1999 := ⟨by omega, by omega⟩
                        refine G_aload 0 dr_cX17_rename_109 rfl ?_
                        refine G_iload_n 6 dr_cX17_rename_111 rfl ?_
                        refine Gp_put 3 hm396149 he396444 dr_cX17_rename_112 (gk_X15 D I) (Nat.le_of_ble_eq_true rfl) wr_9_190 rfl rfl rfl (Nat.le_of_ble_eq_true rfl) (fun F396532 e396533 n396534 => ?_)
                        have he396535 : F396532 q369987 = .inr (18, [.ref q395145, .ref q395146, .int p395147, .int p395148]) := (n396534 q369987 (rn_oo he396439 he396444 (by decide))).trans he396439
                        have he396536 : F396532 q395145 = .inr (4, [.int p395177, .ref q395179, .int p395178]) := (n396534 q395145 (rn_oo he396440 he396444 (by decide))).trans he396440
                        have he396537 : F396532 q395179 = .inl (I (.object "java/lang/Object"), n395193, .inr (.inr (.inr (.inr f395194)))) := (n396534 q395179 (rn_ao he396441 he396444)).trans he396441
                        have he396538 : F396532 q395196 = .inr (17, [.ref q395206, .ref q395207, .int p395208, .int p395209]) := (n396534 q395196 (rn_oo he396442 he396444 (by decide))).trans he396442
                        have he396539 : F396532 q395206 = .inr (4, [.int p396116, .ref q396118, .int p396117]) := (n396534 q395206 (rn_oo he396443 he396444 (by decide))).trans he396443
                        have he396540 : F396532 q395207 = .inr (20, [.int p396151, .int p396152, .int p369989, .int p369989, .int p396155, .int p396156, .int p396157]) := e396533
                        have hs396541 : rStr γ [1] F369986 F396532 := rStr_pu2 hs396445 n396534 ht395212 (by decide)
                        have fs396542 : rFs γ (γ 1 q369987) F369986 F396532 := rFs_put fs396446 n396534 ((show γ 1 q395207 = γ 1 q395196 from ht395213).trans ((show γ 1 q395196 = γ 1 q395145 from ht395203).trans (show γ 1 q395145 = γ 1 q369987 from ht395150)))
                        have fk396543 : rFk [1] γ F369986 F396532 := rFk_put fk396447 n396534 ht395212 (by decide)
                        have fq396544 : F396532 q395207 = cF (F396436 q395207) 3 (.int p369989) := by rw [he396540, he396444]; rfl
                        refine G_aload 0 dr_cX17_rename_115 rfl ?_
                        have hT396545 : RS D I P369985 F396532 γ el := RS_set hT396449 n396534 ht395212 (by decide) ⟨p396151, p396152, p369989, p369989, p396155, p396156, p396157, he396540, bp396151, bp396152, bp396155, bp396156, bp396157, r396158, (Or.inr bp369989), (Or.inr bp369989), r396161, r396162⟩
                        have of396546 : ∀ b, b ≠ q395207 → F396532 b = F396100 b := fun b hb => (n396534 b hb).trans (n396438 b hb)
                        have fq396547 : fI (F396532 q395207) 0 = p396151 := by rw [he396540]; rfl
                        refine Gw_callV (As := []) (gV_ok D I) (cp_1660_Row_sets l hl0 D I P369985 F396532 q395207 p396151 p396152 p369989 p369989 p396155 p396156 p396157 hm396149 he396540 bp396151 bp396152 bp396155 bp396156 bp396157) dr_cX17_rename_117 ⟨wr_10_181, wr_1_39, wr_10_184, by decide, rfl, (Nat.le_of_ble_eq_true rfl), (Nat.le_of_ble_eq_true rfl)⟩ wr_10_182 wr_10_183 hm396149 he396540 rfl (show 0 + 0 ≤ 0 by first | omega | decide) (show 0 + 0 ≤ 0 by first | omega | decide) (Nat.le_of_ble_eq_true rfl) (fun r396551 w396552 dc396548 ds396549 hp396550 => ?_) (fun _ _ _ _ _ z => z.elim)
                        obtain ⟨o396553, rfl, rfl, hdc, hds, bo396553, ht396554⟩ := hp396550
                        change G _ _ _ _ _ _ _ (.int o396553 :: _) _ _ _
                        refine G_widen (cs' := 0) (sl' := 0) (by omega) (by omega) ?_
                        refine G_if_eq 138 dr_cX17_rename_120 (by decide +kernel) (fun hc396555 => ?_) (fun hc396555 => ?_)
                        · have r396556 : o396553.toInt = 0 := gj_eq hc396555 (show Int32.toInt 0 = 0 by decide)
                          have bo396553' : gB o396553 0 0 := gB_t0 r396556
                          obtain ⟨z396557, hz396557⟩ : ∃ z : Int32, z = g396099 + Int32.ofInt 1 := ⟨_, rfl⟩
                          have ez396557 : z396557.toInt = g396099.toInt + 1 := gI_inc hz396557 (by decide) bg396099' (by decide) (by decide)
                          have bz396557 : gB z396557 1 1000001 := ⟨by omega, by omega⟩
                          refine G_iinc (L' := [(5, .int z396557), (6, .ref q395207), (4, .ref q395196), (3, .int g395133), (0, .ref q369987), (1, .int p369988), (2, .int p369989)]) z396557 1 dr_cX17_rename_138 rfl hz396557.symm (Nat.le_of_ble_eq_true rfl) rfl ?_
                          refine G_goto 20 dr_cX17_rename_141 (by decide +kernel) ?_
                          refine G_lv (L' := [(5, .int z396557), (4, .ref q395196), (3, .int g395133), (0, .ref q369987), (1, .int p369988), (2, .int p369989)]) [0, 2, 3, 4, 5, 6] rfl ?_
                          exact ih20_396105 F396532 z396557 (gB_w bz396557 (by decide) (by decide)) hT396545 hs396541 (fun N hv hu hp => rPl_put hT396101 htq369987 rfl (x396103 N hv hu hp) of396546 hp396145 nb396148 hL396146 (fun _ _ _ _ z => z) (rNx_ren he396150 he396540 hu hv (Or.inr rfl) (Or.inr rfl) (Or.inl rfl) (by rw [← hp396145]; exact x396103 N hv hu hp _ nb396148 _ hL396146))) fk396543 fs396542 (fun k e1 ht => kt20_396106 k e1 (fun R c1 c2 c3 c4 c5 c6 c7 c8 c9 c10 c11 c12 c13 c14 c15 c16 c17 c18 c19 c20 c21 c22 c23 c24 c25 c26 c27 c28 c29 c30 c31 c32 c33 c34 c35 c36 c37 c38 c39 c40 c41 c42 c43 c44 c45 c46 c47 c48 c49 c50 c51 c52 c53 c54 c55 => c26 F396100 g396099 q395206 p396117 q395207 p396151 p396156 o396170 p396153 F396436 p396157 o396458 p396154 F396532 o396553 z396557 k e1 bg396099 hT396101 hs396102 x396103 x396104 x396105 fq396113 fq396124 fq396125 r396135 fq396136 r396143 fq396144 fq396163 fq396164 bo396170 ht396172 r396303 fq396304 r396435 n396438 fq396448 fq396451 fq396452 bo396458 ht396460 r396495 fq396496 r396531 n396534 fq396544 fq396547 bo396553 ht396554 r396556 ez396557 (ht R c1 c2 c3 c4 c5 c6 c7 c8 c9 c10 c11 c12 c13 c14 c15 c16 c17 c18 c19 c20 c21 c22 c23 c24 c25 c26 c27 c28 c29 c30 c31 c32 c33 c34 c35 c36 c37 c38 c39 c40 c41 c42 c43 c44 c45 c46 c47 c48 c49 c50 c51 c52 c53 c54 c55))) (mz_up ez396557 (Int.le_trans bg396099'.2 (by decide)) hm20_396105)
                        · have r396558 : o396553.toInt ≠ 0 := gj_neq hc396555 (show Int32.toInt 0 = 0 by decide)
                          have bo396553' : gB o396553 1 1 := gB_t1 bo396553 r396558
                          refine G_aload 0 dr_cX17_rename_123 rfl ?_
                          have fq396559 : fI (F396532 q395207) 1 = p396152 := by rw [he396540]; rfl
                          refine Gp_get 1 hm396149 he396540 dr_cX17_rename_125 (gk_X15 D I) (Nat.le_of_ble_eq_true rfl) wr_9_182 rfl ?_
                          refine G_iload_n 5 dr_cX17_rename_128 rfl ?_
                          refine G_icmp_ne 138 dr_cX17_rename_129 (by decide +kernel) (fun hc396560 => ?_) (fun hc396560 => ?_)
                          · have r396561 : p396152.toInt ≠ p369988.toInt := gC_ne hc396560
                            obtain ⟨z396562, hz396562⟩ : ∃ z : Int32, z = g396099 + Int32.ofInt 1 := ⟨_, rfl⟩
                            have ez396562 : z396562.toInt = g396099.toInt + 1 := gI_inc hz396562 (by decide) bg396099' (by decide) (by decide)
                            have bz396562 : gB z396562 1 1000001 := ⟨by omega, by omega⟩
                            refine G_iinc (L' := [(5, .int z396562), (6, .ref q395207), (4, .ref q395196), (3, .int g395133), (0, .ref q369987), (1, .int p369988), (2, .int p369989)]) z396562 1 dr_cX17_rename_138 rfl hz396562.symm (Nat.le_of_ble_eq_true rfl) rfl ?_
                            refine G_goto 20 dr_cX17_rename_141 (by decide +kernel) ?_
                            refine G_lv (L' := [(5, .int z396562), (4, .ref q395196), (3, .int g395133), (0, .ref q369987), (1, .int p369988), (2, .int p369989)]) [0, 2, 3, 4, 5, 6] rfl ?_
                            exact ih20_396105 F396532 z396562 (gB_w bz396562 (by decide) (by decide)) hT396545 hs396541 (fun N hv hu hp => rPl_put hT396101 htq369987 rfl (x396103 N hv hu hp) of396546 hp396145 nb396148 hL396146 (fun _ _ _ _ z => z) (rNx_ren he396150 he396540 hu hv (Or.inr rfl) (Or.inr rfl) (Or.inl rfl) (by rw [← hp396145]; exact x396103 N hv hu hp _ nb396148 _ hL396146))) fk396543 fs396542 (fun k e1 ht => kt20_396106 k e1 (fun R c1 c2 c3 c4 c5 c6 c7 c8 c9 c10 c11 c12 c13 c14 c15 c16 c17 c18 c19 c20 c21 c22 c23 c24 c25 c26 c27 c28 c29 c30 c31 c32 c33 c34 c35 c36 c37 c38 c39 c40 c41 c42 c43 c44 c45 c46 c47 c48 c49 c50 c51 c52 c53 c54 c55 => c27 F396100 g396099 q395206 p396117 q395207 p396151 p396156 o396170 p396153 F396436 p396157 o396458 p396154 F396532 o396553 p396152 z396562 k e1 bg396099 hT396101 hs396102 x396103 x396104 x396105 fq396113 fq396124 fq396125 r396135 fq396136 r396143 fq396144 fq396163 fq396164 bo396170 ht396172 r396303 fq396304 r396435 n396438 fq396448 fq396451 fq396452 bo396458 ht396460 r396495 fq396496 r396531 n396534 fq396544 fq396547 bo396553 ht396554 r396558 fq396559 r396561 ez396562 (ht R c1 c2 c3 c4 c5 c6 c7 c8 c9 c10 c11 c12 c13 c14 c15 c16 c17 c18 c19 c20 c21 c22 c23 c24 c25 c26 c27 c28 c29 c30 c31 c32 c33 c34 c35 c36 c37 c38 c39 c40 c41 c42 c43 c44 c45 c46 c47 c48 c49 c50 c51 c52 c53 c54 c55))) (mz_up ez396562 (Int.le_trans bg396099'.2 (by decide)) hm20_396105)
                          · have r396563 : p396152.toInt = p369988.toInt := gC_eq hc396560
                            refine G_aload 0 dr_cX17_rename_132 rfl ?_
                            refine G_iload_n 6 dr_cX17_rename_134 rfl ?_
                            refine Gp_put 1 hm396149 he396540 dr_cX17_rename_135 (gk_X15 D I) (Nat.le_of_ble_eq_true rfl) wr_9_182 rfl rfl rfl (Nat.le_of_ble_eq_true rfl) (fun F396564 e396565 n396566 => ?_)
                            have he396567 : F396564 q369987 = .inr (18, [.ref q395145, .ref q395146, .int p395147, .int p395148]) := (n396566 q369987 (rn_oo he396535 he396540 (by decide))).trans he396535
                            have he396568 : F396564 q395145 = .inr (4, [.int p395177, .ref q395179, .int p395178]) := (n396566 q395145 (rn_oo he396536 he396540 (by decide))).trans he396536
                            have he396569 : F396564 q395179 = .inl (I (.object "java/lang/Object"), n395193, .inr (.inr (.inr (.inr f395194)))) := (n396566 q395179 (rn_ao he396537 he396540)).trans he396537
                            have he396570 : F396564 q395196 = .inr (17, [.ref q395206, .ref q395207, .int p395208, .int p395209]) := (n396566 q395196 (rn_oo he396538 he396540 (by decide))).trans he396538
                            have he396571 : F396564 q395206 = .inr (4, [.int p396116, .ref q396118, .int p396117]) := (n396566 q395206 (rn_oo he396539 he396540 (by decide))).trans he396539
                            have he396572 : F396564 q395207 = .inr (20, [.int p396151, .int p369989, .int p369989, .int p369989, .int p396155, .int p396156, .int p396157]) := e396565
                            have hs396573 : rStr γ [1] F369986 F396564 := rStr_pu2 hs396541 n396566 ht395212 (by decide)
                            have fs396574 : rFs γ (γ 1 q369987) F369986 F396564 := rFs_put fs396542 n396566 ((show γ 1 q395207 = γ 1 q395196 from ht395213).trans ((show γ 1 q395196 = γ 1 q395145 from ht395203).trans (show γ 1 q395145 = γ 1 q369987 from ht395150)))
                            have fk396575 : rFk [1] γ F369986 F396564 := rFk_put fk396543 n396566 ht395212 (by decide)
                            have fq396576 : F396564 q395207 = cF (F396532 q395207) 1 (.int p369989) := by rw [he396572, he396540]; rfl
                            obtain ⟨z396577, hz396577⟩ : ∃ z : Int32, z = g396099 + Int32.ofInt 1 := ⟨_, rfl⟩
                            have ez396577 : z396577.toInt = g396099.toInt + 1 := gI_inc hz396577 (by decide) bg396099' (by decide) (by decide)
                            have bz396577 : gB z396577 1 1000001 := ⟨by omega, by omega⟩
                            refine G_iinc (L' := [(5, .int z396577), (6, .ref q395207), (4, .ref q395196), (3, .int g395133), (0, .ref q369987), (1, .int p369988), (2, .int p369989)]) z396577 1 dr_cX17_rename_138 rfl hz396577.symm (Nat.le_of_ble_eq_true rfl) rfl ?_
                            refine G_goto 20 dr_cX17_rename_141 (by decide +kernel) ?_
                            have hT396578 : RS D I P369985 F396564 γ el := RS_set hT396545 n396566 ht395212 (by decide) ⟨p396151, p369989, p369989, p369989, p396155, p396156, p396157, he396572, bp396151, bp369989, bp396155, bp396156, bp396157, r396158, (Or.inr bp369989), (Or.inr bp369989), r396161, r396162⟩
                            have of396579 : ∀ b, b ≠ q395207 → F396564 b = F396100 b := fun b hb => (n396566 b hb).trans (of396546 b hb)
                            refine G_lv (L' := [(5, .int z396577), (4, .ref q395196), (3, .int g395133), (0, .ref q369987), (1, .int p369988), (2, .int p369989)]) [0, 2, 3, 4, 5, 6] rfl ?_
                            exact ih20_396105 F396564 z396577 (gB_w bz396577 (by decide) (by decide)) hT396578 hs396573 (fun N hv hu hp => rPl_put hT396101 htq369987 rfl (x396103 N hv hu hp) of396579 hp396145 nb396148 hL396146 (fun _ _ _ _ z => z) (rNx_ren he396150 he396572 hu hv (Or.inr rfl) (Or.inr rfl) (Or.inr ⟨rfl, by first | assumption | omega⟩) (by rw [← hp396145]; exact x396103 N hv hu hp _ nb396148 _ hL396146))) fk396575 fs396574 (fun k e1 ht => kt20_396106 k e1 (fun R c1 c2 c3 c4 c5 c6 c7 c8 c9 c10 c11 c12 c13 c14 c15 c16 c17 c18 c19 c20 c21 c22 c23 c24 c25 c26 c27 c28 c29 c30 c31 c32 c33 c34 c35 c36 c37 c38 c39 c40 c41 c42 c43 c44 c45 c46 c47 c48 c49 c50 c51 c52 c53 c54 c55 => c28 F396100 g396099 q395206 p396117 q395207 p396151 p396156 o396170 p396153 F396436 p396157 o396458 p396154 F396532 o396553 p396152 F396564 z396577 k e1 bg396099 hT396101 hs396102 x396103 x396104 x396105 fq396113 fq396124 fq396125 r396135 fq396136 r396143 fq396144 fq396163 fq396164 bo396170 ht396172 r396303 fq396304 r396435 n396438 fq396448 fq396451 fq396452 bo396458 ht396460 r396495 fq396496 r396531 n396534 fq396544 fq396547 bo396553 ht396554 r396558 fq396559 r396563 n396566 fq396576 ez396577 (ht R c1 c2 c3 c4 c5 c6 c7 c8 c9 c10 c11 c12 c13 c14 c15 c16 c17 c18 c19 c20 c21 c22 c23 c24 c25 c26 c27 c28 c29 c30 c31 c32 c33 c34 c35 c36 c37 c38 c39 c40 c41 c42 c43 c44 c45 c46 c47 c48 c49 c50 c51 c52 c53 c54 c55))) (mz_up ez396577 (Int.le_trans bg396099'.2 (by decide)) hm20_396105)
              · have r396580 : g396099.toInt < p396117.toInt := gC_nle hc396142
                have bg396099'' : gB g396099 0 999999 := ⟨by omega, by omega⟩
                have bp396117' : gB p396117 1 1000000 := ⟨by omega, by omega⟩
                refine G_aload 1 dr_cX17_rename_46 rfl ?_
                refine Gp_get 0 hm395204 he396111 dr_cX17_rename_48 (gk_X12 D I) (Nat.le_of_ble_eq_true rfl) wr_9_220 rfl ?_
                refine G_iload 0 dr_cX17_rename_51 rfl ?_
                obtain ⟨r396581, r396582, n396589, f396590, r396583, r396584, r396585, r396586, r396587, r396588⟩ := rLC_n r396121 (by omega)
                have hm396591 : q396118 ∈ P369985 := RS_m hT396101 r396581 (by decide)
                obtain ⟨q396592, hx396593⟩ : ∃ x, x = el q395206 g396099.toInt.toNat := ⟨_, rfl⟩
                have hx396594 : f396590 g396099.toNatClampNeg = some q396592 := (r396587 _ (show g396099.toInt.toNat < γ 2 q395206 by omega)).trans (by rw [hx396593])
                have ht396595 : rKd γ q396592 1 := by rw [hx396593]; exact (r396122 _ (show g396099.toInt.toNat < γ 2 q395206 by omega)).1
                have ht396596 : rFm γ q396592 q395206 := by rw [hx396593]; exact (r396122 _ (show g396099.toInt.toNat < γ 2 q395206 by omega)).2.1
                refine Gw_callV (As := [.int g396099]) (gV_ok D I) (cp_22_ArrayList_get l hl0 D I P369985 F396100 q395206 q396118 g396099 p396116 p396117 f396590 n396589 q396592 hm396114 hm396591 he396115 r396583 (gB_w bg396099'' (by decide) (by decide)) (gB_w bp396117' (by decide) (by decide)) (by omega) (by omega) (by assumption) (by omega)) dr_cX17_rename_53 ⟨wr_10_201, wr_1_18, wr_10_65, by decide, rfl, (Nat.le_of_ble_eq_true rfl), (Nat.le_of_ble_eq_true rfl)⟩ wr_10_63 wr_10_64 hm396114 he396115 rfl (show 0 + 0 ≤ 0 by first | omega | decide) (show 0 + 0 ≤ 0 by first | omega | decide) (Nat.le_of_ble_eq_true rfl) (fun r396600 w396601 dc396597 ds396598 hp396599 => ?_) (fun _ _ _ _ _ z => z.elim)
                obtain ⟨rfl, rfl, hdc, hds, ht396602⟩ := hp396599
                change G _ _ _ _ _ _ _ (.ref q396592 :: _) _ _ _
                refine G_widen (cs' := 0) (sl' := 0) (by omega) (by omega) ?_
                have hm396603 : q396592 ∈ P369985 := RS_m hT396101 ht396595 (by decide)
                obtain ⟨p396605, p396606, p396607, p396608, p396609, p396610, p396611, he396604, bp396605, bp396606, bp396609, bp396610, bp396611, r396612, r396613, r396614, r396615, r396616⟩ := show rk_1 γ q396592 (F396100 q396592) from RS_o hT396101 ht396595
                have bp396607 := gB_any p396607
                have bp396608 := gB_any p396608
                refine Gp_cast hm396603 he396604 rfl dr_cX17_rename_56 wr_10_202 (gr_cast 1 rfl) ?_
                refine G_goto 67 dr_cX17_rename_59 (by decide +kernel) ?_
                have fl396619 : p396117.toInt = γ 2 q395206 := r396119
                have hp396617 : rAt γ el q369987 (g395133.toInt : Int).toNat (g396099.toInt : Int).toNat = q396592 := (rAt_r hb395226 ht395216.1 (by omega)).trans (by rw [hx396593])
                have hL396618 : (g396099.toInt : Int).toNat ≤ γ 2 (rwL γ el q369987 (g395133.toInt : Int).toNat) := by unfold rwL; rw [hb395226, ht395216.1]; omega
                have nb396620 : (g395133.toInt : Int).toNat < γ 6 (γ 1 q369987) := by omega
                refine G_astore (L' := [(6, .ref q396592), (5, .int g396099), (4, .ref q395196), (3, .int g395133), (0, .ref q369987), (1, .int p369988), (2, .int p369989)]) dr_cX17_rename_67 (Nat.le_of_ble_eq_true rfl) rfl ?_
                refine G_aload 0 dr_cX17_rename_69 rfl ?_
                have fq396621 : fI (F396100 q396592) 0 = p396605 := by rw [he396604]; rfl
                have fq396622 : fI (F396100 q396592) 5 = p396610 := by rw [he396604]; rfl
                refine Gw_callV (As := []) (gV_ok D I) (cp_1675_Row_usesA l hl0 D I P369985 F396100 q396592 p396605 p396606 p396607 p396608 p396609 p396610 p396611 hm396603 he396604 bp396605 bp396606 bp396609 bp396610 bp396611) dr_cX17_rename_71 ⟨wr_10_192, wr_1_39, wr_10_195, by decide, rfl, (Nat.le_of_ble_eq_true rfl), (Nat.le_of_ble_eq_true rfl)⟩ wr_10_193 wr_10_194 hm396603 he396604 rfl (show 0 + 0 ≤ 0 by first | omega | decide) (show 0 + 0 ≤ 0 by first | omega | decide) (Nat.le_of_ble_eq_true rfl) (fun r396626 w396627 dc396623 ds396624 hp396625 => ?_) (fun _ _ _ _ _ z => z.elim)
                obtain ⟨o396628, rfl, rfl, hdc, hds, bo396628, x396629, ht396630⟩ := hp396625
                change G _ _ _ _ _ _ _ (.int o396628 :: _) _ _ _
                refine G_widen (cs' := 0) (sl' := 0) (by omega) (by omega) ?_
                refine G_if_eq 92 dr_cX17_rename_74 (by decide +kernel) (fun hc396631 => ?_) (fun hc396631 => ?_)
                · have r396632 : o396628.toInt = 0 := gj_eq hc396631 (show Int32.toInt 0 = 0 by decide)
                  have bo396628' : gB o396628 0 0 := gB_t0 r396632
                  refine G_aload 0 dr_cX17_rename_92 rfl ?_
                  have fq396633 : fI (F396100 q396592) 6 = p396611 := by rw [he396604]; rfl
                  refine Gw_callV (As := []) (gV_ok D I) (cp_1699_Row_usesB l hl0 D I P369985 F396100 q396592 p396605 p396606 p396607 p396608 p396609 p396610 p396611 hm396603 he396604 bp396605 bp396606 bp396609 bp396610 bp396611) dr_cX17_rename_94 ⟨wr_10_196, wr_1_39, wr_10_199, by decide, rfl, (Nat.le_of_ble_eq_true rfl), (Nat.le_of_ble_eq_true rfl)⟩ wr_10_197 wr_10_198 hm396603 he396604 rfl (show 0 + 0 ≤ 0 by first | omega | decide) (show 0 + 0 ≤ 0 by first | omega | decide) (Nat.le_of_ble_eq_true rfl) (fun r396637 w396638 dc396634 ds396635 hp396636 => ?_) (fun _ _ _ _ _ z => z.elim)
                  obtain ⟨o396639, rfl, rfl, hdc, hds, bo396639, x396640, ht396641⟩ := hp396636
                  change G _ _ _ _ _ _ _ (.int o396639 :: _) _ _ _
                  refine G_widen (cs' := 0) (sl' := 0) (by omega) (by omega) ?_
                  refine G_if_eq 115 dr_cX17_rename_97 (by decide +kernel) (fun hc396642 => ?_) (fun hc396642 => ?_)
                  · have r396643 : o396639.toInt = 0 := gj_eq hc396642 (show Int32.toInt 0 = 0 by decide)
                    have bo396639' : gB o396639 0 0 := gB_t0 r396643
                    refine G_aload 0 dr_cX17_rename_115 rfl ?_
                    refine Gw_callV (As := []) (gV_ok D I) (cp_1660_Row_sets l hl0 D I P369985 F396100 q396592 p396605 p396606 p396607 p396608 p396609 p396610 p396611 hm396603 he396604 bp396605 bp396606 bp396609 bp396610 bp396611) dr_cX17_rename_117 ⟨wr_10_181, wr_1_39, wr_10_184, by decide, rfl, (Nat.le_of_ble_eq_true rfl), (Nat.le_of_ble_eq_true rfl)⟩ wr_10_182 wr_10_183 hm396603 he396604 rfl (show 0 + 0 ≤ 0 by first | omega | decide) (show 0 + 0 ≤ 0 by first | omega | decide) (Nat.le_of_ble_eq_true rfl) (fun r396647 w396648 dc396644 ds396645 hp396646 => ?_) (fun _ _ _ _ _ z => z.elim)
                    obtain ⟨o396649, rfl, rfl, hdc, hds, bo396649, ht396650⟩ := hp396646
                    change G _ _ _ _ _ _ _ (.int o396649 :: _) _ _ _
                    refine G_widen (cs' := 0) (sl' := 0) (by omega) (by omega) ?_
                    refine G_if_eq 138 dr_cX17_rename_120 (by decide +kernel) (fun hc396651 => ?_) (fun hc396651 => ?_)
                    · have r396652 : o396649.toInt = 0 := gj_eq hc396651 (show Int32.toInt 0 = 0 by decide)
                      have bo396649' : gB o396649 0 0 := gB_t0 r396652
                      obtain ⟨z396653, hz396653⟩ : ∃ z : Int32, z = g396099 + Int32.ofInt 1 := ⟨_, rfl⟩
                      have ez396653 : z396653.toInt = g396099.toInt + 1 := gI_inc hz396653 (by decide) bg396099'' (by decide) (by decide)
                      have bz396653 : gB z396653 1 1000000 := ⟨by omega, by omega⟩
                      refine G_iinc (L' := [(5, .int z396653), (6, .ref q396592), (4, .ref q395196), (3, .int g395133), (0, .ref q369987), (1, .int p369988), (2, .int p369989)]) z396653 1 dr_cX17_rename_138 rfl hz396653.symm (Nat.le_of_ble_eq_true rfl) rfl ?_
                      refine G_goto 20 dr_cX17_rename_141 (by decide +kernel) ?_
                      refine G_lv (L' := [(5, .int z396653), (4, .ref q395196), (3, .int g395133), (0, .ref q369987), (1, .int p369988), (2, .int p369989)]) [0, 2, 3, 4, 5, 6] rfl ?_
                      exact ih20_396105 F396100 z396653 (gB_w bz396653 (by decide) (by decide)) hT396101 hs396102 x396103 x396104 x396105 (fun k e1 ht => kt20_396106 k e1 (fun R c1 c2 c3 c4 c5 c6 c7 c8 c9 c10 c11 c12 c13 c14 c15 c16 c17 c18 c19 c20 c21 c22 c23 c24 c25 c26 c27 c28 c29 c30 c31 c32 c33 c34 c35 c36 c37 c38 c39 c40 c41 c42 c43 c44 c45 c46 c47 c48 c49 c50 c51 c52 c53 c54 c55 => c29 F396100 g396099 q395206 p396117 q396592 p396605 p396610 o396628 p396611 o396639 o396649 z396653 k e1 bg396099 hT396101 hs396102 x396103 x396104 x396105 fq396113 fq396124 fq396125 r396135 fq396136 r396580 hx396593 ht396602 fq396621 fq396622 bo396628 ht396630 r396632 fq396633 bo396639 ht396641 r396643 bo396649 ht396650 r396652 ez396653 (ht R c1 c2 c3 c4 c5 c6 c7 c8 c9 c10 c11 c12 c13 c14 c15 c16 c17 c18 c19 c20 c21 c22 c23 c24 c25 c26 c27 c28 c29 c30 c31 c32 c33 c34 c35 c36 c37 c38 c39 c40 c41 c42 c43 c44 c45 c46 c47 c48 c49 c50 c51 c52 c53 c54 c55))) (mz_up ez396653 (Int.le_trans bg396099''.2 (by decide)) hm20_396105)
                    · have r396654 : o396649.toInt ≠ 0 := gj_neq hc396651 (show Int32.toInt 0 = 0 by decide)
                      have bo396649' : gB o396649 1 1 := gB_t1 bo396649 r396654
                      refine G_aload 0 dr_cX17_rename_123 rfl ?_
                      have fq396655 : fI (F396100 q396592) 1 = p396606 := by rw [he396604]; rfl
                      refine Gp_get 1 hm396603 he396604 dr_cX17_rename_125 (gk_X15 D I) (Nat.le_of_ble_eq_true rfl) wr_9_182 rfl ?_
                      refine G_iload_n 5 dr_cX17_rename_128 rfl ?_
                      refine G_icmp_ne 138 dr_cX17_rename_129 (by decide +kernel) (fun hc396656 => ?_) (fun hc396656 => ?_)
                      · have r396657 : p396606.toInt ≠ p369988.toInt := gC_ne hc396656
                        obtain ⟨z396658, hz396658⟩ : ∃ z : Int32, z = g396099 + Int32.ofInt 1 := ⟨_, rfl⟩
                        have ez396658 : z396658.toInt = g396099.toInt + 1 := gI_inc hz396658 (by decide) bg396099'' (by decide) (by decide)
                        have bz396658 : gB z396658 1 1000000 := ⟨by omega, by omega⟩
                        refine G_iinc (L' := [(5, .int z396658), (6, .ref q396592), (4, .ref q395196), (3, .int g395133), (0, .ref q369987), (1, .int p369988), (2, .int p369989)]) z396658 1 dr_cX17_rename_138 rfl hz396658.symm (Nat.le_of_ble_eq_true rfl) rfl ?_
                        refine G_goto 20 dr_cX17_rename_141 (by decide +kernel) ?_
                        refine G_lv (L' := [(5, .int z396658), (4, .ref q395196), (3, .int g395133), (0, .ref q369987), (1, .int p369988), (2, .int p369989)]) [0, 2, 3, 4, 5, 6] rfl ?_
                        exact ih20_396105 F396100 z396658 (gB_w bz396658 (by decide) (by decide)) hT396101 hs396102 x396103 x396104 x396105 (fun k e1 ht => kt20_396106 k e1 (fun R c1 c2 c3 c4 c5 c6 c7 c8 c9 c10 c11 c12 c13 c14 c15 c16 c17 c18 c19 c20 c21 c22 c23 c24 c25 c26 c27 c28 c29 c30 c31 c32 c33 c34 c35 c36 c37 c38 c39 c40 c41 c42 c43 c44 c45 c46 c47 c48 c49 c50 c51 c52 c53 c54 c55 => c30 F396100 g396099 q395206 p396117 q396592 p396605 p396610 o396628 p396611 o396639 o396649 p396606 z396658 k e1 bg396099 hT396101 hs396102 x396103 x396104 x396105 fq396113 fq396124 fq396125 r396135 fq396136 r396580 hx396593 ht396602 fq396621 fq396622 bo396628 ht396630 r396632 fq396633 bo396639 ht396641 r396643 bo396649 ht396650 r396654 fq396655 r396657 ez396658 (ht R c1 c2 c3 c4 c5 c6 c7 c8 c9 c10 c11 c12 c13 c14 c15 c16 c17 c18 c19 c20 c21 c22 c23 c24 c25 c26 c27 c28 c29 c30 c31 c32 c33 c34 c35 c36 c37 c38 c39 c40 c41 c42 c43 c44 c45 c46 c47 c48 c49 c50 c51 c52 c53 c54 c55))) (mz_up ez396658 (Int.le_trans bg396099''.2 (by decide)) hm20_396105)
                      · have r396659 : p396606.toInt = p369988.toInt := gC_eq hc396656
                        refine G_aload 0 dr_cX17_rename_132 rfl ?_
                        refine G_iload_n 6 dr_cX17_rename_134 rfl ?_
                        refine Gp_put 1 hm396603 he396604 dr_cX17_rename_135 (gk_X15 D I) (Nat.le_of_ble_eq_true rfl) wr_9_182 rfl rfl rfl (Nat.le_of_ble_eq_true rfl) (fun F396660 e396661 n396662 => ?_)
                        have he396663 : F396660 q369987 = .inr (18, [.ref q395145, .ref q395146, .int p395147, .int p395148]) := (n396662 q369987 (rn_oo he396108 he396604 (by decide))).trans he396108
                        have he396664 : F396660 q395145 = .inr (4, [.int p395177, .ref q395179, .int p395178]) := (n396662 q395145 (rn_oo he396109 he396604 (by decide))).trans he396109
                        have he396665 : F396660 q395179 = .inl (I (.object "java/lang/Object"), n395193, .inr (.inr (.inr (.inr f395194)))) := (n396662 q395179 (rn_ao he396110 he396604)).trans he396110
                        have he396666 : F396660 q395196 = .inr (17, [.ref q395206, .ref q395207, .int p395208, .int p395209]) := (n396662 q395196 (rn_oo he396111 he396604 (by decide))).trans he396111
                        have he396667 : F396660 q395206 = .inr (4, [.int p396116, .ref q396118, .int p396117]) := (n396662 q395206 (rn_oo he396115 he396604 (by decide))).trans he396115
                        have he396668 : F396660 q396118 = .inl (I (.object "java/lang/Object"), n396589, .inr (.inr (.inr (.inr f396590)))) := (n396662 q396118 (rn_ao r396583 he396604)).trans r396583
                        have he396669 : F396660 q396592 = .inr (20, [.int p396605, .int p369989, .int p396607, .int p396608, .int p396609, .int p396610, .int p396611]) := e396661
                        have hs396670 : rStr γ [1] F369986 F396660 := rStr_pu2 hs396102 n396662 ht396595 (by decide)
                        have fs396671 : rFs γ (γ 1 q369987) F369986 F396660 := rFs_put x396105 n396662 ((show γ 1 q396592 = γ 1 q395206 from ht396596).trans ((show γ 1 q395206 = γ 1 q395196 from ht395211).trans ((show γ 1 q395196 = γ 1 q395145 from ht395203).trans (show γ 1 q395145 = γ 1 q369987 from ht395150))))
                        have fk396672 : rFk [1] γ F369986 F396660 := rFk_put x396104 n396662 ht396595 (by decide)
                        have fq396673 : F396660 q396592 = cF (F396100 q396592) 1 (.int p369989) := by rw [he396669, he396604]; rfl
                        obtain ⟨z396674, hz396674⟩ : ∃ z : Int32, z = g396099 + Int32.ofInt 1 := ⟨_, rfl⟩
                        have ez396674 : z396674.toInt = g396099.toInt + 1 := gI_inc hz396674 (by decide) bg396099'' (by decide) (by decide)
                        have bz396674 : gB z396674 1 1000000 := ⟨by omega, by omega⟩
                        refine G_iinc (L' := [(5, .int z396674), (6, .ref q396592), (4, .ref q395196), (3, .int g395133), (0, .ref q369987), (1, .int p369988), (2, .int p369989)]) z396674 1 dr_cX17_rename_138 rfl hz396674.symm (Nat.le_of_ble_eq_true rfl) rfl ?_
                        refine G_goto 20 dr_cX17_rename_141 (by decide +kernel) ?_
                        have hT396675 : RS D I P369985 F396660 γ el := RS_set hT396101 n396662 ht396595 (by decide) ⟨p396605, p369989, p396607, p396608, p396609, p396610, p396611, he396669, bp396605, bp369989, bp396609, bp396610, bp396611, r396612, r396613, r396614, r396615, r396616⟩
                        refine G_lv (L' := [(5, .int z396674), (4, .ref q395196), (3, .int g395133), (0, .ref q369987), (1, .int p369988), (2, .int p369989)]) [0, 2, 3, 4, 5, 6] rfl ?_
                        exact ih20_396105 F396660 z396674 (gB_w bz396674 (by decide) (by decide)) hT396675 hs396670 (fun N hv hu hp => rPl_put hT396101 htq369987 rfl (x396103 N hv hu hp) n396662 hp396617 nb396620 hL396618 (fun _ _ _ _ z => z) (rNx_ren he396604 he396669 hu hv (Or.inl rfl) (Or.inl rfl) (Or.inr ⟨rfl, by first | assumption | omega⟩) (by rw [← hp396617]; exact x396103 N hv hu hp _ nb396620 _ hL396618))) fk396672 fs396671 (fun k e1 ht => kt20_396106 k e1 (fun R c1 c2 c3 c4 c5 c6 c7 c8 c9 c10 c11 c12 c13 c14 c15 c16 c17 c18 c19 c20 c21 c22 c23 c24 c25 c26 c27 c28 c29 c30 c31 c32 c33 c34 c35 c36 c37 c38 c39 c40 c41 c42 c43 c44 c45 c46 c47 c48 c49 c50 c51 c52 c53 c54 c55 => c31 F396100 g396099 q395206 p396117 q396592 p396605 p396610 o396628 p396611 o396639 o396649 p396606 F396660 z396674 k e1 bg396099 hT396101 hs396102 x396103 x396104 x396105 fq396113 fq396124 fq396125 r396135 fq396136 r396580 hx396593 ht396602 fq396621 fq396622 bo396628 ht396630 r396632 fq396633 bo396639 ht396641 r396643 bo396649 ht396650 r396654 fq396655 r396659 n396662 fq396673 ez396674 (ht R c1 c2 c3 c4 c5 c6 c7 c8 c9 c10 c11 c12 c13 c14 c15 c16 c17 c18 c19 c20 c21 c22 c23 c24 c25 c26 c27 c28 c29 c30 c31 c32 c33 c34 c35 c36 c37 c38 c39 c40 c41 c42 c43 c44 c45 c46 c47 c48 c49 c50 c51 c52 c53 c54 c55))) (mz_up ez396674 (Int.le_trans bg396099''.2 (by decide)) hm20_396105)
                  · have r396677 : o396639.toInt ≠ 0 := gj_neq hc396642 (show Int32.toInt 0 = 0 by decide)
                    have bo396639' : gB o396639 1 1 := gB_t1 bo396639 r396677
                    refine G_aload 0 dr_cX17_rename_100 rfl ?_
                    have fq396678 : fI (F396100 q396592) 3 = p396608 := by rw [he396604]; rfl
                    refine Gp_get 3 hm396603 he396604 dr_cX17_rename_102 (gk_X15 D I) (Nat.le_of_ble_eq_true rfl) wr_9_190 rfl ?_
                    refine G_iload_n 5 dr_cX17_rename_105 rfl ?_
                    refine G_icmp_ne 115 dr_cX17_rename_106 (by decide +kernel) (fun hc396679 => ?_) (fun hc396679 => ?_)
                    · have r396680 : p396608.toInt ≠ p369988.toInt := gC_ne hc396679
                      refine G_aload 0 dr_cX17_rename_115 rfl ?_
                      refine Gw_callV (As := []) (gV_ok D I) (cp_1660_Row_sets l hl0 D I P369985 F396100 q396592 p396605 p396606 p396607 p396608 p396609 p396610 p396611 hm396603 he396604 bp396605 bp396606 bp396609 bp396610 bp396611) dr_cX17_rename_117 ⟨wr_10_181, wr_1_39, wr_10_184, by decide, rfl, (Nat.le_of_ble_eq_true rfl), (Nat.le_of_ble_eq_true rfl)⟩ wr_10_182 wr_10_183 hm396603 he396604 rfl (show 0 + 0 ≤ 0 by first | omega | decide) (show 0 + 0 ≤ 0 by first | omega | decide) (Nat.le_of_ble_eq_true rfl) (fun r396684 w396685 dc396681 ds396682 hp396683 => ?_) (fun _ _ _ _ _ z => z.elim)
                      obtain ⟨o396686, rfl, rfl, hdc, hds, bo396686, ht396687⟩ := hp396683
                      change G _ _ _ _ _ _ _ (.int o396686 :: _) _ _ _
                      refine G_widen (cs' := 0) (sl' := 0) (by omega) (by omega) ?_
                      refine G_if_eq 138 dr_cX17_rename_120 (by decide +kernel) (fun hc396688 => ?_) (fun hc396688 => ?_)
                      · have r396689 : o396686.toInt = 0 := gj_eq hc396688 (show Int32.toInt 0 = 0 by decide)
                        have bo396686' : gB o396686 0 0 := gB_t0 r396689
                        obtain ⟨z396690, hz396690⟩ : ∃ z : Int32, z = g396099 + Int32.ofInt 1 := ⟨_, rfl⟩
                        have ez396690 : z396690.toInt = g396099.toInt + 1 := gI_inc hz396690 (by decide) bg396099'' (by decide) (by decide)
                        have bz396690 : gB z396690 1 1000000 := ⟨by omega, by omega⟩
                        refine G_iinc (L' := [(5, .int z396690), (6, .ref q396592), (4, .ref q395196), (3, .int g395133), (0, .ref q369987), (1, .int p369988), (2, .int p369989)]) z396690 1 dr_cX17_rename_138 rfl hz396690.symm (Nat.le_of_ble_eq_true rfl) rfl ?_
                        refine G_goto 20 dr_cX17_rename_141 (by decide +kernel) ?_
                        refine G_lv (L' := [(5, .int z396690), (4, .ref q395196), (3, .int g395133), (0, .ref q369987), (1, .int p369988), (2, .int p369989)]) [0, 2, 3, 4, 5, 6] rfl ?_
                        exact ih20_396105 F396100 z396690 (gB_w bz396690 (by decide) (by decide)) hT396101 hs396102 x396103 x396104 x396105 (fun k e1 ht => kt20_396106 k e1 (fun R c1 c2 c3 c4 c5 c6 c7 c8 c9 c10 c11 c12 c13 c14 c15 c16 c17 c18 c19 c20 c21 c22 c23 c24 c25 c26 c27 c28 c29 c30 c31 c32 c33 c34 c35 c36 c37 c38 c39 c40 c41 c42 c43 c44 c45 c46 c47 c48 c49 c50 c51 c52 c53 c54 c55 => c32 F396100 g396099 q395206 p396117 q396592 p396605 p396610 o396628 p396611 o396639 p396608 o396686 z396690 k e1 bg396099 hT396101 hs396102 x396103 x396104 x396105 fq396113 fq396124 fq396125 r396135 fq396136 r396580 hx396593 ht396602 fq396621 fq396622 bo396628 ht396630 r396632 fq396633 bo396639 ht396641 r396677 fq396678 r396680 bo396686 ht396687 r396689 ez396690 (ht R c1 c2 c3 c4 c5 c6 c7 c8 c9 c10 c11 c12 c13 c14 c15 c16 c17 c18 c19 c20 c21 c22 c23 c24 c25 c26 c27 c28 c29 c30 c31 c32 c33 c34 c35 c36 c37 c38 c39 c40 c41 c42 c43 c44 c45 c46 c47 c48 c49 c50 c51 c52 c53 c54 c55))) (mz_up ez396690 (Int.le_trans bg396099''.2 (by decide)) hm20_396105)
                      · have r396691 : o396686.toInt ≠ 0 := gj_neq hc396688 (show Int32.toInt 0 = 0 by decide)
                        have bo396686' : gB o396686 1 1 := gB_t1 bo396686 r396691
                        refine G_aload 0 dr_cX17_rename_123 rfl ?_
                        have fq396692 : fI (F396100 q396592) 1 = p396606 := by rw [he396604]; rfl
                        refine Gp_get 1 hm396603 he396604 dr_cX17_rename_125 (gk_X15 D I) (Nat.le_of_ble_eq_true rfl) wr_9_182 rfl ?_
                        refine G_iload_n 5 dr_cX17_rename_128 rfl ?_
                        refine G_icmp_ne 138 dr_cX17_rename_129 (by decide +kernel) (fun hc396693 => ?_) (fun hc396693 => ?_)
                        · have r396694 : p396606.toInt ≠ p369988.toInt := gC_ne hc396693
                          obtain ⟨z396695, hz396695⟩ : ∃ z : Int32, z = g396099 + Int32.ofInt 1 := ⟨_, rfl⟩
                          have ez396695 : z396695.toInt = g396099.toInt + 1 := gI_inc hz396695 (by decide) bg396099'' (by decide) (by decide)
                          have bz396695 : gB z396695 1 1000000 := ⟨by omega, by omega⟩
                          refine G_iinc (L' := [(5, .int z396695), (6, .ref q396592), (4, .ref q395196), (3, .int g395133), (0, .ref q369987), (1, .int p369988), (2, .int p369989)]) z396695 1 dr_cX17_rename_138 rfl hz396695.symm (Nat.le_of_ble_eq_true rfl) rfl ?_
                          refine G_goto 20 dr_cX17_rename_141 (by decide +kernel) ?_
                          refine G_lv (L' := [(5, .int z396695), (4, .ref q395196), (3, .int g395133), (0, .ref q369987), (1, .int p369988), (2, .int p369989)]) [0, 2, 3, 4, 5, 6] rfl ?_
                          exact ih20_396105 F396100 z396695 (gB_w bz396695 (by decide) (by decide)) hT396101 hs396102 x396103 x396104 x396105 (fun k e1 ht => kt20_396106 k e1 (fun R c1 c2 c3 c4 c5 c6 c7 c8 c9 c10 c11 c12 c13 c14 c15 c16 c17 c18 c19 c20 c21 c22 c23 c24 c25 c26 c27 c28 c29 c30 c31 c32 c33 c34 c35 c36 c37 c38 c39 c40 c41 c42 c43 c44 c45 c46 c47 c48 c49 c50 c51 c52 c53 c54 c55 => c33 F396100 g396099 q395206 p396117 q396592 p396605 p396610 o396628 p396611 o396639 p396608 o396686 p396606 z396695 k e1 bg396099 hT396101 hs396102 x396103 x396104 x396105 fq396113 fq396124 fq396125 r396135 fq396136 r396580 hx396593 ht396602 fq396621 fq396622 bo396628 ht396630 r396632 fq396633 bo396639 ht396641 r396677 fq396678 r396680 bo396686 ht396687 r396691 fq396692 r396694 ez396695 (ht R c1 c2 c3 c4 c5 c6 c7 c8 c9 c10 c11 c12 c13 c14 c15 c16 c17 c18 c19 c20 c21 c22 c23 c24 c25 c26 c27 c28 c29 c30 c31 c32 c33 c34 c35 c36 c37 c38 c39 c40 c41 c42 c43 c44 c45 c46 c47 c48 c49 c50 c51 c52 c53 c54 c55))) (mz_up ez396695 (Int.le_trans bg396099''.2 (by decide)) hm20_396105)
                        · have r396696 : p396606.toInt = p369988.toInt := gC_eq hc396693
                          refine G_aload 0 dr_cX17_rename_132 rfl ?_
                          refine G_iload_n 6 dr_cX17_rename_134 rfl ?_
                          refine Gp_put 1 hm396603 he396604 dr_cX17_rename_135 (gk_X15 D I) (Nat.le_of_ble_eq_true rfl) wr_9_182 rfl rfl rfl (Nat.le_of_ble_eq_true rfl) (fun F396697 e396698 n396699 => ?_)
                          have he396700 : F396697 q369987 = .inr (18, [.ref q395145, .ref q395146, .int p395147, .int p395148]) := (n396699 q369987 (rn_oo he396108 he396604 (by decide))).trans he396108
                          have he396701 : F396697 q395145 = .inr (4, [.int p395177, .ref q395179, .int p395178]) := (n396699 q395145 (rn_oo he396109 he396604 (by decide))).trans he396109
                          have he396702 : F396697 q395179 = .inl (I (.object "java/lang/Object"), n395193, .inr (.inr (.inr (.inr f395194)))) := (n396699 q395179 (rn_ao he396110 he396604)).trans he396110
                          have he396703 : F396697 q395196 = .inr (17, [.ref q395206, .ref q395207, .int p395208, .int p395209]) := (n396699 q395196 (rn_oo he396111 he396604 (by decide))).trans he396111
                          have he396704 : F396697 q395206 = .inr (4, [.int p396116, .ref q396118, .int p396117]) := (n396699 q395206 (rn_oo he396115 he396604 (by decide))).trans he396115
                          have he396705 : F396697 q396118 = .inl (I (.object "java/lang/Object"), n396589, .inr (.inr (.inr (.inr f396590)))) := (n396699 q396118 (rn_ao r396583 he396604)).trans r396583
                          have he396706 : F396697 q396592 = .inr (20, [.int p396605, .int p369989, .int p396607, .int p396608, .int p396609, .int p396610, .int p396611]) := e396698
                          have hs396707 : rStr γ [1] F369986 F396697 := rStr_pu2 hs396102 n396699 ht396595 (by decide)
                          have fs396708 : rFs γ (γ 1 q369987) F369986 F396697 := rFs_put x396105 n396699 ((show γ 1 q396592 = γ 1 q395206 from ht396596).trans ((show γ 1 q395206 = γ 1 q395196 from ht395211).trans ((show γ 1 q395196 = γ 1 q395145 from ht395203).trans (show γ 1 q395145 = γ 1 q369987 from ht395150))))
                          have fk396709 : rFk [1] γ F369986 F396697 := rFk_put x396104 n396699 ht396595 (by decide)
                          have fq396710 : F396697 q396592 = cF (F396100 q396592) 1 (.int p369989) := by rw [he396706, he396604]; rfl
                          obtain ⟨z396711, hz396711⟩ : ∃ z : Int32, z = g396099 + Int32.ofInt 1 := ⟨_, rfl⟩
                          have ez396711 : z396711.toInt = g396099.toInt + 1 := gI_inc hz396711 (by decide) bg396099'' (by decide) (by decide)
                          have bz396711 : gB z396711 1 1000000 := ⟨by omega, by omega⟩
                          refine G_iinc (L' := [(5, .int z396711), (6, .ref q396592), (4, .ref q395196), (3, .int g395133), (0, .ref q369987), (1, .int p369988), (2, .int p369989)]) z396711 1 dr_cX17_rename_138 rfl hz396711.symm (Nat.le_of_ble_eq_true rfl) rfl ?_
                          refine G_goto 20 dr_cX17_rename_141 (by decide +kernel) ?_
                          have hT396712 : RS D I P369985 F396697 γ el := RS_set hT396101 n396699 ht396595 (by decide) ⟨p396605, p369989, p396607, p396608, p396609, p396610, p396611, he396706, bp396605, bp369989, bp396609, bp396610, bp396611, r396612, r396613, r396614, r396615, r396616⟩
                          refine G_lv (L' := [(5, .int z396711), (4, .ref q395196), (3, .int g395133), (0, .ref q369987), (1, .int p369988), (2, .int p369989)]) [0, 2, 3, 4, 5, 6] rfl ?_
                          exact ih20_396105 F396697 z396711 (gB_w bz396711 (by decide) (by decide)) hT396712 hs396707 (fun N hv hu hp => rPl_put hT396101 htq369987 rfl (x396103 N hv hu hp) n396699 hp396617 nb396620 hL396618 (fun _ _ _ _ z => z) (rNx_ren he396604 he396706 hu hv (Or.inl rfl) (Or.inl rfl) (Or.inr ⟨rfl, by first | assumption | omega⟩) (by rw [← hp396617]; exact x396103 N hv hu hp _ nb396620 _ hL396618))) fk396709 fs396708 (fun k e1 ht => kt20_396106 k e1 (fun R c1 c2 c3 c4 c5 c6 c7 c8 c9 c10 c11 c12 c13 c14 c15 c16 c17 c18 c19 c20 c21 c22 c23 c24 c25 c26 c27 c28 c29 c30 c31 c32 c33 c34 c35 c36 c37 c38 c39 c40 c41 c42 c43 c44 c45 c46 c47 c48 c49 c50 c51 c52 c53 c54 c55 => c34 F396100 g396099 q395206 p396117 q396592 p396605 p396610 o396628 p396611 o396639 p396608 o396686 p396606 F396697 z396711 k e1 bg396099 hT396101 hs396102 x396103 x396104 x396105 fq396113 fq396124 fq396125 r396135 fq396136 r396580 hx396593 ht396602 fq396621 fq396622 bo396628 ht396630 r396632 fq396633 bo396639 ht396641 r396677 fq396678 r396680 bo396686 ht396687 r396691 fq396692 r396696 n396699 fq396710 ez396711 (ht R c1 c2 c3 c4 c5 c6 c7 c8 c9 c10 c11 c12 c13 c14 c15 c16 c17 c18 c19 c20 c21 c22 c23 c24 c25 c26 c27 c28 c29 c30 c31 c32 c33 c34 c35 c36 c37 c38 c39 c40 c41 c42 c43 c44 c45 c46 c47 c48 c49 c50 c51 c52 c53 c54 c55))) (mz_up ez396711 (Int.le_trans bg396099''.2 (by decide)) hm20_396105)
                    · have r396714 : p396608.toInt = p369988.toInt := gC_eq hc396679
                      have bp396608' : gB p396608 0 1999 := ⟨by omega, by omega⟩
                      refine G_aload 0 dr_cX17_rename_109 rfl ?_
                      refine G_iload_n 6 dr_cX17_rename_111 rfl ?_
                      refine Gp_put 3 hm396603 he396604 dr_cX17_rename_112 (gk_X15 D I) (Nat.le_of_ble_eq_true rfl) wr_9_190 rfl rfl rfl (Nat.le_of_ble_eq_true rfl) (fun F396715 e396716 n396717 => ?_)
                      have he396718 : F396715 q369987 = .inr (18, [.ref q395145, .ref q395146, .int p395147, .int p395148]) := (n396717 q369987 (rn_oo he396108 he396604 (by decide))).trans he396108
                      have he396719 : F396715 q395145 = .inr (4, [.int p395177, .ref q395179, .int p395178]) := (n396717 q395145 (rn_oo he396109 he396604 (by decide))).trans he396109
                      have he396720 : F396715 q395179 = .inl (I (.object "java/lang/Object"), n395193, .inr (.inr (.inr (.inr f395194)))) := (n396717 q395179 (rn_ao he396110 he396604)).trans he396110
                      have he396721 : F396715 q395196 = .inr (17, [.ref q395206, .ref q395207, .int p395208, .int p395209]) := (n396717 q395196 (rn_oo he396111 he396604 (by decide))).trans he396111
                      have he396722 : F396715 q395206 = .inr (4, [.int p396116, .ref q396118, .int p396117]) := (n396717 q395206 (rn_oo he396115 he396604 (by decide))).trans he396115
                      have he396723 : F396715 q396118 = .inl (I (.object "java/lang/Object"), n396589, .inr (.inr (.inr (.inr f396590)))) := (n396717 q396118 (rn_ao r396583 he396604)).trans r396583
                      have he396724 : F396715 q396592 = .inr (20, [.int p396605, .int p396606, .int p396607, .int p369989, .int p396609, .int p396610, .int p396611]) := e396716
                      have hs396725 : rStr γ [1] F369986 F396715 := rStr_pu2 hs396102 n396717 ht396595 (by decide)
                      have fs396726 : rFs γ (γ 1 q369987) F369986 F396715 := rFs_put x396105 n396717 ((show γ 1 q396592 = γ 1 q395206 from ht396596).trans ((show γ 1 q395206 = γ 1 q395196 from ht395211).trans ((show γ 1 q395196 = γ 1 q395145 from ht395203).trans (show γ 1 q395145 = γ 1 q369987 from ht395150))))
                      have fk396727 : rFk [1] γ F369986 F396715 := rFk_put x396104 n396717 ht396595 (by decide)
                      have fq396728 : F396715 q396592 = cF (F396100 q396592) 3 (.int p369989) := by rw [he396724, he396604]; rfl
                      refine G_aload 0 dr_cX17_rename_115 rfl ?_
                      have hT396729 : RS D I P369985 F396715 γ el := RS_set hT396101 n396717 ht396595 (by decide) ⟨p396605, p396606, p396607, p369989, p396609, p396610, p396611, he396724, bp396605, bp396606, bp396609, bp396610, bp396611, r396612, r396613, (Or.inr bp369989), r396615, r396616⟩
                      have fq396731 : fI (F396715 q396592) 0 = p396605 := by rw [he396724]; rfl
                      refine Gw_callV (As := []) (gV_ok D I) (cp_1660_Row_sets l hl0 D I P369985 F396715 q396592 p396605 p396606 p396607 p369989 p396609 p396610 p396611 hm396603 he396724 bp396605 bp396606 bp396609 bp396610 bp396611) dr_cX17_rename_117 ⟨wr_10_181, wr_1_39, wr_10_184, by decide, rfl, (Nat.le_of_ble_eq_true rfl), (Nat.le_of_ble_eq_true rfl)⟩ wr_10_182 wr_10_183 hm396603 he396724 rfl (show 0 + 0 ≤ 0 by first | omega | decide) (show 0 + 0 ≤ 0 by first | omega | decide) (Nat.le_of_ble_eq_true rfl) (fun r396735 w396736 dc396732 ds396733 hp396734 => ?_) (fun _ _ _ _ _ z => z.elim)
                      obtain ⟨o396737, rfl, rfl, hdc, hds, bo396737, ht396738⟩ := hp396734
                      change G _ _ _ _ _ _ _ (.int o396737 :: _) _ _ _
                      refine G_widen (cs' := 0) (sl' := 0) (by omega) (by omega) ?_
                      refine G_if_eq 138 dr_cX17_rename_120 (by decide +kernel) (fun hc396739 => ?_) (fun hc396739 => ?_)
                      · have r396740 : o396737.toInt = 0 := gj_eq hc396739 (show Int32.toInt 0 = 0 by decide)
                        have bo396737' : gB o396737 0 0 := gB_t0 r396740
                        obtain ⟨z396741, hz396741⟩ : ∃ z : Int32, z = g396099 + Int32.ofInt 1 := ⟨_, rfl⟩
                        have ez396741 : z396741.toInt = g396099.toInt + 1 := gI_inc hz396741 (by decide) bg396099'' (by decide) (by decide)
                        have bz396741 : gB z396741 1 1000000 := ⟨by omega, by omega⟩
                        refine G_iinc (L' := [(5, .int z396741), (6, .ref q396592), (4, .ref q395196), (3, .int g395133), (0, .ref q369987), (1, .int p369988), (2, .int p369989)]) z396741 1 dr_cX17_rename_138 rfl hz396741.symm (Nat.le_of_ble_eq_true rfl) rfl ?_
                        refine G_goto 20 dr_cX17_rename_141 (by decide +kernel) ?_
                        refine G_lv (L' := [(5, .int z396741), (4, .ref q395196), (3, .int g395133), (0, .ref q369987), (1, .int p369988), (2, .int p369989)]) [0, 2, 3, 4, 5, 6] rfl ?_
                        exact ih20_396105 F396715 z396741 (gB_w bz396741 (by decide) (by decide)) hT396729 hs396725 (fun N hv hu hp => rPl_put hT396101 htq369987 rfl (x396103 N hv hu hp) n396717 hp396617 nb396620 hL396618 (fun _ _ _ _ z => z) (rNx_ren he396604 he396724 hu hv (Or.inl rfl) (Or.inr rfl) (Or.inl rfl) (by rw [← hp396617]; exact x396103 N hv hu hp _ nb396620 _ hL396618))) fk396727 fs396726 (fun k e1 ht => kt20_396106 k e1 (fun R c1 c2 c3 c4 c5 c6 c7 c8 c9 c10 c11 c12 c13 c14 c15 c16 c17 c18 c19 c20 c21 c22 c23 c24 c25 c26 c27 c28 c29 c30 c31 c32 c33 c34 c35 c36 c37 c38 c39 c40 c41 c42 c43 c44 c45 c46 c47 c48 c49 c50 c51 c52 c53 c54 c55 => c35 F396100 g396099 q395206 p396117 q396592 p396605 p396610 o396628 p396611 o396639 p396608 F396715 o396737 z396741 k e1 bg396099 hT396101 hs396102 x396103 x396104 x396105 fq396113 fq396124 fq396125 r396135 fq396136 r396580 hx396593 ht396602 fq396621 fq396622 bo396628 ht396630 r396632 fq396633 bo396639 ht396641 r396677 fq396678 r396714 n396717 fq396728 fq396731 bo396737 ht396738 r396740 ez396741 (ht R c1 c2 c3 c4 c5 c6 c7 c8 c9 c10 c11 c12 c13 c14 c15 c16 c17 c18 c19 c20 c21 c22 c23 c24 c25 c26 c27 c28 c29 c30 c31 c32 c33 c34 c35 c36 c37 c38 c39 c40 c41 c42 c43 c44 c45 c46 c47 c48 c49 c50 c51 c52 c53 c54 c55))) (mz_up ez396741 (Int.le_trans bg396099''.2 (by decide)) hm20_396105)
                      · have r396742 : o396737.toInt ≠ 0 := gj_neq hc396739 (show Int32.toInt 0 = 0 by decide)
                        have bo396737' : gB o396737 1 1 := gB_t1 bo396737 r396742
                        refine G_aload 0 dr_cX17_rename_123 rfl ?_
                        have fq396743 : fI (F396715 q396592) 1 = p396606 := by rw [he396724]; rfl
                        refine Gp_get 1 hm396603 he396724 dr_cX17_rename_125 (gk_X15 D I) (Nat.le_of_ble_eq_true rfl) wr_9_182 rfl ?_
                        refine G_iload_n 5 dr_cX17_rename_128 rfl ?_
                        refine G_icmp_ne 138 dr_cX17_rename_129 (by decide +kernel) (fun hc396744 => ?_) (fun hc396744 => ?_)
                        · have r396745 : p396606.toInt ≠ p369988.toInt := gC_ne hc396744
                          obtain ⟨z396746, hz396746⟩ : ∃ z : Int32, z = g396099 + Int32.ofInt 1 := ⟨_, rfl⟩
                          have ez396746 : z396746.toInt = g396099.toInt + 1 := gI_inc hz396746 (by decide) bg396099'' (by decide) (by decide)
                          have bz396746 : gB z396746 1 1000000 := ⟨by omega, by omega⟩
                          refine G_iinc (L' := [(5, .int z396746), (6, .ref q396592), (4, .ref q395196), (3, .int g395133), (0, .ref q369987), (1, .int p369988), (2, .int p369989)]) z396746 1 dr_cX17_rename_138 rfl hz396746.symm (Nat.le_of_ble_eq_true rfl) rfl ?_
                          refine G_goto 20 dr_cX17_rename_141 (by decide +kernel) ?_
                          refine G_lv (L' := [(5, .int z396746), (4, .ref q395196), (3, .int g395133), (0, .ref q369987), (1, .int p369988), (2, .int p369989)]) [0, 2, 3, 4, 5, 6] rfl ?_
                          exact ih20_396105 F396715 z396746 (gB_w bz396746 (by decide) (by decide)) hT396729 hs396725 (fun N hv hu hp => rPl_put hT396101 htq369987 rfl (x396103 N hv hu hp) n396717 hp396617 nb396620 hL396618 (fun _ _ _ _ z => z) (rNx_ren he396604 he396724 hu hv (Or.inl rfl) (Or.inr rfl) (Or.inl rfl) (by rw [← hp396617]; exact x396103 N hv hu hp _ nb396620 _ hL396618))) fk396727 fs396726 (fun k e1 ht => kt20_396106 k e1 (fun R c1 c2 c3 c4 c5 c6 c7 c8 c9 c10 c11 c12 c13 c14 c15 c16 c17 c18 c19 c20 c21 c22 c23 c24 c25 c26 c27 c28 c29 c30 c31 c32 c33 c34 c35 c36 c37 c38 c39 c40 c41 c42 c43 c44 c45 c46 c47 c48 c49 c50 c51 c52 c53 c54 c55 => c36 F396100 g396099 q395206 p396117 q396592 p396605 p396610 o396628 p396611 o396639 p396608 F396715 o396737 p396606 z396746 k e1 bg396099 hT396101 hs396102 x396103 x396104 x396105 fq396113 fq396124 fq396125 r396135 fq396136 r396580 hx396593 ht396602 fq396621 fq396622 bo396628 ht396630 r396632 fq396633 bo396639 ht396641 r396677 fq396678 r396714 n396717 fq396728 fq396731 bo396737 ht396738 r396742 fq396743 r396745 ez396746 (ht R c1 c2 c3 c4 c5 c6 c7 c8 c9 c10 c11 c12 c13 c14 c15 c16 c17 c18 c19 c20 c21 c22 c23 c24 c25 c26 c27 c28 c29 c30 c31 c32 c33 c34 c35 c36 c37 c38 c39 c40 c41 c42 c43 c44 c45 c46 c47 c48 c49 c50 c51 c52 c53 c54 c55))) (mz_up ez396746 (Int.le_trans bg396099''.2 (by decide)) hm20_396105)
                        · have r396747 : p396606.toInt = p369988.toInt := gC_eq hc396744
                          refine G_aload 0 dr_cX17_rename_132 rfl ?_
                          refine G_iload_n 6 dr_cX17_rename_134 rfl ?_
                          refine Gp_put 1 hm396603 he396724 dr_cX17_rename_135 (gk_X15 D I) (Nat.le_of_ble_eq_true rfl) wr_9_182 rfl rfl rfl (Nat.le_of_ble_eq_true rfl) (fun F396748 e396749 n396750 => ?_)
                          have he396751 : F396748 q369987 = .inr (18, [.ref q395145, .ref q395146, .int p395147, .int p395148]) := (n396750 q369987 (rn_oo he396718 he396724 (by decide))).trans he396718
                          have he396752 : F396748 q395145 = .inr (4, [.int p395177, .ref q395179, .int p395178]) := (n396750 q395145 (rn_oo he396719 he396724 (by decide))).trans he396719
                          have he396753 : F396748 q395179 = .inl (I (.object "java/lang/Object"), n395193, .inr (.inr (.inr (.inr f395194)))) := (n396750 q395179 (rn_ao he396720 he396724)).trans he396720
                          have he396754 : F396748 q395196 = .inr (17, [.ref q395206, .ref q395207, .int p395208, .int p395209]) := (n396750 q395196 (rn_oo he396721 he396724 (by decide))).trans he396721
                          have he396755 : F396748 q395206 = .inr (4, [.int p396116, .ref q396118, .int p396117]) := (n396750 q395206 (rn_oo he396722 he396724 (by decide))).trans he396722
                          have he396756 : F396748 q396118 = .inl (I (.object "java/lang/Object"), n396589, .inr (.inr (.inr (.inr f396590)))) := (n396750 q396118 (rn_ao he396723 he396724)).trans he396723
                          have he396757 : F396748 q396592 = .inr (20, [.int p396605, .int p369989, .int p396607, .int p369989, .int p396609, .int p396610, .int p396611]) := e396749
                          have hs396758 : rStr γ [1] F369986 F396748 := rStr_pu2 hs396725 n396750 ht396595 (by decide)
                          have fs396759 : rFs γ (γ 1 q369987) F369986 F396748 := rFs_put fs396726 n396750 ((show γ 1 q396592 = γ 1 q395206 from ht396596).trans ((show γ 1 q395206 = γ 1 q395196 from ht395211).trans ((show γ 1 q395196 = γ 1 q395145 from ht395203).trans (show γ 1 q395145 = γ 1 q369987 from ht395150))))
                          have fk396760 : rFk [1] γ F369986 F396748 := rFk_put fk396727 n396750 ht396595 (by decide)
                          have fq396761 : F396748 q396592 = cF (F396715 q396592) 1 (.int p369989) := by rw [he396757, he396724]; rfl
                          obtain ⟨z396762, hz396762⟩ : ∃ z : Int32, z = g396099 + Int32.ofInt 1 := ⟨_, rfl⟩
                          have ez396762 : z396762.toInt = g396099.toInt + 1 := gI_inc hz396762 (by decide) bg396099'' (by decide) (by decide)
                          have bz396762 : gB z396762 1 1000000 := ⟨by omega, by omega⟩
                          refine G_iinc (L' := [(5, .int z396762), (6, .ref q396592), (4, .ref q395196), (3, .int g395133), (0, .ref q369987), (1, .int p369988), (2, .int p369989)]) z396762 1 dr_cX17_rename_138 rfl hz396762.symm (Nat.le_of_ble_eq_true rfl) rfl ?_
                          refine G_goto 20 dr_cX17_rename_141 (by decide +kernel) ?_
                          have hT396763 : RS D I P369985 F396748 γ el := RS_set hT396729 n396750 ht396595 (by decide) ⟨p396605, p369989, p396607, p369989, p396609, p396610, p396611, he396757, bp396605, bp369989, bp396609, bp396610, bp396611, r396612, r396613, (Or.inr bp369989), r396615, r396616⟩
                          have of396764 : ∀ b, b ≠ q396592 → F396748 b = F396100 b := fun b hb => (n396750 b hb).trans (n396717 b hb)
                          refine G_lv (L' := [(5, .int z396762), (4, .ref q395196), (3, .int g395133), (0, .ref q369987), (1, .int p369988), (2, .int p369989)]) [0, 2, 3, 4, 5, 6] rfl ?_
                          exact ih20_396105 F396748 z396762 (gB_w bz396762 (by decide) (by decide)) hT396763 hs396758 (fun N hv hu hp => rPl_put hT396101 htq369987 rfl (x396103 N hv hu hp) of396764 hp396617 nb396620 hL396618 (fun _ _ _ _ z => z) (rNx_ren he396604 he396757 hu hv (Or.inl rfl) (Or.inr rfl) (Or.inr ⟨rfl, by first | assumption | omega⟩) (by rw [← hp396617]; exact x396103 N hv hu hp _ nb396620 _ hL396618))) fk396760 fs396759 (fun k e1 ht => kt20_396106 k e1 (fun R c1 c2 c3 c4 c5 c6 c7 c8 c9 c10 c11 c12 c13 c14 c15 c16 c17 c18 c19 c20 c21 c22 c23 c24 c25 c26 c27 c28 c29 c30 c31 c32 c33 c34 c35 c36 c37 c38 c39 c40 c41 c42 c43 c44 c45 c46 c47 c48 c49 c50 c51 c52 c53 c54 c55 => c37 F396100 g396099 q395206 p396117 q396592 p396605 p396610 o396628 p396611 o396639 p396608 F396715 o396737 p396606 F396748 z396762 k e1 bg396099 hT396101 hs396102 x396103 x396104 x396105 fq396113 fq396124 fq396125 r396135 fq396136 r396580 hx396593 ht396602 fq396621 fq396622 bo396628 ht396630 r396632 fq396633 bo396639 ht396641 r396677 fq396678 r396714 n396717 fq396728 fq396731 bo396737 ht396738 r396742 fq396743 r396747 n396750 fq396761 ez396762 (ht R c1 c2 c3 c4 c5 c6 c7 c8 c9 c10 c11 c12 c13 c14 c15 c16 c17 c18 c19 c20 c21 c22 c23 c24 c25 c26 c27 c28 c29 c30 c31 c32 c33 c34 c35 c36 c37 c38 c39 c40 c41 c42 c43 c44 c45 c46 c47 c48 c49 c50 c51 c52 c53 c54 c55))) (mz_up ez396762 (Int.le_trans bg396099''.2 (by decide)) hm20_396105)
                · have r396765 : o396628.toInt ≠ 0 := gj_neq hc396631 (show Int32.toInt 0 = 0 by decide)
                  have bo396628' : gB o396628 1 1 := gB_t1 bo396628 r396765
                  refine G_aload 0 dr_cX17_rename_77 rfl ?_
                  have fq396766 : fI (F396100 q396592) 2 = p396607 := by rw [he396604]; rfl
                  refine Gp_get 2 hm396603 he396604 dr_cX17_rename_79 (gk_X15 D I) (Nat.le_of_ble_eq_true rfl) wr_9_186 rfl ?_
                  refine G_iload_n 5 dr_cX17_rename_82 rfl ?_
                  refine G_icmp_ne 92 dr_cX17_rename_83 (by decide +kernel) (fun hc396767 => ?_) (fun hc396767 => ?_)
                  · have r396768 : p396607.toInt ≠ p369988.toInt := gC_ne hc396767
                    refine G_aload 0 dr_cX17_rename_92 rfl ?_
                    have fq396769 : fI (F396100 q396592) 6 = p396611 := by rw [he396604]; rfl
                    refine Gw_callV (As := []) (gV_ok D I) (cp_1699_Row_usesB l hl0 D I P369985 F396100 q396592 p396605 p396606 p396607 p396608 p396609 p396610 p396611 hm396603 he396604 bp396605 bp396606 bp396609 bp396610 bp396611) dr_cX17_rename_94 ⟨wr_10_196, wr_1_39, wr_10_199, by decide, rfl, (Nat.le_of_ble_eq_true rfl), (Nat.le_of_ble_eq_true rfl)⟩ wr_10_197 wr_10_198 hm396603 he396604 rfl (show 0 + 0 ≤ 0 by first | omega | decide) (show 0 + 0 ≤ 0 by first | omega | decide) (Nat.le_of_ble_eq_true rfl) (fun r396773 w396774 dc396770 ds396771 hp396772 => ?_) (fun _ _ _ _ _ z => z.elim)
                    obtain ⟨o396775, rfl, rfl, hdc, hds, bo396775, x396776, ht396777⟩ := hp396772
                    change G _ _ _ _ _ _ _ (.int o396775 :: _) _ _ _
                    refine G_widen (cs' := 0) (sl' := 0) (by omega) (by omega) ?_
                    refine G_if_eq 115 dr_cX17_rename_97 (by decide +kernel) (fun hc396778 => ?_) (fun hc396778 => ?_)
                    · have r396779 : o396775.toInt = 0 := gj_eq hc396778 (show Int32.toInt 0 = 0 by decide)
                      have bo396775' : gB o396775 0 0 := gB_t0 r396779
                      refine G_aload 0 dr_cX17_rename_115 rfl ?_
                      refine Gw_callV (As := []) (gV_ok D I) (cp_1660_Row_sets l hl0 D I P369985 F396100 q396592 p396605 p396606 p396607 p396608 p396609 p396610 p396611 hm396603 he396604 bp396605 bp396606 bp396609 bp396610 bp396611) dr_cX17_rename_117 ⟨wr_10_181, wr_1_39, wr_10_184, by decide, rfl, (Nat.le_of_ble_eq_true rfl), (Nat.le_of_ble_eq_true rfl)⟩ wr_10_182 wr_10_183 hm396603 he396604 rfl (show 0 + 0 ≤ 0 by first | omega | decide) (show 0 + 0 ≤ 0 by first | omega | decide) (Nat.le_of_ble_eq_true rfl) (fun r396783 w396784 dc396780 ds396781 hp396782 => ?_) (fun _ _ _ _ _ z => z.elim)
                      obtain ⟨o396785, rfl, rfl, hdc, hds, bo396785, ht396786⟩ := hp396782
                      change G _ _ _ _ _ _ _ (.int o396785 :: _) _ _ _
                      refine G_widen (cs' := 0) (sl' := 0) (by omega) (by omega) ?_
                      refine G_if_eq 138 dr_cX17_rename_120 (by decide +kernel) (fun hc396787 => ?_) (fun hc396787 => ?_)
                      · have r396788 : o396785.toInt = 0 := gj_eq hc396787 (show Int32.toInt 0 = 0 by decide)
                        have bo396785' : gB o396785 0 0 := gB_t0 r396788
                        obtain ⟨z396789, hz396789⟩ : ∃ z : Int32, z = g396099 + Int32.ofInt 1 := ⟨_, rfl⟩
                        have ez396789 : z396789.toInt = g396099.toInt + 1 := gI_inc hz396789 (by decide) bg396099'' (by decide) (by decide)
                        have bz396789 : gB z396789 1 1000000 := ⟨by omega, by omega⟩
                        refine G_iinc (L' := [(5, .int z396789), (6, .ref q396592), (4, .ref q395196), (3, .int g395133), (0, .ref q369987), (1, .int p369988), (2, .int p369989)]) z396789 1 dr_cX17_rename_138 rfl hz396789.symm (Nat.le_of_ble_eq_true rfl) rfl ?_
                        refine G_goto 20 dr_cX17_rename_141 (by decide +kernel) ?_
                        refine G_lv (L' := [(5, .int z396789), (4, .ref q395196), (3, .int g395133), (0, .ref q369987), (1, .int p369988), (2, .int p369989)]) [0, 2, 3, 4, 5, 6] rfl ?_
                        exact ih20_396105 F396100 z396789 (gB_w bz396789 (by decide) (by decide)) hT396101 hs396102 x396103 x396104 x396105 (fun k e1 ht => kt20_396106 k e1 (fun R c1 c2 c3 c4 c5 c6 c7 c8 c9 c10 c11 c12 c13 c14 c15 c16 c17 c18 c19 c20 c21 c22 c23 c24 c25 c26 c27 c28 c29 c30 c31 c32 c33 c34 c35 c36 c37 c38 c39 c40 c41 c42 c43 c44 c45 c46 c47 c48 c49 c50 c51 c52 c53 c54 c55 => c38 F396100 g396099 q395206 p396117 q396592 p396605 p396610 o396628 p396607 p396611 o396775 o396785 z396789 k e1 bg396099 hT396101 hs396102 x396103 x396104 x396105 fq396113 fq396124 fq396125 r396135 fq396136 r396580 hx396593 ht396602 fq396621 fq396622 bo396628 ht396630 r396765 fq396766 r396768 fq396769 bo396775 ht396777 r396779 bo396785 ht396786 r396788 ez396789 (ht R c1 c2 c3 c4 c5 c6 c7 c8 c9 c10 c11 c12 c13 c14 c15 c16 c17 c18 c19 c20 c21 c22 c23 c24 c25 c26 c27 c28 c29 c30 c31 c32 c33 c34 c35 c36 c37 c38 c39 c40 c41 c42 c43 c44 c45 c46 c47 c48 c49 c50 c51 c52 c53 c54 c55))) (mz_up ez396789 (Int.le_trans bg396099''.2 (by decide)) hm20_396105)
                      · have r396790 : o396785.toInt ≠ 0 := gj_neq hc396787 (show Int32.toInt 0 = 0 by decide)
                        have bo396785' : gB o396785 1 1 := gB_t1 bo396785 r396790
                        refine G_aload 0 dr_cX17_rename_123 rfl ?_
                        have fq396791 : fI (F396100 q396592) 1 = p396606 := by rw [he396604]; rfl
                        refine Gp_get 1 hm396603 he396604 dr_cX17_rename_125 (gk_X15 D I) (Nat.le_of_ble_eq_true rfl) wr_9_182 rfl ?_
                        refine G_iload_n 5 dr_cX17_rename_128 rfl ?_
                        refine G_icmp_ne 138 dr_cX17_rename_129 (by decide +kernel) (fun hc396792 => ?_) (fun hc396792 => ?_)
                        · have r396793 : p396606.toInt ≠ p369988.toInt := gC_ne hc396792
                          obtain ⟨z396794, hz396794⟩ : ∃ z : Int32, z = g396099 + Int32.ofInt 1 := ⟨_, rfl⟩
                          have ez396794 : z396794.toInt = g396099.toInt + 1 := gI_inc hz396794 (by decide) bg396099'' (by decide) (by decide)
                          have bz396794 : gB z396794 1 1000000 := ⟨by omega, by omega⟩
                          refine G_iinc (L' := [(5, .int z396794), (6, .ref q396592), (4, .ref q395196), (3, .int g395133), (0, .ref q369987), (1, .int p369988), (2, .int p369989)]) z396794 1 dr_cX17_rename_138 rfl hz396794.symm (Nat.le_of_ble_eq_true rfl) rfl ?_
                          refine G_goto 20 dr_cX17_rename_141 (by decide +kernel) ?_
                          refine G_lv (L' := [(5, .int z396794), (4, .ref q395196), (3, .int g395133), (0, .ref q369987), (1, .int p369988), (2, .int p369989)]) [0, 2, 3, 4, 5, 6] rfl ?_
                          exact ih20_396105 F396100 z396794 (gB_w bz396794 (by decide) (by decide)) hT396101 hs396102 x396103 x396104 x396105 (fun k e1 ht => kt20_396106 k e1 (fun R c1 c2 c3 c4 c5 c6 c7 c8 c9 c10 c11 c12 c13 c14 c15 c16 c17 c18 c19 c20 c21 c22 c23 c24 c25 c26 c27 c28 c29 c30 c31 c32 c33 c34 c35 c36 c37 c38 c39 c40 c41 c42 c43 c44 c45 c46 c47 c48 c49 c50 c51 c52 c53 c54 c55 => c39 F396100 g396099 q395206 p396117 q396592 p396605 p396610 o396628 p396607 p396611 o396775 o396785 p396606 z396794 k e1 bg396099 hT396101 hs396102 x396103 x396104 x396105 fq396113 fq396124 fq396125 r396135 fq396136 r396580 hx396593 ht396602 fq396621 fq396622 bo396628 ht396630 r396765 fq396766 r396768 fq396769 bo396775 ht396777 r396779 bo396785 ht396786 r396790 fq396791 r396793 ez396794 (ht R c1 c2 c3 c4 c5 c6 c7 c8 c9 c10 c11 c12 c13 c14 c15 c16 c17 c18 c19 c20 c21 c22 c23 c24 c25 c26 c27 c28 c29 c30 c31 c32 c33 c34 c35 c36 c37 c38 c39 c40 c41 c42 c43 c44 c45 c46 c47 c48 c49 c50 c51 c52 c53 c54 c55))) (mz_up ez396794 (Int.le_trans bg396099''.2 (by decide)) hm20_396105)
                        · have r396795 : p396606.toInt = p369988.toInt := gC_eq hc396792
                          refine G_aload 0 dr_cX17_rename_132 rfl ?_
                          refine G_iload_n 6 dr_cX17_rename_134 rfl ?_
                          refine Gp_put 1 hm396603 he396604 dr_cX17_rename_135 (gk_X15 D I) (Nat.le_of_ble_eq_true rfl) wr_9_182 rfl rfl rfl (Nat.le_of_ble_eq_true rfl) (fun F396796 e396797 n396798 => ?_)
                          have he396799 : F396796 q369987 = .inr (18, [.ref q395145, .ref q395146, .int p395147, .int p395148]) := (n396798 q369987 (rn_oo he396108 he396604 (by decide))).trans he396108
                          have he396800 : F396796 q395145 = .inr (4, [.int p395177, .ref q395179, .int p395178]) := (n396798 q395145 (rn_oo he396109 he396604 (by decide))).trans he396109
                          have he396801 : F396796 q395179 = .inl (I (.object "java/lang/Object"), n395193, .inr (.inr (.inr (.inr f395194)))) := (n396798 q395179 (rn_ao he396110 he396604)).trans he396110
                          have he396802 : F396796 q395196 = .inr (17, [.ref q395206, .ref q395207, .int p395208, .int p395209]) := (n396798 q395196 (rn_oo he396111 he396604 (by decide))).trans he396111
                          have he396803 : F396796 q395206 = .inr (4, [.int p396116, .ref q396118, .int p396117]) := (n396798 q395206 (rn_oo he396115 he396604 (by decide))).trans he396115
                          have he396804 : F396796 q396118 = .inl (I (.object "java/lang/Object"), n396589, .inr (.inr (.inr (.inr f396590)))) := (n396798 q396118 (rn_ao r396583 he396604)).trans r396583
                          have he396805 : F396796 q396592 = .inr (20, [.int p396605, .int p369989, .int p396607, .int p396608, .int p396609, .int p396610, .int p396611]) := e396797
                          have hs396806 : rStr γ [1] F369986 F396796 := rStr_pu2 hs396102 n396798 ht396595 (by decide)
                          have fs396807 : rFs γ (γ 1 q369987) F369986 F396796 := rFs_put x396105 n396798 ((show γ 1 q396592 = γ 1 q395206 from ht396596).trans ((show γ 1 q395206 = γ 1 q395196 from ht395211).trans ((show γ 1 q395196 = γ 1 q395145 from ht395203).trans (show γ 1 q395145 = γ 1 q369987 from ht395150))))
                          have fk396808 : rFk [1] γ F369986 F396796 := rFk_put x396104 n396798 ht396595 (by decide)
                          have fq396809 : F396796 q396592 = cF (F396100 q396592) 1 (.int p369989) := by rw [he396805, he396604]; rfl
                          obtain ⟨z396810, hz396810⟩ : ∃ z : Int32, z = g396099 + Int32.ofInt 1 := ⟨_, rfl⟩
                          have ez396810 : z396810.toInt = g396099.toInt + 1 := gI_inc hz396810 (by decide) bg396099'' (by decide) (by decide)
                          have bz396810 : gB z396810 1 1000000 := ⟨by omega, by omega⟩
                          refine G_iinc (L' := [(5, .int z396810), (6, .ref q396592), (4, .ref q395196), (3, .int g395133), (0, .ref q369987), (1, .int p369988), (2, .int p369989)]) z396810 1 dr_cX17_rename_138 rfl hz396810.symm (Nat.le_of_ble_eq_true rfl) rfl ?_
                          refine G_goto 20 dr_cX17_rename_141 (by decide +kernel) ?_
                          have hT396811 : RS D I P369985 F396796 γ el := RS_set hT396101 n396798 ht396595 (by decide) ⟨p396605, p369989, p396607, p396608, p396609, p396610, p396611, he396805, bp396605, bp369989, bp396609, bp396610, bp396611, r396612, r396613, r396614, r396615, r396616⟩
                          refine G_lv (L' := [(5, .int z396810), (4, .ref q395196), (3, .int g395133), (0, .ref q369987), (1, .int p369988), (2, .int p369989)]) [0, 2, 3, 4, 5, 6] rfl ?_
                          exact ih20_396105 F396796 z396810 (gB_w bz396810 (by decide) (by decide)) hT396811 hs396806 (fun N hv hu hp => rPl_put hT396101 htq369987 rfl (x396103 N hv hu hp) n396798 hp396617 nb396620 hL396618 (fun _ _ _ _ z => z) (rNx_ren he396604 he396805 hu hv (Or.inl rfl) (Or.inl rfl) (Or.inr ⟨rfl, by first | assumption | omega⟩) (by rw [← hp396617]; exact x396103 N hv hu hp _ nb396620 _ hL396618))) fk396808 fs396807 (fun k e1 ht => kt20_396106 k e1 (fun R c1 c2 c3 c4 c5 c6 c7 c8 c9 c10 c11 c12 c13 c14 c15 c16 c17 c18 c19 c20 c21 c22 c23 c24 c25 c26 c27 c28 c29 c30 c31 c32 c33 c34 c35 c36 c37 c38 c39 c40 c41 c42 c43 c44 c45 c46 c47 c48 c49 c50 c51 c52 c53 c54 c55 => c40 F396100 g396099 q395206 p396117 q396592 p396605 p396610 o396628 p396607 p396611 o396775 o396785 p396606 F396796 z396810 k e1 bg396099 hT396101 hs396102 x396103 x396104 x396105 fq396113 fq396124 fq396125 r396135 fq396136 r396580 hx396593 ht396602 fq396621 fq396622 bo396628 ht396630 r396765 fq396766 r396768 fq396769 bo396775 ht396777 r396779 bo396785 ht396786 r396790 fq396791 r396795 n396798 fq396809 ez396810 (ht R c1 c2 c3 c4 c5 c6 c7 c8 c9 c10 c11 c12 c13 c14 c15 c16 c17 c18 c19 c20 c21 c22 c23 c24 c25 c26 c27 c28 c29 c30 c31 c32 c33 c34 c35 c36 c37 c38 c39 c40 c41 c42 c43 c44 c45 c46 c47 c48 c49 c50 c51 c52 c53 c54 c55))) (mz_up ez396810 (Int.le_trans bg396099''.2 (by decide)) hm20_396105)
                    · have r396813 : o396775.toInt ≠ 0 := gj_neq hc396778 (show Int32.toInt 0 = 0 by decide)
                      have bo396775' : gB o396775 1 1 := gB_t1 bo396775 r396813
                      refine G_aload 0 dr_cX17_rename_100 rfl ?_
                      have fq396814 : fI (F396100 q396592) 3 = p396608 := by rw [he396604]; rfl
                      refine Gp_get 3 hm396603 he396604 dr_cX17_rename_102 (gk_X15 D I) (Nat.le_of_ble_eq_true rfl) wr_9_190 rfl ?_
                      refine G_iload_n 5 dr_cX17_rename_105 rfl ?_
                      refine G_icmp_ne 115 dr_cX17_rename_106 (by decide +kernel) (fun hc396815 => ?_) (fun hc396815 => ?_)
                      · have r396816 : p396608.toInt ≠ p369988.toInt := gC_ne hc396815
                        refine G_aload 0 dr_cX17_rename_115 rfl ?_
                        refine Gw_callV (As := []) (gV_ok D I) (cp_1660_Row_sets l hl0 D I P369985 F396100 q396592 p396605 p396606 p396607 p396608 p396609 p396610 p396611 hm396603 he396604 bp396605 bp396606 bp396609 bp396610 bp396611) dr_cX17_rename_117 ⟨wr_10_181, wr_1_39, wr_10_184, by decide, rfl, (Nat.le_of_ble_eq_true rfl), (Nat.le_of_ble_eq_true rfl)⟩ wr_10_182 wr_10_183 hm396603 he396604 rfl (show 0 + 0 ≤ 0 by first | omega | decide) (show 0 + 0 ≤ 0 by first | omega | decide) (Nat.le_of_ble_eq_true rfl) (fun r396820 w396821 dc396817 ds396818 hp396819 => ?_) (fun _ _ _ _ _ z => z.elim)
                        obtain ⟨o396822, rfl, rfl, hdc, hds, bo396822, ht396823⟩ := hp396819
                        change G _ _ _ _ _ _ _ (.int o396822 :: _) _ _ _
                        refine G_widen (cs' := 0) (sl' := 0) (by omega) (by omega) ?_
                        refine G_if_eq 138 dr_cX17_rename_120 (by decide +kernel) (fun hc396824 => ?_) (fun hc396824 => ?_)
                        · have r396825 : o396822.toInt = 0 := gj_eq hc396824 (show Int32.toInt 0 = 0 by decide)
                          have bo396822' : gB o396822 0 0 := gB_t0 r396825
                          obtain ⟨z396826, hz396826⟩ : ∃ z : Int32, z = g396099 + Int32.ofInt 1 := ⟨_, rfl⟩
                          have ez396826 : z396826.toInt = g396099.toInt + 1 := gI_inc hz396826 (by decide) bg396099'' (by decide) (by decide)
                          have bz396826 : gB z396826 1 1000000 := ⟨by omega, by omega⟩
                          refine G_iinc (L' := [(5, .int z396826), (6, .ref q396592), (4, .ref q395196), (3, .int g395133), (0, .ref q369987), (1, .int p369988), (2, .int p369989)]) z396826 1 dr_cX17_rename_138 rfl hz396826.symm (Nat.le_of_ble_eq_true rfl) rfl ?_
                          refine G_goto 20 dr_cX17_rename_141 (by decide +kernel) ?_
                          refine G_lv (L' := [(5, .int z396826), (4, .ref q395196), (3, .int g395133), (0, .ref q369987), (1, .int p369988), (2, .int p369989)]) [0, 2, 3, 4, 5, 6] rfl ?_
                          exact ih20_396105 F396100 z396826 (gB_w bz396826 (by decide) (by decide)) hT396101 hs396102 x396103 x396104 x396105 (fun k e1 ht => kt20_396106 k e1 (fun R c1 c2 c3 c4 c5 c6 c7 c8 c9 c10 c11 c12 c13 c14 c15 c16 c17 c18 c19 c20 c21 c22 c23 c24 c25 c26 c27 c28 c29 c30 c31 c32 c33 c34 c35 c36 c37 c38 c39 c40 c41 c42 c43 c44 c45 c46 c47 c48 c49 c50 c51 c52 c53 c54 c55 => c41 F396100 g396099 q395206 p396117 q396592 p396605 p396610 o396628 p396607 p396611 o396775 p396608 o396822 z396826 k e1 bg396099 hT396101 hs396102 x396103 x396104 x396105 fq396113 fq396124 fq396125 r396135 fq396136 r396580 hx396593 ht396602 fq396621 fq396622 bo396628 ht396630 r396765 fq396766 r396768 fq396769 bo396775 ht396777 r396813 fq396814 r396816 bo396822 ht396823 r396825 ez396826 (ht R c1 c2 c3 c4 c5 c6 c7 c8 c9 c10 c11 c12 c13 c14 c15 c16 c17 c18 c19 c20 c21 c22 c23 c24 c25 c26 c27 c28 c29 c30 c31 c32 c33 c34 c35 c36 c37 c38 c39 c40 c41 c42 c43 c44 c45 c46 c47 c48 c49 c50 c51 c52 c53 c54 c55))) (mz_up ez396826 (Int.le_trans bg396099''.2 (by decide)) hm20_396105)
                        · have r396827 : o396822.toInt ≠ 0 := gj_neq hc396824 (show Int32.toInt 0 = 0 by decide)
                          have bo396822' : gB o396822 1 1 := gB_t1 bo396822 r396827
                          refine G_aload 0 dr_cX17_rename_123 rfl ?_
                          have fq396828 : fI (F396100 q396592) 1 = p396606 := by rw [he396604]; rfl
                          refine Gp_get 1 hm396603 he396604 dr_cX17_rename_125 (gk_X15 D I) (Nat.le_of_ble_eq_true rfl) wr_9_182 rfl ?_
                          refine G_iload_n 5 dr_cX17_rename_128 rfl ?_
                          refine G_icmp_ne 138 dr_cX17_rename_129 (by decide +kernel) (fun hc396829 => ?_) (fun hc396829 => ?_)
                          · have r396830 : p396606.toInt ≠ p369988.toInt := gC_ne hc396829
                            obtain ⟨z396831, hz396831⟩ : ∃ z : Int32, z = g396099 + Int32.ofInt 1 := ⟨_, rfl⟩
                            have ez396831 : z396831.toInt = g396099.toInt + 1 := gI_inc hz396831 (by decide) bg396099'' (by decide) (by decide)
                            have bz396831 : gB z396831 1 1000000 := ⟨by omega, by omega⟩
                            refine G_iinc (L' := [(5, .int z396831), (6, .ref q396592), (4, .ref q395196), (3, .int g395133), (0, .ref q369987), (1, .int p369988), (2, .int p369989)]) z396831 1 dr_cX17_rename_138 rfl hz396831.symm (Nat.le_of_ble_eq_true rfl) rfl ?_
                            refine G_goto 20 dr_cX17_rename_141 (by decide +kernel) ?_
                            refine G_lv (L' := [(5, .int z396831), (4, .ref q395196), (3, .int g395133), (0, .ref q369987), (1, .int p369988), (2, .int p369989)]) [0, 2, 3, 4, 5, 6] rfl ?_
                            exact ih20_396105 F396100 z396831 (gB_w bz396831 (by decide) (by decide)) hT396101 hs396102 x396103 x396104 x396105 (fun k e1 ht => kt20_396106 k e1 (fun R c1 c2 c3 c4 c5 c6 c7 c8 c9 c10 c11 c12 c13 c14 c15 c16 c17 c18 c19 c20 c21 c22 c23 c24 c25 c26 c27 c28 c29 c30 c31 c32 c33 c34 c35 c36 c37 c38 c39 c40 c41 c42 c43 c44 c45 c46 c47 c48 c49 c50 c51 c52 c53 c54 c55 => c42 F396100 g396099 q395206 p396117 q396592 p396605 p396610 o396628 p396607 p396611 o396775 p396608 o396822 p396606 z396831 k e1 bg396099 hT396101 hs396102 x396103 x396104 x396105 fq396113 fq396124 fq396125 r396135 fq396136 r396580 hx396593 ht396602 fq396621 fq396622 bo396628 ht396630 r396765 fq396766 r396768 fq396769 bo396775 ht396777 r396813 fq396814 r396816 bo396822 ht396823 r396827 fq396828 r396830 ez396831 (ht R c1 c2 c3 c4 c5 c6 c7 c8 c9 c10 c11 c12 c13 c14 c15 c16 c17 c18 c19 c20 c21 c22 c23 c24 c25 c26 c27 c28 c29 c30 c31 c32 c33 c34 c35 c36 c37 c38 c39 c40 c41 c42 c43 c44 c45 c46 c47 c48 c49 c50 c51 c52 c53 c54 c55))) (mz_up ez396831 (Int.le_trans bg396099''.2 (by decide)) hm20_396105)
                          · have r396832 : p396606.toInt = p369988.toInt := gC_eq hc396829
                            refine G_aload 0 dr_cX17_rename_132 rfl ?_
                            refine G_iload_n 6 dr_cX17_rename_134 rfl ?_
                            refine Gp_put 1 hm396603 he396604 dr_cX17_rename_135 (gk_X15 D I) (Nat.le_of_ble_eq_true rfl) wr_9_182 rfl rfl rfl (Nat.le_of_ble_eq_true rfl) (fun F396833 e396834 n396835 => ?_)
                            have he396836 : F396833 q369987 = .inr (18, [.ref q395145, .ref q395146, .int p395147, .int p395148]) := (n396835 q369987 (rn_oo he396108 he396604 (by decide))).trans he396108
                            have he396837 : F396833 q395145 = .inr (4, [.int p395177, .ref q395179, .int p395178]) := (n396835 q395145 (rn_oo he396109 he396604 (by decide))).trans he396109
                            have he396838 : F396833 q395179 = .inl (I (.object "java/lang/Object"), n395193, .inr (.inr (.inr (.inr f395194)))) := (n396835 q395179 (rn_ao he396110 he396604)).trans he396110
                            have he396839 : F396833 q395196 = .inr (17, [.ref q395206, .ref q395207, .int p395208, .int p395209]) := (n396835 q395196 (rn_oo he396111 he396604 (by decide))).trans he396111
                            have he396840 : F396833 q395206 = .inr (4, [.int p396116, .ref q396118, .int p396117]) := (n396835 q395206 (rn_oo he396115 he396604 (by decide))).trans he396115
                            have he396841 : F396833 q396118 = .inl (I (.object "java/lang/Object"), n396589, .inr (.inr (.inr (.inr f396590)))) := (n396835 q396118 (rn_ao r396583 he396604)).trans r396583
                            have he396842 : F396833 q396592 = .inr (20, [.int p396605, .int p369989, .int p396607, .int p396608, .int p396609, .int p396610, .int p396611]) := e396834
                            have hs396843 : rStr γ [1] F369986 F396833 := rStr_pu2 hs396102 n396835 ht396595 (by decide)
                            have fs396844 : rFs γ (γ 1 q369987) F369986 F396833 := rFs_put x396105 n396835 ((show γ 1 q396592 = γ 1 q395206 from ht396596).trans ((show γ 1 q395206 = γ 1 q395196 from ht395211).trans ((show γ 1 q395196 = γ 1 q395145 from ht395203).trans (show γ 1 q395145 = γ 1 q369987 from ht395150))))
                            have fk396845 : rFk [1] γ F369986 F396833 := rFk_put x396104 n396835 ht396595 (by decide)
                            have fq396846 : F396833 q396592 = cF (F396100 q396592) 1 (.int p369989) := by rw [he396842, he396604]; rfl
                            obtain ⟨z396847, hz396847⟩ : ∃ z : Int32, z = g396099 + Int32.ofInt 1 := ⟨_, rfl⟩
                            have ez396847 : z396847.toInt = g396099.toInt + 1 := gI_inc hz396847 (by decide) bg396099'' (by decide) (by decide)
                            have bz396847 : gB z396847 1 1000000 := ⟨by omega, by omega⟩
                            refine G_iinc (L' := [(5, .int z396847), (6, .ref q396592), (4, .ref q395196), (3, .int g395133), (0, .ref q369987), (1, .int p369988), (2, .int p369989)]) z396847 1 dr_cX17_rename_138 rfl hz396847.symm (Nat.le_of_ble_eq_true rfl) rfl ?_
                            refine G_goto 20 dr_cX17_rename_141 (by decide +kernel) ?_
                            have hT396848 : RS D I P369985 F396833 γ el := RS_set hT396101 n396835 ht396595 (by decide) ⟨p396605, p369989, p396607, p396608, p396609, p396610, p396611, he396842, bp396605, bp369989, bp396609, bp396610, bp396611, r396612, r396613, r396614, r396615, r396616⟩
                            refine G_lv (L' := [(5, .int z396847), (4, .ref q395196), (3, .int g395133), (0, .ref q369987), (1, .int p369988), (2, .int p369989)]) [0, 2, 3, 4, 5, 6] rfl ?_
                            exact ih20_396105 F396833 z396847 (gB_w bz396847 (by decide) (by decide)) hT396848 hs396843 (fun N hv hu hp => rPl_put hT396101 htq369987 rfl (x396103 N hv hu hp) n396835 hp396617 nb396620 hL396618 (fun _ _ _ _ z => z) (rNx_ren he396604 he396842 hu hv (Or.inl rfl) (Or.inl rfl) (Or.inr ⟨rfl, by first | assumption | omega⟩) (by rw [← hp396617]; exact x396103 N hv hu hp _ nb396620 _ hL396618))) fk396845 fs396844 (fun k e1 ht => kt20_396106 k e1 (fun R c1 c2 c3 c4 c5 c6 c7 c8 c9 c10 c11 c12 c13 c14 c15 c16 c17 c18 c19 c20 c21 c22 c23 c24 c25 c26 c27 c28 c29 c30 c31 c32 c33 c34 c35 c36 c37 c38 c39 c40 c41 c42 c43 c44 c45 c46 c47 c48 c49 c50 c51 c52 c53 c54 c55 => c43 F396100 g396099 q395206 p396117 q396592 p396605 p396610 o396628 p396607 p396611 o396775 p396608 o396822 p396606 F396833 z396847 k e1 bg396099 hT396101 hs396102 x396103 x396104 x396105 fq396113 fq396124 fq396125 r396135 fq396136 r396580 hx396593 ht396602 fq396621 fq396622 bo396628 ht396630 r396765 fq396766 r396768 fq396769 bo396775 ht396777 r396813 fq396814 r396816 bo396822 ht396823 r396827 fq396828 r396832 n396835 fq396846 ez396847 (ht R c1 c2 c3 c4 c5 c6 c7 c8 c9 c10 c11 c12 c13 c14 c15 c16 c17 c18 c19 c20 c21 c22 c23 c24 c25 c26 c27 c28 c29 c30 c31 c32 c33 c34 c35 c36 c37 c38 c39 c40 c41 c42 c43 c44 c45 c46 c47 c48 c49 c50 c51 c52 c53 c54 c55))) (mz_up ez396847 (Int.le_trans bg396099''.2 (by decide)) hm20_396105)
                      · have r396850 : p396608.toInt = p369988.toInt := gC_eq hc396815
                        have bp396608' : gB p396608 0 1999 := ⟨by omega, by omega⟩
                        refine G_aload 0 dr_cX17_rename_109 rfl ?_
                        refine G_iload_n 6 dr_cX17_rename_111 rfl ?_
                        refine Gp_put 3 hm396603 he396604 dr_cX17_rename_112 (gk_X15 D I) (Nat.le_of_ble_eq_true rfl) wr_9_190 rfl rfl rfl (Nat.le_of_ble_eq_true rfl) (fun F396851 e396852 n396853 => ?_)
                        have he396854 : F396851 q369987 = .inr (18, [.ref q395145, .ref q395146, .int p395147, .int p395148]) := (n396853 q369987 (rn_oo he396108 he396604 (by decide))).trans he396108
                        have he396855 : F396851 q395145 = .inr (4, [.int p395177, .ref q395179, .int p395178]) := (n396853 q395145 (rn_oo he396109 he396604 (by decide))).trans he396109
                        have he396856 : F396851 q395179 = .inl (I (.object "java/lang/Object"), n395193, .inr (.inr (.inr (.inr f395194)))) := (n396853 q395179 (rn_ao he396110 he396604)).trans he396110
                        have he396857 : F396851 q395196 = .inr (17, [.ref q395206, .ref q395207, .int p395208, .int p395209]) := (n396853 q395196 (rn_oo he396111 he396604 (by decide))).trans he396111
                        have he396858 : F396851 q395206 = .inr (4, [.int p396116, .ref q396118, .int p396117]) := (n396853 q395206 (rn_oo he396115 he396604 (by decide))).trans he396115
                        have he396859 : F396851 q396118 = .inl (I (.object "java/lang/Object"), n396589, .inr (.inr (.inr (.inr f396590)))) := (n396853 q396118 (rn_ao r396583 he396604)).trans r396583
                        have he396860 : F396851 q396592 = .inr (20, [.int p396605, .int p396606, .int p396607, .int p369989, .int p396609, .int p396610, .int p396611]) := e396852
                        have hs396861 : rStr γ [1] F369986 F396851 := rStr_pu2 hs396102 n396853 ht396595 (by decide)
                        have fs396862 : rFs γ (γ 1 q369987) F369986 F396851 := rFs_put x396105 n396853 ((show γ 1 q396592 = γ 1 q395206 from ht396596).trans ((show γ 1 q395206 = γ 1 q395196 from ht395211).trans ((show γ 1 q395196 = γ 1 q395145 from ht395203).trans (show γ 1 q395145 = γ 1 q369987 from ht395150))))
                        have fk396863 : rFk [1] γ F369986 F396851 := rFk_put x396104 n396853 ht396595 (by decide)
                        have fq396864 : F396851 q396592 = cF (F396100 q396592) 3 (.int p369989) := by rw [he396860, he396604]; rfl
                        refine G_aload 0 dr_cX17_rename_115 rfl ?_
                        have hT396865 : RS D I P369985 F396851 γ el := RS_set hT396101 n396853 ht396595 (by decide) ⟨p396605, p396606, p396607, p369989, p396609, p396610, p396611, he396860, bp396605, bp396606, bp396609, bp396610, bp396611, r396612, r396613, (Or.inr bp369989), r396615, r396616⟩
                        have fq396867 : fI (F396851 q396592) 0 = p396605 := by rw [he396860]; rfl
                        refine Gw_callV (As := []) (gV_ok D I) (cp_1660_Row_sets l hl0 D I P369985 F396851 q396592 p396605 p396606 p396607 p369989 p396609 p396610 p396611 hm396603 he396860 bp396605 bp396606 bp396609 bp396610 bp396611) dr_cX17_rename_117 ⟨wr_10_181, wr_1_39, wr_10_184, by decide, rfl, (Nat.le_of_ble_eq_true rfl), (Nat.le_of_ble_eq_true rfl)⟩ wr_10_182 wr_10_183 hm396603 he396860 rfl (show 0 + 0 ≤ 0 by first | omega | decide) (show 0 + 0 ≤ 0 by first | omega | decide) (Nat.le_of_ble_eq_true rfl) (fun r396871 w396872 dc396868 ds396869 hp396870 => ?_) (fun _ _ _ _ _ z => z.elim)
                        obtain ⟨o396873, rfl, rfl, hdc, hds, bo396873, ht396874⟩ := hp396870
                        change G _ _ _ _ _ _ _ (.int o396873 :: _) _ _ _
                        refine G_widen (cs' := 0) (sl' := 0) (by omega) (by omega) ?_
                        refine G_if_eq 138 dr_cX17_rename_120 (by decide +kernel) (fun hc396875 => ?_) (fun hc396875 => ?_)
                        · have r396876 : o396873.toInt = 0 := gj_eq hc396875 (show Int32.toInt 0 = 0 by decide)
                          have bo396873' : gB o396873 0 0 := gB_t0 r396876
                          obtain ⟨z396877, hz396877⟩ : ∃ z : Int32, z = g396099 + Int32.ofInt 1 := ⟨_, rfl⟩
                          have ez396877 : z396877.toInt = g396099.toInt + 1 := gI_inc hz396877 (by decide) bg396099'' (by decide) (by decide)
                          have bz396877 : gB z396877 1 1000000 := ⟨by omega, by omega⟩
                          refine G_iinc (L' := [(5, .int z396877), (6, .ref q396592), (4, .ref q395196), (3, .int g395133), (0, .ref q369987), (1, .int p369988), (2, .int p369989)]) z396877 1 dr_cX17_rename_138 rfl hz396877.symm (Nat.le_of_ble_eq_true rfl) rfl ?_
                          refine G_goto 20 dr_cX17_rename_141 (by decide +kernel) ?_
                          refine G_lv (L' := [(5, .int z396877), (4, .ref q395196), (3, .int g395133), (0, .ref q369987), (1, .int p369988), (2, .int p369989)]) [0, 2, 3, 4, 5, 6] rfl ?_
                          exact ih20_396105 F396851 z396877 (gB_w bz396877 (by decide) (by decide)) hT396865 hs396861 (fun N hv hu hp => rPl_put hT396101 htq369987 rfl (x396103 N hv hu hp) n396853 hp396617 nb396620 hL396618 (fun _ _ _ _ z => z) (rNx_ren he396604 he396860 hu hv (Or.inl rfl) (Or.inr rfl) (Or.inl rfl) (by rw [← hp396617]; exact x396103 N hv hu hp _ nb396620 _ hL396618))) fk396863 fs396862 (fun k e1 ht => kt20_396106 k e1 (fun R c1 c2 c3 c4 c5 c6 c7 c8 c9 c10 c11 c12 c13 c14 c15 c16 c17 c18 c19 c20 c21 c22 c23 c24 c25 c26 c27 c28 c29 c30 c31 c32 c33 c34 c35 c36 c37 c38 c39 c40 c41 c42 c43 c44 c45 c46 c47 c48 c49 c50 c51 c52 c53 c54 c55 => c44 F396100 g396099 q395206 p396117 q396592 p396605 p396610 o396628 p396607 p396611 o396775 p396608 F396851 o396873 z396877 k e1 bg396099 hT396101 hs396102 x396103 x396104 x396105 fq396113 fq396124 fq396125 r396135 fq396136 r396580 hx396593 ht396602 fq396621 fq396622 bo396628 ht396630 r396765 fq396766 r396768 fq396769 bo396775 ht396777 r396813 fq396814 r396850 n396853 fq396864 fq396867 bo396873 ht396874 r396876 ez396877 (ht R c1 c2 c3 c4 c5 c6 c7 c8 c9 c10 c11 c12 c13 c14 c15 c16 c17 c18 c19 c20 c21 c22 c23 c24 c25 c26 c27 c28 c29 c30 c31 c32 c33 c34 c35 c36 c37 c38 c39 c40 c41 c42 c43 c44 c45 c46 c47 c48 c49 c50 c51 c52 c53 c54 c55))) (mz_up ez396877 (Int.le_trans bg396099''.2 (by decide)) hm20_396105)
                        · have r396878 : o396873.toInt ≠ 0 := gj_neq hc396875 (show Int32.toInt 0 = 0 by decide)
                          have bo396873' : gB o396873 1 1 := gB_t1 bo396873 r396878
                          refine G_aload 0 dr_cX17_rename_123 rfl ?_
                          have fq396879 : fI (F396851 q396592) 1 = p396606 := by rw [he396860]; rfl
                          refine Gp_get 1 hm396603 he396860 dr_cX17_rename_125 (gk_X15 D I) (Nat.le_of_ble_eq_true rfl) wr_9_182 rfl ?_
                          refine G_iload_n 5 dr_cX17_rename_128 rfl ?_
                          refine G_icmp_ne 138 dr_cX17_rename_129 (by decide +kernel) (fun hc396880 => ?_) (fun hc396880 => ?_)
                          · have r396881 : p396606.toInt ≠ p369988.toInt := gC_ne hc396880
                            obtain ⟨z396882, hz396882⟩ : ∃ z : Int32, z = g396099 + Int32.ofInt 1 := ⟨_, rfl⟩
                            have ez396882 : z396882.toInt = g396099.toInt + 1 := gI_inc hz396882 (by decide) bg396099'' (by decide) (by decide)
                            have bz396882 : gB z396882 1 1000000 := ⟨by omega, by omega⟩
                            refine G_iinc (L' := [(5, .int z396882), (6, .ref q396592), (4, .ref q395196), (3, .int g395133), (0, .ref q369987), (1, .int p369988), (2, .int p369989)]) z396882 1 dr_cX17_rename_138 rfl hz396882.symm (Nat.le_of_ble_eq_true rfl) rfl ?_
                            refine G_goto 20 dr_cX17_rename_141 (by decide +kernel) ?_
                            refine G_lv (L' := [(5, .int z396882), (4, .ref q395196), (3, .int g395133), (0, .ref q369987), (1, .int p369988), (2, .int p369989)]) [0, 2, 3, 4, 5, 6] rfl ?_
                            exact ih20_396105 F396851 z396882 (gB_w bz396882 (by decide) (by decide)) hT396865 hs396861 (fun N hv hu hp => rPl_put hT396101 htq369987 rfl (x396103 N hv hu hp) n396853 hp396617 nb396620 hL396618 (fun _ _ _ _ z => z) (rNx_ren he396604 he396860 hu hv (Or.inl rfl) (Or.inr rfl) (Or.inl rfl) (by rw [← hp396617]; exact x396103 N hv hu hp _ nb396620 _ hL396618))) fk396863 fs396862 (fun k e1 ht => kt20_396106 k e1 (fun R c1 c2 c3 c4 c5 c6 c7 c8 c9 c10 c11 c12 c13 c14 c15 c16 c17 c18 c19 c20 c21 c22 c23 c24 c25 c26 c27 c28 c29 c30 c31 c32 c33 c34 c35 c36 c37 c38 c39 c40 c41 c42 c43 c44 c45 c46 c47 c48 c49 c50 c51 c52 c53 c54 c55 => c45 F396100 g396099 q395206 p396117 q396592 p396605 p396610 o396628 p396607 p396611 o396775 p396608 F396851 o396873 p396606 z396882 k e1 bg396099 hT396101 hs396102 x396103 x396104 x396105 fq396113 fq396124 fq396125 r396135 fq396136 r396580 hx396593 ht396602 fq396621 fq396622 bo396628 ht396630 r396765 fq396766 r396768 fq396769 bo396775 ht396777 r396813 fq396814 r396850 n396853 fq396864 fq396867 bo396873 ht396874 r396878 fq396879 r396881 ez396882 (ht R c1 c2 c3 c4 c5 c6 c7 c8 c9 c10 c11 c12 c13 c14 c15 c16 c17 c18 c19 c20 c21 c22 c23 c24 c25 c26 c27 c28 c29 c30 c31 c32 c33 c34 c35 c36 c37 c38 c39 c40 c41 c42 c43 c44 c45 c46 c47 c48 c49 c50 c51 c52 c53 c54 c55))) (mz_up ez396882 (Int.le_trans bg396099''.2 (by decide)) hm20_396105)
                          · have r396883 : p396606.toInt = p369988.toInt := gC_eq hc396880
                            refine G_aload 0 dr_cX17_rename_132 rfl ?_
                            refine G_iload_n 6 dr_cX17_rename_134 rfl ?_
                            refine Gp_put 1 hm396603 he396860 dr_cX17_rename_135 (gk_X15 D I) (Nat.le_of_ble_eq_true rfl) wr_9_182 rfl rfl rfl (Nat.le_of_ble_eq_true rfl) (fun F396884 e396885 n396886 => ?_)
                            have he396887 : F396884 q369987 = .inr (18, [.ref q395145, .ref q395146, .int p395147, .int p395148]) := (n396886 q369987 (rn_oo he396854 he396860 (by decide))).trans he396854
                            have he396888 : F396884 q395145 = .inr (4, [.int p395177, .ref q395179, .int p395178]) := (n396886 q395145 (rn_oo he396855 he396860 (by decide))).trans he396855
                            have he396889 : F396884 q395179 = .inl (I (.object "java/lang/Object"), n395193, .inr (.inr (.inr (.inr f395194)))) := (n396886 q395179 (rn_ao he396856 he396860)).trans he396856
                            have he396890 : F396884 q395196 = .inr (17, [.ref q395206, .ref q395207, .int p395208, .int p395209]) := (n396886 q395196 (rn_oo he396857 he396860 (by decide))).trans he396857
                            have he396891 : F396884 q395206 = .inr (4, [.int p396116, .ref q396118, .int p396117]) := (n396886 q395206 (rn_oo he396858 he396860 (by decide))).trans he396858
                            have he396892 : F396884 q396118 = .inl (I (.object "java/lang/Object"), n396589, .inr (.inr (.inr (.inr f396590)))) := (n396886 q396118 (rn_ao he396859 he396860)).trans he396859
                            have he396893 : F396884 q396592 = .inr (20, [.int p396605, .int p369989, .int p396607, .int p369989, .int p396609, .int p396610, .int p396611]) := e396885
                            have hs396894 : rStr γ [1] F369986 F396884 := rStr_pu2 hs396861 n396886 ht396595 (by decide)
                            have fs396895 : rFs γ (γ 1 q369987) F369986 F396884 := rFs_put fs396862 n396886 ((show γ 1 q396592 = γ 1 q395206 from ht396596).trans ((show γ 1 q395206 = γ 1 q395196 from ht395211).trans ((show γ 1 q395196 = γ 1 q395145 from ht395203).trans (show γ 1 q395145 = γ 1 q369987 from ht395150))))
                            have fk396896 : rFk [1] γ F369986 F396884 := rFk_put fk396863 n396886 ht396595 (by decide)
                            have fq396897 : F396884 q396592 = cF (F396851 q396592) 1 (.int p369989) := by rw [he396893, he396860]; rfl
                            obtain ⟨z396898, hz396898⟩ : ∃ z : Int32, z = g396099 + Int32.ofInt 1 := ⟨_, rfl⟩
                            have ez396898 : z396898.toInt = g396099.toInt + 1 := gI_inc hz396898 (by decide) bg396099'' (by decide) (by decide)
                            have bz396898 : gB z396898 1 1000000 := ⟨by omega, by omega⟩
                            refine G_iinc (L' := [(5, .int z396898), (6, .ref q396592), (4, .ref q395196), (3, .int g395133), (0, .ref q369987), (1, .int p369988), (2, .int p369989)]) z396898 1 dr_cX17_rename_138 rfl hz396898.symm (Nat.le_of_ble_eq_true rfl) rfl ?_
                            refine G_goto 20 dr_cX17_rename_141 (by decide +kernel) ?_
                            have hT396899 : RS D I P369985 F396884 γ el := RS_set hT396865 n396886 ht396595 (by decide) ⟨p396605, p369989, p396607, p369989, p396609, p396610, p396611, he396893, bp396605, bp369989, bp396609, bp396610, bp396611, r396612, r396613, (Or.inr bp369989), r396615, r396616⟩
                            have of396900 : ∀ b, b ≠ q396592 → F396884 b = F396100 b := fun b hb => (n396886 b hb).trans (n396853 b hb)
                            refine G_lv (L' := [(5, .int z396898), (4, .ref q395196), (3, .int g395133), (0, .ref q369987), (1, .int p369988), (2, .int p369989)]) [0, 2, 3, 4, 5, 6] rfl ?_
                            exact ih20_396105 F396884 z396898 (gB_w bz396898 (by decide) (by decide)) hT396899 hs396894 (fun N hv hu hp => rPl_put hT396101 htq369987 rfl (x396103 N hv hu hp) of396900 hp396617 nb396620 hL396618 (fun _ _ _ _ z => z) (rNx_ren he396604 he396893 hu hv (Or.inl rfl) (Or.inr rfl) (Or.inr ⟨rfl, by first | assumption | omega⟩) (by rw [← hp396617]; exact x396103 N hv hu hp _ nb396620 _ hL396618))) fk396896 fs396895 (fun k e1 ht => kt20_396106 k e1 (fun R c1 c2 c3 c4 c5 c6 c7 c8 c9 c10 c11 c12 c13 c14 c15 c16 c17 c18 c19 c20 c21 c22 c23 c24 c25 c26 c27 c28 c29 c30 c31 c32 c33 c34 c35 c36 c37 c38 c39 c40 c41 c42 c43 c44 c45 c46 c47 c48 c49 c50 c51 c52 c53 c54 c55 => c46 F396100 g396099 q395206 p396117 q396592 p396605 p396610 o396628 p396607 p396611 o396775 p396608 F396851 o396873 p396606 F396884 z396898 k e1 bg396099 hT396101 hs396102 x396103 x396104 x396105 fq396113 fq396124 fq396125 r396135 fq396136 r396580 hx396593 ht396602 fq396621 fq396622 bo396628 ht396630 r396765 fq396766 r396768 fq396769 bo396775 ht396777 r396813 fq396814 r396850 n396853 fq396864 fq396867 bo396873 ht396874 r396878 fq396879 r396883 n396886 fq396897 ez396898 (ht R c1 c2 c3 c4 c5 c6 c7 c8 c9 c10 c11 c12 c13 c14 c15 c16 c17 c18 c19 c20 c21 c22 c23 c24 c25 c26 c27 c28 c29 c30 c31 c32 c33 c34 c35 c36 c37 c38 c39 c40 c41 c42 c43 c44 c45 c46 c47 c48 c49 c50 c51 c52 c53 c54 c55))) (mz_up ez396898 (Int.le_trans bg396099''.2 (by decide)) hm20_396105)
                  · have r396901 : p396607.toInt = p369988.toInt := gC_eq hc396767
                    have bp396607' : gB p396607 0 1999 := ⟨by omega, by omega⟩
                    refine G_aload 0 dr_cX17_rename_86 rfl ?_
                    refine G_iload_n 6 dr_cX17_rename_88 rfl ?_
                    refine Gp_put 2 hm396603 he396604 dr_cX17_rename_89 (gk_X15 D I) (Nat.le_of_ble_eq_true rfl) wr_9_186 rfl rfl rfl (Nat.le_of_ble_eq_true rfl) (fun F396902 e396903 n396904 => ?_)
                    have he396905 : F396902 q369987 = .inr (18, [.ref q395145, .ref q395146, .int p395147, .int p395148]) := (n396904 q369987 (rn_oo he396108 he396604 (by decide))).trans he396108
                    have he396906 : F396902 q395145 = .inr (4, [.int p395177, .ref q395179, .int p395178]) := (n396904 q395145 (rn_oo he396109 he396604 (by decide))).trans he396109
                    have he396907 : F396902 q395179 = .inl (I (.object "java/lang/Object"), n395193, .inr (.inr (.inr (.inr f395194)))) := (n396904 q395179 (rn_ao he396110 he396604)).trans he396110
                    have he396908 : F396902 q395196 = .inr (17, [.ref q395206, .ref q395207, .int p395208, .int p395209]) := (n396904 q395196 (rn_oo he396111 he396604 (by decide))).trans he396111
                    have he396909 : F396902 q395206 = .inr (4, [.int p396116, .ref q396118, .int p396117]) := (n396904 q395206 (rn_oo he396115 he396604 (by decide))).trans he396115
                    have he396910 : F396902 q396118 = .inl (I (.object "java/lang/Object"), n396589, .inr (.inr (.inr (.inr f396590)))) := (n396904 q396118 (rn_ao r396583 he396604)).trans r396583
                    have he396911 : F396902 q396592 = .inr (20, [.int p396605, .int p396606, .int p369989, .int p396608, .int p396609, .int p396610, .int p396611]) := e396903
                    have hs396912 : rStr γ [1] F369986 F396902 := rStr_pu2 hs396102 n396904 ht396595 (by decide)
                    have fs396913 : rFs γ (γ 1 q369987) F369986 F396902 := rFs_put x396105 n396904 ((show γ 1 q396592 = γ 1 q395206 from ht396596).trans ((show γ 1 q395206 = γ 1 q395196 from ht395211).trans ((show γ 1 q395196 = γ 1 q395145 from ht395203).trans (show γ 1 q395145 = γ 1 q369987 from ht395150))))
                    have fk396914 : rFk [1] γ F369986 F396902 := rFk_put x396104 n396904 ht396595 (by decide)
                    have fq396915 : F396902 q396592 = cF (F396100 q396592) 2 (.int p369989) := by rw [he396911, he396604]; rfl
                    refine G_aload 0 dr_cX17_rename_92 rfl ?_
                    have hT396916 : RS D I P369985 F396902 γ el := RS_set hT396101 n396904 ht396595 (by decide) ⟨p396605, p396606, p369989, p396608, p396609, p396610, p396611, he396911, bp396605, bp396606, bp396609, bp396610, bp396611, r396612, (Or.inr bp369989), r396614, r396615, r396616⟩
                    have fq396918 : fI (F396902 q396592) 0 = p396605 := by rw [he396911]; rfl
                    have fq396919 : fI (F396902 q396592) 6 = p396611 := by rw [he396911]; rfl
                    refine Gw_callV (As := []) (gV_ok D I) (cp_1699_Row_usesB l hl0 D I P369985 F396902 q396592 p396605 p396606 p369989 p396608 p396609 p396610 p396611 hm396603 he396911 bp396605 bp396606 bp396609 bp396610 bp396611) dr_cX17_rename_94 ⟨wr_10_196, wr_1_39, wr_10_199, by decide, rfl, (Nat.le_of_ble_eq_true rfl), (Nat.le_of_ble_eq_true rfl)⟩ wr_10_197 wr_10_198 hm396603 he396911 rfl (show 0 + 0 ≤ 0 by first | omega | decide) (show 0 + 0 ≤ 0 by first | omega | decide) (Nat.le_of_ble_eq_true rfl) (fun r396923 w396924 dc396920 ds396921 hp396922 => ?_) (fun _ _ _ _ _ z => z.elim)
                    obtain ⟨o396925, rfl, rfl, hdc, hds, bo396925, x396926, ht396927⟩ := hp396922
                    change G _ _ _ _ _ _ _ (.int o396925 :: _) _ _ _
                    refine G_widen (cs' := 0) (sl' := 0) (by omega) (by omega) ?_
                    refine G_if_eq 115 dr_cX17_rename_97 (by decide +kernel) (fun hc396928 => ?_) (fun hc396928 => ?_)
                    · have r396929 : o396925.toInt = 0 := gj_eq hc396928 (show Int32.toInt 0 = 0 by decide)
                      have bo396925' : gB o396925 0 0 := gB_t0 r396929
                      refine G_aload 0 dr_cX17_rename_115 rfl ?_
                      refine Gw_callV (As := []) (gV_ok D I) (cp_1660_Row_sets l hl0 D I P369985 F396902 q396592 p396605 p396606 p369989 p396608 p396609 p396610 p396611 hm396603 he396911 bp396605 bp396606 bp396609 bp396610 bp396611) dr_cX17_rename_117 ⟨wr_10_181, wr_1_39, wr_10_184, by decide, rfl, (Nat.le_of_ble_eq_true rfl), (Nat.le_of_ble_eq_true rfl)⟩ wr_10_182 wr_10_183 hm396603 he396911 rfl (show 0 + 0 ≤ 0 by first | omega | decide) (show 0 + 0 ≤ 0 by first | omega | decide) (Nat.le_of_ble_eq_true rfl) (fun r396933 w396934 dc396930 ds396931 hp396932 => ?_) (fun _ _ _ _ _ z => z.elim)
                      obtain ⟨o396935, rfl, rfl, hdc, hds, bo396935, ht396936⟩ := hp396932
                      change G _ _ _ _ _ _ _ (.int o396935 :: _) _ _ _
                      refine G_widen (cs' := 0) (sl' := 0) (by omega) (by omega) ?_
                      refine G_if_eq 138 dr_cX17_rename_120 (by decide +kernel) (fun hc396937 => ?_) (fun hc396937 => ?_)
                      · have r396938 : o396935.toInt = 0 := gj_eq hc396937 (show Int32.toInt 0 = 0 by decide)
                        have bo396935' : gB o396935 0 0 := gB_t0 r396938
                        obtain ⟨z396939, hz396939⟩ : ∃ z : Int32, z = g396099 + Int32.ofInt 1 := ⟨_, rfl⟩
                        have ez396939 : z396939.toInt = g396099.toInt + 1 := gI_inc hz396939 (by decide) bg396099'' (by decide) (by decide)
                        have bz396939 : gB z396939 1 1000000 := ⟨by omega, by omega⟩
                        refine G_iinc (L' := [(5, .int z396939), (6, .ref q396592), (4, .ref q395196), (3, .int g395133), (0, .ref q369987), (1, .int p369988), (2, .int p369989)]) z396939 1 dr_cX17_rename_138 rfl hz396939.symm (Nat.le_of_ble_eq_true rfl) rfl ?_
                        refine G_goto 20 dr_cX17_rename_141 (by decide +kernel) ?_
                        refine G_lv (L' := [(5, .int z396939), (4, .ref q395196), (3, .int g395133), (0, .ref q369987), (1, .int p369988), (2, .int p369989)]) [0, 2, 3, 4, 5, 6] rfl ?_
                        exact ih20_396105 F396902 z396939 (gB_w bz396939 (by decide) (by decide)) hT396916 hs396912 (fun N hv hu hp => rPl_put hT396101 htq369987 rfl (x396103 N hv hu hp) n396904 hp396617 nb396620 hL396618 (fun _ _ _ _ z => z) (rNx_ren he396604 he396911 hu hv (Or.inr rfl) (Or.inl rfl) (Or.inl rfl) (by rw [← hp396617]; exact x396103 N hv hu hp _ nb396620 _ hL396618))) fk396914 fs396913 (fun k e1 ht => kt20_396106 k e1 (fun R c1 c2 c3 c4 c5 c6 c7 c8 c9 c10 c11 c12 c13 c14 c15 c16 c17 c18 c19 c20 c21 c22 c23 c24 c25 c26 c27 c28 c29 c30 c31 c32 c33 c34 c35 c36 c37 c38 c39 c40 c41 c42 c43 c44 c45 c46 c47 c48 c49 c50 c51 c52 c53 c54 c55 => c47 F396100 g396099 q395206 p396117 q396592 p396605 p396610 o396628 p396607 F396902 p396611 o396925 o396935 z396939 k e1 bg396099 hT396101 hs396102 x396103 x396104 x396105 fq396113 fq396124 fq396125 r396135 fq396136 r396580 hx396593 ht396602 fq396621 fq396622 bo396628 ht396630 r396765 fq396766 r396901 n396904 fq396915 fq396918 fq396919 bo396925 ht396927 r396929 bo396935 ht396936 r396938 ez396939 (ht R c1 c2 c3 c4 c5 c6 c7 c8 c9 c10 c11 c12 c13 c14 c15 c16 c17 c18 c19 c20 c21 c22 c23 c24 c25 c26 c27 c28 c29 c30 c31 c32 c33 c34 c35 c36 c37 c38 c39 c40 c41 c42 c43 c44 c45 c46 c47 c48 c49 c50 c51 c52 c53 c54 c55))) (mz_up ez396939 (Int.le_trans bg396099''.2 (by decide)) hm20_396105)
                      · have r396940 : o396935.toInt ≠ 0 := gj_neq hc396937 (show Int32.toInt 0 = 0 by decide)
                        have bo396935' : gB o396935 1 1 := gB_t1 bo396935 r396940
                        refine G_aload 0 dr_cX17_rename_123 rfl ?_
                        have fq396941 : fI (F396902 q396592) 1 = p396606 := by rw [he396911]; rfl
                        refine Gp_get 1 hm396603 he396911 dr_cX17_rename_125 (gk_X15 D I) (Nat.le_of_ble_eq_true rfl) wr_9_182 rfl ?_
                        refine G_iload_n 5 dr_cX17_rename_128 rfl ?_
                        refine G_icmp_ne 138 dr_cX17_rename_129 (by decide +kernel) (fun hc396942 => ?_) (fun hc396942 => ?_)
                        · have r396943 : p396606.toInt ≠ p369988.toInt := gC_ne hc396942
                          obtain ⟨z396944, hz396944⟩ : ∃ z : Int32, z = g396099 + Int32.ofInt 1 := ⟨_, rfl⟩
                          have ez396944 : z396944.toInt = g396099.toInt + 1 := gI_inc hz396944 (by decide) bg396099'' (by decide) (by decide)
                          have bz396944 : gB z396944 1 1000000 := ⟨by omega, by omega⟩
                          refine G_iinc (L' := [(5, .int z396944), (6, .ref q396592), (4, .ref q395196), (3, .int g395133), (0, .ref q369987), (1, .int p369988), (2, .int p369989)]) z396944 1 dr_cX17_rename_138 rfl hz396944.symm (Nat.le_of_ble_eq_true rfl) rfl ?_
                          refine G_goto 20 dr_cX17_rename_141 (by decide +kernel) ?_
                          refine G_lv (L' := [(5, .int z396944), (4, .ref q395196), (3, .int g395133), (0, .ref q369987), (1, .int p369988), (2, .int p369989)]) [0, 2, 3, 4, 5, 6] rfl ?_
                          exact ih20_396105 F396902 z396944 (gB_w bz396944 (by decide) (by decide)) hT396916 hs396912 (fun N hv hu hp => rPl_put hT396101 htq369987 rfl (x396103 N hv hu hp) n396904 hp396617 nb396620 hL396618 (fun _ _ _ _ z => z) (rNx_ren he396604 he396911 hu hv (Or.inr rfl) (Or.inl rfl) (Or.inl rfl) (by rw [← hp396617]; exact x396103 N hv hu hp _ nb396620 _ hL396618))) fk396914 fs396913 (fun k e1 ht => kt20_396106 k e1 (fun R c1 c2 c3 c4 c5 c6 c7 c8 c9 c10 c11 c12 c13 c14 c15 c16 c17 c18 c19 c20 c21 c22 c23 c24 c25 c26 c27 c28 c29 c30 c31 c32 c33 c34 c35 c36 c37 c38 c39 c40 c41 c42 c43 c44 c45 c46 c47 c48 c49 c50 c51 c52 c53 c54 c55 => c48 F396100 g396099 q395206 p396117 q396592 p396605 p396610 o396628 p396607 F396902 p396611 o396925 o396935 p396606 z396944 k e1 bg396099 hT396101 hs396102 x396103 x396104 x396105 fq396113 fq396124 fq396125 r396135 fq396136 r396580 hx396593 ht396602 fq396621 fq396622 bo396628 ht396630 r396765 fq396766 r396901 n396904 fq396915 fq396918 fq396919 bo396925 ht396927 r396929 bo396935 ht396936 r396940 fq396941 r396943 ez396944 (ht R c1 c2 c3 c4 c5 c6 c7 c8 c9 c10 c11 c12 c13 c14 c15 c16 c17 c18 c19 c20 c21 c22 c23 c24 c25 c26 c27 c28 c29 c30 c31 c32 c33 c34 c35 c36 c37 c38 c39 c40 c41 c42 c43 c44 c45 c46 c47 c48 c49 c50 c51 c52 c53 c54 c55))) (mz_up ez396944 (Int.le_trans bg396099''.2 (by decide)) hm20_396105)
                        · have r396945 : p396606.toInt = p369988.toInt := gC_eq hc396942
                          refine G_aload 0 dr_cX17_rename_132 rfl ?_
                          refine G_iload_n 6 dr_cX17_rename_134 rfl ?_
                          refine Gp_put 1 hm396603 he396911 dr_cX17_rename_135 (gk_X15 D I) (Nat.le_of_ble_eq_true rfl) wr_9_182 rfl rfl rfl (Nat.le_of_ble_eq_true rfl) (fun F396946 e396947 n396948 => ?_)
                          have he396949 : F396946 q369987 = .inr (18, [.ref q395145, .ref q395146, .int p395147, .int p395148]) := (n396948 q369987 (rn_oo he396905 he396911 (by decide))).trans he396905
                          have he396950 : F396946 q395145 = .inr (4, [.int p395177, .ref q395179, .int p395178]) := (n396948 q395145 (rn_oo he396906 he396911 (by decide))).trans he396906
                          have he396951 : F396946 q395179 = .inl (I (.object "java/lang/Object"), n395193, .inr (.inr (.inr (.inr f395194)))) := (n396948 q395179 (rn_ao he396907 he396911)).trans he396907
                          have he396952 : F396946 q395196 = .inr (17, [.ref q395206, .ref q395207, .int p395208, .int p395209]) := (n396948 q395196 (rn_oo he396908 he396911 (by decide))).trans he396908
                          have he396953 : F396946 q395206 = .inr (4, [.int p396116, .ref q396118, .int p396117]) := (n396948 q395206 (rn_oo he396909 he396911 (by decide))).trans he396909
                          have he396954 : F396946 q396118 = .inl (I (.object "java/lang/Object"), n396589, .inr (.inr (.inr (.inr f396590)))) := (n396948 q396118 (rn_ao he396910 he396911)).trans he396910
                          have he396955 : F396946 q396592 = .inr (20, [.int p396605, .int p369989, .int p369989, .int p396608, .int p396609, .int p396610, .int p396611]) := e396947
                          have hs396956 : rStr γ [1] F369986 F396946 := rStr_pu2 hs396912 n396948 ht396595 (by decide)
                          have fs396957 : rFs γ (γ 1 q369987) F369986 F396946 := rFs_put fs396913 n396948 ((show γ 1 q396592 = γ 1 q395206 from ht396596).trans ((show γ 1 q395206 = γ 1 q395196 from ht395211).trans ((show γ 1 q395196 = γ 1 q395145 from ht395203).trans (show γ 1 q395145 = γ 1 q369987 from ht395150))))
                          have fk396958 : rFk [1] γ F369986 F396946 := rFk_put fk396914 n396948 ht396595 (by decide)
                          have fq396959 : F396946 q396592 = cF (F396902 q396592) 1 (.int p369989) := by rw [he396955, he396911]; rfl
                          obtain ⟨z396960, hz396960⟩ : ∃ z : Int32, z = g396099 + Int32.ofInt 1 := ⟨_, rfl⟩
                          have ez396960 : z396960.toInt = g396099.toInt + 1 := gI_inc hz396960 (by decide) bg396099'' (by decide) (by decide)
                          have bz396960 : gB z396960 1 1000000 := ⟨by omega, by omega⟩
                          refine G_iinc (L' := [(5, .int z396960), (6, .ref q396592), (4, .ref q395196), (3, .int g395133), (0, .ref q369987), (1, .int p369988), (2, .int p369989)]) z396960 1 dr_cX17_rename_138 rfl hz396960.symm (Nat.le_of_ble_eq_true rfl) rfl ?_
                          refine G_goto 20 dr_cX17_rename_141 (by decide +kernel) ?_
                          have hT396961 : RS D I P369985 F396946 γ el := RS_set hT396916 n396948 ht396595 (by decide) ⟨p396605, p369989, p369989, p396608, p396609, p396610, p396611, he396955, bp396605, bp369989, bp396609, bp396610, bp396611, r396612, (Or.inr bp369989), r396614, r396615, r396616⟩
                          have of396962 : ∀ b, b ≠ q396592 → F396946 b = F396100 b := fun b hb => (n396948 b hb).trans (n396904 b hb)
                          refine G_lv (L' := [(5, .int z396960), (4, .ref q395196), (3, .int g395133), (0, .ref q369987), (1, .int p369988), (2, .int p369989)]) [0, 2, 3, 4, 5, 6] rfl ?_
                          exact ih20_396105 F396946 z396960 (gB_w bz396960 (by decide) (by decide)) hT396961 hs396956 (fun N hv hu hp => rPl_put hT396101 htq369987 rfl (x396103 N hv hu hp) of396962 hp396617 nb396620 hL396618 (fun _ _ _ _ z => z) (rNx_ren he396604 he396955 hu hv (Or.inr rfl) (Or.inl rfl) (Or.inr ⟨rfl, by first | assumption | omega⟩) (by rw [← hp396617]; exact x396103 N hv hu hp _ nb396620 _ hL396618))) fk396958 fs396957 (fun k e1 ht => kt20_396106 k e1 (fun R c1 c2 c3 c4 c5 c6 c7 c8 c9 c10 c11 c12 c13 c14 c15 c16 c17 c18 c19 c20 c21 c22 c23 c24 c25 c26 c27 c28 c29 c30 c31 c32 c33 c34 c35 c36 c37 c38 c39 c40 c41 c42 c43 c44 c45 c46 c47 c48 c49 c50 c51 c52 c53 c54 c55 => c49 F396100 g396099 q395206 p396117 q396592 p396605 p396610 o396628 p396607 F396902 p396611 o396925 o396935 p396606 F396946 z396960 k e1 bg396099 hT396101 hs396102 x396103 x396104 x396105 fq396113 fq396124 fq396125 r396135 fq396136 r396580 hx396593 ht396602 fq396621 fq396622 bo396628 ht396630 r396765 fq396766 r396901 n396904 fq396915 fq396918 fq396919 bo396925 ht396927 r396929 bo396935 ht396936 r396940 fq396941 r396945 n396948 fq396959 ez396960 (ht R c1 c2 c3 c4 c5 c6 c7 c8 c9 c10 c11 c12 c13 c14 c15 c16 c17 c18 c19 c20 c21 c22 c23 c24 c25 c26 c27 c28 c29 c30 c31 c32 c33 c34 c35 c36 c37 c38 c39 c40 c41 c42 c43 c44 c45 c46 c47 c48 c49 c50 c51 c52 c53 c54 c55))) (mz_up ez396960 (Int.le_trans bg396099''.2 (by decide)) hm20_396105)
                    · have r396963 : o396925.toInt ≠ 0 := gj_neq hc396928 (show Int32.toInt 0 = 0 by decide)
                      have bo396925' : gB o396925 1 1 := gB_t1 bo396925 r396963
                      refine G_aload 0 dr_cX17_rename_100 rfl ?_
                      have fq396964 : fI (F396902 q396592) 3 = p396608 := by rw [he396911]; rfl
                      refine Gp_get 3 hm396603 he396911 dr_cX17_rename_102 (gk_X15 D I) (Nat.le_of_ble_eq_true rfl) wr_9_190 rfl ?_
                      refine G_iload_n 5 dr_cX17_rename_105 rfl ?_
                      refine G_icmp_ne 115 dr_cX17_rename_106 (by decide +kernel) (fun hc396965 => ?_) (fun hc396965 => ?_)
                      · have r396966 : p396608.toInt ≠ p369988.toInt := gC_ne hc396965
                        refine G_aload 0 dr_cX17_rename_115 rfl ?_
                        refine Gw_callV (As := []) (gV_ok D I) (cp_1660_Row_sets l hl0 D I P369985 F396902 q396592 p396605 p396606 p369989 p396608 p396609 p396610 p396611 hm396603 he396911 bp396605 bp396606 bp396609 bp396610 bp396611) dr_cX17_rename_117 ⟨wr_10_181, wr_1_39, wr_10_184, by decide, rfl, (Nat.le_of_ble_eq_true rfl), (Nat.le_of_ble_eq_true rfl)⟩ wr_10_182 wr_10_183 hm396603 he396911 rfl (show 0 + 0 ≤ 0 by first | omega | decide) (show 0 + 0 ≤ 0 by first | omega | decide) (Nat.le_of_ble_eq_true rfl) (fun r396970 w396971 dc396967 ds396968 hp396969 => ?_) (fun _ _ _ _ _ z => z.elim)
                        obtain ⟨o396972, rfl, rfl, hdc, hds, bo396972, ht396973⟩ := hp396969
                        change G _ _ _ _ _ _ _ (.int o396972 :: _) _ _ _
                        refine G_widen (cs' := 0) (sl' := 0) (by omega) (by omega) ?_
                        refine G_if_eq 138 dr_cX17_rename_120 (by decide +kernel) (fun hc396974 => ?_) (fun hc396974 => ?_)
                        · have r396975 : o396972.toInt = 0 := gj_eq hc396974 (show Int32.toInt 0 = 0 by decide)
                          have bo396972' : gB o396972 0 0 := gB_t0 r396975
                          obtain ⟨z396976, hz396976⟩ : ∃ z : Int32, z = g396099 + Int32.ofInt 1 := ⟨_, rfl⟩
                          have ez396976 : z396976.toInt = g396099.toInt + 1 := gI_inc hz396976 (by decide) bg396099'' (by decide) (by decide)
                          have bz396976 : gB z396976 1 1000000 := ⟨by omega, by omega⟩
                          refine G_iinc (L' := [(5, .int z396976), (6, .ref q396592), (4, .ref q395196), (3, .int g395133), (0, .ref q369987), (1, .int p369988), (2, .int p369989)]) z396976 1 dr_cX17_rename_138 rfl hz396976.symm (Nat.le_of_ble_eq_true rfl) rfl ?_
                          refine G_goto 20 dr_cX17_rename_141 (by decide +kernel) ?_
                          refine G_lv (L' := [(5, .int z396976), (4, .ref q395196), (3, .int g395133), (0, .ref q369987), (1, .int p369988), (2, .int p369989)]) [0, 2, 3, 4, 5, 6] rfl ?_
                          exact ih20_396105 F396902 z396976 (gB_w bz396976 (by decide) (by decide)) hT396916 hs396912 (fun N hv hu hp => rPl_put hT396101 htq369987 rfl (x396103 N hv hu hp) n396904 hp396617 nb396620 hL396618 (fun _ _ _ _ z => z) (rNx_ren he396604 he396911 hu hv (Or.inr rfl) (Or.inl rfl) (Or.inl rfl) (by rw [← hp396617]; exact x396103 N hv hu hp _ nb396620 _ hL396618))) fk396914 fs396913 (fun k e1 ht => kt20_396106 k e1 (fun R c1 c2 c3 c4 c5 c6 c7 c8 c9 c10 c11 c12 c13 c14 c15 c16 c17 c18 c19 c20 c21 c22 c23 c24 c25 c26 c27 c28 c29 c30 c31 c32 c33 c34 c35 c36 c37 c38 c39 c40 c41 c42 c43 c44 c45 c46 c47 c48 c49 c50 c51 c52 c53 c54 c55 => c50 F396100 g396099 q395206 p396117 q396592 p396605 p396610 o396628 p396607 F396902 p396611 o396925 p396608 o396972 z396976 k e1 bg396099 hT396101 hs396102 x396103 x396104 x396105 fq396113 fq396124 fq396125 r396135 fq396136 r396580 hx396593 ht396602 fq396621 fq396622 bo396628 ht396630 r396765 fq396766 r396901 n396904 fq396915 fq396918 fq396919 bo396925 ht396927 r396963 fq396964 r396966 bo396972 ht396973 r396975 ez396976 (ht R c1 c2 c3 c4 c5 c6 c7 c8 c9 c10 c11 c12 c13 c14 c15 c16 c17 c18 c19 c20 c21 c22 c23 c24 c25 c26 c27 c28 c29 c30 c31 c32 c33 c34 c35 c36 c37 c38 c39 c40 c41 c42 c43 c44 c45 c46 c47 c48 c49 c50 c51 c52 c53 c54 c55))) (mz_up ez396976 (Int.le_trans bg396099''.2 (by decide)) hm20_396105)
                        · have r396977 : o396972.toInt ≠ 0 := gj_neq hc396974 (show Int32.toInt 0 = 0 by decide)
                          have bo396972' : gB o396972 1 1 := gB_t1 bo396972 r396977
                          refine G_aload 0 dr_cX17_rename_123 rfl ?_
                          have fq396978 : fI (F396902 q396592) 1 = p396606 := by rw [he396911]; rfl
                          refine Gp_get 1 hm396603 he396911 dr_cX17_rename_125 (gk_X15 D I) (Nat.le_of_ble_eq_true rfl) wr_9_182 rfl ?_
                          refine G_iload_n 5 dr_cX17_rename_128 rfl ?_
                          refine G_icmp_ne 138 dr_cX17_rename_129 (by decide +kernel) (fun hc396979 => ?_) (fun hc396979 => ?_)
                          · have r396980 : p396606.toInt ≠ p369988.toInt := gC_ne hc396979
                            obtain ⟨z396981, hz396981⟩ : ∃ z : Int32, z = g396099 + Int32.ofInt 1 := ⟨_, rfl⟩
                            have ez396981 : z396981.toInt = g396099.toInt + 1 := gI_inc hz396981 (by decide) bg396099'' (by decide) (by decide)
                            have bz396981 : gB z396981 1 1000000 := ⟨by omega, by omega⟩
                            refine G_iinc (L' := [(5, .int z396981), (6, .ref q396592), (4, .ref q395196), (3, .int g395133), (0, .ref q369987), (1, .int p369988), (2, .int p369989)]) z396981 1 dr_cX17_rename_138 rfl hz396981.symm (Nat.le_of_ble_eq_true rfl) rfl ?_
                            refine G_goto 20 dr_cX17_rename_141 (by decide +kernel) ?_
                            refine G_lv (L' := [(5, .int z396981), (4, .ref q395196), (3, .int g395133), (0, .ref q369987), (1, .int p369988), (2, .int p369989)]) [0, 2, 3, 4, 5, 6] rfl ?_
                            exact ih20_396105 F396902 z396981 (gB_w bz396981 (by decide) (by decide)) hT396916 hs396912 (fun N hv hu hp => rPl_put hT396101 htq369987 rfl (x396103 N hv hu hp) n396904 hp396617 nb396620 hL396618 (fun _ _ _ _ z => z) (rNx_ren he396604 he396911 hu hv (Or.inr rfl) (Or.inl rfl) (Or.inl rfl) (by rw [← hp396617]; exact x396103 N hv hu hp _ nb396620 _ hL396618))) fk396914 fs396913 (fun k e1 ht => kt20_396106 k e1 (fun R c1 c2 c3 c4 c5 c6 c7 c8 c9 c10 c11 c12 c13 c14 c15 c16 c17 c18 c19 c20 c21 c22 c23 c24 c25 c26 c27 c28 c29 c30 c31 c32 c33 c34 c35 c36 c37 c38 c39 c40 c41 c42 c43 c44 c45 c46 c47 c48 c49 c50 c51 c52 c53 c54 c55 => c51 F396100 g396099 q395206 p396117 q396592 p396605 p396610 o396628 p396607 F396902 p396611 o396925 p396608 o396972 p396606 z396981 k e1 bg396099 hT396101 hs396102 x396103 x396104 x396105 fq396113 fq396124 fq396125 r396135 fq396136 r396580 hx396593 ht396602 fq396621 fq396622 bo396628 ht396630 r396765 fq396766 r396901 n396904 fq396915 fq396918 fq396919 bo396925 ht396927 r396963 fq396964 r396966 bo396972 ht396973 r396977 fq396978 r396980 ez396981 (ht R c1 c2 c3 c4 c5 c6 c7 c8 c9 c10 c11 c12 c13 c14 c15 c16 c17 c18 c19 c20 c21 c22 c23 c24 c25 c26 c27 c28 c29 c30 c31 c32 c33 c34 c35 c36 c37 c38 c39 c40 c41 c42 c43 c44 c45 c46 c47 c48 c49 c50 c51 c52 c53 c54 c55))) (mz_up ez396981 (Int.le_trans bg396099''.2 (by decide)) hm20_396105)
                          · have r396982 : p396606.toInt = p369988.toInt := gC_eq hc396979
                            refine G_aload 0 dr_cX17_rename_132 rfl ?_
                            refine G_iload_n 6 dr_cX17_rename_134 rfl ?_
                            refine Gp_put 1 hm396603 he396911 dr_cX17_rename_135 (gk_X15 D I) (Nat.le_of_ble_eq_true rfl) wr_9_182 rfl rfl rfl (Nat.le_of_ble_eq_true rfl) (fun F396983 e396984 n396985 => ?_)
                            have he396986 : F396983 q369987 = .inr (18, [.ref q395145, .ref q395146, .int p395147, .int p395148]) := (n396985 q369987 (rn_oo he396905 he396911 (by decide))).trans he396905
                            have he396987 : F396983 q395145 = .inr (4, [.int p395177, .ref q395179, .int p395178]) := (n396985 q395145 (rn_oo he396906 he396911 (by decide))).trans he396906
                            have he396988 : F396983 q395179 = .inl (I (.object "java/lang/Object"), n395193, .inr (.inr (.inr (.inr f395194)))) := (n396985 q395179 (rn_ao he396907 he396911)).trans he396907
                            have he396989 : F396983 q395196 = .inr (17, [.ref q395206, .ref q395207, .int p395208, .int p395209]) := (n396985 q395196 (rn_oo he396908 he396911 (by decide))).trans he396908
                            have he396990 : F396983 q395206 = .inr (4, [.int p396116, .ref q396118, .int p396117]) := (n396985 q395206 (rn_oo he396909 he396911 (by decide))).trans he396909
                            have he396991 : F396983 q396118 = .inl (I (.object "java/lang/Object"), n396589, .inr (.inr (.inr (.inr f396590)))) := (n396985 q396118 (rn_ao he396910 he396911)).trans he396910
                            have he396992 : F396983 q396592 = .inr (20, [.int p396605, .int p369989, .int p369989, .int p396608, .int p396609, .int p396610, .int p396611]) := e396984
                            have hs396993 : rStr γ [1] F369986 F396983 := rStr_pu2 hs396912 n396985 ht396595 (by decide)
                            have fs396994 : rFs γ (γ 1 q369987) F369986 F396983 := rFs_put fs396913 n396985 ((show γ 1 q396592 = γ 1 q395206 from ht396596).trans ((show γ 1 q395206 = γ 1 q395196 from ht395211).trans ((show γ 1 q395196 = γ 1 q395145 from ht395203).trans (show γ 1 q395145 = γ 1 q369987 from ht395150))))
                            have fk396995 : rFk [1] γ F369986 F396983 := rFk_put fk396914 n396985 ht396595 (by decide)
                            have fq396996 : F396983 q396592 = cF (F396902 q396592) 1 (.int p369989) := by rw [he396992, he396911]; rfl
                            obtain ⟨z396997, hz396997⟩ : ∃ z : Int32, z = g396099 + Int32.ofInt 1 := ⟨_, rfl⟩
                            have ez396997 : z396997.toInt = g396099.toInt + 1 := gI_inc hz396997 (by decide) bg396099'' (by decide) (by decide)
                            have bz396997 : gB z396997 1 1000000 := ⟨by omega, by omega⟩
                            refine G_iinc (L' := [(5, .int z396997), (6, .ref q396592), (4, .ref q395196), (3, .int g395133), (0, .ref q369987), (1, .int p369988), (2, .int p369989)]) z396997 1 dr_cX17_rename_138 rfl hz396997.symm (Nat.le_of_ble_eq_true rfl) rfl ?_
                            refine G_goto 20 dr_cX17_rename_141 (by decide +kernel) ?_
                            have hT396998 : RS D I P369985 F396983 γ el := RS_set hT396916 n396985 ht396595 (by decide) ⟨p396605, p369989, p369989, p396608, p396609, p396610, p396611, he396992, bp396605, bp369989, bp396609, bp396610, bp396611, r396612, (Or.inr bp369989), r396614, r396615, r396616⟩
                            have of396999 : ∀ b, b ≠ q396592 → F396983 b = F396100 b := fun b hb => (n396985 b hb).trans (n396904 b hb)
                            refine G_lv (L' := [(5, .int z396997), (4, .ref q395196), (3, .int g395133), (0, .ref q369987), (1, .int p369988), (2, .int p369989)]) [0, 2, 3, 4, 5, 6] rfl ?_
                            exact ih20_396105 F396983 z396997 (gB_w bz396997 (by decide) (by decide)) hT396998 hs396993 (fun N hv hu hp => rPl_put hT396101 htq369987 rfl (x396103 N hv hu hp) of396999 hp396617 nb396620 hL396618 (fun _ _ _ _ z => z) (rNx_ren he396604 he396992 hu hv (Or.inr rfl) (Or.inl rfl) (Or.inr ⟨rfl, by first | assumption | omega⟩) (by rw [← hp396617]; exact x396103 N hv hu hp _ nb396620 _ hL396618))) fk396995 fs396994 (fun k e1 ht => kt20_396106 k e1 (fun R c1 c2 c3 c4 c5 c6 c7 c8 c9 c10 c11 c12 c13 c14 c15 c16 c17 c18 c19 c20 c21 c22 c23 c24 c25 c26 c27 c28 c29 c30 c31 c32 c33 c34 c35 c36 c37 c38 c39 c40 c41 c42 c43 c44 c45 c46 c47 c48 c49 c50 c51 c52 c53 c54 c55 => c52 F396100 g396099 q395206 p396117 q396592 p396605 p396610 o396628 p396607 F396902 p396611 o396925 p396608 o396972 p396606 F396983 z396997 k e1 bg396099 hT396101 hs396102 x396103 x396104 x396105 fq396113 fq396124 fq396125 r396135 fq396136 r396580 hx396593 ht396602 fq396621 fq396622 bo396628 ht396630 r396765 fq396766 r396901 n396904 fq396915 fq396918 fq396919 bo396925 ht396927 r396963 fq396964 r396966 bo396972 ht396973 r396977 fq396978 r396982 n396985 fq396996 ez396997 (ht R c1 c2 c3 c4 c5 c6 c7 c8 c9 c10 c11 c12 c13 c14 c15 c16 c17 c18 c19 c20 c21 c22 c23 c24 c25 c26 c27 c28 c29 c30 c31 c32 c33 c34 c35 c36 c37 c38 c39 c40 c41 c42 c43 c44 c45 c46 c47 c48 c49 c50 c51 c52 c53 c54 c55))) (mz_up ez396997 (Int.le_trans bg396099''.2 (by decide)) hm20_396105)
                      · have r397000 : p396608.toInt = p369988.toInt := gC_eq hc396965
                        have bp396608' : gB p396608 0 1999 := ⟨by omega, by omega⟩
                        refine G_aload 0 dr_cX17_rename_109 rfl ?_
                        refine G_iload_n 6 dr_cX17_rename_111 rfl ?_
                        refine Gp_put 3 hm396603 he396911 dr_cX17_rename_112 (gk_X15 D I) (Nat.le_of_ble_eq_true rfl) wr_9_190 rfl rfl rfl (Nat.le_of_ble_eq_true rfl) (fun F397001 e397002 n397003 => ?_)
                        have he397004 : F397001 q369987 = .inr (18, [.ref q395145, .ref q395146, .int p395147, .int p395148]) := (n397003 q369987 (rn_oo he396905 he396911 (by decide))).trans he396905
                        have he397005 : F397001 q395145 = .inr (4, [.int p395177, .ref q395179, .int p395178]) := (n397003 q395145 (rn_oo he396906 he396911 (by decide))).trans he396906
                        have he397006 : F397001 q395179 = .inl (I (.object "java/lang/Object"), n395193, .inr (.inr (.inr (.inr f395194)))) := (n397003 q395179 (rn_ao he396907 he396911)).trans he396907
                        have he397007 : F397001 q395196 = .inr (17, [.ref q395206, .ref q395207, .int p395208, .int p395209]) := (n397003 q395196 (rn_oo he396908 he396911 (by decide))).trans he396908
                        have he397008 : F397001 q395206 = .inr (4, [.int p396116, .ref q396118, .int p396117]) := (n397003 q395206 (rn_oo he396909 he396911 (by decide))).trans he396909
                        have he397009 : F397001 q396118 = .inl (I (.object "java/lang/Object"), n396589, .inr (.inr (.inr (.inr f396590)))) := (n397003 q396118 (rn_ao he396910 he396911)).trans he396910
                        have he397010 : F397001 q396592 = .inr (20, [.int p396605, .int p396606, .int p369989, .int p369989, .int p396609, .int p396610, .int p396611]) := e397002
                        have hs397011 : rStr γ [1] F369986 F397001 := rStr_pu2 hs396912 n397003 ht396595 (by decide)
                        have fs397012 : rFs γ (γ 1 q369987) F369986 F397001 := rFs_put fs396913 n397003 ((show γ 1 q396592 = γ 1 q395206 from ht396596).trans ((show γ 1 q395206 = γ 1 q395196 from ht395211).trans ((show γ 1 q395196 = γ 1 q395145 from ht395203).trans (show γ 1 q395145 = γ 1 q369987 from ht395150))))
                        have fk397013 : rFk [1] γ F369986 F397001 := rFk_put fk396914 n397003 ht396595 (by decide)
                        have fq397014 : F397001 q396592 = cF (F396902 q396592) 3 (.int p369989) := by rw [he397010, he396911]; rfl
                        refine G_aload 0 dr_cX17_rename_115 rfl ?_
                        have hT397015 : RS D I P369985 F397001 γ el := RS_set hT396916 n397003 ht396595 (by decide) ⟨p396605, p396606, p369989, p369989, p396609, p396610, p396611, he397010, bp396605, bp396606, bp396609, bp396610, bp396611, r396612, (Or.inr bp369989), (Or.inr bp369989), r396615, r396616⟩
                        have of397016 : ∀ b, b ≠ q396592 → F397001 b = F396100 b := fun b hb => (n397003 b hb).trans (n396904 b hb)
                        have fq397017 : fI (F397001 q396592) 0 = p396605 := by rw [he397010]; rfl
                        refine Gw_callV (As := []) (gV_ok D I) (cp_1660_Row_sets l hl0 D I P369985 F397001 q396592 p396605 p396606 p369989 p369989 p396609 p396610 p396611 hm396603 he397010 bp396605 bp396606 bp396609 bp396610 bp396611) dr_cX17_rename_117 ⟨wr_10_181, wr_1_39, wr_10_184, by decide, rfl, (Nat.le_of_ble_eq_true rfl), (Nat.le_of_ble_eq_true rfl)⟩ wr_10_182 wr_10_183 hm396603 he397010 rfl (show 0 + 0 ≤ 0 by first | omega | decide) (show 0 + 0 ≤ 0 by first | omega | decide) (Nat.le_of_ble_eq_true rfl) (fun r397021 w397022 dc397018 ds397019 hp397020 => ?_) (fun _ _ _ _ _ z => z.elim)
                        obtain ⟨o397023, rfl, rfl, hdc, hds, bo397023, ht397024⟩ := hp397020
                        change G _ _ _ _ _ _ _ (.int o397023 :: _) _ _ _
                        refine G_widen (cs' := 0) (sl' := 0) (by omega) (by omega) ?_
                        refine G_if_eq 138 dr_cX17_rename_120 (by decide +kernel) (fun hc397025 => ?_) (fun hc397025 => ?_)
                        · have r397026 : o397023.toInt = 0 := gj_eq hc397025 (show Int32.toInt 0 = 0 by decide)
                          have bo397023' : gB o397023 0 0 := gB_t0 r397026
                          obtain ⟨z397027, hz397027⟩ : ∃ z : Int32, z = g396099 + Int32.ofInt 1 := ⟨_, rfl⟩
                          have ez397027 : z397027.toInt = g396099.toInt + 1 := gI_inc hz397027 (by decide) bg396099'' (by decide) (by decide)
                          have bz397027 : gB z397027 1 1000000 := ⟨by omega, by omega⟩
                          refine G_iinc (L' := [(5, .int z397027), (6, .ref q396592), (4, .ref q395196), (3, .int g395133), (0, .ref q369987), (1, .int p369988), (2, .int p369989)]) z397027 1 dr_cX17_rename_138 rfl hz397027.symm (Nat.le_of_ble_eq_true rfl) rfl ?_
                          refine G_goto 20 dr_cX17_rename_141 (by decide +kernel) ?_
                          refine G_lv (L' := [(5, .int z397027), (4, .ref q395196), (3, .int g395133), (0, .ref q369987), (1, .int p369988), (2, .int p369989)]) [0, 2, 3, 4, 5, 6] rfl ?_
                          exact ih20_396105 F397001 z397027 (gB_w bz397027 (by decide) (by decide)) hT397015 hs397011 (fun N hv hu hp => rPl_put hT396101 htq369987 rfl (x396103 N hv hu hp) of397016 hp396617 nb396620 hL396618 (fun _ _ _ _ z => z) (rNx_ren he396604 he397010 hu hv (Or.inr rfl) (Or.inr rfl) (Or.inl rfl) (by rw [← hp396617]; exact x396103 N hv hu hp _ nb396620 _ hL396618))) fk397013 fs397012 (fun k e1 ht => kt20_396106 k e1 (fun R c1 c2 c3 c4 c5 c6 c7 c8 c9 c10 c11 c12 c13 c14 c15 c16 c17 c18 c19 c20 c21 c22 c23 c24 c25 c26 c27 c28 c29 c30 c31 c32 c33 c34 c35 c36 c37 c38 c39 c40 c41 c42 c43 c44 c45 c46 c47 c48 c49 c50 c51 c52 c53 c54 c55 => c53 F396100 g396099 q395206 p396117 q396592 p396605 p396610 o396628 p396607 F396902 p396611 o396925 p396608 F397001 o397023 z397027 k e1 bg396099 hT396101 hs396102 x396103 x396104 x396105 fq396113 fq396124 fq396125 r396135 fq396136 r396580 hx396593 ht396602 fq396621 fq396622 bo396628 ht396630 r396765 fq396766 r396901 n396904 fq396915 fq396918 fq396919 bo396925 ht396927 r396963 fq396964 r397000 n397003 fq397014 fq397017 bo397023 ht397024 r397026 ez397027 (ht R c1 c2 c3 c4 c5 c6 c7 c8 c9 c10 c11 c12 c13 c14 c15 c16 c17 c18 c19 c20 c21 c22 c23 c24 c25 c26 c27 c28 c29 c30 c31 c32 c33 c34 c35 c36 c37 c38 c39 c40 c41 c42 c43 c44 c45 c46 c47 c48 c49 c50 c51 c52 c53 c54 c55))) (mz_up ez397027 (Int.le_trans bg396099''.2 (by decide)) hm20_396105)
                        · have r397028 : o397023.toInt ≠ 0 := gj_neq hc397025 (show Int32.toInt 0 = 0 by decide)
                          have bo397023' : gB o397023 1 1 := gB_t1 bo397023 r397028
                          refine G_aload 0 dr_cX17_rename_123 rfl ?_
                          have fq397029 : fI (F397001 q396592) 1 = p396606 := by rw [he397010]; rfl
                          refine Gp_get 1 hm396603 he397010 dr_cX17_rename_125 (gk_X15 D I) (Nat.le_of_ble_eq_true rfl) wr_9_182 rfl ?_
                          refine G_iload_n 5 dr_cX17_rename_128 rfl ?_
                          refine G_icmp_ne 138 dr_cX17_rename_129 (by decide +kernel) (fun hc397030 => ?_) (fun hc397030 => ?_)
                          · have r397031 : p396606.toInt ≠ p369988.toInt := gC_ne hc397030
                            obtain ⟨z397032, hz397032⟩ : ∃ z : Int32, z = g396099 + Int32.ofInt 1 := ⟨_, rfl⟩
                            have ez397032 : z397032.toInt = g396099.toInt + 1 := gI_inc hz397032 (by decide) bg396099'' (by decide) (by decide)
                            have bz397032 : gB z397032 1 1000000 := ⟨by omega, by omega⟩
                            refine G_iinc (L' := [(5, .int z397032), (6, .ref q396592), (4, .ref q395196), (3, .int g395133), (0, .ref q369987), (1, .int p369988), (2, .int p369989)]) z397032 1 dr_cX17_rename_138 rfl hz397032.symm (Nat.le_of_ble_eq_true rfl) rfl ?_
                            refine G_goto 20 dr_cX17_rename_141 (by decide +kernel) ?_
                            refine G_lv (L' := [(5, .int z397032), (4, .ref q395196), (3, .int g395133), (0, .ref q369987), (1, .int p369988), (2, .int p369989)]) [0, 2, 3, 4, 5, 6] rfl ?_
                            exact ih20_396105 F397001 z397032 (gB_w bz397032 (by decide) (by decide)) hT397015 hs397011 (fun N hv hu hp => rPl_put hT396101 htq369987 rfl (x396103 N hv hu hp) of397016 hp396617 nb396620 hL396618 (fun _ _ _ _ z => z) (rNx_ren he396604 he397010 hu hv (Or.inr rfl) (Or.inr rfl) (Or.inl rfl) (by rw [← hp396617]; exact x396103 N hv hu hp _ nb396620 _ hL396618))) fk397013 fs397012 (fun k e1 ht => kt20_396106 k e1 (fun R c1 c2 c3 c4 c5 c6 c7 c8 c9 c10 c11 c12 c13 c14 c15 c16 c17 c18 c19 c20 c21 c22 c23 c24 c25 c26 c27 c28 c29 c30 c31 c32 c33 c34 c35 c36 c37 c38 c39 c40 c41 c42 c43 c44 c45 c46 c47 c48 c49 c50 c51 c52 c53 c54 c55 => c54 F396100 g396099 q395206 p396117 q396592 p396605 p396610 o396628 p396607 F396902 p396611 o396925 p396608 F397001 o397023 p396606 z397032 k e1 bg396099 hT396101 hs396102 x396103 x396104 x396105 fq396113 fq396124 fq396125 r396135 fq396136 r396580 hx396593 ht396602 fq396621 fq396622 bo396628 ht396630 r396765 fq396766 r396901 n396904 fq396915 fq396918 fq396919 bo396925 ht396927 r396963 fq396964 r397000 n397003 fq397014 fq397017 bo397023 ht397024 r397028 fq397029 r397031 ez397032 (ht R c1 c2 c3 c4 c5 c6 c7 c8 c9 c10 c11 c12 c13 c14 c15 c16 c17 c18 c19 c20 c21 c22 c23 c24 c25 c26 c27 c28 c29 c30 c31 c32 c33 c34 c35 c36 c37 c38 c39 c40 c41 c42 c43 c44 c45 c46 c47 c48 c49 c50 c51 c52 c53 c54 c55))) (mz_up ez397032 (Int.le_trans bg396099''.2 (by decide)) hm20_396105)
                          · have r397033 : p396606.toInt = p369988.toInt := gC_eq hc397030
                            refine G_aload 0 dr_cX17_rename_132 rfl ?_
                            refine G_iload_n 6 dr_cX17_rename_134 rfl ?_
                            refine Gp_put 1 hm396603 he397010 dr_cX17_rename_135 (gk_X15 D I) (Nat.le_of_ble_eq_true rfl) wr_9_182 rfl rfl rfl (Nat.le_of_ble_eq_true rfl) (fun F397034 e397035 n397036 => ?_)
                            have he397037 : F397034 q369987 = .inr (18, [.ref q395145, .ref q395146, .int p395147, .int p395148]) := (n397036 q369987 (rn_oo he397004 he397010 (by decide))).trans he397004
                            have he397038 : F397034 q395145 = .inr (4, [.int p395177, .ref q395179, .int p395178]) := (n397036 q395145 (rn_oo he397005 he397010 (by decide))).trans he397005
                            have he397039 : F397034 q395179 = .inl (I (.object "java/lang/Object"), n395193, .inr (.inr (.inr (.inr f395194)))) := (n397036 q395179 (rn_ao he397006 he397010)).trans he397006
                            have he397040 : F397034 q395196 = .inr (17, [.ref q395206, .ref q395207, .int p395208, .int p395209]) := (n397036 q395196 (rn_oo he397007 he397010 (by decide))).trans he397007
                            have he397041 : F397034 q395206 = .inr (4, [.int p396116, .ref q396118, .int p396117]) := (n397036 q395206 (rn_oo he397008 he397010 (by decide))).trans he397008
                            have he397042 : F397034 q396118 = .inl (I (.object "java/lang/Object"), n396589, .inr (.inr (.inr (.inr f396590)))) := (n397036 q396118 (rn_ao he397009 he397010)).trans he397009
                            have he397043 : F397034 q396592 = .inr (20, [.int p396605, .int p369989, .int p369989, .int p369989, .int p396609, .int p396610, .int p396611]) := e397035
                            have hs397044 : rStr γ [1] F369986 F397034 := rStr_pu2 hs397011 n397036 ht396595 (by decide)
                            have fs397045 : rFs γ (γ 1 q369987) F369986 F397034 := rFs_put fs397012 n397036 ((show γ 1 q396592 = γ 1 q395206 from ht396596).trans ((show γ 1 q395206 = γ 1 q395196 from ht395211).trans ((show γ 1 q395196 = γ 1 q395145 from ht395203).trans (show γ 1 q395145 = γ 1 q369987 from ht395150))))
                            have fk397046 : rFk [1] γ F369986 F397034 := rFk_put fk397013 n397036 ht396595 (by decide)
                            have fq397047 : F397034 q396592 = cF (F397001 q396592) 1 (.int p369989) := by rw [he397043, he397010]; rfl
                            obtain ⟨z397048, hz397048⟩ : ∃ z : Int32, z = g396099 + Int32.ofInt 1 := ⟨_, rfl⟩
                            have ez397048 : z397048.toInt = g396099.toInt + 1 := gI_inc hz397048 (by decide) bg396099'' (by decide) (by decide)
                            have bz397048 : gB z397048 1 1000000 := ⟨by omega, by omega⟩
                            refine G_iinc (L' := [(5, .int z397048), (6, .ref q396592), (4, .ref q395196), (3, .int g395133), (0, .ref q369987), (1, .int p369988), (2, .int p369989)]) z397048 1 dr_cX17_rename_138 rfl hz397048.symm (Nat.le_of_ble_eq_true rfl) rfl ?_
                            refine G_goto 20 dr_cX17_rename_141 (by decide +kernel) ?_
                            have hT397049 : RS D I P369985 F397034 γ el := RS_set hT397015 n397036 ht396595 (by decide) ⟨p396605, p369989, p369989, p369989, p396609, p396610, p396611, he397043, bp396605, bp369989, bp396609, bp396610, bp396611, r396612, (Or.inr bp369989), (Or.inr bp369989), r396615, r396616⟩
                            have of397050 : ∀ b, b ≠ q396592 → F397034 b = F396100 b := fun b hb => (n397036 b hb).trans (of397016 b hb)
                            refine G_lv (L' := [(5, .int z397048), (4, .ref q395196), (3, .int g395133), (0, .ref q369987), (1, .int p369988), (2, .int p369989)]) [0, 2, 3, 4, 5, 6] rfl ?_
                            exact ih20_396105 F397034 z397048 (gB_w bz397048 (by decide) (by decide)) hT397049 hs397044 (fun N hv hu hp => rPl_put hT396101 htq369987 rfl (x396103 N hv hu hp) of397050 hp396617 nb396620 hL396618 (fun _ _ _ _ z => z) (rNx_ren he396604 he397043 hu hv (Or.inr rfl) (Or.inr rfl) (Or.inr ⟨rfl, by first | assumption | omega⟩) (by rw [← hp396617]; exact x396103 N hv hu hp _ nb396620 _ hL396618))) fk397046 fs397045 (fun k e1 ht => kt20_396106 k e1 (fun R c1 c2 c3 c4 c5 c6 c7 c8 c9 c10 c11 c12 c13 c14 c15 c16 c17 c18 c19 c20 c21 c22 c23 c24 c25 c26 c27 c28 c29 c30 c31 c32 c33 c34 c35 c36 c37 c38 c39 c40 c41 c42 c43 c44 c45 c46 c47 c48 c49 c50 c51 c52 c53 c54 c55 => c55 F396100 g396099 q395206 p396117 q396592 p396605 p396610 o396628 p396607 F396902 p396611 o396925 p396608 F397001 o397023 p396606 F397034 z397048 k e1 bg396099 hT396101 hs396102 x396103 x396104 x396105 fq396113 fq396124 fq396125 r396135 fq396136 r396580 hx396593 ht396602 fq396621 fq396622 bo396628 ht396630 r396765 fq396766 r396901 n396904 fq396915 fq396918 fq396919 bo396925 ht396927 r396963 fq396964 r397000 n397003 fq397014 fq397017 bo397023 ht397024 r397028 fq397029 r397033 n397036 fq397047 ez397048 (ht R c1 c2 c3 c4 c5 c6 c7 c8 c9 c10 c11 c12 c13 c14 c15 c16 c17 c18 c19 c20 c21 c22 c23 c24 c25 c26 c27 c28 c29 c30 c31 c32 c33 c34 c35 c36 c37 c38 c39 c40 c41 c42 c43 c44 c45 c46 c47 c48 c49 c50 c51 c52 c53 c54 c55))) (mz_up ez397048 (Int.le_trans bg396099''.2 (by decide)) hm20_396105)
        exact hlp20_396105 (((1000002 : Int) - 0).toNat + 1) F395134 0 (gB_w (gBl (show Int32.toInt 0 = 0 by decide)) (by decide) (by decide)) hT395135 hs395136 x395137 x395138 x395139 (fun k e1 ht => ht) (Nat.lt_succ_self _)
  exact hlp2_395139 (((1000001 : Int) - 0).toNat + 1) F369986 0 (gB_w (gBl (show Int32.toInt 0 = 0 by decide)) (by decide) (by decide)) hT (rStr_rf (γ := γ) (W := [1]) (F := F369986)) (fun N _ _ h => h) (rFk_rf) (rFs_rf) (fun k e1 ht => ht) (Nat.lt_succ_self _)
/- tl_RModel_mayMerge_33: l5, l4; out: l4 -/
def tl_RModel_mayMerge_33 (D : va_G) (I : FieldType → ClassId) (γ el : Nat → Nat → Nat) (F : Nat → va_E) (q0 : Nat) (a1 : Int32) (a2 : Int32) (a3 : Int32) (s1 : Int32) (s2 : Int32) (k : Nat) (e1 : Int32) : Prop := ∀ R : (Int32) → (Int32) → Nat → (Int32) → Prop,
  (∀ (l5_1 : Int32) (l4_1 : Int32), gB l5_1 0 2000 → 2000 ≤ l5_1.toInt → R l5_1 l4_1 126 l4_1) →
  (∀ (l5_1 : Int32) (l4_1 : Int32) (x1 : Nat) (x2 : Nat → Int64) (x3 : Nat) (x4 : Nat → Int64) (x5 : Int32) (k : Nat) (e1 : Int32), gB l5_1 0 2000 → l5_1.toInt < 2000 → fR (F q0) 1 = (γ 9 1) → x1 = γ 11 a1.toInt.toNat → F x1 = .inl (I .long, 32, .inr (.inl x2)) → tr_RModel_has l5_1 x2 (0 : Int32) → x3 = γ 11 a2.toInt.toNat → F x3 = .inl (I .long, 32, .inr (.inl x4)) → tr_RModel_has l5_1 x4 (0 : Int32) → x5.toInt = l5_1.toInt + 1 → R x5 l4_1 k e1 → R l5_1 l4_1 k e1) →
  (∀ (l5_1 : Int32) (l4_1 : Int32) (x1 : Nat) (x2 : Nat → Int64) (x3 : Nat) (x4 : Nat → Int64) (x5 : Nat) (x6 : Nat → Int64) (x7 : Int32) (x8 : Int32) (x9 : Int32) (x10 : Int32) (k : Nat) (e1 : Int32), gB l5_1 0 2000 → l5_1.toInt < 2000 → fR (F q0) 1 = (γ 9 1) → x1 = γ 11 a1.toInt.toNat → F x1 = .inl (I .long, 32, .inr (.inl x2)) → tr_RModel_has l5_1 x2 (0 : Int32) → x3 = γ 11 a2.toInt.toNat → F x3 = .inl (I .long, 32, .inr (.inl x4)) → tr_RModel_has l5_1 x4 (1 : Int32) → x5 = γ 11 l5_1.toInt.toNat → F x5 = .inl (I .long, 32, .inr (.inl x6)) → tr_RModel_count x6 x7 → x8.toInt = x7.toInt - 0 → x8.toInt < a3.toInt → x9.toInt = l4_1.toInt + 0 → x10.toInt = l5_1.toInt + 1 → R x10 x9 k e1 → R l5_1 l4_1 k e1) →
  (∀ (l5_1 : Int32) (l4_1 : Int32) (x1 : Nat) (x2 : Nat → Int64) (x3 : Nat) (x4 : Nat → Int64) (x5 : Nat) (x6 : Nat → Int64) (x7 : Int32) (x8 : Int32) (x9 : Int32) (x10 : Int32) (k : Nat) (e1 : Int32), gB l5_1 0 2000 → l5_1.toInt < 2000 → fR (F q0) 1 = (γ 9 1) → x1 = γ 11 a1.toInt.toNat → F x1 = .inl (I .long, 32, .inr (.inl x2)) → tr_RModel_has l5_1 x2 (0 : Int32) → x3 = γ 11 a2.toInt.toNat → F x3 = .inl (I .long, 32, .inr (.inl x4)) → tr_RModel_has l5_1 x4 (1 : Int32) → x5 = γ 11 l5_1.toInt.toNat → F x5 = .inl (I .long, 32, .inr (.inl x6)) → tr_RModel_count x6 x7 → x8.toInt = x7.toInt - 0 → a3.toInt ≤ x8.toInt → x9 = l4_1 + (1 : Int32) → x10.toInt = l5_1.toInt + 1 → R x10 x9 k e1 → R l5_1 l4_1 k e1) →
  (∀ (l5_1 : Int32) (l4_1 : Int32) (x1 : Nat) (x2 : Nat → Int64) (x3 : Nat) (x4 : Nat → Int64) (x5 : Nat) (x6 : Nat → Int64) (x7 : Int32) (x8 : Int32) (x9 : Int32) (x10 : Int32) (k : Nat) (e1 : Int32), gB l5_1 0 2000 → l5_1.toInt < 2000 → fR (F q0) 1 = (γ 9 1) → x1 = γ 11 a1.toInt.toNat → F x1 = .inl (I .long, 32, .inr (.inl x2)) → tr_RModel_has l5_1 x2 (1 : Int32) → x3 = γ 11 a2.toInt.toNat → F x3 = .inl (I .long, 32, .inr (.inl x4)) → tr_RModel_has l5_1 x4 (0 : Int32) → x5 = γ 11 l5_1.toInt.toNat → F x5 = .inl (I .long, 32, .inr (.inl x6)) → tr_RModel_count x6 x7 → x8.toInt = x7.toInt - 0 → x8.toInt < a3.toInt → x9.toInt = l4_1.toInt + 0 → x10.toInt = l5_1.toInt + 1 → R x10 x9 k e1 → R l5_1 l4_1 k e1) →
  (∀ (l5_1 : Int32) (l4_1 : Int32) (x1 : Nat) (x2 : Nat → Int64) (x3 : Nat) (x4 : Nat → Int64) (x5 : Nat) (x6 : Nat → Int64) (x7 : Int32) (x8 : Int32) (x9 : Int32) (x10 : Int32) (k : Nat) (e1 : Int32), gB l5_1 0 2000 → l5_1.toInt < 2000 → fR (F q0) 1 = (γ 9 1) → x1 = γ 11 a1.toInt.toNat → F x1 = .inl (I .long, 32, .inr (.inl x2)) → tr_RModel_has l5_1 x2 (1 : Int32) → x3 = γ 11 a2.toInt.toNat → F x3 = .inl (I .long, 32, .inr (.inl x4)) → tr_RModel_has l5_1 x4 (0 : Int32) → x5 = γ 11 l5_1.toInt.toNat → F x5 = .inl (I .long, 32, .inr (.inl x6)) → tr_RModel_count x6 x7 → x8.toInt = x7.toInt - 0 → a3.toInt ≤ x8.toInt → x9 = l4_1 + (1 : Int32) → x10.toInt = l5_1.toInt + 1 → R x10 x9 k e1 → R l5_1 l4_1 k e1) →
  (∀ (l5_1 : Int32) (l4_1 : Int32) (x1 : Nat) (x2 : Nat → Int64) (x3 : Nat) (x4 : Nat → Int64) (x5 : Nat) (x6 : Nat → Int64) (x7 : Int32) (x8 : Int32) (x9 : Int32) (x10 : Int32) (k : Nat) (e1 : Int32), gB l5_1 0 2000 → l5_1.toInt < 2000 → fR (F q0) 1 = (γ 9 1) → x1 = γ 11 a1.toInt.toNat → F x1 = .inl (I .long, 32, .inr (.inl x2)) → tr_RModel_has l5_1 x2 (1 : Int32) → x3 = γ 11 a2.toInt.toNat → F x3 = .inl (I .long, 32, .inr (.inl x4)) → tr_RModel_has l5_1 x4 (1 : Int32) → x5 = γ 11 l5_1.toInt.toNat → F x5 = .inl (I .long, 32, .inr (.inl x6)) → tr_RModel_count x6 x7 → x8 = x7 - (1 : Int32) → x8.toInt < a3.toInt → x9.toInt = l4_1.toInt + 0 → x10.toInt = l5_1.toInt + 1 → R x10 x9 k e1 → R l5_1 l4_1 k e1) →
  (∀ (l5_1 : Int32) (l4_1 : Int32) (x1 : Nat) (x2 : Nat → Int64) (x3 : Nat) (x4 : Nat → Int64) (x5 : Nat) (x6 : Nat → Int64) (x7 : Int32) (x8 : Int32) (x9 : Int32) (x10 : Int32) (k : Nat) (e1 : Int32), gB l5_1 0 2000 → l5_1.toInt < 2000 → fR (F q0) 1 = (γ 9 1) → x1 = γ 11 a1.toInt.toNat → F x1 = .inl (I .long, 32, .inr (.inl x2)) → tr_RModel_has l5_1 x2 (1 : Int32) → x3 = γ 11 a2.toInt.toNat → F x3 = .inl (I .long, 32, .inr (.inl x4)) → tr_RModel_has l5_1 x4 (1 : Int32) → x5 = γ 11 l5_1.toInt.toNat → F x5 = .inl (I .long, 32, .inr (.inl x6)) → tr_RModel_count x6 x7 → x8 = x7 - (1 : Int32) → a3.toInt ≤ x8.toInt → x9 = l4_1 + (1 : Int32) → x10.toInt = l5_1.toInt + 1 → R x10 x9 k e1 → R l5_1 l4_1 k e1) →
  R s1 s2 k e1
/- tr_RModel_mayMerge: result -/
def tr_RModel_mayMerge (D : va_G) (I : FieldType → ClassId) (γ el : Nat → Nat → Nat) (F : Nat → va_E) (q0 : Nat) (a1 : Int32) (a2 : Int32) (a3 : Int32) (o1 : Int32) : Prop := ∀ R : (Int32) → Prop,
  (100 ≤ a1.toInt → R (0 : Int32)) →
  (a1.toInt < 100 → 100 ≤ a2.toInt → R (0 : Int32)) →
  (∀ (x1 : Nat) (x2 : Nat → Int64) (x3 : Int32), a1.toInt < 100 → a2.toInt < 100 → fR (F q0) 1 = (γ 9 1) → x1 = γ 11 a1.toInt.toNat → F x1 = .inl (I .long, 32, .inr (.inl x2)) → tr_RModel_has a2 x2 (0 : Int32) → tl_RModel_mayMerge_33 D I γ el F q0 a1 a2 a3 (0 : Int32) (0 : Int32) 126 x3 → a3.toInt ≤ x3.toInt → R (0 : Int32)) →
  (∀ (x1 : Nat) (x2 : Nat → Int64) (x3 : Int32), a1.toInt < 100 → a2.toInt < 100 → fR (F q0) 1 = (γ 9 1) → x1 = γ 11 a1.toInt.toNat → F x1 = .inl (I .long, 32, .inr (.inl x2)) → tr_RModel_has a2 x2 (0 : Int32) → tl_RModel_mayMerge_33 D I γ el F q0 a1 a2 a3 (0 : Int32) (0 : Int32) 126 x3 → x3.toInt < a3.toInt → R (1 : Int32)) →
  (∀ (x1 : Nat) (x2 : Nat → Int64), a1.toInt < 100 → a2.toInt < 100 → fR (F q0) 1 = (γ 9 1) → x1 = γ 11 a1.toInt.toNat → F x1 = .inl (I .long, 32, .inr (.inl x2)) → tr_RModel_has a2 x2 (1 : Int32) → R (0 : Int32)) →
  R o1
end
