/-! names: loads have names of temporaries; renaming; registers given slots -/
def rNx (N : Nat → Prop) (e : va_E) : Prop := rNm N e ∧ ((fI e 0).toInt = 21 → 100 ≤ (fI e 1).toInt)
theorem rNx_mono {N N2 : Nat → Prop} {e : va_E} (h : ∀ n, N n → N2 n) (z : rNx N e) : rNx N2 e := ⟨rNm_mono h z.1, z.2⟩
theorem rNx_of {F : Nat → va_E} {x cc : Nat} {op t a b s ra rb : Int32} {N : Nat → Prop} (h : F x = .inr (cc, [.int op, .int t, .int a, .int b, .int s, .int ra, .int rb])) : rNx N (F x) ↔ ((∀ n, nmV op.toInt t.toInt a.toInt b.toInt ra.toInt rb.toInt n → N n) ∧ (op.toInt = 21 → 100 ≤ t.toInt)) := by
  unfold rNx rNm
  rw [nmS_of h, h]
  exact Iff.rfl
theorem rNx_ren {F F1 : Nat → va_E} {x cc : Nat} {op t a b s ra rb t1 a1 b1 : Int32} {N : Nat → Prop} {u v : Int} (h : F x = .inr (cc, [.int op, .int t, .int a, .int b, .int s, .int ra, .int rb])) (h1 : F1 x = .inr (cc, [.int op, .int t1, .int a1, .int b1, .int s, .int ra, .int rb])) (hu : u < 100) (hv : N v.toNat) (ha : a1.toInt = a.toInt ∨ a1.toInt = v) (hb : b1.toInt = b.toInt ∨ b1.toInt = v) (ht : t1.toInt = t.toInt ∨ (t1.toInt = v ∧ t.toInt = u)) (z : rNx N (F x)) : rNx N (F1 x) := by
  rw [rNx_of h] at z
  rw [rNx_of h1]
  refine ⟨fun n hn => ?_, fun q => ?_⟩
  · unfold nmV at hn
    rcases hn with ⟨c1, c2⟩ | ⟨c1, c2⟩ | ⟨c1, c2⟩
    · rcases ht with e | ⟨e, -⟩
      · exact z.1 n (Or.inl ⟨c1, by rw [← e]; exact c2⟩)
      · rw [c2, e]; exact hv
    · rcases ha with e | e
      · exact z.1 n (Or.inr (Or.inl ⟨c1, by rw [← e]; exact c2⟩))
      · rw [c2, e]; exact hv
    · rcases hb with e | e
      · exact z.1 n (Or.inr (Or.inr ⟨c1, by rw [← e]; exact c2⟩))
      · rw [c2, e]; exact hv
  · have := z.2 q
    omega
section RNX
variable {D : va_G} {I : FieldType → ClassId} {P P1 : List Nat} {F F1 : Nat → va_E} {γ el γ1 el1 : Nat → Nat → Nat} {f c i j i0 a k x lst dc ds : Nat} {N : Nat → Prop}
theorem rPl_nm {cc : Nat} {op t a b s ra rb : Int32} (h : rPl γ el F c (γ 6 f) (fun _ _ => rNx N)) (hi : i < γ 6 f) (hl : γ 14 (el (γ 14 c) i) = lst) (hj : j < γ 2 lst) (hx : el lst j = x) (he : F x = .inr (cc, [.int op, .int t, .int a, .int b, .int s, .int ra, .int rb])) (h0 : op.toInt = 0) (hr : ra.toInt = 1) : N t.toInt.toNat ∧ N a.toInt.toNat := by
  have e : rAt γ el c i j = x := (rAt_r rfl hl hj).trans hx
  have hL : rwL γ el c i = lst := hl
  have z := h i hi j (by rw [hL]; omega)
  rw [e, rNx_of he] at z
  exact ⟨z.1 _ (Or.inl ⟨by omega, rfl⟩), z.1 _ (Or.inr (Or.inl ⟨⟨by omega, by omega, by omega, hr⟩, rfl⟩))⟩
theorem rPl_dl (hT : RS D I P F γ el) (hc : γ 0 c = 9) (hcf : γ 1 c = f) (hq : rDq D I P F γ el f lst k F1 γ1 el1) (hl : γ 14 (el (γ 14 c) i0) = lst) (hi0 : i0 < γ 6 f) (hk : k < γ 2 lst) {R : va_E → Prop} (h : rPl γ el F c (γ 6 f) (fun _ _ => R)) : rPl γ1 el1 F1 c (γ1 6 f) (fun _ _ => R) := by
  obtain ⟨q1, q3, q4, q5, -, -, q8, -⟩ := hq
  have hs := rSk_of q1
  intro i hi j hj
  rw [q8.1] at hi
  obtain ⟨b1, b2, b3, b4, b5, b6, b7, b8, b9, b10, b11⟩ := rBk_at hT hc hcf hi
  obtain ⟨c1, c2, c3, c4, c5, c6, c7, c8, c9, c10, c11⟩ := rBk_at hT hc hcf hi0
  obtain ⟨a21, a4, a41, a5, a51⟩ := rc_at hT hc hcf
  have hl' : rwL γ el c i0 = lst := hl
  rw [hl'] at c4 c5 c6 c11
  have s1 := (rSk_s hs (show rKd γ c 9 from hc) (by decide)).2.1
  obtain ⟨-, s2⟩ := q5 (γ 14 c) (by omega) (fun e => by rw [e] at a4; omega)
  have s3 := rSk_s hs (show rKd γ (el (γ 14 c) i) 2 from b2) (by decide)
  have el_ : rwL γ1 el1 c i = rwL γ el c i := by unfold rwL; rw [s1, s2, s3.2.1]
  have e15 : γ1 15 (el1 (γ1 14 c) i) = γ 15 (el (γ 14 c) i) := by rw [s1, s2, s3.2.2.1]
  have F1r : ∀ j, F1 (rAt γ el c i j) = F (rAt γ el c i j) := fun j => rSk_F hs (show rKd γ _ 1 from (rAt_k hT hc hcf hi).1) (by decide) (by decide)
  rw [el_] at hj
  by_cases ei : i = i0
  · subst ei
    rw [hl', q3] at hj
    have hF := F1r
    unfold rAt at hF ⊢
    rw [el_, hl', q3, q4, e15]
    rw [hl'] at hF
    have hh : ∀ j, j ≤ γ 2 lst → R (F (if j < γ 2 lst then el lst j else γ 15 (el (γ 14 c) i))) := fun j hj2 => by
      have z := h i hi j (by rw [hl']; exact hj2)
      unfold rAt at z
      rw [hl'] at z
      exact z
    by_cases t1 : j < k
    · rw [if_pos (by omega), if_pos t1]
      have z := hh j (by omega)
      have z2 := hF j
      rw [if_pos (by omega)] at z z2
      rw [z2]
      exact z
    · have z := hh (j + 1) (by omega)
      have z2 := hF (j + 1)
      by_cases t3 : j < γ 2 lst - 1
      · rw [if_pos t3, if_neg t1]
        rw [if_pos (by omega)] at z z2
        rw [z2]
        exact z
      · rw [if_neg t3]
        rw [if_neg (by omega)] at z z2
        rw [z2]
        exact z
  · have hne : rwL γ el c i ≠ lst := fun e => by
      rw [e, c5] at b5
      rw [← b5, c3] at b3
      exact ei b3.symm
    obtain ⟨l1, l2⟩ := q5 _ (by rw [b4]; decide) hne
    have ea : rAt γ1 el1 c i j = rAt γ el c i j := by unfold rAt; rw [el_, l1, l2, e15]
    rw [l1] at hj
    rw [ea, F1r]
    exact h i hi j hj
theorem rPl_dx (hT : RS D I P F γ el) (hc : γ 0 c = 9) (hcf : γ 1 c = f) (hq : rDq D I P F γ el f lst k F1 γ1 el1) (hl : γ 14 (el (γ 14 c) i) = lst) (hi0 : i < γ 6 f) (hk : k < γ 2 lst) (h : rPl γ el F c (γ 6 f) (fun _ _ => rNx N)) : rPl γ1 el1 F1 c (γ1 6 f) (fun _ _ => rNx N) := rPl_dl (R := rNx N) hT hc hcf hq hl hi0 hk h
/-- the registers that are named, and the slots given: together at most 100 -/
def rNI (γ el : Nat → Nat → Nat) (F : Nat → va_E) (c n : Nat) (s : Int) : Prop := ∃ g : Nat → Int32, rPl γ el F c n (fun _ _ => rNx (fun m => 100 ≤ m ∨ rSd g m)) ∧ s + (rcn g 100 : Nat) ≤ 100
theorem rcn_1 : ∀ n, rcn (fun _ => 1) n = n
  | 0 => rfl
  | n + 1 => by
    show rcn (fun _ => 1) n + _ = n + 1
    rw [rcn_1 n]
    rfl
theorem rcn_m {g h : Nat → Int32} : ∀ n, (∀ i, i < n → (g i).toInt = 1 → (h i).toInt = 1) → rcn g n ≤ rcn h n
  | 0, _ => Nat.le_refl _
  | n + 1, q => by
    have ih := rcn_m n (fun i hi => q i (by omega))
    show rcn g n + _ ≤ rcn h n + _
    by_cases e : (g n).toInt = 1
    · rw [if_pos e, if_pos (q n (by omega) e)]
      omega
    · rw [if_neg e]
      omega
theorem rcn_mn {g : Nat → Int32} {n : Nat} : ∀ m, n ≤ m → rcn g n ≤ rcn g m
  | 0, h => by
    have e : n = 0 := by omega
    rw [e]
    exact Nat.le_refl _
  | m + 1, h => by
    by_cases e : n = m + 1
    · rw [e]
      exact Nat.le_refl _
    · have := rcn_mn (g := g) m (show n ≤ m by omega)
      show rcn g n ≤ rcn g m + _
      omega
theorem rNI_0 (hT : RS D I P F γ el) (hc : γ 0 c = 9) (hcf : γ 1 c = f) (h7 : γ 7 f = 0) : rNI γ el F c (γ 6 f) 0 := by
  refine ⟨fun _ => 1, fun i hi j hj => ⟨fun n hn => ?_, fun q => ?_⟩, by rw [rcn_1]; decide⟩
  · by_cases e : 100 ≤ n
    · exact Or.inl e
    · exact Or.inr ⟨by omega, rfl⟩
  · obtain ⟨k1, k2⟩ := rAt_k (j := j) hT hc hcf hi
    obtain ⟨op, t, a, b, s, ra, rb, w1, w2, w3, w4, w5, w6, w7, w8, w9, w10, -⟩ := show rk_1 γ _ (F _) from RS_o hT k1
    rw [k2, h7] at w10
    rw [w1] at q
    have q2 : op.toInt = 21 := q
    have := w4.1
    omega
/-- behind graph: the stands are among the names -/
theorem rNI_gr {g : Nat → Int32} {n : Nat} {s : Int} (h : rNI γ el F c n s) (hg : rGr γ el F c n g (vA n)) : s + (rcn g 100 : Nat) ≤ 100 ∧ rPl γ el F c n (fun _ _ => rNx (rSd g)) := by
  obtain ⟨g0, h1, h2⟩ := h
  refine ⟨?_, fun i hi j hj => ⟨hg.1 i hi j hj hi, (h1 i hi j hj).2⟩⟩
  have : rcn g 100 ≤ rcn g0 100 := rcn_m 100 (fun m hm e => by
    obtain ⟨i, j, hi, hj, q⟩ := hg.2 m ⟨by omega, e⟩
    rcases (h1 i hi j hj).1 m q with z | z
    · omega
    · exact z.2)
  omega
theorem rNI_st {g : Nat → Int32} {n : Nat} {s : Int} (h : s + (rcn g 100 : Nat) ≤ 100) (hp : rPl γ el F c n (fun _ _ => rNx (rSd g))) : rNI γ el F c n s := ⟨g, rPl_mono hp (fun _ _ _ _ _ z => rNx_mono (fun _ q => Or.inr q) z), h⟩
end RNX
def uA (r op ra : Int) : Prop := (r = 1 ∧ op ≠ 20 ∧ op ≠ 21 ∧ op ≠ 30 ∧ ra = 1) ∨ (r = 0 ∧ (op = 20 ∨ op = 21 ∨ op = 30 ∨ ra = 0))
def uB (r op rb : Int) : Prop := (r = 1 ∧ 0 < op ∧ op < 20 ∧ rb = 1) ∨ (r = 0 ∧ (op ≤ 0 ∨ 20 ≤ op ∨ rb = 0))
def uS (r op : Int) : Prop := (r = 1 ∧ op ≤ 21) ∨ (r = 0 ∧ 21 < op)
theorem uA_0 {r op ra : Int} (h : uA r op ra) (r0 : r = 0) (h1 : op ≠ 20) (h2 : op ≠ 21) (h3 : op ≠ 30) (h4 : ra = 1) : False := by unfold uA at h; omega
theorem uB_0 {r op rb : Int} (h : uB r op rb) (r0 : r = 0) (h1 : 0 < op) (h2 : op < 20) (h3 : rb = 1) : False := by unfold uB at h; omega
theorem uS_0 {r op : Int} (h : uS r op) (r0 : r = 0) (h1 : op ≤ 21) : False := by unfold uS at h; omega
