/-! spill: the rows that were visited have names without slots, the others names that stand -/
theorem rFk_rf {K : List Nat} {γ : Nat → Nat → Nat} {F : Nat → va_E} : rFk K γ F F := fun _ _ _ => rfl
theorem rFk_put {K : List Nat} {γ : Nat → Nat → Nat} {F F1 F2 : Nat → va_E} {a k : Nat} (h : rFk K γ F F1) (n : ∀ b, b ≠ a → F2 b = F1 b) (hk : rKd γ a k) (hK : k ∈ K) : rFk K γ F F2 := fun b h0 hb => (n b (fun e => hb (by rw [e, show γ 0 a = k from hk]; exact hK))).trans (h b h0 hb)
def rInsP (γ0 el0 : Nat → Nat → Nat) (F : Nat → va_E) (γ el : Nat → Nat → Nat) (F1 : Nat → va_E) (c f i0 k t : Nat) : Prop := ∀ (R R' : Nat → Nat → va_E → Prop), rPl γ0 el0 F c (γ0 6 f) R → (∀ i j e, i ≠ i0 → R i j e → R' i j e) → (∀ j e, j < k → R i0 j e → R' i0 j e) → (∀ e, (∀ n, nmS e n → n = t) → ((fI e 0).toInt = 21 → (fI e 1).toInt.toNat = t) → R' i0 k e) → (∀ j e, k ≤ j → R i0 j e → R' i0 (j + 1) e) → rPl γ el F1 c (γ 6 f) R'
/-- names behind spill: temporaries, and what stands without a slot -/
def gSp (g h : Nat → Int32) : Nat → Int32 := fun n => if (h n).toInt < 0 then g n else 0
def nSp (g h : Nat → Int32) (n : Nat) : Prop := 100 ≤ n ∨ rSd (gSp g h) n
def spQ (g h : Nat → Int32) (b j : Nat) (i j' : Nat) (e : va_E) : Prop := (i < b ∨ (i = b ∧ j' < j) → rNx (nSp g h) e) ∧ (b < i ∨ (i = b ∧ j ≤ j') → rNx (rSd g) e)
def spX (g h : Nat → Int32) (b j : Nat) (i j' : Nat) (e : va_E) : Prop := (i < b ∨ (i = b ∧ j' < j) → rNx (nSp g h) e) ∧ (b < i ∨ (i = b ∧ j < j') → rNx (rSd g) e)
section RSP
variable {D : va_G} {I : FieldType → ClassId} {P P1 : List Nat} {F F1 : Nat → va_E} {γ el γ1 el1 : Nat → Nat → Nat} {f c b j j1 b1 a x y lst n t dc ds : Nat} {g h : Nat → Int32}
theorem nmT {e : va_E} {t : Nat} (h1 : ∀ n, nmS e n → n = t) (h2 : (fI e 0).toInt = 21 → (fI e 1).toInt.toNat = t) (ht : 100 ≤ t) : rNx (nSp g h) e := ⟨fun n hn => Or.inl (by rw [h1 n hn]; exact ht), fun q => by have := h2 q; omega⟩
theorem nm_ld {cc : Nat} {op t a b s ra rb : Int32} (he : F y = .inr (cc, [.int op, .int t, .int a, .int b, .int s, .int ra, .int rb])) (ho : op.toInt = 21) : (∀ n, nmS (F y) n → n = t.toInt.toNat) ∧ ((fI (F y) 0).toInt = 21 → (fI (F y) 1).toInt.toNat = t.toInt.toNat) := by
  refine ⟨fun n hn => ?_, fun _ => by rw [he]; rfl⟩
  rw [nmS_of he] at hn
  unfold nmV at hn
  omega
theorem nm_sto {cc : Nat} {op t a b s ra rb : Int32} (he : F y = .inr (cc, [.int op, .int t, .int a, .int b, .int s, .int ra, .int rb])) (ho : op.toInt = 23) : (∀ n, nmS (F y) n → n = a.toInt.toNat) ∧ ((fI (F y) 0).toInt = 21 → (fI (F y) 1).toInt.toNat = a.toInt.toNat) := by
  refine ⟨fun n hn => ?_, fun q => ?_⟩
  · rw [nmS_of he] at hn
    unfold nmV at hn
    omega
  · rw [he] at q
    have q2 : op.toInt = 21 := q
    omega
theorem sp_0 (hp : rPl γ el F c n (fun _ _ => rNx (rSd g))) : rPl γ el F c n (spQ g h 0 0) := rPl_mono hp (fun i j' e _ _ z => ⟨fun q => by omega, fun _ => z⟩)
theorem sp_hd (hp : rPl γ el F c n (spQ g h b j)) (hx : rAt γ el c b j = x) (hb : b < n) (hj : j ≤ γ 2 (rwL γ el c b)) : rPl γ el F c n (spX g h b j) ∧ rNx (rSd g) (F x) := by
  refine ⟨rPl_mono hp (fun i j' e _ _ z => ⟨z.1, fun q => z.2 (by omega)⟩), ?_⟩
  have z := (hp b hb j hj).2 (Or.inr ⟨rfl, Nat.le_refl _⟩)
  rw [hx] at z
  exact z
theorem sp_ld (hi : rInsP γ el F γ1 el1 F1 c f b j t) (hp : rPl γ el F c (γ 6 f) (spX g h b j)) (ht : 100 ≤ t) (hj : j1 = j + 1) : rPl γ1 el1 F1 c (γ1 6 f) (spX g h b j1) := by
  subst hj
  refine hi _ _ hp (fun i j' e hne z => ⟨fun q => z.1 (by omega), fun q => z.2 (by omega)⟩) (fun j' e hlt z => ⟨fun _ => z.1 (by omega), fun q => by omega⟩) (fun e h1 h2 => ⟨fun _ => nmT h1 h2 ht, fun q => by omega⟩) (fun j' e hle z => ⟨fun q => by omega, fun q => z.2 (by omega)⟩)
theorem sp_put (hT : RS D I P F γ el) (hc : γ 0 c = 9) (hcf : γ 1 c = f) (hp : rPl γ el F c (γ 6 f) (spX g h b j)) (n : ∀ z, z ≠ x → F1 z = F z) (hx : rAt γ el c b j = x) (hb : b < γ 6 f) (hj : j ≤ γ 2 (rwL γ el c b)) : rPl γ el F1 c (γ 6 f) (spX g h b j) :=
  rPl_put hT hc hcf hp n hx hb hj (fun _ _ _ _ z => z) ⟨fun q => by omega, fun q => by omega⟩
theorem sp_fin (hp : rPl γ el F c n (spX g h b j)) (hx : rAt γ el c b j = x) (hr : rNx (nSp g h) (F x)) (hj : j1 = j + 1) : rPl γ el F c n (spQ g h b j1) := by
  subst hj
  intro i hi j' hj'
  have z := hp i hi j' hj'
  refine ⟨fun q => ?_, fun q => z.2 (by omega)⟩
  by_cases e : i = b ∧ j' = j
  · rw [e.1, e.2, hx]
    exact hr
  · exact z.1 (by omega)
theorem sp_ins (hT : RS D I P F γ el) (hc : γ 0 c = 9) (hcf : γ 1 c = f) (hq : rIq D I P F γ el f lst j y P1 F1 γ1 el1 dc ds) (hl : γ 14 (el (γ 14 c) b) = lst) (hb : b < γ 6 f) (hk : j ≤ γ 2 lst) (hp : rPl γ el F c (γ 6 f) (spQ g h b j)) (h1 : ∀ n, nmS (F y) n → n = t) (h2 : (fI (F y) 0).toInt = 21 → (fI (F y) 1).toInt.toNat = t) (ht : 100 ≤ t) (hj : j1 = j + 1) : rPl γ1 el1 F1 c (γ1 6 f) (spQ g h b j1) := by
  subst hj
  exact rPl_ins hT hc hcf hq hl hb hk hp (fun i j' e hne z => ⟨fun q => z.1 (by omega), fun q => z.2 (by omega)⟩) (fun j' e hlt z => ⟨fun _ => z.1 (by omega), fun q => by omega⟩) ⟨fun _ => nmT h1 h2 ht, fun q => by omega⟩ (fun j' e hle z => ⟨fun q => by omega, fun q => z.2 (by omega)⟩)
theorem sp_nx (hp : rPl γ el F c n (spQ g h b j)) (hj : γ 2 (rwL γ el c b) < j) (hb : b1 = b + 1) : rPl γ el F c n (spQ g h b1 0) := by
  subst hb
  refine rPl_mono hp (fun i j' e _ hj' z => ⟨fun q => z.1 ?_, fun q => z.2 (by omega)⟩)
  by_cases e : i = b
  · subst e
    omega
  · omega
theorem sp_end (hp : rPl γ el F c n (spQ g h b 0)) (hb : n ≤ b) : rPl γ el F c n (fun _ _ => rNx (nSp g h)) := rPl_mono hp (fun i j' e hi _ z => z.1 (by omega))
/-- the row itself -/
theorem rn_fin {cc : Nat} {op t a b s ra rb op1 t1 a1 b1 s1 ra1 rb1 : Int32} (he : F x = .inr (cc, [.int op, .int t, .int a, .int b, .int s, .int ra, .int rb])) (he1 : F1 x = .inr (cc, [.int op, .int t1, .int a1, .int b1, .int s, .int ra, .int rb])) (z : rNx (rSd g) (F x)) (ha : op.toInt ≠ 20 → op.toInt ≠ 21 → op.toInt ≠ 30 → ra.toInt = 1 → 100 ≤ a1.toInt ∨ (a1.toInt = a.toInt ∧ (h a.toInt.toNat).toInt < 0)) (hb : 0 < op.toInt → op.toInt < 20 → rb.toInt = 1 → 100 ≤ b1.toInt ∨ (b1.toInt = b.toInt ∧ (h b.toInt.toNat).toInt < 0)) (ht : op.toInt ≤ 21 → 100 ≤ t1.toInt ∨ (t1.toInt = t.toInt ∧ (op.toInt = 21 ∨ (h t.toInt.toNat).toInt < 0))) : rNx (nSp g h) (F1 x) := by
  rw [rNx_of he] at z
  rw [rNx_of he1]
  have key : ∀ m, rSd g m → (h m).toInt < 0 → nSp g h m := fun m hm hh => Or.inr ⟨hm.1, by unfold gSp; rw [if_pos hh]; exact hm.2⟩
  refine ⟨fun m hm => ?_, fun q => ?_⟩
  · unfold nmV at hm
    rcases hm with ⟨c1, c2⟩ | ⟨c1, c2⟩ | ⟨c1, c2⟩
    · rcases ht c1 with e | ⟨e, e2⟩
      · exact Or.inl (by omega)
      · rcases e2 with e2 | e2
        · have := z.2 e2
          exact Or.inl (by omega)
        · rw [c2, e]
          exact key _ (z.1 _ (Or.inl ⟨c1, rfl⟩)) e2
    · rcases ha c1.1 c1.2.1 c1.2.2.1 c1.2.2.2 with e | ⟨e, e2⟩
      · exact Or.inl (by omega)
      · rw [c2, e]
        exact key _ (z.1 _ (Or.inr (Or.inl ⟨c1, rfl⟩))) e2
    · rcases hb c1.1 c1.2.1 c1.2.2 with e | ⟨e, e2⟩
      · exact Or.inl (by omega)
      · rw [c2, e]
        exact key _ (z.1 _ (Or.inr (Or.inr ⟨c1, rfl⟩))) e2
  · rcases ht (by omega) with e | ⟨e, -⟩
    · exact e
    · have := z.2 q
      omega
/-- slots given so far -/
def rsc (h : Nat → Int32) : Nat → Nat
  | 0 => 0
  | n + 1 => rsc h n + if 0 ≤ (h n).toInt then 1 else 0
theorem rsc_eq {h h2 : Nat → Int32} : ∀ n, (∀ i, i < n → h2 i = h i) → rsc h2 n = rsc h n
  | 0, _ => rfl
  | n + 1, q => by
    show rsc h2 n + _ = rsc h n + _
    rw [rsc_eq n (fun i hi => q i (by omega)), q n (by omega)]
theorem rcn_sp (g h : Nat → Int32) : ∀ n, (∀ i, i < n → 0 ≤ (h i).toInt → (g i).toInt = 1) → rcn (gSp g h) n + rsc h n = rcn g n
  | 0, _ => rfl
  | n + 1, q => by
    have ih := rcn_sp g h n (fun i hi => q i (by omega))
    show rcn (gSp g h) n + _ + (rsc h n + _) = rcn g n + _
    have e : gSp g h n = if (h n).toInt < 0 then g n else 0 := rfl
    rw [e]
    by_cases c : (h n).toInt < 0
    · rw [if_pos c, if_neg (show ¬ 0 ≤ (h n).toInt by omega)]
      omega
    · rw [if_neg c, if_pos (show 0 ≤ (h n).toInt by omega), if_pos (q n (by omega) (by omega)), if_neg (by decide)]
      omega
theorem rsc_100 (h : Nat → Int32) : ∀ n, 100 ≤ n → (∀ i, i < n → 0 ≤ (h i).toInt → i < 100) → rsc h n = rsc h 100
  | 0, q, _ => by omega
  | n + 1, q, z => by
    by_cases e : n + 1 = 100
    · rw [e]
    · have ih := rsc_100 h n (by omega) (fun i hi => z i (by omega))
      show rsc h n + _ = rsc h 100
      rw [ih, if_neg (fun k => by have := z n (by omega) k; omega)]
      omega
/-- the first loop: what it knows before register r -/
def spI (g h : Nat → Int32) (r : Nat) (s0 s : Int) : Prop := s = s0 + (rsc h r : Nat) ∧ rsc h r ≤ rcn g r ∧ rsc h r ≤ rcn g 100 ∧ ∀ m, m < r → 0 ≤ (h m).toInt → (rSd g m ∧ m < 100 ∧ (h m).toInt < s)
theorem spI_0 {s : Int} : spI g h 0 s s := ⟨by show s = s + (0 : Nat); omega, Nat.le_refl _, Nat.zero_le _, fun m hm => by omega⟩
theorem upd_ne {k : Nat} {v : Int32} {i : Nat} (e : i ≠ k) : upd h k v i = h i := by unfold upd; rw [if_neg e]
theorem upd_eq {k : Nat} {v : Int32} : upd h k v k = v := by unfold upd; rw [if_pos rfl]
theorem spI_n {h1 h2 : Nat → Int32} {k v : Int32} {r1 : Int} {s0 s : Int} (e1 : h1 = upd h k.toNatClampNeg v) (hv : v.toInt < 0) (hk : 0 ≤ k.toInt) (hr : r1 = k.toInt + 1) (z : spI g h k.toInt.toNat s0 s) : spI g h1 r1.toNat s0 s := by
  have ek : k.toNatClampNeg = k.toInt.toNat := rfl
  rw [ek] at e1
  have hr2 : r1.toNat = k.toInt.toNat + 1 := by omega
  rw [hr2]
  generalize k.toInt.toNat = r at *
  subst e1
  obtain ⟨z1, z2, z3, z4⟩ := z
  have q : rsc (upd h r v) (r + 1) = rsc h r := by
    show rsc (upd h r v) r + _ = _
    rw [rsc_eq (h := h) r (fun i hi => upd_ne (by omega)), upd_eq, if_neg (by omega)]
    omega
  have q2 : rcn g r ≤ rcn g (r + 1) := rcn_mn _ (by omega)
  refine ⟨by rw [q]; exact z1, by omega, by omega, fun m hm h0 => ?_⟩
  by_cases e : m = r
  · subst e
    rw [upd_eq] at h0
    omega
  · rw [upd_ne e] at h0 ⊢
    exact z4 m (by omega) h0
theorem spI_s {h1 h2 : Nat → Int32} {k v w : Int32} {r1 : Int} {s0 s s1 : Int} (e1 : h1 = upd h k.toNatClampNeg v) (e2 : h2 = upd h1 k.toNatClampNeg w) (hw : w.toInt = s) (hs : 0 ≤ s) (hk : 0 ≤ k.toInt) (hr : r1 = k.toInt + 1) (h100 : k.toInt < 100) (hg : rSd g k.toInt.toNat) (hs1 : s1 = s + 1) (z : spI g h k.toInt.toNat s0 s) : spI g h2 r1.toNat s0 s1 ∧ rsc h k.toInt.toNat + 1 ≤ rcn g 100 := by
  have ek : k.toNatClampNeg = k.toInt.toNat := rfl
  rw [ek] at e1 e2
  have hr2 : r1.toNat = k.toInt.toNat + 1 := by omega
  rw [hr2]
  have h1r : k.toInt.toNat < 100 := by omega
  generalize k.toInt.toNat = r at *
  subst e1 e2
  obtain ⟨z1, z2, z3, z4⟩ := z
  have ne : ∀ i, i ≠ r → upd (upd h r v) r w i = h i := fun i hi => (upd_ne hi).trans (upd_ne hi)
  have q : rsc (upd (upd h r v) r w) (r + 1) = rsc h r + 1 := by
    show rsc (upd (upd h r v) r w) r + _ = _
    rw [rsc_eq (h := h) r (fun i hi => ne i (by omega)), upd_eq, if_pos (by omega)]
  have q2 : rcn g (r + 1) = rcn g r + 1 := by
    show rcn g r + _ = _
    rw [if_pos hg.2]
  have q3 : rcn g (r + 1) ≤ rcn g 100 := rcn_mn _ (by omega)
  refine ⟨⟨by rw [q]; omega, by omega, by omega, fun m hm h0 => ?_⟩, by omega⟩
  by_cases e : m = r
  · subst e
    rw [upd_eq]
    exact ⟨hg, h1r, by omega⟩
  · rw [ne m e] at h0 ⊢
    have := z4 m (by omega) h0
    exact ⟨this.1, this.2.1, by omega⟩
theorem spI_e {s0 s : Int} {r : Nat} (hr : r = 2000) (z : spI g h r s0 s) (hs : s0 + (rcn g 100 : Nat) ≤ 100) (hp : rPl γ el F c n (fun _ _ => rNx (nSp g h))) : rNI γ el F c n s := by
  subst hr
  obtain ⟨z1, z2, z3, z4⟩ := z
  refine ⟨gSp g h, hp, ?_⟩
  have e1 := rcn_sp g h 100 (fun i hi h0 => (z4 i (by omega) h0).1.2)
  have e2 := rsc_100 h 2000 (by omega) (fun i hi h0 => (z4 i hi h0).2.1)
  omega
end RSP
section RSP2
variable {D : va_G} {I : FieldType → ClassId} {P P1 : List Nat} {F F1 : Nat → va_E} {γ el γ1 el1 : Nat → Nat → Nat} {f c i j k x lst n dc ds : Nat} {R : Nat → Nat → va_E → Prop}
theorem rAt_row (hT : RS D I P F γ el) (hc : γ 0 c = 9) (hcf : γ 1 c = f) (hq : rRq D I P F γ el f c P1 F1 γ1 el1 x dc ds) (hi : i < γ 6 f) (j : Nat) : rAt γ1 el1 c i j = rAt γ el c i j := by
  obtain ⟨q1, -, -, -, -, -, -, q8, q9, -⟩ := hq
  have hk := rSk_of q1
  obtain ⟨b1, b2, b3, b4, b5, b6, b7, b8, b9, b10, b11⟩ := rBk_at hT hc hcf hi
  obtain ⟨a21, a4, a41, a5, a51⟩ := rc_at hT hc hcf
  have s1 := (rSk_s hk (show rKd γ c 9 from hc) (by decide)).2.1
  obtain ⟨-, s2⟩ := q9 _ (by omega) (show γ 0 (γ 14 c) ≠ 5 by omega)
  have s3 := rSk_s hk (show rKd γ (el (γ 14 c) i) 2 from b2) (by decide)
  have el_ : rwL γ1 el1 c i = rwL γ el c i := by unfold rwL; rw [s1, s2, s3.2.1]
  obtain ⟨l1, l2⟩ := q9 _ (by omega) (show γ 0 (rwL γ el c i) ≠ 5 by omega)
  unfold rAt
  rw [el_, l1, l2, s1, s2, s3.2.2.1]
theorem rAt_ins (hT : RS D I P F γ el) (hc : γ 0 c = 9) (hcf : γ 1 c = f) (hq : rIq D I P F γ el f lst k x P1 F1 γ1 el1 dc ds) (hl : γ 14 (el (γ 14 c) i) = lst) (hi : i < γ 6 f) (hk : k ≤ γ 2 lst) (j : Nat) (hj : k ≤ j) : rAt γ1 el1 c i (j + 1) = rAt γ el c i j := by
  obtain ⟨q1, q2, q3, q4, q5, -, -, q8, q9, -⟩ := hq
  have hs := rSk_of q1
  obtain ⟨c1, c2, c3, c4, c5, c6, c7, c8, c9, c10, c11⟩ := rBk_at hT hc hcf hi
  obtain ⟨a21, a4, a41, a5, a51⟩ := rc_at hT hc hcf
  have hl' : rwL γ el c i = lst := hl
  rw [hl'] at c4 c5 c6 c11
  have s1 := (rSk_s hs (show rKd γ c 9 from hc) (by decide)).2.1
  obtain ⟨-, s2⟩ := q5 (γ 14 c) (by omega) (fun e => by rw [e] at a4; omega)
  have s3 := rSk_s hs (show rKd γ (el (γ 14 c) i) 2 from c2) (by decide)
  have el_ : rwL γ1 el1 c i = lst := by rw [← hl']; unfold rwL; rw [s1, s2, s3.2.1]
  unfold rAt
  rw [el_, hl', q3, q4, s1, s2, s3.2.2.1]
  by_cases t : j < γ 2 lst
  · rw [if_pos (by omega), if_neg (by omega), if_neg (by omega), if_pos t, show j + 1 - 1 = j by omega]
  · rw [if_neg (by omega), if_neg t]
theorem rPl_val (hT : RS D I P F γ el) (hc : γ 0 c = 9) (hcf : γ 1 c = f) (hk : rSk f [] [] D I P F γ el P F γ1 el) (hg : γ1 = gVal γ 7 f n) (h : rPl γ el F c (γ 6 f) R) : rPl γ1 el F c (γ1 6 f) R :=
  rPl_st hT hc hcf hk (by decide) (fun a _ => ⟨by rw [hg, gVal_ne (by decide)], rfl⟩) (by rw [hg, gVal_ne (by decide)]) h
theorem gVal_7 (h : γ1 = gVal γ 7 f n) : γ1 7 f = n ∧ γ1 6 f = γ 6 f ∧ γ1 16 f = γ 16 f ∧ γ1 18 f = γ 18 f := by
  subst h
  refine ⟨if_pos ⟨rfl, rfl⟩, ?_, ?_, ?_⟩ <;> rw [gVal_ne (by decide)]
end RSP2
