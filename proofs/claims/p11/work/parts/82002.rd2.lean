theorem tP_put {I : FieldType → ClassId} {P : List Nat} {F F1 : Nat → va_E} {k : Int32} {xt : gTx} {q g1 g2 a ci : Nat} {fs : List Value} (h : tP I P F k q g1 g2 xt) (he : F a = .inr (ci, fs)) (hc : ci ≠ 0) (n : ∀ b, b ≠ a → F1 b = F b) : tP I P F1 k q g1 g2 xt := by
  have go : ∀ m, sP I P F q m g1 g2 xt → sP I P F1 q m g1 g2 xt := by
    rintro m ⟨u, h0, z, a1, a2, a3, a4, a5, a6, a7, a8, a9⟩
    refine ⟨u, h0, z, a1, (n q ?_).trans a2, a3, (n u ?_).trans a4, a5, a6, a7, a8, a9⟩
    · intro e
      rw [e, he] at a2
      injection a2 with a2
      injection a2 with a2
      exact hc a2
    · intro e
      rw [e, he] at a4
      cases a4
  exact ⟨fun z => go _ (h.1 z), fun z => go _ (h.2 z)⟩
theorem tP_pa {I : FieldType → ClassId} {P : List Nat} {F F1 : Nat → va_E} {k : Int32} {xt : gTx} {q g1 g2 a : Nat} {x : ClassId × vp_A} (h : tP I P F k q g1 g2 xt) (he : F a = .inl x) (ha : a = g1 ∨ a = g2) (n : ∀ b, b ≠ a → F1 b = F b) : tP I P F1 k q g1 g2 xt := by
  have go : ∀ m, sP I P F q m g1 g2 xt → sP I P F1 q m g1 g2 xt := by
    rintro m ⟨u, h0, z, a1, a2, a3, a4, a5, a6, a7, a8, a9⟩
    refine ⟨u, h0, z, a1, (n q ?_).trans a2, a3, (n u ?_).trans a4, a5, a6, a7, a8, a9⟩
    · intro e
      rw [e, he] at a2
      cases a2
    · intro e
      rcases ha with ha | ha
      · exact a8 (e.trans ha)
      · exact a9 (e.trans ha)
  exact ⟨fun z => go _ (h.1 z), fun z => go _ (h.2 z)⟩
/-- new cells; the lists of goals may be new -/
theorem tP_new {I : FieldType → ClassId} {P P1 : List Nat} {F F1 : Nat → va_E} {k : Int32} {xt : gTx} {q g1 g2 h1 h2 : Nat} (h : tP I P F k q g1 g2 xt) (hs : rSub P P1) (hf : ∀ b, b ∈ P → F1 b = F b) (e1 : h1 = g1 ∨ h1 ∉ P) (e2 : h2 = g2 ∨ h2 ∉ P) : tP I P1 F1 k q h1 h2 xt := by
  have go : ∀ m, sP I P F q m g1 g2 xt → sP I P1 F1 q m h1 h2 xt := by
    rintro m ⟨u, h0, z, a1, a2, a3, a4, a5, a6, a7, a8, a9⟩
    refine ⟨u, h0, z, hs _ a1, (hf _ a1).trans a2, hs _ a3, (hf _ a3).trans a4, a5, a6, a7, ?_, ?_⟩
    · rcases e1 with e1 | e1
      · rw [e1]; exact a8
      · exact fun e => e1 (e ▸ a3)
    · rcases e2 with e2 | e2
      · rw [e2]; exact a9
      · exact fun e => e2 (e ▸ a3)
  exact ⟨fun z => go _ (h.1 z), fun z => go _ (h.2 z)⟩
theorem vP_eq {k v j : Int32} (h : vP k v) (e : k.toInt = j.toInt) : vP j v := by
  have := Int32.toInt_inj.mp e
  subst this
  exact h
/-- what a row's operand is -/
def rwP (ra a : Int32) : Prop := ra.toInt = 0 ∨ (0 ≤ a.toInt ∧ a.toInt ≤ 1999)
theorem rwP_0 {a : Int32} : rwP 0 a := Or.inl (by decide)
theorem rwP_1 {a k ra : Int32} (h : vP k a) (hk : k.toInt = 2) : rwP ra a := Or.inr (by have := h.1 hk; omega)
def opP (o : Int32) : Prop := o.toInt ≤ 14 ∨ 20 ≤ o.toInt
/-- a letter of a literal -/
def chP (f : Nat → Int32) (i r : Int32) : Prop := 0 ≤ (f i.toNatClampNeg).toInt → r.toInt = (f i.toNatClampNeg).toInt
theorem chP_of {f : Nat → Int32} {i z y r : Int32} (hz : z = f i.toNatClampNeg) (hy : y = z &&& 255) (hr : r.toInt = y.toInt) (hb : z.toInt ≤ 127) : chP f i r := by
  intro h
  rw [← hz] at h ⊢
  rw [hr, hy]
  have e : ∀ n : Nat, n < 128 → ((Int32.ofNat n) &&& 255) = Int32.ofNat n := by decide
  have e2 : z = Int32.ofNat z.toInt.toNat := by
    apply Int32.toInt_inj.mp
    have : ∀ n : Nat, n < 128 → (Int32.ofNat n).toInt = n := by decide
    rw [this _ (by omega)]
    omega
  rw [e2, e _ (by omega)]
/-- how many blanks lie in front of k -/
def opsN (k : Nat) : Nat := ((sb_42.take k).filter (fun x => x == 32)).length
def opI (k n : Int32) : Prop := 0 ≤ k.toInt ∧ n.toInt = 1 + (opsN k.toInt.toNat : Int)
theorem opI_0 : opI 0 1 := ⟨by decide, by decide⟩
theorem opI_st {k n k1 n1 r : Int32} {d : Int} (h : opI k n) (hk : k.toInt < 34) (hk1 : k1.toInt = k.toInt + 1) (hn : n1.toInt = n.toInt + d) (ch : chP (fun j => sb_42.getD j 0) k r) (hd : (r.toInt = 32 ∧ d = 1) ∨ (r.toInt ≠ 32 ∧ d = 0)) : opI k1 n1 := by
  obtain ⟨h0, h1⟩ := h
  have q : ∀ j, j < 34 → 0 ≤ (sb_42.getD j 0).toInt ∧ opsN (j + 1) = opsN j + (if (sb_42.getD j 0).toInt = 32 then 1 else 0) := by decide
  have q1 := q k.toInt.toNat (by omega)
  have c1 : r.toInt = (sb_42.getD k.toInt.toNat 0).toInt := ch q1.1
  have e : k1.toInt.toNat = k.toInt.toNat + 1 := by omega
  refine ⟨by omega, ?_⟩
  rw [e, q1.2, ← c1]
  rcases hd with ⟨h2, h3⟩ | ⟨h2, h3⟩
  · rw [if_pos h2]; push_cast; omega
  · rw [if_neg h2]; push_cast; omega
theorem opI_b {k n : Int32} (h : opI k n) (hk : k.toInt ≤ 30) : gB n 1 14 := by
  obtain ⟨h0, h1⟩ := h
  have q : ∀ j, j < 31 → opsN j ≤ 13 := by decide
  have q1 := q k.toInt.toNat (by omega)
  exact ⟨by omega, by omega⟩
theorem opA {g f1 f2 f3 f4 : Nat → Int32} {r : Int32} {c m c1 c2 c3 : Int} (h0 : sF g f1 c m) (k1 : sK f1 f2 c1) (k2 : sK f2 f3 c2) (k3 : sK f3 f4 c3) (ix : ixP (fun j => sb_42.getD j 0) f4 r) (hc : c = 0) (hm : 0 < m) (hg : g 0 = 32) (p1 : 0 < c1) (p2 : 0 < c2) (p3 : 0 < c3) (h : 0 ≤ r.toInt) (hl : r.toInt ≤ 32) : r.toInt ≤ 30 := by
  have e : sb_42.getD r.toInt.toNat 0 = 32 := by
    have := ix h
    rw [k3 p3, k2 p2, k1 p1, h0 hc hm, hg] at this
    exact this
  have q : ∀ j, j < 33 → sb_42.getD j 0 = 32 → j ≤ 30 := by decide
  have := q r.toInt.toNat (by omega) e
  omega
theorem chb {bs : List Int32} {j : Nat} {z : Int32} (h : gLB bs) (hz : z = bs.getD j 0) : z.toInt ≤ 127 := by
  rw [hz]
  exact (gF_lst h j).2
