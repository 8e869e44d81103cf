/-! rows of references: where their elements come from, what lies where behind a copy -/
def rSrc (g f : Nat → Option Nat) : Prop := ∀ j w, g j = some w → ∃ i, f i = some w
theorem rSrc_rf {f : Nat → Option Nat} : rSrc f f := fun j _ h => ⟨j, h⟩
theorem rSrc_tr {f g h : Nat → Option Nat} (a : rSrc h g) (b : rSrc g f) : rSrc h f := fun j w e => by
  obtain ⟨i, hi⟩ := a j w e
  exact b i w hi
theorem rSrc_none {f : Nat → Option Nat} : rSrc (fun _ => none) f := fun _ _ h => by cases h
theorem rSrc_cpy {f g h f2 : Nat → Option Nat} {s d n : Nat} (e : f2 = va_cpy f g s d n) (a : rSrc f h) (b : rSrc g h) : rSrc f2 h := fun j w hj => by
  rw [e] at hj
  unfold va_cpy at hj
  split at hj
  · exact a _ w hj
  · exact b _ w hj
theorem rSrc_upN {f g f2 : Nat → Option Nat} {k : Nat} (e : f2 = va_up f k none) (a : rSrc f g) : rSrc f2 g := fun j w hj => by
  rw [e] at hj
  unfold va_up at hj
  split at hj
  · cases hj
  · exact a _ w hj
theorem rEl_src {P : List Nat} {F : Nat → va_E} {f g : Nat → Option Nat} (h : rEl P F f) (a : rSrc g f) : rEl P F g := fun j w hj => by
  obtain ⟨i, hi⟩ := a j w hj
  exact h i w hi
theorem rC_cpy0 {f g f2 : Nat → Option Nat} {z : Int32} {m : Int} (e : f2 = va_cpy f g (0 : Int32).toNatClampNeg (0 : Int32).toNatClampNeg z.toNatClampNeg) (hz : m ≤ z.toInt) : ∀ j : Nat, (j : Int) < m → f2 j = f j := fun j hj => by
  have h0 : (0 : Int32).toNatClampNeg = 0 := by decide
  have h1 : (z.toNatClampNeg : Int) = z.toInt := g_nn (by omega)
  rw [e, h0]
  unfold va_cpy
  rw [if_pos (by omega)]
  congr 1
  omega
/-- an element put in at k -/
theorem rI_ins {f f1 f2 f3 : Nat → Option Nat} {k p n : Int32} {x : Nat} {m : Int} (h : ∀ j : Nat, (j : Int) < m → f1 j = f j) (e2 : f2 = va_cpy f1 f1 k.toNatClampNeg p.toNatClampNeg n.toNatClampNeg) (e3 : f3 = va_up f2 k.toNatClampNeg (some x)) (hk : 0 ≤ k.toInt) (hp : p.toInt = k.toInt + 1) (hn : n.toInt = m - k.toInt) (hm : k.toInt ≤ m) :
    (∀ j : Nat, (j : Int) < k.toInt → f3 j = f j) ∧ f3 k.toInt.toNat = some x ∧ ∀ j : Nat, k.toInt ≤ (j : Int) → (j : Int) < m → f3 (j + 1) = f j := by
  have h1 : (k.toNatClampNeg : Int) = k.toInt := g_nn hk
  have h2 : (p.toNatClampNeg : Int) = p.toInt := g_nn (by omega)
  have h3 : (n.toNatClampNeg : Int) = n.toInt := g_nn (by omega)
  refine ⟨fun j hj => ?_, ?_, fun j hj hj2 => ?_⟩
  · rw [e3, va_up_ne _ _ (by omega), e2]
    unfold va_cpy
    rw [if_neg (by omega)]
    exact h j (by omega)
  · rw [e3, show k.toInt.toNat = k.toNatClampNeg from rfl, va_up_self]
  · rw [e3, va_up_ne _ _ (by omega), e2]
    unfold va_cpy
    rw [if_pos (by omega), ← h j hj2]
    congr 1
    omega
/-- an element taken out at k: the rest moves down -/
theorem rI_del {f f2 f3 : Nat → Option Nat} {k p n q : Int32} {m : Int} (e2 : f2 = va_cpy f f p.toNatClampNeg k.toNatClampNeg n.toNatClampNeg) (e3 : f3 = va_up f2 q.toNatClampNeg none) (hk : 0 ≤ k.toInt) (hp : p.toInt = k.toInt + 1) (hn : n.toInt = m - 1 - k.toInt) (hq : q.toInt = m - 1) (hm : k.toInt < m) :
    (∀ j : Nat, (j : Int) < k.toInt → f3 j = f j) ∧ ∀ j : Nat, k.toInt ≤ (j : Int) → (j : Int) < m - 1 → f3 j = f (j + 1) := by
  have h1 : (k.toNatClampNeg : Int) = k.toInt := g_nn hk
  have h2 : (p.toNatClampNeg : Int) = p.toInt := g_nn (by omega)
  have h3 : (n.toNatClampNeg : Int) = n.toInt := g_nn (by omega)
  have h4 : (q.toNatClampNeg : Int) = q.toInt := g_nn (by omega)
  refine ⟨fun j hj => ?_, fun j hj hj2 => ?_⟩
  · rw [e3, va_up_ne _ _ (by omega), e2]
    unfold va_cpy
    rw [if_neg (by omega)]
  · rw [e3, va_up_ne _ _ (by omega), e2]
    unfold va_cpy
    rw [if_pos (by omega)]
    congr 1
    omega
theorem rI_del0 {f f3 : Nat → Option Nat} {k q : Int32} {m : Int} (e3 : f3 = va_up f q.toNatClampNeg none) (hk : 0 ≤ k.toInt) (hq : q.toInt = m - 1) (hm : k.toInt = m - 1) :
    (∀ j : Nat, (j : Int) < k.toInt → f3 j = f j) ∧ ∀ j : Nat, k.toInt ≤ (j : Int) → (j : Int) < m - 1 → f3 j = f (j + 1) := by
  have h4 : (q.toNatClampNeg : Int) = q.toInt := g_nn (by omega)
  refine ⟨fun j hj => ?_, fun j hj hj2 => by omega⟩
  rw [e3, va_up_ne _ _ (by omega)]
/-- one more at the end -/
theorem rI_add {f f1 f2 : Nat → Option Nat} {k : Int32} {x : Nat} {m : Int} (h : ∀ j : Nat, (j : Int) < m → f1 j = f j) (e : f2 = va_up f1 k.toNatClampNeg (some x)) (hk : k.toInt = m) (h0 : 0 ≤ m) : (∀ j : Nat, (j : Int) < m → f2 j = f j) ∧ f2 k.toInt.toNat = some x := by
  have h1 : (k.toNatClampNeg : Int) = k.toInt := g_nn (by omega)
  refine ⟨fun j hj => ?_, ?_⟩
  · rw [e, va_up_ne _ _ (by omega)]
    exact h j hj
  · rw [e, show k.toInt.toNat = k.toNatClampNeg from rfl, va_up_self]
def rSrcX (g f : Nat → Option Nat) (x : Nat) : Prop := ∀ j w, g j = some w → w = x ∨ ∃ i, f i = some w
theorem rSrcX_up {f g f2 : Nat → Option Nat} {k x : Nat} (e : f2 = va_up f k (some x)) (a : rSrc f g) : rSrcX f2 g x := fun j w hj => by
  rw [e] at hj
  unfold va_up at hj
  split at hj
  · exact Or.inl (Option.some.inj hj).symm
  · exact Or.inr (a _ w hj)
theorem rX_none {g : Nat → Option Nat} {x : Nat} (h : rSrcX g (fun _ => none) x) : ∀ j w, g j = some w → w = x := fun j w e => by
  rcases h j w e with h | ⟨i, h⟩
  · exact h
  · cases h
