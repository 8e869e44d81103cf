/-! exact bits: clear; what back does -/
theorem rbt_clr {f f2 : Nat → Int64} {i z : Int32} {u v w x : Int64} (hz : z.toInt = i.toInt / 64) (hu : u = f z.toNatClampNeg) (hv : v = 1 <<< (i.toInt64 &&& 63)) (hx : x = v ^^^ (-1)) (hw : w = u &&& x) (hf : f2 = vp_updL f z.toNatClampNeg w) (h0 : 0 ≤ i.toInt) : ∀ k : Nat, rbt f2 k = (rbt f k && !decide ((k : Int) = i.toInt)) := fun k => by
  have hzn : (z.toNatClampNeg : Int) = z.toInt := g_nn (by omega)
  have hm1 : ∀ j : Fin 64, ((-1 : Int64)).toBitVec.getLsbD j.val = true := by decide +kernel
  rw [rbt_updL hf]
  split
  · next e =>
    rw [hw, Int64.toBitVec_and, BitVec.getLsbD_and, hu, ← e]
    show (rbt f k && _) = _
    congr 1
    rw [hx, Int64.toBitVec_xor, BitVec.getLsbD_xor, hm1 ⟨k % 64, by omega⟩, hv, lb_Qcnt i h0]
    have h2 : ((1 : Int64) <<< (Int64.ofNat (i.toInt.toNat % 64 % 64))).toBitVec.getLsbD (k % 64) = decide (k % 64 = i.toInt.toNat % 64) := r1_bit ⟨i.toInt.toNat % 64, by omega⟩ ⟨k % 64, by omega⟩
    rw [Nat.mod_mod] at h2
    rw [h2]
    have h3 : decide (k % 64 = i.toInt.toNat % 64) = decide ((k : Int) = i.toInt) := by
      apply decide_eq_decide.mpr
      omega
    rw [h3]
    cases decide ((k : Int) = i.toInt) <;> rfl
  · next e =>
    have hne : ¬ (k : Int) = i.toInt := fun c => e (by omega)
    rw [decide_eq_false hne, Bool.not_false, Bool.and_true]
theorem bkS_of {e : va_E} {op t a b s ra rb : Int32} {sl : Bool} {S : Nat → Bool} {k : Nat} (he : e = .inr (20, [.int op, .int t, .int a, .int b, .int s, .int ra, .int rb])) : bkS e sl S k = bkV sl op.toInt t.toInt a.toInt b.toInt s.toInt ra.toInt rb.toInt S k := by
  rw [he]
  rfl
/-- the set behind a row without slots: c1 cleared, ca, cb set -/
theorem bk_n {op t a b s ra rb : Int} {S : Nat → Bool} {k : Nat} {x : Bool} (c1 ca cb : Bool) (h1 : decide (op ≤ 21) = c1) (ha : decide (op ≠ 20 ∧ op ≠ 21 ∧ op ≠ 30 ∧ ra = 1) = ca) (hb : decide (0 < op ∧ op < 20 ∧ rb = 1) = cb)
    (hx : x = (((S k && !(c1 && decide ((k : Int) = t))) || (ca && decide ((k : Int) = a))) || (cb && decide ((k : Int) = b)))) : x = bkV false op t a b s ra rb S k := by
  rw [hx]
  unfold bkV
  rw [if_neg (by decide), h1, ha, hb]
theorem bk_s {op t a b s ra rb : Int} {S : Nat → Bool} {k : Nat} {x : Bool} (c1 ca : Bool) (h1 : decide (op = 23) = c1) (ha : decide (op = 21) = ca)
    (hx : x = ((S k && !(c1 && decide ((k : Int) = s))) || (ca && decide ((k : Int) = s)))) : x = bkV true op t a b s ra rb S k := by
  rw [hx]
  unfold bkV
  rw [if_pos rfl, h1, ha]
/-- the rows of live, by bits; what lies behind a block -/
def lvS (γ : Nat → Nat → Nat) (F : Nat → va_E) : Nat → Nat → Bool := fun b k => rbt (cL (F (γ 10 b))) k
def wyV (w f s : Int) (L : Nat → Nat → Bool) (k : Nat) : Bool := (decide (0 < w) && L f.toNat k) || (decide (1 < w) && L s.toNat k)
def bhV (op f s : Int) (L : Nat → Nat → Bool) (k : Nat) : Bool := if op = 32 then false else if op = 30 ∨ f = s then L f.toNat k else (L f.toNat k || L s.toNat k)
def rLv (γ : Nat → Nat → Nat) (F F1 : Nat → va_E) : Prop := ∀ i, i < 40 → F1 (γ 10 i) = F (γ 10 i)
theorem rLv_rf {γ : Nat → Nat → Nat} {F : Nat → va_E} : rLv γ F F := fun _ _ => rfl
theorem RS_live {D : va_G} {I : FieldType → ClassId} {P : List Nat} {F : Nat → va_E} {γ el : Nat → Nat → Nat} {a i : Nat} (hT : RS D I P F γ el) (h : rKd γ a 12) (hi : i < 40) : rKd γ (γ 10 i) 11 := by
  obtain ⟨g, g1, g2⟩ := show rk_12 I γ (F a) from RS_o hT h
  exact (g2 i hi).2.1
theorem rLv_put {D : va_G} {I : FieldType → ClassId} {P : List Nat} {F F1 F2 : Nat → va_E} {γ el : Nat → Nat → Nat} {a b k : Nat} (hT : RS D I P F1 γ el) (h : rKd γ a 12) (g : rLv γ F F1) (n : ∀ c, c ≠ b → F2 c = F1 c) (hb : rKd γ b k) (hk : k ≠ 11) : rLv γ F F2 := fun i hi => (n _ (rn_ty (RS_live hT h hi) hb (by omega))).trans (g i hi)
theorem zr_st {f f2 : Nat → Int64} {i z : Int32} (hf : f2 = vp_updL f z.toNatClampNeg 0) (h : ∀ j : Nat, (j : Int) < z.toInt → f j = 0) (e : i.toInt = z.toInt + 1) (h0 : 0 ≤ z.toInt) : ∀ j : Nat, (j : Int) < i.toInt → f2 j = 0 := fun j hj => by
  have hzn : (z.toNatClampNeg : Int) = z.toInt := g_nn h0
  subst hf
  show (if j = z.toNatClampNeg then 0 else f j) = 0
  split
  · rfl
  · exact h j (by omega)
theorem rbt_z {f : Nat → Int64} {k : Nat} (h : f (k / 64) = 0) : rbt f k = false := by
  have h0 : ∀ j : Fin 64, (0 : Int64).toBitVec.getLsbD j.val = false := by decide +kernel
  unfold rbt
  rw [h]
  exact h0 ⟨k % 64, by omega⟩
theorem wy_0 {f s : Int} {L : Nat → Nat → Bool} {k : Nat} : wyV 0 f s L k = false := rfl
theorem wy_s {w f s y : Int} {L : Nat → Nat → Bool} {k : Nat} (h : (w = 0 ∧ y = f) ∨ (w = 1 ∧ y = s)) : wyV (w + 1) f s L k = (wyV w f s L k || L y.toNat k) := by
  unfold wyV
  rcases h with ⟨rfl, rfl⟩ | ⟨rfl, rfl⟩
  · simp
  · simp
/-- one more word -/
theorem or_st {f f2 g : Nat → Int64} {i z : Int32} {u v w : Int64} {A B : Nat → Bool} (hu : u = f z.toNatClampNeg) (hv : v = g z.toNatClampNeg) (hw : w = u ||| v) (hf : f2 = vp_updL f z.toNatClampNeg w) (h0 : 0 ≤ z.toInt) (e : i.toInt = z.toInt + 1)
    (h : ∀ k : Nat, k < 2048 → rbt f k = if (k : Int) < 64 * z.toInt then A k else B k) (hA : ∀ k : Nat, A k = (B k || rbt g k)) : ∀ k : Nat, k < 2048 → rbt f2 k = if (k : Int) < 64 * i.toInt then A k else B k := fun k hk => by
  have hzn : (z.toNatClampNeg : Int) = z.toInt := g_nn h0
  have h1 := h k hk
  rw [rbt_updL hf]
  split
  · next q =>
    rw [hw, Int64.toBitVec_or, BitVec.getLsbD_or, hu, hv, ← q]
    show (rbt f k || rbt g k) = _
    rw [h1, if_neg (by omega), if_pos (by omega), hA]
  · next q =>
    rw [h1]
    by_cases c : (k : Int) < 64 * z.toInt
    · rw [if_pos c, if_pos (by omega)]
    · rw [if_neg c, if_neg (by omega)]
theorem bh_of {op f s w : Int} {L : Nat → Nat → Bool} {k : Nat} (h : (w = 0 ∧ op = 32) ∨ (w = 1 ∧ op ≠ 32 ∧ (op = 30 ∨ f = s)) ∨ (w = 2 ∧ op ≠ 32 ∧ op ≠ 30 ∧ f ≠ s)) : wyV w f s L k = bhV op f s L k := by
  unfold bhV
  rcases h with ⟨rfl, h⟩ | ⟨rfl, h, g⟩ | ⟨rfl, h, g, e⟩
  · rw [if_pos h]; rfl
  · rw [if_neg h, if_pos g]; unfold wyV; simp
  · rw [if_neg h, if_neg (fun z => z.elim g e)]; unfold wyV; simp
