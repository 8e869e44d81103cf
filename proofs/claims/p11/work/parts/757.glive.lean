/-! sets of registers by their bits; what a row does to them, backwards: it is monotone -/
def rbt (f : Nat → Int64) (k : Nat) : Bool := (f (k / 64)).toBitVec.getLsbD (k % 64)
def cL (e : va_E) : Nat → Int64 := match e with
  | .inl (_, _, .inr (.inl f)) => f
  | _ => fun _ => 0
theorem cL_of {F : Nat → va_E} {a n : Nat} {c : ClassId} {f : Nat → Int64} (h : F a = .inl (c, n, .inr (.inl f))) : cL (F a) = f := by rw [h]; rfl
def fI (e : va_E) (k : Nat) : Int32 := match e with
  | .inr (_, fs) => match fs[k]? with
    | some (.int x) => x
    | _ => 0
  | _ => 0
def bkV (sl : Bool) (op t a b s ra rb : Int) (S : Nat → Bool) (k : Nat) : Bool :=
  if sl then (S k && !(decide (op = 23) && decide ((k : Int) = s))) || (decide (op = 21) && decide ((k : Int) = s))
  else ((S k && !(decide (op ≤ 21) && decide ((k : Int) = t))) || (decide (op ≠ 20 ∧ op ≠ 21 ∧ op ≠ 30 ∧ ra = 1) && decide ((k : Int) = a))) || (decide (0 < op ∧ op < 20 ∧ rb = 1) && decide ((k : Int) = b))
theorem bkV_mono {sl : Bool} {op t a b s ra rb : Int} {S S' : Nat → Bool} (h : ∀ k, S k = true → S' k = true) (k : Nat) : bkV sl op t a b s ra rb S k = true → bkV sl op t a b s ra rb S' k = true := by
  unfold bkV
  split
  · simp only [Bool.or_eq_true, Bool.and_eq_true]
    exact fun z => z.imp (fun z => ⟨h k z.1, z.2⟩) id
  · simp only [Bool.or_eq_true, Bool.and_eq_true]
    exact fun z => z.imp (fun z => z.imp (fun z => ⟨h k z.1, z.2⟩) id) id
def bkS (e : va_E) (sl : Bool) (S : Nat → Bool) : Nat → Bool := bkV sl (fI e 0).toInt (fI e 1).toInt (fI e 2).toInt (fI e 3).toInt (fI e 4).toInt (fI e 5).toInt (fI e 6).toInt S
theorem bkS_mono {e : va_E} {sl : Bool} {S S' : Nat → Bool} (h : ∀ k, S k = true → S' k = true) (k : Nat) : bkS e sl S k = true → bkS e sl S' k = true := bkV_mono h k
/-- the last d of n rows, backwards -/
def rfo (c : Nat → va_E) (sl : Bool) (n : Nat) (S : Nat → Bool) : Nat → Nat → Bool
  | 0 => S
  | d + 1 => bkS (c (n - 1 - d)) sl (rfo c sl n S d)
theorem rfo_mono {c : Nat → va_E} {sl : Bool} {n : Nat} {S S' : Nat → Bool} (h : ∀ k, S k = true → S' k = true) : ∀ d k, rfo c sl n S d k = true → rfo c sl n S' d k = true
  | 0, k => h k
  | d + 1, k => bkS_mono (rfo_mono h d) k
theorem rbt_updL {f f2 : Nat → Int64} {z : Nat} {w : Int64} (hf : f2 = vp_updL f z w) (k : Nat) : rbt f2 k = if k / 64 = z then w.toBitVec.getLsbD (k % 64) else rbt f k := by
  subst hf
  unfold rbt vp_updL
  split <;> rfl
theorem r1_bit : ∀ j : Fin 64, ∀ n : Fin 64, ((1 : Int64) <<< (Int64.ofNat (j.val % 64))).toBitVec.getLsbD n.val = decide (n.val = j.val) := by decide +kernel
theorem rbt_set {f f2 : Nat → Int64} {i z : Int32} {u v w : Int64} (hz : z.toInt = i.toInt / 64) (hu : u = f z.toNatClampNeg) (hv : v = 1 <<< (i.toInt64 &&& 63)) (hw : w = u ||| v) (hf : f2 = vp_updL f z.toNatClampNeg w) (h0 : 0 ≤ i.toInt) : ∀ k : Nat, rbt f2 k = (rbt f k || decide ((k : Int) = i.toInt)) := fun k => by
  have hzn : (z.toNatClampNeg : Int) = z.toInt := g_nn (by omega)
  rw [rbt_updL hf]
  split
  · next e =>
    rw [hw, Int64.toBitVec_or, BitVec.getLsbD_or, hu, ← e]
    show (rbt f k || _) = _
    congr 1
    rw [hv, lb_Qcnt i h0]
    have h2 : ((1 : Int64) <<< (Int64.ofNat (i.toInt.toNat % 64 % 64))).toBitVec.getLsbD (k % 64) = decide (k % 64 = i.toInt.toNat % 64) := r1_bit ⟨i.toInt.toNat % 64, by omega⟩ ⟨k % 64, by omega⟩
    rw [Nat.mod_mod] at h2
    rw [h2]
    apply decide_eq_decide.mpr
    omega
  · next e =>
    have hne : ¬ (k : Int) = i.toInt := fun c => e (by omega)
    rw [decide_eq_false hne, Bool.or_false]
