/-! spill: a row half done -/
def rS1 (g h : Nat → Int32) (e : va_E) (a q : Int) : Prop := ((fI e 0).toInt ≠ 20 → (fI e 0).toInt ≠ 21 → (fI e 0).toInt ≠ 30 → (fI e 5).toInt = 1 → nSp g h (fI e 2).toInt.toNat) ∧ (0 < (fI e 0).toInt → (fI e 0).toInt < 20 → (fI e 6).toInt = 1 → (0 ≤ q ∧ q ≠ a ∧ (fI e 3).toInt = q ∧ rSd g q.toNat) ∨ nSp g h (fI e 3).toInt.toNat) ∧ ((fI e 0).toInt ≤ 21 → rSd g (fI e 1).toInt.toNat) ∧ ((fI e 0).toInt = 21 → 100 ≤ (fI e 1).toInt)
def rS2 (g h : Nat → Int32) (e : va_E) : Prop := ((fI e 0).toInt ≠ 20 → (fI e 0).toInt ≠ 21 → (fI e 0).toInt ≠ 30 → (fI e 5).toInt = 1 → nSp g h (fI e 2).toInt.toNat) ∧ (0 < (fI e 0).toInt → (fI e 0).toInt < 20 → (fI e 6).toInt = 1 → nSp g h (fI e 3).toInt.toNat) ∧ ((fI e 0).toInt ≤ 21 → rSd g (fI e 1).toInt.toNat) ∧ ((fI e 0).toInt = 21 → 100 ≤ (fI e 1).toInt)
section RSJ
variable {F F1 : Nat → va_E} {x cc : Nat} {op t a b s ra rb t1 a1 b1 : Int32} {g h : Nat → Int32} {aL q : Int}
theorem nSp_k {m : Nat} (hm : rSd g m) (hh : (h m).toInt < 0) : nSp g h m := Or.inr ⟨hm.1, by unfold gSp; rw [if_pos hh]; exact hm.2⟩
theorem nSp_t {v : Int} (hv : 100 ≤ v) : nSp g h v.toNat := Or.inl (by omega)
theorem rS1_of (he : F x = .inr (cc, [.int op, .int t, .int a, .int b, .int s, .int ra, .int rb])) (he1 : F1 x = .inr (cc, [.int op, .int t, .int a1, .int b1, .int s, .int ra, .int rb])) (z : rNx (rSd g) (F x)) (ha : op.toInt ≠ 20 → op.toInt ≠ 21 → op.toInt ≠ 30 → ra.toInt = 1 → 100 ≤ a1.toInt ∨ (a1.toInt = a.toInt ∧ (h a.toInt.toNat).toInt < 0)) (hb : 0 < op.toInt → op.toInt < 20 → rb.toInt = 1 → 100 ≤ b1.toInt ∨ (b1.toInt = b.toInt ∧ b.toInt = q ∧ 0 ≤ q ∧ (q ≠ aL ∨ (h b.toInt.toNat).toInt < 0))) : rS1 g h (F1 x) aL q := by
  rw [rNx_of he] at z
  unfold rS1
  rw [he1]
  refine ⟨fun (c1 : op.toInt ≠ 20) (c2 : op.toInt ≠ 21) (c3 : op.toInt ≠ 30) (c4 : ra.toInt = 1) => ?_, fun (c1 : 0 < op.toInt) (c2 : op.toInt < 20) (c3 : rb.toInt = 1) => ?_, fun (c1 : op.toInt ≤ 21) => z.1 _ (Or.inl ⟨c1, rfl⟩), z.2⟩
  · show nSp g h a1.toInt.toNat
    rcases ha c1 c2 c3 c4 with e | ⟨e, e2⟩
    · exact nSp_t e
    · rw [e]
      exact nSp_k (z.1 _ (Or.inr (Or.inl ⟨⟨c1, c2, c3, c4⟩, rfl⟩))) e2
  · show (0 ≤ q ∧ q ≠ aL ∧ b1.toInt = q ∧ rSd g q.toNat) ∨ nSp g h b1.toInt.toNat
    have zb := z.1 _ (Or.inr (Or.inr ⟨⟨c1, c2, c3⟩, rfl⟩))
    rcases hb c1 c2 c3 with e | ⟨e, e2, e3, e4⟩
    · exact Or.inr (nSp_t e)
    · rcases e4 with e4 | e4
      · exact Or.inl ⟨e3, e4, e.trans e2, by rw [← e2]; exact zb⟩
      · rw [e]
        exact Or.inr (nSp_k zb e4)
theorem rS1_2 (z : rS1 g h (F x) aL q) (hq : q < 0 ∨ q = aL ∨ (h q.toNat).toInt < 0) : rS2 g h (F x) := by
  refine ⟨z.1, fun c1 c2 c3 => ?_, z.2.2⟩
  rcases z.2.1 c1 c2 c3 with ⟨e1, e2, e3, e4⟩ | e
  · rcases hq with k | k | k
    · omega
    · exact absurd k e2
    · rw [e3]
      exact nSp_k e4 k
  · exact e
theorem rS1_b (he : F x = .inr (cc, [.int op, .int t, .int a, .int b, .int s, .int ra, .int rb])) (he1 : F1 x = .inr (cc, [.int op, .int t, .int a, .int b1, .int s, .int ra, .int rb])) (hb : 100 ≤ b1.toInt) (z : rS1 g h (F x) aL q) : rS2 g h (F1 x) := by
  unfold rS1 at z
  unfold rS2
  rw [he] at z
  rw [he1]
  exact ⟨z.1, fun _ _ _ => nSp_t hb, z.2.2⟩
theorem rS2_n (he : F x = .inr (cc, [.int op, .int t, .int a, .int b, .int s, .int ra, .int rb])) (he1 : F1 x = .inr (cc, [.int op, .int t1, .int a, .int b, .int s, .int ra, .int rb])) (z : rS2 g h (F x)) (ht : op.toInt ≤ 21 → 100 ≤ t1.toInt ∨ (t1.toInt = t.toInt ∧ (op.toInt = 21 ∨ (h t.toInt.toNat).toInt < 0))) : rNx (nSp g h) (F1 x) := by
  unfold rS2 at z
  rw [he] at z
  rw [rNx_of he1]
  refine ⟨fun m hm => ?_, fun k => ?_⟩
  · unfold nmV at hm
    rcases hm with ⟨c1, c2⟩ | ⟨c1, c2⟩ | ⟨c1, c2⟩
    · rcases ht c1 with e | ⟨e, e2⟩
      · rw [c2]
        exact nSp_t e
      · rcases e2 with e2 | e2
        · have k : 100 ≤ t.toInt := z.2.2.2 e2
          rw [c2, e]
          exact nSp_t k
        · rw [c2, e]
          exact nSp_k (z.2.2.1 c1) e2
    · rw [c2]
      exact z.1 c1.1 c1.2.1 c1.2.2.1 c1.2.2.2
    · rw [c2]
      exact z.2.1 c1.1 c1.2.1 c1.2.2
  · rcases ht (by omega) with e | ⟨e, -⟩
    · exact e
    · have k2 : 100 ≤ t.toInt := z.2.2.2 k
      omega
end RSJ
theorem uA_1 {r op ra : Int} (h : uA r op ra) (r1 : r = 1) : op ≠ 20 ∧ op ≠ 21 ∧ op ≠ 30 ∧ ra = 1 := by unfold uA at h; omega
theorem uB_1 {r op rb : Int} (h : uB r op rb) (r1 : r = 1) : 0 < op ∧ op < 20 ∧ rb = 1 := by unfold uB at h; omega
theorem ms_g {S S' n : Nat} {g z : Int} (h : S + 1 - g.toNat < n + 1) (hz : z - g = (S' : Int) - S + 1) (h0 : 0 ≤ g) (h1 : g ≤ S) : S' + 1 - z.toNat < n := by omega
theorem ms_j {S S' n : Nat} {g z : Int} (h : S + 1 - g.toNat < n + 1) (hz : z - g = (S' : Int) - S) (h0 : 0 ≤ g) (h1 : g ≤ S + 1) : S' + 1 - z.toNat < n + 1 := by omega
theorem tn_lt {b : Int} {n : Nat} (h0 : 0 ≤ b) (h : b < n) : b.toNat < n := by omega
theorem tn_le0 {b : Int} {n : Nat} (h0 : 0 ≤ b) (h : b ≤ n) : b.toNat ≤ n := by omega
theorem tn_le1 {b : Int} {n : Nat} (h0 : 0 ≤ b) (h : b + 1 ≤ n) : b.toNat + 1 ≤ n := by omega
theorem tn_le2 {b : Int} {n : Nat} (h0 : 0 ≤ b) (h : b + 2 ≤ n) : b.toNat + 1 + 1 ≤ n := by omega
theorem tn_eq0 {z g : Int} (h0 : 0 ≤ g) (h : z = g) : z.toNat = g.toNat := by omega
theorem tn_eq1 {z g : Int} (h0 : 0 ≤ g) (h : z = g + 1) : z.toNat = g.toNat + 1 := by omega
theorem tn_eq2 {z g : Int} (h0 : 0 ≤ g) (h : z = g + 2) : z.toNat = g.toNat + 1 + 1 := by omega
theorem tn_ge {v : Int} (h : 100 ≤ v) : 100 ≤ v.toNat := by omega
/-- row j of s rows, or the end of the block (its operation is 30 or more) -/
def eO (j : Int) (s : Nat) (o : Int) : Prop := j < s ∨ 30 ≤ o
theorem eO_l {j : Int} {s : Nat} {o : Int} (h : j < s) : eO j s o := Or.inl h
theorem eO_c {j : Int} {s : Nat} {o op : Int} (e : o = op) (h : j < s ∨ 30 ≤ op) : eO j s o := by unfold eO; omega
theorem eO_j {j j1 : Int} {s s1 : Nat} {o o1 op : Int} (h : eO j s o) (e1 : o1 = op) (e : o = op) (k : j1 - j = (s1 : Int) - s) : eO j1 s1 o1 := by unfold eO at h ⊢; omega
theorem eO_r {j : Int} {s : Nat} {o op : Int} (h : eO j s o) (e : o = op) (k : op ≤ 21) : j < s := by unfold eO at h; omega
theorem uS_1 {r op : Int} (h : uS r op) (r1 : r = 1) : op ≤ 21 := by unfold uS at h; omega
theorem rm_pp {a b : Nat} (h : a ≤ b) : 18 * ((b - a) / 18) + a ≤ b ∧ (b - a) + a ≤ b := by omega
