/-! goals of a reader: what the arrays hold -/
def glP (f : Nat → Int32) : Prop := gF f 0 8192
def glB (f g : Nat → Int32) : Prop := ∀ lo hi : Int, lo ≤ 0 → 0 ≤ hi → gF f lo hi → gF g lo hi
def glC (f g : Nat → Int32) (c : Int) : Prop := ∀ j : Nat, (j : Int) < c → g j = f j
def glL (f : Nat → Int32) (n r : Int32) : Prop := f n.toInt.toNat = r
def glE (f g : Nat → Int32) (n n1 a b : Int32) : Prop := glC f g n.toInt ∧ ∀ x : Int32, x = a ∨ x = b → x.toInt = 0 ∨ ∃ j : Nat, (j : Int) < n1.toInt ∧ g j = x
def isK (k r : Int32) : Prop := r.toInt = 0 ∨ k.toInt ≠ 0
theorem glC_rf {f : Nat → Int32} {c : Int} : glC f f c := fun _ _ => rfl
theorem glC_tr {f g h : Nat → Int32} {c d e : Int} (a : glC f g c) (b : glC g h d) (h1 : e ≤ c) (h2 : e ≤ d) : glC f h e := fun j hj => (b j (by omega)).trans (a j (by omega))
theorem glC_cpy {f g f1 : Nat → Int32} {sp dp n : Int32} {c : Int} (h : f1 = va_cpy f g sp.toNatClampNeg dp.toNatClampNeg n.toNatClampNeg) (hs : sp.toInt = 0) (hd : dp.toInt = 0) (hn : c ≤ n.toInt) : glC f f1 c := by
  intro j hj
  rw [h]
  have e1 : sp.toNatClampNeg = 0 := by show sp.toInt.toNat = 0; omega
  have e2 : dp.toNatClampNeg = 0 := by show dp.toInt.toNat = 0; omega
  have e3 : j < n.toNatClampNeg := by show j < n.toInt.toNat; omega
  unfold va_cpy
  rw [e1, e2]
  simp [e3]
theorem glB_cpy {f f1 : Nat → Int32} {s d n : Nat} (h : f1 = va_cpy f (fun _ => 0) s d n) : glB f f1 := fun lo hi h1 h2 hf => gF_cpy h hf (fun _ => ⟨by show lo ≤ Int32.toInt 0; exact h1, by show Int32.toInt 0 ≤ hi; exact h2⟩)
theorem glP_b {f g : Nat → Int32} (h : glB f g) (p : glP f) : glP g := h 0 8192 (by decide) (by decide) p
theorem glP_u {f g : Nat → Int32} {i : Nat} {z : Int32} (h : g = upd f i z) (p : glP f) (b : gB z 0 8192) : glP g := gF_upd h p b
theorem glP_0 : glP (fun _ => 0) := fun _ => ⟨by show (0 : Int) ≤ Int32.toInt 0; decide, by show Int32.toInt 0 ≤ (8192 : Int); decide⟩
theorem glC_u {f g h : Nat → Int32} {i z : Int32} {c : Int} (e : h = upd g i.toNatClampNeg z) (a : glC f g c) (hi : c ≤ i.toInt) : glC f h c := fun j hj => by
  rw [e]
  have e3 : j ≠ i.toNatClampNeg := by show j ≠ i.toInt.toNat; omega
  unfold upd
  rw [if_neg e3]
  exact a j hj
theorem glL_u {g h : Nat → Int32} {i z : Int32} (e : h = upd g i.toNatClampNeg z) : glL h i z := by
  unfold glL
  rw [e]
  show upd g i.toNatClampNeg z i.toNatClampNeg = z
  unfold upd
  rw [if_pos rfl]
theorem glE_0 {f : Nat → Int32} {n n1 a b : Int32} (h1 : a.toInt = 0) (h2 : b.toInt = 0) : glE f f n n1 a b := ⟨glC_rf, fun x hx => Or.inl (by rcases hx with h | h <;> rw [h] <;> assumption)⟩
theorem glE_1 {f g : Nat → Int32} {n n1 a : Int32} (c : glC f g n.toInt) (l : glL g n a) (h0 : 0 ≤ n.toInt) (h1 : n.toInt < n1.toInt) : glE f g n n1 a a := ⟨c, fun x hx => Or.inr ⟨n.toInt.toNat, by omega, by rcases hx with h | h <;> rw [h] <;> exact l⟩⟩
theorem glE_2 {f g h : Nat → Int32} {n m n1 a b : Int32} (c : glC f g n.toInt) (l : glL g n a) (c2 : glC g h m.toInt) (l2 : glL h m b) (h0 : 0 ≤ n.toInt) (h1 : n.toInt < m.toInt) (h2 : m.toInt < n1.toInt) : glE f h n n1 a b :=
  ⟨glC_tr c c2 (by omega) (by omega), fun x hx => Or.inr (by
    rcases hx with q | q
    · exact ⟨n.toInt.toNat, by omega, by rw [q]; exact (c2 _ (by omega)).trans l⟩
    · exact ⟨m.toInt.toNat, by omega, by rw [q]; exact l2⟩)⟩
def nzK (k : Int32) : Prop := k.toInt ≠ 0
theorem isK_1 {k r : Int32} (h : isK k r) (e : r.toInt ≠ 0) : nzK k := h.resolve_left e
def prQ (k : Int32) (a : Int) (b : Int32) : Prop := k.toInt = 0 ∨ a ≤ b.toInt
theorem prQ_le {k b : Int32} {a : Int} (h : prQ k a b) (z : nzK k) : a ≤ b.toInt := h.resolve_left z
theorem prP_q {k a b : Int32} {c d : Int} (h : prP k a b) (e : c ≤ a.toInt) (f : d ≤ c + 1) : prQ k d b := h.imp id (fun z => by omega)
def rwQ (a b k : Int32) : Prop := a.toInt + 1 ≤ b.toInt ∧ prQ k (a.toInt + 2) b
def opQ (o : Int32) : Prop := o.toInt ≤ 14 ∨ o.toInt = 20 ∨ o.toInt = 22
