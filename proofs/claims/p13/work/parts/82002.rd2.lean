section
theorem tP_put {I : FieldType → ClassId} {P : List Nat} {F F1 : Nat → va_E} {k : Int32} {xt : gTx} {q g1 g2 a ci : Nat} {fs : List Value} (h : tP I P F k q g1 g2 xt) (he : F a = .inr (ci, fs)) (hc : ci ≠ 0) (n : ∀ b, b ≠ a → F1 b = F b) : tP I P F1 k q g1 g2 xt := by
  have go : ∀ m, sP I P F q m g1 g2 xt → sP I P F1 q m g1 g2 xt := by
    rintro m ⟨u, h0, z, a1, a2, a3, a4, a5, a6, a7, a8, a9⟩
    refine ⟨u, h0, z, a1, (n q ?_).trans a2, a3, (n u ?_).trans a4, a5, a6, a7, a8, a9⟩
    · intro e
      rw [e, he] at a2
      injection a2 with a2
      injection a2 with a2
      exact hc a2
    · intro e
      rw [e, he] at a4
      cases a4
  exact ⟨fun z => go _ (h.1 z), fun z => go _ (h.2 z)⟩
theorem tP_pa {I : FieldType → ClassId} {P : List Nat} {F F1 : Nat → va_E} {k : Int32} {xt : gTx} {q g1 g2 a : Nat} {x : ClassId × vp_A} (h : tP I P F k q g1 g2 xt) (he : F a = .inl x) (ha : a = g1 ∨ a = g2) (n : ∀ b, b ≠ a → F1 b = F b) : tP I P F1 k q g1 g2 xt := by
  have go : ∀ m, sP I P F q m g1 g2 xt → sP I P F1 q m g1 g2 xt := by
    rintro m ⟨u, h0, z, a1, a2, a3, a4, a5, a6, a7, a8, a9⟩
    refine ⟨u, h0, z, a1, (n q ?_).trans a2, a3, (n u ?_).trans a4, a5, a6, a7, a8, a9⟩
    · intro e
      rw [e, he] at a2
      cases a2
    · intro e
      rcases ha with ha | ha
      · exact a8 (e.trans ha)
      · exact a9 (e.trans ha)
  exact ⟨fun z => go _ (h.1 z), fun z => go _ (h.2 z)⟩
/-- new cells; the lists of goals may be new -/
theorem tP_new {I : FieldType → ClassId} {P P1 : List Nat} {F F1 : Nat → va_E} {k : Int32} {xt : gTx} {q g1 g2 h1 h2 : Nat} (h : tP I P F k q g1 g2 xt) (hs : rSub P P1) (hf : ∀ b, b ∈ P → F1 b = F b) (e1 : h1 = g1 ∨ h1 ∉ P) (e2 : h2 = g2 ∨ h2 ∉ P) : tP I P1 F1 k q h1 h2 xt := by
  have go : ∀ m, sP I P F q m g1 g2 xt → sP I P1 F1 q m h1 h2 xt := by
    rintro m ⟨u, h0, z, a1, a2, a3, a4, a5, a6, a7, a8, a9⟩
    refine ⟨u, h0, z, hs _ a1, (hf _ a1).trans a2, hs _ a3, (hf _ a3).trans a4, a5, a6, a7, ?_, ?_⟩
    · rcases e1 with e1 | e1
      · rw [e1]; exact a8
      · exact fun e => e1 (e ▸ a3)
    · rcases e2 with e2 | e2
      · rw [e2]; exact a9
      · exact fun e => e2 (e ▸ a3)
  exact ⟨fun z => go _ (h.1 z), fun z => go _ (h.2 z)⟩
theorem vP_eq {k v j : Int32} (h : vP k v) (e : k.toInt = j.toInt) : vP j v := by
  have := Int32.toInt_inj.mp e
  subst this
  exact h
/-- what a row's operand is -/
def rwP (ra a : Int32) : Prop := ra.toInt = 0 ∨ (0 ≤ a.toInt ∧ a.toInt ≤ 1999)
theorem rwP_0 {a : Int32} : rwP 0 a := Or.inl (by decide)
theorem rwP_1 {a k ra : Int32} (h : vP k a) (hk : k.toInt = 2) : rwP ra a := Or.inr (by have := h.1 hk; omega)
def opP (o : Int32) : Prop := o.toInt ≤ 14 ∨ 20 ≤ o.toInt
/-- a letter of a literal -/
def chP (f : Nat → Int32) (i r : Int32) : Prop := 0 ≤ (f i.toNatClampNeg).toInt → r.toInt = (f i.toNatClampNeg).toInt
theorem chP_of {f : Nat → Int32} {i z y r : Int32} (hz : z = f i.toNatClampNeg) (hy : y = z &&& 255) (hr : r.toInt = y.toInt) (hb : z.toInt ≤ 127) : chP f i r := by
  intro h
  rw [← hz] at h ⊢
  rw [hr, hy]
  have e : ∀ n : Nat, n < 128 → ((Int32.ofNat n) &&& 255) = Int32.ofNat n := by decide
  have e2 : z = Int32.ofNat z.toInt.toNat := by
    apply Int32.toInt_inj.mp
    have : ∀ n : Nat, n < 128 → (Int32.ofNat n).toInt = n := by decide
    rw [this _ (by omega)]
    omega
  rw [e2, e _ (by omega)]
/-- how many blanks lie in front of k -/
def opsN (k : Nat) : Nat := ((sb_42.take k).filter (fun x => x == 32)).length
def opI (k n : Int32) : Prop := 0 ≤ k.toInt ∧ n.toInt = 1 + (opsN k.toInt.toNat : Int)
theorem opI_0 : opI 0 1 := ⟨by decide, by decide⟩
theorem opI_st {k n k1 n1 r : Int32} {d : Int} (h : opI k n) (hk : k.toInt < 34) (hk1 : k1.toInt = k.toInt + 1) (hn : n1.toInt = n.toInt + d) (ch : chP (fun j => sb_42.getD j 0) k r) (hd : (r.toInt = 32 ∧ d = 1) ∨ (r.toInt ≠ 32 ∧ d = 0)) : opI k1 n1 := by
  obtain ⟨h0, h1⟩ := h
  have q : ∀ j, j < 34 → 0 ≤ (sb_42.getD j 0).toInt ∧ opsN (j + 1) = opsN j + (if (sb_42.getD j 0).toInt = 32 then 1 else 0) := by decide
  have q1 := q k.toInt.toNat (by omega)
  have c1 : r.toInt = (sb_42.getD k.toInt.toNat 0).toInt := ch q1.1
  have e : k1.toInt.toNat = k.toInt.toNat + 1 := by omega
  refine ⟨by omega, ?_⟩
  rw [e, q1.2, ← c1]
  rcases hd with ⟨h2, h3⟩ | ⟨h2, h3⟩
  · rw [if_pos h2]; push_cast; omega
  · rw [if_neg h2]; push_cast; omega
theorem opI_b {k n : Int32} (h : opI k n) (hk : k.toInt ≤ 30) : gB n 1 14 := by
  obtain ⟨h0, h1⟩ := h
  have q : ∀ j, j < 31 → opsN j ≤ 13 := by decide
  have q1 := q k.toInt.toNat (by omega)
  exact ⟨by omega, by omega⟩
theorem opA {g f1 f2 f3 f4 : Nat → Int32} {r : Int32} {c m c1 c2 c3 : Int} (h0 : sF g f1 c m) (k1 : sK f1 f2 c1) (k2 : sK f2 f3 c2) (k3 : sK f3 f4 c3) (ix : ixP (fun j => sb_42.getD j 0) f4 r) (hc : c = 0) (hm : 0 < m) (hg : g 0 = 32) (p1 : 0 < c1) (p2 : 0 < c2) (p3 : 0 < c3) (h : 0 ≤ r.toInt) (hl : r.toInt ≤ 32) : r.toInt ≤ 30 := by
  have e : sb_42.getD r.toInt.toNat 0 = 32 := by
    have := ix h
    rw [k3 p3, k2 p2, k1 p1, h0 hc hm, hg] at this
    exact this
  have q : ∀ j, j < 33 → sb_42.getD j 0 = 32 → j ≤ 30 := by decide
  have := q r.toInt.toNat (by omega) e
  omega
theorem chb {bs : List Int32} {j : Nat} {z : Int32} (h : gLB bs) (hz : z = bs.getD j 0) : z.toInt ≤ 127 := by
  rw [hz]
  exact (gF_lst h j).2
end
section
theorem vP_g2 {v : Int32} (h : vP 2 v) : gB v 0 99 := by
  have := h.1 (by decide)
  exact ⟨this.1, this.2⟩
theorem vP_g3 {v : Int32} (h : vP 3 v) : gB v 0 39 := by
  have := h.2 (by decide)
  exact ⟨this.1, this.2⟩
theorem opP_of {o : Int32} (h : gB o 0 14) : opP o := Or.inl h.2
/-- a block's cell, its goals below 40 -/
def bkX (F : Nat → va_E) (b l n : Nat) : Prop := ∃ f s : Int32, F b = .inr (17, [.ref l, .ref n, .int f, .int s]) ∧ gB f 0 39 ∧ gB s 0 39
theorem prP_lt {k a b : Int32} (h : prP k a b) (e : k.toInt ≠ 0) : a.toInt < b.toInt := h.resolve_left e
end
section
/-! goals of a reader: what the arrays hold -/
def glP (f : Nat → Int32) : Prop := gF f 0 8192
def glB (f g : Nat → Int32) : Prop := ∀ lo hi : Int, lo ≤ 0 → 0 ≤ hi → gF f lo hi → gF g lo hi
def glC (f g : Nat → Int32) (c : Int) : Prop := ∀ j : Nat, (j : Int) < c → g j = f j
def glL (f : Nat → Int32) (n r : Int32) : Prop := f n.toInt.toNat = r
def glE (f g : Nat → Int32) (n n1 a b : Int32) : Prop := glC f g n.toInt ∧ ∀ x : Int32, x = a ∨ x = b → x.toInt = 0 ∨ ∃ j : Nat, (j : Int) < n1.toInt ∧ g j = x
def isK (k r : Int32) : Prop := r.toInt = 0 ∨ k.toInt ≠ 0
theorem glC_rf {f : Nat → Int32} {c : Int} : glC f f c := fun _ _ => rfl
theorem glC_tr {f g h : Nat → Int32} {c d e : Int} (a : glC f g c) (b : glC g h d) (h1 : e ≤ c) (h2 : e ≤ d) : glC f h e := fun j hj => (b j (by omega)).trans (a j (by omega))
theorem glC_cpy {f g f1 : Nat → Int32} {sp dp n : Int32} {c : Int} (h : f1 = va_cpy f g sp.toNatClampNeg dp.toNatClampNeg n.toNatClampNeg) (hs : sp.toInt = 0) (hd : dp.toInt = 0) (hn : c ≤ n.toInt) : glC f f1 c := by
  intro j hj
  rw [h]
  have e1 : sp.toNatClampNeg = 0 := by show sp.toInt.toNat = 0; omega
  have e2 : dp.toNatClampNeg = 0 := by show dp.toInt.toNat = 0; omega
  have e3 : j < n.toNatClampNeg := by show j < n.toInt.toNat; omega
  unfold va_cpy
  rw [e1, e2]
  simp [e3]
theorem glB_cpy {f f1 : Nat → Int32} {s d n : Nat} (h : f1 = va_cpy f (fun _ => 0) s d n) : glB f f1 := fun lo hi h1 h2 hf => gF_cpy h hf (fun _ => ⟨by show lo ≤ Int32.toInt 0; exact h1, by show Int32.toInt 0 ≤ hi; exact h2⟩)
theorem glP_b {f g : Nat → Int32} (h : glB f g) (p : glP f) : glP g := h 0 8192 (by decide) (by decide) p
theorem glP_u {f g : Nat → Int32} {i : Nat} {z : Int32} (h : g = upd f i z) (p : glP f) (b : gB z 0 8192) : glP g := gF_upd h p b
theorem glP_0 : glP (fun _ => 0) := fun _ => ⟨by show (0 : Int) ≤ Int32.toInt 0; decide, by show Int32.toInt 0 ≤ (8192 : Int); decide⟩
theorem glC_u {f g h : Nat → Int32} {i z : Int32} {c : Int} (e : h = upd g i.toNatClampNeg z) (a : glC f g c) (hi : c ≤ i.toInt) : glC f h c := fun j hj => by
  rw [e]
  have e3 : j ≠ i.toNatClampNeg := by show j ≠ i.toInt.toNat; omega
  unfold upd
  rw [if_neg e3]
  exact a j hj
theorem glL_u {g h : Nat → Int32} {i z : Int32} (e : h = upd g i.toNatClampNeg z) : glL h i z := by
  unfold glL
  rw [e]
  show upd g i.toNatClampNeg z i.toNatClampNeg = z
  unfold upd
  rw [if_pos rfl]
theorem glE_0 {f : Nat → Int32} {n n1 a b : Int32} (h1 : a.toInt = 0) (h2 : b.toInt = 0) : glE f f n n1 a b := ⟨glC_rf, fun x hx => Or.inl (by rcases hx with h | h <;> rw [h] <;> assumption)⟩
theorem glE_1 {f g : Nat → Int32} {n n1 a : Int32} (c : glC f g n.toInt) (l : glL g n a) (h0 : 0 ≤ n.toInt) (h1 : n.toInt < n1.toInt) : glE f g n n1 a a := ⟨c, fun x hx => Or.inr ⟨n.toInt.toNat, by omega, by rcases hx with h | h <;> rw [h] <;> exact l⟩⟩
theorem glE_2 {f g h : Nat → Int32} {n m n1 a b : Int32} (c : glC f g n.toInt) (l : glL g n a) (c2 : glC g h m.toInt) (l2 : glL h m b) (h0 : 0 ≤ n.toInt) (h1 : n.toInt < m.toInt) (h2 : m.toInt < n1.toInt) : glE f h n n1 a b :=
  ⟨glC_tr c c2 (by omega) (by omega), fun x hx => Or.inr (by
    rcases hx with q | q
    · exact ⟨n.toInt.toNat, by omega, by rw [q]; exact (c2 _ (by omega)).trans l⟩
    · exact ⟨m.toInt.toNat, by omega, by rw [q]; exact l2⟩)⟩
def nzK (k : Int32) : Prop := k.toInt ≠ 0
theorem isK_1 {k r : Int32} (h : isK k r) (e : r.toInt ≠ 0) : nzK k := h.resolve_left e
def prQ (k : Int32) (a : Int) (b : Int32) : Prop := k.toInt = 0 ∨ a ≤ b.toInt
theorem prQ_le {k b : Int32} {a : Int} (h : prQ k a b) (z : nzK k) : a ≤ b.toInt := h.resolve_left z
theorem prP_q {k a b : Int32} {c d : Int} (h : prP k a b) (e : c ≤ a.toInt) (f : d ≤ c + 1) : prQ k d b := h.imp id (fun z => by omega)
def rwQ (a b k : Int32) : Prop := a.toInt + 1 ≤ b.toInt ∧ prQ k (a.toInt + 2) b
def opQ (o : Int32) : Prop := o.toInt ≤ 14 ∨ o.toInt = 20 ∨ o.toInt = 22
end
section
theorem dr_cJ5_length_8abf5_0 : decode cJ5_length_8abf5 0 = .ok (.aload_n 0, 1) := by decide +kernel
theorem dr_cJ5_length_8abf5_1 : decode cJ5_length_8abf5 1 = .ok (.getfield 79, 3) := by decide +kernel
theorem wr_7_64 : (Jvm.Cond.fieldLink "java/lang/AbstractStringBuilder" (79 : Nat) "java/lang/AbstractStringBuilder" "count" "I") ∈ gw := gw_7 64 rfl rfl
theorem dr_cJ5_length_8abf5_4 : decode cJ5_length_8abf5 4 = .ok (.ireturn, 1) := by decide +kernel
theorem dr_cJ4_length_8abf5_0 : decode cJ4_length_8abf5 0 = .ok (.aload_n 0, 1) := by decide +kernel
theorem dr_cJ4_length_8abf5_1 : decode cJ4_length_8abf5 1 = .ok (.invokespecial 343, 3) := by decide +kernel
theorem wr_8_90 : (Jvm.Cond.methodLink "java/lang/StringBuilder" (343 : Nat) ({ cls := "java/lang/AbstractStringBuilder", name := "length", desc := "()I" } : Jvm.MethodName)) ∈ gw := gw_8 90 rfl rfl
theorem wr_1_19 : (Jvm.Cond.initialized "java/lang/AbstractStringBuilder") ∈ gw := gw_1 19 rfl rfl
theorem wr_8_91 : (Jvm.Cond.code ({ cls := "java/lang/AbstractStringBuilder", name := "length", desc := "()I" } : Jvm.MethodName) prog_21_method_6_code (1 : Nat) (Option.some Jvm.ClassFile.FieldType.int)) ∈ gw := gw_8 91 rfl rfl
theorem wr_8_85 : (Jvm.Cond.instanceMethod ({ cls := "java/lang/AbstractStringBuilder", name := "length", desc := "()I" } : Jvm.MethodName)) ∈ gw := gw_8 85 rfl rfl
theorem wr_8_86 : (Jvm.Cond.sameMethod "java/lang/AbstractStringBuilder" "java/lang/AbstractStringBuilder" "length" "()I") ∈ gw := gw_8 86 rfl rfl
theorem wr_7_73 : (Jvm.Cond.superclass "java/lang/StringBuilder" "java/lang/AbstractStringBuilder") ∈ gw := gw_7 73 rfl rfl
theorem wr_7_44 : (Jvm.Cond.instantiable "java/lang/StringBuilder" (4 : Nat)) ∈ gw := gw_7 44 rfl rfl
theorem dr_cJ4_length_8abf5_4 : decode cJ4_length_8abf5 4 = .ok (.ireturn, 1) := by decide +kernel
theorem dr_cJ0_checkIndex_df160_0 : decode cJ0_checkIndex_df160 0 = .ok (.iload_n 0, 1) := by decide +kernel
theorem dr_cJ0_checkIndex_df160_1 : decode cJ0_checkIndex_df160 1 = .ok (.iload_n 1, 1) := by decide +kernel
theorem dr_cJ0_checkIndex_df160_2 : decode cJ0_checkIndex_df160 2 = .ok (.getstatic 1053, 3) := by decide +kernel
theorem wr_3_81 : (Jvm.Cond.fieldLink "java/lang/String" (1053 : Nat) "jdk/internal/util/Preconditions" "SIOOBE_FORMATTER" "Ljava/util/function/BiFunction;") ∈ gw := gw_3 81 rfl rfl
theorem dr_cJ0_checkIndex_df160_5 : decode cJ0_checkIndex_df160 5 = .ok (.invokestatic 1059, 3) := by decide +kernel
theorem wr_3_83 : (Jvm.Cond.methodLink "java/lang/String" (1059 : Nat) ({ cls := "jdk/internal/util/Preconditions", name := "checkIndex", desc := "(IILjava/util/function/BiFunction;)I" } : Jvm.MethodName)) ∈ gw := gw_3 83 rfl rfl
theorem dr_cJ0_checkIndex_df160_8 : decode cJ0_checkIndex_df160 8 = .ok (.pop, 1) := by decide +kernel
theorem dr_cJ0_checkIndex_df160_9 : decode cJ0_checkIndex_df160 9 = .ok (.return_, 1) := by decide +kernel
theorem dr_cJ5_charAt_5068e_0 : decode cJ5_charAt_5068e 0 = .ok (.aload_n 0, 1) := by decide +kernel
theorem dr_cJ5_charAt_5068e_1 : decode cJ5_charAt_5068e 1 = .ok (.getfield 22, 3) := by decide +kernel
theorem wr_7_61 : (Jvm.Cond.fieldLink "java/lang/AbstractStringBuilder" (22 : Nat) "java/lang/AbstractStringBuilder" "coder" "B") ∈ gw := gw_7 61 rfl rfl
theorem dr_cJ5_charAt_5068e_4 : decode cJ5_charAt_5068e 4 = .ok (.istore_n 2, 1) := by decide +kernel
theorem dr_cJ5_charAt_5068e_5 : decode cJ5_charAt_5068e 5 = .ok (.aload_n 0, 1) := by decide +kernel
theorem dr_cJ5_charAt_5068e_6 : decode cJ5_charAt_5068e 6 = .ok (.getfield 15, 3) := by decide +kernel
theorem wr_7_60 : (Jvm.Cond.fieldLink "java/lang/AbstractStringBuilder" (15 : Nat) "java/lang/AbstractStringBuilder" "value" "[B") ∈ gw := gw_7 60 rfl rfl
theorem dr_cJ5_charAt_5068e_9 : decode cJ5_charAt_5068e 9 = .ok (.astore_n 3, 1) := by decide +kernel
theorem dr_cJ5_charAt_5068e_10 : decode cJ5_charAt_5068e 10 = .ok (.aload_n 0, 1) := by decide +kernel
theorem dr_cJ5_charAt_5068e_11 : decode cJ5_charAt_5068e 11 = .ok (.getfield 79, 3) := by decide +kernel
theorem dr_cJ5_charAt_5068e_14 : decode cJ5_charAt_5068e 14 = .ok (.aload_n 3, 1) := by decide +kernel
theorem dr_cJ5_charAt_5068e_15 : decode cJ5_charAt_5068e 15 = .ok (.arraylength, 1) := by decide +kernel
theorem dr_cJ5_charAt_5068e_16 : decode cJ5_charAt_5068e 16 = .ok (.iload_n 2, 1) := by decide +kernel
theorem dr_cJ5_charAt_5068e_17 : decode cJ5_charAt_5068e 17 = .ok (.ishr, 1) := by decide +kernel
theorem dr_cJ5_charAt_5068e_18 : decode cJ5_charAt_5068e 18 = .ok (.invokestatic 138, 3) := by decide +kernel
theorem wr_11_216 : (Jvm.Cond.methodLink "java/lang/AbstractStringBuilder" (138 : Nat) ({ cls := "java/lang/Math", name := "min", desc := "(II)I" } : Jvm.MethodName)) ∈ gw := gw_11 216 rfl rfl
theorem dr_cJ5_charAt_5068e_21 : decode cJ5_charAt_5068e 21 = .ok (.istore 4, 2) := by decide +kernel
theorem dr_cJ5_charAt_5068e_23 : decode cJ5_charAt_5068e 23 = .ok (.iload_n 1, 1) := by decide +kernel
theorem dr_cJ5_charAt_5068e_24 : decode cJ5_charAt_5068e 24 = .ok (.iload 4, 2) := by decide +kernel
theorem dr_cJ5_charAt_5068e_26 : decode cJ5_charAt_5068e 26 = .ok (.invokestatic 144, 3) := by decide +kernel
theorem wr_11_217 : (Jvm.Cond.methodLink "java/lang/AbstractStringBuilder" (144 : Nat) ({ cls := "java/lang/String", name := "checkIndex", desc := "(II)V" } : Jvm.MethodName)) ∈ gw := gw_11 217 rfl rfl
theorem wr_1_21 : (Jvm.Cond.initialized "java/lang/String") ∈ gw := gw_1 21 rfl rfl
theorem wr_3_80 : (Jvm.Cond.code ({ cls := "java/lang/String", name := "checkIndex", desc := "(II)V" } : Jvm.MethodName) prog_34_method_155_code (2 : Nat) (Option.none : Option Jvm.ClassFile.FieldType)) ∈ gw := gw_3 80 rfl rfl
theorem wr_3_79 : (Jvm.Cond.static ({ cls := "java/lang/String", name := "checkIndex", desc := "(II)V" } : Jvm.MethodName)) ∈ gw := gw_3 79 rfl rfl
theorem dr_cJ5_charAt_5068e_29 : decode cJ5_charAt_5068e 29 = .ok (.iload_n 2, 1) := by decide +kernel
theorem dr_cJ5_charAt_5068e_30 : decode cJ5_charAt_5068e 30 = .ok (.ifCond .ne 12, 3) := by decide +kernel
theorem dr_cJ5_charAt_5068e_33 : decode cJ5_charAt_5068e 33 = .ok (.aload_n 3, 1) := by decide +kernel
theorem dr_cJ5_charAt_5068e_34 : decode cJ5_charAt_5068e 34 = .ok (.iload_n 1, 1) := by decide +kernel
theorem dr_cJ5_charAt_5068e_35 : decode cJ5_charAt_5068e 35 = .ok (.baload, 1) := by decide +kernel
theorem dr_cJ5_charAt_5068e_36 : decode cJ5_charAt_5068e 36 = .ok (.sipush 255, 3) := by decide +kernel
theorem dr_cJ5_charAt_5068e_39 : decode cJ5_charAt_5068e 39 = .ok (.iand, 1) := by decide +kernel
theorem dr_cJ5_charAt_5068e_40 : decode cJ5_charAt_5068e 40 = .ok (.i2c, 1) := by decide +kernel
theorem dr_cJ5_charAt_5068e_41 : decode cJ5_charAt_5068e 41 = .ok (.ireturn, 1) := by decide +kernel
theorem dr_cJ4_charAt_5068e_0 : decode cJ4_charAt_5068e 0 = .ok (.aload_n 0, 1) := by decide +kernel
theorem dr_cJ4_charAt_5068e_1 : decode cJ4_charAt_5068e 1 = .ok (.iload_n 1, 1) := by decide +kernel
theorem dr_cJ4_charAt_5068e_2 : decode cJ4_charAt_5068e 2 = .ok (.invokespecial 329, 3) := by decide +kernel
theorem wr_11_213 : (Jvm.Cond.methodLink "java/lang/StringBuilder" (329 : Nat) ({ cls := "java/lang/AbstractStringBuilder", name := "charAt", desc := "(I)C" } : Jvm.MethodName)) ∈ gw := gw_11 213 rfl rfl
theorem wr_11_215 : (Jvm.Cond.code ({ cls := "java/lang/AbstractStringBuilder", name := "charAt", desc := "(I)C" } : Jvm.MethodName) prog_21_method_14_code (5 : Nat) (Option.some Jvm.ClassFile.FieldType.char)) ∈ gw := gw_11 215 rfl rfl
theorem wr_11_214 : (Jvm.Cond.instanceMethod ({ cls := "java/lang/AbstractStringBuilder", name := "charAt", desc := "(I)C" } : Jvm.MethodName)) ∈ gw := gw_11 214 rfl rfl
theorem wr_11_235 : (Jvm.Cond.sameMethod "java/lang/AbstractStringBuilder" "java/lang/AbstractStringBuilder" "charAt" "(I)C") ∈ gw := gw_11 235 rfl rfl
theorem dr_cJ4_charAt_5068e_5 : decode cJ4_charAt_5068e 5 = .ok (.ireturn, 1) := by decide +kernel
theorem dr_cJ5_ensureCapacityInternal_d00df_0 : decode cJ5_ensureCapacityInternal_d00df 0 = .ok (.aload_n 0, 1) := by decide +kernel
theorem dr_cJ5_ensureCapacityInternal_d00df_1 : decode cJ5_ensureCapacityInternal_d00df 1 = .ok (.getfield 15, 3) := by decide +kernel
theorem dr_cJ5_ensureCapacityInternal_d00df_4 : decode cJ5_ensureCapacityInternal_d00df 4 = .ok (.arraylength, 1) := by decide +kernel
theorem dr_cJ5_ensureCapacityInternal_d00df_5 : decode cJ5_ensureCapacityInternal_d00df 5 = .ok (.aload_n 0, 1) := by decide +kernel
theorem dr_cJ5_ensureCapacityInternal_d00df_6 : decode cJ5_ensureCapacityInternal_d00df 6 = .ok (.getfield 22, 3) := by decide +kernel
theorem dr_cJ5_ensureCapacityInternal_d00df_9 : decode cJ5_ensureCapacityInternal_d00df 9 = .ok (.ishr, 1) := by decide +kernel
theorem dr_cJ5_ensureCapacityInternal_d00df_10 : decode cJ5_ensureCapacityInternal_d00df 10 = .ok (.istore_n 2, 1) := by decide +kernel
theorem dr_cJ5_ensureCapacityInternal_d00df_11 : decode cJ5_ensureCapacityInternal_d00df 11 = .ok (.iload_n 1, 1) := by decide +kernel
theorem dr_cJ5_ensureCapacityInternal_d00df_12 : decode cJ5_ensureCapacityInternal_d00df 12 = .ok (.iload_n 2, 1) := by decide +kernel
theorem dr_cJ5_ensureCapacityInternal_d00df_13 : decode cJ5_ensureCapacityInternal_d00df 13 = .ok (.isub, 1) := by decide +kernel
theorem dr_cJ5_ensureCapacityInternal_d00df_14 : decode cJ5_ensureCapacityInternal_d00df 14 = .ok (.ifCond .le 24, 3) := by decide +kernel
theorem dr_cJ5_ensureCapacityInternal_d00df_38 : decode cJ5_ensureCapacityInternal_d00df 38 = .ok (.return_, 1) := by decide +kernel
theorem dr_cJ5_isLatin1_aae02_0 : decode cJ5_isLatin1_aae02 0 = .ok (.getstatic 18, 3) := by decide +kernel
theorem wr_7_52 : (Jvm.Cond.fieldLink "java/lang/AbstractStringBuilder" (18 : Nat) "java/lang/String" "COMPACT_STRINGS" "Z") ∈ gw := gw_7 52 rfl rfl
theorem dr_cJ5_isLatin1_aae02_3 : decode cJ5_isLatin1_aae02 3 = .ok (.ifCond .eq 14, 3) := by decide +kernel
theorem dr_cJ5_isLatin1_aae02_6 : decode cJ5_isLatin1_aae02 6 = .ok (.aload_n 0, 1) := by decide +kernel
theorem dr_cJ5_isLatin1_aae02_7 : decode cJ5_isLatin1_aae02 7 = .ok (.getfield 22, 3) := by decide +kernel
theorem dr_cJ5_isLatin1_aae02_10 : decode cJ5_isLatin1_aae02 10 = .ok (.ifCond .ne 7, 3) := by decide +kernel
theorem dr_cJ5_isLatin1_aae02_13 : decode cJ5_isLatin1_aae02 13 = .ok (.iconst 1, 1) := by decide +kernel
theorem dr_cJ5_isLatin1_aae02_14 : decode cJ5_isLatin1_aae02 14 = .ok (.goto 4, 3) := by decide +kernel
theorem dr_cJ5_isLatin1_aae02_18 : decode cJ5_isLatin1_aae02 18 = .ok (.ireturn, 1) := by decide +kernel
theorem dr_cJ1_canEncode_fc78d_0 : decode cJ1_canEncode_fc78d 0 = .ok (.iload_n 0, 1) := by decide +kernel
theorem dr_cJ1_canEncode_fc78d_1 : decode cJ1_canEncode_fc78d 1 = .ok (.sipush 255, 3) := by decide +kernel
theorem dr_cJ1_canEncode_fc78d_4 : decode cJ1_canEncode_fc78d 4 = .ok (.if_icmp .gt 7, 3) := by decide +kernel
theorem dr_cJ1_canEncode_fc78d_11 : decode cJ1_canEncode_fc78d 11 = .ok (.iconst 0, 1) := by decide +kernel
theorem dr_cJ1_canEncode_fc78d_12 : decode cJ1_canEncode_fc78d 12 = .ok (.ireturn, 1) := by decide +kernel
theorem dr_cJ1_canEncode_fc78d_7 : decode cJ1_canEncode_fc78d 7 = .ok (.iconst 1, 1) := by decide +kernel
theorem dr_cJ1_canEncode_fc78d_8 : decode cJ1_canEncode_fc78d 8 = .ok (.goto 4, 3) := by decide +kernel
theorem dr_cJ5_append_3fe6f_0 : decode cJ5_append_3fe6f 0 = .ok (.aload_n 0, 1) := by decide +kernel
theorem dr_cJ5_append_3fe6f_1 : decode cJ5_append_3fe6f 1 = .ok (.aload_n 0, 1) := by decide +kernel
theorem dr_cJ5_append_3fe6f_2 : decode cJ5_append_3fe6f 2 = .ok (.getfield 79, 3) := by decide +kernel
theorem dr_cJ5_append_3fe6f_5 : decode cJ5_append_3fe6f 5 = .ok (.iconst 1, 1) := by decide +kernel
theorem dr_cJ5_append_3fe6f_6 : decode cJ5_append_3fe6f 6 = .ok (.iadd, 1) := by decide +kernel
theorem dr_cJ5_append_3fe6f_7 : decode cJ5_append_3fe6f 7 = .ok (.invokevirtual 100, 3) := by decide +kernel
theorem wr_8_4 : (Jvm.Cond.methodLink "java/lang/AbstractStringBuilder" (100 : Nat) ({ cls := "java/lang/AbstractStringBuilder", name := "ensureCapacityInternal", desc := "(I)V" } : Jvm.MethodName)) ∈ gw := gw_8 4 rfl rfl
theorem wr_8_7 : (Jvm.Cond.code ({ cls := "java/lang/AbstractStringBuilder", name := "ensureCapacityInternal", desc := "(I)V" } : Jvm.MethodName) prog_21_method_9_code (3 : Nat) (Option.none : Option Jvm.ClassFile.FieldType)) ∈ gw := gw_8 7 rfl rfl
theorem wr_8_6 : (Jvm.Cond.instanceMethod ({ cls := "java/lang/AbstractStringBuilder", name := "ensureCapacityInternal", desc := "(I)V" } : Jvm.MethodName)) ∈ gw := gw_8 6 rfl rfl
theorem wr_s_0 : Cond.selects "java/lang/StringBuilder" ⟨"java/lang/AbstractStringBuilder", "ensureCapacityInternal", "(I)V"⟩ ⟨"java/lang/AbstractStringBuilder", "ensureCapacityInternal", "(I)V"⟩ ∈ gw := gw_s _ 0 rfl rfl rfl
theorem dr_cJ5_append_3fe6f_10 : decode cJ5_append_3fe6f 10 = .ok (.aload_n 0, 1) := by decide +kernel
theorem dr_cJ5_append_3fe6f_11 : decode cJ5_append_3fe6f 11 = .ok (.invokevirtual 83, 3) := by decide +kernel
theorem wr_8_33 : (Jvm.Cond.methodLink "java/lang/AbstractStringBuilder" (83 : Nat) ({ cls := "java/lang/AbstractStringBuilder", name := "isLatin1", desc := "()Z" } : Jvm.MethodName)) ∈ gw := gw_8 33 rfl rfl
theorem wr_8_37 : (Jvm.Cond.code ({ cls := "java/lang/AbstractStringBuilder", name := "isLatin1", desc := "()Z" } : Jvm.MethodName) prog_21_method_68_code (1 : Nat) (Option.some Jvm.ClassFile.FieldType.boolean)) ∈ gw := gw_8 37 rfl rfl
theorem wr_8_34 : (Jvm.Cond.instanceMethod ({ cls := "java/lang/AbstractStringBuilder", name := "isLatin1", desc := "()Z" } : Jvm.MethodName)) ∈ gw := gw_8 34 rfl rfl
theorem wr_8_36 : (Jvm.Cond.selects "java/lang/StringBuilder" ({ cls := "java/lang/AbstractStringBuilder", name := "isLatin1", desc := "()Z" } : Jvm.MethodName) ({ cls := "java/lang/AbstractStringBuilder", name := "isLatin1", desc := "()Z" } : Jvm.MethodName)) ∈ gw := gw_8 36 rfl rfl
theorem dr_cJ5_append_3fe6f_14 : decode cJ5_append_3fe6f 14 = .ok (.ifCond .eq 31, 3) := by decide +kernel
theorem dr_cJ5_append_3fe6f_17 : decode cJ5_append_3fe6f 17 = .ok (.iload_n 1, 1) := by decide +kernel
theorem dr_cJ5_append_3fe6f_18 : decode cJ5_append_3fe6f 18 = .ok (.invokestatic 191, 3) := by decide +kernel
theorem wr_8_38 : (Jvm.Cond.methodLink "java/lang/AbstractStringBuilder" (191 : Nat) ({ cls := "java/lang/StringLatin1", name := "canEncode", desc := "(C)Z" } : Jvm.MethodName)) ∈ gw := gw_8 38 rfl rfl
theorem wr_1_28 : (Jvm.Cond.initialized "java/lang/StringLatin1") ∈ gw := gw_1 28 rfl rfl
theorem wr_8_40 : (Jvm.Cond.code ({ cls := "java/lang/StringLatin1", name := "canEncode", desc := "(C)Z" } : Jvm.MethodName) prog_37_method_3_code (1 : Nat) (Option.some Jvm.ClassFile.FieldType.boolean)) ∈ gw := gw_8 40 rfl rfl
theorem wr_8_39 : (Jvm.Cond.static ({ cls := "java/lang/StringLatin1", name := "canEncode", desc := "(C)Z" } : Jvm.MethodName)) ∈ gw := gw_8 39 rfl rfl
theorem dr_cJ5_append_3fe6f_21 : decode cJ5_append_3fe6f 21 = .ok (.ifCond .eq 24, 3) := by decide +kernel
theorem dr_cJ5_append_3fe6f_24 : decode cJ5_append_3fe6f 24 = .ok (.aload_n 0, 1) := by decide +kernel
theorem dr_cJ5_append_3fe6f_25 : decode cJ5_append_3fe6f 25 = .ok (.getfield 15, 3) := by decide +kernel
theorem dr_cJ5_append_3fe6f_28 : decode cJ5_append_3fe6f 28 = .ok (.aload_n 0, 1) := by decide +kernel
theorem dr_cJ5_append_3fe6f_29 : decode cJ5_append_3fe6f 29 = .ok (.dup, 1) := by decide +kernel
theorem dr_cJ5_append_3fe6f_30 : decode cJ5_append_3fe6f 30 = .ok (.getfield 79, 3) := by decide +kernel
theorem dr_cJ5_append_3fe6f_33 : decode cJ5_append_3fe6f 33 = .ok (.dup_x1, 1) := by decide +kernel
theorem dr_cJ5_append_3fe6f_34 : decode cJ5_append_3fe6f 34 = .ok (.iconst 1, 1) := by decide +kernel
theorem dr_cJ5_append_3fe6f_35 : decode cJ5_append_3fe6f 35 = .ok (.iadd, 1) := by decide +kernel
theorem dr_cJ5_append_3fe6f_36 : decode cJ5_append_3fe6f 36 = .ok (.putfield 79, 3) := by decide +kernel
theorem dr_cJ5_append_3fe6f_39 : decode cJ5_append_3fe6f 39 = .ok (.iload_n 1, 1) := by decide +kernel
theorem dr_cJ5_append_3fe6f_40 : decode cJ5_append_3fe6f 40 = .ok (.i2b, 1) := by decide +kernel
theorem dr_cJ5_append_3fe6f_41 : decode cJ5_append_3fe6f 41 = .ok (.bastore, 1) := by decide +kernel
theorem dr_cJ5_append_3fe6f_42 : decode cJ5_append_3fe6f 42 = .ok (.goto 33, 3) := by decide +kernel
theorem dr_cJ5_append_3fe6f_75 : decode cJ5_append_3fe6f 75 = .ok (.aload_n 0, 1) := by decide +kernel
theorem dr_cJ5_append_3fe6f_76 : decode cJ5_append_3fe6f 76 = .ok (.areturn, 1) := by decide +kernel
theorem dr_cJ4_append_cf468_0 : decode cJ4_append_cf468 0 = .ok (.aload_n 0, 1) := by decide +kernel
theorem dr_cJ4_append_cf468_1 : decode cJ4_append_cf468 1 = .ok (.iload_n 1, 1) := by decide +kernel
theorem dr_cJ4_append_cf468_2 : decode cJ4_append_cf468 2 = .ok (.invokespecial 50, 3) := by decide +kernel
theorem wr_8_1 : (Jvm.Cond.methodLink "java/lang/StringBuilder" (50 : Nat) ({ cls := "java/lang/AbstractStringBuilder", name := "append", desc := "(C)Ljava/lang/AbstractStringBuilder;" } : Jvm.MethodName)) ∈ gw := gw_8 1 rfl rfl
theorem wr_8_3 : (Jvm.Cond.code ({ cls := "java/lang/AbstractStringBuilder", name := "append", desc := "(C)Ljava/lang/AbstractStringBuilder;" } : Jvm.MethodName) prog_21_method_31_code (2 : Nat) (Option.some (Jvm.ClassFile.FieldType.object "java/lang/AbstractStringBuilder"))) ∈ gw := gw_8 3 rfl rfl
theorem wr_8_2 : (Jvm.Cond.instanceMethod ({ cls := "java/lang/AbstractStringBuilder", name := "append", desc := "(C)Ljava/lang/AbstractStringBuilder;" } : Jvm.MethodName)) ∈ gw := gw_8 2 rfl rfl
theorem wr_11_224 : (Jvm.Cond.sameMethod "java/lang/AbstractStringBuilder" "java/lang/AbstractStringBuilder" "append" "(C)Ljava/lang/AbstractStringBuilder;") ∈ gw := gw_11 224 rfl rfl
theorem dr_cJ4_append_cf468_5 : decode cJ4_append_cf468 5 = .ok (.pop, 1) := by decide +kernel
theorem dr_cJ4_append_cf468_6 : decode cJ4_append_cf468 6 = .ok (.aload_n 0, 1) := by decide +kernel
theorem dr_cJ4_append_cf468_7 : decode cJ4_append_cf468 7 = .ok (.areturn, 1) := by decide +kernel
theorem dr_cJ5_newCapacity_0f7a4_0 : decode cJ5_newCapacity_0f7a4 0 = .ok (.aload_n 0, 1) := by decide +kernel
theorem dr_cJ5_newCapacity_0f7a4_1 : decode cJ5_newCapacity_0f7a4 1 = .ok (.getfield 15, 3) := by decide +kernel
theorem dr_cJ5_newCapacity_0f7a4_4 : decode cJ5_newCapacity_0f7a4 4 = .ok (.arraylength, 1) := by decide +kernel
theorem dr_cJ5_newCapacity_0f7a4_5 : decode cJ5_newCapacity_0f7a4 5 = .ok (.istore_n 2, 1) := by decide +kernel
theorem dr_cJ5_newCapacity_0f7a4_6 : decode cJ5_newCapacity_0f7a4 6 = .ok (.iload_n 1, 1) := by decide +kernel
theorem dr_cJ5_newCapacity_0f7a4_7 : decode cJ5_newCapacity_0f7a4 7 = .ok (.aload_n 0, 1) := by decide +kernel
theorem dr_cJ5_newCapacity_0f7a4_8 : decode cJ5_newCapacity_0f7a4 8 = .ok (.getfield 22, 3) := by decide +kernel
theorem dr_cJ5_newCapacity_0f7a4_11 : decode cJ5_newCapacity_0f7a4 11 = .ok (.ishl, 1) := by decide +kernel
theorem dr_cJ5_newCapacity_0f7a4_12 : decode cJ5_newCapacity_0f7a4 12 = .ok (.istore_n 3, 1) := by decide +kernel
theorem dr_cJ5_newCapacity_0f7a4_13 : decode cJ5_newCapacity_0f7a4 13 = .ok (.iload_n 3, 1) := by decide +kernel
theorem dr_cJ5_newCapacity_0f7a4_14 : decode cJ5_newCapacity_0f7a4 14 = .ok (.iload_n 2, 1) := by decide +kernel
theorem dr_cJ5_newCapacity_0f7a4_15 : decode cJ5_newCapacity_0f7a4 15 = .ok (.isub, 1) := by decide +kernel
theorem dr_cJ5_newCapacity_0f7a4_16 : decode cJ5_newCapacity_0f7a4 16 = .ok (.istore 4, 2) := by decide +kernel
theorem dr_cJ5_newCapacity_0f7a4_18 : decode cJ5_newCapacity_0f7a4 18 = .ok (.iload_n 2, 1) := by decide +kernel
theorem dr_cJ5_newCapacity_0f7a4_19 : decode cJ5_newCapacity_0f7a4 19 = .ok (.iload 4, 2) := by decide +kernel
theorem dr_cJ5_newCapacity_0f7a4_21 : decode cJ5_newCapacity_0f7a4 21 = .ok (.iload_n 2, 1) := by decide +kernel
theorem dr_cJ5_newCapacity_0f7a4_22 : decode cJ5_newCapacity_0f7a4 22 = .ok (.iconst 2, 1) := by decide +kernel
theorem dr_cJ5_newCapacity_0f7a4_23 : decode cJ5_newCapacity_0f7a4 23 = .ok (.aload_n 0, 1) := by decide +kernel
theorem dr_cJ5_newCapacity_0f7a4_24 : decode cJ5_newCapacity_0f7a4 24 = .ok (.getfield 22, 3) := by decide +kernel
theorem dr_cJ5_newCapacity_0f7a4_27 : decode cJ5_newCapacity_0f7a4 27 = .ok (.ishl, 1) := by decide +kernel
theorem dr_cJ5_newCapacity_0f7a4_28 : decode cJ5_newCapacity_0f7a4 28 = .ok (.iadd, 1) := by decide +kernel
theorem dr_cJ5_newCapacity_0f7a4_29 : decode cJ5_newCapacity_0f7a4 29 = .ok (.invokestatic 114, 3) := by decide +kernel
theorem wr_8_12 : (Jvm.Cond.methodLink "java/lang/AbstractStringBuilder" (114 : Nat) ({ cls := "jdk/internal/util/ArraysSupport", name := "newLength", desc := "(III)I" } : Jvm.MethodName)) ∈ gw := gw_8 12 rfl rfl
theorem dr_cJ5_newCapacity_0f7a4_32 : decode cJ5_newCapacity_0f7a4 32 = .ok (.istore 5, 2) := by decide +kernel
theorem dr_cJ5_newCapacity_0f7a4_34 : decode cJ5_newCapacity_0f7a4 34 = .ok (.iload 5, 2) := by decide +kernel
theorem dr_cJ5_newCapacity_0f7a4_36 : decode cJ5_newCapacity_0f7a4 36 = .ok (.ldc 39, 2) := by decide +kernel
theorem wr_8_20 : (Jvm.Cond.constant "java/lang/AbstractStringBuilder" (39 : Nat) (2147483647 : Int32)) ∈ gw := gw_8 20 rfl rfl
theorem dr_cJ5_newCapacity_0f7a4_38 : decode cJ5_newCapacity_0f7a4 38 = .ok (.if_icmp .ne 13, 3) := by decide +kernel
theorem dr_cJ5_newCapacity_0f7a4_51 : decode cJ5_newCapacity_0f7a4 51 = .ok (.iload 5, 2) := by decide +kernel
theorem dr_cJ5_newCapacity_0f7a4_53 : decode cJ5_newCapacity_0f7a4 53 = .ok (.aload_n 0, 1) := by decide +kernel
theorem dr_cJ5_newCapacity_0f7a4_54 : decode cJ5_newCapacity_0f7a4 54 = .ok (.getfield 22, 3) := by decide +kernel
theorem dr_cJ5_newCapacity_0f7a4_57 : decode cJ5_newCapacity_0f7a4 57 = .ok (.ishr, 1) := by decide +kernel
theorem dr_cJ5_newCapacity_0f7a4_58 : decode cJ5_newCapacity_0f7a4 58 = .ok (.ireturn, 1) := by decide +kernel
theorem dr_cJ7_copyOf_9075b_0 : decode cJ7_copyOf_9075b 0 = .ok (.iload_n 1, 1) := by decide +kernel
theorem dr_cJ7_copyOf_9075b_1 : decode cJ7_copyOf_9075b 1 = .ok (.aload_n 0, 1) := by decide +kernel
theorem dr_cJ7_copyOf_9075b_2 : decode cJ7_copyOf_9075b 2 = .ok (.arraylength, 1) := by decide +kernel
theorem dr_cJ7_copyOf_9075b_3 : decode cJ7_copyOf_9075b 3 = .ok (.if_icmp .ne 11, 3) := by decide +kernel
theorem dr_cJ7_copyOf_9075b_14 : decode cJ7_copyOf_9075b 14 = .ok (.iload_n 1, 1) := by decide +kernel
theorem dr_cJ7_copyOf_9075b_15 : decode cJ7_copyOf_9075b 15 = .ok (.newarray .byte, 2) := by decide +kernel
theorem wr_1_66 : (Jvm.Cond.arrayClass Jvm.ClassFile.FieldType.byte) ∈ gw := gw_1 66 rfl rfl
theorem dr_cJ7_copyOf_9075b_17 : decode cJ7_copyOf_9075b 17 = .ok (.astore_n 2, 1) := by decide +kernel
theorem dr_cJ7_copyOf_9075b_18 : decode cJ7_copyOf_9075b 18 = .ok (.aload_n 0, 1) := by decide +kernel
theorem dr_cJ7_copyOf_9075b_19 : decode cJ7_copyOf_9075b 19 = .ok (.iconst 0, 1) := by decide +kernel
theorem dr_cJ7_copyOf_9075b_20 : decode cJ7_copyOf_9075b 20 = .ok (.aload_n 2, 1) := by decide +kernel
theorem dr_cJ7_copyOf_9075b_21 : decode cJ7_copyOf_9075b 21 = .ok (.iconst 0, 1) := by decide +kernel
theorem dr_cJ7_copyOf_9075b_22 : decode cJ7_copyOf_9075b 22 = .ok (.aload_n 0, 1) := by decide +kernel
theorem dr_cJ7_copyOf_9075b_23 : decode cJ7_copyOf_9075b 23 = .ok (.arraylength, 1) := by decide +kernel
theorem dr_cJ7_copyOf_9075b_24 : decode cJ7_copyOf_9075b 24 = .ok (.iload_n 1, 1) := by decide +kernel
theorem dr_cJ7_copyOf_9075b_25 : decode cJ7_copyOf_9075b 25 = .ok (.invokestatic 304, 3) := by decide +kernel
theorem dr_cJ7_copyOf_9075b_28 : decode cJ7_copyOf_9075b 28 = .ok (.invokestatic 150, 3) := by decide +kernel
theorem dr_cJ7_copyOf_9075b_31 : decode cJ7_copyOf_9075b 31 = .ok (.aload_n 2, 1) := by decide +kernel
theorem dr_cJ7_copyOf_9075b_32 : decode cJ7_copyOf_9075b 32 = .ok (.areturn, 1) := by decide +kernel
theorem dr_cJ5_ensureCapacityInternal_d00df_17 : decode cJ5_ensureCapacityInternal_d00df 17 = .ok (.aload_n 0, 1) := by decide +kernel
theorem dr_cJ5_ensureCapacityInternal_d00df_18 : decode cJ5_ensureCapacityInternal_d00df 18 = .ok (.aload_n 0, 1) := by decide +kernel
theorem dr_cJ5_ensureCapacityInternal_d00df_19 : decode cJ5_ensureCapacityInternal_d00df 19 = .ok (.getfield 15, 3) := by decide +kernel
theorem dr_cJ5_ensureCapacityInternal_d00df_22 : decode cJ5_ensureCapacityInternal_d00df 22 = .ok (.aload_n 0, 1) := by decide +kernel
theorem dr_cJ5_ensureCapacityInternal_d00df_23 : decode cJ5_ensureCapacityInternal_d00df 23 = .ok (.iload_n 1, 1) := by decide +kernel
theorem dr_cJ5_ensureCapacityInternal_d00df_24 : decode cJ5_ensureCapacityInternal_d00df 24 = .ok (.invokevirtual 104, 3) := by decide +kernel
theorem wr_8_8 : (Jvm.Cond.methodLink "java/lang/AbstractStringBuilder" (104 : Nat) ({ cls := "java/lang/AbstractStringBuilder", name := "newCapacity", desc := "(I)I" } : Jvm.MethodName)) ∈ gw := gw_8 8 rfl rfl
theorem wr_8_11 : (Jvm.Cond.code ({ cls := "java/lang/AbstractStringBuilder", name := "newCapacity", desc := "(I)I" } : Jvm.MethodName) prog_21_method_10_code (6 : Nat) (Option.some Jvm.ClassFile.FieldType.int)) ∈ gw := gw_8 11 rfl rfl
theorem wr_8_10 : (Jvm.Cond.instanceMethod ({ cls := "java/lang/AbstractStringBuilder", name := "newCapacity", desc := "(I)I" } : Jvm.MethodName)) ∈ gw := gw_8 10 rfl rfl
theorem wr_s_1 : Cond.selects "java/lang/StringBuilder" ⟨"java/lang/AbstractStringBuilder", "newCapacity", "(I)I"⟩ ⟨"java/lang/AbstractStringBuilder", "newCapacity", "(I)I"⟩ ∈ gw := gw_s _ 1 rfl rfl rfl
theorem dr_cJ5_ensureCapacityInternal_d00df_27 : decode cJ5_ensureCapacityInternal_d00df 27 = .ok (.aload_n 0, 1) := by decide +kernel
theorem dr_cJ5_ensureCapacityInternal_d00df_28 : decode cJ5_ensureCapacityInternal_d00df 28 = .ok (.getfield 22, 3) := by decide +kernel
theorem dr_cJ5_ensureCapacityInternal_d00df_31 : decode cJ5_ensureCapacityInternal_d00df 31 = .ok (.ishl, 1) := by decide +kernel
theorem dr_cJ5_ensureCapacityInternal_d00df_32 : decode cJ5_ensureCapacityInternal_d00df 32 = .ok (.invokestatic 108, 3) := by decide +kernel
theorem wr_8_21 : (Jvm.Cond.methodLink "java/lang/AbstractStringBuilder" (108 : Nat) ({ cls := "java/util/Arrays", name := "copyOf", desc := "([BI)[B" } : Jvm.MethodName)) ∈ gw := gw_8 21 rfl rfl
theorem wr_8_23 : (Jvm.Cond.code ({ cls := "java/util/Arrays", name := "copyOf", desc := "([BI)[B" } : Jvm.MethodName) prog_44_method_121_code (3 : Nat) (Option.some (Jvm.ClassFile.FieldType.array Jvm.ClassFile.FieldType.byte))) ∈ gw := gw_8 23 rfl rfl
theorem wr_8_22 : (Jvm.Cond.static ({ cls := "java/util/Arrays", name := "copyOf", desc := "([BI)[B" } : Jvm.MethodName)) ∈ gw := gw_8 22 rfl rfl
theorem dr_cJ5_ensureCapacityInternal_d00df_35 : decode cJ5_ensureCapacityInternal_d00df 35 = .ok (.putfield 15, 3) := by decide +kernel
abbrev ky_658583_AbstractStringBuilder_length : gKey := (cJ5_length_8abf5, 1, "java/lang/AbstractStringBuilder", (some FieldType.int), [], "length", fun _ _ => True)
def pp_658583_AbstractStringBuilder_length (D : va_G) (I : FieldType → ClassId) (P658574 : List Nat) (F658575 : Nat → va_E) (q658576 : Nat) (q658577 : Nat) (p658578 : Int32) (p658579 : Int32) (f658580 : Nat → Int32) (n658581 : Nat) : Option Value → va_W → Nat → Nat → Prop := fun r w dc ds => r = some (.int p658579) ∧ w = va_pl P658574 F658575 ∧ dc ≤ 0 ∧ ds ≤ 0
set_option maxRecDepth 100000 in
set_option maxHeartbeats 4000000 in
theorem cp_658583_AbstractStringBuilder_length (l : Launch) (hl0 : l.stackTraces = false) (D : va_G) (I : FieldType → ClassId) (P658574 : List Nat) (F658575 : Nat → va_E) (q658576 : Nat) (q658577 : Nat) (p658578 : Int32) (p658579 : Int32) (f658580 : Nat → Int32) (n658581 : Nat) (hmq658576 : q658576 ∈ P658574) (hmq658577 : q658577 ∈ P658574) (heq658576 : F658575 q658576 = .inr (1, [.ref q658577, .int 0, .int p658578, .int p658579])) (heq658577 : F658575 q658577 = .inl (I .byte, n658581, .inl f658580)) (bp658578 : gB p658578 0 1) (bp658579 : gB p658579 0 16777216) (bf658580 : gF f658580 (-128) 127) (x658582 : ((n658581 : Int) ≤ 16777216)) : CtA (gV D I) l yJ5_length_8abf5 cJ5_length_8abf5 1 (some FieldType.int) 0 0 0 0 [.ref q658576] (va_pl P658574 F658575) (pp_658583_AbstractStringBuilder_length D I P658574 F658575 q658576 q658577 p658578 p658579 f658580 n658581) gNA := by
  refine CtA_ofF hl0 (by decide +kernel) (Nat.le_of_ble_eq_true rfl) ?_
  refine G_aload_n 0 dr_cJ5_length_8abf5_0 rfl ?_
  refine Gp_get 3 hmq658576 heq658576 dr_cJ5_length_8abf5_1 (gk_J4 D I) (Nat.le_of_ble_eq_true rfl) wr_7_64 rfl ?_
  exact G_iretA dr_cJ5_length_8abf5_4 rfl (Nat.le_of_ble_eq_true rfl) (Nat.le_of_ble_eq_true rfl) ⟨rfl, rfl, (Nat.le_of_ble_eq_true rfl), (Nat.le_of_ble_eq_true rfl)⟩
abbrev ky_658573_StringBuilder_length : gKey := (cJ4_length_8abf5, 1, "java/lang/StringBuilder", (some FieldType.int), [], "length", fun _ _ => True)
def pp_658573_StringBuilder_length (D : va_G) (I : FieldType → ClassId) (P658564 : List Nat) (F658565 : Nat → va_E) (q658566 : Nat) (q658567 : Nat) (p658568 : Int32) (p658569 : Int32) (f658570 : Nat → Int32) (n658571 : Nat) : Option Value → va_W → Nat → Nat → Prop := fun r w dc ds => r = some (.int p658569) ∧ w = va_pl P658564 F658565 ∧ dc ≤ 0 ∧ ds ≤ 0
set_option maxRecDepth 100000 in
set_option maxHeartbeats 4000000 in
theorem cp_658573_StringBuilder_length (l : Launch) (hl0 : l.stackTraces = false) (D : va_G) (I : FieldType → ClassId) (P658564 : List Nat) (F658565 : Nat → va_E) (q658566 : Nat) (q658567 : Nat) (p658568 : Int32) (p658569 : Int32) (f658570 : Nat → Int32) (n658571 : Nat) (hmq658566 : q658566 ∈ P658564) (hmq658567 : q658567 ∈ P658564) (heq658566 : F658565 q658566 = .inr (1, [.ref q658567, .int 0, .int p658568, .int p658569])) (heq658567 : F658565 q658567 = .inl (I .byte, n658571, .inl f658570)) (bp658568 : gB p658568 0 1) (bp658569 : gB p658569 0 16777216) (bf658570 : gF f658570 (-128) 127) (x658572 : ((n658571 : Int) ≤ 16777216)) : CtA (gV D I) l yJ4_length_8abf5 cJ4_length_8abf5 1 (some FieldType.int) 1 20 0 0 [.ref q658566] (va_pl P658564 F658565) (pp_658573_StringBuilder_length D I P658564 F658565 q658566 q658567 p658568 p658569 f658570 n658571) gNA := by
  refine CtA_ofF hl0 (by decide +kernel) (Nat.le_of_ble_eq_true rfl) ?_
  refine G_aload_n 0 dr_cJ4_length_8abf5_0 rfl ?_
  refine Gw_callSU (As := []) (gV_ok D I) (cp_658583_AbstractStringBuilder_length l hl0 D I P658564 F658565 q658566 q658567 p658568 p658569 f658570 n658571 hmq658566 hmq658567 heq658566 heq658567 bp658568 bp658569 bf658570 (by have qa0 : Int32.toInt 0 = 0 := (by decide); omega)) dr_cJ4_length_8abf5_1 ⟨wr_8_90, wr_1_19, wr_8_91, by decide, rfl, (Nat.le_of_ble_eq_true rfl), (Nat.le_of_ble_eq_true rfl)⟩ wr_8_85 wr_8_86 wr_7_73 wr_7_44 (by decide) hmq658566 heq658566 rfl (show 0 + 0 ≤ 0 by first | omega | decide) (show 0 + 0 ≤ 0 by first | omega | decide) (Nat.le_of_ble_eq_true rfl) (fun r658587 w658588 dc658584 ds658585 hp658586 => ?_)
  obtain ⟨rfl, rfl, hdc, hds⟩ := hp658586
  change G _ _ _ _ _ _ _ (.int p658569 :: _) _ _ _
  refine G_widen (cs' := 0) (sl' := 0) (by omega) (by omega) ?_
  exact G_iretA dr_cJ4_length_8abf5_4 rfl (Nat.le_of_ble_eq_true rfl) (Nat.le_of_ble_eq_true rfl) ⟨rfl, rfl, (Nat.le_of_ble_eq_true rfl), (Nat.le_of_ble_eq_true rfl)⟩
/- tr_RPreconditions_checkIndex2:  -/
def tr_RPreconditions_checkIndex2 (a0 : Int32) (a1 : Int32) : Prop := ∀ R : Prop,
  (a0.toInt < a1.toInt → R) →
  R
abbrev ky_658637_Preconditions_checkIndex : gKey := (cJ3_checkIndex_8e157, 3, "jdk/internal/util/Preconditions", (some FieldType.int), [], "checkIndex", fun _ _ => True)
def pp_658637_Preconditions_checkIndex (D : va_G) (I : FieldType → ClassId) (P658631 : List Nat) (F658632 : Nat → va_E) (p658633 : Int32) (p658634 : Int32) (qo658635 : Nat) : Option Value → va_W → Nat → Nat → Prop := fun r w dc ds => r = some (.int p658633) ∧ w = va_pl P658631 F658632 ∧ dc ≤ 0 ∧ ds ≤ 0 ∧ tr_RPreconditions_checkIndex2 p658633 p658634
set_option maxRecDepth 100000 in
set_option maxHeartbeats 4000000 in
theorem cp_658637_Preconditions_checkIndex (l : Launch) (hl0 : l.stackTraces = false) (D : va_G) (I : FieldType → ClassId) (P658631 : List Nat) (F658632 : Nat → va_E) (p658633 : Int32) (p658634 : Int32) (qo658635 : Nat) (bp658633 : gB p658633 0 16777216) (bp658634 : gB p658634 0 16777216) (x658636 : p658633.toInt < p658634.toInt) : CtA (gV D I) l yJ3_checkIndex_8e157 cJ3_checkIndex_8e157 3 (some FieldType.int) 0 0 0 0 [.int p658633, .int p658634, .ref qo658635] (va_pl P658631 F658632) (pp_658637_Preconditions_checkIndex D I P658631 F658632 p658633 p658634 qo658635) gNA := by
  refine CtA_ofF hl0 (by decide +kernel) (Nat.le_of_ble_eq_true rfl) ?_
  refine G_iload_n 0 dr_cJ3_checkIndex_8e157_0 rfl ?_
  refine G_if_lt 9 dr_cJ3_checkIndex_8e157_1 (by decide +kernel) (fun hc => absurd (show False by have := gj_lt hc (show Int32.toInt 0 = 0 by decide); omega) not_false) (fun _ => ?_)
  refine G_iload_n 0 dr_cJ3_checkIndex_8e157_4 rfl ?_
  refine G_iload_n 1 dr_cJ3_checkIndex_8e157_5 rfl ?_
  refine G_icmp_lt 16 dr_cJ3_checkIndex_8e157_6 (by decide +kernel) (fun hc658638 => ?_) (fun hc658638 => ?_)
  · have r658639 : p658633.toInt < p658634.toInt := gC_lt hc658638
    have bp658633' : gB p658633 0 16777215 := ⟨by omega, by omega⟩
    have bp658634' : gB p658634 1 16777216 := ⟨by omega, by omega⟩
    refine G_iload_n 0 dr_cJ3_checkIndex_8e157_16 rfl ?_
    exact G_iretA dr_cJ3_checkIndex_8e157_17 rfl (Nat.le_of_ble_eq_true rfl) (Nat.le_of_ble_eq_true rfl) ⟨rfl, rfl, (Nat.le_of_ble_eq_true rfl), (Nat.le_of_ble_eq_true rfl), (fun R c1 => c1 r658639)⟩
  · have r658640 : p658634.toInt ≤ p658633.toInt := gC_nlt hc658638
    exact absurd (show False by omega) not_false
/- tr_RString_checkIndex:  -/
def tr_RString_checkIndex (a0 : Int32) (a1 : Int32) : Prop := ∀ R : Prop,
  (tr_RPreconditions_checkIndex a0 a1 → R) →
  (tr_RPreconditions_checkIndex2 a0 a1 → R) →
  R
abbrev ky_658623_String_checkIndex : gKey := (cJ0_checkIndex_df160, 2, "java/lang/String", none, [], "checkIndex", fun _ _ => True)
def pp_658623_String_checkIndex (D : va_G) (I : FieldType → ClassId) (P658618 : List Nat) (F658619 : Nat → va_E) (p658620 : Int32) (p658621 : Int32) : Option Value → va_W → Nat → Nat → Prop := fun r w dc ds => r = none ∧ w = va_pl P658618 F658619 ∧ dc ≤ 0 ∧ ds ≤ 0 ∧ tr_RString_checkIndex p658620 p658621
set_option maxRecDepth 100000 in
set_option maxHeartbeats 4000000 in
theorem cp_658623_String_checkIndex (l : Launch) (hl0 : l.stackTraces = false) (D : va_G) (I : FieldType → ClassId) (P658618 : List Nat) (F658619 : Nat → va_E) (p658620 : Int32) (p658621 : Int32) (bp658620 : gB p658620 0 16777216) (bp658621 : gB p658621 0 16777216) (x658622 : p658620.toInt < p658621.toInt) : CtA (gV D I) l yJ0_checkIndex_df160 cJ0_checkIndex_df160 2 none 1 22 0 0 [.int p658620, .int p658621] (va_pl P658618 F658619) (pp_658623_String_checkIndex D I P658618 F658619 p658620 p658621) gNA := by
  refine CtA_ofF hl0 (by decide +kernel) (Nat.le_of_ble_eq_true rfl) ?_
  refine G_iload_n 0 dr_cJ0_checkIndex_df160_0 rfl ?_
  refine G_iload_n 1 dr_cJ0_checkIndex_df160_1 rfl ?_
  refine G_gets dr_cJ0_checkIndex_df160_2 wr_3_81 gz_pf (fun x hx => ?_)
  rcases hx with rfl | ⟨t658624, rfl⟩
  · refine Gw_callS (As := [.int p658620, .int p658621, .null]) (gV_ok D I) (cp_34_Preconditions_checkIndex l hl0 D I P658618 F658619 p658620 p658621 bp658620 bp658621 (by omega)) dr_cJ0_checkIndex_df160_5 ⟨wr_3_83, wr_1_29, wr_3_85, by decide, rfl, (Nat.le_of_ble_eq_true rfl), (Nat.le_of_ble_eq_true rfl)⟩ wr_3_84 (show 0 + 0 ≤ 0 by first | omega | decide) (show 0 + 0 ≤ 0 by first | omega | decide) (Nat.le_of_ble_eq_true rfl) (fun r658628 w658629 dc658625 ds658626 hp658627 => ?_) (fun _ _ _ _ _ z => z.elim)
    obtain ⟨rfl, rfl, hdc, hds, ht658630⟩ := hp658627
    change G _ _ _ _ _ _ _ (.int p658620 :: _) _ _ _
    refine G_widen (cs' := 0) (sl' := 0) (by omega) (by omega) ?_
    refine G_pop dr_cJ0_checkIndex_df160_8 rfl ?_
    exact G_vretA dr_cJ0_checkIndex_df160_9 rfl (Nat.le_of_ble_eq_true rfl) (Nat.le_of_ble_eq_true rfl) ⟨rfl, rfl, (Nat.le_of_ble_eq_true rfl), (Nat.le_of_ble_eq_true rfl), (fun R c1 c2 => c1 ht658630)⟩
  · refine Gw_callS (As := [.int p658620, .int p658621, .ref t658624]) (gV_ok D I) (cp_658637_Preconditions_checkIndex l hl0 D I P658618 F658619 p658620 p658621 t658624 bp658620 bp658621 (by omega)) dr_cJ0_checkIndex_df160_5 ⟨wr_3_83, wr_1_29, wr_3_85, by decide, rfl, (Nat.le_of_ble_eq_true rfl), (Nat.le_of_ble_eq_true rfl)⟩ wr_3_84 (show 0 + 0 ≤ 0 by first | omega | decide) (show 0 + 0 ≤ 0 by first | omega | decide) (Nat.le_of_ble_eq_true rfl) (fun r658644 w658645 dc658641 ds658642 hp658643 => ?_) (fun _ _ _ _ _ z => z.elim)
    obtain ⟨rfl, rfl, hdc, hds, ht658646⟩ := hp658643
    change G _ _ _ _ _ _ _ (.int p658620 :: _) _ _ _
    refine G_widen (cs' := 0) (sl' := 0) (by omega) (by omega) ?_
    refine G_pop dr_cJ0_checkIndex_df160_8 rfl ?_
    exact G_vretA dr_cJ0_checkIndex_df160_9 rfl (Nat.le_of_ble_eq_true rfl) (Nat.le_of_ble_eq_true rfl) ⟨rfl, rfl, (Nat.le_of_ble_eq_true rfl), (Nat.le_of_ble_eq_true rfl), (fun R c1 c2 => c2 ht658646)⟩
/- tr_RAbstractStringBuilder_charAt: result -/
def tr_RAbstractStringBuilder_charAt (a1 : Int32) (a0_count : Int32) (a0_value_v : Nat → Int32) (a0_value_n : Nat) (o1 : Int32) : Prop := ∀ R : (Int32) → Prop,
  (∀ (x1 : Int32) (x2 : Int32) (x3 : Int32) (x4 : Int32) (x5 : Int32) (x6 : Int32), x1.toInt = (a0_value_n : Nat) → x2.toInt = x1.toInt / 1 → (a0_count.toInt ≥ x3.toInt ∧ x2.toInt ≥ x3.toInt ∧ (x3.toInt = a0_count.toInt ∨ x3.toInt = x2.toInt)) → tr_RString_checkIndex a1 x3 → x4 = a0_value_v a1.toNatClampNeg → gB x4 (-128) 127 → x5 = x4 &&& (255 : Int32) → x6 = (x5.toUInt32 % 65536).toInt32 → R x6) →
  R o1
abbrev ky_658614_AbstractStringBuilder_charAt : gKey := (cJ5_charAt_5068e, 5, "java/lang/AbstractStringBuilder", (some FieldType.char), [], "charAt", fun _ _ => True)
def pp_658614_AbstractStringBuilder_charAt (D : va_G) (I : FieldType → ClassId) (P658602 : List Nat) (F658603 : Nat → va_E) (q658604 : Nat) (q658605 : Nat) (p658606 : Int32) (p658607 : Int32) (p658608 : Int32) (f658609 : Nat → Int32) (n658610 : Nat) : Option Value → va_W → Nat → Nat → Prop := fun r w dc ds => ∃ (o658656 : Int32), r = some (.int o658656) ∧ w = va_pl P658602 F658603 ∧ dc ≤ 0 ∧ ds ≤ 0 ∧ gB o658656 0 65535 ∧ tr_RAbstractStringBuilder_charAt p658606 p658608 f658609 n658610 o658656
set_option maxRecDepth 100000 in
set_option maxHeartbeats 4000000 in
theorem cp_658614_AbstractStringBuilder_charAt (l : Launch) (hl0 : l.stackTraces = false) (D : va_G) (I : FieldType → ClassId) (P658602 : List Nat) (F658603 : Nat → va_E) (q658604 : Nat) (q658605 : Nat) (p658606 : Int32) (p658607 : Int32) (p658608 : Int32) (f658609 : Nat → Int32) (n658610 : Nat) (hmq658604 : q658604 ∈ P658602) (hmq658605 : q658605 ∈ P658602) (heq658604 : F658603 q658604 = .inr (1, [.ref q658605, .int 0, .int p658607, .int p658608])) (heq658605 : F658603 q658605 = .inl (I .byte, n658610, .inl f658609)) (bp658606 : gB p658606 0 16777215) (bp658607 : gB p658607 0 1) (bp658608 : gB p658608 0 16777216) (bf658609 : gF f658609 (-128) 127) (x658611 : p658606.toInt < p658608.toInt) (x658612 : p658608.toInt ≤ (n658610 : Int)) (x658613 : ((n658610 : Int) ≤ 16777216)) : CtA (gV D I) l yJ5_charAt_5068e cJ5_charAt_5068e 5 (some FieldType.char) 2 43 0 0 [.ref q658604, .int p658606] (va_pl P658602 F658603) (pp_658614_AbstractStringBuilder_charAt D I P658602 F658603 q658604 q658605 p658606 p658607 p658608 f658609 n658610) gNA := by
  refine CtA_ofF hl0 (by decide +kernel) (Nat.le_of_ble_eq_true rfl) ?_
  refine G_aload_n 0 dr_cJ5_charAt_5068e_0 rfl ?_
  refine Gp_get 1 hmq658604 heq658604 dr_cJ5_charAt_5068e_1 (gk_J4 D I) (Nat.le_of_ble_eq_true rfl) wr_7_61 rfl ?_
  refine G_istore_n (L' := [(2, .int 0), (0, .ref q658604), (1, .int p658606)]) dr_cJ5_charAt_5068e_4 (Nat.le_of_ble_eq_true rfl) rfl ?_
  refine G_aload_n 1 dr_cJ5_charAt_5068e_5 rfl ?_
  refine Gp_get 0 hmq658604 heq658604 dr_cJ5_charAt_5068e_6 (gk_J4 D I) (Nat.le_of_ble_eq_true rfl) wr_7_60 rfl ?_
  refine G_astore_n (L' := [(3, .ref q658605), (2, .int 0), (0, .ref q658604), (1, .int p658606)]) dr_cJ5_charAt_5068e_9 (Nat.le_of_ble_eq_true rfl) rfl ?_
  refine G_aload_n 2 dr_cJ5_charAt_5068e_10 rfl ?_
  refine Gp_get 3 hmq658604 heq658604 dr_cJ5_charAt_5068e_11 (gk_J4 D I) (Nat.le_of_ble_eq_true rfl) wr_7_64 rfl ?_
  refine G_aload_n 0 dr_cJ5_charAt_5068e_14 rfl ?_
  refine Gp_alen (Int32.ofNat n658610) 1 hmq658605 heq658605 dr_cJ5_charAt_5068e_15 rfl rfl (G_nam fun z658615 hz658615 => ?_)
  have ez658615 : z658615.toInt = (n658610 : Nat) := gI_ofM hz658615 (by omega)
  have bz658615 : gB z658615 0 16777216 := ⟨by omega, by omega⟩
  refine G_iload_n 1 dr_cJ5_charAt_5068e_16 rfl ?_
  refine G_ishr dr_cJ5_charAt_5068e_17 (G_nam fun z658616 hz658616 => ?_)
  have ez658616 : z658616.toInt = z658615.toInt / 1 := gI_shr (k := 0) hz658616 (by decide)
  have bz658616 : gB z658616 0 16777216 := ⟨by omega, by omega⟩
  refine G_mmin dr_cJ5_charAt_5068e_18 wr_11_216 wr_3_227 wr_1_6 wr_3_228 (Nat.le_of_ble_eq_true rfl) (Nat.le_of_ble_eq_true rfl) (show 0 ≤ 0 by first | omega | decide) (show 0 ≤ 0 by first | omega | decide) (G_nam fun z658617 hz658617 => ?_)
  have ez658617 : p658608.toInt ≥ z658617.toInt ∧ z658616.toInt ≥ z658617.toInt ∧ (z658617.toInt = p658608.toInt ∨ z658617.toInt = z658616.toInt) := by have := gI_min hz658617; omega
  have bz658617 : gB z658617 0 16777216 := ⟨by omega, by omega⟩
  refine G_istore (L' := [(4, .int z658617), (3, .ref q658605), (2, .int 0), (0, .ref q658604), (1, .int p658606)]) dr_cJ5_charAt_5068e_21 (Nat.le_of_ble_eq_true rfl) rfl ?_
  refine G_iload_n 4 dr_cJ5_charAt_5068e_23 rfl ?_
  refine G_iload 0 dr_cJ5_charAt_5068e_24 rfl ?_
  refine Gw_callS (As := [.int p658606, .int z658617]) (gV_ok D I) (cp_658623_String_checkIndex l hl0 D I P658602 F658603 p658606 z658617 (gB_w bp658606 (by decide) (by decide)) bz658617 (by have qa0 : Int32.toInt 0 = 0 := (by decide); omega)) dr_cJ5_charAt_5068e_26 ⟨wr_11_217, wr_1_21, wr_3_80, by decide, rfl, (Nat.le_of_ble_eq_true rfl), (Nat.le_of_ble_eq_true rfl)⟩ wr_3_79 (show 0 + 0 ≤ 0 by first | omega | decide) (show 0 + 0 ≤ 0 by first | omega | decide) (Nat.le_of_ble_eq_true rfl) (fun r658650 w658651 dc658647 ds658648 hp658649 => ?_) (fun _ _ _ _ _ z => z.elim)
  obtain ⟨rfl, rfl, hdc, hds, ht658652⟩ := hp658649
  change G _ _ _ _ _ _ _ _ _ _ _
  refine G_widen (cs' := 0) (sl' := 0) (by omega) (by omega) ?_
  refine G_iload_n 2 dr_cJ5_charAt_5068e_29 rfl ?_
  refine G_if_ne 42 dr_cJ5_charAt_5068e_30 (by decide +kernel) (fun hc => absurd hc (by decide)) (fun _ => ?_)
  refine G_aload_n 1 dr_cJ5_charAt_5068e_33 rfl ?_
  refine G_iload_n 4 dr_cJ5_charAt_5068e_34 rfl ?_
  refine Gp_bald 1 hmq658605 heq658605 dr_cJ5_charAt_5068e_35 rfl (gB_inr (by omega) (by omega)) (G_nam fun z658653 hz658653 => ?_)
  have bz658653 : gB z658653 (-128) 127 := by rw [hz658653]; exact bf658609 _
  refine G_sipush 255 dr_cJ5_charAt_5068e_36 (by decide +kernel) ?_
  refine G_iand dr_cJ5_charAt_5068e_39 (G_nam fun z658654 hz658654 => ?_)
  have bz658654 : gB z658654 0 255 := gB_and hz658654 (gBl (show Int32.toInt 255 = 255 by decide)) (by decide)
  refine G_i2c dr_cJ5_charAt_5068e_40 (G_nam fun z658655 hz658655 => ?_)
  have bz658655 : gB z658655 0 65535 := gB_i2c hz658655
  exact G_zretA FieldType.char dr_cJ5_charAt_5068e_41 rfl (gN_char bz658655) (Nat.le_of_ble_eq_true rfl) (Nat.le_of_ble_eq_true rfl) ⟨z658655, rfl, rfl, (Nat.le_of_ble_eq_true rfl), (Nat.le_of_ble_eq_true rfl), bz658655, (fun R c1 => c1 z658615 z658616 z658617 z658653 z658654 z658655 ez658615 ez658616 ez658617 ht658652 hz658653 bz658653 hz658654 hz658655)⟩
/- tr_RStringBuilder_charAt: result -/
def tr_RStringBuilder_charAt (a1 : Int32) (a0_count : Int32) (a0_value_v : Nat → Int32) (a0_value_n : Nat) (o1 : Int32) : Prop := ∀ R : (Int32) → Prop,
  (∀ (x1 : Int32), gB x1 0 65535 → tr_RAbstractStringBuilder_charAt a1 a0_count a0_value_v a0_value_n x1 → R x1) →
  R o1
abbrev ky_658601_StringBuilder_charAt : gKey := (cJ4_charAt_5068e, 2, "java/lang/StringBuilder", (some FieldType.char), [], "charAt", fun _ _ => True)
def pp_658601_StringBuilder_charAt (D : va_G) (I : FieldType → ClassId) (P658589 : List Nat) (F658590 : Nat → va_E) (q658591 : Nat) (q658592 : Nat) (p658593 : Int32) (p658594 : Int32) (p658595 : Int32) (f658596 : Nat → Int32) (n658597 : Nat) : Option Value → va_W → Nat → Nat → Prop := fun r w dc ds => ∃ (o658664 : Int32), r = some (.int o658664) ∧ w = va_pl P658589 F658590 ∧ dc ≤ 0 ∧ ds ≤ 0 ∧ gB o658664 0 65535 ∧ tr_RStringBuilder_charAt p658593 p658595 f658596 n658597 o658664
set_option maxRecDepth 100000 in
set_option maxHeartbeats 4000000 in
theorem cp_658601_StringBuilder_charAt (l : Launch) (hl0 : l.stackTraces = false) (D : va_G) (I : FieldType → ClassId) (P658589 : List Nat) (F658590 : Nat → va_E) (q658591 : Nat) (q658592 : Nat) (p658593 : Int32) (p658594 : Int32) (p658595 : Int32) (f658596 : Nat → Int32) (n658597 : Nat) (hmq658591 : q658591 ∈ P658589) (hmq658592 : q658592 ∈ P658589) (heq658591 : F658590 q658591 = .inr (1, [.ref q658592, .int 0, .int p658594, .int p658595])) (heq658592 : F658590 q658592 = .inl (I .byte, n658597, .inl f658596)) (bp658593 : gB p658593 0 16777215) (bp658594 : gB p658594 0 1) (bp658595 : gB p658595 0 16777216) (bf658596 : gF f658596 (-128) 127) (x658598 : p658593.toInt < p658595.toInt) (x658599 : p658595.toInt ≤ (n658597 : Int)) (x658600 : ((n658597 : Int) ≤ 16777216)) : CtA (gV D I) l yJ4_charAt_5068e cJ4_charAt_5068e 2 (some FieldType.char) 3 67 0 0 [.ref q658591, .int p658593] (va_pl P658589 F658590) (pp_658601_StringBuilder_charAt D I P658589 F658590 q658591 q658592 p658593 p658594 p658595 f658596 n658597) gNA := by
  refine CtA_ofF hl0 (by decide +kernel) (Nat.le_of_ble_eq_true rfl) ?_
  refine G_aload_n 0 dr_cJ4_charAt_5068e_0 rfl ?_
  refine G_iload_n 1 dr_cJ4_charAt_5068e_1 rfl ?_
  refine Gw_callSU (As := [.int p658593]) (gV_ok D I) (cp_658614_AbstractStringBuilder_charAt l hl0 D I P658589 F658590 q658591 q658592 p658593 p658594 p658595 f658596 n658597 hmq658591 hmq658592 heq658591 heq658592 bp658593 bp658594 bp658595 bf658596 (by have qa0 : Int32.toInt 0 = 0 := (by decide); omega) (by have qa0 : Int32.toInt 0 = 0 := (by decide); omega) (by have qa0 : Int32.toInt 0 = 0 := (by decide); omega)) dr_cJ4_charAt_5068e_2 ⟨wr_11_213, wr_1_19, wr_11_215, by decide, rfl, (Nat.le_of_ble_eq_true rfl), (Nat.le_of_ble_eq_true rfl)⟩ wr_11_214 wr_11_235 wr_7_73 wr_7_44 (by decide) hmq658591 heq658591 rfl (show 0 + 0 ≤ 0 by first | omega | decide) (show 0 + 0 ≤ 0 by first | omega | decide) (Nat.le_of_ble_eq_true rfl) (fun r658660 w658661 dc658657 ds658658 hp658659 => ?_)
  obtain ⟨o658662, rfl, rfl, hdc, hds, bo658662, ht658663⟩ := hp658659
  change G _ _ _ _ _ _ _ (.int o658662 :: _) _ _ _
  refine G_widen (cs' := 0) (sl' := 0) (by omega) (by omega) ?_
  exact G_zretA FieldType.char dr_cJ4_charAt_5068e_5 rfl (gN_char bo658662) (Nat.le_of_ble_eq_true rfl) (Nat.le_of_ble_eq_true rfl) ⟨o658662, rfl, rfl, (Nat.le_of_ble_eq_true rfl), (Nat.le_of_ble_eq_true rfl), bo658662, (fun R c1 => c1 o658662 bo658662 ht658663)⟩
/- tr_RAbstractStringBuilder_ensureCapacityInternal:  -/
def tr_RAbstractStringBuilder_ensureCapacityInternal (a1 : Int32) (a0_value_n : Nat) : Prop := ∀ R : Prop,
  (∀ (x1 : Int32) (x2 : Int32) (x3 : Int32), x1.toInt = (a0_value_n : Nat) → x2.toInt = x1.toInt / 1 → x3.toInt = a1.toInt - x2.toInt → x3.toInt ≤ 0 → R) →
  R
abbrev ky_658701_AbstractStringBuilder_ensureCapacityInternal : gKey := (cJ5_ensureCapacityInternal_d00df, 3, "java/lang/AbstractStringBuilder", none, [], "ensureCapacityInternal", fun _ _ => True)
def pp_658701_AbstractStringBuilder_ensureCapacityInternal (D : va_G) (I : FieldType → ClassId) (P658690 : List Nat) (F658691 : Nat → va_E) (q658692 : Nat) (q658693 : Nat) (p658694 : Int32) (p658695 : Int32) (p658696 : Int32) (f658697 : Nat → Int32) (n658698 : Nat) : Option Value → va_W → Nat → Nat → Prop := fun r w dc ds => r = none ∧ w = va_pl P658690 F658691 ∧ dc ≤ 0 ∧ ds ≤ 0 ∧ tr_RAbstractStringBuilder_ensureCapacityInternal p658694 n658698
set_option maxRecDepth 100000 in
set_option maxHeartbeats 4000000 in
theorem cp_658701_AbstractStringBuilder_ensureCapacityInternal (l : Launch) (hl0 : l.stackTraces = false) (D : va_G) (I : FieldType → ClassId) (P658690 : List Nat) (F658691 : Nat → va_E) (q658692 : Nat) (q658693 : Nat) (p658694 : Int32) (p658695 : Int32) (p658696 : Int32) (f658697 : Nat → Int32) (n658698 : Nat) (hmq658692 : q658692 ∈ P658690) (hmq658693 : q658693 ∈ P658690) (heq658692 : F658691 q658692 = .inr (1, [.ref q658693, .int 0, .int p658695, .int p658696])) (heq658693 : F658691 q658693 = .inl (I .byte, n658698, .inl f658697)) (bp658694 : gB p658694 0 16777216) (bp658695 : gB p658695 0 1) (bp658696 : gB p658696 0 16777216) (bf658697 : gF f658697 (-128) 127) (x658699 : p658694.toInt ≤ (n658698 : Int)) (x658700 : ((n658698 : Int) ≤ 16777216)) : CtA (gV D I) l yJ5_ensureCapacityInternal_d00df cJ5_ensureCapacityInternal_d00df 3 none 0 0 0 0 [.ref q658692, .int p658694] (va_pl P658690 F658691) (pp_658701_AbstractStringBuilder_ensureCapacityInternal D I P658690 F658691 q658692 q658693 p658694 p658695 p658696 f658697 n658698) gNA := by
  refine CtA_ofF hl0 (by decide +kernel) (Nat.le_of_ble_eq_true rfl) ?_
  refine G_aload_n 0 dr_cJ5_ensureCapacityInternal_d00df_0 rfl ?_
  refine Gp_get 0 hmq658692 heq658692 dr_cJ5_ensureCapacityInternal_d00df_1 (gk_J4 D I) (Nat.le_of_ble_eq_true rfl) wr_7_60 rfl ?_
  refine Gp_alen (Int32.ofNat n658698) 1 hmq658693 heq658693 dr_cJ5_ensureCapacityInternal_d00df_4 rfl rfl (G_nam fun z658702 hz658702 => ?_)
  have ez658702 : z658702.toInt = (n658698 : Nat) := gI_ofM hz658702 (by omega)
  have bz658702 : gB z658702 0 16777216 := ⟨by omega, by omega⟩
  refine G_aload_n 0 dr_cJ5_ensureCapacityInternal_d00df_5 rfl ?_
  refine Gp_get 1 hmq658692 heq658692 dr_cJ5_ensureCapacityInternal_d00df_6 (gk_J4 D I) (Nat.le_of_ble_eq_true rfl) wr_7_61 rfl ?_
  refine G_ishr dr_cJ5_ensureCapacityInternal_d00df_9 (G_nam fun z658703 hz658703 => ?_)
  have ez658703 : z658703.toInt = z658702.toInt / 1 := gI_shr (k := 0) hz658703 (by decide)
  have bz658703 : gB z658703 0 16777216 := ⟨by omega, by omega⟩
  refine G_istore_n (L' := [(2, .int z658703), (0, .ref q658692), (1, .int p658694)]) dr_cJ5_ensureCapacityInternal_d00df_10 (Nat.le_of_ble_eq_true rfl) rfl ?_
  refine G_iload_n 2 dr_cJ5_ensureCapacityInternal_d00df_11 rfl ?_
  refine G_iload_n 0 dr_cJ5_ensureCapacityInternal_d00df_12 rfl ?_
  refine G_isub dr_cJ5_ensureCapacityInternal_d00df_13 (G_nam fun z658704 hz658704 => ?_)
  have ez658704 : z658704.toInt = p658694.toInt - z658703.toInt := by rw [gI_sub hz658704 bp658694 bz658703 (by decide) (by decide)]
  have bz658704 : gB z658704 (-16777216) 16777216 := gB_sub (gI_sub hz658704 bp658694 bz658703 (by decide) (by decide)) bp658694 bz658703 (by decide) (by decide)
  refine G_if_le 38 dr_cJ5_ensureCapacityInternal_d00df_14 (by decide +kernel) (fun hc658705 => ?_) (fun hc => absurd (show False by have := gj_nle hc (show Int32.toInt 0 = 0 by decide); omega) not_false)
  have r658707 : z658704.toInt ≤ 0 := gj_le hc658705 (show Int32.toInt 0 = 0 by decide)
  have bz658704' : gB z658704 (-16777216) 0 := ⟨by omega, by omega⟩
  exact G_vretA dr_cJ5_ensureCapacityInternal_d00df_38 rfl (Nat.le_of_ble_eq_true rfl) (Nat.le_of_ble_eq_true rfl) ⟨rfl, rfl, (Nat.le_of_ble_eq_true rfl), (Nat.le_of_ble_eq_true rfl), (fun R c1 => c1 z658702 z658703 z658704 ez658702 ez658703 ez658704 r658707)⟩
abbrev ky_658723_AbstractStringBuilder_isLatin1 : gKey := (cJ5_isLatin1_aae02, 1, "java/lang/AbstractStringBuilder", (some FieldType.boolean), [], "isLatin1", fun _ _ => True)
def pp_658723_AbstractStringBuilder_isLatin1 (D : va_G) (I : FieldType → ClassId) (P658714 : List Nat) (F658715 : Nat → va_E) (q658716 : Nat) (q658717 : Nat) (p658718 : Int32) (p658719 : Int32) (f658720 : Nat → Int32) (n658721 : Nat) : Option Value → va_W → Nat → Nat → Prop := fun r w dc ds => r = some (.int 1) ∧ w = va_pl P658714 F658715 ∧ dc ≤ 0 ∧ ds ≤ 0
set_option maxRecDepth 100000 in
set_option maxHeartbeats 4000000 in
theorem cp_658723_AbstractStringBuilder_isLatin1 (l : Launch) (hl0 : l.stackTraces = false) (D : va_G) (I : FieldType → ClassId) (P658714 : List Nat) (F658715 : Nat → va_E) (q658716 : Nat) (q658717 : Nat) (p658718 : Int32) (p658719 : Int32) (f658720 : Nat → Int32) (n658721 : Nat) (hmq658716 : q658716 ∈ P658714) (hmq658717 : q658717 ∈ P658714) (heq658716 : F658715 q658716 = .inr (1, [.ref q658717, .int 0, .int p658718, .int p658719])) (heq658717 : F658715 q658717 = .inl (I .byte, n658721, .inl f658720)) (bp658718 : gB p658718 0 1) (bp658719 : gB p658719 0 16777216) (bf658720 : gF f658720 (-128) 127) (x658722 : ((n658721 : Int) ≤ 16777216)) : CtA (gV D I) l yJ5_isLatin1_aae02 cJ5_isLatin1_aae02 1 (some FieldType.boolean) 0 0 0 0 [.ref q658716] (va_pl P658714 F658715) (pp_658723_AbstractStringBuilder_isLatin1 D I P658714 F658715 q658716 q658717 p658718 p658719 f658720 n658721) gNA := by
  refine CtA_ofF hl0 (by decide +kernel) (Nat.le_of_ble_eq_true rfl) ?_
  refine G_gets dr_cJ5_isLatin1_aae02_0 wr_7_52 gz_cs (fun x hx => ?_)
  subst hx
  refine G_if_eq 17 dr_cJ5_isLatin1_aae02_3 (by decide +kernel) (fun hc => absurd hc (by decide)) (fun _ => ?_)
  refine G_aload_n 0 dr_cJ5_isLatin1_aae02_6 rfl ?_
  refine Gp_get 1 hmq658716 heq658716 dr_cJ5_isLatin1_aae02_7 (gk_J4 D I) (Nat.le_of_ble_eq_true rfl) wr_7_61 rfl ?_
  refine G_if_ne 17 dr_cJ5_isLatin1_aae02_10 (by decide +kernel) (fun hc => absurd hc (by decide)) (fun _ => ?_)
  refine G_iconst 1 dr_cJ5_isLatin1_aae02_13 (by decide +kernel) ?_
  refine G_goto 18 dr_cJ5_isLatin1_aae02_14 (by decide +kernel) ?_
  exact G_zretA FieldType.boolean dr_cJ5_isLatin1_aae02_18 rfl rfl (Nat.le_of_ble_eq_true rfl) (Nat.le_of_ble_eq_true rfl) ⟨rfl, rfl, (Nat.le_of_ble_eq_true rfl), (Nat.le_of_ble_eq_true rfl)⟩
/- tr_RStringLatin1_canEncode: result -/
def tr_RStringLatin1_canEncode (a0 : Int32) (o1 : Int32) : Prop := ∀ R : (Int32) → Prop,
  (255 < a0.toInt → R (0 : Int32)) →
  (a0.toInt ≤ 255 → R (1 : Int32)) →
  R o1
abbrev ky_658732_StringLatin1_canEncode : gKey := (cJ1_canEncode_fc78d, 1, "java/lang/StringLatin1", (some FieldType.boolean), [], "canEncode", fun _ _ => True)
def pp_658732_StringLatin1_canEncode (D : va_G) (I : FieldType → ClassId) (P658729 : List Nat) (F658730 : Nat → va_E) (p658731 : Int32) : Option Value → va_W → Nat → Nat → Prop := fun r w dc ds => (r = some (.int 0) ∧ w = va_pl P658729 F658730 ∧ dc ≤ 0 ∧ ds ≤ 0 ∧ 255 < p658731.toInt ∧ tr_RStringLatin1_canEncode p658731 (0 : Int32)) ∨ (r = some (.int 1) ∧ w = va_pl P658729 F658730 ∧ dc ≤ 0 ∧ ds ≤ 0 ∧ p658731.toInt ≤ 255 ∧ tr_RStringLatin1_canEncode p658731 (1 : Int32))
set_option maxRecDepth 100000 in
set_option maxHeartbeats 4000000 in
theorem cp_658732_StringLatin1_canEncode (l : Launch) (hl0 : l.stackTraces = false) (D : va_G) (I : FieldType → ClassId) (P658729 : List Nat) (F658730 : Nat → va_E) (p658731 : Int32) (bp658731 : gB p658731 0 65535) : CtA (gV D I) l yJ1_canEncode_fc78d cJ1_canEncode_fc78d 1 (some FieldType.boolean) 0 0 0 0 [.int p658731] (va_pl P658729 F658730) (pp_658732_StringLatin1_canEncode D I P658729 F658730 p658731) gNA := by
  refine CtA_ofF hl0 (by decide +kernel) (Nat.le_of_ble_eq_true rfl) ?_
  refine G_iload_n 0 dr_cJ1_canEncode_fc78d_0 rfl ?_
  refine G_sipush 255 dr_cJ1_canEncode_fc78d_1 (by decide +kernel) ?_
  refine G_icmp_gt 11 dr_cJ1_canEncode_fc78d_4 (by decide +kernel) (fun hc658733 => ?_) (fun hc658733 => ?_)
  · have r658734 : 255 < p658731.toInt := gj_ltL hc658733 (show Int32.toInt 255 = 255 by decide)
    have bp658731' : gB p658731 256 65535 := ⟨by omega, by omega⟩
    refine G_iconst 0 dr_cJ1_canEncode_fc78d_11 (by decide +kernel) ?_
    exact G_zretA FieldType.boolean dr_cJ1_canEncode_fc78d_12 rfl rfl (Nat.le_of_ble_eq_true rfl) (Nat.le_of_ble_eq_true rfl) (Or.inl ⟨rfl, rfl, (Nat.le_of_ble_eq_true rfl), (Nat.le_of_ble_eq_true rfl), r658734, (fun R c1 c2 => c1 r658734)⟩)
  · have r658735 : p658731.toInt ≤ 255 := gj_nltL hc658733 (show Int32.toInt 255 = 255 by decide)
    have bp658731' : gB p658731 0 255 := ⟨by omega, by omega⟩
    refine G_iconst 1 dr_cJ1_canEncode_fc78d_7 (by decide +kernel) ?_
    refine G_goto 12 dr_cJ1_canEncode_fc78d_8 (by decide +kernel) ?_
    exact G_zretA FieldType.boolean dr_cJ1_canEncode_fc78d_12 rfl rfl (Nat.le_of_ble_eq_true rfl) (Nat.le_of_ble_eq_true rfl) (Or.inr (⟨rfl, rfl, (Nat.le_of_ble_eq_true rfl), (Nat.le_of_ble_eq_true rfl), r658735, (fun R c1 c2 => c2 r658735)⟩))
/- tr_RAbstractStringBuilder_append: a.0...count, a.0.value.[] -/
def tr_RAbstractStringBuilder_append (a1 : Int32) (a0_count : Int32) (a0_value_v : Nat → Int32) (a0_value_n : Nat) (o1 : Int32) (o2 : Nat → Int32) : Prop := ∀ R : (Int32) → (Nat → Int32) → Prop,
  (∀ (x1 : Int32) (x2 : Int32) (x3 : Int32) (x4 : Nat → Int32), x1.toInt = a0_count.toInt + 1 → tr_RAbstractStringBuilder_ensureCapacityInternal x1 a0_value_n → tr_RStringLatin1_canEncode a1 (1 : Int32) → x2.toInt = a0_count.toInt + 1 → x3 = a1.toInt8.toInt32 → x4 = upd a0_value_v a0_count.toNatClampNeg (vp_nar .byte x3) → R x2 x4) →
  R o1 o2
abbrev ky_658688_AbstractStringBuilder_append : gKey := (cJ5_append_3fe6f, 2, "java/lang/AbstractStringBuilder", (some (FieldType.object "java/lang/AbstractStringBuilder")), [], "append", fun _ _ => True)
def pp_658688_AbstractStringBuilder_append (D : va_G) (I : FieldType → ClassId) (P658677 : List Nat) (F658678 : Nat → va_E) (q658679 : Nat) (q658680 : Nat) (p658681 : Int32) (p658682 : Int32) (p658683 : Int32) (f658684 : Nat → Int32) (n658685 : Nat) : Option Value → va_W → Nat → Nat → Prop := fun r w dc ds => ∃ (F658764 : Nat → va_E) (o658761 : Int32) (f658762 : Nat → Int32), r = some (.ref q658679) ∧ w = va_pl P658677 F658764 ∧ rFr [q658680, q658679] P658677 F658678 F658764 ∧ F658764 q658679 = .inr (1, [.ref q658680, .int 0, .int p658682, .int o658761]) ∧ F658764 q658680 = .inl (I .byte, n658685, .inl f658762) ∧ dc ≤ 0 ∧ ds ≤ 0 ∧ gB o658761 1 16777216 ∧ gF f658762 (-128) 127 ∧ o658761.toInt = p658683.toInt + 1 ∧ tr_RAbstractStringBuilder_append p658681 p658683 f658684 n658685 o658761 f658762
set_option maxRecDepth 100000 in
set_option maxHeartbeats 4000000 in
theorem cp_658688_AbstractStringBuilder_append (l : Launch) (hl0 : l.stackTraces = false) (D : va_G) (I : FieldType → ClassId) (P658677 : List Nat) (F658678 : Nat → va_E) (q658679 : Nat) (q658680 : Nat) (p658681 : Int32) (p658682 : Int32) (p658683 : Int32) (f658684 : Nat → Int32) (n658685 : Nat) (hmq658679 : q658679 ∈ P658677) (hmq658680 : q658680 ∈ P658677) (heq658679 : F658678 q658679 = .inr (1, [.ref q658680, .int 0, .int p658682, .int p658683])) (heq658680 : F658678 q658680 = .inl (I .byte, n658685, .inl f658684)) (bp658681 : gB p658681 0 255) (bp658682 : gB p658682 0 1) (bp658683 : gB p658683 0 16777216) (bf658684 : gF f658684 (-128) 127) (x658686 : p658683.toInt < (n658685 : Int)) (x658687 : ((n658685 : Int) ≤ 16777216)) : CtA (gV D I) l yJ5_append_3fe6f cJ5_append_3fe6f 2 (some (FieldType.object "java/lang/AbstractStringBuilder")) 1 22 0 0 [.ref q658679, .int p658681] (va_pl P658677 F658678) (pp_658688_AbstractStringBuilder_append D I P658677 F658678 q658679 q658680 p658681 p658682 p658683 f658684 n658685) gNA := by
  refine CtA_ofF hl0 (by decide +kernel) (Nat.le_of_ble_eq_true rfl) ?_
  refine G_aload_n 0 dr_cJ5_append_3fe6f_0 rfl ?_
  refine G_aload_n 0 dr_cJ5_append_3fe6f_1 rfl ?_
  refine Gp_get 3 hmq658679 heq658679 dr_cJ5_append_3fe6f_2 (gk_J4 D I) (Nat.le_of_ble_eq_true rfl) wr_7_64 rfl ?_
  refine G_iconst 1 dr_cJ5_append_3fe6f_5 (by decide +kernel) ?_
  refine G_iadd dr_cJ5_append_3fe6f_6 (G_nam fun z658689 hz658689 => ?_)
  have ez658689 : z658689.toInt = p658683.toInt + 1 := by rw [gI_add hz658689 bp658683 (gBl (show Int32.toInt 1 = 1 by decide)) (by decide) (by decide), show Int32.toInt 1 = 1 from by decide]
  have bz658689 : gB z658689 1 16777217 := gB_add (gI_add hz658689 bp658683 (gBl (show Int32.toInt 1 = 1 by decide)) (by decide) (by decide)) bp658683 (gBl (show Int32.toInt 1 = 1 by decide)) (by decide) (by decide)
  refine Gw_callVB (As := [.int z658689]) (gV_ok D I) (cp_658701_AbstractStringBuilder_ensureCapacityInternal l hl0 D I P658677 F658678 q658679 q658680 z658689 p658682 p658683 f658684 n658685 hmq658679 hmq658680 heq658679 heq658680 ⟨by omega, by omega⟩ bp658682 bp658683 bf658684 (by have qa0 : Int32.toInt 0 = 0 := (by decide); omega) (by have qa0 : Int32.toInt 0 = 0 := (by decide); omega)) dr_cJ5_append_3fe6f_7 ⟨wr_8_4, wr_1_19, wr_8_7, by decide, rfl, (Nat.le_of_ble_eq_true rfl), (Nat.le_of_ble_eq_true rfl)⟩ wr_8_6 wr_s_0 hmq658679 heq658679 rfl (show 0 + 0 ≤ 0 by first | omega | decide) (show 0 + 0 ≤ 0 by first | omega | decide) (Nat.le_of_ble_eq_true rfl) (fun r658711 w658712 dc658708 ds658709 hp658710 => ?_) (fun _ _ _ _ _ z => z.elim)
  obtain ⟨rfl, rfl, hdc, hds, ht658713⟩ := hp658710
  change G _ _ _ _ _ _ _ _ _ _ _
  refine G_widen (cs' := 0) (sl' := 0) (by omega) (by omega) ?_
  refine G_aload_n 0 dr_cJ5_append_3fe6f_10 rfl ?_
  refine Gw_callVB (As := []) (gV_ok D I) (cp_658723_AbstractStringBuilder_isLatin1 l hl0 D I P658677 F658678 q658679 q658680 p658682 p658683 f658684 n658685 hmq658679 hmq658680 heq658679 heq658680 bp658682 bp658683 bf658684 (by have qa0 : Int32.toInt 0 = 0 := (by decide); omega)) dr_cJ5_append_3fe6f_11 ⟨wr_8_33, wr_1_19, wr_8_37, by decide, rfl, (Nat.le_of_ble_eq_true rfl), (Nat.le_of_ble_eq_true rfl)⟩ wr_8_34 wr_8_36 hmq658679 heq658679 rfl (show 0 + 0 ≤ 0 by first | omega | decide) (show 0 + 0 ≤ 0 by first | omega | decide) (Nat.le_of_ble_eq_true rfl) (fun r658727 w658728 dc658724 ds658725 hp658726 => ?_) (fun _ _ _ _ _ z => z.elim)
  obtain ⟨rfl, rfl, hdc, hds⟩ := hp658726
  change G _ _ _ _ _ _ _ (.int 1 :: _) _ _ _
  refine G_widen (cs' := 0) (sl' := 0) (by omega) (by omega) ?_
  refine G_if_eq 45 dr_cJ5_append_3fe6f_14 (by decide +kernel) (fun hc => absurd hc (by decide)) (fun _ => ?_)
  refine G_iload_n 1 dr_cJ5_append_3fe6f_17 rfl ?_
  refine Gw_callS (As := [.int p658681]) (gV_ok D I) (cp_658732_StringLatin1_canEncode l hl0 D I P658677 F658678 p658681 (gB_w bp658681 (by decide) (by decide))) dr_cJ5_append_3fe6f_18 ⟨wr_8_38, wr_1_28, wr_8_40, by decide, rfl, (Nat.le_of_ble_eq_true rfl), (Nat.le_of_ble_eq_true rfl)⟩ wr_8_39 (show 0 + 0 ≤ 0 by first | omega | decide) (show 0 + 0 ≤ 0 by first | omega | decide) (Nat.le_of_ble_eq_true rfl) (fun r658739 w658740 dc658736 ds658737 hp658738 => ?_) (fun _ _ _ _ _ z => z.elim)
  rcases hp658738 with ⟨rfl, rfl, hdc, hds, r658741, r658742⟩ | ⟨rfl, rfl, hdc, hds, r658743, r658744⟩
  · exact absurd (show False by omega) not_false
  · change G _ _ _ _ _ _ _ (.int 1 :: _) _ _ _
    refine G_widen (cs' := 0) (sl' := 0) (by omega) (by omega) ?_
    refine G_if_eq 45 dr_cJ5_append_3fe6f_21 (by decide +kernel) (fun hc => absurd hc (by decide)) (fun _ => ?_)
    refine G_aload_n 0 dr_cJ5_append_3fe6f_24 rfl ?_
    refine Gp_get 0 hmq658679 heq658679 dr_cJ5_append_3fe6f_25 (gk_J4 D I) (Nat.le_of_ble_eq_true rfl) wr_7_60 rfl ?_
    refine G_aload_n 0 dr_cJ5_append_3fe6f_28 rfl ?_
    refine G_dup dr_cJ5_append_3fe6f_29 rfl ?_
    refine Gp_get 3 hmq658679 heq658679 dr_cJ5_append_3fe6f_30 (gk_J4 D I) (Nat.le_of_ble_eq_true rfl) wr_7_64 rfl ?_
    refine G_dup_x1 dr_cJ5_append_3fe6f_33 rfl rfl ?_
    refine G_iconst 1 dr_cJ5_append_3fe6f_34 (by decide +kernel) ?_
    refine G_iadd dr_cJ5_append_3fe6f_35 (G_nam fun z658746 hz658746 => ?_)
    have ez658746 : z658746.toInt = p658683.toInt + 1 := by rw [gI_add hz658746 bp658683 (gBl (show Int32.toInt 1 = 1 by decide)) (by decide) (by decide), show Int32.toInt 1 = 1 from by decide]
    have bz658746 : gB z658746 1 16777217 := gB_add (gI_add hz658746 bp658683 (gBl (show Int32.toInt 1 = 1 by decide)) (by decide) (by decide)) bp658683 (gBl (show Int32.toInt 1 = 1 by decide)) (by decide) (by decide)
    refine Gp_put 3 hmq658679 heq658679 dr_cJ5_append_3fe6f_36 (gk_J4 D I) (Nat.le_of_ble_eq_true rfl) wr_7_64 rfl rfl rfl (Nat.le_of_ble_eq_true rfl) (fun F658747 e658748 n658749 => ?_)
    have he658750 : F658747 q658680 = .inl (I .byte, n658685, .inl f658684) := (n658749 q658680 (rn_ao heq658680 heq658679)).trans heq658680
    have he658751 : F658747 q658679 = .inr (1, [.ref q658680, .int 0, .int p658682, .int z658746]) := e658748
    have hfr658752 : rFr [q658679] P658677 F658678 F658747 := rFr_put (rFr_rf (W := []) (P := P658677) (F := F658678)) n658749
    refine G_iload_n 1 dr_cJ5_append_3fe6f_39 rfl ?_
    refine G_i2b dr_cJ5_append_3fe6f_40 (G_nam fun z658753 hz658753 => ?_)
    have bz658753 : gB z658753 (-128) 127 := gB_i2b hz658753
    refine Gp_bast 1 hmq658680 he658750 dr_cJ5_append_3fe6f_41 rfl (gB_inr (by omega) (by omega)) (fun F658754 e658755 n658756 => ?_)
    obtain ⟨f658757, hf658757⟩ : ∃ z, z = upd f658684 p658683.toNatClampNeg (vp_nar .byte z658753) := ⟨_, rfl⟩
    rw [← hf658757] at e658755
    have he658758 : F658754 q658679 = .inr (1, [.ref q658680, .int 0, .int p658682, .int z658746]) := (n658756 q658679 (rn_oa he658751 he658750)).trans he658751
    have he658759 : F658754 q658680 = .inl (I .byte, n658685, .inl f658757) := e658755
    have hfr658760 : rFr [q658680, q658679] P658677 F658678 F658754 := rFr_put hfr658752 n658756
    have bf658757 : gF f658757 (-128) 127 := gF_upd hf658757 bf658684 gB_byte
    refine G_goto 75 dr_cJ5_append_3fe6f_42 (by decide +kernel) ?_
    refine G_aload_n 0 dr_cJ5_append_3fe6f_75 rfl ?_
    exact G_aretA (FieldType.object "java/lang/AbstractStringBuilder") dr_cJ5_append_3fe6f_76 rfl (by first | exact Or.inl ⟨_, rfl⟩ | exact Or.inr ⟨_, rfl⟩) (Or.inr ⟨_, rfl⟩) (Nat.le_of_ble_eq_true rfl) (Nat.le_of_ble_eq_true rfl) ⟨F658754, z658746, f658757, rfl, rfl, hfr658760, he658758, he658759, (Nat.le_of_ble_eq_true rfl), (Nat.le_of_ble_eq_true rfl), ⟨by omega, by omega⟩, bf658757, (by have qa0 : Int32.toInt 0 = 0 := (by decide); omega), (fun R c1 => c1 z658689 z658746 z658753 f658757 ez658689 ht658713 r658744 ez658746 hz658753 hf658757)⟩
/- tr_RStringBuilder_append: a.0...count, a.0.value.[] -/
def tr_RStringBuilder_append (a1 : Int32) (a0_count : Int32) (a0_value_v : Nat → Int32) (a0_value_n : Nat) (o1 : Int32) (o2 : Nat → Int32) : Prop := ∀ R : (Int32) → (Nat → Int32) → Prop,
  (∀ (x1 : Int32) (x2 : Nat → Int32), gB x1 1 16777216 → tr_RAbstractStringBuilder_append a1 a0_count a0_value_v a0_value_n x1 x2 → R x1 x2) →
  R o1 o2
abbrev ky_658676_StringBuilder_append : gKey := (cJ4_append_cf468, 2, "java/lang/StringBuilder", (some (FieldType.object "java/lang/StringBuilder")), [], "append", fun _ _ => True)
def pp_658676_StringBuilder_append (D : va_G) (I : FieldType → ClassId) (P658665 : List Nat) (F658666 : Nat → va_E) (q658667 : Nat) (q658668 : Nat) (p658669 : Int32) (p658670 : Int32) (p658671 : Int32) (f658672 : Nat → Int32) (n658673 : Nat) : Option Value → va_W → Nat → Nat → Prop := fun r w dc ds => ∃ (F658783 : Nat → va_E) (o658780 : Int32) (f658781 : Nat → Int32), r = some (.ref q658667) ∧ w = va_pl P658665 F658783 ∧ rFr [q658668, q658667] P658665 F658666 F658783 ∧ F658783 q658667 = .inr (1, [.ref q658668, .int 0, .int p658670, .int o658780]) ∧ F658783 q658668 = .inl (I .byte, n658673, .inl f658781) ∧ dc ≤ 0 ∧ ds ≤ 0 ∧ gB o658780 1 16777216 ∧ gF f658781 (-128) 127 ∧ o658780.toInt = p658671.toInt + 1 ∧ tr_RStringBuilder_append p658669 p658671 f658672 n658673 o658780 f658781
set_option maxRecDepth 100000 in
set_option maxHeartbeats 4000000 in
theorem cp_658676_StringBuilder_append (l : Launch) (hl0 : l.stackTraces = false) (D : va_G) (I : FieldType → ClassId) (P658665 : List Nat) (F658666 : Nat → va_E) (q658667 : Nat) (q658668 : Nat) (p658669 : Int32) (p658670 : Int32) (p658671 : Int32) (f658672 : Nat → Int32) (n658673 : Nat) (hmq658667 : q658667 ∈ P658665) (hmq658668 : q658668 ∈ P658665) (heq658667 : F658666 q658667 = .inr (1, [.ref q658668, .int 0, .int p658670, .int p658671])) (heq658668 : F658666 q658668 = .inl (I .byte, n658673, .inl f658672)) (bp658669 : gB p658669 0 255) (bp658670 : gB p658670 0 1) (bp658671 : gB p658671 0 16777216) (bf658672 : gF f658672 (-128) 127) (x658674 : p658671.toInt < (n658673 : Int)) (x658675 : ((n658673 : Int) ≤ 16777216)) : CtA (gV D I) l yJ4_append_cf468 cJ4_append_cf468 2 (some (FieldType.object "java/lang/StringBuilder")) 2 43 0 0 [.ref q658667, .int p658669] (va_pl P658665 F658666) (pp_658676_StringBuilder_append D I P658665 F658666 q658667 q658668 p658669 p658670 p658671 f658672 n658673) gNA := by
  refine CtA_ofF hl0 (by decide +kernel) (Nat.le_of_ble_eq_true rfl) ?_
  refine G_aload_n 0 dr_cJ4_append_cf468_0 rfl ?_
  refine G_iload_n 1 dr_cJ4_append_cf468_1 rfl ?_
  refine Gw_callSU (As := [.int p658669]) (gV_ok D I) (cp_658688_AbstractStringBuilder_append l hl0 D I P658665 F658666 q658667 q658668 p658669 p658670 p658671 f658672 n658673 hmq658667 hmq658668 heq658667 heq658668 bp658669 bp658670 bp658671 bf658672 (by have qa0 : Int32.toInt 0 = 0 := (by decide); omega) (by have qa0 : Int32.toInt 0 = 0 := (by decide); omega)) dr_cJ4_append_cf468_2 ⟨wr_8_1, wr_1_19, wr_8_3, by decide, rfl, (Nat.le_of_ble_eq_true rfl), (Nat.le_of_ble_eq_true rfl)⟩ wr_8_2 wr_11_224 wr_7_73 wr_7_44 (by decide) hmq658667 heq658667 rfl (show 0 + 0 ≤ 0 by first | omega | decide) (show 0 + 0 ≤ 0 by first | omega | decide) (Nat.le_of_ble_eq_true rfl) (fun r658768 w658769 dc658765 ds658766 hp658767 => ?_)
  obtain ⟨F658774, o658770, f658771, rfl, rfl, hfr658776, he658777, he658778, hdc, hds, bo658770, bf658771, x658772, ht658773⟩ := hp658767
  have hfr658779 : rFr [q658668, q658667] P658665 F658666 F658774 := rFr_call (rSub_rf (P := P658665)) (rFr_rf (W := []) (P := P658665) (F := F658666)) hfr658776 (fun b hb hn => ⟨nm_n, (nm_c (fun e => hn (e ▸ List.mem_cons_self)) (nm_c (fun e => hn (e ▸ (List.mem_cons_of_mem _ List.mem_cons_self))) nm_n))⟩)
  change G _ _ _ _ _ _ _ (.ref q658667 :: _) _ _ _
  refine G_widen (cs' := 0) (sl' := 0) (by omega) (by omega) ?_
  refine G_pop dr_cJ4_append_cf468_5 rfl ?_
  refine G_aload_n 0 dr_cJ4_append_cf468_6 rfl ?_
  exact G_aretA (FieldType.object "java/lang/StringBuilder") dr_cJ4_append_cf468_7 rfl (by first | exact Or.inl ⟨_, rfl⟩ | exact Or.inr ⟨_, rfl⟩) (Or.inr ⟨_, rfl⟩) (Nat.le_of_ble_eq_true rfl) (Nat.le_of_ble_eq_true rfl) ⟨F658774, o658770, f658771, rfl, rfl, hfr658779, he658777, he658778, (Nat.le_of_ble_eq_true rfl), (Nat.le_of_ble_eq_true rfl), bo658770, bf658771, (by have qa0 : Int32.toInt 0 = 0 := (by decide); omega), (fun R c1 => c1 o658770 f658771 bo658770 ht658773)⟩
/- tr_RAbstractStringBuilder_newCapacity: result -/
def tr_RAbstractStringBuilder_newCapacity (a1 : Int32) (a0_value_n : Nat) (o1 : Int32) : Prop := ∀ R : (Int32) → Prop,
  (∀ (x1 : Int32) (x2 : Int32) (x3 : Int32) (x4 : Int32) (x5 : Int32) (x6 : Int32) (x7 : Int32), x1.toInt = (a0_value_n : Nat) → x2.toInt = a1.toInt * 1 → x3.toInt = x2.toInt - x1.toInt → x4.toInt = 2 * 1 → x5.toInt = x1.toInt + x4.toInt → gB x6 1 33554432 → tr_RArraysSupport_newLength x1 x3 x5 x6 → x7.toInt = x6.toInt / 1 → R x7) →
  R o1
abbrev ky_658841_AbstractStringBuilder_newCapacity : gKey := (cJ5_newCapacity_0f7a4, 6, "java/lang/AbstractStringBuilder", (some FieldType.int), [], "newCapacity", fun _ _ => True)
def pp_658841_AbstractStringBuilder_newCapacity (D : va_G) (I : FieldType → ClassId) (P658829 : List Nat) (F658830 : Nat → va_E) (q658831 : Nat) (q658832 : Nat) (p658833 : Int32) (p658834 : Int32) (p658835 : Int32) (f658836 : Nat → Int32) (n658837 : Nat) : Option Value → va_W → Nat → Nat → Prop := fun r w dc ds => ∃ (o658856 : Int32), r = some (.int o658856) ∧ w = va_pl P658829 F658830 ∧ dc ≤ 0 ∧ ds ≤ 0 ∧ gB o658856 1 33554432 ∧ p658833.toInt ≤ o658856.toInt ∧ 2 * (n658837 : Int) + 2 ≤ o658856.toInt ∧ (o658856.toInt ≤ 2 * (n658837 : Int) + 2 ∨ o658856.toInt ≤ p658833.toInt) ∧ tr_RAbstractStringBuilder_newCapacity p658833 n658837 o658856
set_option maxRecDepth 100000 in
set_option maxHeartbeats 4000000 in
theorem cp_658841_AbstractStringBuilder_newCapacity (l : Launch) (hl0 : l.stackTraces = false) (D : va_G) (I : FieldType → ClassId) (P658829 : List Nat) (F658830 : Nat → va_E) (q658831 : Nat) (q658832 : Nat) (p658833 : Int32) (p658834 : Int32) (p658835 : Int32) (f658836 : Nat → Int32) (n658837 : Nat) (hmq658831 : q658831 ∈ P658829) (hmq658832 : q658832 ∈ P658829) (heq658831 : F658830 q658831 = .inr (1, [.ref q658832, .int 0, .int p658834, .int p658835])) (heq658832 : F658830 q658832 = .inl (I .byte, n658837, .inl f658836)) (bp658833 : gB p658833 0 8388608) (bp658834 : gB p658834 0 1) (bp658835 : gB p658835 0 16777216) (bf658836 : gF f658836 (-128) 127) (x658838 : (n658837 : Int) < p658833.toInt) (x658839 : (n658837 : Int) ≤ 8388608) (x658840 : ((n658837 : Int) ≤ 16777216)) : CtA (gV D I) l yJ5_newCapacity_0f7a4 cJ5_newCapacity_0f7a4 6 (some FieldType.int) 2 37 0 0 [.ref q658831, .int p658833] (va_pl P658829 F658830) (pp_658841_AbstractStringBuilder_newCapacity D I P658829 F658830 q658831 q658832 p658833 p658834 p658835 f658836 n658837) gNA := by
  refine CtA_ofF hl0 (by decide +kernel) (Nat.le_of_ble_eq_true rfl) ?_
  refine G_aload_n 0 dr_cJ5_newCapacity_0f7a4_0 rfl ?_
  refine Gp_get 0 hmq658831 heq658831 dr_cJ5_newCapacity_0f7a4_1 (gk_J4 D I) (Nat.le_of_ble_eq_true rfl) wr_7_60 rfl ?_
  refine Gp_alen (Int32.ofNat n658837) 1 hmq658832 heq658832 dr_cJ5_newCapacity_0f7a4_4 rfl rfl (G_nam fun z658842 hz658842 => ?_)
  have ez658842 : z658842.toInt = (n658837 : Nat) := gI_ofM hz658842 (by omega)
  have bz658842 : gB z658842 0 16777216 := ⟨by omega, by omega⟩
  refine G_istore_n (L' := [(2, .int z658842), (0, .ref q658831), (1, .int p658833)]) dr_cJ5_newCapacity_0f7a4_5 (Nat.le_of_ble_eq_true rfl) rfl ?_
  refine G_iload_n 2 dr_cJ5_newCapacity_0f7a4_6 rfl ?_
  refine G_aload_n 1 dr_cJ5_newCapacity_0f7a4_7 rfl ?_
  refine Gp_get 1 hmq658831 heq658831 dr_cJ5_newCapacity_0f7a4_8 (gk_J4 D I) (Nat.le_of_ble_eq_true rfl) wr_7_61 rfl ?_
  refine G_ishl dr_cJ5_newCapacity_0f7a4_11 (G_nam fun z658843 hz658843 => ?_)
  have ez658843 : z658843.toInt = p658833.toInt * 1 := gI_shl (k := 0) hz658843 (by decide) bp658833 (by decide) (by decide)
  have bz658843 : gB z658843 0 8388608 := ⟨by omega, by omega⟩
  refine G_istore_n (L' := [(3, .int z658843), (2, .int z658842), (0, .ref q658831), (1, .int p658833)]) dr_cJ5_newCapacity_0f7a4_12 (Nat.le_of_ble_eq_true rfl) rfl ?_
  refine G_iload_n 0 dr_cJ5_newCapacity_0f7a4_13 rfl ?_
  refine G_iload_n 1 dr_cJ5_newCapacity_0f7a4_14 rfl ?_
  refine G_isub dr_cJ5_newCapacity_0f7a4_15 (G_nam fun z658844 hz658844 => ?_)
  have ez658844 : z658844.toInt = z658843.toInt - z658842.toInt := by rw [gI_sub hz658844 bz658843 bz658842 (by decide) (by decide)]
  have bz658844 : gB z658844 (-16777216) 8388608 := gB_sub (gI_sub hz658844 bz658843 bz658842 (by decide) (by decide)) bz658843 bz658842 (by decide) (by decide)
  refine G_istore (L' := [(4, .int z658844), (3, .int z658843), (2, .int z658842), (0, .ref q658831), (1, .int p658833)]) dr_cJ5_newCapacity_0f7a4_16 (Nat.le_of_ble_eq_true rfl) rfl ?_
  refine G_iload_n 2 dr_cJ5_newCapacity_0f7a4_18 rfl ?_
  refine G_iload 0 dr_cJ5_newCapacity_0f7a4_19 rfl ?_
  refine G_iload_n 2 dr_cJ5_newCapacity_0f7a4_21 rfl ?_
  refine G_iconst 2 dr_cJ5_newCapacity_0f7a4_22 (by decide +kernel) ?_
  refine G_aload_n 3 dr_cJ5_newCapacity_0f7a4_23 rfl ?_
  refine Gp_get 1 hmq658831 heq658831 dr_cJ5_newCapacity_0f7a4_24 (gk_J4 D I) (Nat.le_of_ble_eq_true rfl) wr_7_61 rfl ?_
  refine G_ishl dr_cJ5_newCapacity_0f7a4_27 (G_nam fun z658845 hz658845 => ?_)
  have ez658845 : z658845.toInt = 2 * 1 := gI_shl (k := 0) hz658845 (by decide) (gBl (show Int32.toInt 2 = 2 by decide)) (by decide) (by decide)
  have bz658845 : gB z658845 2 2 := ⟨by omega, by omega⟩
  refine G_iadd dr_cJ5_newCapacity_0f7a4_28 (G_nam fun z658846 hz658846 => ?_)
  have ez658846 : z658846.toInt = z658842.toInt + z658845.toInt := by rw [gI_add hz658846 bz658842 bz658845 (by decide) (by decide)]
  have bz658846 : gB z658846 2 16777218 := gB_add (gI_add hz658846 bz658842 bz658845 (by decide) (by decide)) bz658842 bz658845 (by decide) (by decide)
  refine Gw_callS (As := [.int z658842, .int z658844, .int z658846]) (gV_ok D I) (cp_355_ArraysSupport_newLength l hl0 D I P658829 F658830 z658842 z658844 z658846 bz658842 ⟨by omega, by omega⟩ ⟨by omega, by omega⟩) dr_cJ5_newCapacity_0f7a4_29 ⟨wr_8_12, wr_1_33, wr_8_14, by decide, rfl, (Nat.le_of_ble_eq_true rfl), (Nat.le_of_ble_eq_true rfl)⟩ wr_8_13 (show 0 + 0 ≤ 0 by first | omega | decide) (show 0 + 0 ≤ 0 by first | omega | decide) (Nat.le_of_ble_eq_true rfl) (fun r658850 w658851 dc658847 ds658848 hp658849 => ?_) (fun _ _ _ _ _ z => z.elim)
  obtain ⟨o658852, rfl, rfl, hdc, hds, bo658852, x658853, ht658854⟩ := hp658849
  change G _ _ _ _ _ _ _ (.int o658852 :: _) _ _ _
  refine G_widen (cs' := 0) (sl' := 0) (by omega) (by omega) ?_
  refine G_istore (L' := [(5, .int o658852), (4, .int z658844), (3, .int z658843), (2, .int z658842), (0, .ref q658831), (1, .int p658833)]) dr_cJ5_newCapacity_0f7a4_32 (Nat.le_of_ble_eq_true rfl) rfl ?_
  refine G_iload 0 dr_cJ5_newCapacity_0f7a4_34 rfl ?_
  refine G_ldc 2147483647 dr_cJ5_newCapacity_0f7a4_36 wr_8_20 ?_
  refine G_icmp_ne 51 dr_cJ5_newCapacity_0f7a4_38 (by decide +kernel) (fun _ => ?_) (fun hc => absurd (show False by have := gj_eq hc (show Int32.toInt 2147483647 = 2147483647 by decide); omega) not_false)
  refine G_iload 0 dr_cJ5_newCapacity_0f7a4_51 rfl ?_
  refine G_aload_n 4 dr_cJ5_newCapacity_0f7a4_53 rfl ?_
  refine Gp_get 1 hmq658831 heq658831 dr_cJ5_newCapacity_0f7a4_54 (gk_J4 D I) (Nat.le_of_ble_eq_true rfl) wr_7_61 rfl ?_
  refine G_ishr dr_cJ5_newCapacity_0f7a4_57 (G_nam fun z658855 hz658855 => ?_)
  have ez658855 : z658855.toInt = o658852.toInt / 1 := gI_shr (k := 0) hz658855 (by decide)
  have bz658855 : gB z658855 1 33554432 := ⟨by omega, by omega⟩
  exact G_iretA dr_cJ5_newCapacity_0f7a4_58 rfl (Nat.le_of_ble_eq_true rfl) (Nat.le_of_ble_eq_true rfl) ⟨z658855, rfl, rfl, (Nat.le_of_ble_eq_true rfl), (Nat.le_of_ble_eq_true rfl), bz658855, (by have qa0 : Int32.toInt 0 = 0 := (by decide); omega), (by have qa0 : Int32.toInt 0 = 0 := (by decide); omega), (by have qa0 : Int32.toInt 0 = 0 := (by decide); omega), (fun R c1 => c1 z658842 z658843 z658844 z658845 z658846 o658852 z658855 ez658842 ez658843 ez658844 ez658845 ez658846 bo658852 ht658854 ez658855)⟩
/- tr_RArrays_copyOf3: a.2.[] -/
def tr_RArrays_copyOf3 (a1 : Int32) (a0_v : Nat → Int32) (a0_n : Nat) (o1 : Nat → Int32) : Prop := ∀ R : (Nat → Int32) → Prop,
  (∀ (x1 : Int32) (x2 : Int32) (x3 : Int32) (x4 : Nat → Int32), x1.toInt = (a0_n : Nat) → a1.toInt ≠ x1.toInt → x2.toInt = (a0_n : Nat) → (x2.toInt ≥ x3.toInt ∧ a1.toInt ≥ x3.toInt ∧ (x3.toInt = x2.toInt ∨ x3.toInt = a1.toInt)) → (x4 = va_cpy a0_v (fun _ => 0) (0 : Int32).toNatClampNeg (0 : Int32).toNatClampNeg x3.toNatClampNeg) → R x4) →
  R o1
abbrev ky_658876_Arrays_copyOf : gKey := (cJ7_copyOf_9075b, 3, "java/util/Arrays", (some (FieldType.array FieldType.byte)), [], "copyOf", fun _ _ => True)
def pp_658876_Arrays_copyOf (D : va_G) (I : FieldType → ClassId) (P658868 : List Nat) (F658869 : Nat → va_E) (q658870 : Nat) (p658871 : Int32) (f658872 : Nat → Int32) (n658873 : Nat) : Option Value → va_W → Nat → Nat → Prop := fun r w dc ds => ∃ (P658906 : List Nat) (F658907 : Nat → va_E) (q658904 : Nat) (f658905 : Nat → Int32), r = some (.ref q658904) ∧ w = va_pl P658906 F658907 ∧ rSub P658868 P658906 ∧ rFr [] P658868 F658869 F658907 ∧ F658907 q658870 = .inl (I .byte, n658873, .inl f658872) ∧ F658907 q658904 = .inl (I .byte, p658871.toInt.toNat, .inl f658905) ∧ q658904 ∈ P658906 ∧ q658904 ∉ P658868 ∧ dc ≤ 1 ∧ ds ≤ p658871.toInt.toNat ∧ gF f658905 (-128) 127 ∧ tr_RArrays_copyOf3 p658871 f658872 n658873 f658905
set_option maxRecDepth 100000 in
set_option maxHeartbeats 4000000 in
theorem cp_658876_Arrays_copyOf (l : Launch) (hl0 : l.stackTraces = false) (D : va_G) (I : FieldType → ClassId) (P658868 : List Nat) (F658869 : Nat → va_E) (q658870 : Nat) (p658871 : Int32) (f658872 : Nat → Int32) (n658873 : Nat) (hmq658870 : q658870 ∈ P658868) (heq658870 : F658869 q658870 = .inl (I .byte, n658873, .inl f658872)) (bp658871 : gB p658871 0 33554432) (bf658872 : gF f658872 (-128) 127) (x658874 : (n658873 : Int) < p658871.toInt) (x658875 : ((n658873 : Int) ≤ 16777216)) : CtA (gV D I) l yJ7_copyOf_9075b cJ7_copyOf_9075b 3 (some (FieldType.array FieldType.byte)) 1 18 1 p658871.toInt.toNat [.ref q658870, .int p658871] (va_pl P658868 F658869) (pp_658876_Arrays_copyOf D I P658868 F658869 q658870 p658871 f658872 n658873) gNA := by
  refine CtA_ofF hl0 (by decide +kernel) (Nat.le_of_ble_eq_true rfl) ?_
  refine G_iload_n 1 dr_cJ7_copyOf_9075b_0 rfl ?_
  refine G_aload_n 0 dr_cJ7_copyOf_9075b_1 rfl ?_
  refine Gp_alen (Int32.ofNat n658873) 1 hmq658870 heq658870 dr_cJ7_copyOf_9075b_2 rfl rfl (G_nam fun z658877 hz658877 => ?_)
  have ez658877 : z658877.toInt = (n658873 : Nat) := gI_ofM hz658877 (by omega)
  have bz658877 : gB z658877 0 16777216 := ⟨by omega, by omega⟩
  refine G_icmp_ne 14 dr_cJ7_copyOf_9075b_3 (by decide +kernel) (fun hc658878 => ?_) (fun hc => absurd (show False by have := gC_eq hc; omega) not_false)
  have r658880 : p658871.toInt ≠ z658877.toInt := gC_ne hc658878
  refine G_iload_n 1 dr_cJ7_copyOf_9075b_14 rfl ?_
  refine G_newa 1 (p658871.toInt.toNat, .inl (fun _ => 0)) dr_cJ7_copyOf_9075b_15 rfl rfl (by intro C h; cases h) wr_1_66 (fun _ => ga_byte _ _) (g_n0 (by omega)) rfl (show p658871.toInt.toNat * 1 ≤ 536870912 by omega) (show 0 + 1 ≤ 1 by first | omega | decide) (show 0 + p658871.toInt.toNat ≤ p658871.toInt.toNat by first | omega | decide) (fun q658881 => Gp_in (fun P658882 F658883 hq658884 hP658885 e658886 n658887 => ?_))
  refine G_widen (cs' := 1) (sl' := p658871.toInt.toNat) (by omega) (by omega) ?_
  have he658888 : F658883 q658870 = .inl (I .byte, n658873, .inl f658872) := (n658887 q658870 (fun h => hq658884 (h ▸ hmq658870))).trans heq658870
  have he658889 : F658883 q658881 = .inl (I .byte, p658871.toInt.toNat, .inl (fun _ => 0)) := e658886
  have hm658890 : q658870 ∈ P658882 := (hP658885 q658870).mpr (Or.inl hmq658870)
  have hm658891 : q658881 ∈ P658882 := (hP658885 q658881).mpr (Or.inr rfl)
  have hq658892 : q658881 ∉ P658868 := fun z => hq658884 ((rSub_rf (P := P658868)) q658881 z)
  have hfr658893 : rFr [] P658868 F658869 F658883 := rFr_new (rSub_rf (P := P658868)) hq658884 (rFr_rf (W := []) (P := P658868) (F := F658869)) n658887
  have hsb658894 : rSub P658868 P658882 := rSub_new (rSub_rf (P := P658868)) hP658885
  refine G_astore_n (L' := [(2, .ref q658881), (0, .ref q658870), (1, .int p658871)]) dr_cJ7_copyOf_9075b_17 (Nat.le_of_ble_eq_true rfl) rfl ?_
  refine G_aload_n 1 dr_cJ7_copyOf_9075b_18 rfl ?_
  refine G_iconst 0 dr_cJ7_copyOf_9075b_19 (by decide +kernel) ?_
  refine G_aload_n 0 dr_cJ7_copyOf_9075b_20 rfl ?_
  refine G_iconst 0 dr_cJ7_copyOf_9075b_21 (by decide +kernel) ?_
  refine G_aload_n 1 dr_cJ7_copyOf_9075b_22 rfl ?_
  refine Gp_alen (Int32.ofNat n658873) 1 hm658890 he658888 dr_cJ7_copyOf_9075b_23 rfl rfl (G_nam fun z658895 hz658895 => ?_)
  have ez658895 : z658895.toInt = (n658873 : Nat) := gI_ofM hz658895 (by omega)
  have bz658895 : gB z658895 0 16777216 := ⟨by omega, by omega⟩
  refine G_iload_n 2 dr_cJ7_copyOf_9075b_24 rfl ?_
  refine G_mmin dr_cJ7_copyOf_9075b_25 wr_8_31 wr_3_227 wr_1_6 wr_3_228 (Nat.le_of_ble_eq_true rfl) (Nat.le_of_ble_eq_true rfl) (show 1 ≤ 1 by first | omega | decide) (show p658871.toInt.toNat ≤ p658871.toInt.toNat by first | omega | decide) (G_nam fun z658896 hz658896 => ?_)
  have ez658896 : z658895.toInt ≥ z658896.toInt ∧ p658871.toInt ≥ z658896.toInt ∧ (z658896.toInt = z658895.toInt ∨ z658896.toInt = p658871.toInt) := by have := gI_min hz658896; omega
  have bz658896 : gB z658896 0 16777216 := ⟨by omega, by omega⟩
  refine Gp_copyp 1 hm658890 hm658891 he658888 he658889 dr_cJ7_copyOf_9075b_28 wr_8_32 wr_5_113 wr_5_112 wr_1_34 rfl rfl (fun j => gT_byte (bf658872 j)) (by decide) (by decide) (by omega) (by have qa0 : Int32.toInt 0 = 0 := (by decide); omega) (by have qa0 : Int32.toInt 0 = 0 := (by decide); omega) (Nat.le_of_ble_eq_true rfl) (Nat.le_of_ble_eq_true rfl) (fun F658897 e658898 n658899 => ?_)
  obtain ⟨f658900, hf658900⟩ : ∃ z, z = va_cpy f658872 (fun _ => 0) (0 : Int32).toNatClampNeg (0 : Int32).toNatClampNeg z658896.toNatClampNeg := ⟨_, rfl⟩
  rw [← hf658900] at e658898
  have bf658900 : gF f658900 (-128) 127 := gF_cpy hf658900 bf658872 (gF_w gF_0 (by decide) (by decide))
  have he658901 : F658897 q658870 = .inl (I .byte, n658873, .inl f658872) := (n658899 q658870 (fun h => hq658892 (h ▸ hmq658870))).trans he658888
  have he658902 : F658897 q658881 = .inl (I .byte, p658871.toInt.toNat, .inl f658900) := e658898
  have hfr658903 : rFr [] P658868 F658869 F658897 := rFr_newp hq658892 hfr658893 n658899
  refine G_aload_n 0 dr_cJ7_copyOf_9075b_31 rfl ?_
  exact G_aretA (FieldType.array FieldType.byte) dr_cJ7_copyOf_9075b_32 rfl (by first | exact Or.inl ⟨_, rfl⟩ | exact Or.inr ⟨_, rfl⟩) (Or.inr ⟨_, rfl⟩) (Nat.le_of_ble_eq_true rfl) (show p658871.toInt.toNat ≤ p658871.toInt.toNat by omega) ⟨P658882, F658897, q658881, f658900, rfl, rfl, hsb658894, hfr658903, he658901, he658902, hm658891, hq658892, (Nat.le_of_ble_eq_true rfl), (by omega), bf658900, (fun R c1 => c1 z658877 z658895 z658896 f658900 ez658877 r658880 ez658895 ez658896 hf658900)⟩
/- tr_RAbstractStringBuilder_ensureCapacityInternal2: a.0.value.#, a.0.value.[] -/
def tr_RAbstractStringBuilder_ensureCapacityInternal2 (a1 : Int32) (a0_value_v : Nat → Int32) (a0_value_n : Nat) (o1 : Nat) (o2 : Nat → Int32) : Prop := ∀ R : (Nat) → (Nat → Int32) → Prop,
  (∀ (x1 : Int32) (x2 : Int32) (x3 : Int32), x1.toInt = (a0_value_n : Nat) → x2.toInt = x1.toInt / 1 → x3.toInt = a1.toInt - x2.toInt → x3.toInt ≤ 0 → R a0_value_n a0_value_v) →
  (∀ (x1 : Int32) (x2 : Int32) (x3 : Int32) (x4 : Int32) (x5 : Int32) (x6 : Nat → Int32), x1.toInt = (a0_value_n : Nat) → x2.toInt = x1.toInt / 1 → x3.toInt = a1.toInt - x2.toInt → 0 < x3.toInt → gB x4 1 33554432 → tr_RAbstractStringBuilder_newCapacity a1 a0_value_n x4 → x5.toInt = x4.toInt * 1 → tr_RArrays_copyOf3 x5 a0_value_v a0_value_n x6 → R x5.toInt.toNat x6) →
  R o1 o2
abbrev ky_658822_AbstractStringBuilder_ensureCapacityInternal : gKey := (cJ5_ensureCapacityInternal_d00df, 3, "java/lang/AbstractStringBuilder", none, [], "ensureCapacityInternal", fun _ _ => True)
def pp_658822_AbstractStringBuilder_ensureCapacityInternal (D : va_G) (I : FieldType → ClassId) (P658811 : List Nat) (F658812 : Nat → va_E) (q658813 : Nat) (q658814 : Nat) (p658815 : Int32) (p658816 : Int32) (p658817 : Int32) (f658818 : Nat → Int32) (n658819 : Nat) : Option Value → va_W → Nat → Nat → Prop := fun r w dc ds => ∃ (P658940 : List Nat) (F658941 : Nat → va_E) (q658937 : Nat) (n658938 : Nat) (f658939 : Nat → Int32), r = none ∧ w = va_pl P658940 F658941 ∧ rSub P658811 P658940 ∧ rFr [q658813] P658811 F658812 F658941 ∧ F658941 q658813 = .inr (1, [.ref q658937, .int 0, .int p658816, .int p658817]) ∧ F658941 q658937 = .inl (I .byte, n658938, .inl f658939) ∧ q658937 ∈ P658940 ∧ (q658937 = q658814 ∨ q658937 ∉ P658811) ∧ dc ≤ 1 ∧ ds ≤ 2 * (n658938 - n658819) ∧ gF f658939 (-128) 127 ∧ p658815.toInt ≤ (n658938 : Int) ∧ (n658819 : Int) ≤ (n658938 : Int) ∧ ((n658938 : Int) = (n658819 : Int) ∨ (n658819 : Int) < p658815.toInt) ∧ ((n658938 : Int) ≤ 2 * (n658819 : Int) + 2 ∨ (n658938 : Int) ≤ p658815.toInt) ∧ tr_RAbstractStringBuilder_ensureCapacityInternal2 p658815 f658818 n658819 n658938 f658939
set_option maxRecDepth 100000 in
set_option maxHeartbeats 4000000 in
theorem cp_658822_AbstractStringBuilder_ensureCapacityInternal (l : Launch) (hl0 : l.stackTraces = false) (D : va_G) (I : FieldType → ClassId) (P658811 : List Nat) (F658812 : Nat → va_E) (q658813 : Nat) (q658814 : Nat) (p658815 : Int32) (p658816 : Int32) (p658817 : Int32) (f658818 : Nat → Int32) (n658819 : Nat) (hmq658813 : q658813 ∈ P658811) (hmq658814 : q658814 ∈ P658811) (heq658813 : F658812 q658813 = .inr (1, [.ref q658814, .int 0, .int p658816, .int p658817])) (heq658814 : F658812 q658814 = .inl (I .byte, n658819, .inl f658818)) (bp658815 : gB p658815 0 8388608) (bp658816 : gB p658816 0 1) (bp658817 : gB p658817 0 16777216) (bf658818 : gF f658818 (-128) 127) (x658820 : (n658819 : Int) ≤ 8388608) (x658821 : ((n658819 : Int) ≤ 16777216)) : CtA (gV D I) l yJ5_ensureCapacityInternal_d00df cJ5_ensureCapacityInternal_d00df 3 none 3 62 1 (2 * n658819 + 2 + p658815.toInt.toNat) [.ref q658813, .int p658815] (va_pl P658811 F658812) (pp_658822_AbstractStringBuilder_ensureCapacityInternal D I P658811 F658812 q658813 q658814 p658815 p658816 p658817 f658818 n658819) gNA := by
  refine CtA_ofF hl0 (by decide +kernel) (Nat.le_of_ble_eq_true rfl) ?_
  refine G_aload_n 0 dr_cJ5_ensureCapacityInternal_d00df_0 rfl ?_
  refine Gp_get 0 hmq658813 heq658813 dr_cJ5_ensureCapacityInternal_d00df_1 (gk_J4 D I) (Nat.le_of_ble_eq_true rfl) wr_7_60 rfl ?_
  refine Gp_alen (Int32.ofNat n658819) 1 hmq658814 heq658814 dr_cJ5_ensureCapacityInternal_d00df_4 rfl rfl (G_nam fun z658823 hz658823 => ?_)
  have ez658823 : z658823.toInt = (n658819 : Nat) := gI_ofM hz658823 (by omega)
  have bz658823 : gB z658823 0 16777216 := ⟨by omega, by omega⟩
  refine G_aload_n 0 dr_cJ5_ensureCapacityInternal_d00df_5 rfl ?_
  refine Gp_get 1 hmq658813 heq658813 dr_cJ5_ensureCapacityInternal_d00df_6 (gk_J4 D I) (Nat.le_of_ble_eq_true rfl) wr_7_61 rfl ?_
  refine G_ishr dr_cJ5_ensureCapacityInternal_d00df_9 (G_nam fun z658824 hz658824 => ?_)
  have ez658824 : z658824.toInt = z658823.toInt / 1 := gI_shr (k := 0) hz658824 (by decide)
  have bz658824 : gB z658824 0 16777216 := ⟨by omega, by omega⟩
  refine G_istore_n (L' := [(2, .int z658824), (0, .ref q658813), (1, .int p658815)]) dr_cJ5_ensureCapacityInternal_d00df_10 (Nat.le_of_ble_eq_true rfl) rfl ?_
  refine G_iload_n 2 dr_cJ5_ensureCapacityInternal_d00df_11 rfl ?_
  refine G_iload_n 0 dr_cJ5_ensureCapacityInternal_d00df_12 rfl ?_
  refine G_isub dr_cJ5_ensureCapacityInternal_d00df_13 (G_nam fun z658825 hz658825 => ?_)
  have ez658825 : z658825.toInt = p658815.toInt - z658824.toInt := by rw [gI_sub hz658825 bp658815 bz658824 (by decide) (by decide)]
  have bz658825 : gB z658825 (-16777216) 8388608 := gB_sub (gI_sub hz658825 bp658815 bz658824 (by decide) (by decide)) bp658815 bz658824 (by decide) (by decide)
  refine G_if_le 38 dr_cJ5_ensureCapacityInternal_d00df_14 (by decide +kernel) (fun hc658826 => ?_) (fun hc658826 => ?_)
  · have r658827 : z658825.toInt ≤ 0 := gj_le hc658826 (show Int32.toInt 0 = 0 by decide)
    have bz658825' : gB z658825 (-16777216) 0 := ⟨by omega, by omega⟩
    exact G_vretA dr_cJ5_ensureCapacityInternal_d00df_38 rfl (Nat.le_of_ble_eq_true rfl) (Nat.le_of_ble_eq_true rfl) ⟨P658811, F658812, q658814, n658819, f658818, rfl, rfl, (rSub_rf (P := P658811)), (rFr_v (rFr_rf (W := []) (P := P658811) (F := F658812)) (fun b hn => nm_n)), heq658813, heq658814, hmq658814, (Or.inl rfl), (Nat.le_of_ble_eq_true rfl), (by omega), bf658818, (by have qa0 : Int32.toInt 0 = 0 := (by decide); omega), (by have qa0 : Int32.toInt 0 = 0 := (by decide); omega), (by have qa0 : Int32.toInt 0 = 0 := (by decide); omega), (by have qa0 : Int32.toInt 0 = 0 := (by decide); omega), (fun R c1 c2 => c1 z658823 z658824 z658825 ez658823 ez658824 ez658825 r658827)⟩
  · have r658828 : 0 < z658825.toInt := gj_nle hc658826 (show Int32.toInt 0 = 0 by decide)
    have bz658825' : gB z658825 1 8388608 := ⟨by omega, by omega⟩
    refine G_aload_n 1 dr_cJ5_ensureCapacityInternal_d00df_17 rfl ?_
    refine G_aload_n 1 dr_cJ5_ensureCapacityInternal_d00df_18 rfl ?_
    refine Gp_get 0 hmq658813 heq658813 dr_cJ5_ensureCapacityInternal_d00df_19 (gk_J4 D I) (Nat.le_of_ble_eq_true rfl) wr_7_60 rfl ?_
    refine G_aload_n 1 dr_cJ5_ensureCapacityInternal_d00df_22 rfl ?_
    refine G_iload_n 2 dr_cJ5_ensureCapacityInternal_d00df_23 rfl ?_
    refine Gw_callVB (As := [.int p658815]) (gV_ok D I) (cp_658841_AbstractStringBuilder_newCapacity l hl0 D I P658811 F658812 q658813 q658814 p658815 p658816 p658817 f658818 n658819 hmq658813 hmq658814 heq658813 heq658814 bp658815 bp658816 bp658817 bf658818 (by have qa0 : Int32.toInt 0 = 0 := (by decide); omega) (by have qa0 : Int32.toInt 0 = 0 := (by decide); omega) (by have qa0 : Int32.toInt 0 = 0 := (by decide); omega)) dr_cJ5_ensureCapacityInternal_d00df_24 ⟨wr_8_8, wr_1_19, wr_8_11, by decide, rfl, (Nat.le_of_ble_eq_true rfl), (Nat.le_of_ble_eq_true rfl)⟩ wr_8_10 wr_s_1 hmq658813 heq658813 rfl (show 0 + 0 ≤ 1 by first | omega | decide) (show 0 + 0 ≤ (2 * n658819 + 2 + p658815.toInt.toNat) by first | omega | decide) (Nat.le_of_ble_eq_true rfl) (fun r658860 w658861 dc658857 ds658858 hp658859 => ?_) (fun _ _ _ _ _ z => z.elim)
    obtain ⟨o658862, rfl, rfl, hdc, hds, bo658862, x658863, x658864, x658865, ht658866⟩ := hp658859
    change G _ _ _ _ _ _ _ (.int o658862 :: _) _ _ _
    refine G_widen (cs' := 0) (sl' := 0) (by omega) (by omega) ?_
    refine G_aload_n 1 dr_cJ5_ensureCapacityInternal_d00df_27 rfl ?_
    refine Gp_get 1 hmq658813 heq658813 dr_cJ5_ensureCapacityInternal_d00df_28 (gk_J4 D I) (Nat.le_of_ble_eq_true rfl) wr_7_61 rfl ?_
    refine G_ishl dr_cJ5_ensureCapacityInternal_d00df_31 (G_nam fun z658867 hz658867 => ?_)
    have ez658867 : z658867.toInt = o658862.toInt * 1 := gI_shl (k := 0) hz658867 (by decide) bo658862 (by decide) (by decide)
    have bz658867 : gB z658867 1 33554432 := ⟨by omega, by omega⟩
    refine Gw_callS (As := [.ref q658814, .int z658867]) (gV_ok D I) (cp_658876_Arrays_copyOf l hl0 D I P658811 F658812 q658814 z658867 f658818 n658819 hmq658814 heq658814 (gB_w bz658867 (by decide) (by decide)) bf658818 (by have qa0 : Int32.toInt 0 = 0 := (by decide); omega) (by have qa0 : Int32.toInt 0 = 0 := (by decide); omega)) dr_cJ5_ensureCapacityInternal_d00df_32 ⟨wr_8_21, wr_1_30, wr_8_23, by decide, rfl, (Nat.le_of_ble_eq_true rfl), (Nat.le_of_ble_eq_true rfl)⟩ wr_8_22 (show 0 + 1 ≤ 1 by first | omega | decide) (show 0 + z658867.toInt.toNat ≤ (2 * n658819 + 2 + p658815.toInt.toNat) by first | omega | decide) (Nat.le_of_ble_eq_true rfl) (fun r658911 w658912 dc658908 ds658909 hp658910 => ?_) (fun _ _ _ _ _ z => z.elim)
    obtain ⟨P658916, F658917, q658913, f658914, rfl, rfl, hsb658918, hfr658919, he658920, he658921, hm658922, hq658923, hdc, hds, bf658914, ht658915⟩ := hp658910
    have hm658924 : q658813 ∈ P658916 := hsb658918 q658813 hmq658813
    have hm658925 : q658814 ∈ P658916 := hsb658918 q658814 hmq658814
    have hq658926 : q658913 ∉ P658811 := fun z => hq658923 ((rSub_rf (P := P658811)) q658913 z)
    have hsb658927 : rSub P658811 P658916 := rSub_tr (rSub_rf (P := P658811)) hsb658918
    have he658928 : F658917 q658813 = .inr (1, [.ref q658814, .int 0, .int p658816, .int p658817]) := (hfr658919 q658813 hmq658813 nm_n).trans heq658813
    have hfr658929 : rFr [] P658811 F658812 F658917 := rFr_call (rSub_rf (P := P658811)) (rFr_rf (W := []) (P := P658811) (F := F658812)) hfr658919 (fun b hb hn => ⟨nm_n, nm_n⟩)
    change G _ _ _ _ _ _ _ (.ref q658913 :: _) _ _ _
    refine G_widen (cs' := 1) (sl' := z658867.toInt.toNat) (by omega) (by omega) ?_
    refine Gp_put 0 hm658924 he658928 dr_cJ5_ensureCapacityInternal_d00df_35 (gk_J4 D I) (Nat.le_of_ble_eq_true rfl) wr_7_60 rfl rfl rfl (Nat.le_of_ble_eq_true rfl) (fun F658930 e658931 n658932 => ?_)
    have he658933 : F658930 q658814 = .inl (I .byte, n658819, .inl f658818) := (n658932 q658814 (rn_ao he658920 he658928)).trans he658920
    have he658934 : F658930 q658913 = .inl (I .byte, z658867.toInt.toNat, .inl f658914) := (n658932 q658913 (fun h => hq658926 (h ▸ hmq658813))).trans he658921
    have he658935 : F658930 q658813 = .inr (1, [.ref q658913, .int 0, .int p658816, .int p658817]) := e658931
    have hfr658936 : rFr [q658813] P658811 F658812 F658930 := rFr_put hfr658929 n658932
    exact G_vretA dr_cJ5_ensureCapacityInternal_d00df_38 rfl (Nat.le_of_ble_eq_true rfl) (show z658867.toInt.toNat ≤ (2 * n658819 + 2 + p658815.toInt.toNat) by omega) ⟨P658916, F658930, q658913, z658867.toInt.toNat, f658914, rfl, rfl, hsb658927, hfr658936, he658935, he658934, hm658922, (Or.inr hq658926), (Nat.le_of_ble_eq_true rfl), (by omega), bf658914, (by have qa0 : Int32.toInt 0 = 0 := (by decide); omega), (by have qa0 : Int32.toInt 0 = 0 := (by decide); omega), (by have qa0 : Int32.toInt 0 = 0 := (by decide); omega), (by have qa0 : Int32.toInt 0 = 0 := (by decide); omega), (fun R c1 c2 => c2 z658823 z658824 z658825 o658862 z658867 f658914 ez658823 ez658824 ez658825 r658828 bo658862 ht658866 ez658867 ht658915)⟩
/- tr_RAbstractStringBuilder_append2: a.0...count, a.0.value.#, a.0.value.[] -/
def tr_RAbstractStringBuilder_append2 (a1 : Int32) (a0_count : Int32) (a0_value_v : Nat → Int32) (a0_value_n : Nat) (o1 : Int32) (o2 : Nat) (o3 : Nat → Int32) : Prop := ∀ R : (Int32) → (Nat) → (Nat → Int32) → Prop,
  (∀ (x1 : Int32) (x2 : Nat) (x3 : Nat → Int32) (x4 : Int32) (x5 : Int32) (x6 : Nat → Int32), x1.toInt = a0_count.toInt + 1 → tr_RAbstractStringBuilder_ensureCapacityInternal2 x1 a0_value_v a0_value_n x2 x3 → tr_RStringLatin1_canEncode a1 (1 : Int32) → x4.toInt = a0_count.toInt + 1 → x5 = a1.toInt8.toInt32 → x6 = upd x3 a0_count.toNatClampNeg (vp_nar .byte x5) → R x4 x2 x6) →
  R o1 o2 o3
end
section
theorem dr_cJ5_setLength_d00df_0 : decode cJ5_setLength_d00df 0 = .ok (.iload_n 1, 1) := by decide +kernel
theorem dr_cJ5_setLength_d00df_1 : decode cJ5_setLength_d00df 1 = .ok (.ifCond .ge 12, 3) := by decide +kernel
theorem dr_cJ5_setLength_d00df_13 : decode cJ5_setLength_d00df 13 = .ok (.aload_n 0, 1) := by decide +kernel
theorem dr_cJ5_setLength_d00df_14 : decode cJ5_setLength_d00df 14 = .ok (.iload_n 1, 1) := by decide +kernel
theorem dr_cJ5_setLength_d00df_15 : decode cJ5_setLength_d00df 15 = .ok (.invokevirtual 100, 3) := by decide +kernel
theorem dr_cJ5_setLength_d00df_18 : decode cJ5_setLength_d00df 18 = .ok (.aload_n 0, 1) := by decide +kernel
theorem dr_cJ5_setLength_d00df_19 : decode cJ5_setLength_d00df 19 = .ok (.getfield 79, 3) := by decide +kernel
theorem dr_cJ5_setLength_d00df_22 : decode cJ5_setLength_d00df 22 = .ok (.iload_n 1, 1) := by decide +kernel
theorem dr_cJ5_setLength_d00df_23 : decode cJ5_setLength_d00df 23 = .ok (.if_icmp .ge 40, 3) := by decide +kernel
theorem dr_cJ5_setLength_d00df_63 : decode cJ5_setLength_d00df 63 = .ok (.aload_n 0, 1) := by decide +kernel
theorem dr_cJ5_setLength_d00df_64 : decode cJ5_setLength_d00df 64 = .ok (.getfield 79, 3) := by decide +kernel
theorem dr_cJ5_setLength_d00df_67 : decode cJ5_setLength_d00df 67 = .ok (.iload_n 1, 1) := by decide +kernel
theorem dr_cJ5_setLength_d00df_68 : decode cJ5_setLength_d00df 68 = .ok (.if_icmp .le 8, 3) := by decide +kernel
theorem dr_cJ5_setLength_d00df_76 : decode cJ5_setLength_d00df 76 = .ok (.aload_n 0, 1) := by decide +kernel
theorem dr_cJ5_setLength_d00df_77 : decode cJ5_setLength_d00df 77 = .ok (.iload_n 1, 1) := by decide +kernel
theorem dr_cJ5_setLength_d00df_78 : decode cJ5_setLength_d00df 78 = .ok (.putfield 79, 3) := by decide +kernel
theorem dr_cJ5_setLength_d00df_81 : decode cJ5_setLength_d00df 81 = .ok (.return_, 1) := by decide +kernel
theorem dr_cJ5_setLength_d00df_71 : decode cJ5_setLength_d00df 71 = .ok (.aload_n 0, 1) := by decide +kernel
theorem dr_cJ5_setLength_d00df_72 : decode cJ5_setLength_d00df 72 = .ok (.iconst 1, 1) := by decide +kernel
theorem dr_cJ5_setLength_d00df_73 : decode cJ5_setLength_d00df 73 = .ok (.putfield 73, 3) := by decide +kernel
theorem wr_7_62 : (Jvm.Cond.fieldLink "java/lang/AbstractStringBuilder" (73 : Nat) "java/lang/AbstractStringBuilder" "maybeLatin1" "Z") ∈ gw := gw_7 62 rfl rfl
theorem dr_cJ4_setLength_d00df_0 : decode cJ4_setLength_d00df 0 = .ok (.aload_n 0, 1) := by decide +kernel
theorem dr_cJ4_setLength_d00df_1 : decode cJ4_setLength_d00df 1 = .ok (.iload_n 1, 1) := by decide +kernel
theorem dr_cJ4_setLength_d00df_2 : decode cJ4_setLength_d00df 2 = .ok (.invokespecial 333, 3) := by decide +kernel
theorem wr_11_129 : (Jvm.Cond.methodLink "java/lang/StringBuilder" (333 : Nat) ({ cls := "java/lang/AbstractStringBuilder", name := "setLength", desc := "(I)V" } : Jvm.MethodName)) ∈ gw := gw_11 129 rfl rfl
theorem wr_11_131 : (Jvm.Cond.code ({ cls := "java/lang/AbstractStringBuilder", name := "setLength", desc := "(I)V" } : Jvm.MethodName) prog_21_method_13_code (2 : Nat) (Option.none : Option Jvm.ClassFile.FieldType)) ∈ gw := gw_11 131 rfl rfl
theorem wr_11_130 : (Jvm.Cond.instanceMethod ({ cls := "java/lang/AbstractStringBuilder", name := "setLength", desc := "(I)V" } : Jvm.MethodName)) ∈ gw := gw_11 130 rfl rfl
theorem wr_11_233 : (Jvm.Cond.sameMethod "java/lang/AbstractStringBuilder" "java/lang/AbstractStringBuilder" "setLength" "(I)V") ∈ gw := gw_11 233 rfl rfl
theorem dr_cJ4_setLength_d00df_5 : decode cJ4_setLength_d00df 5 = .ok (.return_, 1) := by decide +kernel
theorem dr_cJ5_init_d00df_0 : decode cJ5_init_d00df 0 = .ok (.aload_n 0, 1) := by decide +kernel
theorem dr_cJ5_init_d00df_1 : decode cJ5_init_d00df 1 = .ok (.invokespecial 3, 3) := by decide +kernel
theorem wr_7_51 : (Jvm.Cond.methodLink "java/lang/AbstractStringBuilder" (3 : Nat) ({ cls := "java/lang/Object", name := "<init>", desc := "()V" } : Jvm.MethodName)) ∈ gw := gw_7 51 rfl rfl
theorem dr_cJ5_init_d00df_4 : decode cJ5_init_d00df 4 = .ok (.getstatic 18, 3) := by decide +kernel
theorem dr_cJ5_init_d00df_7 : decode cJ5_init_d00df 7 = .ok (.ifCond .eq 18, 3) := by decide +kernel
theorem dr_cJ5_init_d00df_10 : decode cJ5_init_d00df 10 = .ok (.aload_n 0, 1) := by decide +kernel
theorem dr_cJ5_init_d00df_11 : decode cJ5_init_d00df 11 = .ok (.iload_n 1, 1) := by decide +kernel
theorem dr_cJ5_init_d00df_12 : decode cJ5_init_d00df 12 = .ok (.newarray .byte, 2) := by decide +kernel
theorem dr_cJ5_init_d00df_14 : decode cJ5_init_d00df 14 = .ok (.putfield 15, 3) := by decide +kernel
theorem dr_cJ5_init_d00df_17 : decode cJ5_init_d00df 17 = .ok (.aload_n 0, 1) := by decide +kernel
theorem dr_cJ5_init_d00df_18 : decode cJ5_init_d00df 18 = .ok (.iconst 0, 1) := by decide +kernel
theorem dr_cJ5_init_d00df_19 : decode cJ5_init_d00df 19 = .ok (.putfield 22, 3) := by decide +kernel
theorem dr_cJ5_init_d00df_22 : decode cJ5_init_d00df 22 = .ok (.goto 16, 3) := by decide +kernel
theorem dr_cJ5_init_d00df_38 : decode cJ5_init_d00df 38 = .ok (.return_, 1) := by decide +kernel
theorem dr_cJ4_init_da8c8_0 : decode cJ4_init_da8c8 0 = .ok (.aload_n 0, 1) := by decide +kernel
theorem dr_cJ4_init_da8c8_1 : decode cJ4_init_da8c8 1 = .ok (.bipush 16, 2) := by decide +kernel
theorem dr_cJ4_init_da8c8_3 : decode cJ4_init_da8c8 3 = .ok (.invokespecial 1, 3) := by decide +kernel
theorem wr_7_48 : (Jvm.Cond.methodLink "java/lang/StringBuilder" (1 : Nat) ({ cls := "java/lang/AbstractStringBuilder", name := "<init>", desc := "(I)V" } : Jvm.MethodName)) ∈ gw := gw_7 48 rfl rfl
theorem wr_7_50 : (Jvm.Cond.code ({ cls := "java/lang/AbstractStringBuilder", name := "<init>", desc := "(I)V" } : Jvm.MethodName) prog_21_method_2_code (2 : Nat) (Option.none : Option Jvm.ClassFile.FieldType)) ∈ gw := gw_7 50 rfl rfl
theorem wr_7_49 : (Jvm.Cond.instanceMethod ({ cls := "java/lang/AbstractStringBuilder", name := "<init>", desc := "(I)V" } : Jvm.MethodName)) ∈ gw := gw_7 49 rfl rfl
theorem dr_cJ4_init_da8c8_6 : decode cJ4_init_da8c8 6 = .ok (.return_, 1) := by decide +kernel
theorem dr_cJ0_coder_7d493_0 : decode cJ0_coder_7d493 0 = .ok (.getstatic 38, 3) := by decide +kernel
theorem wr_3_65 : (Jvm.Cond.fieldLink "java/lang/String" (38 : Nat) "java/lang/String" "COMPACT_STRINGS" "Z") ∈ gw := gw_3 65 rfl rfl
theorem dr_cJ0_coder_7d493_3 : decode cJ0_coder_7d493 3 = .ok (.ifCond .eq 10, 3) := by decide +kernel
theorem dr_cJ0_coder_7d493_6 : decode cJ0_coder_7d493 6 = .ok (.aload_n 0, 1) := by decide +kernel
theorem dr_cJ0_coder_7d493_7 : decode cJ0_coder_7d493 7 = .ok (.getfield 15, 3) := by decide +kernel
theorem wr_8_183 : (Jvm.Cond.fieldLink "java/lang/String" (15 : Nat) "java/lang/String" "coder" "B") ∈ gw := gw_8 183 rfl rfl
theorem dr_cJ0_coder_7d493_10 : decode cJ0_coder_7d493 10 = .ok (.goto 4, 3) := by decide +kernel
theorem dr_cJ0_coder_7d493_14 : decode cJ0_coder_7d493 14 = .ok (.ireturn, 1) := by decide +kernel
theorem dr_cJ0_length_8abf5_0 : decode cJ0_length_8abf5 0 = .ok (.aload_n 0, 1) := by decide +kernel
theorem dr_cJ0_length_8abf5_1 : decode cJ0_length_8abf5 1 = .ok (.getfield 9, 3) := by decide +kernel
theorem wr_8_182 : (Jvm.Cond.fieldLink "java/lang/String" (9 : Nat) "java/lang/String" "value" "[B") ∈ gw := gw_8 182 rfl rfl
theorem dr_cJ0_length_8abf5_4 : decode cJ0_length_8abf5 4 = .ok (.arraylength, 1) := by decide +kernel
theorem dr_cJ0_length_8abf5_5 : decode cJ0_length_8abf5 5 = .ok (.aload_n 0, 1) := by decide +kernel
theorem dr_cJ0_length_8abf5_6 : decode cJ0_length_8abf5 6 = .ok (.invokevirtual 335, 3) := by decide +kernel
theorem wr_3_61 : (Jvm.Cond.methodLink "java/lang/String" (335 : Nat) ({ cls := "java/lang/String", name := "coder", desc := "()B" } : Jvm.MethodName)) ∈ gw := gw_3 61 rfl rfl
theorem wr_3_64 : (Jvm.Cond.code ({ cls := "java/lang/String", name := "coder", desc := "()B" } : Jvm.MethodName) prog_34_method_152_code (1 : Nat) (Option.some Jvm.ClassFile.FieldType.byte)) ∈ gw := gw_3 64 rfl rfl
theorem wr_3_62 : (Jvm.Cond.instanceMethod ({ cls := "java/lang/String", name := "coder", desc := "()B" } : Jvm.MethodName)) ∈ gw := gw_3 62 rfl rfl
theorem wr_3_63 : (Jvm.Cond.selects "java/lang/String" ({ cls := "java/lang/String", name := "coder", desc := "()B" } : Jvm.MethodName) ({ cls := "java/lang/String", name := "coder", desc := "()B" } : Jvm.MethodName)) ∈ gw := gw_3 63 rfl rfl
theorem dr_cJ0_length_8abf5_9 : decode cJ0_length_8abf5 9 = .ok (.ishr, 1) := by decide +kernel
theorem dr_cJ0_length_8abf5_10 : decode cJ0_length_8abf5 10 = .ok (.ireturn, 1) := by decide +kernel
theorem dr_cJ5_inflateIfNeededFor_a7421_0 : decode cJ5_inflateIfNeededFor_a7421 0 = .ok (.getstatic 18, 3) := by decide +kernel
theorem dr_cJ5_inflateIfNeededFor_a7421_3 : decode cJ5_inflateIfNeededFor_a7421 3 = .ok (.ifCond .eq 18, 3) := by decide +kernel
theorem dr_cJ5_inflateIfNeededFor_a7421_6 : decode cJ5_inflateIfNeededFor_a7421 6 = .ok (.aload_n 0, 1) := by decide +kernel
theorem dr_cJ5_inflateIfNeededFor_a7421_7 : decode cJ5_inflateIfNeededFor_a7421 7 = .ok (.getfield 22, 3) := by decide +kernel
theorem dr_cJ5_inflateIfNeededFor_a7421_10 : decode cJ5_inflateIfNeededFor_a7421 10 = .ok (.aload_n 1, 1) := by decide +kernel
theorem dr_cJ5_inflateIfNeededFor_a7421_11 : decode cJ5_inflateIfNeededFor_a7421 11 = .ok (.invokevirtual 40, 3) := by decide +kernel
theorem wr_8_163 : (Jvm.Cond.methodLink "java/lang/AbstractStringBuilder" (40 : Nat) ({ cls := "java/lang/String", name := "coder", desc := "()B" } : Jvm.MethodName)) ∈ gw := gw_8 163 rfl rfl
theorem dr_cJ5_inflateIfNeededFor_a7421_14 : decode cJ5_inflateIfNeededFor_a7421 14 = .ok (.if_icmp .eq 7, 3) := by decide +kernel
theorem dr_cJ5_inflateIfNeededFor_a7421_21 : decode cJ5_inflateIfNeededFor_a7421 21 = .ok (.return_, 1) := by decide +kernel
theorem dr_cJ0_getBytes_840e7_0 : decode cJ0_getBytes_840e7 0 = .ok (.aload_n 0, 1) := by decide +kernel
theorem dr_cJ0_getBytes_840e7_1 : decode cJ0_getBytes_840e7 1 = .ok (.invokevirtual 335, 3) := by decide +kernel
theorem dr_cJ0_getBytes_840e7_4 : decode cJ0_getBytes_840e7 4 = .ok (.iload_n 3, 1) := by decide +kernel
theorem dr_cJ0_getBytes_840e7_5 : decode cJ0_getBytes_840e7 5 = .ok (.if_icmp .ne 23, 3) := by decide +kernel
theorem dr_cJ0_getBytes_840e7_8 : decode cJ0_getBytes_840e7 8 = .ok (.aload_n 0, 1) := by decide +kernel
theorem dr_cJ0_getBytes_840e7_9 : decode cJ0_getBytes_840e7 9 = .ok (.getfield 9, 3) := by decide +kernel
theorem dr_cJ0_getBytes_840e7_12 : decode cJ0_getBytes_840e7 12 = .ok (.iconst 0, 1) := by decide +kernel
theorem dr_cJ0_getBytes_840e7_13 : decode cJ0_getBytes_840e7 13 = .ok (.aload_n 1, 1) := by decide +kernel
theorem dr_cJ0_getBytes_840e7_14 : decode cJ0_getBytes_840e7 14 = .ok (.iload_n 2, 1) := by decide +kernel
theorem dr_cJ0_getBytes_840e7_15 : decode cJ0_getBytes_840e7 15 = .ok (.iload_n 3, 1) := by decide +kernel
theorem dr_cJ0_getBytes_840e7_16 : decode cJ0_getBytes_840e7 16 = .ok (.ishl, 1) := by decide +kernel
theorem dr_cJ0_getBytes_840e7_17 : decode cJ0_getBytes_840e7 17 = .ok (.aload_n 0, 1) := by decide +kernel
theorem dr_cJ0_getBytes_840e7_18 : decode cJ0_getBytes_840e7 18 = .ok (.getfield 9, 3) := by decide +kernel
theorem dr_cJ0_getBytes_840e7_21 : decode cJ0_getBytes_840e7 21 = .ok (.arraylength, 1) := by decide +kernel
theorem dr_cJ0_getBytes_840e7_22 : decode cJ0_getBytes_840e7 22 = .ok (.invokestatic 212, 3) := by decide +kernel
theorem wr_8_168 : (Jvm.Cond.methodLink "java/lang/String" (212 : Nat) ({ cls := "java/lang/System", name := "arraycopy", desc := "(Ljava/lang/Object;ILjava/lang/Object;II)V" } : Jvm.MethodName)) ∈ gw := gw_8 168 rfl rfl
theorem dr_cJ0_getBytes_840e7_25 : decode cJ0_getBytes_840e7 25 = .ok (.goto 18, 3) := by decide +kernel
theorem dr_cJ0_getBytes_840e7_43 : decode cJ0_getBytes_840e7 43 = .ok (.return_, 1) := by decide +kernel
theorem dr_cJ5_putStringAt_47b60_0 : decode cJ5_putStringAt_47b60 0 = .ok (.aload_n 0, 1) := by decide +kernel
theorem dr_cJ5_putStringAt_47b60_1 : decode cJ5_putStringAt_47b60 1 = .ok (.aload_n 2, 1) := by decide +kernel
theorem dr_cJ5_putStringAt_47b60_2 : decode cJ5_putStringAt_47b60 2 = .ok (.invokevirtual 397, 3) := by decide +kernel
theorem wr_8_159 : (Jvm.Cond.methodLink "java/lang/AbstractStringBuilder" (397 : Nat) ({ cls := "java/lang/AbstractStringBuilder", name := "inflateIfNeededFor", desc := "(Ljava/lang/String;)V" } : Jvm.MethodName)) ∈ gw := gw_8 159 rfl rfl
theorem wr_8_162 : (Jvm.Cond.code ({ cls := "java/lang/AbstractStringBuilder", name := "inflateIfNeededFor", desc := "(Ljava/lang/String;)V" } : Jvm.MethodName) prog_21_method_71_code (2 : Nat) (Option.none : Option Jvm.ClassFile.FieldType)) ∈ gw := gw_8 162 rfl rfl
theorem wr_8_161 : (Jvm.Cond.instanceMethod ({ cls := "java/lang/AbstractStringBuilder", name := "inflateIfNeededFor", desc := "(Ljava/lang/String;)V" } : Jvm.MethodName)) ∈ gw := gw_8 161 rfl rfl
theorem wr_s_5 : Cond.selects "java/lang/StringBuilder" ⟨"java/lang/AbstractStringBuilder", "inflateIfNeededFor", "(Ljava/lang/String;)V"⟩ ⟨"java/lang/AbstractStringBuilder", "inflateIfNeededFor", "(Ljava/lang/String;)V"⟩ ∈ gw := gw_s _ 5 rfl rfl rfl
theorem dr_cJ5_putStringAt_47b60_5 : decode cJ5_putStringAt_47b60 5 = .ok (.aload_n 2, 1) := by decide +kernel
theorem dr_cJ5_putStringAt_47b60_6 : decode cJ5_putStringAt_47b60 6 = .ok (.aload_n 0, 1) := by decide +kernel
theorem dr_cJ5_putStringAt_47b60_7 : decode cJ5_putStringAt_47b60 7 = .ok (.getfield 15, 3) := by decide +kernel
theorem dr_cJ5_putStringAt_47b60_10 : decode cJ5_putStringAt_47b60 10 = .ok (.iload_n 1, 1) := by decide +kernel
theorem dr_cJ5_putStringAt_47b60_11 : decode cJ5_putStringAt_47b60 11 = .ok (.aload_n 0, 1) := by decide +kernel
theorem dr_cJ5_putStringAt_47b60_12 : decode cJ5_putStringAt_47b60 12 = .ok (.getfield 22, 3) := by decide +kernel
theorem dr_cJ5_putStringAt_47b60_15 : decode cJ5_putStringAt_47b60 15 = .ok (.invokevirtual 399, 3) := by decide +kernel
theorem wr_8_164 : (Jvm.Cond.methodLink "java/lang/AbstractStringBuilder" (399 : Nat) ({ cls := "java/lang/String", name := "getBytes", desc := "([BIB)V" } : Jvm.MethodName)) ∈ gw := gw_8 164 rfl rfl
theorem wr_8_167 : (Jvm.Cond.code ({ cls := "java/lang/String", name := "getBytes", desc := "([BIB)V" } : Jvm.MethodName) prog_34_method_147_code (4 : Nat) (Option.none : Option Jvm.ClassFile.FieldType)) ∈ gw := gw_8 167 rfl rfl
theorem wr_8_165 : (Jvm.Cond.instanceMethod ({ cls := "java/lang/String", name := "getBytes", desc := "([BIB)V" } : Jvm.MethodName)) ∈ gw := gw_8 165 rfl rfl
theorem wr_8_166 : (Jvm.Cond.selects "java/lang/String" ({ cls := "java/lang/String", name := "getBytes", desc := "([BIB)V" } : Jvm.MethodName) ({ cls := "java/lang/String", name := "getBytes", desc := "([BIB)V" } : Jvm.MethodName)) ∈ gw := gw_8 166 rfl rfl
theorem dr_cJ5_putStringAt_47b60_18 : decode cJ5_putStringAt_47b60 18 = .ok (.return_, 1) := by decide +kernel
theorem dr_cJ5_append_cf1ce_0 : decode cJ5_append_cf1ce 0 = .ok (.aload_n 1, 1) := by decide +kernel
theorem dr_cJ5_append_cf1ce_1 : decode cJ5_append_cf1ce 1 = .ok (.ifnonnull 8, 3) := by decide +kernel
theorem dr_cJ5_append_cf1ce_9 : decode cJ5_append_cf1ce 9 = .ok (.aload_n 1, 1) := by decide +kernel
theorem dr_cJ5_append_cf1ce_10 : decode cJ5_append_cf1ce 10 = .ok (.invokevirtual 32, 3) := by decide +kernel
theorem wr_8_154 : (Jvm.Cond.methodLink "java/lang/AbstractStringBuilder" (32 : Nat) ({ cls := "java/lang/String", name := "length", desc := "()I" } : Jvm.MethodName)) ∈ gw := gw_8 154 rfl rfl
theorem wr_3_60 : (Jvm.Cond.code ({ cls := "java/lang/String", name := "length", desc := "()I" } : Jvm.MethodName) prog_34_method_54_code (1 : Nat) (Option.some Jvm.ClassFile.FieldType.int)) ∈ gw := gw_3 60 rfl rfl
theorem wr_3_58 : (Jvm.Cond.instanceMethod ({ cls := "java/lang/String", name := "length", desc := "()I" } : Jvm.MethodName)) ∈ gw := gw_3 58 rfl rfl
theorem wr_3_59 : (Jvm.Cond.selects "java/lang/String" ({ cls := "java/lang/String", name := "length", desc := "()I" } : Jvm.MethodName) ({ cls := "java/lang/String", name := "length", desc := "()I" } : Jvm.MethodName)) ∈ gw := gw_3 59 rfl rfl
theorem dr_cJ5_append_cf1ce_13 : decode cJ5_append_cf1ce 13 = .ok (.istore_n 2, 1) := by decide +kernel
theorem dr_cJ5_append_cf1ce_14 : decode cJ5_append_cf1ce 14 = .ok (.aload_n 0, 1) := by decide +kernel
theorem dr_cJ5_append_cf1ce_15 : decode cJ5_append_cf1ce 15 = .ok (.aload_n 0, 1) := by decide +kernel
theorem dr_cJ5_append_cf1ce_16 : decode cJ5_append_cf1ce 16 = .ok (.getfield 79, 3) := by decide +kernel
theorem dr_cJ5_append_cf1ce_19 : decode cJ5_append_cf1ce 19 = .ok (.iload_n 2, 1) := by decide +kernel
theorem dr_cJ5_append_cf1ce_20 : decode cJ5_append_cf1ce 20 = .ok (.iadd, 1) := by decide +kernel
theorem dr_cJ5_append_cf1ce_21 : decode cJ5_append_cf1ce 21 = .ok (.invokevirtual 100, 3) := by decide +kernel
theorem dr_cJ5_append_cf1ce_24 : decode cJ5_append_cf1ce 24 = .ok (.aload_n 0, 1) := by decide +kernel
theorem dr_cJ5_append_cf1ce_25 : decode cJ5_append_cf1ce 25 = .ok (.aload_n 0, 1) := by decide +kernel
theorem dr_cJ5_append_cf1ce_26 : decode cJ5_append_cf1ce 26 = .ok (.getfield 79, 3) := by decide +kernel
theorem dr_cJ5_append_cf1ce_29 : decode cJ5_append_cf1ce 29 = .ok (.aload_n 1, 1) := by decide +kernel
theorem dr_cJ5_append_cf1ce_30 : decode cJ5_append_cf1ce 30 = .ok (.invokevirtual 208, 3) := by decide +kernel
theorem wr_8_155 : (Jvm.Cond.methodLink "java/lang/AbstractStringBuilder" (208 : Nat) ({ cls := "java/lang/AbstractStringBuilder", name := "putStringAt", desc := "(ILjava/lang/String;)V" } : Jvm.MethodName)) ∈ gw := gw_8 155 rfl rfl
theorem wr_8_158 : (Jvm.Cond.code ({ cls := "java/lang/AbstractStringBuilder", name := "putStringAt", desc := "(ILjava/lang/String;)V" } : Jvm.MethodName) prog_21_method_73_code (3 : Nat) (Option.none : Option Jvm.ClassFile.FieldType)) ∈ gw := gw_8 158 rfl rfl
theorem wr_8_157 : (Jvm.Cond.instanceMethod ({ cls := "java/lang/AbstractStringBuilder", name := "putStringAt", desc := "(ILjava/lang/String;)V" } : Jvm.MethodName)) ∈ gw := gw_8 157 rfl rfl
theorem wr_s_4 : Cond.selects "java/lang/StringBuilder" ⟨"java/lang/AbstractStringBuilder", "putStringAt", "(ILjava/lang/String;)V"⟩ ⟨"java/lang/AbstractStringBuilder", "putStringAt", "(ILjava/lang/String;)V"⟩ ∈ gw := gw_s _ 4 rfl rfl rfl
theorem dr_cJ5_append_cf1ce_33 : decode cJ5_append_cf1ce 33 = .ok (.aload_n 0, 1) := by decide +kernel
theorem dr_cJ5_append_cf1ce_34 : decode cJ5_append_cf1ce 34 = .ok (.dup, 1) := by decide +kernel
theorem dr_cJ5_append_cf1ce_35 : decode cJ5_append_cf1ce 35 = .ok (.getfield 79, 3) := by decide +kernel
theorem dr_cJ5_append_cf1ce_38 : decode cJ5_append_cf1ce 38 = .ok (.iload_n 2, 1) := by decide +kernel
theorem dr_cJ5_append_cf1ce_39 : decode cJ5_append_cf1ce 39 = .ok (.iadd, 1) := by decide +kernel
theorem dr_cJ5_append_cf1ce_40 : decode cJ5_append_cf1ce 40 = .ok (.putfield 79, 3) := by decide +kernel
theorem dr_cJ5_append_cf1ce_43 : decode cJ5_append_cf1ce 43 = .ok (.aload_n 0, 1) := by decide +kernel
theorem dr_cJ5_append_cf1ce_44 : decode cJ5_append_cf1ce 44 = .ok (.areturn, 1) := by decide +kernel
abbrev ky_658809_AbstractStringBuilder_append : gKey := (cJ5_append_3fe6f, 2, "java/lang/AbstractStringBuilder", (some (FieldType.object "java/lang/AbstractStringBuilder")), [], "append", fun _ _ => True)
def pp_658809_AbstractStringBuilder_append (D : va_G) (I : FieldType → ClassId) (P658797 : List Nat) (F658798 : Nat → va_E) (q658799 : Nat) (q658800 : Nat) (p658801 : Int32) (p658802 : Int32) (p658803 : Int32) (f658804 : Nat → Int32) (n658805 : Nat) : Option Value → va_W → Nat → Nat → Prop := fun r w dc ds => ∃ (P659005 : List Nat) (F659006 : Nat → va_E) (o659001 : Int32) (q659002 : Nat) (n659003 : Nat) (f659004 : Nat → Int32), r = some (.ref q658799) ∧ w = va_pl P659005 F659006 ∧ rSub P658797 P659005 ∧ rFr [q658800, q658799] P658797 F658798 F659006 ∧ F659006 q658799 = .inr (1, [.ref q659002, .int 0, .int p658802, .int o659001]) ∧ F659006 q659002 = .inl (I .byte, n659003, .inl f659004) ∧ q659002 ∈ P659005 ∧ (q659002 = q658800 ∨ q659002 ∉ P658797) ∧ dc ≤ 1 ∧ ds ≤ 2 * (n659003 - n658805) ∧ gB o659001 1 16777216 ∧ gF f659004 (-128) 127 ∧ o659001.toInt = p658803.toInt + 1 ∧ o659001.toInt ≤ (n659003 : Int) ∧ (n658805 : Int) ≤ (n659003 : Int) ∧ (n659003 : Int) ≤ 2 * (n658805 : Int) + 2 ∧ tr_RAbstractStringBuilder_append2 p658801 p658803 f658804 n658805 o659001 n659003 f659004
set_option maxRecDepth 100000 in
set_option maxHeartbeats 4000000 in
theorem cp_658809_AbstractStringBuilder_append (l : Launch) (hl0 : l.stackTraces = false) (D : va_G) (I : FieldType → ClassId) (P658797 : List Nat) (F658798 : Nat → va_E) (q658799 : Nat) (q658800 : Nat) (p658801 : Int32) (p658802 : Int32) (p658803 : Int32) (f658804 : Nat → Int32) (n658805 : Nat) (hmq658799 : q658799 ∈ P658797) (hmq658800 : q658800 ∈ P658797) (heq658799 : F658798 q658799 = .inr (1, [.ref q658800, .int 0, .int p658802, .int p658803])) (heq658800 : F658798 q658800 = .inl (I .byte, n658805, .inl f658804)) (bp658801 : gB p658801 0 255) (bp658802 : gB p658802 0 1) (bp658803 : gB p658803 0 16777216) (bf658804 : gF f658804 (-128) 127) (x658806 : (n658805 : Int) ≤ 8388608 - 100000) (x658807 : p658803.toInt ≤ (n658805 : Int)) (x658808 : ((n658805 : Int) ≤ 16777216)) : CtA (gV D I) l yJ5_append_3fe6f cJ5_append_3fe6f 2 (some (FieldType.object "java/lang/AbstractStringBuilder")) 4 84 1 (4 * n658805 + 8) [.ref q658799, .int p658801] (va_pl P658797 F658798) (pp_658809_AbstractStringBuilder_append D I P658797 F658798 q658799 q658800 p658801 p658802 p658803 f658804 n658805) gNA := by
  refine CtA_ofF hl0 (by decide +kernel) (Nat.le_of_ble_eq_true rfl) ?_
  refine G_aload_n 0 dr_cJ5_append_3fe6f_0 rfl ?_
  refine G_aload_n 0 dr_cJ5_append_3fe6f_1 rfl ?_
  refine Gp_get 3 hmq658799 heq658799 dr_cJ5_append_3fe6f_2 (gk_J4 D I) (Nat.le_of_ble_eq_true rfl) wr_7_64 rfl ?_
  refine G_iconst 1 dr_cJ5_append_3fe6f_5 (by decide +kernel) ?_
  refine G_iadd dr_cJ5_append_3fe6f_6 (G_nam fun z658810 hz658810 => ?_)
  have ez658810 : z658810.toInt = p658803.toInt + 1 := by rw [gI_add hz658810 bp658803 (gBl (show Int32.toInt 1 = 1 by decide)) (by decide) (by decide), show Int32.toInt 1 = 1 from by decide]
  have bz658810 : gB z658810 1 16777217 := gB_add (gI_add hz658810 bp658803 (gBl (show Int32.toInt 1 = 1 by decide)) (by decide) (by decide)) bp658803 (gBl (show Int32.toInt 1 = 1 by decide)) (by decide) (by decide)
  refine Gw_callVB (As := [.int z658810]) (gV_ok D I) (cp_658822_AbstractStringBuilder_ensureCapacityInternal l hl0 D I P658797 F658798 q658799 q658800 z658810 p658802 p658803 f658804 n658805 hmq658799 hmq658800 heq658799 heq658800 ⟨by omega, by omega⟩ bp658802 bp658803 bf658804 (by have qa0 : Int32.toInt 0 = 0 := (by decide); omega) (by have qa0 : Int32.toInt 0 = 0 := (by decide); omega)) dr_cJ5_append_3fe6f_7 ⟨wr_8_4, wr_1_19, wr_8_7, by decide, rfl, (Nat.le_of_ble_eq_true rfl), (Nat.le_of_ble_eq_true rfl)⟩ wr_8_6 wr_s_0 hmq658799 heq658799 rfl (show 0 + 1 ≤ 1 by first | omega | decide) (show 0 + (2 * n658805 + 2 + z658810.toInt.toNat) ≤ (4 * n658805 + 8) by first | omega | decide) (Nat.le_of_ble_eq_true rfl) (fun r658945 w658946 dc658942 ds658943 hp658944 => ?_) (fun _ _ _ _ _ z => z.elim)
  obtain ⟨P658955, F658956, q658947, n658948, f658949, rfl, rfl, hsb658957, hfr658958, he658959, he658960, hm658961, hq658962, hdc, hds, bf658949, x658950, x658951, x658952, x658953, ht658954⟩ := hp658944
  have hm658963 : q658799 ∈ P658955 := hsb658957 q658799 hmq658799
  have hm658964 : q658800 ∈ P658955 := hsb658957 q658800 hmq658800
  have hor658965 : q658947 = q658800 ∨ q658947 ∉ P658797 := hq658962.elim Or.inl (fun n => Or.inr (fun z => n ((rSub_rf (P := P658797)) _ z)))
  have hsb658966 : rSub P658797 P658955 := rSub_tr (rSub_rf (P := P658797)) hsb658957
  have he658967 : F658956 q658800 = .inl (I .byte, n658805, .inl f658804) := (hfr658958 q658800 hmq658800 (nm_c (rn_ao heq658800 heq658799) nm_n)).trans heq658800
  have hfr658968 : rFr [q658799] P658797 F658798 F658956 := rFr_call (rSub_rf (P := P658797)) (rFr_rf (W := []) (P := P658797) (F := F658798)) hfr658958 (fun b hb hn => ⟨nm_n, (nm_c (fun e => hn (e ▸ List.mem_cons_self)) nm_n)⟩)
  change G _ _ _ _ _ _ _ _ _ _ _
  refine G_widen (cs' := 1) (sl' := 2 * (n658948 - n658805)) (by omega) (by omega) ?_
  refine G_aload_n 0 dr_cJ5_append_3fe6f_10 rfl ?_
  refine Gw_callVB (As := []) (gV_ok D I) (cp_658723_AbstractStringBuilder_isLatin1 l hl0 D I P658955 F658956 q658799 q658947 p658802 p658803 f658949 n658948 hm658963 hm658961 he658959 he658960 bp658802 bp658803 bf658949 (by have qa0 : Int32.toInt 0 = 0 := (by decide); omega)) dr_cJ5_append_3fe6f_11 ⟨wr_8_33, wr_1_19, wr_8_37, by decide, rfl, (Nat.le_of_ble_eq_true rfl), (Nat.le_of_ble_eq_true rfl)⟩ wr_8_34 wr_8_36 hm658963 he658959 rfl (show 1 + 0 ≤ 1 by first | omega | decide) (show 2 * (n658948 - n658805) + 0 ≤ (4 * n658805 + 8) by first | omega | decide) (Nat.le_of_ble_eq_true rfl) (fun r658972 w658973 dc658969 ds658970 hp658971 => ?_) (fun _ _ _ _ _ z => z.elim)
  obtain ⟨rfl, rfl, hdc, hds⟩ := hp658971
  change G _ _ _ _ _ _ _ (.int 1 :: _) _ _ _
  refine G_widen (cs' := 1) (sl' := 2 * (n658948 - n658805) + 0) (by omega) (by omega) ?_
  refine G_if_eq 45 dr_cJ5_append_3fe6f_14 (by decide +kernel) (fun hc => absurd hc (by decide)) (fun _ => ?_)
  refine G_iload_n 1 dr_cJ5_append_3fe6f_17 rfl ?_
  refine Gw_callS (As := [.int p658801]) (gV_ok D I) (cp_658732_StringLatin1_canEncode l hl0 D I P658955 F658956 p658801 (gB_w bp658801 (by decide) (by decide))) dr_cJ5_append_3fe6f_18 ⟨wr_8_38, wr_1_28, wr_8_40, by decide, rfl, (Nat.le_of_ble_eq_true rfl), (Nat.le_of_ble_eq_true rfl)⟩ wr_8_39 (show 1 + 0 ≤ 1 by first | omega | decide) (show 2 * (n658948 - n658805) + 0 + 0 ≤ (4 * n658805 + 8) by first | omega | decide) (Nat.le_of_ble_eq_true rfl) (fun r658977 w658978 dc658974 ds658975 hp658976 => ?_) (fun _ _ _ _ _ z => z.elim)
  rcases hp658976 with ⟨rfl, rfl, hdc, hds, r658979, r658980⟩ | ⟨rfl, rfl, hdc, hds, r658981, r658982⟩
  · exact absurd (show False by omega) not_false
  · change G _ _ _ _ _ _ _ (.int 1 :: _) _ _ _
    refine G_widen (cs' := 1) (sl' := 2 * (n658948 - n658805) + 0 + 0) (by omega) (by omega) ?_
    refine G_if_eq 45 dr_cJ5_append_3fe6f_21 (by decide +kernel) (fun hc => absurd hc (by decide)) (fun _ => ?_)
    refine G_aload_n 0 dr_cJ5_append_3fe6f_24 rfl ?_
    refine Gp_get 0 hm658963 he658959 dr_cJ5_append_3fe6f_25 (gk_J4 D I) (Nat.le_of_ble_eq_true rfl) wr_7_60 rfl ?_
    refine G_aload_n 0 dr_cJ5_append_3fe6f_28 rfl ?_
    refine G_dup dr_cJ5_append_3fe6f_29 rfl ?_
    refine Gp_get 3 hm658963 he658959 dr_cJ5_append_3fe6f_30 (gk_J4 D I) (Nat.le_of_ble_eq_true rfl) wr_7_64 rfl ?_
    refine G_dup_x1 dr_cJ5_append_3fe6f_33 rfl rfl ?_
    refine G_iconst 1 dr_cJ5_append_3fe6f_34 (by decide +kernel) ?_
    refine G_iadd dr_cJ5_append_3fe6f_35 (G_nam fun z658984 hz658984 => ?_)
    have ez658984 : z658984.toInt = p658803.toInt + 1 := by rw [gI_add hz658984 bp658803 (gBl (show Int32.toInt 1 = 1 by decide)) (by decide) (by decide), show Int32.toInt 1 = 1 from by decide]
    have bz658984 : gB z658984 1 16777217 := gB_add (gI_add hz658984 bp658803 (gBl (show Int32.toInt 1 = 1 by decide)) (by decide) (by decide)) bp658803 (gBl (show Int32.toInt 1 = 1 by decide)) (by decide) (by decide)
    refine Gp_put 3 hm658963 he658959 dr_cJ5_append_3fe6f_36 (gk_J4 D I) (Nat.le_of_ble_eq_true rfl) wr_7_64 rfl rfl rfl (Nat.le_of_ble_eq_true rfl) (fun F658985 e658986 n658987 => ?_)
    have he658988 : F658985 q658800 = .inl (I .byte, n658805, .inl f658804) := (n658987 q658800 (rn_ao he658967 he658959)).trans he658967
    have he658989 : F658985 q658947 = .inl (I .byte, n658948, .inl f658949) := (n658987 q658947 (rn_ao he658960 he658959)).trans he658960
    have he658990 : F658985 q658799 = .inr (1, [.ref q658947, .int 0, .int p658802, .int z658984]) := e658986
    have hfr658991 : rFr [q658799] P658797 F658798 F658985 := rFr_put' List.mem_cons_self hfr658968 n658987
    refine G_iload_n 1 dr_cJ5_append_3fe6f_39 rfl ?_
    refine G_i2b dr_cJ5_append_3fe6f_40 (G_nam fun z658992 hz658992 => ?_)
    have bz658992 : gB z658992 (-128) 127 := gB_i2b hz658992
    refine Gp_bast 1 hm658961 he658989 dr_cJ5_append_3fe6f_41 rfl (gB_inr (by omega) (by omega)) (fun F658993 e658994 n658995 => ?_)
    obtain ⟨f658996, hf658996⟩ : ∃ z, z = upd f658949 p658803.toNatClampNeg (vp_nar .byte z658992) := ⟨_, rfl⟩
    rw [← hf658996] at e658994
    have he658998 : F658993 q658799 = .inr (1, [.ref q658947, .int 0, .int p658802, .int z658984]) := (n658995 q658799 (rn_oa he658990 he658989)).trans he658990
    have he658999 : F658993 q658947 = .inl (I .byte, n658948, .inl f658996) := e658994
    have hfr659000 : rFr [q658800, q658799] P658797 F658798 F658993 := rFr_eit hor658965 hfr658991 n658995
    have bf658996 : gF f658996 (-128) 127 := gF_upd hf658996 bf658949 gB_byte
    refine G_goto 75 dr_cJ5_append_3fe6f_42 (by decide +kernel) ?_
    refine G_aload_n 0 dr_cJ5_append_3fe6f_75 rfl ?_
    exact G_aretA (FieldType.object "java/lang/AbstractStringBuilder") dr_cJ5_append_3fe6f_76 rfl (by first | exact Or.inl ⟨_, rfl⟩ | exact Or.inr ⟨_, rfl⟩) (Or.inr ⟨_, rfl⟩) (Nat.le_of_ble_eq_true rfl) (show 2 * (n658948 - n658805) + 0 + 0 ≤ (4 * n658805 + 8) by omega) ⟨P658955, F658993, z658984, q658947, n658948, f658996, rfl, rfl, hsb658966, hfr659000, he658998, he658999, hm658961, hor658965, (Nat.le_of_ble_eq_true rfl), (by omega), ⟨by omega, by omega⟩, bf658996, (by have qa0 : Int32.toInt 0 = 0 := (by decide); omega), (by have qa0 : Int32.toInt 0 = 0 := (by decide); omega), (by have qa0 : Int32.toInt 0 = 0 := (by decide); omega), (by have qa0 : Int32.toInt 0 = 0 := (by decide); omega), (fun R c1 => c1 z658810 n658948 f658949 z658984 z658992 f658996 ez658810 ht658954 r658982 ez658984 hz658992 hf658996)⟩
/- tr_RStringBuilder_append2: a.0...count, a.0.value.#, a.0.value.[] -/
def tr_RStringBuilder_append2 (a1 : Int32) (a0_count : Int32) (a0_value_v : Nat → Int32) (a0_value_n : Nat) (o1 : Int32) (o2 : Nat) (o3 : Nat → Int32) : Prop := ∀ R : (Int32) → (Nat) → (Nat → Int32) → Prop,
  (∀ (x1 : Int32) (x2 : Nat) (x3 : Nat → Int32), gB x1 1 16777216 → tr_RAbstractStringBuilder_append2 a1 a0_count a0_value_v a0_value_n x1 x2 x3 → R x1 x2 x3) →
  R o1 o2 o3
abbrev ky_658796_StringBuilder_append : gKey := (cJ4_append_cf468, 2, "java/lang/StringBuilder", (some (FieldType.object "java/lang/StringBuilder")), [], "append", fun _ _ => True)
def pp_658796_StringBuilder_append (D : va_G) (I : FieldType → ClassId) (P658784 : List Nat) (F658785 : Nat → va_E) (q658786 : Nat) (q658787 : Nat) (p658788 : Int32) (p658789 : Int32) (p658790 : Int32) (f658791 : Nat → Int32) (n658792 : Nat) : Option Value → va_W → Nat → Nat → Prop := fun r w dc ds => ∃ (P659038 : List Nat) (F659039 : Nat → va_E) (o659034 : Int32) (q659035 : Nat) (n659036 : Nat) (f659037 : Nat → Int32), r = some (.ref q658786) ∧ w = va_pl P659038 F659039 ∧ rSub P658784 P659038 ∧ rFr [q658787, q658786] P658784 F658785 F659039 ∧ F659039 q658786 = .inr (1, [.ref q659035, .int 0, .int p658789, .int o659034]) ∧ F659039 q659035 = .inl (I .byte, n659036, .inl f659037) ∧ q659035 ∈ P659038 ∧ (q659035 = q658787 ∨ q659035 ∉ P658784) ∧ dc ≤ 1 ∧ ds ≤ 2 * (n659036 - n658792) ∧ gB o659034 1 16777216 ∧ gF f659037 (-128) 127 ∧ o659034.toInt = p658790.toInt + 1 ∧ o659034.toInt ≤ (n659036 : Int) ∧ (n658792 : Int) ≤ (n659036 : Int) ∧ (n659036 : Int) ≤ 2 * (n658792 : Int) + 2 ∧ tr_RStringBuilder_append2 p658788 p658790 f658791 n658792 o659034 n659036 f659037
set_option maxRecDepth 100000 in
set_option maxHeartbeats 4000000 in
theorem cp_658796_StringBuilder_append (l : Launch) (hl0 : l.stackTraces = false) (D : va_G) (I : FieldType → ClassId) (P658784 : List Nat) (F658785 : Nat → va_E) (q658786 : Nat) (q658787 : Nat) (p658788 : Int32) (p658789 : Int32) (p658790 : Int32) (f658791 : Nat → Int32) (n658792 : Nat) (hmq658786 : q658786 ∈ P658784) (hmq658787 : q658787 ∈ P658784) (heq658786 : F658785 q658786 = .inr (1, [.ref q658787, .int 0, .int p658789, .int p658790])) (heq658787 : F658785 q658787 = .inl (I .byte, n658792, .inl f658791)) (bp658788 : gB p658788 0 255) (bp658789 : gB p658789 0 1) (bp658790 : gB p658790 0 16777216) (bf658791 : gF f658791 (-128) 127) (x658793 : (n658792 : Int) ≤ 8388608 - 100000) (x658794 : p658790.toInt ≤ (n658792 : Int)) (x658795 : ((n658792 : Int) ≤ 16777216)) : CtA (gV D I) l yJ4_append_cf468 cJ4_append_cf468 2 (some (FieldType.object "java/lang/StringBuilder")) 5 105 1 (4 * n658792 + 8) [.ref q658786, .int p658788] (va_pl P658784 F658785) (pp_658796_StringBuilder_append D I P658784 F658785 q658786 q658787 p658788 p658789 p658790 f658791 n658792) gNA := by
  refine CtA_ofF hl0 (by decide +kernel) (Nat.le_of_ble_eq_true rfl) ?_
  refine G_aload_n 0 dr_cJ4_append_cf468_0 rfl ?_
  refine G_iload_n 1 dr_cJ4_append_cf468_1 rfl ?_
  refine Gw_callSU (As := [.int p658788]) (gV_ok D I) (cp_658809_AbstractStringBuilder_append l hl0 D I P658784 F658785 q658786 q658787 p658788 p658789 p658790 f658791 n658792 hmq658786 hmq658787 heq658786 heq658787 bp658788 bp658789 bp658790 bf658791 (by have qa0 : Int32.toInt 0 = 0 := (by decide); omega) (by have qa0 : Int32.toInt 0 = 0 := (by decide); omega) (by have qa0 : Int32.toInt 0 = 0 := (by decide); omega)) dr_cJ4_append_cf468_2 ⟨wr_8_1, wr_1_19, wr_8_3, by decide, rfl, (Nat.le_of_ble_eq_true rfl), (Nat.le_of_ble_eq_true rfl)⟩ wr_8_2 wr_11_224 wr_7_73 wr_7_44 (by decide) hmq658786 heq658786 rfl (show 0 + 1 ≤ 1 by first | omega | decide) (show 0 + (4 * n658792 + 8) ≤ (4 * n658792 + 8) by first | omega | decide) (Nat.le_of_ble_eq_true rfl) (fun r659010 w659011 dc659007 ds659008 hp659009 => ?_)
  obtain ⟨P659021, F659022, o659012, q659013, n659014, f659015, rfl, rfl, hsb659023, hfr659024, he659025, he659026, hm659027, hq659028, hdc, hds, bo659012, bf659015, x659016, x659017, x659018, x659019, ht659020⟩ := hp659009
  have hm659029 : q658786 ∈ P659021 := hsb659023 q658786 hmq658786
  have hm659030 : q658787 ∈ P659021 := hsb659023 q658787 hmq658787
  have hor659031 : q659013 = q658787 ∨ q659013 ∉ P658784 := hq659028.elim Or.inl (fun n => Or.inr (fun z => n ((rSub_rf (P := P658784)) _ z)))
  have hsb659032 : rSub P658784 P659021 := rSub_tr (rSub_rf (P := P658784)) hsb659023
  have hfr659033 : rFr [q658787, q658786] P658784 F658785 F659022 := rFr_call (rSub_rf (P := P658784)) (rFr_rf (W := []) (P := P658784) (F := F658785)) hfr659024 (fun b hb hn => ⟨nm_n, (nm_c (fun e => hn (e ▸ List.mem_cons_self)) (nm_c (fun e => hn (e ▸ (List.mem_cons_of_mem _ List.mem_cons_self))) nm_n))⟩)
  change G _ _ _ _ _ _ _ (.ref q658786 :: _) _ _ _
  refine G_widen (cs' := 1) (sl' := 2 * (n659014 - n658792)) (by omega) (by omega) ?_
  refine G_pop dr_cJ4_append_cf468_5 rfl ?_
  refine G_aload_n 0 dr_cJ4_append_cf468_6 rfl ?_
  exact G_aretA (FieldType.object "java/lang/StringBuilder") dr_cJ4_append_cf468_7 rfl (by first | exact Or.inl ⟨_, rfl⟩ | exact Or.inr ⟨_, rfl⟩) (Or.inr ⟨_, rfl⟩) (Nat.le_of_ble_eq_true rfl) (show 2 * (n659014 - n658792) ≤ (4 * n658792 + 8) by omega) ⟨P659021, F659022, o659012, q659013, n659014, f659015, rfl, rfl, hsb659032, hfr659033, he659025, he659026, hm659027, hor659031, (Nat.le_of_ble_eq_true rfl), (by omega), bo659012, bf659015, (by have qa0 : Int32.toInt 0 = 0 := (by decide); omega), (by have qa0 : Int32.toInt 0 = 0 := (by decide); omega), (by have qa0 : Int32.toInt 0 = 0 := (by decide); omega), (by have qa0 : Int32.toInt 0 = 0 := (by decide); omega), (fun R c1 => c1 o659012 n659014 f659015 bo659012 ht659020)⟩
/- tr_RAbstractStringBuilder_setLength: a.0...maybeLatin1 -/
def tr_RAbstractStringBuilder_setLength (a0_maybeLatin1 : Int32) (a0_count : Int32) (a0_value_n : Nat) (o1 : Int32) : Prop := ∀ R : (Int32) → Prop,
  (tr_RAbstractStringBuilder_ensureCapacityInternal (0 : Int32) a0_value_n → 0 ≤ a0_count.toInt → a0_count.toInt ≤ 0 → R a0_maybeLatin1) →
  (tr_RAbstractStringBuilder_ensureCapacityInternal (0 : Int32) a0_value_n → 0 ≤ a0_count.toInt → 0 < a0_count.toInt → R (1 : Int32)) →
  R o1
abbrev ky_659059_AbstractStringBuilder_setLength : gKey := (cJ5_setLength_d00df, 2, "java/lang/AbstractStringBuilder", none, [], "setLength", fun _ _ => True)
def pp_659059_AbstractStringBuilder_setLength (D : va_G) (I : FieldType → ClassId) (P659050 : List Nat) (F659051 : Nat → va_E) (q659052 : Nat) (q659053 : Nat) (p659054 : Int32) (p659055 : Int32) (f659056 : Nat → Int32) (n659057 : Nat) : Option Value → va_W → Nat → Nat → Prop := fun r w dc ds => ∃ (F659092 : Nat → va_E) (o659090 : Int32), r = none ∧ w = va_pl P659050 F659092 ∧ rFr [q659052] P659050 F659051 F659092 ∧ F659092 q659052 = .inr (1, [.ref q659053, .int 0, .int o659090, .int 0]) ∧ F659092 q659053 = .inl (I .byte, n659057, .inl f659056) ∧ dc ≤ 0 ∧ ds ≤ 0 ∧ gB o659090 0 1 ∧ 0 = 0 ∧ tr_RAbstractStringBuilder_setLength p659054 p659055 n659057 o659090
set_option maxRecDepth 100000 in
set_option maxHeartbeats 4000000 in
theorem cp_659059_AbstractStringBuilder_setLength (l : Launch) (hl0 : l.stackTraces = false) (D : va_G) (I : FieldType → ClassId) (P659050 : List Nat) (F659051 : Nat → va_E) (q659052 : Nat) (q659053 : Nat) (p659054 : Int32) (p659055 : Int32) (f659056 : Nat → Int32) (n659057 : Nat) (hmq659052 : q659052 ∈ P659050) (hmq659053 : q659053 ∈ P659050) (heq659052 : F659051 q659052 = .inr (1, [.ref q659053, .int 0, .int p659054, .int p659055])) (heq659053 : F659051 q659053 = .inl (I .byte, n659057, .inl f659056)) (bp659054 : gB p659054 0 1) (bp659055 : gB p659055 0 16777216) (bf659056 : gF f659056 (-128) 127) (x659058 : ((n659057 : Int) ≤ 16777216)) : CtA (gV D I) l yJ5_setLength_d00df cJ5_setLength_d00df 2 none 1 22 0 0 [.ref q659052, .int 0] (va_pl P659050 F659051) (pp_659059_AbstractStringBuilder_setLength D I P659050 F659051 q659052 q659053 p659054 p659055 f659056 n659057) gNA := by
  refine CtA_ofF hl0 (by decide +kernel) (Nat.le_of_ble_eq_true rfl) ?_
  refine G_iload_n 1 dr_cJ5_setLength_d00df_0 rfl ?_
  refine G_if_ge 13 dr_cJ5_setLength_d00df_1 (by decide +kernel) (fun _ => ?_) (fun hc => absurd hc (by decide))
  refine G_aload_n 0 dr_cJ5_setLength_d00df_13 rfl ?_
  refine G_iload_n 1 dr_cJ5_setLength_d00df_14 rfl ?_
  refine Gw_callVB (As := [.int 0]) (gV_ok D I) (cp_658701_AbstractStringBuilder_ensureCapacityInternal l hl0 D I P659050 F659051 q659052 q659053 0 p659054 p659055 f659056 n659057 hmq659052 hmq659053 heq659052 heq659053 (gB_w (gBl (show Int32.toInt 0 = 0 by decide)) (by decide) (by decide)) bp659054 bp659055 bf659056 (by have qa0 : Int32.toInt 0 = 0 := (by decide); omega) (by have qa0 : Int32.toInt 0 = 0 := (by decide); omega)) dr_cJ5_setLength_d00df_15 ⟨wr_8_4, wr_1_19, wr_8_7, by decide, rfl, (Nat.le_of_ble_eq_true rfl), (Nat.le_of_ble_eq_true rfl)⟩ wr_8_6 wr_s_0 hmq659052 heq659052 rfl (show 0 + 0 ≤ 0 by first | omega | decide) (show 0 + 0 ≤ 0 by first | omega | decide) (Nat.le_of_ble_eq_true rfl) (fun r659063 w659064 dc659060 ds659061 hp659062 => ?_) (fun _ _ _ _ _ z => z.elim)
  obtain ⟨rfl, rfl, hdc, hds, ht659065⟩ := hp659062
  change G _ _ _ _ _ _ _ _ _ _ _
  refine G_widen (cs' := 0) (sl' := 0) (by omega) (by omega) ?_
  refine G_aload_n 0 dr_cJ5_setLength_d00df_18 rfl ?_
  refine Gp_get 3 hmq659052 heq659052 dr_cJ5_setLength_d00df_19 (gk_J4 D I) (Nat.le_of_ble_eq_true rfl) wr_7_64 rfl ?_
  refine G_iload_n 1 dr_cJ5_setLength_d00df_22 rfl ?_
  refine G_icmp_ge 63 dr_cJ5_setLength_d00df_23 (by decide +kernel) (fun hc659066 => ?_) (fun hc => absurd (show False by have := gj_nleL hc (show Int32.toInt 0 = 0 by decide); omega) not_false)
  have r659068 : 0 ≤ p659055.toInt := gj_leL hc659066 (show Int32.toInt 0 = 0 by decide)
  refine G_aload_n 0 dr_cJ5_setLength_d00df_63 rfl ?_
  refine Gp_get 3 hmq659052 heq659052 dr_cJ5_setLength_d00df_64 (gk_J4 D I) (Nat.le_of_ble_eq_true rfl) wr_7_64 rfl ?_
  refine G_iload_n 1 dr_cJ5_setLength_d00df_67 rfl ?_
  refine G_icmp_le 76 dr_cJ5_setLength_d00df_68 (by decide +kernel) (fun hc659069 => ?_) (fun hc659069 => ?_)
  · have r659070 : p659055.toInt ≤ 0 := gj_le hc659069 (show Int32.toInt 0 = 0 by decide)
    have bp659055' : gB p659055 0 0 := ⟨by omega, by omega⟩
    refine G_aload_n 0 dr_cJ5_setLength_d00df_76 rfl ?_
    refine G_iload_n 1 dr_cJ5_setLength_d00df_77 rfl ?_
    refine Gp_put 3 hmq659052 heq659052 dr_cJ5_setLength_d00df_78 (gk_J4 D I) (Nat.le_of_ble_eq_true rfl) wr_7_64 rfl rfl rfl (Nat.le_of_ble_eq_true rfl) (fun F659071 e659072 n659073 => ?_)
    have he659074 : F659071 q659053 = .inl (I .byte, n659057, .inl f659056) := (n659073 q659053 (rn_ao heq659053 heq659052)).trans heq659053
    have he659075 : F659071 q659052 = .inr (1, [.ref q659053, .int 0, .int p659054, .int 0]) := e659072
    have hfr659076 : rFr [q659052] P659050 F659051 F659071 := rFr_put (rFr_rf (W := []) (P := P659050) (F := F659051)) n659073
    exact G_vretA dr_cJ5_setLength_d00df_81 rfl (Nat.le_of_ble_eq_true rfl) (Nat.le_of_ble_eq_true rfl) ⟨F659071, p659054, rfl, rfl, hfr659076, he659075, he659074, (Nat.le_of_ble_eq_true rfl), (Nat.le_of_ble_eq_true rfl), bp659054, (by have qa0 : Int32.toInt 0 = 0 := (by decide); omega), (fun R c1 c2 => c1 ht659065 r659068 r659070)⟩
  · have r659077 : 0 < p659055.toInt := gj_nle hc659069 (show Int32.toInt 0 = 0 by decide)
    have bp659055' : gB p659055 1 16777216 := ⟨by omega, by omega⟩
    refine G_aload_n 0 dr_cJ5_setLength_d00df_71 rfl ?_
    refine G_iconst 1 dr_cJ5_setLength_d00df_72 (by decide +kernel) ?_
    refine Gp_put 2 hmq659052 heq659052 dr_cJ5_setLength_d00df_73 (gk_J4 D I) (Nat.le_of_ble_eq_true rfl) wr_7_62 rfl rfl rfl (Nat.le_of_ble_eq_true rfl) (fun F659078 e659079 n659080 => ?_)
    have he659081 : F659078 q659053 = .inl (I .byte, n659057, .inl f659056) := (n659080 q659053 (rn_ao heq659053 heq659052)).trans heq659053
    have he659082 : F659078 q659052 = .inr (1, [.ref q659053, .int 0, .int 1, .int p659055]) := e659079
    have hfr659083 : rFr [q659052] P659050 F659051 F659078 := rFr_put (rFr_rf (W := []) (P := P659050) (F := F659051)) n659080
    refine G_aload_n 0 dr_cJ5_setLength_d00df_76 rfl ?_
    refine G_iload_n 1 dr_cJ5_setLength_d00df_77 rfl ?_
    refine Gp_put 3 hmq659052 he659082 dr_cJ5_setLength_d00df_78 (gk_J4 D I) (Nat.le_of_ble_eq_true rfl) wr_7_64 rfl rfl rfl (Nat.le_of_ble_eq_true rfl) (fun F659084 e659085 n659086 => ?_)
    have he659087 : F659084 q659053 = .inl (I .byte, n659057, .inl f659056) := (n659086 q659053 (rn_ao he659081 he659082)).trans he659081
    have he659088 : F659084 q659052 = .inr (1, [.ref q659053, .int 0, .int 1, .int 0]) := e659085
    have hfr659089 : rFr [q659052] P659050 F659051 F659084 := rFr_put' List.mem_cons_self hfr659083 n659086
    exact G_vretA dr_cJ5_setLength_d00df_81 rfl (Nat.le_of_ble_eq_true rfl) (Nat.le_of_ble_eq_true rfl) ⟨F659084, 1, rfl, rfl, hfr659089, he659088, he659087, (Nat.le_of_ble_eq_true rfl), (Nat.le_of_ble_eq_true rfl), (gB_w (gBl (show Int32.toInt 1 = 1 by decide)) (by decide) (by decide)), (by have qa0 : Int32.toInt 0 = 0 := (by decide); have qa1 : Int32.toInt 1 = 1 := (by decide); omega), (fun R c1 c2 => c2 ht659065 r659068 r659077)⟩
/- tr_RStringBuilder_setLength: a.0...maybeLatin1 -/
def tr_RStringBuilder_setLength (a0_maybeLatin1 : Int32) (a0_count : Int32) (a0_value_n : Nat) (o1 : Int32) : Prop := ∀ R : (Int32) → Prop,
  (∀ (x1 : Int32), gB x1 0 1 → tr_RAbstractStringBuilder_setLength a0_maybeLatin1 a0_count a0_value_n x1 → R x1) →
  R o1
abbrev ky_659049_StringBuilder_setLength : gKey := (cJ4_setLength_d00df, 2, "java/lang/StringBuilder", none, [], "setLength", fun _ _ => True)
def pp_659049_StringBuilder_setLength (D : va_G) (I : FieldType → ClassId) (P659040 : List Nat) (F659041 : Nat → va_E) (q659042 : Nat) (q659043 : Nat) (p659044 : Int32) (p659045 : Int32) (f659046 : Nat → Int32) (n659047 : Nat) : Option Value → va_W → Nat → Nat → Prop := fun r w dc ds => ∃ (F659109 : Nat → va_E) (o659107 : Int32), r = none ∧ w = va_pl P659040 F659109 ∧ rFr [q659042] P659040 F659041 F659109 ∧ F659109 q659042 = .inr (1, [.ref q659043, .int 0, .int o659107, .int 0]) ∧ F659109 q659043 = .inl (I .byte, n659047, .inl f659046) ∧ dc ≤ 0 ∧ ds ≤ 0 ∧ gB o659107 0 1 ∧ 0 = 0 ∧ tr_RStringBuilder_setLength p659044 p659045 n659047 o659107
set_option maxRecDepth 100000 in
set_option maxHeartbeats 4000000 in
theorem cp_659049_StringBuilder_setLength (l : Launch) (hl0 : l.stackTraces = false) (D : va_G) (I : FieldType → ClassId) (P659040 : List Nat) (F659041 : Nat → va_E) (q659042 : Nat) (q659043 : Nat) (p659044 : Int32) (p659045 : Int32) (f659046 : Nat → Int32) (n659047 : Nat) (hmq659042 : q659042 ∈ P659040) (hmq659043 : q659043 ∈ P659040) (heq659042 : F659041 q659042 = .inr (1, [.ref q659043, .int 0, .int p659044, .int p659045])) (heq659043 : F659041 q659043 = .inl (I .byte, n659047, .inl f659046)) (bp659044 : gB p659044 0 1) (bp659045 : gB p659045 0 16777216) (bf659046 : gF f659046 (-128) 127) (x659048 : ((n659047 : Int) ≤ 16777216)) : CtA (gV D I) l yJ4_setLength_d00df cJ4_setLength_d00df 2 none 2 43 0 0 [.ref q659042, .int 0] (va_pl P659040 F659041) (pp_659049_StringBuilder_setLength D I P659040 F659041 q659042 q659043 p659044 p659045 f659046 n659047) gNA := by
  refine CtA_ofF hl0 (by decide +kernel) (Nat.le_of_ble_eq_true rfl) ?_
  refine G_aload_n 0 dr_cJ4_setLength_d00df_0 rfl ?_
  refine G_iload_n 1 dr_cJ4_setLength_d00df_1 rfl ?_
  refine Gw_callSU (As := [.int 0]) (gV_ok D I) (cp_659059_AbstractStringBuilder_setLength l hl0 D I P659040 F659041 q659042 q659043 p659044 p659045 f659046 n659047 hmq659042 hmq659043 heq659042 heq659043 bp659044 bp659045 bf659046 (by have qa0 : Int32.toInt 0 = 0 := (by decide); omega)) dr_cJ4_setLength_d00df_2 ⟨wr_11_129, wr_1_19, wr_11_131, by decide, rfl, (Nat.le_of_ble_eq_true rfl), (Nat.le_of_ble_eq_true rfl)⟩ wr_11_130 wr_11_233 wr_7_73 wr_7_44 (by decide) hmq659042 heq659042 rfl (show 0 + 0 ≤ 0 by first | omega | decide) (show 0 + 0 ≤ 0 by first | omega | decide) (Nat.le_of_ble_eq_true rfl) (fun r659096 w659097 dc659093 ds659094 hp659095 => ?_)
  obtain ⟨F659101, o659098, rfl, rfl, hfr659103, he659104, he659105, hdc, hds, bo659098, x659099, ht659100⟩ := hp659095
  have hfr659106 : rFr [q659042] P659040 F659041 F659101 := rFr_call (rSub_rf (P := P659040)) (rFr_rf (W := []) (P := P659040) (F := F659041)) hfr659103 (fun b hb hn => ⟨nm_n, (nm_c (fun e => hn (e ▸ List.mem_cons_self)) nm_n)⟩)
  change G _ _ _ _ _ _ _ _ _ _ _
  refine G_widen (cs' := 0) (sl' := 0) (by omega) (by omega) ?_
  exact G_vretA dr_cJ4_setLength_d00df_5 rfl (Nat.le_of_ble_eq_true rfl) (Nat.le_of_ble_eq_true rfl) ⟨F659101, o659098, rfl, rfl, hfr659106, he659104, he659105, (Nat.le_of_ble_eq_true rfl), (Nat.le_of_ble_eq_true rfl), bo659098, (by have qa0 : Int32.toInt 0 = 0 := (by decide); omega), (fun R c1 => c1 o659098 bo659098 ht659100)⟩
abbrev ky_659121_AbstractStringBuilder_init : gKey := (cJ5_init_d00df, 2, "java/lang/AbstractStringBuilder", none, [], "<init>", fun _ _ => True)
def pp_659121_AbstractStringBuilder_init (D : va_G) (I : FieldType → ClassId) (P659116 : List Nat) (F659117 : Nat → va_E) (q659118 : Nat) (p659119 : Int32) (p659120 : Int32) : Option Value → va_W → Nat → Nat → Prop := fun r w dc ds => ∃ (P659149 : List Nat) (F659150 : Nat → va_E) (q659148 : Nat), r = none ∧ w = va_pl P659149 F659150 ∧ rSub P659116 P659149 ∧ rFr [q659118] P659116 F659117 F659150 ∧ F659150 q659118 = .inr (1, [.ref q659148, .int 0, .int p659119, .int p659120]) ∧ F659150 q659148 = .inl (I .byte, 16, .inl (fun _ => 0)) ∧ q659148 ∈ P659149 ∧ q659148 ∉ P659116 ∧ dc ≤ 1 ∧ ds ≤ 16
set_option maxRecDepth 100000 in
set_option maxHeartbeats 4000000 in
theorem cp_659121_AbstractStringBuilder_init (l : Launch) (hl0 : l.stackTraces = false) (D : va_G) (I : FieldType → ClassId) (P659116 : List Nat) (F659117 : Nat → va_E) (q659118 : Nat) (p659119 : Int32) (p659120 : Int32) (hmq659118 : q659118 ∈ P659116) (heq659118 : F659117 q659118 = .inr (1, [.null, .int 0, .int p659119, .int p659120])) (bp659119 : gB p659119 0 1) (bp659120 : gB p659120 0 16777216) : CtA (gV D I) l yJ5_init_d00df cJ5_init_d00df 2 none 1 12 1 16 [.ref q659118, .int 16] (va_pl P659116 F659117) (pp_659121_AbstractStringBuilder_init D I P659116 F659117 q659118 p659119 p659120) gNA := by
  refine CtA_ofF hl0 (by decide +kernel) (Nat.le_of_ble_eq_true rfl) ?_
  refine G_aload_n 0 dr_cJ5_init_d00df_0 rfl ?_
  refine G_obj dr_cJ5_init_d00df_1 wr_7_51 wr_1_51 wr_1_52 (Nat.le_of_ble_eq_true rfl) (Nat.le_of_ble_eq_true rfl) ?_
  refine G_gets dr_cJ5_init_d00df_4 wr_7_52 gz_cs (fun x hx => ?_)
  subst hx
  refine G_if_eq 25 dr_cJ5_init_d00df_7 (by decide +kernel) (fun hc => absurd hc (by decide)) (fun _ => ?_)
  refine G_aload_n 0 dr_cJ5_init_d00df_10 rfl ?_
  refine G_iload_n 1 dr_cJ5_init_d00df_11 rfl ?_
  refine G_newa 1 (16, .inl (fun _ => 0)) dr_cJ5_init_d00df_12 rfl rfl (by intro C h; cases h) wr_1_66 (fun _ => ga_byte _ _) (by decide) (by decide) (by decide) (show 0 + 1 ≤ 1 by first | omega | decide) (show 0 + 16 ≤ 16 by first | omega | decide) (fun q659122 => Gp_in (fun P659123 F659124 hq659125 hP659126 e659127 n659128 => ?_))
  refine G_widen (cs' := 1) (sl' := 16) (by omega) (by omega) ?_
  have he659129 : F659124 q659118 = .inr (1, [.null, .int 0, .int p659119, .int p659120]) := (n659128 q659118 (fun h => hq659125 (h ▸ hmq659118))).trans heq659118
  have he659130 : F659124 q659122 = .inl (I .byte, 16, .inl (fun _ => 0)) := e659127
  have hm659131 : q659118 ∈ P659123 := (hP659126 q659118).mpr (Or.inl hmq659118)
  have hm659132 : q659122 ∈ P659123 := (hP659126 q659122).mpr (Or.inr rfl)
  have hq659133 : q659122 ∉ P659116 := fun z => hq659125 ((rSub_rf (P := P659116)) q659122 z)
  have hfr659134 : rFr [] P659116 F659117 F659124 := rFr_new (rSub_rf (P := P659116)) hq659125 (rFr_rf (W := []) (P := P659116) (F := F659117)) n659128
  have hsb659135 : rSub P659116 P659123 := rSub_new (rSub_rf (P := P659116)) hP659126
  refine Gp_put 0 hm659131 he659129 dr_cJ5_init_d00df_14 (gk_J4 D I) (Nat.le_of_ble_eq_true rfl) wr_7_60 rfl rfl rfl (Nat.le_of_ble_eq_true rfl) (fun F659136 e659137 n659138 => ?_)
  have he659139 : F659136 q659122 = .inl (I .byte, 16, .inl (fun _ => 0)) := (n659138 q659122 (fun h => hq659133 (h ▸ hmq659118))).trans he659130
  have he659140 : F659136 q659118 = .inr (1, [.ref q659122, .int 0, .int p659119, .int p659120]) := e659137
  have hfr659141 : rFr [q659118] P659116 F659117 F659136 := rFr_put hfr659134 n659138
  refine G_aload_n 0 dr_cJ5_init_d00df_17 rfl ?_
  refine G_iconst 0 dr_cJ5_init_d00df_18 (by decide +kernel) ?_
  refine Gp_put 1 hm659131 he659140 dr_cJ5_init_d00df_19 (gk_J4 D I) (Nat.le_of_ble_eq_true rfl) wr_7_61 rfl rfl rfl (Nat.le_of_ble_eq_true rfl) (fun F659142 e659143 n659144 => ?_)
  have he659145 : F659142 q659122 = .inl (I .byte, 16, .inl (fun _ => 0)) := (n659144 q659122 (fun h => hq659133 (h ▸ hmq659118))).trans he659139
  have he659146 : F659142 q659118 = .inr (1, [.ref q659122, .int 0, .int p659119, .int p659120]) := e659143
  have hfr659147 : rFr [q659118] P659116 F659117 F659142 := rFr_put' List.mem_cons_self hfr659141 n659144
  refine G_goto 38 dr_cJ5_init_d00df_22 (by decide +kernel) ?_
  exact G_vretA dr_cJ5_init_d00df_38 rfl (Nat.le_of_ble_eq_true rfl) (Nat.le_of_ble_eq_true rfl) ⟨P659123, F659142, q659122, rfl, rfl, hsb659135, hfr659147, he659146, he659145, hm659132, hq659133, (Nat.le_of_ble_eq_true rfl), (Nat.le_of_ble_eq_true rfl)⟩
abbrev ky_659115_StringBuilder_init : gKey := (cJ4_init_da8c8, 1, "java/lang/StringBuilder", none, [], "<init>", fun _ _ => True)
def pp_659115_StringBuilder_init (D : va_G) (I : FieldType → ClassId) (P659110 : List Nat) (F659111 : Nat → va_E) (q659112 : Nat) (p659113 : Int32) (p659114 : Int32) : Option Value → va_W → Nat → Nat → Prop := fun r w dc ds => ∃ (P659170 : List Nat) (F659171 : Nat → va_E) (q659169 : Nat), r = none ∧ w = va_pl P659170 F659171 ∧ rSub P659110 P659170 ∧ rFr [q659112] P659110 F659111 F659171 ∧ F659171 q659112 = .inr (1, [.ref q659169, .int 0, .int p659113, .int p659114]) ∧ F659171 q659169 = .inl (I .byte, 16, .inl (fun _ => 0)) ∧ q659169 ∈ P659170 ∧ q659169 ∉ P659110 ∧ dc ≤ 1 ∧ ds ≤ 16
set_option maxRecDepth 100000 in
set_option maxHeartbeats 4000000 in
theorem cp_659115_StringBuilder_init (l : Launch) (hl0 : l.stackTraces = false) (D : va_G) (I : FieldType → ClassId) (P659110 : List Nat) (F659111 : Nat → va_E) (q659112 : Nat) (p659113 : Int32) (p659114 : Int32) (hmq659112 : q659112 ∈ P659110) (heq659112 : F659111 q659112 = .inr (1, [.null, .int 0, .int p659113, .int p659114])) (bp659113 : gB p659113 0 1) (bp659114 : gB p659114 0 16777216) : CtA (gV D I) l yJ4_init_da8c8 cJ4_init_da8c8 1 none 2 33 1 16 [.ref q659112] (va_pl P659110 F659111) (pp_659115_StringBuilder_init D I P659110 F659111 q659112 p659113 p659114) gNA := by
  refine CtA_ofF hl0 (by decide +kernel) (Nat.le_of_ble_eq_true rfl) ?_
  refine G_aload_n 0 dr_cJ4_init_da8c8_0 rfl ?_
  refine G_bipush 16 dr_cJ4_init_da8c8_1 (by decide +kernel) ?_
  refine Gw_callI (As := [.int 16]) (gV_ok D I) (cp_659121_AbstractStringBuilder_init l hl0 D I P659110 F659111 q659112 p659113 p659114 hmq659112 heq659112 bp659113 bp659114) dr_cJ4_init_da8c8_3 ⟨wr_7_48, wr_1_19, wr_7_50, by decide, rfl, (Nat.le_of_ble_eq_true rfl), (Nat.le_of_ble_eq_true rfl)⟩ wr_7_49 rfl (show 0 + 1 ≤ 1 by first | omega | decide) (show 0 + 16 ≤ 16 by first | omega | decide) (Nat.le_of_ble_eq_true rfl) (fun r659154 w659155 dc659151 ds659152 hp659153 => ?_)
  obtain ⟨P659157, F659158, q659156, rfl, rfl, hsb659159, hfr659160, he659161, he659162, hm659163, hq659164, hdc, hds⟩ := hp659153
  have hm659165 : q659112 ∈ P659157 := hsb659159 q659112 hmq659112
  have hq659166 : q659156 ∉ P659110 := fun z => hq659164 ((rSub_rf (P := P659110)) q659156 z)
  have hsb659167 : rSub P659110 P659157 := rSub_tr (rSub_rf (P := P659110)) hsb659159
  have hfr659168 : rFr [q659112] P659110 F659111 F659158 := rFr_call (rSub_rf (P := P659110)) (rFr_rf (W := []) (P := P659110) (F := F659111)) hfr659160 (fun b hb hn => ⟨nm_n, (nm_c (fun e => hn (e ▸ List.mem_cons_self)) nm_n)⟩)
  change G _ _ _ _ _ _ _ _ _ _ _
  refine G_widen (cs' := 1) (sl' := 16) (by omega) (by omega) ?_
  exact G_vretA dr_cJ4_init_da8c8_6 rfl (Nat.le_of_ble_eq_true rfl) (Nat.le_of_ble_eq_true rfl) ⟨P659157, F659158, q659156, rfl, rfl, hsb659167, hfr659168, he659161, he659162, hm659163, hq659166, (Nat.le_of_ble_eq_true rfl), (Nat.le_of_ble_eq_true rfl)⟩
abbrev ky_659228_String_coder : gKey := (cJ0_coder_7d493, 1, "java/lang/String", (some FieldType.byte), [], "coder", fun _ _ => True)
def pp_659228_String_coder (D : va_G) (I : FieldType → ClassId) (P659219 : List Nat) (F659220 : Nat → va_E) (q659221 : Nat) (q659222 : Nat) (p659223 : Int32) (p659224 : Int32) (f659225 : Nat → Int32) (n659226 : Nat) : Option Value → va_W → Nat → Nat → Prop := fun r w dc ds => r = some (.int 0) ∧ w = va_pl P659219 F659220 ∧ dc ≤ 0 ∧ ds ≤ 0
set_option maxRecDepth 100000 in
set_option maxHeartbeats 4000000 in
theorem cp_659228_String_coder (l : Launch) (hl0 : l.stackTraces = false) (D : va_G) (I : FieldType → ClassId) (P659219 : List Nat) (F659220 : Nat → va_E) (q659221 : Nat) (q659222 : Nat) (p659223 : Int32) (p659224 : Int32) (f659225 : Nat → Int32) (n659226 : Nat) (hmq659221 : q659221 ∈ P659219) (hmq659222 : q659222 ∈ P659219) (heq659221 : F659220 q659221 = .inr (0, [.ref q659222, .int 0, .int p659223, .int p659224])) (heq659222 : F659220 q659222 = .inl (I .byte, n659226, .inl f659225)) (bp659224 : gB p659224 0 1) (bf659225 : gF f659225 (-128) 127) (x659227 : ((n659226 : Int) ≤ 16777216)) : CtA (gV D I) l yJ0_coder_7d493 cJ0_coder_7d493 1 (some FieldType.byte) 0 0 0 0 [.ref q659221] (va_pl P659219 F659220) (pp_659228_String_coder D I P659219 F659220 q659221 q659222 p659223 p659224 f659225 n659226) gNA := by
  refine CtA_ofF hl0 (by decide +kernel) (Nat.le_of_ble_eq_true rfl) ?_
  have bp659223 := gB_any p659223
  refine G_gets dr_cJ0_coder_7d493_0 wr_3_65 gz_cs (fun x hx => ?_)
  subst hx
  refine G_if_eq 13 dr_cJ0_coder_7d493_3 (by decide +kernel) (fun hc => absurd hc (by decide)) (fun _ => ?_)
  refine G_aload_n 0 dr_cJ0_coder_7d493_6 rfl ?_
  refine Gp_get 1 hmq659221 heq659221 dr_cJ0_coder_7d493_7 (gk_J0 D I) (Nat.le_of_ble_eq_true rfl) wr_8_183 rfl ?_
  refine G_goto 14 dr_cJ0_coder_7d493_10 (by decide +kernel) ?_
  exact G_zretA FieldType.byte dr_cJ0_coder_7d493_14 rfl rfl (Nat.le_of_ble_eq_true rfl) (Nat.le_of_ble_eq_true rfl) ⟨rfl, rfl, (Nat.le_of_ble_eq_true rfl), (Nat.le_of_ble_eq_true rfl)⟩
/- tr_RString_length: result -/
def tr_RString_length (a0_value_n : Nat) (o1 : Int32) : Prop := ∀ R : (Int32) → Prop,
  (∀ (x1 : Int32) (x2 : Int32), x1.toInt = (a0_value_n : Nat) → x2.toInt = x1.toInt / 1 → R x2) →
  R o1
abbrev ky_659217_String_length : gKey := (cJ0_length_8abf5, 1, "java/lang/String", (some FieldType.int), [], "length", fun _ _ => True)
def pp_659217_String_length (D : va_G) (I : FieldType → ClassId) (P659208 : List Nat) (F659209 : Nat → va_E) (q659210 : Nat) (q659211 : Nat) (p659212 : Int32) (p659213 : Int32) (f659214 : Nat → Int32) (n659215 : Nat) : Option Value → va_W → Nat → Nat → Prop := fun r w dc ds => ∃ (o659235 : Int32), r = some (.int o659235) ∧ w = va_pl P659208 F659209 ∧ dc ≤ 0 ∧ ds ≤ 0 ∧ gB o659235 0 16777216 ∧ o659235.toInt = (n659215 : Int) ∧ tr_RString_length n659215 o659235
set_option maxRecDepth 100000 in
set_option maxHeartbeats 4000000 in
theorem cp_659217_String_length (l : Launch) (hl0 : l.stackTraces = false) (D : va_G) (I : FieldType → ClassId) (P659208 : List Nat) (F659209 : Nat → va_E) (q659210 : Nat) (q659211 : Nat) (p659212 : Int32) (p659213 : Int32) (f659214 : Nat → Int32) (n659215 : Nat) (hmq659210 : q659210 ∈ P659208) (hmq659211 : q659211 ∈ P659208) (heq659210 : F659209 q659210 = .inr (0, [.ref q659211, .int 0, .int p659212, .int p659213])) (heq659211 : F659209 q659211 = .inl (I .byte, n659215, .inl f659214)) (bp659213 : gB p659213 0 1) (bf659214 : gF f659214 (-128) 127) (x659216 : ((n659215 : Int) ≤ 16777216)) : CtA (gV D I) l yJ0_length_8abf5 cJ0_length_8abf5 1 (some FieldType.int) 1 20 0 0 [.ref q659210] (va_pl P659208 F659209) (pp_659217_String_length D I P659208 F659209 q659210 q659211 p659212 p659213 f659214 n659215) gNA := by
  refine CtA_ofF hl0 (by decide +kernel) (Nat.le_of_ble_eq_true rfl) ?_
  have bp659212 := gB_any p659212
  refine G_aload_n 0 dr_cJ0_length_8abf5_0 rfl ?_
  refine Gp_get 0 hmq659210 heq659210 dr_cJ0_length_8abf5_1 (gk_J0 D I) (Nat.le_of_ble_eq_true rfl) wr_8_182 rfl ?_
  refine Gp_alen (Int32.ofNat n659215) 1 hmq659211 heq659211 dr_cJ0_length_8abf5_4 rfl rfl (G_nam fun z659218 hz659218 => ?_)
  have ez659218 : z659218.toInt = (n659215 : Nat) := gI_ofM hz659218 (by omega)
  have bz659218 : gB z659218 0 16777216 := ⟨by omega, by omega⟩
  refine G_aload_n 0 dr_cJ0_length_8abf5_5 rfl ?_
  refine Gw_callV (As := []) (gV_ok D I) (cp_659228_String_coder l hl0 D I P659208 F659209 q659210 q659211 p659212 p659213 f659214 n659215 hmq659210 hmq659211 heq659210 heq659211 bp659213 bf659214 (by have qa0 : Int32.toInt 0 = 0 := (by decide); omega)) dr_cJ0_length_8abf5_6 ⟨wr_3_61, wr_1_21, wr_3_64, by decide, rfl, (Nat.le_of_ble_eq_true rfl), (Nat.le_of_ble_eq_true rfl)⟩ wr_3_62 wr_3_63 hmq659210 heq659210 rfl (show 0 + 0 ≤ 0 by first | omega | decide) (show 0 + 0 ≤ 0 by first | omega | decide) (Nat.le_of_ble_eq_true rfl) (fun r659232 w659233 dc659229 ds659230 hp659231 => ?_) (fun _ _ _ _ _ z => z.elim)
  obtain ⟨rfl, rfl, hdc, hds⟩ := hp659231
  change G _ _ _ _ _ _ _ (.int 0 :: _) _ _ _
  refine G_widen (cs' := 0) (sl' := 0) (by omega) (by omega) ?_
  refine G_ishr dr_cJ0_length_8abf5_9 (G_nam fun z659234 hz659234 => ?_)
  have ez659234 : z659234.toInt = z659218.toInt / 1 := gI_shr (k := 0) hz659234 (by decide)
  have bz659234 : gB z659234 0 16777216 := ⟨by omega, by omega⟩
  exact G_iretA dr_cJ0_length_8abf5_10 rfl (Nat.le_of_ble_eq_true rfl) (Nat.le_of_ble_eq_true rfl) ⟨z659234, rfl, rfl, (Nat.le_of_ble_eq_true rfl), (Nat.le_of_ble_eq_true rfl), bz659234, (by have qa0 : Int32.toInt 0 = 0 := (by decide); omega), (fun R c1 => c1 z659218 z659234 ez659218 ez659234)⟩
abbrev ky_659286_AbstractStringBuilder_inflateIfNeededFor : gKey := (cJ5_inflateIfNeededFor_a7421, 2, "java/lang/AbstractStringBuilder", none, [], "inflateIfNeededFor", fun _ _ => True)
def pp_659286_AbstractStringBuilder_inflateIfNeededFor (D : va_G) (I : FieldType → ClassId) (P659270 : List Nat) (F659271 : Nat → va_E) (q659272 : Nat) (q659273 : Nat) (q659274 : Nat) (q659275 : Nat) (p659276 : Int32) (p659277 : Int32) (p659278 : Int32) (p659279 : Int32) (f659280 : Nat → Int32) (n659281 : Nat) (f659282 : Nat → Int32) (n659283 : Nat) : Option Value → va_W → Nat → Nat → Prop := fun r w dc ds => r = none ∧ w = va_pl P659270 F659271 ∧ dc ≤ 0 ∧ ds ≤ 0
set_option maxRecDepth 100000 in
set_option maxHeartbeats 4000000 in
theorem cp_659286_AbstractStringBuilder_inflateIfNeededFor (l : Launch) (hl0 : l.stackTraces = false) (D : va_G) (I : FieldType → ClassId) (P659270 : List Nat) (F659271 : Nat → va_E) (q659272 : Nat) (q659273 : Nat) (q659274 : Nat) (q659275 : Nat) (p659276 : Int32) (p659277 : Int32) (p659278 : Int32) (p659279 : Int32) (f659280 : Nat → Int32) (n659281 : Nat) (f659282 : Nat → Int32) (n659283 : Nat) (hmq659272 : q659272 ∈ P659270) (hmq659273 : q659273 ∈ P659270) (hmq659274 : q659274 ∈ P659270) (hmq659275 : q659275 ∈ P659270) (heq659272 : F659271 q659272 = .inr (1, [.ref q659274, .int 0, .int p659276, .int p659277])) (heq659273 : F659271 q659273 = .inr (0, [.ref q659275, .int 0, .int p659278, .int p659279])) (heq659274 : F659271 q659274 = .inl (I .byte, n659281, .inl f659280)) (heq659275 : F659271 q659275 = .inl (I .byte, n659283, .inl f659282)) (hneq659274q659275 : q659274 ≠ q659275) (bp659276 : gB p659276 0 1) (bp659277 : gB p659277 0 16777216) (bp659279 : gB p659279 0 1) (bf659280 : gF f659280 (-128) 127) (bf659282 : gF f659282 (-128) 127) (x659284 : ((n659281 : Int) ≤ 16777216)) (x659285 : ((n659283 : Int) ≤ 16777216)) : CtA (gV D I) l yJ5_inflateIfNeededFor_a7421 cJ5_inflateIfNeededFor_a7421 2 none 1 20 0 0 [.ref q659272, .ref q659273] (va_pl P659270 F659271) (pp_659286_AbstractStringBuilder_inflateIfNeededFor D I P659270 F659271 q659272 q659273 q659274 q659275 p659276 p659277 p659278 p659279 f659280 n659281 f659282 n659283) gNA := by
  refine CtA_ofF hl0 (by decide +kernel) (Nat.le_of_ble_eq_true rfl) ?_
  have bp659278 := gB_any p659278
  refine G_gets dr_cJ5_inflateIfNeededFor_a7421_0 wr_7_52 gz_cs (fun x hx => ?_)
  subst hx
  refine G_if_eq 21 dr_cJ5_inflateIfNeededFor_a7421_3 (by decide +kernel) (fun hc => absurd hc (by decide)) (fun _ => ?_)
  refine G_aload_n 0 dr_cJ5_inflateIfNeededFor_a7421_6 rfl ?_
  refine Gp_get 1 hmq659272 heq659272 dr_cJ5_inflateIfNeededFor_a7421_7 (gk_J4 D I) (Nat.le_of_ble_eq_true rfl) wr_7_61 rfl ?_
  refine G_aload_n 1 dr_cJ5_inflateIfNeededFor_a7421_10 rfl ?_
  refine Gw_callV (As := []) (gV_ok D I) (cp_659228_String_coder l hl0 D I P659270 F659271 q659273 q659275 p659278 p659279 f659282 n659283 hmq659273 hmq659275 heq659273 heq659275 bp659279 bf659282 (by have qa0 : Int32.toInt 0 = 0 := (by decide); omega)) dr_cJ5_inflateIfNeededFor_a7421_11 ⟨wr_8_163, wr_1_21, wr_3_64, by decide, rfl, (Nat.le_of_ble_eq_true rfl), (Nat.le_of_ble_eq_true rfl)⟩ wr_3_62 wr_3_63 hmq659273 heq659273 rfl (show 0 + 0 ≤ 0 by first | omega | decide) (show 0 + 0 ≤ 0 by first | omega | decide) (Nat.le_of_ble_eq_true rfl) (fun r659290 w659291 dc659287 ds659288 hp659289 => ?_) (fun _ _ _ _ _ z => z.elim)
  obtain ⟨rfl, rfl, hdc, hds⟩ := hp659289
  change G _ _ _ _ _ _ _ (.int 0 :: _) _ _ _
  refine G_widen (cs' := 0) (sl' := 0) (by omega) (by omega) ?_
  refine G_icmp_eq 21 dr_cJ5_inflateIfNeededFor_a7421_14 (by decide +kernel) (fun _ => ?_) (fun hc => absurd hc (by decide))
  exact G_vretA dr_cJ5_inflateIfNeededFor_a7421_21 rfl (Nat.le_of_ble_eq_true rfl) (Nat.le_of_ble_eq_true rfl) ⟨rfl, rfl, (Nat.le_of_ble_eq_true rfl), (Nat.le_of_ble_eq_true rfl)⟩
/- tr_RString_getBytes: a.1.[] -/
def tr_RString_getBytes (a2 : Int32) (a1_v : Nat → Int32) (a0_value_v : Nat → Int32) (a0_value_n : Nat) (o1 : Nat → Int32) : Prop := ∀ R : (Nat → Int32) → Prop,
  (∀ (x1 : Int32) (x2 : Int32) (x3 : Nat → Int32), x1.toInt = a2.toInt * 1 → x2.toInt = (a0_value_n : Nat) → x3 = va_cpy a0_value_v a1_v (0 : Int32).toNatClampNeg x1.toNatClampNeg x2.toNatClampNeg → R x3) →
  R o1
abbrev ky_659312_String_getBytes : gKey := (cJ0_getBytes_840e7, 4, "java/lang/String", none, [], "getBytes", fun _ _ => True)
def pp_659312_String_getBytes (D : va_G) (I : FieldType → ClassId) (P659297 : List Nat) (F659298 : Nat → va_E) (q659299 : Nat) (q659300 : Nat) (q659301 : Nat) (p659302 : Int32) (p659303 : Int32) (p659304 : Int32) (f659305 : Nat → Int32) (n659306 : Nat) (f659307 : Nat → Int32) (n659308 : Nat) : Option Value → va_W → Nat → Nat → Prop := fun r w dc ds => ∃ (F659330 : Nat → va_E) (f659328 : Nat → Int32), r = none ∧ w = va_pl P659297 F659330 ∧ rFr [q659300] P659297 F659298 F659330 ∧ F659330 q659299 = .inr (0, [.ref q659301, .int 0, .int p659303, .int p659304]) ∧ F659330 q659300 = .inl (I .byte, n659306, .inl f659328) ∧ F659330 q659301 = .inl (I .byte, n659308, .inl f659307) ∧ dc ≤ 0 ∧ ds ≤ 0 ∧ gF f659328 (-128) 127 ∧ sK f659305 f659328 p659302.toInt ∧ sF f659307 f659328 p659302.toInt (n659308 : Int) ∧ tr_RString_getBytes p659302 f659305 f659307 n659308 f659328
set_option maxRecDepth 100000 in
set_option maxHeartbeats 4000000 in
theorem cp_659312_String_getBytes (l : Launch) (hl0 : l.stackTraces = false) (D : va_G) (I : FieldType → ClassId) (P659297 : List Nat) (F659298 : Nat → va_E) (q659299 : Nat) (q659300 : Nat) (q659301 : Nat) (p659302 : Int32) (p659303 : Int32) (p659304 : Int32) (f659305 : Nat → Int32) (n659306 : Nat) (f659307 : Nat → Int32) (n659308 : Nat) (hmq659299 : q659299 ∈ P659297) (hmq659300 : q659300 ∈ P659297) (hmq659301 : q659301 ∈ P659297) (heq659299 : F659298 q659299 = .inr (0, [.ref q659301, .int 0, .int p659303, .int p659304])) (heq659300 : F659298 q659300 = .inl (I .byte, n659306, .inl f659305)) (heq659301 : F659298 q659301 = .inl (I .byte, n659308, .inl f659307)) (hneq659300q659301 : q659300 ≠ q659301) (bp659302 : gB p659302 0 16777216) (bp659304 : gB p659304 0 1) (bf659305 : gF f659305 (-128) 127) (bf659307 : gF f659307 (-128) 127) (x659309 : p659302.toInt + (n659308 : Int) ≤ (n659306 : Int)) (x659310 : ((n659306 : Int) ≤ 16777216)) (x659311 : ((n659308 : Int) ≤ 16777216)) : CtA (gV D I) l yJ0_getBytes_840e7 cJ0_getBytes_840e7 4 none 1 20 0 0 [.ref q659299, .ref q659300, .int p659302, .int 0] (va_pl P659297 F659298) (pp_659312_String_getBytes D I P659297 F659298 q659299 q659300 q659301 p659302 p659303 p659304 f659305 n659306 f659307 n659308) gNA := by
  refine CtA_ofF hl0 (by decide +kernel) (Nat.le_of_ble_eq_true rfl) ?_
  have bp659303 := gB_any p659303
  refine G_aload_n 0 dr_cJ0_getBytes_840e7_0 rfl ?_
  refine Gw_callV (As := []) (gV_ok D I) (cp_659228_String_coder l hl0 D I P659297 F659298 q659299 q659301 p659303 p659304 f659307 n659308 hmq659299 hmq659301 heq659299 heq659301 bp659304 bf659307 (by have qa0 : Int32.toInt 0 = 0 := (by decide); omega)) dr_cJ0_getBytes_840e7_1 ⟨wr_3_61, wr_1_21, wr_3_64, by decide, rfl, (Nat.le_of_ble_eq_true rfl), (Nat.le_of_ble_eq_true rfl)⟩ wr_3_62 wr_3_63 hmq659299 heq659299 rfl (show 0 + 0 ≤ 0 by first | omega | decide) (show 0 + 0 ≤ 0 by first | omega | decide) (Nat.le_of_ble_eq_true rfl) (fun r659316 w659317 dc659313 ds659314 hp659315 => ?_) (fun _ _ _ _ _ z => z.elim)
  obtain ⟨rfl, rfl, hdc, hds⟩ := hp659315
  change G _ _ _ _ _ _ _ (.int 0 :: _) _ _ _
  refine G_widen (cs' := 0) (sl' := 0) (by omega) (by omega) ?_
  refine G_iload_n 3 dr_cJ0_getBytes_840e7_4 rfl ?_
  refine G_icmp_ne 28 dr_cJ0_getBytes_840e7_5 (by decide +kernel) (fun hc => absurd hc (by decide)) (fun _ => ?_)
  refine G_aload_n 0 dr_cJ0_getBytes_840e7_8 rfl ?_
  refine Gp_get 0 hmq659299 heq659299 dr_cJ0_getBytes_840e7_9 (gk_J0 D I) (Nat.le_of_ble_eq_true rfl) wr_8_182 rfl ?_
  refine G_iconst 0 dr_cJ0_getBytes_840e7_12 (by decide +kernel) ?_
  refine G_aload_n 1 dr_cJ0_getBytes_840e7_13 rfl ?_
  refine G_iload_n 2 dr_cJ0_getBytes_840e7_14 rfl ?_
  refine G_iload_n 3 dr_cJ0_getBytes_840e7_15 rfl ?_
  refine G_ishl dr_cJ0_getBytes_840e7_16 (G_nam fun z659318 hz659318 => ?_)
  have ez659318 : z659318.toInt = p659302.toInt * 1 := gI_shl (k := 0) hz659318 (by decide) bp659302 (by decide) (by decide)
  have bz659318 : gB z659318 0 16777216 := ⟨by omega, by omega⟩
  refine G_aload_n 0 dr_cJ0_getBytes_840e7_17 rfl ?_
  refine Gp_get 0 hmq659299 heq659299 dr_cJ0_getBytes_840e7_18 (gk_J0 D I) (Nat.le_of_ble_eq_true rfl) wr_8_182 rfl ?_
  refine Gp_alen (Int32.ofNat n659308) 1 hmq659301 heq659301 dr_cJ0_getBytes_840e7_21 rfl rfl (G_nam fun z659319 hz659319 => ?_)
  have ez659319 : z659319.toInt = (n659308 : Nat) := gI_ofM hz659319 (by omega)
  have bz659319 : gB z659319 0 16777216 := ⟨by omega, by omega⟩
  refine Gp_copyp 1 hmq659301 hmq659300 heq659301 heq659300 dr_cJ0_getBytes_840e7_22 wr_8_168 wr_5_113 wr_5_112 wr_1_34 rfl rfl (fun j => gT_byte (bf659307 j)) (by decide) (by omega) (by omega) (by have qa0 : Int32.toInt 0 = 0 := (by decide); omega) (by have qa0 : Int32.toInt 0 = 0 := (by decide); omega) (Nat.le_of_ble_eq_true rfl) (Nat.le_of_ble_eq_true rfl) (fun F659320 e659321 n659322 => ?_)
  obtain ⟨f659323, hf659323⟩ : ∃ z, z = va_cpy f659307 f659305 (0 : Int32).toNatClampNeg z659318.toNatClampNeg z659319.toNatClampNeg := ⟨_, rfl⟩
  rw [← hf659323] at e659321
  have bf659323 : gF f659323 (-128) 127 := gF_cpy hf659323 bf659307 bf659305
  have he659324 : F659320 q659299 = .inr (0, [.ref q659301, .int 0, .int p659303, .int p659304]) := (n659322 q659299 (rn_oa heq659299 heq659300)).trans heq659299
  have he659325 : F659320 q659301 = .inl (I .byte, n659308, .inl f659307) := (n659322 q659301 (Ne.symm hneq659300q659301)).trans heq659301
  have he659326 : F659320 q659300 = .inl (I .byte, n659306, .inl f659323) := e659321
  have hfr659327 : rFr [q659300] P659297 F659298 F659320 := rFr_put (rFr_rf (W := []) (P := P659297) (F := F659298)) n659322
  refine G_goto 43 dr_cJ0_getBytes_840e7_25 (by decide +kernel) ?_
  exact G_vretA dr_cJ0_getBytes_840e7_43 rfl (Nat.le_of_ble_eq_true rfl) (Nat.le_of_ble_eq_true rfl) ⟨F659320, f659323, rfl, rfl, hfr659327, he659324, he659326, he659325, (Nat.le_of_ble_eq_true rfl), (Nat.le_of_ble_eq_true rfl), bf659323, (sK_cpy hf659323 (by omega)), (sF_cpy hf659323 (by decide) (by omega) (by omega)), (fun R c1 => c1 z659318 z659319 f659323 ez659318 ez659319 hf659323)⟩
/- tr_RAbstractStringBuilder_putStringAt: a.0.value.[] -/
def tr_RAbstractStringBuilder_putStringAt (a1 : Int32) (a0_value_v : Nat → Int32) (a2_value_v : Nat → Int32) (a2_value_n : Nat) (o1 : Nat → Int32) : Prop := ∀ R : (Nat → Int32) → Prop,
  (∀ (x1 : Nat → Int32), tr_RString_getBytes a1 a0_value_v a2_value_v a2_value_n x1 → R x1) →
  R o1
abbrev ky_659269_AbstractStringBuilder_putStringAt : gKey := (cJ5_putStringAt_47b60, 3, "java/lang/AbstractStringBuilder", none, [], "putStringAt", fun _ _ => True)
def pp_659269_AbstractStringBuilder_putStringAt (D : va_G) (I : FieldType → ClassId) (P659251 : List Nat) (F659252 : Nat → va_E) (q659253 : Nat) (q659254 : Nat) (q659255 : Nat) (q659256 : Nat) (p659257 : Int32) (p659258 : Int32) (p659259 : Int32) (p659260 : Int32) (p659261 : Int32) (f659262 : Nat → Int32) (n659263 : Nat) (f659264 : Nat → Int32) (n659265 : Nat) : Option Value → va_W → Nat → Nat → Prop := fun r w dc ds => ∃ (F659350 : Nat → va_E) (f659348 : Nat → Int32), r = none ∧ w = va_pl P659251 F659350 ∧ rFr [q659255] P659251 F659252 F659350 ∧ F659350 q659253 = .inr (1, [.ref q659255, .int 0, .int p659258, .int p659259]) ∧ F659350 q659254 = .inr (0, [.ref q659256, .int 0, .int p659260, .int p659261]) ∧ F659350 q659255 = .inl (I .byte, n659263, .inl f659348) ∧ F659350 q659256 = .inl (I .byte, n659265, .inl f659264) ∧ dc ≤ 0 ∧ ds ≤ 0 ∧ gF f659348 (-128) 127 ∧ sK f659262 f659348 p659257.toInt ∧ sF f659264 f659348 p659257.toInt (n659265 : Int) ∧ tr_RAbstractStringBuilder_putStringAt p659257 f659262 f659264 n659265 f659348
set_option maxRecDepth 100000 in
set_option maxHeartbeats 4000000 in
theorem cp_659269_AbstractStringBuilder_putStringAt (l : Launch) (hl0 : l.stackTraces = false) (D : va_G) (I : FieldType → ClassId) (P659251 : List Nat) (F659252 : Nat → va_E) (q659253 : Nat) (q659254 : Nat) (q659255 : Nat) (q659256 : Nat) (p659257 : Int32) (p659258 : Int32) (p659259 : Int32) (p659260 : Int32) (p659261 : Int32) (f659262 : Nat → Int32) (n659263 : Nat) (f659264 : Nat → Int32) (n659265 : Nat) (hmq659253 : q659253 ∈ P659251) (hmq659254 : q659254 ∈ P659251) (hmq659255 : q659255 ∈ P659251) (hmq659256 : q659256 ∈ P659251) (heq659253 : F659252 q659253 = .inr (1, [.ref q659255, .int 0, .int p659258, .int p659259])) (heq659254 : F659252 q659254 = .inr (0, [.ref q659256, .int 0, .int p659260, .int p659261])) (heq659255 : F659252 q659255 = .inl (I .byte, n659263, .inl f659262)) (heq659256 : F659252 q659256 = .inl (I .byte, n659265, .inl f659264)) (hneq659255q659256 : q659255 ≠ q659256) (bp659257 : gB p659257 0 16777216) (bp659258 : gB p659258 0 1) (bp659259 : gB p659259 0 16777216) (bp659261 : gB p659261 0 1) (bf659262 : gF f659262 (-128) 127) (bf659264 : gF f659264 (-128) 127) (x659266 : p659257.toInt + (n659265 : Int) ≤ (n659263 : Int)) (x659267 : ((n659263 : Int) ≤ 16777216)) (x659268 : ((n659265 : Int) ≤ 16777216)) : CtA (gV D I) l yJ5_putStringAt_47b60 cJ5_putStringAt_47b60 3 none 2 43 0 0 [.ref q659253, .int p659257, .ref q659254] (va_pl P659251 F659252) (pp_659269_AbstractStringBuilder_putStringAt D I P659251 F659252 q659253 q659254 q659255 q659256 p659257 p659258 p659259 p659260 p659261 f659262 n659263 f659264 n659265) gNA := by
  refine CtA_ofF hl0 (by decide +kernel) (Nat.le_of_ble_eq_true rfl) ?_
  have bp659260 := gB_any p659260
  refine G_aload_n 0 dr_cJ5_putStringAt_47b60_0 rfl ?_
  refine G_aload_n 2 dr_cJ5_putStringAt_47b60_1 rfl ?_
  refine Gw_callVB (As := [.ref q659254]) (gV_ok D I) (cp_659286_AbstractStringBuilder_inflateIfNeededFor l hl0 D I P659251 F659252 q659253 q659254 q659255 q659256 p659258 p659259 p659260 p659261 f659262 n659263 f659264 n659265 hmq659253 hmq659254 hmq659255 hmq659256 heq659253 heq659254 heq659255 heq659256 hneq659255q659256 bp659258 bp659259 bp659261 bf659262 bf659264 (by have qa0 : Int32.toInt 0 = 0 := (by decide); omega) (by have qa0 : Int32.toInt 0 = 0 := (by decide); omega)) dr_cJ5_putStringAt_47b60_2 ⟨wr_8_159, wr_1_19, wr_8_162, by decide, rfl, (Nat.le_of_ble_eq_true rfl), (Nat.le_of_ble_eq_true rfl)⟩ wr_8_161 wr_s_5 hmq659253 heq659253 rfl (show 0 + 0 ≤ 0 by first | omega | decide) (show 0 + 0 ≤ 0 by first | omega | decide) (Nat.le_of_ble_eq_true rfl) (fun r659295 w659296 dc659292 ds659293 hp659294 => ?_) (fun _ _ _ _ _ z => z.elim)
  obtain ⟨rfl, rfl, hdc, hds⟩ := hp659294
  change G _ _ _ _ _ _ _ _ _ _ _
  refine G_widen (cs' := 0) (sl' := 0) (by omega) (by omega) ?_
  refine G_aload_n 2 dr_cJ5_putStringAt_47b60_5 rfl ?_
  refine G_aload_n 0 dr_cJ5_putStringAt_47b60_6 rfl ?_
  refine Gp_get 0 hmq659253 heq659253 dr_cJ5_putStringAt_47b60_7 (gk_J4 D I) (Nat.le_of_ble_eq_true rfl) wr_7_60 rfl ?_
  refine G_iload_n 1 dr_cJ5_putStringAt_47b60_10 rfl ?_
  refine G_aload_n 0 dr_cJ5_putStringAt_47b60_11 rfl ?_
  refine Gp_get 1 hmq659253 heq659253 dr_cJ5_putStringAt_47b60_12 (gk_J4 D I) (Nat.le_of_ble_eq_true rfl) wr_7_61 rfl ?_
  refine Gw_callV (As := [.ref q659255, .int p659257, .int 0]) (gV_ok D I) (cp_659312_String_getBytes l hl0 D I P659251 F659252 q659254 q659255 q659256 p659257 p659260 p659261 f659262 n659263 f659264 n659265 hmq659254 hmq659255 hmq659256 heq659254 heq659255 heq659256 hneq659255q659256 bp659257 bp659261 bf659262 bf659264 (by have qa0 : Int32.toInt 0 = 0 := (by decide); omega) (by have qa0 : Int32.toInt 0 = 0 := (by decide); omega) (by have qa0 : Int32.toInt 0 = 0 := (by decide); omega)) dr_cJ5_putStringAt_47b60_15 ⟨wr_8_164, wr_1_21, wr_8_167, by decide, rfl, (Nat.le_of_ble_eq_true rfl), (Nat.le_of_ble_eq_true rfl)⟩ wr_8_165 wr_8_166 hmq659254 heq659254 rfl (show 0 + 0 ≤ 0 by first | omega | decide) (show 0 + 0 ≤ 0 by first | omega | decide) (Nat.le_of_ble_eq_true rfl) (fun r659334 w659335 dc659331 ds659332 hp659333 => ?_) (fun _ _ _ _ _ z => z.elim)
  obtain ⟨F659340, f659336, rfl, rfl, hfr659342, he659343, he659344, he659345, hdc, hds, bf659336, x659337, x659338, ht659339⟩ := hp659333
  have he659346 : F659340 q659253 = .inr (1, [.ref q659255, .int 0, .int p659258, .int p659259]) := (hfr659342 q659253 hmq659253 (nm_c (rn_oa heq659253 heq659255) nm_n)).trans heq659253
  have hfr659347 : rFr [q659255] P659251 F659252 F659340 := rFr_call (rSub_rf (P := P659251)) (rFr_rf (W := []) (P := P659251) (F := F659252)) hfr659342 (fun b hb hn => ⟨nm_n, (nm_c (fun e => hn (e ▸ List.mem_cons_self)) nm_n)⟩)
  change G _ _ _ _ _ _ _ _ _ _ _
  refine G_widen (cs' := 0) (sl' := 0) (by omega) (by omega) ?_
  exact G_vretA dr_cJ5_putStringAt_47b60_18 rfl (Nat.le_of_ble_eq_true rfl) (Nat.le_of_ble_eq_true rfl) ⟨F659340, f659336, rfl, rfl, hfr659347, he659346, he659343, he659344, he659345, (Nat.le_of_ble_eq_true rfl), (Nat.le_of_ble_eq_true rfl), bf659336, (sK_c x659337 (by omega)), (by assumption), (fun R c1 => c1 f659336 ht659339)⟩
/- tr_RAbstractStringBuilder_append3: a.0...count, a.0.value.[] -/
def tr_RAbstractStringBuilder_append3 (a0_count : Int32) (a0_value_v : Nat → Int32) (a0_value_n : Nat) (a1_value_v : Nat → Int32) (a1_value_n : Nat) (o1 : Int32) (o2 : Nat → Int32) : Prop := ∀ R : (Int32) → (Nat → Int32) → Prop,
  (∀ (x1 : Int32) (x2 : Int32) (x3 : Nat → Int32) (x4 : Int32), gB x1 0 16777216 → tr_RString_length a1_value_n x1 → x2.toInt = a0_count.toInt + x1.toInt → tr_RAbstractStringBuilder_ensureCapacityInternal x2 a0_value_n → tr_RAbstractStringBuilder_putStringAt a0_count a0_value_v a1_value_v a1_value_n x3 → x4.toInt = a0_count.toInt + x1.toInt → R x4 x3) →
  R o1 o2
abbrev ky_659207_AbstractStringBuilder_append : gKey := (cJ5_append_cf1ce, 3, "java/lang/AbstractStringBuilder", (some (FieldType.object "java/lang/AbstractStringBuilder")), [], "append", fun _ _ => True)
def pp_659207_AbstractStringBuilder_append (D : va_G) (I : FieldType → ClassId) (P659190 : List Nat) (F659191 : Nat → va_E) (q659192 : Nat) (q659193 : Nat) (q659194 : Nat) (q659195 : Nat) (p659196 : Int32) (p659197 : Int32) (p659198 : Int32) (p659199 : Int32) (f659200 : Nat → Int32) (n659201 : Nat) (f659202 : Nat → Int32) (n659203 : Nat) : Option Value → va_W → Nat → Nat → Prop := fun r w dc ds => ∃ (F659380 : Nat → va_E) (o659377 : Int32) (f659378 : Nat → Int32), r = some (.ref q659192) ∧ w = va_pl P659190 F659380 ∧ rFr [q659192, q659194] P659190 F659191 F659380 ∧ F659380 q659192 = .inr (1, [.ref q659194, .int 0, .int p659196, .int o659377]) ∧ F659380 q659193 = .inr (0, [.ref q659195, .int 0, .int p659198, .int p659199]) ∧ F659380 q659194 = .inl (I .byte, n659201, .inl f659378) ∧ F659380 q659195 = .inl (I .byte, n659203, .inl f659202) ∧ dc ≤ 0 ∧ ds ≤ 0 ∧ gB o659377 0 16777216 ∧ gF f659378 (-128) 127 ∧ o659377.toInt = p659197.toInt + (n659203 : Int) ∧ sK f659200 f659378 p659197.toInt ∧ sF f659202 f659378 p659197.toInt (n659203 : Int) ∧ tr_RAbstractStringBuilder_append3 p659197 f659200 n659201 f659202 n659203 o659377 f659378
set_option maxRecDepth 100000 in
set_option maxHeartbeats 4000000 in
theorem cp_659207_AbstractStringBuilder_append (l : Launch) (hl0 : l.stackTraces = false) (D : va_G) (I : FieldType → ClassId) (P659190 : List Nat) (F659191 : Nat → va_E) (q659192 : Nat) (q659193 : Nat) (q659194 : Nat) (q659195 : Nat) (p659196 : Int32) (p659197 : Int32) (p659198 : Int32) (p659199 : Int32) (f659200 : Nat → Int32) (n659201 : Nat) (f659202 : Nat → Int32) (n659203 : Nat) (hmq659192 : q659192 ∈ P659190) (hmq659193 : q659193 ∈ P659190) (hmq659194 : q659194 ∈ P659190) (hmq659195 : q659195 ∈ P659190) (heq659192 : F659191 q659192 = .inr (1, [.ref q659194, .int 0, .int p659196, .int p659197])) (heq659193 : F659191 q659193 = .inr (0, [.ref q659195, .int 0, .int p659198, .int p659199])) (heq659194 : F659191 q659194 = .inl (I .byte, n659201, .inl f659200)) (heq659195 : F659191 q659195 = .inl (I .byte, n659203, .inl f659202)) (hneq659194q659195 : q659194 ≠ q659195) (bp659196 : gB p659196 0 1) (bp659197 : gB p659197 0 16777216) (bp659199 : gB p659199 0 1) (bf659200 : gF f659200 (-128) 127) (bf659202 : gF f659202 (-128) 127) (x659204 : p659197.toInt + (n659203 : Int) ≤ (n659201 : Int)) (x659205 : ((n659201 : Int) ≤ 16777216)) (x659206 : ((n659203 : Int) ≤ 16777216)) : CtA (gV D I) l yJ5_append_cf1ce cJ5_append_cf1ce 3 (some (FieldType.object "java/lang/AbstractStringBuilder")) 3 65 0 0 [.ref q659192, .ref q659193] (va_pl P659190 F659191) (pp_659207_AbstractStringBuilder_append D I P659190 F659191 q659192 q659193 q659194 q659195 p659196 p659197 p659198 p659199 f659200 n659201 f659202 n659203) gNA := by
  refine CtA_ofF hl0 (by decide +kernel) (Nat.le_of_ble_eq_true rfl) ?_
  have bp659198 := gB_any p659198
  refine G_aload_n 1 dr_cJ5_append_cf1ce_0 rfl ?_
  refine G_ifnonnull 9 dr_cJ5_append_cf1ce_1 (by decide +kernel) ?_
  refine G_aload_n 1 dr_cJ5_append_cf1ce_9 rfl ?_
  refine Gw_callV (As := []) (gV_ok D I) (cp_659217_String_length l hl0 D I P659190 F659191 q659193 q659195 p659198 p659199 f659202 n659203 hmq659193 hmq659195 heq659193 heq659195 bp659199 bf659202 (by have qa0 : Int32.toInt 0 = 0 := (by decide); omega)) dr_cJ5_append_cf1ce_10 ⟨wr_8_154, wr_1_21, wr_3_60, by decide, rfl, (Nat.le_of_ble_eq_true rfl), (Nat.le_of_ble_eq_true rfl)⟩ wr_3_58 wr_3_59 hmq659193 heq659193 rfl (show 0 + 0 ≤ 0 by first | omega | decide) (show 0 + 0 ≤ 0 by first | omega | decide) (Nat.le_of_ble_eq_true rfl) (fun r659239 w659240 dc659236 ds659237 hp659238 => ?_) (fun _ _ _ _ _ z => z.elim)
  obtain ⟨o659241, rfl, rfl, hdc, hds, bo659241, x659242, ht659243⟩ := hp659238
  change G _ _ _ _ _ _ _ (.int o659241 :: _) _ _ _
  refine G_widen (cs' := 0) (sl' := 0) (by omega) (by omega) ?_
  refine G_istore_n (L' := [(2, .int o659241), (0, .ref q659192), (1, .ref q659193)]) dr_cJ5_append_cf1ce_13 (Nat.le_of_ble_eq_true rfl) rfl ?_
  refine G_aload_n 1 dr_cJ5_append_cf1ce_14 rfl ?_
  refine G_aload_n 1 dr_cJ5_append_cf1ce_15 rfl ?_
  refine Gp_get 3 hmq659192 heq659192 dr_cJ5_append_cf1ce_16 (gk_J4 D I) (Nat.le_of_ble_eq_true rfl) wr_7_64 rfl ?_
  refine G_iload_n 0 dr_cJ5_append_cf1ce_19 rfl ?_
  refine G_iadd dr_cJ5_append_cf1ce_20 (G_nam fun z659244 hz659244 => ?_)
  have ez659244 : z659244.toInt = p659197.toInt + o659241.toInt := by rw [gI_add hz659244 bp659197 bo659241 (by decide) (by decide)]
  have bz659244 : gB z659244 0 33554432 := gB_add (gI_add hz659244 bp659197 bo659241 (by decide) (by decide)) bp659197 bo659241 (by decide) (by decide)
  refine Gw_callVB (As := [.int z659244]) (gV_ok D I) (cp_658701_AbstractStringBuilder_ensureCapacityInternal l hl0 D I P659190 F659191 q659192 q659194 z659244 p659196 p659197 f659200 n659201 hmq659192 hmq659194 heq659192 heq659194 ⟨by omega, by omega⟩ bp659196 bp659197 bf659200 (by have qa0 : Int32.toInt 0 = 0 := (by decide); omega) (by have qa0 : Int32.toInt 0 = 0 := (by decide); omega)) dr_cJ5_append_cf1ce_21 ⟨wr_8_4, wr_1_19, wr_8_7, by decide, rfl, (Nat.le_of_ble_eq_true rfl), (Nat.le_of_ble_eq_true rfl)⟩ wr_8_6 wr_s_0 hmq659192 heq659192 rfl (show 0 + 0 ≤ 0 by first | omega | decide) (show 0 + 0 ≤ 0 by first | omega | decide) (Nat.le_of_ble_eq_true rfl) (fun r659248 w659249 dc659245 ds659246 hp659247 => ?_) (fun _ _ _ _ _ z => z.elim)
  obtain ⟨rfl, rfl, hdc, hds, ht659250⟩ := hp659247
  change G _ _ _ _ _ _ _ _ _ _ _
  refine G_widen (cs' := 0) (sl' := 0) (by omega) (by omega) ?_
  refine G_aload_n 1 dr_cJ5_append_cf1ce_24 rfl ?_
  refine G_aload_n 1 dr_cJ5_append_cf1ce_25 rfl ?_
  refine Gp_get 3 hmq659192 heq659192 dr_cJ5_append_cf1ce_26 (gk_J4 D I) (Nat.le_of_ble_eq_true rfl) wr_7_64 rfl ?_
  refine G_aload_n 2 dr_cJ5_append_cf1ce_29 rfl ?_
  refine Gw_callVB (As := [.int p659197, .ref q659193]) (gV_ok D I) (cp_659269_AbstractStringBuilder_putStringAt l hl0 D I P659190 F659191 q659192 q659193 q659194 q659195 p659197 p659196 p659197 p659198 p659199 f659200 n659201 f659202 n659203 hmq659192 hmq659193 hmq659194 hmq659195 heq659192 heq659193 heq659194 heq659195 hneq659194q659195 bp659197 bp659196 bp659197 bp659199 bf659200 bf659202 (by have qa0 : Int32.toInt 0 = 0 := (by decide); omega) (by have qa0 : Int32.toInt 0 = 0 := (by decide); omega) (by have qa0 : Int32.toInt 0 = 0 := (by decide); omega)) dr_cJ5_append_cf1ce_30 ⟨wr_8_155, wr_1_19, wr_8_158, by decide, rfl, (Nat.le_of_ble_eq_true rfl), (Nat.le_of_ble_eq_true rfl)⟩ wr_8_157 wr_s_4 hmq659192 heq659192 rfl (show 0 + 0 ≤ 0 by first | omega | decide) (show 0 + 0 ≤ 0 by first | omega | decide) (Nat.le_of_ble_eq_true rfl) (fun r659354 w659355 dc659351 ds659352 hp659353 => ?_) (fun _ _ _ _ _ z => z.elim)
  obtain ⟨F659360, f659356, rfl, rfl, hfr659362, he659363, he659364, he659365, he659366, hdc, hds, bf659356, x659357, x659358, ht659359⟩ := hp659353
  have hfr659367 : rFr [q659194] P659190 F659191 F659360 := rFr_call (rSub_rf (P := P659190)) (rFr_rf (W := []) (P := P659190) (F := F659191)) hfr659362 (fun b hb hn => ⟨nm_n, (nm_c (fun e => hn (e ▸ List.mem_cons_self)) nm_n)⟩)
  change G _ _ _ _ _ _ _ _ _ _ _
  refine G_widen (cs' := 0) (sl' := 0) (by omega) (by omega) ?_
  refine G_aload_n 1 dr_cJ5_append_cf1ce_33 rfl ?_
  refine G_dup dr_cJ5_append_cf1ce_34 rfl ?_
  refine Gp_get 3 hmq659192 he659363 dr_cJ5_append_cf1ce_35 (gk_J4 D I) (Nat.le_of_ble_eq_true rfl) wr_7_64 rfl ?_
  refine G_iload_n 0 dr_cJ5_append_cf1ce_38 rfl ?_
  refine G_iadd dr_cJ5_append_cf1ce_39 (G_nam fun z659368 hz659368 => ?_)
  have ez659368 : z659368.toInt = p659197.toInt + o659241.toInt := by rw [gI_add hz659368 bp659197 bo659241 (by decide) (by decide)]
  have bz659368 : gB z659368 0 33554432 := gB_add (gI_add hz659368 bp659197 bo659241 (by decide) (by decide)) bp659197 bo659241 (by decide) (by decide)
  refine Gp_put 3 hmq659192 he659363 dr_cJ5_append_cf1ce_40 (gk_J4 D I) (Nat.le_of_ble_eq_true rfl) wr_7_64 rfl rfl rfl (Nat.le_of_ble_eq_true rfl) (fun F659369 e659370 n659371 => ?_)
  have he659372 : F659369 q659193 = .inr (0, [.ref q659195, .int 0, .int p659198, .int p659199]) := (n659371 q659193 (rn_oo he659364 he659363 (by decide))).trans he659364
  have he659373 : F659369 q659194 = .inl (I .byte, n659201, .inl f659356) := (n659371 q659194 (rn_ao he659365 he659363)).trans he659365
  have he659374 : F659369 q659195 = .inl (I .byte, n659203, .inl f659202) := (n659371 q659195 (rn_ao he659366 he659363)).trans he659366
  have he659375 : F659369 q659192 = .inr (1, [.ref q659194, .int 0, .int p659196, .int z659368]) := e659370
  have hfr659376 : rFr [q659192, q659194] P659190 F659191 F659369 := rFr_put hfr659367 n659371
  refine G_aload_n 1 dr_cJ5_append_cf1ce_43 rfl ?_
  exact G_aretA (FieldType.object "java/lang/AbstractStringBuilder") dr_cJ5_append_cf1ce_44 rfl (by first | exact Or.inl ⟨_, rfl⟩ | exact Or.inr ⟨_, rfl⟩) (Or.inr ⟨_, rfl⟩) (Nat.le_of_ble_eq_true rfl) (Nat.le_of_ble_eq_true rfl) ⟨F659369, z659368, f659356, rfl, rfl, hfr659376, he659375, he659372, he659373, he659374, (Nat.le_of_ble_eq_true rfl), (Nat.le_of_ble_eq_true rfl), ⟨by omega, by omega⟩, bf659356, (by have qa0 : Int32.toInt 0 = 0 := (by decide); omega), (sK_c x659357 (by omega)), (by assumption), (fun R c1 => c1 o659241 z659244 f659356 z659368 bo659241 ht659243 ez659244 ht659250 ht659359 ez659368)⟩
/- tr_RStringBuilder_append3: a.0...count, a.0.value.[] -/
def tr_RStringBuilder_append3 (a0_count : Int32) (a0_value_v : Nat → Int32) (a0_value_n : Nat) (a1_value_v : Nat → Int32) (a1_value_n : Nat) (o1 : Int32) (o2 : Nat → Int32) : Prop := ∀ R : (Int32) → (Nat → Int32) → Prop,
  (∀ (x1 : Int32) (x2 : Nat → Int32), gB x1 0 16777216 → tr_RAbstractStringBuilder_append3 a0_count a0_value_v a0_value_n a1_value_v a1_value_n x1 x2 → R x1 x2) →
  R o1 o2
end
section
theorem dr_cJ4_append_15ec4_0 : decode cJ4_append_15ec4 0 = .ok (.aload_n 0, 1) := by decide +kernel
theorem dr_cJ4_append_15ec4_1 : decode cJ4_append_15ec4 1 = .ok (.aload_n 1, 1) := by decide +kernel
theorem dr_cJ4_append_15ec4_2 : decode cJ4_append_15ec4 2 = .ok (.invokespecial 29, 3) := by decide +kernel
theorem wr_8_144 : (Jvm.Cond.methodLink "java/lang/StringBuilder" (29 : Nat) ({ cls := "java/lang/AbstractStringBuilder", name := "append", desc := "(Ljava/lang/String;)Ljava/lang/AbstractStringBuilder;" } : Jvm.MethodName)) ∈ gw := gw_8 144 rfl rfl
theorem wr_8_146 : (Jvm.Cond.code ({ cls := "java/lang/AbstractStringBuilder", name := "append", desc := "(Ljava/lang/String;)Ljava/lang/AbstractStringBuilder;" } : Jvm.MethodName) prog_21_method_22_code (3 : Nat) (Option.some (Jvm.ClassFile.FieldType.object "java/lang/AbstractStringBuilder"))) ∈ gw := gw_8 146 rfl rfl
theorem wr_8_145 : (Jvm.Cond.instanceMethod ({ cls := "java/lang/AbstractStringBuilder", name := "append", desc := "(Ljava/lang/String;)Ljava/lang/AbstractStringBuilder;" } : Jvm.MethodName)) ∈ gw := gw_8 145 rfl rfl
theorem wr_11_229 : (Jvm.Cond.sameMethod "java/lang/AbstractStringBuilder" "java/lang/AbstractStringBuilder" "append" "(Ljava/lang/String;)Ljava/lang/AbstractStringBuilder;") ∈ gw := gw_11 229 rfl rfl
theorem dr_cJ4_append_15ec4_5 : decode cJ4_append_15ec4 5 = .ok (.pop, 1) := by decide +kernel
theorem dr_cJ4_append_15ec4_6 : decode cJ4_append_15ec4 6 = .ok (.aload_n 0, 1) := by decide +kernel
theorem dr_cJ4_append_15ec4_7 : decode cJ4_append_15ec4 7 = .ok (.areturn, 1) := by decide +kernel
abbrev ky_659189_StringBuilder_append : gKey := (cJ4_append_15ec4, 2, "java/lang/StringBuilder", (some (FieldType.object "java/lang/StringBuilder")), [], "append", fun _ _ => True)
def pp_659189_StringBuilder_append (D : va_G) (I : FieldType → ClassId) (P659172 : List Nat) (F659173 : Nat → va_E) (q659174 : Nat) (q659175 : Nat) (q659176 : Nat) (q659177 : Nat) (p659178 : Int32) (p659179 : Int32) (p659180 : Int32) (p659181 : Int32) (f659182 : Nat → Int32) (n659183 : Nat) (f659184 : Nat → Int32) (n659185 : Nat) : Option Value → va_W → Nat → Nat → Prop := fun r w dc ds => ∃ (F659403 : Nat → va_E) (o659400 : Int32) (f659401 : Nat → Int32), r = some (.ref q659174) ∧ w = va_pl P659172 F659403 ∧ rFr [q659174, q659176] P659172 F659173 F659403 ∧ F659403 q659174 = .inr (1, [.ref q659176, .int 0, .int p659178, .int o659400]) ∧ F659403 q659175 = .inr (0, [.ref q659177, .int 0, .int p659180, .int p659181]) ∧ F659403 q659176 = .inl (I .byte, n659183, .inl f659401) ∧ F659403 q659177 = .inl (I .byte, n659185, .inl f659184) ∧ dc ≤ 0 ∧ ds ≤ 0 ∧ gB o659400 0 16777216 ∧ gF f659401 (-128) 127 ∧ o659400.toInt = p659179.toInt + (n659185 : Int) ∧ sK f659182 f659401 p659179.toInt ∧ sF f659184 f659401 p659179.toInt (n659185 : Int) ∧ tr_RStringBuilder_append3 p659179 f659182 n659183 f659184 n659185 o659400 f659401
set_option maxRecDepth 100000 in
set_option maxHeartbeats 4000000 in
theorem cp_659189_StringBuilder_append (l : Launch) (hl0 : l.stackTraces = false) (D : va_G) (I : FieldType → ClassId) (P659172 : List Nat) (F659173 : Nat → va_E) (q659174 : Nat) (q659175 : Nat) (q659176 : Nat) (q659177 : Nat) (p659178 : Int32) (p659179 : Int32) (p659180 : Int32) (p659181 : Int32) (f659182 : Nat → Int32) (n659183 : Nat) (f659184 : Nat → Int32) (n659185 : Nat) (hmq659174 : q659174 ∈ P659172) (hmq659175 : q659175 ∈ P659172) (hmq659176 : q659176 ∈ P659172) (hmq659177 : q659177 ∈ P659172) (heq659174 : F659173 q659174 = .inr (1, [.ref q659176, .int 0, .int p659178, .int p659179])) (heq659175 : F659173 q659175 = .inr (0, [.ref q659177, .int 0, .int p659180, .int p659181])) (heq659176 : F659173 q659176 = .inl (I .byte, n659183, .inl f659182)) (heq659177 : F659173 q659177 = .inl (I .byte, n659185, .inl f659184)) (hneq659176q659177 : q659176 ≠ q659177) (bp659178 : gB p659178 0 1) (bp659179 : gB p659179 0 16777216) (bp659181 : gB p659181 0 1) (bf659182 : gF f659182 (-128) 127) (bf659184 : gF f659184 (-128) 127) (x659186 : p659179.toInt + (n659185 : Int) ≤ (n659183 : Int)) (x659187 : ((n659183 : Int) ≤ 16777216)) (x659188 : ((n659185 : Int) ≤ 16777216)) : CtA (gV D I) l yJ4_append_15ec4 cJ4_append_15ec4 2 (some (FieldType.object "java/lang/StringBuilder")) 4 87 0 0 [.ref q659174, .ref q659175] (va_pl P659172 F659173) (pp_659189_StringBuilder_append D I P659172 F659173 q659174 q659175 q659176 q659177 p659178 p659179 p659180 p659181 f659182 n659183 f659184 n659185) gNA := by
  refine CtA_ofF hl0 (by decide +kernel) (Nat.le_of_ble_eq_true rfl) ?_
  have bp659180 := gB_any p659180
  refine G_aload_n 0 dr_cJ4_append_15ec4_0 rfl ?_
  refine G_aload_n 1 dr_cJ4_append_15ec4_1 rfl ?_
  refine Gw_callSU (As := [.ref q659175]) (gV_ok D I) (cp_659207_AbstractStringBuilder_append l hl0 D I P659172 F659173 q659174 q659175 q659176 q659177 p659178 p659179 p659180 p659181 f659182 n659183 f659184 n659185 hmq659174 hmq659175 hmq659176 hmq659177 heq659174 heq659175 heq659176 heq659177 hneq659176q659177 bp659178 bp659179 bp659181 bf659182 bf659184 (by have qa0 : Int32.toInt 0 = 0 := (by decide); omega) (by have qa0 : Int32.toInt 0 = 0 := (by decide); omega) (by have qa0 : Int32.toInt 0 = 0 := (by decide); omega)) dr_cJ4_append_15ec4_2 ⟨wr_8_144, wr_1_19, wr_8_146, by decide, rfl, (Nat.le_of_ble_eq_true rfl), (Nat.le_of_ble_eq_true rfl)⟩ wr_8_145 wr_11_229 wr_7_73 wr_7_44 (by decide) hmq659174 heq659174 rfl (show 0 + 0 ≤ 0 by first | omega | decide) (show 0 + 0 ≤ 0 by first | omega | decide) (Nat.le_of_ble_eq_true rfl) (fun r659384 w659385 dc659381 ds659382 hp659383 => ?_)
  obtain ⟨F659392, o659386, f659387, rfl, rfl, hfr659394, he659395, he659396, he659397, he659398, hdc, hds, bo659386, bf659387, x659388, x659389, x659390, ht659391⟩ := hp659383
  have hfr659399 : rFr [q659174, q659176] P659172 F659173 F659392 := rFr_call (rSub_rf (P := P659172)) (rFr_rf (W := []) (P := P659172) (F := F659173)) hfr659394 (fun b hb hn => ⟨nm_n, (nm_c (fun e => hn (e ▸ List.mem_cons_self)) (nm_c (fun e => hn (e ▸ (List.mem_cons_of_mem _ List.mem_cons_self))) nm_n))⟩)
  change G _ _ _ _ _ _ _ (.ref q659174 :: _) _ _ _
  refine G_widen (cs' := 0) (sl' := 0) (by omega) (by omega) ?_
  refine G_pop dr_cJ4_append_15ec4_5 rfl ?_
  refine G_aload_n 0 dr_cJ4_append_15ec4_6 rfl ?_
  exact G_aretA (FieldType.object "java/lang/StringBuilder") dr_cJ4_append_15ec4_7 rfl (by first | exact Or.inl ⟨_, rfl⟩ | exact Or.inr ⟨_, rfl⟩) (Or.inr ⟨_, rfl⟩) (Nat.le_of_ble_eq_true rfl) (Nat.le_of_ble_eq_true rfl) ⟨F659392, o659386, f659387, rfl, rfl, hfr659399, he659395, he659396, he659397, he659398, (Nat.le_of_ble_eq_true rfl), (Nat.le_of_ble_eq_true rfl), bo659386, bf659387, (by have qa0 : Int32.toInt 0 = 0 := (by decide); omega), (sK_c x659389 (by omega)), (by assumption), (fun R c1 => c1 o659386 f659387 bo659386 ht659391)⟩
abbrev ky_659444_String_coder : gKey := (cJ0_coder_7d493, 1, "java/lang/String", (some FieldType.byte), [], "coder", fun _ _ => True)
def pp_659444_String_coder (D : va_G) (I : FieldType → ClassId) (P659439 : List Nat) (F659440 : Nat → va_E) (qs659441 : Nat) (qb659442 : Nat) (bs659443 : List Int32) : Option Value → va_W → Nat → Nat → Prop := fun r w dc ds => r = some (.int 0) ∧ w = va_pl P659439 F659440 ∧ dc ≤ 0 ∧ ds ≤ 0
set_option maxRecDepth 100000 in
set_option maxHeartbeats 4000000 in
theorem cp_659444_String_coder (l : Launch) (hl0 : l.stackTraces = false) (D : va_G) (I : FieldType → ClassId) (P659439 : List Nat) (F659440 : Nat → va_E) (qs659441 : Nat) (qb659442 : Nat) (bs659443 : List Int32) (hbs659443 : ∀ A s H, (gV D I).2.2.2.1 A s H → gSC qs659441 qb659442 bs659443 A s H) (nbs659443 : (bs659443.length : Int) ≤ 65535) (lbs659443 : gLB bs659443) : CtA (gV D I) l yJ0_coder_7d493 cJ0_coder_7d493 1 (some FieldType.byte) 0 0 0 0 [.ref qs659441] (va_pl P659439 F659440) (pp_659444_String_coder D I P659439 F659440 qs659441 qb659442 bs659443) gNA := by
  refine CtA_ofF hl0 (by decide +kernel) (Nat.le_of_ble_eq_true rfl) ?_
  refine G_gets dr_cJ0_coder_7d493_0 wr_3_65 gz_cs (fun x hx => ?_)
  subst hx
  refine G_if_eq 13 dr_cJ0_coder_7d493_3 (by decide +kernel) (fun hc => absurd hc (by decide)) (fun _ => ?_)
  refine G_aload_n 0 dr_cJ0_coder_7d493_6 rfl ?_
  refine G_kget dr_cJ0_coder_7d493_7 wr_8_183 (fun _ _ _ h => (hbs659443 _ _ _ h).2.1) ?_
  refine G_goto 14 dr_cJ0_coder_7d493_10 (by decide +kernel) ?_
  exact G_zretA FieldType.byte dr_cJ0_coder_7d493_14 rfl rfl (Nat.le_of_ble_eq_true rfl) (Nat.le_of_ble_eq_true rfl) ⟨rfl, rfl, (Nat.le_of_ble_eq_true rfl), (Nat.le_of_ble_eq_true rfl)⟩
/- tr_RString_length2: result -/
def tr_RString_length2 (bs : List Int32) (o1 : Int32) : Prop := ∀ R : (Int32) → Prop,
  (∀ (x1 : Int32) (x2 : Int32), x1.toInt = (bs.length : Int) → x2.toInt = x1.toInt / 1 → R x2) →
  R o1
abbrev ky_659437_String_length : gKey := (cJ0_length_8abf5, 1, "java/lang/String", (some FieldType.int), [], "length", fun _ _ => True)
def pp_659437_String_length (D : va_G) (I : FieldType → ClassId) (P659432 : List Nat) (F659433 : Nat → va_E) (qs659434 : Nat) (qb659435 : Nat) (bs659436 : List Int32) : Option Value → va_W → Nat → Nat → Prop := fun r w dc ds => ∃ (o659451 : Int32), r = some (.int o659451) ∧ w = va_pl P659432 F659433 ∧ dc ≤ 0 ∧ ds ≤ 0 ∧ gB o659451 0 65535 ∧ o659451.toInt = (bs659436.length : Int) ∧ tr_RString_length2 bs659436 o659451
set_option maxRecDepth 100000 in
set_option maxHeartbeats 4000000 in
theorem cp_659437_String_length (l : Launch) (hl0 : l.stackTraces = false) (D : va_G) (I : FieldType → ClassId) (P659432 : List Nat) (F659433 : Nat → va_E) (qs659434 : Nat) (qb659435 : Nat) (bs659436 : List Int32) (hbs659436 : ∀ A s H, (gV D I).2.2.2.1 A s H → gSC qs659434 qb659435 bs659436 A s H) (nbs659436 : (bs659436.length : Int) ≤ 65535) (lbs659436 : gLB bs659436) : CtA (gV D I) l yJ0_length_8abf5 cJ0_length_8abf5 1 (some FieldType.int) 1 20 0 0 [.ref qs659434] (va_pl P659432 F659433) (pp_659437_String_length D I P659432 F659433 qs659434 qb659435 bs659436) gNA := by
  refine CtA_ofF hl0 (by decide +kernel) (Nat.le_of_ble_eq_true rfl) ?_
  refine G_aload_n 0 dr_cJ0_length_8abf5_0 rfl ?_
  refine G_kget dr_cJ0_length_8abf5_1 wr_8_182 (fun _ _ _ h => (hbs659436 _ _ _ h).2.2.1) ?_
  refine G_klen dr_cJ0_length_8abf5_4 (fun _ _ _ h => (hbs659436 _ _ _ h).2.2.2) (G_nam fun z659438 hz659438 => ?_)
  have ez659438 : z659438.toInt = (bs659436.length : Int) := gI_ofN hz659438 (by omega)
  have bz659438 : gB z659438 0 65535 := ⟨by omega, by omega⟩
  refine G_aload_n 0 dr_cJ0_length_8abf5_5 rfl ?_
  refine Gw_callVk (As := []) (gV_ok D I) (cp_659444_String_coder l hl0 D I P659432 F659433 qs659434 qb659435 bs659436 hbs659436 nbs659436 lbs659436) dr_cJ0_length_8abf5_6 ⟨wr_3_61, wr_1_21, wr_3_64, by decide, rfl, (Nat.le_of_ble_eq_true rfl), (Nat.le_of_ble_eq_true rfl)⟩ wr_3_62 wr_3_63 (fun _ _ _ h => (hbs659436 _ _ _ h).1) (show 0 + 0 ≤ 0 by first | omega | decide) (show 0 + 0 ≤ 0 by first | omega | decide) (Nat.le_of_ble_eq_true rfl) (fun r659448 w659449 dc659445 ds659446 hp659447 => ?_) (fun _ _ _ _ _ z => z.elim)
  obtain ⟨rfl, rfl, hdc, hds⟩ := hp659447
  change G _ _ _ _ _ _ _ (.int 0 :: _) _ _ _
  refine G_widen (cs' := 0) (sl' := 0) (by omega) (by omega) ?_
  refine G_ishr dr_cJ0_length_8abf5_9 (G_nam fun z659450 hz659450 => ?_)
  have ez659450 : z659450.toInt = z659438.toInt / 1 := gI_shr (k := 0) hz659450 (by decide)
  have bz659450 : gB z659450 0 65535 := ⟨by omega, by omega⟩
  exact G_iretA dr_cJ0_length_8abf5_10 rfl (Nat.le_of_ble_eq_true rfl) (Nat.le_of_ble_eq_true rfl) ⟨z659450, rfl, rfl, (Nat.le_of_ble_eq_true rfl), (Nat.le_of_ble_eq_true rfl), bz659450, (by omega), (fun R c1 => c1 z659438 z659450 ez659438 ez659450)⟩
abbrev ky_659494_AbstractStringBuilder_inflateIfNeededFor : gKey := (cJ5_inflateIfNeededFor_a7421, 2, "java/lang/AbstractStringBuilder", none, [], "inflateIfNeededFor", fun _ _ => True)
def pp_659494_AbstractStringBuilder_inflateIfNeededFor (D : va_G) (I : FieldType → ClassId) (P659482 : List Nat) (F659483 : Nat → va_E) (q659484 : Nat) (q659485 : Nat) (qs659486 : Nat) (qb659487 : Nat) (bs659488 : List Int32) (p659489 : Int32) (p659490 : Int32) (f659491 : Nat → Int32) (n659492 : Nat) : Option Value → va_W → Nat → Nat → Prop := fun r w dc ds => r = none ∧ w = va_pl P659482 F659483 ∧ dc ≤ 0 ∧ ds ≤ 0
set_option maxRecDepth 100000 in
set_option maxHeartbeats 4000000 in
theorem cp_659494_AbstractStringBuilder_inflateIfNeededFor (l : Launch) (hl0 : l.stackTraces = false) (D : va_G) (I : FieldType → ClassId) (P659482 : List Nat) (F659483 : Nat → va_E) (q659484 : Nat) (q659485 : Nat) (qs659486 : Nat) (qb659487 : Nat) (bs659488 : List Int32) (p659489 : Int32) (p659490 : Int32) (f659491 : Nat → Int32) (n659492 : Nat) (hmq659484 : q659484 ∈ P659482) (hmq659485 : q659485 ∈ P659482) (heq659484 : F659483 q659484 = .inr (1, [.ref q659485, .int 0, .int p659489, .int p659490])) (heq659485 : F659483 q659485 = .inl (I .byte, n659492, .inl f659491)) (hbs659488 : ∀ A s H, (gV D I).2.2.2.1 A s H → gSC qs659486 qb659487 bs659488 A s H) (nbs659488 : (bs659488.length : Int) ≤ 65535) (lbs659488 : gLB bs659488) (bp659489 : gB p659489 0 1) (bp659490 : gB p659490 0 16777216) (bf659491 : gF f659491 (-128) 127) (x659493 : ((n659492 : Int) ≤ 16777216)) : CtA (gV D I) l yJ5_inflateIfNeededFor_a7421 cJ5_inflateIfNeededFor_a7421 2 none 1 20 0 0 [.ref q659484, .ref qs659486] (va_pl P659482 F659483) (pp_659494_AbstractStringBuilder_inflateIfNeededFor D I P659482 F659483 q659484 q659485 qs659486 qb659487 bs659488 p659489 p659490 f659491 n659492) gNA := by
  refine CtA_ofF hl0 (by decide +kernel) (Nat.le_of_ble_eq_true rfl) ?_
  refine G_gets dr_cJ5_inflateIfNeededFor_a7421_0 wr_7_52 gz_cs (fun x hx => ?_)
  subst hx
  refine G_if_eq 21 dr_cJ5_inflateIfNeededFor_a7421_3 (by decide +kernel) (fun hc => absurd hc (by decide)) (fun _ => ?_)
  refine G_aload_n 0 dr_cJ5_inflateIfNeededFor_a7421_6 rfl ?_
  refine Gp_get 1 hmq659484 heq659484 dr_cJ5_inflateIfNeededFor_a7421_7 (gk_J4 D I) (Nat.le_of_ble_eq_true rfl) wr_7_61 rfl ?_
  refine G_aload_n 1 dr_cJ5_inflateIfNeededFor_a7421_10 rfl ?_
  refine Gw_callVk (As := []) (gV_ok D I) (cp_659444_String_coder l hl0 D I P659482 F659483 qs659486 qb659487 bs659488 hbs659488 nbs659488 lbs659488) dr_cJ5_inflateIfNeededFor_a7421_11 ⟨wr_8_163, wr_1_21, wr_3_64, by decide, rfl, (Nat.le_of_ble_eq_true rfl), (Nat.le_of_ble_eq_true rfl)⟩ wr_3_62 wr_3_63 (fun _ _ _ h => (hbs659488 _ _ _ h).1) (show 0 + 0 ≤ 0 by first | omega | decide) (show 0 + 0 ≤ 0 by first | omega | decide) (Nat.le_of_ble_eq_true rfl) (fun r659498 w659499 dc659495 ds659496 hp659497 => ?_) (fun _ _ _ _ _ z => z.elim)
  obtain ⟨rfl, rfl, hdc, hds⟩ := hp659497
  change G _ _ _ _ _ _ _ (.int 0 :: _) _ _ _
  refine G_widen (cs' := 0) (sl' := 0) (by omega) (by omega) ?_
  refine G_icmp_eq 21 dr_cJ5_inflateIfNeededFor_a7421_14 (by decide +kernel) (fun _ => ?_) (fun hc => absurd hc (by decide))
  exact G_vretA dr_cJ5_inflateIfNeededFor_a7421_21 rfl (Nat.le_of_ble_eq_true rfl) (Nat.le_of_ble_eq_true rfl) ⟨rfl, rfl, (Nat.le_of_ble_eq_true rfl), (Nat.le_of_ble_eq_true rfl)⟩
/- tr_RString_getBytes2: a.1.[] -/
def tr_RString_getBytes2 (bs : List Int32) (a2 : Int32) (a1_v : Nat → Int32) (o1 : Nat → Int32) : Prop := ∀ R : (Nat → Int32) → Prop,
  (∀ (x1 : Int32) (x2 : Int32) (x3 : Nat → Int32), x1.toInt = a2.toInt * 1 → x2.toInt = (bs.length : Int) → (x3 = va_cpy (fun j => bs.getD j 0) a1_v (0 : Int32).toNatClampNeg x1.toNatClampNeg x2.toNatClampNeg) → R x3) →
  R o1
abbrev ky_659516_String_getBytes : gKey := (cJ0_getBytes_840e7, 4, "java/lang/String", none, [], "getBytes", fun _ _ => True)
def pp_659516_String_getBytes (D : va_G) (I : FieldType → ClassId) (P659505 : List Nat) (F659506 : Nat → va_E) (q659507 : Nat) (qs659508 : Nat) (qb659509 : Nat) (bs659510 : List Int32) (p659511 : Int32) (f659512 : Nat → Int32) (n659513 : Nat) : Option Value → va_W → Nat → Nat → Prop := fun r w dc ds => ∃ (F659532 : Nat → va_E) (f659530 : Nat → Int32), r = none ∧ w = va_pl P659505 F659532 ∧ rFr [q659507] P659505 F659506 F659532 ∧ F659532 q659507 = .inl (I .byte, n659513, .inl f659530) ∧ dc ≤ 0 ∧ ds ≤ 0 ∧ gF f659530 (-128) 127 ∧ sK f659512 f659530 p659511.toInt ∧ sF (fun j => bs659510.getD j 0) f659530 p659511.toInt (bs659510.length : Int) ∧ tr_RString_getBytes2 bs659510 p659511 f659512 f659530
set_option maxRecDepth 100000 in
set_option maxHeartbeats 4000000 in
theorem cp_659516_String_getBytes (l : Launch) (hl0 : l.stackTraces = false) (D : va_G) (I : FieldType → ClassId) (P659505 : List Nat) (F659506 : Nat → va_E) (q659507 : Nat) (qs659508 : Nat) (qb659509 : Nat) (bs659510 : List Int32) (p659511 : Int32) (f659512 : Nat → Int32) (n659513 : Nat) (hmq659507 : q659507 ∈ P659505) (heq659507 : F659506 q659507 = .inl (I .byte, n659513, .inl f659512)) (hbs659510 : ∀ A s H, (gV D I).2.2.2.1 A s H → gSC qs659508 qb659509 bs659510 A s H) (nbs659510 : (bs659510.length : Int) ≤ 65535) (lbs659510 : gLB bs659510) (bp659511 : gB p659511 0 16777216) (bf659512 : gF f659512 (-128) 127) (x659514 : p659511.toInt + (bs659510.length : Int) ≤ (n659513 : Int)) (x659515 : ((n659513 : Int) ≤ 16777216)) : CtA (gV D I) l yJ0_getBytes_840e7 cJ0_getBytes_840e7 4 none 1 20 0 0 [.ref qs659508, .ref q659507, .int p659511, .int 0] (va_pl P659505 F659506) (pp_659516_String_getBytes D I P659505 F659506 q659507 qs659508 qb659509 bs659510 p659511 f659512 n659513) gNA := by
  refine CtA_ofF hl0 (by decide +kernel) (Nat.le_of_ble_eq_true rfl) ?_
  refine G_aload_n 0 dr_cJ0_getBytes_840e7_0 rfl ?_
  refine Gw_callVk (As := []) (gV_ok D I) (cp_659444_String_coder l hl0 D I P659505 F659506 qs659508 qb659509 bs659510 hbs659510 nbs659510 lbs659510) dr_cJ0_getBytes_840e7_1 ⟨wr_3_61, wr_1_21, wr_3_64, by decide, rfl, (Nat.le_of_ble_eq_true rfl), (Nat.le_of_ble_eq_true rfl)⟩ wr_3_62 wr_3_63 (fun _ _ _ h => (hbs659510 _ _ _ h).1) (show 0 + 0 ≤ 0 by first | omega | decide) (show 0 + 0 ≤ 0 by first | omega | decide) (Nat.le_of_ble_eq_true rfl) (fun r659520 w659521 dc659517 ds659518 hp659519 => ?_) (fun _ _ _ _ _ z => z.elim)
  obtain ⟨rfl, rfl, hdc, hds⟩ := hp659519
  change G _ _ _ _ _ _ _ (.int 0 :: _) _ _ _
  refine G_widen (cs' := 0) (sl' := 0) (by omega) (by omega) ?_
  refine G_iload_n 3 dr_cJ0_getBytes_840e7_4 rfl ?_
  refine G_icmp_ne 28 dr_cJ0_getBytes_840e7_5 (by decide +kernel) (fun hc => absurd hc (by decide)) (fun _ => ?_)
  refine G_aload_n 0 dr_cJ0_getBytes_840e7_8 rfl ?_
  refine G_kget dr_cJ0_getBytes_840e7_9 wr_8_182 (fun _ _ _ h => (hbs659510 _ _ _ h).2.2.1) ?_
  refine G_iconst 0 dr_cJ0_getBytes_840e7_12 (by decide +kernel) ?_
  refine G_aload_n 1 dr_cJ0_getBytes_840e7_13 rfl ?_
  refine G_iload_n 2 dr_cJ0_getBytes_840e7_14 rfl ?_
  refine G_iload_n 3 dr_cJ0_getBytes_840e7_15 rfl ?_
  refine G_ishl dr_cJ0_getBytes_840e7_16 (G_nam fun z659522 hz659522 => ?_)
  have ez659522 : z659522.toInt = p659511.toInt * 1 := gI_shl (k := 0) hz659522 (by decide) bp659511 (by decide) (by decide)
  have bz659522 : gB z659522 0 16777216 := ⟨by omega, by omega⟩
  refine G_aload_n 0 dr_cJ0_getBytes_840e7_17 rfl ?_
  refine G_kget dr_cJ0_getBytes_840e7_18 wr_8_182 (fun _ _ _ h => (hbs659510 _ _ _ h).2.2.1) ?_
  refine G_klen dr_cJ0_getBytes_840e7_21 (fun _ _ _ h => (hbs659510 _ _ _ h).2.2.2) (G_nam fun z659523 hz659523 => ?_)
  have ez659523 : z659523.toInt = (bs659510.length : Int) := gI_ofN hz659523 (by omega)
  have bz659523 : gB z659523 0 65535 := ⟨by omega, by omega⟩
  refine Gp_copyK 1 (fun _ _ _ h => (hbs659510 _ _ _ h).2.2.2) hmq659507 heq659507 dr_cJ0_getBytes_840e7_22 wr_8_168 wr_5_113 wr_5_112 wr_1_34 rfl (gF_lst lbs659510) (by decide) (by omega) (by omega) (by have qa0 : Int32.toInt 0 = 0 := (by decide); omega) (by have qa0 : Int32.toInt 0 = 0 := (by decide); omega) (Nat.le_of_ble_eq_true rfl) (Nat.le_of_ble_eq_true rfl) (fun F659524 e659525 n659526 => ?_)
  obtain ⟨f659527, hf659527⟩ : ∃ z, z = va_cpy (fun j => bs659510.getD j 0) f659512 (0 : Int32).toNatClampNeg z659522.toNatClampNeg z659523.toNatClampNeg := ⟨_, rfl⟩
  rw [← hf659527] at e659525
  have bf659527 : gF f659527 (-128) 127 := gF_cpy hf659527 (gF_lst lbs659510) bf659512
  have he659528 : F659524 q659507 = .inl (I .byte, n659513, .inl f659527) := e659525
  have hfr659529 : rFr [q659507] P659505 F659506 F659524 := rFr_put (rFr_rf (W := []) (P := P659505) (F := F659506)) n659526
  refine G_goto 43 dr_cJ0_getBytes_840e7_25 (by decide +kernel) ?_
  exact G_vretA dr_cJ0_getBytes_840e7_43 rfl (Nat.le_of_ble_eq_true rfl) (Nat.le_of_ble_eq_true rfl) ⟨F659524, f659527, rfl, rfl, hfr659529, he659528, (Nat.le_of_ble_eq_true rfl), (Nat.le_of_ble_eq_true rfl), bf659527, (sK_cpy hf659527 (by omega)), (sF_cpy hf659527 (by decide) (by omega) (by omega)), (fun R c1 => c1 z659522 z659523 f659527 ez659522 ez659523 hf659527)⟩
/- tr_RAbstractStringBuilder_putStringAt2: a.0.value.[] -/
def tr_RAbstractStringBuilder_putStringAt2 (a1 : Int32) (bs : List Int32) (a0_value_v : Nat → Int32) (o1 : Nat → Int32) : Prop := ∀ R : (Nat → Int32) → Prop,
  (∀ (x1 : Nat → Int32), tr_RString_getBytes2 bs a1 a0_value_v x1 → R x1) →
  R o1
abbrev ky_659481_AbstractStringBuilder_putStringAt : gKey := (cJ5_putStringAt_47b60, 3, "java/lang/AbstractStringBuilder", none, [], "putStringAt", fun _ _ => True)
def pp_659481_AbstractStringBuilder_putStringAt (D : va_G) (I : FieldType → ClassId) (P659467 : List Nat) (F659468 : Nat → va_E) (q659469 : Nat) (q659470 : Nat) (p659471 : Int32) (qs659472 : Nat) (qb659473 : Nat) (bs659474 : List Int32) (p659475 : Int32) (p659476 : Int32) (f659477 : Nat → Int32) (n659478 : Nat) : Option Value → va_W → Nat → Nat → Prop := fun r w dc ds => ∃ (F659550 : Nat → va_E) (f659548 : Nat → Int32), r = none ∧ w = va_pl P659467 F659550 ∧ rFr [q659470] P659467 F659468 F659550 ∧ F659550 q659469 = .inr (1, [.ref q659470, .int 0, .int p659475, .int p659476]) ∧ F659550 q659470 = .inl (I .byte, n659478, .inl f659548) ∧ dc ≤ 0 ∧ ds ≤ 0 ∧ gF f659548 (-128) 127 ∧ sK f659477 f659548 p659471.toInt ∧ sF (fun j => bs659474.getD j 0) f659548 p659471.toInt (bs659474.length : Int) ∧ tr_RAbstractStringBuilder_putStringAt2 p659471 bs659474 f659477 f659548
set_option maxRecDepth 100000 in
set_option maxHeartbeats 4000000 in
theorem cp_659481_AbstractStringBuilder_putStringAt (l : Launch) (hl0 : l.stackTraces = false) (D : va_G) (I : FieldType → ClassId) (P659467 : List Nat) (F659468 : Nat → va_E) (q659469 : Nat) (q659470 : Nat) (p659471 : Int32) (qs659472 : Nat) (qb659473 : Nat) (bs659474 : List Int32) (p659475 : Int32) (p659476 : Int32) (f659477 : Nat → Int32) (n659478 : Nat) (hmq659469 : q659469 ∈ P659467) (hmq659470 : q659470 ∈ P659467) (heq659469 : F659468 q659469 = .inr (1, [.ref q659470, .int 0, .int p659475, .int p659476])) (heq659470 : F659468 q659470 = .inl (I .byte, n659478, .inl f659477)) (hbs659474 : ∀ A s H, (gV D I).2.2.2.1 A s H → gSC qs659472 qb659473 bs659474 A s H) (nbs659474 : (bs659474.length : Int) ≤ 65535) (lbs659474 : gLB bs659474) (bp659471 : gB p659471 0 16777216) (bp659475 : gB p659475 0 1) (bp659476 : gB p659476 0 16777216) (bf659477 : gF f659477 (-128) 127) (x659479 : p659471.toInt + (bs659474.length : Int) ≤ (n659478 : Int)) (x659480 : ((n659478 : Int) ≤ 16777216)) : CtA (gV D I) l yJ5_putStringAt_47b60 cJ5_putStringAt_47b60 3 none 2 43 0 0 [.ref q659469, .int p659471, .ref qs659472] (va_pl P659467 F659468) (pp_659481_AbstractStringBuilder_putStringAt D I P659467 F659468 q659469 q659470 p659471 qs659472 qb659473 bs659474 p659475 p659476 f659477 n659478) gNA := by
  refine CtA_ofF hl0 (by decide +kernel) (Nat.le_of_ble_eq_true rfl) ?_
  refine G_aload_n 0 dr_cJ5_putStringAt_47b60_0 rfl ?_
  refine G_aload_n 2 dr_cJ5_putStringAt_47b60_1 rfl ?_
  refine Gw_callVB (As := [.ref qs659472]) (gV_ok D I) (cp_659494_AbstractStringBuilder_inflateIfNeededFor l hl0 D I P659467 F659468 q659469 q659470 qs659472 qb659473 bs659474 p659475 p659476 f659477 n659478 hmq659469 hmq659470 heq659469 heq659470 hbs659474 nbs659474 lbs659474 bp659475 bp659476 bf659477 (by have qa0 : Int32.toInt 0 = 0 := (by decide); omega)) dr_cJ5_putStringAt_47b60_2 ⟨wr_8_159, wr_1_19, wr_8_162, by decide, rfl, (Nat.le_of_ble_eq_true rfl), (Nat.le_of_ble_eq_true rfl)⟩ wr_8_161 wr_s_5 hmq659469 heq659469 rfl (show 0 + 0 ≤ 0 by first | omega | decide) (show 0 + 0 ≤ 0 by first | omega | decide) (Nat.le_of_ble_eq_true rfl) (fun r659503 w659504 dc659500 ds659501 hp659502 => ?_) (fun _ _ _ _ _ z => z.elim)
  obtain ⟨rfl, rfl, hdc, hds⟩ := hp659502
  change G _ _ _ _ _ _ _ _ _ _ _
  refine G_widen (cs' := 0) (sl' := 0) (by omega) (by omega) ?_
  refine G_aload_n 2 dr_cJ5_putStringAt_47b60_5 rfl ?_
  refine G_aload_n 0 dr_cJ5_putStringAt_47b60_6 rfl ?_
  refine Gp_get 0 hmq659469 heq659469 dr_cJ5_putStringAt_47b60_7 (gk_J4 D I) (Nat.le_of_ble_eq_true rfl) wr_7_60 rfl ?_
  refine G_iload_n 1 dr_cJ5_putStringAt_47b60_10 rfl ?_
  refine G_aload_n 0 dr_cJ5_putStringAt_47b60_11 rfl ?_
  refine Gp_get 1 hmq659469 heq659469 dr_cJ5_putStringAt_47b60_12 (gk_J4 D I) (Nat.le_of_ble_eq_true rfl) wr_7_61 rfl ?_
  refine Gw_callVk (As := [.ref q659470, .int p659471, .int 0]) (gV_ok D I) (cp_659516_String_getBytes l hl0 D I P659467 F659468 q659470 qs659472 qb659473 bs659474 p659471 f659477 n659478 hmq659470 heq659470 hbs659474 nbs659474 lbs659474 bp659471 bf659477 (by have qa0 : Int32.toInt 0 = 0 := (by decide); omega) (by have qa0 : Int32.toInt 0 = 0 := (by decide); omega)) dr_cJ5_putStringAt_47b60_15 ⟨wr_8_164, wr_1_21, wr_8_167, by decide, rfl, (Nat.le_of_ble_eq_true rfl), (Nat.le_of_ble_eq_true rfl)⟩ wr_8_165 wr_8_166 (fun _ _ _ h => (hbs659474 _ _ _ h).1) (show 0 + 0 ≤ 0 by first | omega | decide) (show 0 + 0 ≤ 0 by first | omega | decide) (Nat.le_of_ble_eq_true rfl) (fun r659536 w659537 dc659533 ds659534 hp659535 => ?_) (fun _ _ _ _ _ z => z.elim)
  obtain ⟨F659542, f659538, rfl, rfl, hfr659544, he659545, hdc, hds, bf659538, x659539, x659540, ht659541⟩ := hp659535
  have he659546 : F659542 q659469 = .inr (1, [.ref q659470, .int 0, .int p659475, .int p659476]) := (hfr659544 q659469 hmq659469 (nm_c (rn_oa heq659469 heq659470) nm_n)).trans heq659469
  have hfr659547 : rFr [q659470] P659467 F659468 F659542 := rFr_call (rSub_rf (P := P659467)) (rFr_rf (W := []) (P := P659467) (F := F659468)) hfr659544 (fun b hb hn => ⟨nm_n, (nm_c (fun e => hn (e ▸ List.mem_cons_self)) nm_n)⟩)
  change G _ _ _ _ _ _ _ _ _ _ _
  refine G_widen (cs' := 0) (sl' := 0) (by omega) (by omega) ?_
  exact G_vretA dr_cJ5_putStringAt_47b60_18 rfl (Nat.le_of_ble_eq_true rfl) (Nat.le_of_ble_eq_true rfl) ⟨F659542, f659538, rfl, rfl, hfr659547, he659546, he659545, (Nat.le_of_ble_eq_true rfl), (Nat.le_of_ble_eq_true rfl), bf659538, (sK_c x659539 (by omega)), (by assumption), (fun R c1 => c1 f659538 ht659541)⟩
/- tr_RAbstractStringBuilder_append4: a.0...count, a.0.value.[] -/
def tr_RAbstractStringBuilder_append4 (bs : List Int32) (a0_count : Int32) (a0_value_v : Nat → Int32) (a0_value_n : Nat) (o1 : Int32) (o2 : Nat → Int32) : Prop := ∀ R : (Int32) → (Nat → Int32) → Prop,
  (∀ (x1 : Int32) (x2 : Int32) (x3 : Nat → Int32) (x4 : Int32), gB x1 0 65535 → tr_RString_length2 bs x1 → x2.toInt = a0_count.toInt + x1.toInt → tr_RAbstractStringBuilder_ensureCapacityInternal x2 a0_value_n → tr_RAbstractStringBuilder_putStringAt2 a0_count bs a0_value_v x3 → x4.toInt = a0_count.toInt + x1.toInt → R x4 x3) →
  R o1 o2
abbrev ky_659431_AbstractStringBuilder_append : gKey := (cJ5_append_cf1ce, 3, "java/lang/AbstractStringBuilder", (some (FieldType.object "java/lang/AbstractStringBuilder")), [], "append", fun _ _ => True)
def pp_659431_AbstractStringBuilder_append (D : va_G) (I : FieldType → ClassId) (P659418 : List Nat) (F659419 : Nat → va_E) (q659420 : Nat) (q659421 : Nat) (qs659422 : Nat) (qb659423 : Nat) (bs659424 : List Int32) (p659425 : Int32) (p659426 : Int32) (f659427 : Nat → Int32) (n659428 : Nat) : Option Value → va_W → Nat → Nat → Prop := fun r w dc ds => ∃ (F659576 : Nat → va_E) (o659573 : Int32) (f659574 : Nat → Int32), r = some (.ref q659420) ∧ w = va_pl P659418 F659576 ∧ rFr [q659420, q659421] P659418 F659419 F659576 ∧ F659576 q659420 = .inr (1, [.ref q659421, .int 0, .int p659425, .int o659573]) ∧ F659576 q659421 = .inl (I .byte, n659428, .inl f659574) ∧ dc ≤ 0 ∧ ds ≤ 0 ∧ gB o659573 0 16777216 ∧ gF f659574 (-128) 127 ∧ o659573.toInt = p659426.toInt + (bs659424.length : Int) ∧ sK f659427 f659574 p659426.toInt ∧ sF (fun j => bs659424.getD j 0) f659574 p659426.toInt (bs659424.length : Int) ∧ tr_RAbstractStringBuilder_append4 bs659424 p659426 f659427 n659428 o659573 f659574
set_option maxRecDepth 100000 in
set_option maxHeartbeats 4000000 in
theorem cp_659431_AbstractStringBuilder_append (l : Launch) (hl0 : l.stackTraces = false) (D : va_G) (I : FieldType → ClassId) (P659418 : List Nat) (F659419 : Nat → va_E) (q659420 : Nat) (q659421 : Nat) (qs659422 : Nat) (qb659423 : Nat) (bs659424 : List Int32) (p659425 : Int32) (p659426 : Int32) (f659427 : Nat → Int32) (n659428 : Nat) (hmq659420 : q659420 ∈ P659418) (hmq659421 : q659421 ∈ P659418) (heq659420 : F659419 q659420 = .inr (1, [.ref q659421, .int 0, .int p659425, .int p659426])) (heq659421 : F659419 q659421 = .inl (I .byte, n659428, .inl f659427)) (hbs659424 : ∀ A s H, (gV D I).2.2.2.1 A s H → gSC qs659422 qb659423 bs659424 A s H) (nbs659424 : (bs659424.length : Int) ≤ 65535) (lbs659424 : gLB bs659424) (bp659425 : gB p659425 0 1) (bp659426 : gB p659426 0 16777216) (bf659427 : gF f659427 (-128) 127) (x659429 : p659426.toInt + (bs659424.length : Int) ≤ (n659428 : Int)) (x659430 : ((n659428 : Int) ≤ 16777216)) : CtA (gV D I) l yJ5_append_cf1ce cJ5_append_cf1ce 3 (some (FieldType.object "java/lang/AbstractStringBuilder")) 3 65 0 0 [.ref q659420, .ref qs659422] (va_pl P659418 F659419) (pp_659431_AbstractStringBuilder_append D I P659418 F659419 q659420 q659421 qs659422 qb659423 bs659424 p659425 p659426 f659427 n659428) gNA := by
  refine CtA_ofF hl0 (by decide +kernel) (Nat.le_of_ble_eq_true rfl) ?_
  refine G_aload_n 1 dr_cJ5_append_cf1ce_0 rfl ?_
  refine G_ifnonnull 9 dr_cJ5_append_cf1ce_1 (by decide +kernel) ?_
  refine G_aload_n 1 dr_cJ5_append_cf1ce_9 rfl ?_
  refine Gw_callVk (As := []) (gV_ok D I) (cp_659437_String_length l hl0 D I P659418 F659419 qs659422 qb659423 bs659424 hbs659424 nbs659424 lbs659424) dr_cJ5_append_cf1ce_10 ⟨wr_8_154, wr_1_21, wr_3_60, by decide, rfl, (Nat.le_of_ble_eq_true rfl), (Nat.le_of_ble_eq_true rfl)⟩ wr_3_58 wr_3_59 (fun _ _ _ h => (hbs659424 _ _ _ h).1) (show 0 + 0 ≤ 0 by first | omega | decide) (show 0 + 0 ≤ 0 by first | omega | decide) (Nat.le_of_ble_eq_true rfl) (fun r659455 w659456 dc659452 ds659453 hp659454 => ?_) (fun _ _ _ _ _ z => z.elim)
  obtain ⟨o659457, rfl, rfl, hdc, hds, bo659457, x659458, ht659459⟩ := hp659454
  change G _ _ _ _ _ _ _ (.int o659457 :: _) _ _ _
  refine G_widen (cs' := 0) (sl' := 0) (by omega) (by omega) ?_
  refine G_istore_n (L' := [(2, .int o659457), (0, .ref q659420), (1, .ref qs659422)]) dr_cJ5_append_cf1ce_13 (Nat.le_of_ble_eq_true rfl) rfl ?_
  refine G_aload_n 1 dr_cJ5_append_cf1ce_14 rfl ?_
  refine G_aload_n 1 dr_cJ5_append_cf1ce_15 rfl ?_
  refine Gp_get 3 hmq659420 heq659420 dr_cJ5_append_cf1ce_16 (gk_J4 D I) (Nat.le_of_ble_eq_true rfl) wr_7_64 rfl ?_
  refine G_iload_n 0 dr_cJ5_append_cf1ce_19 rfl ?_
  refine G_iadd dr_cJ5_append_cf1ce_20 (G_nam fun z659460 hz659460 => ?_)
  have ez659460 : z659460.toInt = p659426.toInt + o659457.toInt := by rw [gI_add hz659460 bp659426 bo659457 (by decide) (by decide)]
  have bz659460 : gB z659460 0 16842751 := gB_add (gI_add hz659460 bp659426 bo659457 (by decide) (by decide)) bp659426 bo659457 (by decide) (by decide)
  refine Gw_callVB (As := [.int z659460]) (gV_ok D I) (cp_658701_AbstractStringBuilder_ensureCapacityInternal l hl0 D I P659418 F659419 q659420 q659421 z659460 p659425 p659426 f659427 n659428 hmq659420 hmq659421 heq659420 heq659421 ⟨by omega, by omega⟩ bp659425 bp659426 bf659427 (by have qa0 : Int32.toInt 0 = 0 := (by decide); omega) (by have qa0 : Int32.toInt 0 = 0 := (by decide); omega)) dr_cJ5_append_cf1ce_21 ⟨wr_8_4, wr_1_19, wr_8_7, by decide, rfl, (Nat.le_of_ble_eq_true rfl), (Nat.le_of_ble_eq_true rfl)⟩ wr_8_6 wr_s_0 hmq659420 heq659420 rfl (show 0 + 0 ≤ 0 by first | omega | decide) (show 0 + 0 ≤ 0 by first | omega | decide) (Nat.le_of_ble_eq_true rfl) (fun r659464 w659465 dc659461 ds659462 hp659463 => ?_) (fun _ _ _ _ _ z => z.elim)
  obtain ⟨rfl, rfl, hdc, hds, ht659466⟩ := hp659463
  change G _ _ _ _ _ _ _ _ _ _ _
  refine G_widen (cs' := 0) (sl' := 0) (by omega) (by omega) ?_
  refine G_aload_n 1 dr_cJ5_append_cf1ce_24 rfl ?_
  refine G_aload_n 1 dr_cJ5_append_cf1ce_25 rfl ?_
  refine Gp_get 3 hmq659420 heq659420 dr_cJ5_append_cf1ce_26 (gk_J4 D I) (Nat.le_of_ble_eq_true rfl) wr_7_64 rfl ?_
  refine G_aload_n 2 dr_cJ5_append_cf1ce_29 rfl ?_
  refine Gw_callVB (As := [.int p659426, .ref qs659422]) (gV_ok D I) (cp_659481_AbstractStringBuilder_putStringAt l hl0 D I P659418 F659419 q659420 q659421 p659426 qs659422 qb659423 bs659424 p659425 p659426 f659427 n659428 hmq659420 hmq659421 heq659420 heq659421 hbs659424 nbs659424 lbs659424 bp659426 bp659425 bp659426 bf659427 (by have qa0 : Int32.toInt 0 = 0 := (by decide); omega) (by have qa0 : Int32.toInt 0 = 0 := (by decide); omega)) dr_cJ5_append_cf1ce_30 ⟨wr_8_155, wr_1_19, wr_8_158, by decide, rfl, (Nat.le_of_ble_eq_true rfl), (Nat.le_of_ble_eq_true rfl)⟩ wr_8_157 wr_s_4 hmq659420 heq659420 rfl (show 0 + 0 ≤ 0 by first | omega | decide) (show 0 + 0 ≤ 0 by first | omega | decide) (Nat.le_of_ble_eq_true rfl) (fun r659554 w659555 dc659551 ds659552 hp659553 => ?_) (fun _ _ _ _ _ z => z.elim)
  obtain ⟨F659560, f659556, rfl, rfl, hfr659562, he659563, he659564, hdc, hds, bf659556, x659557, x659558, ht659559⟩ := hp659553
  have hfr659565 : rFr [q659421] P659418 F659419 F659560 := rFr_call (rSub_rf (P := P659418)) (rFr_rf (W := []) (P := P659418) (F := F659419)) hfr659562 (fun b hb hn => ⟨nm_n, (nm_c (fun e => hn (e ▸ List.mem_cons_self)) nm_n)⟩)
  change G _ _ _ _ _ _ _ _ _ _ _
  refine G_widen (cs' := 0) (sl' := 0) (by omega) (by omega) ?_
  refine G_aload_n 1 dr_cJ5_append_cf1ce_33 rfl ?_
  refine G_dup dr_cJ5_append_cf1ce_34 rfl ?_
  refine Gp_get 3 hmq659420 he659563 dr_cJ5_append_cf1ce_35 (gk_J4 D I) (Nat.le_of_ble_eq_true rfl) wr_7_64 rfl ?_
  refine G_iload_n 0 dr_cJ5_append_cf1ce_38 rfl ?_
  refine G_iadd dr_cJ5_append_cf1ce_39 (G_nam fun z659566 hz659566 => ?_)
  have ez659566 : z659566.toInt = p659426.toInt + o659457.toInt := by rw [gI_add hz659566 bp659426 bo659457 (by decide) (by decide)]
  have bz659566 : gB z659566 0 16842751 := gB_add (gI_add hz659566 bp659426 bo659457 (by decide) (by decide)) bp659426 bo659457 (by decide) (by decide)
  refine Gp_put 3 hmq659420 he659563 dr_cJ5_append_cf1ce_40 (gk_J4 D I) (Nat.le_of_ble_eq_true rfl) wr_7_64 rfl rfl rfl (Nat.le_of_ble_eq_true rfl) (fun F659567 e659568 n659569 => ?_)
  have he659570 : F659567 q659421 = .inl (I .byte, n659428, .inl f659556) := (n659569 q659421 (rn_ao he659564 he659563)).trans he659564
  have he659571 : F659567 q659420 = .inr (1, [.ref q659421, .int 0, .int p659425, .int z659566]) := e659568
  have hfr659572 : rFr [q659420, q659421] P659418 F659419 F659567 := rFr_put hfr659565 n659569
  refine G_aload_n 1 dr_cJ5_append_cf1ce_43 rfl ?_
  exact G_aretA (FieldType.object "java/lang/AbstractStringBuilder") dr_cJ5_append_cf1ce_44 rfl (by first | exact Or.inl ⟨_, rfl⟩ | exact Or.inr ⟨_, rfl⟩) (Or.inr ⟨_, rfl⟩) (Nat.le_of_ble_eq_true rfl) (Nat.le_of_ble_eq_true rfl) ⟨F659567, z659566, f659556, rfl, rfl, hfr659572, he659571, he659570, (Nat.le_of_ble_eq_true rfl), (Nat.le_of_ble_eq_true rfl), ⟨by omega, by omega⟩, bf659556, (by have qa0 : Int32.toInt 0 = 0 := (by decide); omega), (sK_c x659557 (by omega)), (by assumption), (fun R c1 => c1 o659457 z659460 f659556 z659566 bo659457 ht659459 ez659460 ht659466 ht659559 ez659566)⟩
/- tr_RStringBuilder_append4: a.0...count, a.0.value.[] -/
def tr_RStringBuilder_append4 (bs : List Int32) (a0_count : Int32) (a0_value_v : Nat → Int32) (a0_value_n : Nat) (o1 : Int32) (o2 : Nat → Int32) : Prop := ∀ R : (Int32) → (Nat → Int32) → Prop,
  (∀ (x1 : Int32) (x2 : Nat → Int32), gB x1 0 16777216 → tr_RAbstractStringBuilder_append4 bs a0_count a0_value_v a0_value_n x1 x2 → R x1 x2) →
  R o1 o2
abbrev ky_659417_StringBuilder_append : gKey := (cJ4_append_15ec4, 2, "java/lang/StringBuilder", (some (FieldType.object "java/lang/StringBuilder")), [], "append", fun _ _ => True)
def pp_659417_StringBuilder_append (D : va_G) (I : FieldType → ClassId) (P659404 : List Nat) (F659405 : Nat → va_E) (q659406 : Nat) (q659407 : Nat) (qs659408 : Nat) (qb659409 : Nat) (bs659410 : List Int32) (p659411 : Int32) (p659412 : Int32) (f659413 : Nat → Int32) (n659414 : Nat) : Option Value → va_W → Nat → Nat → Prop := fun r w dc ds => ∃ (F659597 : Nat → va_E) (o659594 : Int32) (f659595 : Nat → Int32), r = some (.ref q659406) ∧ w = va_pl P659404 F659597 ∧ rFr [q659406, q659407] P659404 F659405 F659597 ∧ F659597 q659406 = .inr (1, [.ref q659407, .int 0, .int p659411, .int o659594]) ∧ F659597 q659407 = .inl (I .byte, n659414, .inl f659595) ∧ dc ≤ 0 ∧ ds ≤ 0 ∧ gB o659594 0 16777216 ∧ gF f659595 (-128) 127 ∧ o659594.toInt = p659412.toInt + (bs659410.length : Int) ∧ sK f659413 f659595 p659412.toInt ∧ sF (fun j => bs659410.getD j 0) f659595 p659412.toInt (bs659410.length : Int) ∧ tr_RStringBuilder_append4 bs659410 p659412 f659413 n659414 o659594 f659595
set_option maxRecDepth 100000 in
set_option maxHeartbeats 4000000 in
theorem cp_659417_StringBuilder_append (l : Launch) (hl0 : l.stackTraces = false) (D : va_G) (I : FieldType → ClassId) (P659404 : List Nat) (F659405 : Nat → va_E) (q659406 : Nat) (q659407 : Nat) (qs659408 : Nat) (qb659409 : Nat) (bs659410 : List Int32) (p659411 : Int32) (p659412 : Int32) (f659413 : Nat → Int32) (n659414 : Nat) (hmq659406 : q659406 ∈ P659404) (hmq659407 : q659407 ∈ P659404) (heq659406 : F659405 q659406 = .inr (1, [.ref q659407, .int 0, .int p659411, .int p659412])) (heq659407 : F659405 q659407 = .inl (I .byte, n659414, .inl f659413)) (hbs659410 : ∀ A s H, (gV D I).2.2.2.1 A s H → gSC qs659408 qb659409 bs659410 A s H) (nbs659410 : (bs659410.length : Int) ≤ 65535) (lbs659410 : gLB bs659410) (bp659411 : gB p659411 0 1) (bp659412 : gB p659412 0 16777216) (bf659413 : gF f659413 (-128) 127) (x659415 : p659412.toInt + (bs659410.length : Int) ≤ (n659414 : Int)) (x659416 : ((n659414 : Int) ≤ 16777216)) : CtA (gV D I) l yJ4_append_15ec4 cJ4_append_15ec4 2 (some (FieldType.object "java/lang/StringBuilder")) 4 87 0 0 [.ref q659406, .ref qs659408] (va_pl P659404 F659405) (pp_659417_StringBuilder_append D I P659404 F659405 q659406 q659407 qs659408 qb659409 bs659410 p659411 p659412 f659413 n659414) gNA := by
  refine CtA_ofF hl0 (by decide +kernel) (Nat.le_of_ble_eq_true rfl) ?_
  refine G_aload_n 0 dr_cJ4_append_15ec4_0 rfl ?_
  refine G_aload_n 1 dr_cJ4_append_15ec4_1 rfl ?_
  refine Gw_callSU (As := [.ref qs659408]) (gV_ok D I) (cp_659431_AbstractStringBuilder_append l hl0 D I P659404 F659405 q659406 q659407 qs659408 qb659409 bs659410 p659411 p659412 f659413 n659414 hmq659406 hmq659407 heq659406 heq659407 hbs659410 nbs659410 lbs659410 bp659411 bp659412 bf659413 (by have qa0 : Int32.toInt 0 = 0 := (by decide); omega) (by have qa0 : Int32.toInt 0 = 0 := (by decide); omega)) dr_cJ4_append_15ec4_2 ⟨wr_8_144, wr_1_19, wr_8_146, by decide, rfl, (Nat.le_of_ble_eq_true rfl), (Nat.le_of_ble_eq_true rfl)⟩ wr_8_145 wr_11_229 wr_7_73 wr_7_44 (by decide) hmq659406 heq659406 rfl (show 0 + 0 ≤ 0 by first | omega | decide) (show 0 + 0 ≤ 0 by first | omega | decide) (Nat.le_of_ble_eq_true rfl) (fun r659580 w659581 dc659577 ds659578 hp659579 => ?_)
  obtain ⟨F659588, o659582, f659583, rfl, rfl, hfr659590, he659591, he659592, hdc, hds, bo659582, bf659583, x659584, x659585, x659586, ht659587⟩ := hp659579
  have hfr659593 : rFr [q659406, q659407] P659404 F659405 F659588 := rFr_call (rSub_rf (P := P659404)) (rFr_rf (W := []) (P := P659404) (F := F659405)) hfr659590 (fun b hb hn => ⟨nm_n, (nm_c (fun e => hn (e ▸ List.mem_cons_self)) (nm_c (fun e => hn (e ▸ (List.mem_cons_of_mem _ List.mem_cons_self))) nm_n))⟩)
  change G _ _ _ _ _ _ _ (.ref q659406 :: _) _ _ _
  refine G_widen (cs' := 0) (sl' := 0) (by omega) (by omega) ?_
  refine G_pop dr_cJ4_append_15ec4_5 rfl ?_
  refine G_aload_n 0 dr_cJ4_append_15ec4_6 rfl ?_
  exact G_aretA (FieldType.object "java/lang/StringBuilder") dr_cJ4_append_15ec4_7 rfl (by first | exact Or.inl ⟨_, rfl⟩ | exact Or.inr ⟨_, rfl⟩) (Or.inr ⟨_, rfl⟩) (Nat.le_of_ble_eq_true rfl) (Nat.le_of_ble_eq_true rfl) ⟨F659588, o659582, f659583, rfl, rfl, hfr659593, he659591, he659592, (Nat.le_of_ble_eq_true rfl), (Nat.le_of_ble_eq_true rfl), bo659582, bf659583, (by have qa0 : Int32.toInt 0 = 0 := (by decide); omega), (sK_c x659585 (by omega)), (by assumption), (fun R c1 => c1 o659582 f659583 bo659582 ht659587)⟩
/- tr_RAbstractStringBuilder_append5: a.0...count, a.0.value.#, a.0.value.[] -/
def tr_RAbstractStringBuilder_append5 (a0_count : Int32) (a0_value_v : Nat → Int32) (a0_value_n : Nat) (a1_value_v : Nat → Int32) (a1_value_n : Nat) (o1 : Int32) (o2 : Nat) (o3 : Nat → Int32) : Prop := ∀ R : (Int32) → (Nat) → (Nat → Int32) → Prop,
  (∀ (x1 : Int32) (x2 : Int32) (x3 : Nat) (x4 : Nat → Int32) (x5 : Nat → Int32) (x6 : Int32), gB x1 0 16777216 → tr_RString_length a1_value_n x1 → x2.toInt = a0_count.toInt + x1.toInt → tr_RAbstractStringBuilder_ensureCapacityInternal2 x2 a0_value_v a0_value_n x3 x4 → tr_RAbstractStringBuilder_putStringAt a0_count x4 a1_value_v a1_value_n x5 → x6.toInt = a0_count.toInt + x1.toInt → R x6 x3 x5) →
  R o1 o2 o3
abbrev ky_659637_AbstractStringBuilder_append : gKey := (cJ5_append_cf1ce, 3, "java/lang/AbstractStringBuilder", (some (FieldType.object "java/lang/AbstractStringBuilder")), [], "append", fun _ _ => True)
def pp_659637_AbstractStringBuilder_append (D : va_G) (I : FieldType → ClassId) (P659618 : List Nat) (F659619 : Nat → va_E) (q659620 : Nat) (q659621 : Nat) (q659622 : Nat) (q659623 : Nat) (p659624 : Int32) (p659625 : Int32) (p659626 : Int32) (p659627 : Int32) (f659628 : Nat → Int32) (n659629 : Nat) (f659630 : Nat → Int32) (n659631 : Nat) : Option Value → va_W → Nat → Nat → Prop := fun r w dc ds => ∃ (P659709 : List Nat) (F659710 : Nat → va_E) (o659705 : Int32) (q659706 : Nat) (n659707 : Nat) (f659708 : Nat → Int32), r = some (.ref q659620) ∧ w = va_pl P659709 F659710 ∧ rSub P659618 P659709 ∧ rFr [q659620, q659622] P659618 F659619 F659710 ∧ F659710 q659620 = .inr (1, [.ref q659706, .int 0, .int p659624, .int o659705]) ∧ F659710 q659621 = .inr (0, [.ref q659623, .int 0, .int p659626, .int p659627]) ∧ F659710 q659706 = .inl (I .byte, n659707, .inl f659708) ∧ F659710 q659623 = .inl (I .byte, n659631, .inl f659630) ∧ q659706 ∈ P659709 ∧ (q659706 = q659622 ∨ q659706 ∉ P659618) ∧ dc ≤ 1 ∧ ds ≤ 2 * (n659707 - n659629) ∧ gB o659705 0 16777216 ∧ gF f659708 (-128) 127 ∧ o659705.toInt = p659625.toInt + (n659631 : Int) ∧ o659705.toInt ≤ (n659707 : Int) ∧ (n659629 : Int) ≤ (n659707 : Int) ∧ (n659707 : Int) ≤ 2 * (n659629 : Int) + 2 + p659625.toInt + (n659631 : Int) ∧ ((n659707 : Int) = (n659629 : Int) ∨ (n659629 : Int) < o659705.toInt) ∧ tr_RAbstractStringBuilder_append5 p659625 f659628 n659629 f659630 n659631 o659705 n659707 f659708
set_option maxRecDepth 100000 in
set_option maxHeartbeats 4000000 in
theorem cp_659637_AbstractStringBuilder_append (l : Launch) (hl0 : l.stackTraces = false) (D : va_G) (I : FieldType → ClassId) (P659618 : List Nat) (F659619 : Nat → va_E) (q659620 : Nat) (q659621 : Nat) (q659622 : Nat) (q659623 : Nat) (p659624 : Int32) (p659625 : Int32) (p659626 : Int32) (p659627 : Int32) (f659628 : Nat → Int32) (n659629 : Nat) (f659630 : Nat → Int32) (n659631 : Nat) (hmq659620 : q659620 ∈ P659618) (hmq659621 : q659621 ∈ P659618) (hmq659622 : q659622 ∈ P659618) (hmq659623 : q659623 ∈ P659618) (heq659620 : F659619 q659620 = .inr (1, [.ref q659622, .int 0, .int p659624, .int p659625])) (heq659621 : F659619 q659621 = .inr (0, [.ref q659623, .int 0, .int p659626, .int p659627])) (heq659622 : F659619 q659622 = .inl (I .byte, n659629, .inl f659628)) (heq659623 : F659619 q659623 = .inl (I .byte, n659631, .inl f659630)) (hneq659622q659623 : q659622 ≠ q659623) (bp659624 : gB p659624 0 1) (bp659625 : gB p659625 0 16777216) (bp659627 : gB p659627 0 1) (bf659628 : gF f659628 (-128) 127) (bf659630 : gF f659630 (-128) 127) (x659632 : (n659631 : Int) ≤ 65535) (x659633 : (n659629 : Int) ≤ 8388608 - 100000) (x659634 : p659625.toInt ≤ (n659629 : Int)) (x659635 : ((n659629 : Int) ≤ 16777216)) (x659636 : ((n659631 : Int) ≤ 16777216)) : CtA (gV D I) l yJ5_append_cf1ce cJ5_append_cf1ce 3 (some (FieldType.object "java/lang/AbstractStringBuilder")) 4 84 1 (4 * n659629 + 4 + 2 * n659631) [.ref q659620, .ref q659621] (va_pl P659618 F659619) (pp_659637_AbstractStringBuilder_append D I P659618 F659619 q659620 q659621 q659622 q659623 p659624 p659625 p659626 p659627 f659628 n659629 f659630 n659631) gNA := by
  refine CtA_ofF hl0 (by decide +kernel) (Nat.le_of_ble_eq_true rfl) ?_
  have bp659626 := gB_any p659626
  refine G_aload_n 1 dr_cJ5_append_cf1ce_0 rfl ?_
  refine G_ifnonnull 9 dr_cJ5_append_cf1ce_1 (by decide +kernel) ?_
  refine G_aload_n 1 dr_cJ5_append_cf1ce_9 rfl ?_
  refine Gw_callV (As := []) (gV_ok D I) (cp_659217_String_length l hl0 D I P659618 F659619 q659621 q659623 p659626 p659627 f659630 n659631 hmq659621 hmq659623 heq659621 heq659623 bp659627 bf659630 (by have qa0 : Int32.toInt 0 = 0 := (by decide); omega)) dr_cJ5_append_cf1ce_10 ⟨wr_8_154, wr_1_21, wr_3_60, by decide, rfl, (Nat.le_of_ble_eq_true rfl), (Nat.le_of_ble_eq_true rfl)⟩ wr_3_58 wr_3_59 hmq659621 heq659621 rfl (show 0 + 0 ≤ 1 by first | omega | decide) (show 0 + 0 ≤ (4 * n659629 + 4 + 2 * n659631) by first | omega | decide) (Nat.le_of_ble_eq_true rfl) (fun r659641 w659642 dc659638 ds659639 hp659640 => ?_) (fun _ _ _ _ _ z => z.elim)
  obtain ⟨o659643, rfl, rfl, hdc, hds, bo659643, x659644, ht659645⟩ := hp659640
  change G _ _ _ _ _ _ _ (.int o659643 :: _) _ _ _
  refine G_widen (cs' := 0) (sl' := 0) (by omega) (by omega) ?_
  refine G_istore_n (L' := [(2, .int o659643), (0, .ref q659620), (1, .ref q659621)]) dr_cJ5_append_cf1ce_13 (Nat.le_of_ble_eq_true rfl) rfl ?_
  refine G_aload_n 1 dr_cJ5_append_cf1ce_14 rfl ?_
  refine G_aload_n 1 dr_cJ5_append_cf1ce_15 rfl ?_
  refine Gp_get 3 hmq659620 heq659620 dr_cJ5_append_cf1ce_16 (gk_J4 D I) (Nat.le_of_ble_eq_true rfl) wr_7_64 rfl ?_
  refine G_iload_n 0 dr_cJ5_append_cf1ce_19 rfl ?_
  refine G_iadd dr_cJ5_append_cf1ce_20 (G_nam fun z659646 hz659646 => ?_)
  have ez659646 : z659646.toInt = p659625.toInt + o659643.toInt := by rw [gI_add hz659646 bp659625 bo659643 (by decide) (by decide)]
  have bz659646 : gB z659646 0 33554432 := gB_add (gI_add hz659646 bp659625 bo659643 (by decide) (by decide)) bp659625 bo659643 (by decide) (by decide)
  refine Gw_callVB (As := [.int z659646]) (gV_ok D I) (cp_658822_AbstractStringBuilder_ensureCapacityInternal l hl0 D I P659618 F659619 q659620 q659622 z659646 p659624 p659625 f659628 n659629 hmq659620 hmq659622 heq659620 heq659622 ⟨by omega, by omega⟩ bp659624 bp659625 bf659628 (by have qa0 : Int32.toInt 0 = 0 := (by decide); omega) (by have qa0 : Int32.toInt 0 = 0 := (by decide); omega)) dr_cJ5_append_cf1ce_21 ⟨wr_8_4, wr_1_19, wr_8_7, by decide, rfl, (Nat.le_of_ble_eq_true rfl), (Nat.le_of_ble_eq_true rfl)⟩ wr_8_6 wr_s_0 hmq659620 heq659620 rfl (show 0 + 1 ≤ 1 by first | omega | decide) (show 0 + (2 * n659629 + 2 + z659646.toInt.toNat) ≤ (4 * n659629 + 4 + 2 * n659631) by first | omega | decide) (Nat.le_of_ble_eq_true rfl) (fun r659650 w659651 dc659647 ds659648 hp659649 => ?_) (fun _ _ _ _ _ z => z.elim)
  obtain ⟨P659660, F659661, q659652, n659653, f659654, rfl, rfl, hsb659662, hfr659663, he659664, he659665, hm659666, hq659667, hdc, hds, bf659654, x659655, x659656, x659657, x659658, ht659659⟩ := hp659649
  have hm659668 : q659620 ∈ P659660 := hsb659662 q659620 hmq659620
  have hm659669 : q659621 ∈ P659660 := hsb659662 q659621 hmq659621
  have hm659670 : q659622 ∈ P659660 := hsb659662 q659622 hmq659622
  have hm659671 : q659623 ∈ P659660 := hsb659662 q659623 hmq659623
  have hor659672 : q659652 = q659622 ∨ q659652 ∉ P659618 := hq659667.elim Or.inl (fun n => Or.inr (fun z => n ((rSub_rf (P := P659618)) _ z)))
  have hsb659673 : rSub P659618 P659660 := rSub_tr (rSub_rf (P := P659618)) hsb659662
  have he659674 : F659661 q659621 = .inr (0, [.ref q659623, .int 0, .int p659626, .int p659627]) := (hfr659663 q659621 hmq659621 (nm_c (rn_oo heq659621 heq659620 (by decide)) nm_n)).trans heq659621
  have he659675 : F659661 q659622 = .inl (I .byte, n659629, .inl f659628) := (hfr659663 q659622 hmq659622 (nm_c (rn_ao heq659622 heq659620) nm_n)).trans heq659622
  have he659676 : F659661 q659623 = .inl (I .byte, n659631, .inl f659630) := (hfr659663 q659623 hmq659623 (nm_c (rn_ao heq659623 heq659620) nm_n)).trans heq659623
  have hfr659677 : rFr [q659620] P659618 F659619 F659661 := rFr_call (rSub_rf (P := P659618)) (rFr_rf (W := []) (P := P659618) (F := F659619)) hfr659663 (fun b hb hn => ⟨nm_n, (nm_c (fun e => hn (e ▸ List.mem_cons_self)) nm_n)⟩)
  have hne659678 : q659623 ≠ q659652 := fun e => hq659667.elim (fun e2 => (Ne.symm hneq659622q659623) (e.trans e2)) (fun n => n (e ▸ hmq659623))
  change G _ _ _ _ _ _ _ _ _ _ _
  refine G_widen (cs' := 1) (sl' := 2 * (n659653 - n659629)) (by omega) (by omega) ?_
  refine G_aload_n 1 dr_cJ5_append_cf1ce_24 rfl ?_
  refine G_aload_n 1 dr_cJ5_append_cf1ce_25 rfl ?_
  refine Gp_get 3 hm659668 he659664 dr_cJ5_append_cf1ce_26 (gk_J4 D I) (Nat.le_of_ble_eq_true rfl) wr_7_64 rfl ?_
  refine G_aload_n 2 dr_cJ5_append_cf1ce_29 rfl ?_
  refine Gw_callVB (As := [.int p659625, .ref q659621]) (gV_ok D I) (cp_659269_AbstractStringBuilder_putStringAt l hl0 D I P659660 F659661 q659620 q659621 q659652 q659623 p659625 p659624 p659625 p659626 p659627 f659654 n659653 f659630 n659631 hm659668 hm659669 hm659666 hm659671 he659664 he659674 he659665 he659676 (Ne.symm hne659678) bp659625 bp659624 bp659625 bp659627 bf659654 bf659630 (by have qa0 : Int32.toInt 0 = 0 := (by decide); omega) (by have qa0 : Int32.toInt 0 = 0 := (by decide); omega) (by have qa0 : Int32.toInt 0 = 0 := (by decide); omega)) dr_cJ5_append_cf1ce_30 ⟨wr_8_155, wr_1_19, wr_8_158, by decide, rfl, (Nat.le_of_ble_eq_true rfl), (Nat.le_of_ble_eq_true rfl)⟩ wr_8_157 wr_s_4 hm659668 he659664 rfl (show 1 + 0 ≤ 1 by first | omega | decide) (show 2 * (n659653 - n659629) + 0 ≤ (4 * n659629 + 4 + 2 * n659631) by first | omega | decide) (Nat.le_of_ble_eq_true rfl) (fun r659682 w659683 dc659679 ds659680 hp659681 => ?_) (fun _ _ _ _ _ z => z.elim)
  obtain ⟨F659688, f659684, rfl, rfl, hfr659690, he659691, he659692, he659693, he659694, hdc, hds, bf659684, x659685, x659686, ht659687⟩ := hp659681
  have hfr659695 : rFr [q659620, q659622] P659618 F659619 F659688 := rFr_call hsb659673 hfr659677 hfr659690 (fun b hb hn => ⟨(nm_c (fun e => hn (e ▸ List.mem_cons_self)) nm_n), (nm_c (fun e => hor659672.elim (fun e2 => hn ((e.trans e2) ▸ (List.mem_cons_of_mem _ List.mem_cons_self))) (fun n => n (e ▸ hb))) nm_n)⟩)
  change G _ _ _ _ _ _ _ _ _ _ _
  refine G_widen (cs' := 1) (sl' := 2 * (n659653 - n659629) + 0) (by omega) (by omega) ?_
  refine G_aload_n 1 dr_cJ5_append_cf1ce_33 rfl ?_
  refine G_dup dr_cJ5_append_cf1ce_34 rfl ?_
  refine Gp_get 3 hm659668 he659691 dr_cJ5_append_cf1ce_35 (gk_J4 D I) (Nat.le_of_ble_eq_true rfl) wr_7_64 rfl ?_
  refine G_iload_n 0 dr_cJ5_append_cf1ce_38 rfl ?_
  refine G_iadd dr_cJ5_append_cf1ce_39 (G_nam fun z659696 hz659696 => ?_)
  have ez659696 : z659696.toInt = p659625.toInt + o659643.toInt := by rw [gI_add hz659696 bp659625 bo659643 (by decide) (by decide)]
  have bz659696 : gB z659696 0 33554432 := gB_add (gI_add hz659696 bp659625 bo659643 (by decide) (by decide)) bp659625 bo659643 (by decide) (by decide)
  refine Gp_put 3 hm659668 he659691 dr_cJ5_append_cf1ce_40 (gk_J4 D I) (Nat.le_of_ble_eq_true rfl) wr_7_64 rfl rfl rfl (Nat.le_of_ble_eq_true rfl) (fun F659697 e659698 n659699 => ?_)
  have he659700 : F659697 q659621 = .inr (0, [.ref q659623, .int 0, .int p659626, .int p659627]) := (n659699 q659621 (rn_oo he659692 he659691 (by decide))).trans he659692
  have he659701 : F659697 q659652 = .inl (I .byte, n659653, .inl f659684) := (n659699 q659652 (rn_ao he659693 he659691)).trans he659693
  have he659702 : F659697 q659623 = .inl (I .byte, n659631, .inl f659630) := (n659699 q659623 (rn_ao he659694 he659691)).trans he659694
  have he659703 : F659697 q659620 = .inr (1, [.ref q659652, .int 0, .int p659624, .int z659696]) := e659698
  have hfr659704 : rFr [q659620, q659622] P659618 F659619 F659697 := rFr_put' List.mem_cons_self hfr659695 n659699
  refine G_aload_n 1 dr_cJ5_append_cf1ce_43 rfl ?_
  exact G_aretA (FieldType.object "java/lang/AbstractStringBuilder") dr_cJ5_append_cf1ce_44 rfl (by first | exact Or.inl ⟨_, rfl⟩ | exact Or.inr ⟨_, rfl⟩) (Or.inr ⟨_, rfl⟩) (Nat.le_of_ble_eq_true rfl) (show 2 * (n659653 - n659629) + 0 ≤ (4 * n659629 + 4 + 2 * n659631) by omega) ⟨P659660, F659697, z659696, q659652, n659653, f659684, rfl, rfl, hsb659673, hfr659704, he659703, he659700, he659701, he659702, hm659666, hor659672, (Nat.le_of_ble_eq_true rfl), (by omega), ⟨by omega, by omega⟩, bf659684, (by have qa0 : Int32.toInt 0 = 0 := (by decide); omega), (by have qa0 : Int32.toInt 0 = 0 := (by decide); omega), (by have qa0 : Int32.toInt 0 = 0 := (by decide); omega), (by have qa0 : Int32.toInt 0 = 0 := (by decide); omega), (by have qa0 : Int32.toInt 0 = 0 := (by decide); omega), (fun R c1 => c1 o659643 z659646 n659653 f659654 f659684 z659696 bo659643 ht659645 ez659646 ht659659 ht659687 ez659696)⟩
/- tr_RStringBuilder_append5: a.0...count, a.0.value.#, a.0.value.[] -/
def tr_RStringBuilder_append5 (a0_count : Int32) (a0_value_v : Nat → Int32) (a0_value_n : Nat) (a1_value_v : Nat → Int32) (a1_value_n : Nat) (o1 : Int32) (o2 : Nat) (o3 : Nat → Int32) : Prop := ∀ R : (Int32) → (Nat) → (Nat → Int32) → Prop,
  (∀ (x1 : Int32) (x2 : Nat) (x3 : Nat → Int32), gB x1 0 16777216 → tr_RAbstractStringBuilder_append5 a0_count a0_value_v a0_value_n a1_value_v a1_value_n x1 x2 x3 → R x1 x2 x3) →
  R o1 o2 o3
abbrev ky_659617_StringBuilder_append : gKey := (cJ4_append_15ec4, 2, "java/lang/StringBuilder", (some (FieldType.object "java/lang/StringBuilder")), [], "append", fun _ _ => True)
def pp_659617_StringBuilder_append (D : va_G) (I : FieldType → ClassId) (P659598 : List Nat) (F659599 : Nat → va_E) (q659600 : Nat) (q659601 : Nat) (q659602 : Nat) (q659603 : Nat) (p659604 : Int32) (p659605 : Int32) (p659606 : Int32) (p659607 : Int32) (f659608 : Nat → Int32) (n659609 : Nat) (f659610 : Nat → Int32) (n659611 : Nat) : Option Value → va_W → Nat → Nat → Prop := fun r w dc ds => ∃ (P659748 : List Nat) (F659749 : Nat → va_E) (o659744 : Int32) (q659745 : Nat) (n659746 : Nat) (f659747 : Nat → Int32), r = some (.ref q659600) ∧ w = va_pl P659748 F659749 ∧ rSub P659598 P659748 ∧ rFr [q659600, q659602] P659598 F659599 F659749 ∧ F659749 q659600 = .inr (1, [.ref q659745, .int 0, .int p659604, .int o659744]) ∧ F659749 q659601 = .inr (0, [.ref q659603, .int 0, .int p659606, .int p659607]) ∧ F659749 q659745 = .inl (I .byte, n659746, .inl f659747) ∧ F659749 q659603 = .inl (I .byte, n659611, .inl f659610) ∧ q659745 ∈ P659748 ∧ (q659745 = q659602 ∨ q659745 ∉ P659598) ∧ dc ≤ 1 ∧ ds ≤ 2 * (n659746 - n659609) ∧ gB o659744 0 16777216 ∧ gF f659747 (-128) 127 ∧ o659744.toInt = p659605.toInt + (n659611 : Int) ∧ o659744.toInt ≤ (n659746 : Int) ∧ (n659609 : Int) ≤ (n659746 : Int) ∧ (n659746 : Int) ≤ 2 * (n659609 : Int) + 2 + p659605.toInt + (n659611 : Int) ∧ ((n659746 : Int) = (n659609 : Int) ∨ (n659609 : Int) < o659744.toInt) ∧ tr_RStringBuilder_append5 p659605 f659608 n659609 f659610 n659611 o659744 n659746 f659747
set_option maxRecDepth 100000 in
set_option maxHeartbeats 4000000 in
theorem cp_659617_StringBuilder_append (l : Launch) (hl0 : l.stackTraces = false) (D : va_G) (I : FieldType → ClassId) (P659598 : List Nat) (F659599 : Nat → va_E) (q659600 : Nat) (q659601 : Nat) (q659602 : Nat) (q659603 : Nat) (p659604 : Int32) (p659605 : Int32) (p659606 : Int32) (p659607 : Int32) (f659608 : Nat → Int32) (n659609 : Nat) (f659610 : Nat → Int32) (n659611 : Nat) (hmq659600 : q659600 ∈ P659598) (hmq659601 : q659601 ∈ P659598) (hmq659602 : q659602 ∈ P659598) (hmq659603 : q659603 ∈ P659598) (heq659600 : F659599 q659600 = .inr (1, [.ref q659602, .int 0, .int p659604, .int p659605])) (heq659601 : F659599 q659601 = .inr (0, [.ref q659603, .int 0, .int p659606, .int p659607])) (heq659602 : F659599 q659602 = .inl (I .byte, n659609, .inl f659608)) (heq659603 : F659599 q659603 = .inl (I .byte, n659611, .inl f659610)) (hneq659602q659603 : q659602 ≠ q659603) (bp659604 : gB p659604 0 1) (bp659605 : gB p659605 0 16777216) (bp659607 : gB p659607 0 1) (bf659608 : gF f659608 (-128) 127) (bf659610 : gF f659610 (-128) 127) (x659612 : (n659611 : Int) ≤ 65535) (x659613 : (n659609 : Int) ≤ 8388608 - 100000) (x659614 : p659605.toInt ≤ (n659609 : Int)) (x659615 : ((n659609 : Int) ≤ 16777216)) (x659616 : ((n659611 : Int) ≤ 16777216)) : CtA (gV D I) l yJ4_append_15ec4 cJ4_append_15ec4 2 (some (FieldType.object "java/lang/StringBuilder")) 5 106 1 (4 * n659609 + 4 + 2 * n659611) [.ref q659600, .ref q659601] (va_pl P659598 F659599) (pp_659617_StringBuilder_append D I P659598 F659599 q659600 q659601 q659602 q659603 p659604 p659605 p659606 p659607 f659608 n659609 f659610 n659611) gNA := by
  refine CtA_ofF hl0 (by decide +kernel) (Nat.le_of_ble_eq_true rfl) ?_
  have bp659606 := gB_any p659606
  refine G_aload_n 0 dr_cJ4_append_15ec4_0 rfl ?_
  refine G_aload_n 1 dr_cJ4_append_15ec4_1 rfl ?_
  refine Gw_callSU (As := [.ref q659601]) (gV_ok D I) (cp_659637_AbstractStringBuilder_append l hl0 D I P659598 F659599 q659600 q659601 q659602 q659603 p659604 p659605 p659606 p659607 f659608 n659609 f659610 n659611 hmq659600 hmq659601 hmq659602 hmq659603 heq659600 heq659601 heq659602 heq659603 hneq659602q659603 bp659604 bp659605 bp659607 bf659608 bf659610 (by have qa0 : Int32.toInt 0 = 0 := (by decide); omega) (by have qa0 : Int32.toInt 0 = 0 := (by decide); omega) (by have qa0 : Int32.toInt 0 = 0 := (by decide); omega) (by have qa0 : Int32.toInt 0 = 0 := (by decide); omega) (by have qa0 : Int32.toInt 0 = 0 := (by decide); omega)) dr_cJ4_append_15ec4_2 ⟨wr_8_144, wr_1_19, wr_8_146, by decide, rfl, (Nat.le_of_ble_eq_true rfl), (Nat.le_of_ble_eq_true rfl)⟩ wr_8_145 wr_11_229 wr_7_73 wr_7_44 (by decide) hmq659600 heq659600 rfl (show 0 + 1 ≤ 1 by first | omega | decide) (show 0 + (4 * n659609 + 4 + 2 * n659611) ≤ (4 * n659609 + 4 + 2 * n659611) by first | omega | decide) (Nat.le_of_ble_eq_true rfl) (fun r659714 w659715 dc659711 ds659712 hp659713 => ?_)
  obtain ⟨P659726, F659727, o659716, q659717, n659718, f659719, rfl, rfl, hsb659728, hfr659729, he659730, he659731, he659732, he659733, hm659734, hq659735, hdc, hds, bo659716, bf659719, x659720, x659721, x659722, x659723, x659724, ht659725⟩ := hp659713
  have hm659736 : q659600 ∈ P659726 := hsb659728 q659600 hmq659600
  have hm659737 : q659601 ∈ P659726 := hsb659728 q659601 hmq659601
  have hm659738 : q659602 ∈ P659726 := hsb659728 q659602 hmq659602
  have hm659739 : q659603 ∈ P659726 := hsb659728 q659603 hmq659603
  have hor659740 : q659717 = q659602 ∨ q659717 ∉ P659598 := hq659735.elim Or.inl (fun n => Or.inr (fun z => n ((rSub_rf (P := P659598)) _ z)))
  have hsb659741 : rSub P659598 P659726 := rSub_tr (rSub_rf (P := P659598)) hsb659728
  have hfr659742 : rFr [q659600, q659602] P659598 F659599 F659727 := rFr_call (rSub_rf (P := P659598)) (rFr_rf (W := []) (P := P659598) (F := F659599)) hfr659729 (fun b hb hn => ⟨nm_n, (nm_c (fun e => hn (e ▸ List.mem_cons_self)) (nm_c (fun e => hn (e ▸ (List.mem_cons_of_mem _ List.mem_cons_self))) nm_n))⟩)
  have hne659743 : q659603 ≠ q659717 := fun e => hq659735.elim (fun e2 => (Ne.symm hneq659602q659603) (e.trans e2)) (fun n => n (e ▸ hmq659603))
  change G _ _ _ _ _ _ _ (.ref q659600 :: _) _ _ _
  refine G_widen (cs' := 1) (sl' := 2 * (n659718 - n659609)) (by omega) (by omega) ?_
  refine G_pop dr_cJ4_append_15ec4_5 rfl ?_
  refine G_aload_n 0 dr_cJ4_append_15ec4_6 rfl ?_
  exact G_aretA (FieldType.object "java/lang/StringBuilder") dr_cJ4_append_15ec4_7 rfl (by first | exact Or.inl ⟨_, rfl⟩ | exact Or.inr ⟨_, rfl⟩) (Or.inr ⟨_, rfl⟩) (Nat.le_of_ble_eq_true rfl) (show 2 * (n659718 - n659609) ≤ (4 * n659609 + 4 + 2 * n659611) by omega) ⟨P659726, F659727, o659716, q659717, n659718, f659719, rfl, rfl, hsb659741, hfr659742, he659730, he659731, he659732, he659733, hm659734, hor659740, (Nat.le_of_ble_eq_true rfl), (by omega), bo659716, bf659719, (by have qa0 : Int32.toInt 0 = 0 := (by decide); omega), (by have qa0 : Int32.toInt 0 = 0 := (by decide); omega), (by have qa0 : Int32.toInt 0 = 0 := (by decide); omega), (by have qa0 : Int32.toInt 0 = 0 := (by decide); omega), (by have qa0 : Int32.toInt 0 = 0 := (by decide); omega), (fun R c1 => c1 o659716 n659718 f659719 bo659716 ht659725)⟩
/- tr_RAbstractStringBuilder_append6: a.0...count, a.0.value.#, a.0.value.[] -/
def tr_RAbstractStringBuilder_append6 (bs : List Int32) (a0_count : Int32) (a0_value_v : Nat → Int32) (a0_value_n : Nat) (o1 : Int32) (o2 : Nat) (o3 : Nat → Int32) : Prop := ∀ R : (Int32) → (Nat) → (Nat → Int32) → Prop,
  (∀ (x1 : Int32) (x2 : Int32) (x3 : Nat) (x4 : Nat → Int32) (x5 : Nat → Int32) (x6 : Int32), gB x1 0 65535 → tr_RString_length2 bs x1 → x2.toInt = a0_count.toInt + x1.toInt → tr_RAbstractStringBuilder_ensureCapacityInternal2 x2 a0_value_v a0_value_n x3 x4 → tr_RAbstractStringBuilder_putStringAt2 a0_count bs x4 x5 → x6.toInt = a0_count.toInt + x1.toInt → R x6 x3 x5) →
  R o1 o2 o3
abbrev ky_659781_AbstractStringBuilder_append : gKey := (cJ5_append_cf1ce, 3, "java/lang/AbstractStringBuilder", (some (FieldType.object "java/lang/AbstractStringBuilder")), [], "append", fun _ _ => True)
def pp_659781_AbstractStringBuilder_append (D : va_G) (I : FieldType → ClassId) (P659766 : List Nat) (F659767 : Nat → va_E) (q659768 : Nat) (q659769 : Nat) (qs659770 : Nat) (qb659771 : Nat) (bs659772 : List Int32) (p659773 : Int32) (p659774 : Int32) (f659775 : Nat → Int32) (n659776 : Nat) : Option Value → va_W → Nat → Nat → Prop := fun r w dc ds => ∃ (P659844 : List Nat) (F659845 : Nat → va_E) (o659840 : Int32) (q659841 : Nat) (n659842 : Nat) (f659843 : Nat → Int32), r = some (.ref q659768) ∧ w = va_pl P659844 F659845 ∧ rSub P659766 P659844 ∧ rFr [q659768, q659769] P659766 F659767 F659845 ∧ F659845 q659768 = .inr (1, [.ref q659841, .int 0, .int p659773, .int o659840]) ∧ F659845 q659841 = .inl (I .byte, n659842, .inl f659843) ∧ q659841 ∈ P659844 ∧ (q659841 = q659769 ∨ q659841 ∉ P659766) ∧ dc ≤ 1 ∧ ds ≤ 2 * (n659842 - n659776) ∧ gB o659840 0 16777216 ∧ gF f659843 (-128) 127 ∧ o659840.toInt = p659774.toInt + (bs659772.length : Int) ∧ o659840.toInt ≤ (n659842 : Int) ∧ (n659776 : Int) ≤ (n659842 : Int) ∧ (n659842 : Int) ≤ 2 * (n659776 : Int) + 2 + p659774.toInt + (bs659772.length : Int) ∧ ((n659842 : Int) = (n659776 : Int) ∨ (n659776 : Int) < o659840.toInt) ∧ tr_RAbstractStringBuilder_append6 bs659772 p659774 f659775 n659776 o659840 n659842 f659843
set_option maxRecDepth 100000 in
set_option maxHeartbeats 4000000 in
theorem cp_659781_AbstractStringBuilder_append (l : Launch) (hl0 : l.stackTraces = false) (D : va_G) (I : FieldType → ClassId) (P659766 : List Nat) (F659767 : Nat → va_E) (q659768 : Nat) (q659769 : Nat) (qs659770 : Nat) (qb659771 : Nat) (bs659772 : List Int32) (p659773 : Int32) (p659774 : Int32) (f659775 : Nat → Int32) (n659776 : Nat) (hmq659768 : q659768 ∈ P659766) (hmq659769 : q659769 ∈ P659766) (heq659768 : F659767 q659768 = .inr (1, [.ref q659769, .int 0, .int p659773, .int p659774])) (heq659769 : F659767 q659769 = .inl (I .byte, n659776, .inl f659775)) (hbs659772 : ∀ A s H, (gV D I).2.2.2.1 A s H → gSC qs659770 qb659771 bs659772 A s H) (nbs659772 : (bs659772.length : Int) ≤ 65535) (lbs659772 : gLB bs659772) (bp659773 : gB p659773 0 1) (bp659774 : gB p659774 0 16777216) (bf659775 : gF f659775 (-128) 127) (x659777 : (bs659772.length : Int) ≤ 65535) (x659778 : (n659776 : Int) ≤ 8388608 - 100000) (x659779 : p659774.toInt ≤ (n659776 : Int)) (x659780 : ((n659776 : Int) ≤ 16777216)) : CtA (gV D I) l yJ5_append_cf1ce cJ5_append_cf1ce 3 (some (FieldType.object "java/lang/AbstractStringBuilder")) 4 84 1 (4 * n659776 + 4 + 2 * bs659772.length) [.ref q659768, .ref qs659770] (va_pl P659766 F659767) (pp_659781_AbstractStringBuilder_append D I P659766 F659767 q659768 q659769 qs659770 qb659771 bs659772 p659773 p659774 f659775 n659776) gNA := by
  refine CtA_ofF hl0 (by decide +kernel) (Nat.le_of_ble_eq_true rfl) ?_
  refine G_aload_n 1 dr_cJ5_append_cf1ce_0 rfl ?_
  refine G_ifnonnull 9 dr_cJ5_append_cf1ce_1 (by decide +kernel) ?_
  refine G_aload_n 1 dr_cJ5_append_cf1ce_9 rfl ?_
  refine Gw_callVk (As := []) (gV_ok D I) (cp_659437_String_length l hl0 D I P659766 F659767 qs659770 qb659771 bs659772 hbs659772 nbs659772 lbs659772) dr_cJ5_append_cf1ce_10 ⟨wr_8_154, wr_1_21, wr_3_60, by decide, rfl, (Nat.le_of_ble_eq_true rfl), (Nat.le_of_ble_eq_true rfl)⟩ wr_3_58 wr_3_59 (fun _ _ _ h => (hbs659772 _ _ _ h).1) (show 0 + 0 ≤ 1 by first | omega | decide) (show 0 + 0 ≤ (4 * n659776 + 4 + 2 * bs659772.length) by first | omega | decide) (Nat.le_of_ble_eq_true rfl) (fun r659785 w659786 dc659782 ds659783 hp659784 => ?_) (fun _ _ _ _ _ z => z.elim)
  obtain ⟨o659787, rfl, rfl, hdc, hds, bo659787, x659788, ht659789⟩ := hp659784
  change G _ _ _ _ _ _ _ (.int o659787 :: _) _ _ _
  refine G_widen (cs' := 0) (sl' := 0) (by omega) (by omega) ?_
  refine G_istore_n (L' := [(2, .int o659787), (0, .ref q659768), (1, .ref qs659770)]) dr_cJ5_append_cf1ce_13 (Nat.le_of_ble_eq_true rfl) rfl ?_
  refine G_aload_n 1 dr_cJ5_append_cf1ce_14 rfl ?_
  refine G_aload_n 1 dr_cJ5_append_cf1ce_15 rfl ?_
  refine Gp_get 3 hmq659768 heq659768 dr_cJ5_append_cf1ce_16 (gk_J4 D I) (Nat.le_of_ble_eq_true rfl) wr_7_64 rfl ?_
  refine G_iload_n 0 dr_cJ5_append_cf1ce_19 rfl ?_
  refine G_iadd dr_cJ5_append_cf1ce_20 (G_nam fun z659790 hz659790 => ?_)
  have ez659790 : z659790.toInt = p659774.toInt + o659787.toInt := by rw [gI_add hz659790 bp659774 bo659787 (by decide) (by decide)]
  have bz659790 : gB z659790 0 16842751 := gB_add (gI_add hz659790 bp659774 bo659787 (by decide) (by decide)) bp659774 bo659787 (by decide) (by decide)
  refine Gw_callVB (As := [.int z659790]) (gV_ok D I) (cp_658822_AbstractStringBuilder_ensureCapacityInternal l hl0 D I P659766 F659767 q659768 q659769 z659790 p659773 p659774 f659775 n659776 hmq659768 hmq659769 heq659768 heq659769 ⟨by omega, by omega⟩ bp659773 bp659774 bf659775 (by have qa0 : Int32.toInt 0 = 0 := (by decide); omega) (by have qa0 : Int32.toInt 0 = 0 := (by decide); omega)) dr_cJ5_append_cf1ce_21 ⟨wr_8_4, wr_1_19, wr_8_7, by decide, rfl, (Nat.le_of_ble_eq_true rfl), (Nat.le_of_ble_eq_true rfl)⟩ wr_8_6 wr_s_0 hmq659768 heq659768 rfl (show 0 + 1 ≤ 1 by first | omega | decide) (show 0 + (2 * n659776 + 2 + z659790.toInt.toNat) ≤ (4 * n659776 + 4 + 2 * bs659772.length) by first | omega | decide) (Nat.le_of_ble_eq_true rfl) (fun r659794 w659795 dc659791 ds659792 hp659793 => ?_) (fun _ _ _ _ _ z => z.elim)
  obtain ⟨P659804, F659805, q659796, n659797, f659798, rfl, rfl, hsb659806, hfr659807, he659808, he659809, hm659810, hq659811, hdc, hds, bf659798, x659799, x659800, x659801, x659802, ht659803⟩ := hp659793
  have hm659812 : q659768 ∈ P659804 := hsb659806 q659768 hmq659768
  have hm659813 : q659769 ∈ P659804 := hsb659806 q659769 hmq659769
  have hor659814 : q659796 = q659769 ∨ q659796 ∉ P659766 := hq659811.elim Or.inl (fun n => Or.inr (fun z => n ((rSub_rf (P := P659766)) _ z)))
  have hsb659815 : rSub P659766 P659804 := rSub_tr (rSub_rf (P := P659766)) hsb659806
  have he659816 : F659805 q659769 = .inl (I .byte, n659776, .inl f659775) := (hfr659807 q659769 hmq659769 (nm_c (rn_ao heq659769 heq659768) nm_n)).trans heq659769
  have hfr659817 : rFr [q659768] P659766 F659767 F659805 := rFr_call (rSub_rf (P := P659766)) (rFr_rf (W := []) (P := P659766) (F := F659767)) hfr659807 (fun b hb hn => ⟨nm_n, (nm_c (fun e => hn (e ▸ List.mem_cons_self)) nm_n)⟩)
  change G _ _ _ _ _ _ _ _ _ _ _
  refine G_widen (cs' := 1) (sl' := 2 * (n659797 - n659776)) (by omega) (by omega) ?_
  refine G_aload_n 1 dr_cJ5_append_cf1ce_24 rfl ?_
  refine G_aload_n 1 dr_cJ5_append_cf1ce_25 rfl ?_
  refine Gp_get 3 hm659812 he659808 dr_cJ5_append_cf1ce_26 (gk_J4 D I) (Nat.le_of_ble_eq_true rfl) wr_7_64 rfl ?_
  refine G_aload_n 2 dr_cJ5_append_cf1ce_29 rfl ?_
  refine Gw_callVB (As := [.int p659774, .ref qs659770]) (gV_ok D I) (cp_659481_AbstractStringBuilder_putStringAt l hl0 D I P659804 F659805 q659768 q659796 p659774 qs659770 qb659771 bs659772 p659773 p659774 f659798 n659797 hm659812 hm659810 he659808 he659809 hbs659772 nbs659772 lbs659772 bp659774 bp659773 bp659774 bf659798 (by have qa0 : Int32.toInt 0 = 0 := (by decide); omega) (by have qa0 : Int32.toInt 0 = 0 := (by decide); omega)) dr_cJ5_append_cf1ce_30 ⟨wr_8_155, wr_1_19, wr_8_158, by decide, rfl, (Nat.le_of_ble_eq_true rfl), (Nat.le_of_ble_eq_true rfl)⟩ wr_8_157 wr_s_4 hm659812 he659808 rfl (show 1 + 0 ≤ 1 by first | omega | decide) (show 2 * (n659797 - n659776) + 0 ≤ (4 * n659776 + 4 + 2 * bs659772.length) by first | omega | decide) (Nat.le_of_ble_eq_true rfl) (fun r659821 w659822 dc659818 ds659819 hp659820 => ?_) (fun _ _ _ _ _ z => z.elim)
  obtain ⟨F659827, f659823, rfl, rfl, hfr659829, he659830, he659831, hdc, hds, bf659823, x659824, x659825, ht659826⟩ := hp659820
  have hfr659832 : rFr [q659768, q659769] P659766 F659767 F659827 := rFr_call hsb659815 hfr659817 hfr659829 (fun b hb hn => ⟨(nm_c (fun e => hn (e ▸ List.mem_cons_self)) nm_n), (nm_c (fun e => hor659814.elim (fun e2 => hn ((e.trans e2) ▸ (List.mem_cons_of_mem _ List.mem_cons_self))) (fun n => n (e ▸ hb))) nm_n)⟩)
  change G _ _ _ _ _ _ _ _ _ _ _
  refine G_widen (cs' := 1) (sl' := 2 * (n659797 - n659776) + 0) (by omega) (by omega) ?_
  refine G_aload_n 1 dr_cJ5_append_cf1ce_33 rfl ?_
  refine G_dup dr_cJ5_append_cf1ce_34 rfl ?_
  refine Gp_get 3 hm659812 he659830 dr_cJ5_append_cf1ce_35 (gk_J4 D I) (Nat.le_of_ble_eq_true rfl) wr_7_64 rfl ?_
  refine G_iload_n 0 dr_cJ5_append_cf1ce_38 rfl ?_
  refine G_iadd dr_cJ5_append_cf1ce_39 (G_nam fun z659833 hz659833 => ?_)
  have ez659833 : z659833.toInt = p659774.toInt + o659787.toInt := by rw [gI_add hz659833 bp659774 bo659787 (by decide) (by decide)]
  have bz659833 : gB z659833 0 16842751 := gB_add (gI_add hz659833 bp659774 bo659787 (by decide) (by decide)) bp659774 bo659787 (by decide) (by decide)
  refine Gp_put 3 hm659812 he659830 dr_cJ5_append_cf1ce_40 (gk_J4 D I) (Nat.le_of_ble_eq_true rfl) wr_7_64 rfl rfl rfl (Nat.le_of_ble_eq_true rfl) (fun F659834 e659835 n659836 => ?_)
  have he659837 : F659834 q659796 = .inl (I .byte, n659797, .inl f659823) := (n659836 q659796 (rn_ao he659831 he659830)).trans he659831
  have he659838 : F659834 q659768 = .inr (1, [.ref q659796, .int 0, .int p659773, .int z659833]) := e659835
  have hfr659839 : rFr [q659768, q659769] P659766 F659767 F659834 := rFr_put' List.mem_cons_self hfr659832 n659836
  refine G_aload_n 1 dr_cJ5_append_cf1ce_43 rfl ?_
  exact G_aretA (FieldType.object "java/lang/AbstractStringBuilder") dr_cJ5_append_cf1ce_44 rfl (by first | exact Or.inl ⟨_, rfl⟩ | exact Or.inr ⟨_, rfl⟩) (Or.inr ⟨_, rfl⟩) (Nat.le_of_ble_eq_true rfl) (show 2 * (n659797 - n659776) + 0 ≤ (4 * n659776 + 4 + 2 * bs659772.length) by omega) ⟨P659804, F659834, z659833, q659796, n659797, f659823, rfl, rfl, hsb659815, hfr659839, he659838, he659837, hm659810, hor659814, (Nat.le_of_ble_eq_true rfl), (by omega), ⟨by omega, by omega⟩, bf659823, (by have qa0 : Int32.toInt 0 = 0 := (by decide); omega), (by have qa0 : Int32.toInt 0 = 0 := (by decide); omega), (by have qa0 : Int32.toInt 0 = 0 := (by decide); omega), (by have qa0 : Int32.toInt 0 = 0 := (by decide); omega), (by have qa0 : Int32.toInt 0 = 0 := (by decide); omega), (fun R c1 => c1 o659787 z659790 n659797 f659798 f659823 z659833 bo659787 ht659789 ez659790 ht659803 ht659826 ez659833)⟩
/- tr_RStringBuilder_append6: a.0...count, a.0.value.#, a.0.value.[] -/
def tr_RStringBuilder_append6 (bs : List Int32) (a0_count : Int32) (a0_value_v : Nat → Int32) (a0_value_n : Nat) (o1 : Int32) (o2 : Nat) (o3 : Nat → Int32) : Prop := ∀ R : (Int32) → (Nat) → (Nat → Int32) → Prop,
  (∀ (x1 : Int32) (x2 : Nat) (x3 : Nat → Int32), gB x1 0 16777216 → tr_RAbstractStringBuilder_append6 bs a0_count a0_value_v a0_value_n x1 x2 x3 → R x1 x2 x3) →
  R o1 o2 o3
end
