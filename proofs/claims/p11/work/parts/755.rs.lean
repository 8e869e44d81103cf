/-! the state of the reference: every cell of the pool has a kind (γ 0), and fits it. γ 1: family; γ 2: size of a list; γ 3: the list that an array belongs to; γ 4, γ 5: where a row lies; γ 6: blocks of a valid program; γ 7: bound of slots; γ 8: place in the store; γ 9: the cells of the model; γ 10, γ 11, γ 12: rows of live and joined, and the length of result and letters; γ 13: capacity of a list; γ 14: list of a block, blocks of a program; γ 15: end of a block, rows of a program; γ 16: rows in use of a family; γ 17: largest size of a list so far; γ 18: loose rows of a family; γ 19: bound of goals; γ 20: block of a list; γ 21: program of a family; γ 22: 1 for ends -/
def rsum (f : Nat → Nat) : Nat → Nat
  | 0 => 0
  | n + 1 => rsum f n + f n
def rKd (γ : Nat → Nat → Nat) (a k : Nat) : Prop := γ 0 a = k
def rFm (γ : Nat → Nat → Nat) (a b : Nat) : Prop := γ 1 a = γ 1 b
def rOw (γ : Nat → Nat → Nat) (a b : Nat) : Prop := γ 4 a = b ∧ γ 22 a = 1
def rOl (γ : Nat → Nat → Nat) (a b : Nat) : Prop := γ 3 a = b ∧ γ 1 a = γ 1 b
def rF1 (γ : Nat → Nat → Nat) (a j : Nat) : Prop := γ 1 a = j
def rGl (γ : Nat → Nat → Nat) (x l n : Nat) : Prop := γ 14 x = l ∧ γ 15 x = n ∧ γ 20 l = x
def rGc (γ : Nat → Nat → Nat) (x lb lr : Nat) : Prop := γ 14 x = lb ∧ γ 15 x = lr ∧ γ 21 (γ 1 x) = x
def rCp (γ : Nat → Nat → Nat) (x : Nat) : Prop := γ 2 x ≤ γ 17 x ∧ 2 * γ 13 x ≤ 3 * γ 17 x + 20 ∧ (γ 13 x = 0 ∨ 10 ≤ γ 13 x)
def rCd (γ el : Nat → Nat → Nat) (x lb : Nat) (rn md : Int) : Prop := rn = γ 16 (γ 1 x) ∧ rsum (fun i => γ 2 (γ 14 (el lb i))) md.toNat + γ 18 (γ 1 x) ≤ γ 16 (γ 1 x)
def rkR (e : va_E) : Prop := ∃ op t a b s ra rb : Int32, e = .inr (20, [.int op, .int t, .int a, .int b, .int s, .int ra, .int rb]) ∧ gB op 0 32 ∧ gB t 0 1999 ∧ gB s 0 1999 ∧ gB ra 0 1 ∧ gB rb 0 1 ∧ (op.toInt ≤ 14 ∨ 20 ≤ op.toInt) ∧ (ra.toInt = 0 ∨ (0 ≤ a.toInt ∧ a.toInt ≤ 1999)) ∧ (rb.toInt = 0 ∨ (0 ≤ b.toInt ∧ b.toInt ≤ 1999))
def rk_11 (I : FieldType → ClassId) (e : va_E) : Prop := ∃ f : Nat → Int64, e = .inl (I .long, 32, .inr (.inl f)) ∧ lb_W f (32) (32) (2000)
def rk_35 (I : FieldType → ClassId) (e : va_E) : Prop := ∃ f : Nat → Int64, e = .inl (I .long, 32, .inr (.inl f)) ∧ lb_W f (32) (32) (2000)
def rk_36 (I : FieldType → ClassId) (e : va_E) : Prop := ∃ f : Nat → Int64, e = .inl (I .long, 32, .inr (.inl f)) ∧ lb_W f (32) (32) (2000)
def rk_14 (I : FieldType → ClassId) (e : va_E) : Prop := ∃ f : Nat → Int32, e = .inl (I .boolean, 2000, .inl f) ∧ gF f 0 1
def rk_15 (I : FieldType → ClassId) (e : va_E) : Prop := ∃ f : Nat → Int32, e = .inl (I .boolean, 2000, .inl f) ∧ gF f 0 1
def rk_16 (I : FieldType → ClassId) (e : va_E) : Prop := ∃ f : Nat → Int32, e = .inl (I .int, 40, .inl f)
def rk_17 (I : FieldType → ClassId) (e : va_E) : Prop := ∃ f : Nat → Int32, e = .inl (I .int, 2000, .inl f)
def rk_18 (I : FieldType → ClassId) (e : va_E) : Prop := ∃ f : Nat → Int32, e = .inl (I .int, 2000, .inl f) ∧ gF f 0 1999
def rk_19 (I : FieldType → ClassId) (e : va_E) : Prop := ∃ f : Nat → Int32, e = .inl (I .int, 2000, .inl f)
def rk_20 (I : FieldType → ClassId) (e : va_E) : Prop := ∃ f : Nat → Int32, e = .inl (I .int, 2000, .inl f) ∧ gF f (-1) 31
def rk_21 (I : FieldType → ClassId) (e : va_E) : Prop := ∃ f : Nat → Int32, e = .inl (I .int, 2000, .inl f) ∧ gF f (-1) 1999
def rk_22 (I : FieldType → ClassId) (e : va_E) : Prop := ∃ f : Nat → Int32, e = .inl (I .int, 2000, .inl f)
def rk_23 (I : FieldType → ClassId) (e : va_E) : Prop := ∃ f : Nat → Int32, e = .inl (I .int, 2000, .inl f)
def rk_97 (I : FieldType → ClassId) (e : va_E) : Prop := ∃ f : Nat → Int32, e = .inl (I .int, 512, .inl f)
def rk_99 (I : FieldType → ClassId) (e : va_E) : Prop := ∃ f : Nat → Int32, e = .inl (I .byte, 8192, .inl f) ∧ gF f (-128) 127
def rk_98 (I : FieldType → ClassId) (e : va_E) : Prop := ∃ (n : Nat) (f : Nat → Int32), e = .inl (I .int, n, .inl f) ∧ (n : Int) ≤ 2048
def rk_96 (I : FieldType → ClassId) (γ : Nat → Nat → Nat) (x : Nat) (e : va_E) : Prop := ∃ (n : Nat) (f : Nat → Int32), e = .inl (I .byte, n, .inl f) ∧ gF f (-128) 127 ∧ (n : Int) ≤ 16777216 ∧ n = γ 12 x
def rk_29 (I : FieldType → ClassId) (γ : Nat → Nat → Nat) (x : Nat) (e : va_E) : Prop := ∃ (n : Nat) (f : Nat → Int32), e = .inl (I .byte, n, .inl f) ∧ gF f (-128) 127 ∧ (n : Int) ≤ 16777216 ∧ n = γ 12 x
def rk_1 (γ : Nat → Nat → Nat) (x : Nat) (e : va_E) : Prop := ∃ op t a b s ra rb : Int32, e = .inr (20, [.int op, .int t, .int a, .int b, .int s, .int ra, .int rb]) ∧ gB op 0 32 ∧ gB t 0 1999 ∧ gB s 0 1999 ∧ gB ra 0 1 ∧ gB rb 0 1 ∧ (op.toInt ≤ 14 ∨ 20 ≤ op.toInt) ∧ (ra.toInt = 0 ∨ (0 ≤ a.toInt ∧ a.toInt ≤ 1999)) ∧ (rb.toInt = 0 ∨ (0 ≤ b.toInt ∧ b.toInt ≤ 1999)) ∧ ((op.toInt ≠ 21 ∧ op.toInt ≠ 23) ∨ s.toInt < γ 7 (γ 1 x)) ∧ (γ 22 x = 0 ∨ 30 ≤ op.toInt)
def rk_2 (γ : Nat → Nat → Nat) (x : Nat) (e : va_E) : Prop := ∃ (l n : Nat) (f s : Int32), e = .inr (17, [.ref l, .ref n, .int f, .int s]) ∧ rGl γ x l n ∧ rKd γ l 3 ∧ rFm γ l x ∧ rKd γ n 1 ∧ rFm γ n x ∧ rOw γ n x ∧ gB f 0 39 ∧ gB s 0 39 ∧ (γ 6 (γ 1 x) = 0 ∨ (f.toInt < γ 6 (γ 1 x) ∧ s.toInt < γ 6 (γ 1 x))) ∧ f.toInt < γ 19 (γ 1 x) ∧ s.toInt < γ 19 (γ 1 x)
def rk_202 (γ : Nat → Nat → Nat) (x : Nat) (e : va_E) : Prop := ∃ (l n : Nat) (f s : Int32), e = .inr (17, [.ref l, .ref n, .int f, .int s]) ∧ rGl γ x l n ∧ rKd γ l 3 ∧ rFm γ l x ∧ rKd γ n 101 ∧ rFm γ n x ∧ rOw γ n x ∧ gB f 0 39 ∧ gB s 0 39
def rk_102 (γ : Nat → Nat → Nat) (x : Nat) (e : va_E) : Prop := ∃ (l n : Nat) (f s : Int32), e = .inr (17, [.ref l, .ref n, .int f, .int s]) ∧ rGl γ x l n ∧ rKd γ l 103 ∧ rFm γ l x ∧ rKd γ n 101 ∧ rFm γ n x ∧ rOw γ n x ∧ gB f 0 39 ∧ gB s 0 39
/-- a list: its array, if it has one, and what lies there -/
def rLK (γ : Nat → Nat → Nat) (w : Nat) : Prop := γ 0 w = 1 ∨ γ 0 w = 2 ∨ γ 0 w = 101 ∨ γ 0 w = 102 ∨ γ 0 w = 202
def rLN (I : FieldType → ClassId) (γ el : Nat → Nat → Nat) (F : Nat → va_E) (ka x e : Nat) : Prop := rKd γ e ka ∧ rOl γ e x ∧ ∃ (n : Nat) (f : Nat → Option Nat), F e = .inl (I (.object "java/lang/Object"), n, .inr (.inr (.inr (.inr f)))) ∧ γ 2 x ≤ n ∧ (n : Int) ≤ 1000000 ∧ (n = γ 13 x ∧ 10 ≤ n) ∧ (∀ i, i < γ 2 x → f i = some (el x i)) ∧ ∀ j w, f j = some w → rLK γ w
def rLC (D : va_G) (I : FieldType → ClassId) (γ el : Nat → Nat → Nat) (F : Nat → va_E) (ka x e : Nat) : Prop := (e = D.2 1002 1 ∧ γ 2 x = 0 ∧ γ 13 x = 0) ∨ rLN I γ el F ka x e
def rkL (D : va_G) (I : FieldType → ClassId) (γ el : Nat → Nat → Nat) (F : Nat → va_E) (ka x : Nat) : Prop := ∃ (m z : Int32) (e : Nat), F x = .inr (4, [.int m, .ref e, .int z]) ∧ z.toInt = γ 2 x ∧ (γ 2 x : Int) ≤ 1000000 ∧ rLC D I γ el F ka x e ∧ rCp γ x
theorem rLC_n {D : va_G} {I : FieldType → ClassId} {γ el : Nat → Nat → Nat} {F : Nat → va_E} {ka x e : Nat} (h : rLC D I γ el F ka x e) (h0 : γ 2 x ≠ 0) : rLN I γ el F ka x e := h.resolve_left (fun z => h0 z.2.1)
def rk_3 (D : va_G) (I : FieldType → ClassId) (γ el : Nat → Nat → Nat) (F : Nat → va_E) (x : Nat) : Prop := rkL D I γ el F 6 x ∧ ∀ i, i < γ 2 x → γ 0 (el x i) = 1 ∧ γ 1 (el x i) = γ 1 x ∧ γ 4 (el x i) = x ∧ γ 5 (el x i) = i ∧ γ 22 (el x i) = 0
def rk_4 (D : va_G) (I : FieldType → ClassId) (γ el : Nat → Nat → Nat) (F : Nat → va_E) (x : Nat) : Prop := rkL D I γ el F 7 x ∧ ∀ i, i < γ 2 x → (γ 0 (el x i) = 2 ∨ γ 0 (el x i) = 202 ∨ γ 0 (el x i) = 102) ∧ γ 1 (el x i) = γ 1 x ∧ γ 8 (el x i) = i
def rk_5 (D : va_G) (I : FieldType → ClassId) (γ el : Nat → Nat → Nat) (F : Nat → va_E) (x : Nat) : Prop := rkL D I γ el F 8 x ∧ ∀ i, i < γ 2 x → (γ 0 (el x i) = 1 ∨ γ 0 (el x i) = 101) ∧ γ 1 (el x i) = γ 1 x ∧ γ 8 (el x i) = i ∧ γ 22 (el x i) = 0
def rk_9 (γ el : Nat → Nat → Nat) (x : Nat) (e : va_E) : Prop := ∃ (lb lr : Nat) (rn md : Int32), e = .inr (18, [.ref lb, .ref lr, .int rn, .int md]) ∧ rGc γ x lb lr ∧ rKd γ lb 4 ∧ rFm γ lb x ∧ rKd γ lr 5 ∧ rFm γ lr x ∧ 0 ≤ rn.toInt ∧ rn.toInt ≤ γ 2 lr ∧ 0 ≤ md.toInt ∧ md.toInt ≤ γ 2 lb ∧ (γ 2 lr : Int) ≤ 1000000 ∧ (γ 2 lb : Int) ≤ 1000000 ∧ (γ 6 (γ 1 x) = 0 ∨ (md.toInt = γ 6 (γ 1 x) ∧ md.toInt ≤ 40 ∧ γ 19 (γ 1 x) ≤ γ 6 (γ 1 x))) ∧ (∀ i : Nat, (i : Int) < md.toInt → γ 0 (el lb i) = 2 ∨ (γ 6 (γ 1 x) = 0 ∧ γ 0 (el lb i) = 202)) ∧ (∀ i : Nat, md.toInt ≤ i → i < γ 2 lb → γ 0 (el lb i) = 102) ∧ (∀ i : Nat, rn.toInt ≤ i → i < γ 2 lr → γ 0 (el lr i) = 101) ∧ rCd γ el x lb rn.toInt md.toInt
def rk_12 (I : FieldType → ClassId) (γ : Nat → Nat → Nat) (e : va_E) : Prop := ∃ g : Nat → Option Nat, e = .inl (I (.array .long), 40, .inr (.inr (.inr (.inr g)))) ∧ ∀ i, i < 40 → g i = some (γ 10 i) ∧ γ 0 (γ 10 i) = 11 ∧ γ 12 (γ 10 i) = i
def rk_13 (I : FieldType → ClassId) (γ : Nat → Nat → Nat) (e : va_E) : Prop := ∃ g : Nat → Option Nat, e = .inl (I (.array .long), 2000, .inr (.inr (.inr (.inr g)))) ∧ ∀ i, i < 2000 → g i = some (γ 11 i) ∧ γ 0 (γ 11 i) = 36 ∧ γ 12 (γ 11 i) = i
def rM1 (v9 v10 v11 v14 v25 v26 v27 v32 v34 : Int32) : Prop := gB v9 0 1 ∧ gB v10 0 1 ∧ gB v11 0 100 ∧ gB v14 0 2000 ∧ gB v25 0 512 ∧ gB v26 0 100000 ∧ gB v27 0 2048 ∧ gB v32 0 8192 ∧ gB v34 0 16777216
def rM2 (γ : Nat → Nat → Nat) (v9 v10 v34 : Int32) (r35 : Nat) : Prop := (v9.toInt = 0 ∨ 0 < γ 6 0 ∨ 0 < γ 23 0) ∧ (v10.toInt = 0 ∨ 0 < γ 6 1 ∨ 0 < γ 23 1) ∧ v34.toInt ≤ γ 12 r35
def rk_10 (γ : Nat → Nat → Nat) (e : va_E) : Prop := ∃ (r28 r35 : Nat) (v9 v10 v11 v12 v13 v14 v23 v24 v25 v26 v27 v30 v32 v33 v34 : Int32), e = .inr (22, [.ref (γ 9 0), .ref (γ 9 1), .ref (γ 9 2), .ref (γ 9 3), .ref (γ 9 4), .ref (γ 9 5), .ref (γ 9 6), .ref (γ 9 7), .ref (γ 9 8), .int v9, .int v10, .int v11, .int v12, .int v13, .int v14, .ref (γ 9 15), .ref (γ 9 16), .ref (γ 9 17), .ref (γ 9 18), .ref (γ 9 19), .ref (γ 9 20), .ref (γ 9 21), .ref (γ 9 22), .int v23, .int v24, .int v25, .int v26, .int v27, .ref r28, .ref (γ 9 29), .int v30, .ref (γ 9 31), .int v32, .int v33, .int v34, .ref r35]) ∧ rM1 v9 v10 v11 v14 v25 v26 v27 v32 v34 ∧ rKd γ r28 98 ∧ rKd γ r35 96 ∧ rKd γ (γ 9 0) 12 ∧ rKd γ (γ 9 1) 13 ∧ rKd γ (γ 9 2) 35 ∧ rKd γ (γ 9 3) 14 ∧ rKd γ (γ 9 4) 16 ∧ rKd γ (γ 9 5) 17 ∧ rKd γ (γ 9 6) 9 ∧ rKd γ (γ 9 7) 9 ∧ rKd γ (γ 9 8) 9 ∧ rKd γ (γ 9 15) 18 ∧ rKd γ (γ 9 16) 19 ∧ rKd γ (γ 9 17) 20 ∧ rKd γ (γ 9 18) 15 ∧ rKd γ (γ 9 19) 21 ∧ rKd γ (γ 9 20) 22 ∧ rKd γ (γ 9 21) 23 ∧ rKd γ (γ 9 22) 97 ∧ rKd γ (γ 9 29) 28 ∧ rKd γ (γ 9 31) 99 ∧ rF1 γ (γ 9 6) 0 ∧ rF1 γ (γ 9 7) 1 ∧ rF1 γ (γ 9 8) 2 ∧ rM2 γ v9 v10 v34 r35
theorem rk10_t {γ γ1 : Nat → Nat → Nat} {e : va_E} (h9 : γ1 9 = γ 9) (hk : ∀ b, 4 ≤ γ 0 b → γ 0 b < 100 → γ1 0 b = γ 0 b) (h1 : ∀ b, γ 0 b ≠ 0 → γ1 1 b = γ 1 b) (hM : ∀ v9 v10 v34 r35, rM2 γ v9 v10 v34 r35 → rM2 γ1 v9 v10 v34 r35) (z : rk_10 γ e) : rk_10 γ1 e := by
  obtain ⟨r28, r35, v9, v10, v11, v12, v13, v14, v23, v24, v25, v26, v27, v30, v32, v33, v34, c0, c1, t28, t35, u0, u1, u2, u3, u4, u5, u6, u7, u8, u15, u16, u17, u18, u19, u20, u21, u22, u29, u31, m6, m7, m8, mm⟩ := z
  unfold rKd at t28 t35 u0 u1 u2 u3 u4 u5 u6 u7 u8 u15 u16 u17 u18 u19 u20 u21 u22 u29 u31
  unfold rk_10 rKd rF1
  rw [h9]
  exact ⟨r28, r35, v9, v10, v11, v12, v13, v14, v23, v24, v25, v26, v27, v30, v32, v33, v34, c0, c1, (hk _ (by omega) (by omega)).trans t28, (hk _ (by omega) (by omega)).trans t35, (hk _ (by omega) (by omega)).trans u0, (hk _ (by omega) (by omega)).trans u1, (hk _ (by omega) (by omega)).trans u2, (hk _ (by omega) (by omega)).trans u3, (hk _ (by omega) (by omega)).trans u4, (hk _ (by omega) (by omega)).trans u5, (hk _ (by omega) (by omega)).trans u6, (hk _ (by omega) (by omega)).trans u7, (hk _ (by omega) (by omega)).trans u8, (hk _ (by omega) (by omega)).trans u15, (hk _ (by omega) (by omega)).trans u16, (hk _ (by omega) (by omega)).trans u17, (hk _ (by omega) (by omega)).trans u18, (hk _ (by omega) (by omega)).trans u19, (hk _ (by omega) (by omega)).trans u20, (hk _ (by omega) (by omega)).trans u21, (hk _ (by omega) (by omega)).trans u22, (hk _ (by omega) (by omega)).trans u29, (hk _ (by omega) (by omega)).trans u31, (h1 _ (by omega)).trans m6, (h1 _ (by omega)).trans m7, (h1 _ (by omega)).trans m8, hM _ _ _ _ mm⟩
def rk_28 (γ : Nat → Nat → Nat) (e : va_E) : Prop := ∃ (r : Nat) (mb c : Int32), e = .inr (1, [.ref r, .int 0, .int mb, .int c]) ∧ gB mb 0 1 ∧ 0 ≤ c.toInt ∧ rKd γ r 29 ∧ c.toInt ≤ γ 12 r
def rFit (D : va_G) (I : FieldType → ClassId) (γ el : Nat → Nat → Nat) (F : Nat → va_E) (x : Nat) : Nat → Prop
  | 1 => rk_1 γ x (F x)
  | 2 => rk_2 γ x (F x)
  | 102 => rk_102 γ x (F x)
  | 202 => rk_202 γ x (F x)
  | 101 => rkR (F x)
  | 3 => rk_3 D I γ el F x
  | 4 => rk_4 D I γ el F x
  | 5 => rk_5 D I γ el F x
  | 103 => rkL D I γ el F 6 x
  | 9 => rk_9 γ el x (F x)
  | 10 => rk_10 γ (F x)
  | 28 => rk_28 γ (F x)
  | 12 => rk_12 I γ (F x)
  | 13 => rk_13 I γ (F x)
  | 11 => rk_11 I (F x)
  | 35 => rk_35 I (F x)
  | 36 => rk_36 I (F x)
  | 14 => rk_14 I (F x)
  | 15 => rk_15 I (F x)
  | 16 => rk_16 I (F x)
  | 17 => rk_17 I (F x)
  | 18 => rk_18 I (F x)
  | 19 => rk_19 I (F x)
  | 20 => rk_20 I (F x)
  | 21 => rk_21 I (F x)
  | 22 => rk_22 I (F x)
  | 23 => rk_23 I (F x)
  | 97 => rk_97 I (F x)
  | 99 => rk_99 I (F x)
  | 98 => rk_98 I (F x)
  | 96 => rk_96 I γ x (F x)
  | 29 => rk_29 I γ x (F x)
  | _ => True
def RS (D : va_G) (I : FieldType → ClassId) (P : List Nat) (F : Nat → va_E) (γ el : Nat → Nat → Nat) : Prop := (∀ a, γ 0 a ≠ 0 → a ∈ P) ∧ ∀ a, rFit D I γ el F a (γ 0 a)
/-- the cells of the programs are as before -/
def rStr (γ : Nat → Nat → Nat) (W : List Nat) (F F1 : Nat → va_E) : Prop := ∀ a, γ 0 a ≠ 0 → (γ 0 a ≤ 9 ∨ 96 ≤ γ 0 a) → γ 0 a ∉ W → F1 a = F a
section RS
variable {D : va_G} {I : FieldType → ClassId} {P : List Nat} {F F1 F2 : Nat → va_E} {γ el : Nat → Nat → Nat} {a k : Nat}
theorem RS_m (h : RS D I P F γ el) (hk : rKd γ a k) (h0 : k ≠ 0) : a ∈ P := h.1 a (by unfold rKd at hk; omega)
theorem RS_o (h : RS D I P F γ el) (hk : rKd γ a k) : rFit D I γ el F a k := by
  have e : γ 0 a = k := hk
  exact e ▸ h.2 a
theorem rkL_c {ka x : Nat} (h : F1 x = F x) (g : ∀ e, rKd γ e ka → F1 e = F e) (z : rkL D I γ el F ka x) : rkL D I γ el F1 ka x := by
  obtain ⟨m, s, e, h1, h2, h3, h4, hc⟩ := z
  refine ⟨m, s, e, h.trans h1, h2, h3, ?_, hc⟩
  rcases h4 with h4 | ⟨h4, h5, n, f, h6, h7⟩
  · exact Or.inl h4
  · exact Or.inr ⟨h4, h5, n, f, (g e h4).trans h6, h7⟩
theorem rFit_c {x : Nat} (k : Nat) (h : F1 x = F x) (g : ∀ e, (γ 0 e = 6 ∨ γ 0 e = 7 ∨ γ 0 e = 8) → F1 e = F e) (z : rFit D I γ el F x k) : rFit D I γ el F1 x k := by
  unfold rFit at z ⊢
  split at z <;> first
    | exact trivial
    | exact rkL_c h (fun e he => g e (Or.inl he)) z
    | exact ⟨rkL_c h (fun e he => g e (Or.inl he)) z.1, z.2⟩
    | exact ⟨rkL_c h (fun e he => g e (Or.inr (Or.inl he))) z.1, z.2⟩
    | exact ⟨rkL_c h (fun e he => g e (Or.inr (Or.inr he))) z.1, z.2⟩
    | (rw [h]; exact z)
/-- one cell that is no array of a list has changed -/
theorem RS_set (h : RS D I P F γ el) (n : ∀ b, b ≠ a → F1 b = F b) (hk0 : rKd γ a k) (h6 : k ≠ 6 ∧ k ≠ 7 ∧ k ≠ 8) (hf : rFit D I γ el F1 a k) : RS D I P F1 γ el := by
  have hk : γ 0 a = k := hk0
  refine ⟨h.1, fun b => ?_⟩
  by_cases e : b = a
  · subst e
    rw [hk]
    exact hf
  · exact rFit_c _ (n b e) (fun c hc => n c (fun e2 => by subst e2; omega)) (h.2 b)
theorem RS_fr (h : RS D I P F γ el) (n : rFr [a] P F F1) (hk0 : rKd γ a k) (h6 : k ≠ 6 ∧ k ≠ 7 ∧ k ≠ 8) (hf : rFit D I γ el F1 a k) : RS D I P F1 γ el := by
  have hk : γ 0 a = k := hk0
  refine ⟨h.1, fun b => ?_⟩
  have hn : ∀ c, γ 0 c ≠ 0 → c ≠ a → F1 c = F c := fun c hc e => n c (h.1 c hc) (nm_c e nm_n)
  by_cases e : b = a
  · subst e
    rw [hk]
    exact hf
  · by_cases h0 : γ 0 b = 0
    · rw [h0]
      exact trivial
    · exact rFit_c _ (hn b h0 e) (fun c hc => hn c (by omega) (fun e2 => by subst e2; omega)) (h.2 b)
theorem rStr_rf {W : List Nat} : rStr γ W F F := fun _ _ _ _ => rfl
theorem rStr_tr {W : List Nat} (h : rStr γ W F F1) (g : rStr γ W F1 F2) : rStr γ W F F2 := fun b h0 hb hw => (g b h0 hb hw).trans (h b h0 hb hw)
theorem rStr_w {W W2 : List Nat} (h : rStr γ W F F1) (hw : ∀ k, k ∈ W → k ∈ W2) : rStr γ W2 F F1 := fun b h0 hb hn => h b h0 hb (fun z => hn (hw _ z))
theorem rStr_put {W : List Nat} (h : rStr γ W F F1) (n : ∀ b, b ≠ a → F2 b = F1 b) (hk : rKd γ a k) (hr : 9 < k ∧ k < 96) : rStr γ W F F2 := fun b h0 hb hw => (n b (fun e => by unfold rKd at hk; subst e; omega)).trans (h b h0 hb hw)
theorem rStr_pu2 {W : List Nat} (h : rStr γ W F F1) (n : ∀ b, b ≠ a → F2 b = F1 b) (hk : rKd γ a k) (hr : k ∈ W) : rStr γ W F F2 := fun b h0 hb hw => (n b (fun e => by have h1 : γ 0 a = k := hk; subst e; exact hw (h1 ▸ hr))).trans (h b h0 hb hw)
theorem rStr_fr {W : List Nat} (hT : RS D I P F1 γ el) (h : rStr γ W F F1) (n : rFr [a] P F1 F2) (hk : rKd γ a k) (hr : 9 < k ∧ k < 96) : rStr γ W F F2 := fun b h0 hb hw => (n b (hT.1 b h0) (nm_c (fun e => by unfold rKd at hk; subst e; omega) nm_n)).trans (h b h0 hb hw)
theorem rT2 {W : List Nat} (h : rKd γ a k) (hk : k ∉ W) : γ 0 a ∉ W := fun z => by
  have h1 : γ 0 a = k := h
  rw [h1] at z
  exact hk z
theorem rn_ty {b c j : Nat} (hb : rKd γ b j) (ha : rKd γ c k) (hne : ¬ j = k) : b ≠ c := fun e => by unfold rKd at hb ha; subst e; omega
theorem rT0 (h : rKd γ a k) (hk : k ≠ 0) : γ 0 a ≠ 0 := by unfold rKd at h; omega
theorem rT1 (h : rKd γ a k) (hk : k ≤ 9 ∨ 96 ≤ k) : γ 0 a ≤ 9 ∨ 96 ≤ γ 0 a := by unfold rKd at h; omega
end RS
