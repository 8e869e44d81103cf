/-! a program begun; a program is valid -/
def rGq (D : va_G) (I : FieldType → ClassId) (P : List Nat) (F : Nat → va_E) (γ el : Nat → Nat → Nat) (f c B : Nat) (F1 : Nat → va_E) (γ1 el1 : Nat → Nat → Nat) : Prop :=
  rSt f [1, 2, 3, 202] [1, 2, 3, 9, 202] D I P F γ el P F1 γ1 el1 ∧ γ1 6 f = 0 ∧ γ1 7 f = 0 ∧ γ1 16 f = 0 ∧ γ1 18 f = 0 ∧ γ1 19 f = B ∧ γ1 23 f = 1 ∧ γ1 2 = γ 2 ∧ el1 = el ∧ (fI (F1 c) 3).toInt = 0 ∧ rPh γ1 el1 f = rPh γ el f ∧ rM γ1 el1 f = rM γ el f ∧ ∀ C, rBd γ el f C → rBd γ1 el1 f C
def gVal (γ : Nat → Nat → Nat) (j f n : Nat) : Nat → Nat → Nat := fun i g => if i = j ∧ g = f then n else γ i g
section RT3
variable {l : Launch} {R : Room} {Qf : gFin} {k : gKey} {pc cs sl i : Nat} {L : List (Nat × Value)} {st : List Value} {D : va_G} {I : FieldType → ClassId} {P : List Nat} {F : Nat → va_E} {γ el : Nat → Nat → Nat} {c f : Nat}
theorem Gt_beg (B : Nat) (hl0 : l.stackTraces = false) (d : decode k.1 pc = .ok (.invokevirtual i, 3)) (hw : gCw (gV D I) R k.2.2.1 i yX13_begin cX13_begin 1 none 0 0 0) (w2 : Cond.instanceMethod yX13_begin ∈ (gV D I).2.2.2.2) (w3 : Cond.selects yX13_begin.cls yX13_begin yX13_begin ∈ (gV D I).2.2.2.2)
    (hT : RS D I P F γ el) (hc : γ 0 c = 9) (hcf : γ 1 c = f) (hcs : cs + 0 ≤ R.cells) (hsl : sl + 0 ≤ R.slots) (hcat : (st.map fun u => u.category).sum ≤ 8)
    (kk : ∀ F1 γ1 el1, rGq D I P F γ el f c B F1 γ1 el1 → G (gV D I) l R Qf k (pc + 3) L st (va_pl P F1) cs sl) :
    G (gV D I) l R Qf k pc L (.ref c :: st) (va_pl P F) cs sl := by
  have h9 : rk_9 γ el c (F c) := RS_o hT hc
  obtain ⟨lb, lr, rn, md, w1, -⟩ := id h9
  obtain ⟨u2, u3, u4, u5, u6, u7, u8, u9, u10, u11, u12, u13, u14, u15, u16, u17⟩ := rk9_at w1 h9
  have mc : c ∈ P := hT.1 c (by omega)
  refine Gw_callV (As := []) (gV_ok D I) (cp_3928_Code_begin l hl0 D I P F c lb lr rn md mc w1 ⟨by omega, by omega⟩ ⟨by omega, by omega⟩) d hw w2 w3 mc w1 rfl (by omega) (by omega) hcat (fun r w dc ds hp => ?_) (fun _ _ _ _ _ z => z.elim)
  obtain ⟨F1, rfl, rfl, p1, p2, p3, p4⟩ := hp
  obtain ⟨h1, h2, h3, h4⟩ := St_beg (f := f) B hT hc hcf w1 (fun a h0 hne => p1 a (hT.1 a h0) (nm_c hne nm_n)) p2
  refine G_widen (cs' := cs) (sl' := sl) (by omega) (by omega) ?_
  exact kk F1 _ _ ⟨h1, if_pos rfl, if_pos rfl, if_pos rfl, if_pos rfl, if_pos rfl, if_pos rfl, rfl, rfl, by rw [p2]; rfl, h2, h3, h4⟩
theorem gVal_ne {j n a : Nat} (h : a ≠ j) : gVal γ j f n a = γ a := by funext g; unfold gVal; rw [if_neg (fun z => h z.1)]
theorem gVal_g {j n a g : Nat} (h : g ≠ f) : gVal γ j f n a g = γ a g := by unfold gVal; rw [if_neg (fun z => h z.2)]
theorem gVal_s {j n : Nat} : gVal γ j f n j f = n := by unfold gVal; rw [if_pos ⟨rfl, rfl⟩]
/-- all blocks are finished: the program is valid -/
theorem St_val {n : Nat} (hT : RS D I P F γ el) (hc : γ 0 c = 9) (hcf : γ 1 c = f) (h0 : γ 6 f = 0) (hn : 0 < n) (h40 : n ≤ 40) (h19 : γ 19 f ≤ n) (hmd : (fI (F c) 3).toInt = n) (hk : ∀ i, i < n → γ 0 (el (γ 14 c) i) = 2) :
    rSt f [] [] D I P F γ el P F (gVal γ 6 f n) el ∧ rPh (gVal γ 6 f n) el f = rPh γ el f ∧ rM (gVal γ 6 f n) el f = rM γ el f ∧ ∀ C, rBd γ el f C → rBd (gVal γ 6 f n) el f C := by
  have e : ∀ j, j ≠ 6 → gVal γ 6 f n j = γ j := fun j h => gVal_ne h
  refine ⟨St_num hT hc hcf (fun j h _ _ _ => e j h) (fun j g h => gVal_g h) (by rw [e 7 (by decide)]; exact Nat.le_refl _) ⟨by rw [e 19 (by decide)]; exact Nat.le_refl _, Or.inr (Or.inr (by rw [gVal_s]; exact h19))⟩ (fun g _ h => ?_) (fun lb lr rn md hF h9 => ?_), ?_, ?_, fun C hC => ?_⟩
  · rw [e 23 (by decide)]
    by_cases q : g = f
    · rw [q, gVal_s]; exact Or.inl hn
    · rw [gVal_g q]; exact h
  · rw [gVal_s, e 19 (by decide)]
    have hmd2 : md.toInt = n := by rw [hF] at hmd; exact hmd
    obtain ⟨u2, -⟩ := rk9_at hF h9
    rw [u2.1] at hk
    exact ⟨Or.inr ⟨hmd2, by omega, h19⟩, fun i hi => Or.inl (hk i (by omega))⟩
  · unfold rPh rPhc
    rw [e 21 (by decide), e 14 (by decide), e 15 (by decide), e 13 (by decide), e 2 (by decide)]
  · unfold rM rMc
    rw [e 21 (by decide), e 14 (by decide), e 15 (by decide), e 17 (by decide), e 2 (by decide)]
  · unfold rBd at hC ⊢
    rw [e 21 (by decide), e 14 (by decide), e 15 (by decide), e 16 (by decide), e 17 (by decide), e 2 (by decide)]
    exact hC
/-- the programs' numbers fit the flags again -/
theorem St_free (hT : RS D I P F γ el) (hc : γ 0 c = 9) (hcf : γ 1 c = f) (h : 1 < f ∨ 0 < γ 6 f) : rSt f [] [] D I P F γ el P F (gVal γ 23 f 0) el ∧ rPh (gVal γ 23 f 0) el f = rPh γ el f ∧ rM (gVal γ 23 f 0) el f = rM γ el f ∧ ∀ C, rBd γ el f C → rBd (gVal γ 23 f 0) el f C := by
  have e : ∀ j, j ≠ 23 → gVal γ 23 f 0 j = γ j := fun j h => gVal_ne h
  refine ⟨St_num hT hc hcf (fun j _ _ _ h => e j h) (fun j g h => gVal_g h) (by rw [e 7 (by decide)]; exact Nat.le_refl _) ⟨by rw [e 19 (by decide)]; exact Nat.le_refl _, Or.inl (by rw [e 6 (by decide)])⟩ (fun g hg z => ?_) (fun lb lr rn md hF h9 => ?_), ?_, ?_, fun C hC => ?_⟩
  · rw [e 6 (by decide)]
    by_cases q : g = f
    · rw [q] at hg ⊢
      rcases h with h | h
      · omega
      · exact Or.inl h
    · rw [gVal_g q]; exact z
  · rw [e 6 (by decide), e 19 (by decide)]
    obtain ⟨u2, u3, u4, u5, u6, u7, u8, u9, u10, u11, u12, u13, u14, -⟩ := rk9_at hF h9
    rw [hcf] at u13 u14
    exact ⟨u13, u14⟩
  · unfold rPh rPhc
    rw [e 21 (by decide), e 14 (by decide), e 15 (by decide), e 13 (by decide), e 2 (by decide)]
  · unfold rM rMc
    rw [e 21 (by decide), e 14 (by decide), e 15 (by decide), e 17 (by decide), e 2 (by decide)]
  · unfold rBd at hC ⊢
    rw [e 21 (by decide), e 14 (by decide), e 15 (by decide), e 16 (by decide), e 17 (by decide), e 2 (by decide)]
    exact hC
/-- more slots -/
theorem St_slots {n : Nat} (hT : RS D I P F γ el) (hc : γ 0 c = 9) (hcf : γ 1 c = f) (h : γ 7 f ≤ n) : rSt f [] [] D I P F γ el P F (gVal γ 7 f n) el ∧ rPh (gVal γ 7 f n) el f = rPh γ el f ∧ rM (gVal γ 7 f n) el f = rM γ el f ∧ ∀ C, rBd γ el f C → rBd (gVal γ 7 f n) el f C := by
  have e : ∀ j, j ≠ 7 → gVal γ 7 f n j = γ j := fun j h => gVal_ne h
  refine ⟨St_num hT hc hcf (fun j _ h _ _ => e j h) (fun j g h => gVal_g h) (by rw [gVal_s]; exact h) ⟨by rw [e 19 (by decide)]; exact Nat.le_refl _, Or.inl (by rw [e 6 (by decide)])⟩ (fun g hg z => by rw [e 6 (by decide), e 23 (by decide)]; exact z) (fun lb lr rn md hF h9 => ?_), ?_, ?_, fun C hC => ?_⟩
  · rw [e 6 (by decide), e 19 (by decide)]
    obtain ⟨u2, u3, u4, u5, u6, u7, u8, u9, u10, u11, u12, u13, u14, -⟩ := rk9_at hF h9
    rw [hcf] at u13 u14
    exact ⟨u13, u14⟩
  · unfold rPh rPhc
    rw [e 21 (by decide), e 14 (by decide), e 15 (by decide), e 13 (by decide), e 2 (by decide)]
  · unfold rM rMc
    rw [e 21 (by decide), e 14 (by decide), e 15 (by decide), e 17 (by decide), e 2 (by decide)]
  · unfold rBd at hC ⊢
    rw [e 21 (by decide), e 14 (by decide), e 15 (by decide), e 16 (by decide), e 17 (by decide), e 2 (by decide)]
    exact hC
end RT3
section RT4
variable {D : va_G} {I : FieldType → ClassId} {P : List Nat} {F : Nat → va_E} {γ el : Nat → Nat → Nat} {c f b n : Nat}
/-- of a valid program -/
theorem RS_valid (hT : RS D I P F γ el) (hc : γ 0 c = 9) (hcf : γ 1 c = f) (h : 0 < γ 6 f) : γ 6 f ≤ γ 2 (γ 14 c) ∧ γ 6 f ≤ 40 ∧ (fI (F c) 3).toInt = γ 6 f ∧ (∀ i, i < γ 6 f → γ 0 (el (γ 14 c) i) = 2) ∧ rsum (fun i => γ 2 (γ 14 (el (γ 14 c) i))) (γ 6 f) ≤ γ 16 f := by
  have h9 : rk_9 γ el c (F c) := RS_o hT hc
  obtain ⟨lb, lr, rn, md, w1, -⟩ := id h9
  obtain ⟨u2, u3, u4, u5, u6, u7, u8, u9, u10, u11, u12, u13, u14, u15, u16, u17⟩ := rk9_at w1 h9
  rw [hcf] at u13 u14
  have e := u13.resolve_left (by omega)
  have q := u17.2
  rw [hcf, show md.toInt.toNat = γ 6 f by omega] at q
  rw [u2.1]
  refine ⟨by omega, by omega, by rw [w1]; exact e.1, fun i hi => (u14 i (by omega)).resolve_right (fun z => by omega), by omega⟩
theorem rsum_1 {g : Nat → Nat} {k k1 : Int} (h : k1 = k + 1) (h0 : 0 ≤ k) : rsum g k1.toNat = rsum g k.toNat + g k.toNat := by
  rw [show k1.toNat = k.toNat + 1 by omega]
  rfl
theorem gSea_ph : rPh (gSea γ b n) el f = rPh γ el f ∧ rM (gSea γ b n) el f = rM γ el f ∧ ∀ C, rBd γ el f C → rBd (gSea γ b n) el f C := ⟨rfl, rfl, fun _ h => h⟩
/-- the first n blocks are finished -/
def rKb (γ el : Nat → Nat → Nat) (c n : Nat) : Prop := ∀ i, i < n → γ 0 (el (γ 14 c) i) = 2
theorem rKb_t {γ1 el1 : Nat → Nat → Nat} {P1 : List Nat} {F1 : Nat → va_E} {K KF : List Nat} (h : rKb γ el c n) (hk : rSk f K KF D I P F γ el P1 F1 γ1 el1) (h2 : 2 ∉ K) (e : γ1 14 c = γ 14 c) (he : ∀ i, i < n → el1 (γ 14 c) i = el (γ 14 c) i) : rKb γ1 el1 c n := fun i hi => by
  have z := h i hi
  rw [e, he i hi]
  exact (hk.2.2.1.1 _ (by omega) (Or.inr (by rw [z]; exact h2))).trans z
theorem rKb_s {m : Nat} (h : rKb γ el c n) (hm : m = n + 1) (hb : γ 0 (el (γ 14 c) n) = 2) : rKb γ el c m := fun i hi => by
  by_cases q : i = n
  · rw [q]; exact hb
  · exact h i (by omega)
theorem rKb_0 : rKb γ el c 0 := fun i hi => absurd hi (Nat.not_lt_zero _)
end RT4
theorem rm_cs {p p0 K M c k : Nat} (h0 : p0 ≤ p) (h1 : p + 2 * c + 100 ≤ M) (h2 : M ≤ K) (hk : k ≤ 4) : (p - p0) / 18 + k ≤ (K - p0) / 18 := by omega
theorem rm_sl {p p0 K M c k : Nat} (h0 : p0 ≤ p) (h1 : p + 2 * c + 100 ≤ M) (h2 : M ≤ K) (hk : k ≤ 2 * c + 25) : (p - p0) + k ≤ K - p0 := by omega
theorem rm_s18 {c : Nat} : 2 * c + 18 ≤ 2 * c + 25 := by omega
theorem rm_s11 {c : Nat} : 2 * c + 11 ≤ 2 * c + 25 := by omega
theorem rm_s25 {c : Nat} : 2 * c + 25 ≤ 2 * c + 25 := by omega
theorem rm_s0 {c : Nat} : 0 ≤ 2 * c + 25 := by omega
theorem rm_wc {p p0 p1 d : Nat} (h0 : p0 ≤ p) (h1 : 18 * d + p ≤ p1) : (p - p0) / 18 + d ≤ (p1 - p0) / 18 := by omega
theorem rm_ws {p p0 p1 d : Nat} (h0 : p0 ≤ p) (h1 : d + p ≤ p1) : (p - p0) + d ≤ p1 - p0 := by omega
theorem rm_ec {p p0 p1 : Nat} (h1 : p1 = p) : (p - p0) / 18 ≤ (p1 - p0) / 18 := by rw [h1]; exact Nat.le_refl _
theorem rm_es {p p0 p1 : Nat} (h1 : p1 = p) : (p - p0) ≤ p1 - p0 := by rw [h1]; exact Nat.le_refl _
theorem rm_ph {p p0 p1 d : Nat} (h0 : p0 ≤ p) (h1 : d + p ≤ p1) : p0 ≤ p1 := by omega
theorem rm_gc {p p0 K : Nat} (h0 : p0 ≤ p) (hp : p ≤ K) : (p - p0) / 18 + (K - p) / 18 ≤ (K - p0) / 18 := by omega
theorem rm_gs {p p0 K : Nat} (h0 : p0 ≤ p) (hp : p ≤ K) : (p - p0) + (K - p) ≤ K - p0 := by omega
theorem rm_pk {p M K c : Nat} (h1 : p + 2 * c + 100 ≤ M) (h2 : M ≤ K) : p ≤ K := by omega
theorem rm_zc {p p0 K : Nat} (hp : p ≤ K) : (p - p0) / 18 + 0 ≤ (K - p0) / 18 := by omega
theorem rm_zs {p p0 K : Nat} (hp : p ≤ K) : (p - p0) + 0 ≤ K - p0 := by omega
theorem rm_x8 {a b c d : Nat} (h : a = b) (g : c = d + 1) (e : b = d) : a < c := by omega
theorem rm_d0 {a d : Nat} (h : d ≤ 0) : a + d ≤ a := by omega
theorem gSea_n {γ γ1 : Nat → Nat → Nat} {b n : Nat} (h : γ1 = gSea γ b n) (f : Nat) : γ1 6 f = γ 6 f ∧ γ1 7 f = γ 7 f ∧ γ1 16 f = γ 16 f ∧ γ1 18 f = γ 18 f ∧ γ1 19 f = γ 19 f := by
  subst h
  exact ⟨rfl, rfl, rfl, rfl, rfl⟩
theorem gVal_n {γ γ1 : Nat → Nat → Nat} {f n : Nat} (h : γ1 = gVal γ 6 f n) : γ1 6 f = n ∧ γ1 7 f = γ 7 f ∧ γ1 16 f = γ 16 f ∧ γ1 18 f = γ 18 f := by
  subst h
  exact ⟨gVal_s, by rw [gVal_ne (by decide)], by rw [gVal_ne (by decide)], by rw [gVal_ne (by decide)]⟩
theorem rm_m1 {N n : Nat} {k z : Int} (e : z = k + 1) (h0 : 0 ≤ k) (h : k < N) (hm : N - k.toNat < n + 1) : N - z.toNat < n := by omega
theorem rm_tn {N : Nat} {k : Int} (h : k < N) : (k + 1).toNat ≤ N := by omega
theorem rm_ix {j : Int} {a b c : Nat} (hj : 0 ≤ j) (h0 : j < a) (e : b = a) (e2 : b = c) : j.toNat < c := by omega
