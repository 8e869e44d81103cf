/-! findLive: live only grows -/
def lvM (γ : Nat → Nat → Nat) (F : Nat → va_E) : Nat → Nat → Bool := fun i k => decide (i < 40 ∧ k < 2048) && lvS γ F i k
theorem lvM_e {γ : Nat → Nat → Nat} {F : Nat → va_E} {i k : Nat} (hi : i < 40) (hk : k < 2048) : lvM γ F i k = lvS γ F i k := by
  unfold lvM
  rw [decide_eq_true ⟨hi, hk⟩, Bool.true_and]
theorem lvM_t {γ : Nat → Nat → Nat} {F : Nat → va_E} {i k : Nat} (h : lvM γ F i k = true) : i < 40 ∧ k < 2048 ∧ lvS γ F i k = true := by
  unfold lvM at h
  rw [Bool.and_eq_true, decide_eq_true_eq] at h
  exact ⟨h.1.1, h.1.2, h.2⟩
theorem bhV_mono {op f s : Int} {L L' : Nat → Nat → Bool} {k : Nat} (h : ∀ i k, L i k = true → L' i k = true) : bhV op f s L k = true → bhV op f s L' k = true := by
  unfold bhV
  split
  · exact id
  · split
    · exact h _ _
    · rw [Bool.or_eq_true, Bool.or_eq_true]
      exact fun z => z.imp (h _ _) (h _ _)
/-- what is alive at the beginning of block b, if L is what is at the beginnings -/
def trS (γ el : Nat → Nat → Nat) (F : Nat → va_E) (sl : Bool) (b : Nat) (L : Nat → Nat → Bool) (d : Nat) : Nat → Bool := rfo (fun j => F (el (γ 14 b) j)) sl (γ 2 (γ 14 b)) (bkS (F (γ 15 b)) sl (bhV (fI (F (γ 15 b)) 0).toInt (fI (F b) 2).toInt (fI (F b) 3).toInt L)) d
theorem trS_mono {γ el : Nat → Nat → Nat} {F : Nat → va_E} {sl : Bool} {b d k : Nat} {L L' : Nat → Nat → Bool} (h : ∀ i k, L i k = true → L' i k = true) : trS γ el F sl b L d k = true → trS γ el F sl b L' d k = true := rfo_mono (fun k => bkS_mono (fun k => bhV_mono h) k) d k
def rJv (γ el : Nat → Nat → Nat) (F F1 : Nat → va_E) (c : Nat) (sl : Bool) (n : Nat) : Prop := ∀ i, i < n → ∀ k, lvM γ F1 i k = true → trS γ el F sl (el (γ 14 c) i) (lvM γ F1) (γ 2 (γ 14 (el (γ 14 c) i))) k = true
theorem rJv_0 {γ el : Nat → Nat → Nat} {F F1 : Nat → va_E} {c n : Nat} {sl : Bool} (h : ∀ i, i < n → ∀ j, j < 32 → cL (F1 (γ 10 i)) j = 0) : rJv γ el F F1 c sl n := fun i hi k hk => by
  obtain ⟨h1, h2, h3⟩ := lvM_t hk
  unfold lvS at h3
  rw [rbt_z (h i hi (k / 64) (by omega))] at h3
  cases h3
theorem rJv_s {γ el : Nat → Nat → Nat} {F F1 F2 : Nat → va_E} {c n i0 : Nat} {sl : Bool} (h : rJv γ el F F1 c sl n) (hi0 : i0 < n) (h40 : i0 < 40) (hn : ∀ i, i < 40 → i ≠ i0 → F2 (γ 10 i) = F1 (γ 10 i)) (hr : ∀ k, k < 2048 → lvS γ F2 i0 k = trS γ el F sl (el (γ 14 c) i0) (lvM γ F1) (γ 2 (γ 14 (el (γ 14 c) i0))) k) : rJv γ el F F2 c sl n := by
  have hle : ∀ i k, lvM γ F1 i k = true → lvM γ F2 i k = true := fun i k hk => by
    obtain ⟨h1, h2, h3⟩ := lvM_t hk
    rw [lvM_e h1 h2]
    by_cases q : i = i0
    · subst q
      rw [hr k h2]
      exact h i hi0 k hk
    · unfold lvS at h3 ⊢
      rw [hn i h1 q]
      exact h3
  intro i hi k hk
  obtain ⟨h1, h2, h3⟩ := lvM_t hk
  by_cases q : i = i0
  · subst q
    rw [hr k h2] at h3
    exact trS_mono hle h3
  · refine trS_mono hle (h i hi k ?_)
    rw [lvM_e h1 h2]
    unfold lvS at h3 ⊢
    rw [← hn i h1 q]
    exact h3
/-- bits of all rows of live -/
def lvT (γ : Nat → Nat → Nat) (F : Nat → va_E) : Nat := rsum (fun i => rsum (fun j => rpop (cL (F (γ 10 i)) j)) 32) 40
theorem lvT_le {γ : Nat → Nat → Nat} {F : Nat → va_E} : lvT γ F ≤ 81920 := by
  have h1 : ∀ i, i < 40 → rsum (fun j => rpop (cL (F (γ 10 i)) j)) 32 ≤ 2048 := fun i _ => by
    have := rsum_b (f := fun j => rpop (cL (F (γ 10 i)) j)) (B := 64) 32 (fun j _ => rpop_le _)
    omega
  have := rsum_b (f := fun i => rsum (fun j => rpop (cL (F (γ 10 i)) j)) 32) (B := 2048) 40 h1
  unfold lvT
  omega
theorem lvT_u {γ : Nat → Nat → Nat} {F F1 : Nat → va_E} {f f2 : Nat → Int64} {i z : Nat} {w : Int64} (hi : i < 40) (hz : z < 32) (hn : ∀ j, j < 40 → j ≠ i → F1 (γ 10 j) = F (γ 10 j)) (h : cL (F (γ 10 i)) = f) (h1 : cL (F1 (γ 10 i)) = f2) (hf : f2 = vp_updL f z w) : lvT γ F1 + rpop (f z) = lvT γ F + rpop w := by
  have u := rsum_u (f := fun i => rsum (fun j => rpop (cL (F (γ 10 i)) j)) 32) (g := fun i => rsum (fun j => rpop (cL (F1 (γ 10 i)) j)) 32) 40 hi (fun j hj hne => by show rsum _ 32 = rsum _ 32; rw [hn j hj hne])
  have v := rsum_u (f := fun j => rpop (f j)) (g := fun j => rpop (f2 j)) 32 hz (fun j hj hne => by show rpop (f2 j) = _; rw [hf]; unfold vp_updL; rw [if_neg hne])
  have e : f2 z = w := by rw [hf]; unfold vp_updL; rw [if_pos rfl]
  rw [h, h1] at u
  rw [e] at v
  unfold lvT
  omega
theorem rpop_sub {x y : Int64} (h : ∀ j, j < 64 → x.toBitVec.getLsbD j = true → y.toBitVec.getLsbD j = true) : rpop x ≤ rpop y := by
  refine rpopN_mono (fun i hi => ?_) 64
  by_cases q : i < 64
  · exact h i q hi
  · rw [BitVec.getLsbD_of_ge _ _ (by omega)] at hi
    cases hi
theorem rpop_slt {x y : Int64} (h : ∀ j, j < 64 → x.toBitVec.getLsbD j = true → y.toBitVec.getLsbD j = true) (hne : x ≠ y) : rpop x + 1 ≤ rpop y := by
  have hx : ∃ j, j < 64 ∧ x.toBitVec.getLsbD j = false ∧ y.toBitVec.getLsbD j = true := Classical.byContradiction (fun hc => hne (by
    apply Int64.toBitVec.inj
    apply BitVec.eq_of_getLsbD_eq
    intro j hj
    cases hxj : x.toBitVec.getLsbD j with
    | true => rw [h j hj hxj]
    | false =>
      cases hyj : y.toBitVec.getLsbD j with
      | false => rfl
      | true => exact absurd ⟨j, hj, hxj, hyj⟩ hc))
  obtain ⟨j, hj, h1, h2⟩ := hx
  refine rpopN_lt (fun i hi => ?_) h1 h2 64 hj
  by_cases q : i < 64
  · exact h i q hi
  · rw [BitVec.getLsbD_of_ge _ _ (by omega)] at hi
    cases hi
theorem rbt_w {f : Nat → Int64} {z j : Nat} (h : j < 64) : rbt f (64 * z + j) = (f z).toBitVec.getLsbD j := by
  unfold rbt
  rw [show (64 * z + j) / 64 = z by omega, show (64 * z + j) % 64 = j by omega]
theorem rLv_fr {D : va_G} {I : FieldType → ClassId} {P : List Nat} {F F1 F2 : Nat → va_E} {γ el : Nat → Nat → Nat} {a b k : Nat} (hT : RS D I P F1 γ el) (h : rKd γ a 12) (g : rLv γ F F1) (n : rFr [b] P F1 F2) (hb : rKd γ b k) (hk : k ≠ 11) : rLv γ F F2 := fun i hi => (n _ (RS_m hT (RS_live hT h hi) (by decide)) (nm_c (rn_ty (RS_live hT h hi) hb (by omega)) nm_n)).trans (g i hi)
section GLV2
variable {γ el : Nat → Nat → Nat} {F F1 F2 : Nat → va_E} {c n b : Nat} {sl : Bool}
theorem lvS_l (h : rLv γ F1 F2) {i k : Nat} (hi : i < 40) : lvS γ F2 i k = lvS γ F1 i k := by unfold lvS; rw [h i hi]
theorem lvM_l (h : rLv γ F1 F2) : lvM γ F2 = lvM γ F1 := by
  funext i k
  unfold lvM
  by_cases q : i < 40
  · rw [lvS_l h q]
  · rw [decide_eq_false (fun z => q z.1), Bool.false_and, Bool.false_and]
theorem rJv_l (h : rLv γ F1 F2) (g : rJv γ el F F1 c sl n) : rJv γ el F F2 c sl n := by unfold rJv at g ⊢; rw [lvM_l h]; exact g
theorem lvT_l (h : rLv γ F1 F2) : lvT γ F2 = lvT γ F1 := by
  unfold lvT
  exact rsum_c _ (fun i hi => by show rsum _ 32 = rsum _ 32; rw [h i hi])
theorem rLv_tr {F3 : Nat → va_E} (h : rLv γ F1 F2) (g : rLv γ F2 F3) : rLv γ F1 F3 := fun i hi => (g i hi).trans (h i hi)
/-- behind the block's end and its rows: one row more -/
theorem tr_b {x : Nat} {L : Nat → Nat → Bool} {f f1 : Nat → Int64} {d : Nat} {e : va_E} (h : ∀ k, k < 2048 → rbt f k = trS γ el F sl x L d k) (he : e = F (el (γ 14 x) (γ 2 (γ 14 x) - 1 - d))) (hb : ∀ k, rbt f1 k = bkS e sl (rbt f) k) : ∀ k, k < 2048 → rbt f1 k = trS γ el F sl x L (d + 1) k := fun k hk => by
  rw [hb k, he]
  show _ = bkS (F (el (γ 14 x) (γ 2 (γ 14 x) - 1 - d))) sl (trS γ el F sl x L d) k
  unfold bkS bkV
  rw [h k hk]
theorem tr_0 {x : Nat} {L : Nat → Nat → Bool} {f f1 : Nat → Int64} {e : va_E} (h : ∀ k, k < 2048 → rbt f k = bhV (fI (F (γ 15 x)) 0).toInt (fI (F x) 2).toInt (fI (F x) 3).toInt L k) (he : e = F (γ 15 x)) (hb : ∀ k, rbt f1 k = bkS e sl (rbt f) k) : ∀ k, k < 2048 → rbt f1 k = trS γ el F sl x L 0 k := fun k hk => by
  rw [hb k, he]
  show _ = bkS (F (γ 15 x)) sl _ k
  unfold bkS bkV
  rw [h k hk]
theorem bhV_c {op f s : Int} {L L' : Nat → Nat → Bool} {k : Nat} (hf : 0 ≤ f ∧ f < 40) (hs : 0 ≤ s ∧ s < 40) (h : ∀ i, i < 40 → L i k = L' i k) : bhV op f s L k = bhV op f s L' k := by
  unfold bhV
  rw [h f.toNat (by omega), h s.toNat (by omega)]
/-- a word is copied: none of its bits goes -/
theorem lv_w {f g : Nat → Int64} {z : Nat} {A : Nat → Bool} (hz : z < 32) (hf : ∀ k, k < 2048 → 64 * z ≤ k → rbt f k = true → A k = true) (hg : ∀ k, k < 2048 → rbt g k = A k) : ∀ j, j < 64 → (f z).toBitVec.getLsbD j = true → (g z).toBitVec.getLsbD j = true := fun j hj h => by
  rw [← rbt_w hj] at h ⊢
  rw [hg _ (by omega)]
  exact hf _ (by omega) (by omega) h
end GLV2
theorem RS_lne {D : va_G} {I : FieldType → ClassId} {P : List Nat} {F : Nat → va_E} {γ el : Nat → Nat → Nat} {a i j : Nat} (hT : RS D I P F γ el) (h : rKd γ a 12) (hi : i < 40) (hj : j < 40) (hne : i ≠ j) : γ 10 i ≠ γ 10 j := fun e => by
  obtain ⟨g, g1, g2⟩ := show rk_12 I γ (F a) from RS_o hT h
  have h1 := (g2 i hi).2.2
  have h2 := (g2 j hj).2.2
  rw [e, h2] at h1
  exact hne h1.symm
/-- rows of live emptied one by one -/
theorem zl_r {F F1 : Nat → va_E} {γ : Nat → Nat → Nat} {b : Int} (h : ∀ i : Nat, (i : Int) < b → ∀ j : Nat, j < 32 → cL (F (γ 10 i)) j = 0) (hn : ∀ i : Nat, (i : Int) < b → F1 (γ 10 i) = F (γ 10 i)) : ∀ i : Nat, (i : Int) < b → ∀ j : Nat, j < 32 → cL (F1 (γ 10 i)) j = 0 := fun i hi j hj => by rw [hn i hi]; exact h i hi j hj
theorem zl_s {F : Nat → va_E} {γ : Nat → Nat → Nat} {b b1 k : Int} (h : ∀ i : Nat, (i : Int) < b → ∀ j : Nat, j < 32 → cL (F (γ 10 i)) j = 0) (g : ∀ j : Nat, (j : Int) < k → cL (F (γ 10 b.toNat)) j = 0) (hk : 32 ≤ k) (e : b1 = b + 1) (h0 : 0 ≤ b) : ∀ i : Nat, (i : Int) < b1 → ∀ j : Nat, j < 32 → cL (F (γ 10 i)) j = 0 := fun i hi j hj => by
  by_cases q : (i : Int) < b
  · exact h i q j hj
  · rw [show i = b.toNat by omega]
    exact g j (by omega)
/-- one word copied -/
theorem cp_st {f f2 g : Nat → Int64} {i z : Int32} {v : Int64} {A B : Nat → Bool} (hv : v = g z.toNatClampNeg) (hf : f2 = vp_updL f z.toNatClampNeg v) (h0 : 0 ≤ z.toInt) (e : i.toInt = z.toInt + 1)
    (h : ∀ k : Nat, k < 2048 → rbt f k = if (k : Int) < 64 * z.toInt then A k else B k) (hg : ∀ k : Nat, k < 2048 → rbt g k = A k) : ∀ k : Nat, k < 2048 → rbt f2 k = if (k : Int) < 64 * i.toInt then A k else B k := fun k hk => by
  have hzn : (z.toNatClampNeg : Int) = z.toInt := g_nn h0
  have h1 := h k hk
  rw [rbt_updL hf]
  split
  · next q =>
    rw [hv, ← q]
    show rbt g k = _
    rw [hg k hk, if_pos (by omega)]
  · next q =>
    rw [h1]
    by_cases c : (k : Int) < 64 * z.toInt
    · rw [if_pos c, if_pos (by omega)]
    · rw [if_neg c, if_neg (by omega)]
theorem lc_ne {z : Int32} {u v : Int64} (h : z = lg_cmp u v) (hz : z.toInt ≠ 0) : u ≠ v := fun e => hz (by
  subst e
  rw [h]
  unfold lg_cmp
  simp)
theorem cl32 {z : Int32} (h0 : 0 ≤ z.toInt) (h : z.toInt < 32) : z.toNatClampNeg < 32 := by
  have := g_nn h0
  omega
