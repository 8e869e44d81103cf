/-! a program that was read: its numbers -/
abbrev pgK : List Nat := [1, 2, 3, 101, 102, 103, 202]
abbrev pgF : List Nat := [1, 2, 3, 4, 5, 6, 7, 8, 9, 101, 102, 103, 202]
theorem pgKF : ∀ j, j ∈ pgK → j ∈ pgF := by decide
section ST19
variable {D : va_G} {I : FieldType → ClassId} {P : List Nat} {F : Nat → va_E} {γ el : Nat → Nat → Nat} {f c : Nat}
theorem St_19 {m : Nat} (hT : RS D I P F γ el) (hc : γ 0 c = 9) (hcf : γ 1 c = f) (h6 : γ 6 f = 0) (h2 : ∀ x, γ 0 x = 2 → γ 1 x = f → (fI (F x) 2).toInt < m ∧ (fI (F x) 3).toInt < m) : rSt f [] [] D I P F γ el P F (gVal γ 19 f m) el := by
  have e : ∀ j, j ≠ 19 → gVal γ 19 f m j = γ j := fun j h => gVal_ne h
  have ea : ∀ j, j ≠ 19 → ∀ a, gVal γ 19 f m j a = γ j a := fun j h a => by rw [e j h]
  have e0 := ea 0 (by decide)
  refine ⟨?_, rSub_rf, ⟨fun a _ _ => e0 a, fun a h0 => ⟨by rw [e0]; exact h0, ea 1 (by decide) a, ea 14 (by decide) a, ea 15 (by decide) a, ea 8 (by decide) a, ea 20 (by decide) a, ea 22 (by decide) a⟩, fun a h0 ha => ⟨ea 2 (by decide) a, ea 13 (by decide) a, ea 17 (by decide) a, rfl⟩, ⟨e 9 (by decide), e 10 (by decide), e 11 (by decide), e 12 (by decide), e 21 (by decide)⟩, fun g h => ⟨gVal_g h, gVal_g h, gVal_g h, gVal_g h, gVal_g h, gVal_g h⟩⟩, fun a _ _ => rfl⟩
  refine RS_gen (T := fun a => a = c ∨ (γ 0 a = 2 ∧ γ 1 a = f)) f hT (fun a ha => hT.1 a (by rw [e0] at ha; exact ha)) (fun a ha hTa => ?_) (fun a ha hTa => ⟨by rw [e0] at ha; exact ha, e0 a, rfl⟩) (fun a h0 hTa => ?_) (fun a _ _ => e0 a) (fun a _ _ => e0 a) (fun w hw => by unfold rLK at hw ⊢; rw [e0]; exact hw) (fun j a h0 hj => ?_) (fun j hj => ?_) (fun j g hne _ => gVal_g hne) (Or.inl (by rw [e 7 (by decide)]; exact Nat.le_refl _)) (Or.inr (fun a q1 q2 => Or.inr ⟨q1, q2⟩)) (fun g _ h => by rw [e 6 (by decide), e 23 (by decide)]; exact h) (fun a h0 hTa => ⟨ea 2 (by decide) a, ea 13 (by decide) a, ea 17 (by decide) a, rfl⟩) (fun e' he' hTe => rfl) (fun a h0 hTa ha => ⟨ea 4 (by decide) a, ea 5 (by decide) a⟩) (fun a ha haf => Or.inl (RS_same_c hT hc ha (haf.trans hcf.symm))) (Or.inr ⟨fun a h0 => Or.inl (e0 a), fun a ha hne => absurd ((e0 a).trans ha) hne, fun a ha hne h22 => absurd ((e0 a).trans ha) hne⟩)
  · rcases hTa with q | ⟨q, q1⟩
    · rw [q, e0, hc]
      obtain ⟨lb, lr, rn, md, w1, w2, w3, w4, w5, w6, w7, w8, w9, w10, w11, w12, w13, w14, w15, w16, w17⟩ := show rk_9 γ el c (F c) from RS_o hT hc
      have e1 := ea 1 (by decide)
      have e2 := e 2 (by decide)
      have e14 := e 14 (by decide)
      have e6 : gVal γ 19 f m 6 f = 0 := by rw [e 6 (by decide)]; exact h6
      refine ⟨lb, lr, rn, md, w1, ⟨by rw [e14]; exact w2.1, by rw [e 15 (by decide)]; exact w2.2.1, by rw [e1, e 21 (by decide)]; exact w2.2.2⟩, (e0 lb).trans w3, ?_, (e0 lr).trans w5, ?_, w7, by rw [e2]; exact w8, w9, by rw [e2]; exact w10, by rw [e2]; exact w11, by rw [e2]; exact w12, ?_, fun i hi => ?_, fun i hi hi2 => ?_, fun i hi hi2 => ?_, ?_⟩
      · unfold rFm; rw [e1, e1]; exact w4
      · unfold rFm; rw [e1, e1]; exact w6
      · rw [e1, hcf]; exact Or.inl e6
      · rw [e0, e1, hcf, e6]
        rcases w14 i hi with z | z
        · exact Or.inl z
        · exact Or.inr ⟨rfl, z.2⟩
      · rw [e2] at hi2; rw [e0]; exact w15 i hi hi2
      · rw [e2] at hi2; rw [e0]; exact w16 i hi hi2
      · unfold rCd at w17 ⊢
        rw [e1, e 16 (by decide), e 18 (by decide), e2, e14]
        exact w17
    · rw [e0, q]
      obtain ⟨l, n, p, s, v1, v2, v3, v4, v5, v6, v7, v8, v9, v10, v11, v12⟩ := show rk_2 γ a (F a) from RS_o hT q
      have h := h2 a q q1
      rw [v1] at h
      have e1 := ea 1 (by decide)
      refine ⟨l, n, p, s, v1, ⟨by rw [e 14 (by decide)]; exact v2.1, by rw [e 15 (by decide)]; exact v2.2.1, by rw [e 20 (by decide)]; exact v2.2.2⟩, (e0 l).trans v3, ?_, (e0 n).trans v5, ?_, ?_, v8, v9, Or.inl ?_, ?_, ?_⟩
      · unfold rFm; rw [e1, e1]; exact v4
      · unfold rFm; rw [e1, e1]; exact v6
      · unfold rOw; rw [e 4 (by decide), e 22 (by decide)]; exact v7
      · rw [e1, q1, e 6 (by decide)]; exact h6
      · rw [e1, q1, gVal_s]; exact h.1
      · rw [e1, q1, gVal_s]; exact h.2
  · rcases hTa with q | q
    · rw [q]; exact hcf
    · exact q.2
  · rcases hj with rfl | rfl | rfl | rfl | rfl | rfl | rfl <;> exact ea _ (by decide) a
  · rcases hj with rfl | rfl | rfl | rfl | rfl <;> exact e _ (by decide)
theorem rPh_19 {m : Nat} : rPh (gVal γ 19 f m) el f = rPh γ el f ∧ rM (gVal γ 19 f m) el f = rM γ el f := by
  have e : ∀ j, j ≠ 19 → gVal γ 19 f m j = γ j := fun j h => gVal_ne h
  constructor
  · unfold rPh rPhc
    rw [e 21 (by decide), e 14 (by decide), e 15 (by decide), e 13 (by decide), e 2 (by decide)]
  · unfold rM rMc
    rw [e 21 (by decide), e 14 (by decide), e 15 (by decide), e 17 (by decide), e 2 (by decide)]
end ST19
/-- the program c holds Q -/
def rfP (γ el : Nat → Nat → Nat) (F : Nat → va_E) (c : Nat) (Q : gPg) : Prop := (fI (F c) 3).toInt = (Q.1 : Int) ∧ rfI γ el F c Q.1 Q
def gbd (fg : Nat → Int32) (k : Int) (j : Nat) : Prop := ∃ i : Nat, (i : Int) < k ∧ ((fg i).toInt = 0 ∨ (j : Int) ≤ (fg i).toInt)
def bkG (rp : Int32) (mb : Bool) (fg : Nat → Int32) (k : Int) (j : Nat) : Prop := 0 ≤ rp.toInt ↔ (mb = true ∨ gbd fg k j)
/-- the reader is at the end of the text -/
def mcE (B : Int → Int) (n : Int) (mb : Bool) (Q : gPg) (gn : Int32) (fg : Nat → Int32) : Prop := (∃ (i : Nat) (st lf ln op rw : Int), mrn B n i = some (1, st, lf, ln, op, rw, mb, Q) ∧ (tk B n i).1 = 1) ∧ gsR gn fg Q
def okQ (γ el : Nat → Nat → Nat) (F : Nat → va_E) (c : Nat) (B : Int → Int) (n : Int) (rp : Int32) : Prop := (rp.toInt < 0 → ∃ Q, okP B n Q ∧ rfP γ el F c Q) ∧ (0 ≤ rp.toInt → ∀ Q, ¬ okP B n Q)
section OKQ
variable {γ γ1 el : Nat → Nat → Nat} {F : Nat → va_E} {c j : Nat} {B : Int → Int} {n : Int} {Q : gPg} {mb : Bool} {gn rp : Int32} {fg : Nat → Int32} {k : Int}
theorem rfI_g (h : rfI γ el F c j Q) (e2 : γ1 2 = γ 2) (e14 : γ1 14 = γ 14) (e15 : γ1 15 = γ 15) : rfI γ1 el F c j Q := by
  unfold rfI rfB rfR at h ⊢
  rw [e2, e14, e15]
  exact h
theorem gbd_n {z : Int} (h : z = 0) : ¬ gbd fg z j := fun ⟨i, h1, _⟩ => by omega
theorem gbd_s {kk z : Int32} (h0 : 0 ≤ kk.toInt) (hz : z = fg kk.toNatClampNeg) (hb : z.toInt = 0 ∨ (j : Int) ≤ z.toInt) : gbd fg (kk.toInt + 1) j := ⟨kk.toInt.toNat, by omega, by rw [hz] at hb; exact hb⟩
theorem gbd_o {kk z : Int32} (h0 : 0 ≤ kk.toInt) (hz : z = fg kk.toNatClampNeg) (h1 : z.toInt ≠ 0) (h2 : z.toInt < (j : Int)) : gbd fg (kk.toInt + 1) j ↔ gbd fg kk.toInt j := by
  constructor
  · rintro ⟨i, q1, q2⟩
    by_cases q : (i : Int) < kk.toInt
    · exact ⟨i, q, q2⟩
    · have e : i = kk.toNatClampNeg := by show i = kk.toInt.toNat; omega
      rw [e, ← hz] at q2
      omega
  · rintro ⟨i, q1, q2⟩
    exact ⟨i, by omega, q2⟩
theorem okQ_of (hm : mcE B n mb Q gn fg) (hb : bkG rp mb fg gn.toInt j) (hr : rfI γ el F c j Q) (hmd : (fI (F c) 3).toInt = (j : Int)) : okQ γ el F c B n rp := by
  obtain ⟨⟨i, st, lf, ln, op, rw, h1, h2⟩, g1, g2⟩ := hm
  obtain ⟨r1, r2⟩ := hr
  subst r1
  have hgl : ¬ gbd fg gn.toInt Q.1 → glO Q := fun hn b t hb' ht hg => by
    obtain ⟨k, q1, q2⟩ := g2 b t hb' ht hg
    rw [← q2]
    have q3 : ¬ ((fg k).toInt = 0 ∨ (Q.1 : Int) ≤ (fg k).toInt) := fun z => hn ⟨k, q1, z⟩
    exact ⟨fun z => q3 (Or.inl z), by omega⟩
  refine ⟨fun hp => ?_, fun hp => ?_⟩
  · have hn : ¬ (mb = true ∨ gbd fg gn.toInt Q.1) := fun z => by have := hb.mpr z; omega
    have hmb : mb = false := by cases mb with
      | true => exact absurd (Or.inl rfl) hn
      | false => rfl
    rw [hmb] at h1
    exact ⟨Q, ⟨i, st, lf, ln, op, rw, h1, h2, hgl (fun z => hn (Or.inr z))⟩, hmd, rfl, r2⟩
  · rcases hb.mp hp with z | ⟨k, q1, q2⟩
    · exact no_bk h1 h2 (Or.inr (Or.inl z))
    · refine no_bk h1 h2 (Or.inr (Or.inr (fun hg => ?_)))
      obtain ⟨b, t, w1, w2, w3, w4⟩ := g1 k q1
      have hg : ∀ b i : Nat, b < Q.1 → i < 2 → Q.2.2.2 b i ≠ -1 → Q.2.2.2 b i ≠ 0 ∧ Q.2.2.2 b i < (Q.1 : Int) := hg
      have w5 := hg b t w1 w2 w4
      rw [w3] at w5
      omega
theorem gsR_0 (h : gn.toInt = 0) : gsR gn fg pgO := ⟨fun k hk => by omega, fun b t hb => absurd hb (Nat.not_lt_zero b)⟩
theorem rdT_0 {ft : Nat → Int32} {n a k pl v : Int32} {xt : gTx} (hF : ∀ k, gB (ft k) (-128) 127) (hn : 0 ≤ n.toInt) (hn2 : n.toInt ≤ 8192) (h : tr_RReader_init n ft a k pl v xt) : rdT (bA ft n.toInt) n.toInt 0 a k v xt := by
  refine h (fun o1 o2 _ o4 o5 => rdT (bA ft n.toInt) n.toInt 0 o1 o2 o4 o5) ?_
  intro x1 x2 x3 x4 x5 _ _ _ hx
  obtain ⟨q1, q2, q3⟩ := nx_tr hF (by decide) (by rw [show Int32.toInt 0 = 0 from by decide]; exact hn) hn2 hx
  rw [show Int32.toInt 0 = 0 from by decide] at q2 q3
  exact ⟨q2, q3⟩
end OKQ
/-- what the reader's program leaves -/
def pgP (D : va_G) (I : FieldType → ClassId) (P : List Nat) (F : Nat → va_E) (γ el : Nat → Nat → Nat) (f R : Nat) (n a : Int32) (c : Nat) (ft : Nat → Int32) : Option Value → va_W → Nat → Nat → Prop := fun r w dc ds => ∃ (P1 : List Nat) (F1 : Nat → va_E) (γ1 el1 : Nat → Nat → Nat) (v0 v1 v2 v3 v4 v5 v6 v7 v10 v11 v12 v13 : Value) (rp ru : Int32),
  r = none ∧ w = va_pl P1 F1 ∧ rSk f pgK pgF D I P F γ el P1 F1 γ1 el1 ∧ (R ∈ P1 ∧ F1 R = .inr (19, [v0, v1, v2, v3, v4, v5, v6, v7, .int rp, .int ru, v10, v11, v12, v13]) ∧ gB rp (-1) 8192 ∧ gB ru 0 4) ∧ γ1 7 f = 0 ∧ (rp.toInt < 0 → 0 < γ1 6 f ∧ γ1 16 f ≤ 160) ∧
  18 * (dc : Int) + (rPh γ el f : Int) ≤ (rPh γ1 el1 f : Int) + 360 * (n.toInt - a.toInt) + 720 ∧ (ds : Int) + (rPh γ el f : Int) ≤ (rPh γ1 el1 f : Int) + 192 * (n.toInt - a.toInt) + 40 * n.toInt + 900 ∧ (rM γ1 el1 f : Int) ≤ (rM γ el f : Int) + 41 * (n.toInt - a.toInt) + 300 ∧ okQ γ1 el1 F1 c (bA ft n.toInt) n.toInt rp
def pgX (D : va_G) (I : FieldType → ClassId) (P : List Nat) (F : Nat → va_E) (γ el : Nat → Nat → Nat) (f : Nat) (n a : Int32) (ft : Nat → Int32) : String → Nat → va_W → Nat → Nat → Prop := fun E q w dc ds => ∃ (P1 : List Nat) (F1 : Nat → va_E) (γ1 el1 : Nat → Nat → Nat),
  E = "SpillForgeModel$Wrong" ∧ w = va_pl P1 F1 ∧ rSk f pgK pgF D I P F γ el P1 F1 γ1 el1 ∧ γ1 7 f = 0 ∧ q ∈ P1 ∧ wrF F1 q ∧ 18 * (dc : Int) + (rPh γ el f : Int) ≤ (rPh γ1 el1 f : Int) + 360 * (n.toInt - a.toInt) + 900 ∧ (ds : Int) + (rPh γ el f : Int) ≤ (rPh γ1 el1 f : Int) + 192 * (n.toInt - a.toInt) + 40 * n.toInt + 900 ∧ (rM γ1 el1 f : Int) ≤ (rM γ el f : Int) + 41 * (n.toInt - a.toInt) + 300 ∧ rjt (bA ft n.toInt) n.toInt
def glR (fg : Nat → Int32) (k : Int) (j : Nat) : Prop := ∀ i : Nat, (i : Int) < k → (fg i).toInt < (j : Int)
section PGP
variable {D : va_G} {I : FieldType → ClassId} {P P0 : List Nat} {F F0 : Nat → va_E} {γ γ0 el el0 : Nat → Nat → Nat} {R tp g gp f c j : Nat} {tx : gTz} {ft : Nat → Int32} {mb : Bool} {Q : gPg} {n a0 a k pl v b rp ru rw gn : Int32} {N : Nat} {fg fp : Nat → Int32}
theorem pgP_of {cs sl : Nat} (hk : rSk f pgK pgF D I P0 F0 γ0 el0 P F γ el) (h7 : γ 7 f = 0) (hd : rdI I P F γ R tp g gp tx n a k pl v b rp ru rw gn N fg fp) (hp : prI γ el F f c j fg gn rp rw) (hj : 0 < j) (hg : 0 ≤ rp.toInt ∨ glR fg gn.toInt j) (hmE : mcE (bA ft n.toInt) n.toInt mb Q gn fg) (hbG : bkG rp mb fg gn.toInt j) (hrf : rfI γ el F c j Q)
    (h1 : 18 * (cs : Int) + (rPh γ0 el0 f : Int) ≤ (rPh γ el f : Int) + 360 * (n.toInt - a0.toInt) + 720) (h2 : (sl : Int) + (rPh γ0 el0 f : Int) ≤ (rPh γ el f : Int) + 192 * (n.toInt - a0.toInt) + 40 * n.toInt + 900) (h3 : (rM γ el f : Int) ≤ (rM γ0 el0 f : Int) + 41 * (n.toInt - a0.toInt) + 300) :
    pgP D I P0 F0 γ0 el0 f R n a0 c ft none (va_pl P F) cs sl := by
  obtain ⟨⟨r1, r2, r3⟩, -, -, -, ⟨-, -, -, -, -, brp, bru, -, -⟩, -, -⟩ := hd
  obtain ⟨⟨c0, c1, c6, c19⟩, h16, hmd, hB2, hGI, hrp⟩ := hp
  by_cases q : 0 ≤ rp.toInt
  · exact ⟨P, F, γ, el, _, _, _, _, _, _, _, _, _, _, _, _, rp, ru, rfl, rfl, hk, ⟨r1, r2, brp, bru⟩, h7, fun z => absurd q (by omega), h1, h2, h3, okQ_of hmE hbG hrf hmd⟩
  · have hg' := hg.resolve_left q
    have hrp' := hrp.resolve_left q
    have hz : ∀ v, glI fg gn v → v.toInt < (j : Int) := fun v hv => by
      rcases hv with z | ⟨i, z1, z2⟩
      · omega
      · rw [← z2]; exact hg' i z1
    have s1 := St_19 (m := j) hk.1 c0 c1 c6 (fun x hx hf => ⟨hz _ (hGI x hx hf).1, hz _ (hGI x hx hf).2⟩)
    have e : ∀ i, i ≠ 19 → gVal γ 19 f j i = γ i := fun i h => gVal_ne h
    obtain ⟨s2, p1, p2, -⟩ := St_val (n := j) (f := f) (c := c) s1.1 (by rw [e 0 (by decide)]; exact c0) (by rw [e 1 (by decide)]; exact c1) (by rw [e 6 (by decide)]; exact c6) hj (by omega) (by rw [gVal_s]; exact Nat.le_refl _) hmd (fun i hi => by rw [e 0 (by decide), e 14 (by decide)]; exact hB2 i hi)
    obtain ⟨p3, p4⟩ := rPh_19 (γ := γ) (el := el) (f := f) (m := j)
    refine ⟨P, F, _, _, _, _, _, _, _, _, _, _, _, _, _, _, rp, ru, rfl, rfl, rSk_tr (rSk_tr hk (rSk_of s1) (fun _ z => nomatch z) (fun _ z => nomatch z) pgKF) (rSk_of s2) (fun _ z => nomatch z) (fun _ z => nomatch z) pgKF, ⟨r1, r2, brp, bru⟩, ?_, fun _ => ⟨?_, ?_⟩, ?_, ?_, ?_, okQ_of hmE hbG (rfI_g hrf ((gVal_ne (by decide)).trans (e 2 (by decide))) ((gVal_ne (by decide)).trans (e 14 (by decide))) ((gVal_ne (by decide)).trans (e 15 (by decide)))) hmd⟩
    · rw [gVal_ne (by decide), e 7 (by decide)]; exact h7
    · rw [gVal_s]; exact hj
    · rw [gVal_ne (by decide), e 16 (by decide)]; omega
    · rw [p1, p3]; exact h1
    · rw [p1, p3]; exact h2
    · rw [p2, p4]; exact h3
theorem glR_s {kk : Int32} {z : Int32} (h : glR fg kk.toInt j) (h0 : 0 ≤ kk.toInt) (hz : z = fg kk.toNatClampNeg) (h2 : z.toInt < (j : Int)) : glR fg (kk.toInt + 1) j := fun i hi => by
  by_cases q : (i : Int) < kk.toInt
  · exact h i q
  · have : i = kk.toNatClampNeg := by show i = kk.toInt.toNat; omega
    rw [this, ← hz]
    exact h2
theorem glR_0 {z : Int} (h : z = 0) : glR fg z j := fun i hi => by rw [h] at hi; omega
end PGP
section PGN
variable {M n a0 a a1 rw rw1 j cs sl dc ds N0 N N1 gn gn1 Φ0 Φ Φ1 R0 R R1 mc ms : Int}
theorem pgA (hM : R0 + 41 * (n - a0) + 600 ≤ M) (hMC : M + 360 * (n - a0) + 1000 ≤ 18 * mc + Φ0) (hMS : M + 192 * (n - a0) + 40 * n + 1200 ≤ ms + Φ0) (h0 : 0 ≤ rw) (h1 : 2 * rw + 3 * j ≤ a - a0) (hj : 0 ≤ j) (hcs : 18 * cs + Φ0 ≤ Φ + 18 * (16 * (a - a0) + 8 * rw + 4 * j)) (hsl : sl + Φ0 ≤ Φ + 160 * (a - a0) + 64 * rw + 4 * (N - N0)) (hrm : R ≤ R0 + 123 * j + 36 * rw) (sz : Φ + 100 ≤ R) (an : a ≤ n) (hN : N ≤ 2 * gn + 16) (hg : gn ≤ a) (hN0 : 0 ≤ N0) (ha0 : 0 ≤ a0) :
    R + 18 * (n - a) + 300 ≤ M ∧ M + 360 * (n - a) + 720 ≤ 18 * (mc - cs) + Φ ∧ M + 192 * (n - a) + 16 * N + 400 ≤ (ms - sl) + Φ ∧ cs ≤ mc ∧ sl ≤ ms := ⟨by omega, by omega, by omega, by omega, by omega⟩
theorem pgB9 (h0 : 0 ≤ rw) (h1 : 2 * rw + 3 * j ≤ a - a0) (hcs : 18 * cs + Φ0 ≤ Φ + 18 * (16 * (a - a0) + 8 * rw + 4 * j)) (hsl : sl + Φ0 ≤ Φ + 160 * (a - a0) + 64 * rw + 4 * (N - N0)) (hrm : R ≤ R0 + 123 * j + 36 * rw)
    (m1 : 2 * (rw1 - rw) + 3 ≤ a1 - a) (m3 : rw ≤ rw1) (e1 : 18 * dc + Φ ≤ Φ1 + 18 * (16 * (a1 - a) + 8 * (rw1 - rw) + 4)) (e2 : ds + Φ ≤ Φ1 + 160 * (a1 - a) + 64 * (rw1 - rw) + 4 * (N1 - N)) (e3 : R1 ≤ R + 123 + 36 * (rw1 - rw)) :
    0 ≤ rw1 ∧ 2 * rw1 + 3 * (j + 1) ≤ a1 - a0 ∧ 18 * (cs + dc) + Φ0 ≤ Φ1 + 18 * (16 * (a1 - a0) + 8 * rw1 + 4 * (j + 1)) ∧ (sl + ds) + Φ0 ≤ Φ1 + 160 * (a1 - a0) + 64 * rw1 + 4 * (N1 - N0) ∧ R1 ≤ R0 + 123 * (j + 1) + 36 * rw1 := ⟨by omega, by omega, by omega, by omega, by omega⟩
theorem pgC (hM : R0 + 41 * (n - a0) + 600 ≤ M) (hMC : M + 360 * (n - a0) + 1000 ≤ 18 * mc + Φ0) (hMS : M + 192 * (n - a0) + 40 * n + 1200 ≤ ms + Φ0) (h0 : 0 ≤ rw) (h1 : 2 * rw + 3 * j ≤ a - a0) (hj : 0 ≤ j) (hcs : 18 * cs + Φ0 ≤ Φ + 18 * (16 * (a - a0) + 8 * rw + 4 * j)) (hsl : sl + Φ0 ≤ Φ + 160 * (a - a0) + 64 * rw + 4 * (N - N0)) (hrm : R ≤ R0 + 123 * j + 36 * rw) (hN0 : 0 ≤ N0) (ha0 : 0 ≤ a0)
    (m1 : 2 * (rw1 - rw) + 2 ≤ a1 - a) (m3 : rw ≤ rw1) (e1 : 18 * dc + Φ ≤ Φ1 + 18 * (16 * (a1 - a) + 8 * (rw1 - rw) + 4)) (e2 : ds + Φ ≤ Φ1 + 160 * (a1 - a) + 64 * (rw1 - rw) + 4 * (N1 - N)) (e3 : R1 ≤ R + 123 + 36 * (rw1 - rw)) (sz : Φ1 + 100 ≤ R1) (an : a1 ≤ n) (hN : N1 ≤ 2 * gn1 + 16) (hg : gn1 ≤ a1) :
    cs + dc ≤ mc ∧ sl + ds ≤ ms ∧ 18 * (cs + dc) + Φ0 ≤ Φ1 + 360 * (n - a0) + 720 ∧ (sl + ds) + Φ0 ≤ Φ1 + 192 * (n - a0) + 40 * n + 900 ∧ R1 ≤ R0 + 41 * (n - a0) + 300 := ⟨by omega, by omega, by omega, by omega, by omega⟩
theorem pgD (hM : R0 + 41 * (n - a0) + 600 ≤ M) (hMC : M + 360 * (n - a0) + 1000 ≤ 18 * mc + Φ0) (hMS : M + 192 * (n - a0) + 40 * n + 1200 ≤ ms + Φ0) (h0 : 0 ≤ rw) (h1 : 2 * rw + 3 * j ≤ a - a0) (hj : 0 ≤ j) (hcs : 18 * cs + Φ0 ≤ Φ + 18 * (16 * (a - a0) + 8 * rw + 4 * j)) (hsl : sl + Φ0 ≤ Φ + 160 * (a - a0) + 64 * rw + 4 * (N - N0)) (hrm : R ≤ R0 + 123 * j + 36 * rw) (hN0 : 0 ≤ N0) (ha0 : 0 ≤ a0) (an : a ≤ n) (hN : N ≤ 2 * gn + 16) (hg : gn ≤ a)
    (e1 : 18 * dc + Φ ≤ Φ1 + 360 * (n - a) + 720) (e2 : ds + Φ ≤ Φ1 + 192 * (n - a) + 16 * N + 400) (e3 : R1 ≤ R + 18 * (n - a) + 200) (sz : Φ1 + 100 ≤ R1) :
    cs + dc ≤ mc ∧ sl + ds ≤ ms ∧ 18 * (cs + dc) + Φ0 ≤ Φ1 + 360 * (n - a0) + 900 ∧ (sl + ds) + Φ0 ≤ Φ1 + 192 * (n - a0) + 40 * n + 900 ∧ R1 ≤ R0 + 41 * (n - a0) + 300 := ⟨by omega, by omega, by omega, by omega, by omega⟩
end PGN
