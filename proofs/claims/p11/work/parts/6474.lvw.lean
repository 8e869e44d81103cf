/-- bit v of block c's row, if there is such a block -/
def gin (nb W : Nat) (f : Nat → Int64) (c : Int) (v : Nat) : Bool := decide (0 ≤ c ∧ c < (nb : Int)) && gbit f (64 * (c.toNat * W) + v)
section LVW
variable {P : gPg} {sl : Bool} {W Nm b m nb : Nat} {inn in1 now now1 e2 us se : Nat → Int64} {X x : Int64} {c l p i wd : Int32} {ch ch1 e1 : Int32}
theorem gin_o {c : Int} (h : ¬ (0 ≤ c ∧ c < (nb : Int))) (v : Nat) : gin nb W inn c v = false := by unfold gin; rw [decide_eq_false h, Bool.false_and]
theorem gin_w (hx : x = inn i.toNatClampNeg) (hi : i.toInt = p.toInt + l.toInt) (hp : p.toInt = c.toInt * wd.toInt) (h0 : 0 ≤ c.toInt) (h1 : c.toInt < (nb : Int)) (hW : wd.toInt = (W : Int)) (hl : l.toInt = (m : Int)) (v : Nat) (hv : v / 64 = m) : gin nb W inn c.toInt v = x.toBitVec.getLsbD (v % 64) := by
  unfold gin gbit
  have e1 : c.toInt * wd.toInt = ((c.toInt.toNat * W : Nat) : Int) := by rw [Int.natCast_mul, Int.toNat_of_nonneg h0, hW]
  have e2 : i.toNatClampNeg = c.toInt.toNat * W + m := nnE (by omega)
  have e3 : (64 * (c.toInt.toNat * W) + v) / 64 = c.toInt.toNat * W + m := by omega
  have e4 : (64 * (c.toInt.toNat * W) + v) % 64 = v % 64 := by omega
  rw [decide_eq_true ⟨h0, h1⟩, Bool.true_and, e3, e4, hx, e2]
theorem eb_s {g : Nat → Bool} {l5 : Int32} {l6 : Int} (h0 : 0 ≤ l5.toInt) (hl : l6 = l5.toInt + 1) (hx : now1 = vp_updL now l5.toNatClampNeg X) (hX : ∀ v, v / 64 = l5.toInt.toNat → X.toBitVec.getLsbD (v % 64) = g v) (ih : ∀ v, v < 64 * W → (((v / 64 : Nat) : Int) < l6 → gbit e2 v = gbit now1 v) ∧ (l6 ≤ ((v / 64 : Nat) : Int) → gbit e2 v = g v)) : ∀ v, v < 64 * W → (((v / 64 : Nat) : Int) < l5.toInt → gbit e2 v = gbit now v) ∧ (l5.toInt ≤ ((v / 64 : Nat) : Int) → gbit e2 v = g v) := fun v hv => by
  obtain ⟨i1, i2⟩ := ih v hv
  have en := g_nn h0
  constructor
  · intro hl2
    rw [i1 (by omega), hx, gbit_upd, if_neg (by omega)]
  · intro hl2
    by_cases e : l6 ≤ ((v / 64 : Nat) : Int)
    · exact i2 e
    · rw [i1 (by omega), hx, gbit_upd, if_pos (by omega), hX v (by omega)]
/-- the new word of a block -/
def swV (W b : Nat) (us se now : Nat → Int64) (v : Nat) : Bool := gbit us (64 * (b * W) + v) || (gbit now v && !gbit se (64 * (b * W) + v))
def swQ (W b : Nat) (us se now : Nat → Int64) (m : Nat) (ch : Int32) (inn : Nat → Int64) (e1 : Int32) (e2 : Nat → Int64) : Prop :=
  (∀ q, (∀ v, v < 64 * W → m ≤ v / 64 → q ≠ 64 * (b * W) + v) → gbit e2 q = gbit inn q) ∧ (∀ v, v < 64 * W → m ≤ v / 64 → gbit e2 (64 * (b * W) + v) = swV W b us se now v) ∧ (e1.toInt = 0 → ch.toInt = 0 ∧ ∀ v, v < 64 * W → m ≤ v / 64 → gbit inn (64 * (b * W) + v) = swV W b us se now v)
theorem swQ_0 (h : W ≤ m) : swQ W b us se now m ch inn ch inn := ⟨fun _ _ => rfl, fun v hv hm => by omega, fun z => ⟨z, fun v hv hm => by omega⟩⟩
theorem swQ_s (hm : m < W) (hx : in1 = vp_updL inn (b * W + m) X) (hX : ∀ v, v / 64 = m → X.toBitVec.getLsbD (v % 64) = swV W b us se now v) (hf : ch1.toInt = 0 → ch.toInt = 0 ∧ X = inn (b * W + m)) (ih : swQ W b us se now (m + 1) ch1 in1 e1 e2) : swQ W b us se now m ch inn e1 e2 := by
  obtain ⟨i1, i2, i3⟩ := ih
  have at1 : ∀ v, v < 64 * W → v / 64 = m → gbit in1 (64 * (b * W) + v) = swV W b us se now v := fun v hv e => by
    have e3 : (64 * (b * W) + v) / 64 = b * W + m := by omega
    have e4 : (64 * (b * W) + v) % 64 = v % 64 := by omega
    rw [hx, gbit_upd, if_pos e3, e4, hX v e]
  have ot1 : ∀ q, q / 64 ≠ b * W + m → gbit in1 q = gbit inn q := fun q hq => by rw [hx, gbit_upd, if_neg hq]
  refine ⟨fun q hq => ?_, fun v hv hvm => ?_, fun z => ?_⟩
  · rw [i1 q (fun v hv hvm => hq v hv (by omega))]
    refine ot1 q (fun e => ?_)
    exact hq (q - 64 * (b * W)) (by omega) (by omega) (by omega)
  · by_cases e : v / 64 = m
    · rw [i1 _ (fun w hw hwm z => by omega)]
      exact at1 v hv e
    · exact i2 v hv (by omega)
  · obtain ⟨z1, z2⟩ := i3 z
    obtain ⟨f1, f2⟩ := hf z1
    refine ⟨f1, fun v hv hvm => ?_⟩
    by_cases e : v / 64 = m
    · rw [← hX v e, f2]
      unfold gbit
      have e3 : (64 * (b * W) + v) / 64 = b * W + m := by omega
      have e4 : (64 * (b * W) + v) % 64 = v % 64 := by omega
      rw [e3, e4]
    · rw [← z2 v hv (by omega)]
      exact (ot1 _ (by omega)).symm
/-- rows of bits: sound, what k rounds find, closed -/
def lvSc (P : gPg) (sl : Bool) (W Nm : Nat) (f : Nat → Int64) : Prop := ∀ c v, c < P.1 → v < 64 * W → gbit f (64 * (c * W) + v) = true → v < Nm ∧ Lv P sl v c 0
def lvC (P : gPg) (sl : Bool) (W v : Nat) (f : Nat → Int64) (c : Nat) : Prop := usd P sl v c ∨ (¬ std P sl v c ∧ goX P (fun g => gbit f (64 * (g * W) + v) = true) c)
def swp (P : gPg) (sl : Bool) (W Nm b : Nat) (ch : Int32) (inn : Nat → Int64) (e1 : Int32) (e2 : Nat → Int64) : Prop :=
  (lvSc P sl W Nm inn → lvSc P sl W Nm e2) ∧
  (∀ p v, v < Nm → (∀ c, c < P.1 → Lt P sl v p c → gbit inn (64 * (c * W) + v) = true) → (∀ c, c < P.1 → b ≤ c → Lt P sl v (p + 1) c → gbit inn (64 * (c * W) + v) = true) → ∀ c, c < P.1 → Lt P sl v (p + 1) c → gbit e2 (64 * (c * W) + v) = true) ∧
  (e1.toInt = 0 → ch.toInt = 0 ∧ (∀ c v, c < P.1 → v < 64 * W → gbit e2 (64 * (c * W) + v) = gbit inn (64 * (c * W) + v)) ∧ ∀ c v, c < b → v < Nm → lvC P sl W v inn c → gbit inn (64 * (c * W) + v) = true)
theorem swp_0 : swp P sl W Nm 0 ch inn ch inn := ⟨id, fun p v _ _ h2 c hc h => h2 c hc (Nat.zero_le _) h, fun z => ⟨z, fun _ _ _ _ => rfl, fun c v hc => by omega⟩⟩
theorem swp_s (hW : Nm ≤ 64 * W) (hb : b < P.1) (hO : ∀ c v, c < P.1 → c ≠ b → v < 64 * W → gbit in1 (64 * (c * W) + v) = gbit inn (64 * (c * W) + v)) (hV : ∀ v, v < 64 * W → (gbit in1 (64 * (b * W) + v) = true ↔ (v < Nm ∧ usd P sl v b) ∨ (goX P (fun g => gbit inn (64 * (g * W) + v) = true) b ∧ ¬ (v < Nm ∧ std P sl v b)))) (hF : ch1.toInt = 0 → ch.toInt = 0 ∧ ∀ v, v < 64 * W → gbit inn (64 * (b * W) + v) = gbit in1 (64 * (b * W) + v)) (ih : swp P sl W Nm b ch1 in1 e1 e2) : swp P sl W Nm (b + 1) ch inn e1 e2 := by
  obtain ⟨i1, i2, i3⟩ := ih
  refine ⟨fun hs => i1 (fun c v hc hv h => ?_), fun p v hv h1 h2 => i2 p v hv (fun c hc h => ?_) (fun c hc hbc h => ?_), fun z => ?_⟩
  · by_cases e : c = b
    · rw [e] at h ⊢
      rcases (hV v hv).mp h with ⟨a, q⟩ | ⟨⟨i, g, g1, g2, g3, g4⟩, q⟩
      · exact ⟨a, (Lv_blk hb).mpr (Or.inl q)⟩
      · obtain ⟨r1, r2⟩ := hs g v g3 hv g4
        exact ⟨r1, (Lv_blk hb).mpr (Or.inr ⟨fun s => q ⟨r1, s⟩, Lv_g hb g1 g2 g3 r2⟩)⟩
    · rw [hO c v hc e hv] at h
      exact hs c v hc hv h
  · by_cases e : c = b
    · rw [e]
      rw [e] at h
      have h' := Lt_mo p b h
      refine (hV v (by omega)).mpr ?_
      rcases h' with q | ⟨q1, q2⟩
      · exact Or.inl ⟨hv, q⟩
      · exact Or.inr ⟨goX_mo (fun g hg hl => h1 g hg hl) q2, fun s => q1 s.2⟩
    · rw [hO c v hc e (by omega)]
      exact h1 c hc h
  · by_cases e : c = b
    · rw [e]
      rw [e] at h
      refine (hV v (by omega)).mpr ?_
      rcases h with q | ⟨q1, q2⟩
      · exact Or.inl ⟨hv, q⟩
      · exact Or.inr ⟨goX_mo (fun g hg hl => h1 g hg hl) q2, fun s => q1 s.2⟩
    · rw [hO c v hc e (by omega)]
      exact h2 c hc (by omega) h
  · obtain ⟨z1, z2, z3⟩ := i3 z
    obtain ⟨f1, f2⟩ := hF z1
    have same : ∀ c v, c < P.1 → v < 64 * W → gbit in1 (64 * (c * W) + v) = gbit inn (64 * (c * W) + v) := fun c v hc hv => by
      by_cases e : c = b
      · rw [e]; exact (f2 v hv).symm
      · exact hO c v hc e hv
    refine ⟨f1, fun c v hc hv => (z2 c v hc hv).trans (same c v hc hv), fun c v hc hv h => ?_⟩
    by_cases e : c = b
    · rw [e] at h ⊢
      rw [f2 v (by omega), hV v (by omega)]
      rcases h with q | ⟨q1, q2⟩
      · exact Or.inl ⟨hv, q⟩
      · exact Or.inr ⟨q2, fun s => q1 s.2⟩
    · rw [← same c v (by omega) (by omega)]
      refine z3 c v (by omega) hv ?_
      rcases h with q | ⟨q1, q2⟩
      · exact Or.inl q
      · exact Or.inr ⟨q1, goX_mo (fun g hg hl => by rw [same g v hg (by omega)]; exact hl) q2⟩
theorem go_gin {c1 c2 : Int} {v : Nat} (h1 : c1 = P.2.2.2 b 0) (h2 : c2 = P.2.2.2 b 1) : (gin P.1 W inn c1 v || gin P.1 W inn c2 v) = true ↔ goX P (fun g => gbit inn (64 * (g * W) + v) = true) b := by
  unfold gin
  rw [Bool.or_eq_true, Bool.and_eq_true, Bool.and_eq_true, decide_eq_true_iff, decide_eq_true_iff]
  constructor
  · rintro (⟨⟨a, d⟩, e⟩ | ⟨⟨a, d⟩, e⟩)
    · exact ⟨0, c1.toNat, by decide, by rw [← h1]; omega, by omega, e⟩
    · exact ⟨1, c2.toNat, by decide, by rw [← h2]; omega, by omega, e⟩
  · rintro ⟨i, g, hi, hg, hp, e⟩
    have hi2 : i = 0 ∨ i = 1 := by omega
    rcases hi2 with z | z
    · rw [z, ← h1] at hg
      rw [hg]
      exact Or.inl ⟨⟨by omega, by omega⟩, e⟩
    · rw [z, ← h2] at hg
      rw [hg]
      exact Or.inr ⟨⟨by omega, by omega⟩, e⟩
/-- what is found in the end -/
theorem lv_end1 (hW : Nm ≤ 64 * W) (hs : lvSc P sl W Nm inn) (hc : ∀ c v, c < P.1 → v < Nm → lvC P sl W v inn c → gbit inn (64 * (c * W) + v) = true) : ∀ c v, c < P.1 → v < 64 * W → (gbit inn (64 * (c * W) + v) = true ↔ v < Nm ∧ Lv P sl v c 0) := fun c v hb hv =>
  ⟨hs c v hb hv, fun ⟨h1, h2⟩ => Lv_le (X := fun c => gbit inn (64 * (c * W) + v) = true) (fun c hcb h => hc c v hcb h1 h) h2 hb⟩
theorem Lt_le {v : Nat} : ∀ {p k : Nat} {c : Nat}, Lt P sl v p c → Lt P sl v (p + k) c
  | p, 0, _, h => h
  | p, k + 1, c, h => Lt_mo (p + k) c (Lt_le (k := k) h)
theorem lv_end2 {p : Nat} (hW : Nm ≤ 64 * W) (hp : P.1 ≤ p) (hs : lvSc P sl W Nm inn) (hc : ∀ v c, v < Nm → c < P.1 → Lt P sl v p c → gbit inn (64 * (c * W) + v) = true) : ∀ c v, c < P.1 → v < 64 * W → (gbit inn (64 * (c * W) + v) = true ↔ v < Nm ∧ Lv P sl v c 0) := fun c v hb hv =>
  ⟨hs c v hb hv, fun ⟨h1, h2⟩ => Lv_n (X := fun c => gbit inn (64 * (c * W) + v) = true) (fun c hcb h => hc v c h1 hcb (by have q := Lt_le (k := p - P.1) h; rw [show P.1 + (p - P.1) = p by omega] at q; exact q)) h2 hb⟩
end LVW
