/-- the bytes of a text: 0 to 255 inside, -1 outside -/
def bOk (B : Int → Int) (n : Int) : Prop := 0 ≤ n ∧ (∀ i, 0 ≤ i → i < n → 0 ≤ B i ∧ B i ≤ 255) ∧ ∀ i, ¬ (0 ≤ i ∧ i < n) → B i = -1
theorem bOk_bA {f : Nat → Int32} {n : Int} (h : 0 ≤ n) : bOk (bA f n) n := ⟨h, fun _ h0 h1 => bA_in h0 h1, fun _ h0 => bA_out h0⟩
section SG3
variable {B : Int → Int} {n : Int}
theorem dgs_b : ∀ (m : Nat) (i v : Int), (n - i).toNat = m → i ≤ n → 0 ≤ v → i ≤ (dgs B n i v).2 ∧ (dgs B n i v).2 ≤ n ∧ 0 ≤ (dgs B n i v).1 ∧ (i < n → 48 ≤ B i → B i ≤ 57 → i < (dgs B n i v).2) := by
  intro m
  induction m with
  | zero =>
    intro i v hm hi hv
    rw [dgs, if_neg (by omega)]
    exact ⟨Int.le_refl _, hi, hv, fun a _ _ => by omega⟩
  | succ m ih =>
    intro i v hm hi hv
    by_cases c : i < n ∧ 48 ≤ B i ∧ B i ≤ 57
    · rw [dgs, if_pos c]
      have q := ih (i + 1) (if v * 10 + B i - 48 ≤ 1099511627776 then v * 10 + B i - 48 else 1099511627776) (by omega) (by omega) (by split <;> omega)
      exact ⟨by omega, q.2.1, q.2.2.1, fun _ _ _ => by omega⟩
    · rw [dgs, if_neg c]
      exact ⟨Int.le_refl _, hi, hv, fun a b d => absurd ⟨a, b, d⟩ c⟩
theorem ltr_b : ∀ (m : Nat) (i : Int), (n - i).toNat = m → i ≤ n → i ≤ ltr B n i ∧ ltr B n i ≤ n ∧ (i < n → 97 ≤ B i → B i ≤ 122 → i < ltr B n i) := by
  intro m
  induction m with
  | zero =>
    intro i hm hi
    rw [ltr, if_neg (by omega)]
    exact ⟨Int.le_refl _, hi, fun a _ _ => by omega⟩
  | succ m ih =>
    intro i hm hi
    by_cases c : i < n ∧ 97 ≤ B i ∧ B i ≤ 122
    · rw [ltr, if_pos c]
      have q := ih (i + 1) (by omega) (by omega)
      exact ⟨by omega, q.2.1, fun _ _ _ => by omega⟩
    · rw [ltr, if_neg c]
      exact ⟨Int.le_refl _, hi, fun a b d => absurd ⟨a, b, d⟩ c⟩
theorem opF_b : ∀ (m : Nat) (i c d : Int), (14 - i).toNat = m → 0 ≤ i → opF i c d ≠ -1 → 0 ≤ opF i c d ∧ opF i c d ≤ 13 ∧ 0 ≤ c ∧ 0 ≤ d := by
  intro m
  induction m with
  | zero =>
    intro i c d hm hi h
    rw [opF, if_neg (by omega)] at h
    exact absurd rfl h
  | succ m ih =>
    intro i c d hm hi h
    by_cases q : i < 14
    · rw [opF, if_pos q] at h ⊢
      by_cases e : chr sb_5 (2 * i).toNat = c ∧ chr sb_5 (2 * i + 1).toNat = d
      · rw [if_pos e]
        have e1 := chr_lt (bs := sb_5) (j := (2 * i).toNat)
        have e2 := chr_lt (bs := sb_5) (j := (2 * i + 1).toNat)
        omega
      · rw [if_neg e] at h ⊢
        exact ih (i + 1) c d (by omega) (by omega) h
    · rw [opF, if_neg q] at h
      exact absurd rfl h
theorem tkO_no {k v : Int} (h2 : k ≠ 2) (h3 : k ≠ 3) (h5 : k ≠ 5) : (k = 2 → 0 ≤ v ∧ v ≤ 99) ∧ (k = 3 → 0 ≤ v ∧ v ≤ 39) ∧ (k = 5 → 0 ≤ v ∧ v ≤ 13) := ⟨fun z => absurd z h2, fun z => absurd z h3, fun z => absurd z h5⟩
/-- what holds of a sign at p -/
def sgP (n p : Int) : Int × Int × Int → Prop
  | (k, v, e) => (k = 1 ↔ p = n) ∧ (p ≠ n → p < e) ∧ p ≤ e ∧ e ≤ n ∧ ((k = 2 → 0 ≤ v ∧ v ≤ 99) ∧ (k = 3 → 0 ≤ v ∧ v ≤ 39) ∧ (k = 5 → 0 ≤ v ∧ v ≤ 13))
theorem sgP_e {p : Int} {t : Int × Int × Int} (h : sgP n p t) : (t.1 = 1 ↔ p = n) ∧ (p ≠ n → p < t.2.2) ∧ p ≤ t.2.2 ∧ t.2.2 ≤ n ∧ ((t.1 = 2 → 0 ≤ t.2.1 ∧ t.2.1 ≤ 99) ∧ (t.1 = 3 → 0 ≤ t.2.1 ∧ t.2.1 ≤ 39) ∧ (t.1 = 5 → 0 ≤ t.2.1 ∧ t.2.1 ≤ 13)) := by
  obtain ⟨k, v, e⟩ := t
  exact h
theorem sgP_o {p k v e : Int} (hk : k ≠ 1) (h : p < e) (hn : e ≤ n) (ht : (k = 2 → 0 ≤ v ∧ v ≤ 99) ∧ (k = 3 → 0 ≤ v ∧ v ≤ 39) ∧ (k = 5 → 0 ≤ v ∧ v ≤ 13)) : sgP n p (k, v, e) := ⟨⟨fun z => absurd z hk, fun z => by omega⟩, fun _ => h, by omega, hn, ht⟩
theorem nuS_f {d : Int × Int} : nuS false d = if -2147483648 ≤ d.1 ∧ d.1 ≤ 2147483647 then (4, d.1, d.2) else (0, 0, d.2) := rfl
theorem nuS_t {d : Int × Int} : nuS true d = if -2147483648 ≤ -d.1 ∧ -d.1 ≤ 2147483647 then (4, -d.1, d.2) else (0, 0, d.2) := rfl
theorem sgP_nf {p : Int} {d : Int × Int} (h : p < d.2) (hn : d.2 ≤ n) : sgP n p (nuS false d) := by
  rw [nuS_f]
  by_cases c : -2147483648 ≤ d.1 ∧ d.1 ≤ 2147483647
  · rw [if_pos c]; exact sgP_o (by decide) h hn (tkO_no (by decide) (by decide) (by decide))
  · rw [if_neg c]; exact sgP_o (by decide) h hn (tkO_no (by decide) (by decide) (by decide))
theorem sgP_nt {p : Int} {d : Int × Int} (h : p < d.2) (hn : d.2 ≤ n) : sgP n p (nuS true d) := by
  rw [nuS_t]
  by_cases c : -2147483648 ≤ -d.1 ∧ -d.1 ≤ 2147483647
  · rw [if_pos c]; exact sgP_o (by decide) h hn (tkO_no (by decide) (by decide) (by decide))
  · rw [if_neg c]; exact sgP_o (by decide) h hn (tkO_no (by decide) (by decide) (by decide))
theorem sgn_p {p : Int} {aft : Bool} (hB : bOk B n) (h0 : 0 ≤ p) (h1 : p ≤ n) : sgP n p (sgn B n p aft) := by
  obtain ⟨b0, b1, b2⟩ := hB
  unfold sgn
  by_cases c1 : B p = -1
  · rw [if_pos c1]
    have e : p = n := by
      by_cases q : p < n
      · have := b1 p h0 q; omega
      · omega
    exact ⟨⟨fun _ => e, fun _ => rfl⟩, fun z => absurd e z, Int.le_refl _, h1, tkO_no (by decide) (by decide) (by decide)⟩
  rw [if_neg c1]
  have hp : p < n := by
    by_cases q : p < n
    · exact q
    · exact absurd (b2 p (by omega)) c1
  by_cases c2 : 48 ≤ B p ∧ B p ≤ 57
  · rw [if_pos c2]
    have q := dgs_b (B := B) (n := n) _ p 0 rfl h1 (by decide)
    exact sgP_nf (q.2.2.2 hp c2.1 c2.2) q.2.1
  rw [if_neg c2]
  by_cases c3 : B p = 45 ∧ (48 ≤ B (p + 1) ∧ B (p + 1) ≤ 57) ∧ aft = false
  · rw [if_pos c3]
    have q := dgs_b (B := B) (n := n) _ (p + 1) 0 rfl (by omega) (by decide)
    exact sgP_nt (by omega) q.2.1
  rw [if_neg c3]
  have nm : ∀ {k lim : Int}, ((k = 2 ∧ lim = 100) ∨ (k = 3 ∧ lim = 40)) → sgP n p (naS k lim (dgs B n (p + 1) 0)) := fun {k lim} hk => by
    have q := dgs_b (B := B) (n := n) _ (p + 1) 0 rfl (by omega) (by decide)
    unfold naS
    by_cases e : (dgs B n (p + 1) 0).1 < lim
    · rw [if_pos e]
      exact sgP_o (by omega) (by omega) q.2.1 ⟨fun z => by omega, fun z => by omega, fun z => by omega⟩
    · rw [if_neg e]
      exact sgP_o (by decide) (by omega) q.2.1 (tkO_no (by decide) (by decide) (by decide))
  by_cases c4 : B p = 118 ∧ 48 ≤ B (p + 1) ∧ B (p + 1) ≤ 57
  · rw [if_pos c4]; exact nm (Or.inl ⟨rfl, rfl⟩)
  rw [if_neg c4]
  by_cases c5 : B p = 98 ∧ 48 ≤ B (p + 1) ∧ B (p + 1) ≤ 57
  · rw [if_pos c5]; exact nm (Or.inr ⟨rfl, rfl⟩)
  rw [if_neg c5]
  by_cases c6 : 97 ≤ B p ∧ B p ≤ 122
  · rw [if_pos c6]
    have q := ltr_b (B := B) (n := n) _ p rfl h1
    have q3 := q.2.2 hp c6.1 c6.2
    have w := wdK_no B n p (ltr B n p)
    exact sgP_o (by omega) q3 q.2.1 (tkO_no (by omega) (by omega) (by omega))
  rw [if_neg c6]
  unfold mkS
  by_cases d1 : opF 0 (B p) (B (p + 1)) ≠ -1 ∧ B (p + 1) ≠ 32
  · rw [if_pos d1]
    have q := opF_b _ 0 (B p) (B (p + 1)) rfl (by decide) d1.1
    have h2 : p + 1 < n := by
      by_cases z : p + 1 < n
      · exact z
      · have := b2 (p + 1) (by omega); omega
    exact sgP_o (by decide) (by omega) (by omega) ⟨fun z => absurd z (by decide), fun z => absurd z (by decide), fun _ => ⟨q.1, q.2.1⟩⟩
  rw [if_neg d1]
  by_cases d2 : opF 0 (B p) 32 ≠ -1
  · rw [if_pos d2]
    have q := opF_b _ 0 (B p) 32 rfl (by decide) d2
    exact sgP_o (by decide) (by omega) (by omega) ⟨fun z => absurd z (by decide), fun z => absurd z (by decide), fun _ => ⟨q.1, q.2.1⟩⟩
  rw [if_neg d2]
  by_cases d3 : B p = 58
  · rw [if_pos d3]; exact sgP_o (by decide) (by omega) (by omega) (tkO_no (by decide) (by decide) (by decide))
  rw [if_neg d3]
  by_cases d4 : B p = 61
  · rw [if_pos d4]; exact sgP_o (by decide) (by omega) (by omega) (tkO_no (by decide) (by decide) (by decide))
  rw [if_neg d4]
  exact sgP_o (by decide) (by omega) (by omega) (tkO_no (by decide) (by decide) (by decide))
theorem sgn_b {p : Int} {aft : Bool} (hB : bOk B n) (h0 : 0 ≤ p) (h1 : p ≤ n) : ((sgn B n p aft).1 = 1 ↔ p = n) ∧ (p ≠ n → p < (sgn B n p aft).2.2) ∧ p ≤ (sgn B n p aft).2.2 ∧ (sgn B n p aft).2.2 ≤ n ∧ (((sgn B n p aft).1 = 2 → 0 ≤ (sgn B n p aft).2.1 ∧ (sgn B n p aft).2.1 ≤ 99) ∧ ((sgn B n p aft).1 = 3 → 0 ≤ (sgn B n p aft).2.1 ∧ (sgn B n p aft).2.1 ≤ 39) ∧ ((sgn B n p aft).1 = 5 → 0 ≤ (sgn B n p aft).2.1 ∧ (sgn B n p aft).2.1 ≤ 13)) := sgP_e (sgn_p hB h0 h1)
end SG3
