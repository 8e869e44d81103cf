/-! calls that put rows into lists, take them out; a program begun -/
def rIq (D : va_G) (I : FieldType → ClassId) (P : List Nat) (F : Nat → va_E) (γ el : Nat → Nat → Nat) (f lst k x : Nat) (P1 : List Nat) (F1 : Nat → va_E) (γ1 el1 : Nat → Nat → Nat) (dc ds : Nat) : Prop :=
  rSt f [101] [3, 6, 101] D I P F γ el P1 F1 γ1 el1 ∧ γ1 0 x = 1 ∧ γ1 2 lst = γ 2 lst + 1 ∧ (∀ i, el1 lst i = if i < k then el lst i else if i = k then x else el lst (i - 1)) ∧ (∀ a, γ 0 a ≠ 0 → a ≠ lst → γ1 2 a = γ 2 a ∧ el1 a = el a) ∧ γ1 16 f = γ 16 f ∧ γ1 18 f = γ 18 f - 1 ∧ rNu f γ γ1 ∧ F1 x = F x ∧ (18 * dc + rPh γ el f ≤ rPh γ1 el1 f ∧ ds + rPh γ el f ≤ rPh γ1 el1 f) ∧ rM γ1 el1 f ≤ rM γ el f + 9 ∧ ∀ B, rBd γ el f B → rBd γ1 el1 f B
def rDq (D : va_G) (I : FieldType → ClassId) (P : List Nat) (F : Nat → va_E) (γ el : Nat → Nat → Nat) (f lst k : Nat) (F1 : Nat → va_E) (γ1 el1 : Nat → Nat → Nat) : Prop :=
  rSt f [] [3, 6] D I P F γ el P F1 γ1 el1 ∧ γ1 2 lst = γ 2 lst - 1 ∧ (∀ i, el1 lst i = if i < k then el lst i else el lst (i + 1)) ∧ (∀ a, γ 0 a ≠ 0 → a ≠ lst → γ1 2 a = γ 2 a ∧ el1 a = el a) ∧ γ1 16 f = γ 16 f ∧ γ1 18 f = γ 18 f ∧ rNu f γ γ1 ∧ rPh γ1 el1 f = rPh γ el f ∧ rM γ1 el1 f = rM γ el f ∧ ∀ B, rBd γ el f B → rBd γ1 el1 f B
section RT2
variable {l : Launch} {R : Room} {Qf : gFin} {k : gKey} {pc cs sl i : Nat} {L : List (Nat × Value)} {st : List Value} {D : va_G} {I : FieldType → ClassId} {P : List Nat} {F : Nat → va_E} {γ el : Nat → Nat → Nat} {c f lst x j : Nat}
theorem Iq_of {P1 : List Nat} {F1 : Nat → va_E} {m1 z1 : Int32} {f1 : Nat → Option Nat} {e1 n1 kk dc ds : Nat} (hT : RS D I P F γ el) (hs : rSub P P1) (hl : γ 0 lst = 3) (hlf : γ 1 lst = f) (hx : γ 0 x = 101) (hxf : γ 1 x = f) (hx22 : γ 22 x = 0) (hx8 : γ 8 x < γ 16 f) (h18 : 0 < γ 18 f) (hk : kk ≤ γ 2 lst)
    (hc : γ 0 c = 9) (hcf : γ 1 c = f) (hj : j < γ 2 (γ 14 c)) (hli : γ 14 (el (γ 14 c) j) = lst) (hx1 : rk_1 γ x (F x)) (he1 : (γ 0 e1 = 6 ∧ γ 3 e1 = lst ∧ γ 1 e1 = γ 1 lst) ∨ γ 0 e1 = 0) (heP : e1 ∈ P1)
    (hfr : ∀ b, γ 0 b ≠ 0 → b ≠ lst → b ≠ e1 → F1 b = F b) (c1 : F1 lst = .inr (4, [.int m1, .ref e1, .int z1])) (c2 : z1.toInt = γ 2 lst + 1) (c3 : F1 e1 = .inl (I (.object "java/lang/Object"), n1, .inr (.inr (.inr (.inr f1)))))
    (d1 : γ 2 lst + 1 ≤ n1) (d2 : (n1 : Int) ≤ 1000000) (d3 : 2 * n1 ≤ 3 * max (γ 17 lst) (γ 2 lst + 1) + 20) (d4 : 10 ≤ n1)
    (g1 : ∀ j, j < kk → f1 j = some (el lst j)) (g2 : f1 kk = some x) (g3 : ∀ j, kk ≤ j → j < γ 2 lst → f1 (j + 1) = some (el lst j)) (g4 : ∀ j w, f1 j = some w → rLK γ w ∨ w = x) (hdc : 18 * dc + 4 * γ 13 lst ≤ 4 * n1) (hds : ds + 4 * γ 13 lst ≤ 4 * n1) :
    rIq D I P F γ el f lst kk x P1 F1 (gIns γ lst x e1 n1 kk f) (eIns el lst kk x) dc ds := by
  obtain ⟨h1, h2, h3, h4⟩ := St_ins3 hT hs hl hlf hx hxf hx22 hx8 h18 hk hc hcf hj hli hx1 he1 heP hfr c1 c2 c3 d1 d2 d3 d4 g1 g2 g3 g4
  have hle : lst ≠ x := fun e => by rw [e, hx] at hl; cases hl
  have hxe : x ≠ e1 := fun e => by rw [← e] at he1; omega
  exact ⟨h1, if_pos rfl, if_pos rfl, fun i => if_pos rfl, fun a h0 hne => ⟨if_neg hne, eIns_ne hne⟩, rfl, if_pos rfl, ⟨rfl, rfl, rfl, rfl⟩, hfr x (by omega) (Ne.symm hle) hxe, ⟨by omega, by omega⟩, h3, h4⟩
set_option maxHeartbeats 1000000 in
theorem Gt_add (hl0 : l.stackTraces = false) (d : decode k.1 pc = .ok (.invokevirtual i, 3)) (hw : gCw (gV D I) R k.2.2.1 i yJx4a65c_add_9ea2d cJx4a65c_add_9ea2d 2 (some FieldType.boolean) 6 128 1) (w2 : Cond.instanceMethod yJx4a65c_add_9ea2d ∈ (gV D I).2.2.2.2) (w3 : Cond.selects yJx4a65c_add_9ea2d.cls yJx4a65c_add_9ea2d yJx4a65c_add_9ea2d ∈ (gV D I).2.2.2.2)
    (hT : RS D I P F γ el) (hl : γ 0 lst = 3) (hlf : γ 1 lst = f) (hx : γ 0 x = 101) (hxf : γ 1 x = f) (hx22 : γ 22 x = 0) (hx8 : γ 8 x < γ 16 f) (h18 : 0 < γ 18 f) (hc : γ 0 c = 9) (hcf : γ 1 c = f) (hj : j < γ 2 (γ 14 c)) (hli : γ 14 (el (γ 14 c) j) = lst) (hx1 : rk_1 γ x (F x))
    (hsz : γ 2 lst ≤ 600000) (hcs : cs + 1 ≤ R.cells) (hsl : sl + (2 * γ 13 lst + 11) ≤ R.slots) (hcat : (st.map fun u => u.category).sum ≤ 8)
    (kk : ∀ P1 F1 γ1 el1 dc ds, rIq D I P F γ el f lst (γ 2 lst) x P1 F1 γ1 el1 dc ds → G (gV D I) l R Qf k (pc + 3) L (.int 1 :: st) (va_pl P1 F1) (cs + dc) (sl + ds)) :
    G (gV D I) l R Qf k pc L (.ref x :: .ref lst :: st) (va_pl P F) cs sl := by
  obtain ⟨⟨m, z, e, v1, v2, v3, v4, v5⟩, v6⟩ := show rk_3 D I γ el F lst from RS_o hT hl
  have ml : lst ∈ P := hT.1 lst (by omega)
  have mx : x ∈ P := hT.1 x (by omega)
  have bz : gB z 0 16777216 := ⟨by omega, by omega⟩
  obtain ⟨op, t, a, b, s, ra, rb, r1, r2, r3, r4, r5, r6, -⟩ := id hx1
  unfold rCp at v5
  rcases v4 with ⟨e0, s0, c0⟩ | ⟨x1, x2, n, g, y1, y2, y3, y4, y5, y6⟩
  · subst e0
    refine Gw_callV (As := [.ref x]) (gV_ok D I) (cp_746_ArrayList_add l hl0 D I P F lst x m z op t a b s ra rb ml mx v1 r1 bz r2 r3 r4 r5 r6 (by omega)) d (gCw_mono hw (by decide) (by decide)) w2 w3 ml v1 rfl (by omega) (by omega) hcat (fun r w dc ds hp => ?_) (fun _ _ _ _ _ z => z.elim)
    obtain ⟨P1, F1, o1, o2, e1, n1, f1, rfl, rfl, p1, p2, p3, p4, p5, p6, p7, p8, p9, p10, p11, p12, p13, p14⟩ := hp
    have zz : z.toInt.toNat = γ 2 lst := by omega
    rw [zz] at p12
    exact kk P1 F1 _ _ dc ds (Iq_of hT p1 hl hlf hx hxf hx22 hx8 h18 (Nat.le_refl _) hc hcf hj hli hx1 (Or.inr (RS_new hT p7)) p6 (fun b h0 h1 h2 => p2 b (hT.1 b h0) (nm_c h1 nm_n)) p4 (by omega) p5 (by omega) (by omega) (by omega) (by omega) (fun j hj => by omega) p12 (fun j h1 h2 => by omega) (fun j w hj => Or.inr (p13 j w hj)) (by omega) (by omega))
  · have me : e ∈ P := RS_m hT x1 (by decide)
    have hel := RS_el hT y6
    by_cases hroom : γ 2 lst < n
    · refine Gw_callV (As := [.ref x]) (gV_ok D I) (cp_88_ArrayList_add l hl0 D I P F lst x e m z op t a b s ra rb g n ml mx me v1 r1 y1 bz r2 r3 r4 r5 r6 (by omega) hel (by omega)) d (gCw_mono hw (by decide) (by decide)) w2 w3 ml v1 rfl (by omega) (by omega) hcat (fun r w dc ds hp => ?_) (fun _ _ _ _ _ z => z.elim)
      obtain ⟨F1, o1, o2, f1, rfl, rfl, p1, p2, p3, p4, p5, p6, p7, p8, ⟨p9, p10⟩, p11⟩ := hp
      have zz : z.toInt.toNat = γ 2 lst := by omega
      rw [zz] at p10
      exact kk P F1 _ _ dc ds (Iq_of hT rSub_rf hl hlf hx hxf hx22 hx8 h18 (Nat.le_refl _) hc hcf hj hli hx1 (Or.inl ⟨x1, x2⟩) me (fun b h0 h1 h2 => p1 b (hT.1 b h0) (nm_c h1 (nm_c h2 nm_n))) p2 (by omega) p4 (by omega) (by omega) (by omega) (by omega) (fun j hj => (p9 j (by omega)).trans (y5 j hj)) p10 (fun j h1 h2 => by omega) (fun j w hj => by rcases p11 j w hj with h | ⟨q, h⟩; exact Or.inr h; exact Or.inl (y6 q w h)) (by omega) (by omega))
    · refine Gw_callV (As := [.ref x]) (gV_ok D I) (cp_276_ArrayList_add l hl0 D I P F lst x e m z op t a b s ra rb g n ml mx me v1 r1 y1 bz r2 r3 r4 r5 r6 (by omega) (by omega) (by omega) hel (by omega)) d (gCw_mono hw (by decide) (by decide)) w2 w3 ml v1 rfl (by omega) (by omega) hcat (fun r w dc ds hp => ?_) (fun _ _ _ _ _ z => z.elim)
      obtain ⟨P1, F1, o1, o2, e1, n1, f1, rfl, rfl, p1, p2, p3, p4, p5, p6, p7, p8, p9, p10, p11, ⟨p12, p13⟩, p14, p15⟩ := hp
      have zz : z.toInt.toNat = γ 2 lst := by omega
      rw [zz] at p13
      exact kk P1 F1 _ _ dc ds (Iq_of hT p1 hl hlf hx hxf hx22 hx8 h18 (Nat.le_refl _) hc hcf hj hli hx1 (Or.inr (RS_new hT p7)) p6 (fun b h0 h1 h2 => p2 b (hT.1 b h0) (nm_c h1 nm_n)) p4 (by omega) p5 (by omega) (by omega) (by omega) (by omega) (fun j hj => (p12 j (by omega)).trans (y5 j hj)) p13 (fun j h1 h2 => by omega) (fun j w hj => by rcases p14 j w hj with h | ⟨q, h⟩; exact Or.inr h; exact Or.inl (y6 q w h)) (by omega) (by omega))
set_option maxHeartbeats 1000000 in
theorem Gt_ins {p : Int32} (hl0 : l.stackTraces = false) (d : decode k.1 pc = .ok (.invokevirtual i, 3)) (hw : gCw (gV D I) R k.2.2.1 i yJx4a65c_add_7a177 cJx4a65c_add_7a177 5 none 5 105 2) (w2 : Cond.instanceMethod yJx4a65c_add_7a177 ∈ (gV D I).2.2.2.2) (w3 : Cond.selects yJx4a65c_add_7a177.cls yJx4a65c_add_7a177 yJx4a65c_add_7a177 ∈ (gV D I).2.2.2.2)
    (hT : RS D I P F γ el) (hl : γ 0 lst = 3) (hlf : γ 1 lst = f) (hx : γ 0 x = 101) (hxf : γ 1 x = f) (hx22 : γ 22 x = 0) (hx8 : γ 8 x < γ 16 f) (h18 : 0 < γ 18 f) (hc : γ 0 c = 9) (hcf : γ 1 c = f) (hj : j < γ 2 (γ 14 c)) (hli : γ 14 (el (γ 14 c) j) = lst) (hx1 : rk_1 γ x (F x))
    (hp0 : 0 ≤ p.toInt) (hp1 : p.toInt ≤ γ 2 lst) (hsz : γ 2 lst ≤ 600000) (hcs : cs + 1 ≤ R.cells) (hsl : sl + (2 * γ 13 lst + 11) ≤ R.slots) (hcat : (st.map fun u => u.category).sum ≤ 8)
    (kk : ∀ P1 F1 γ1 el1 dc ds, rIq D I P F γ el f lst p.toInt.toNat x P1 F1 γ1 el1 dc ds → G (gV D I) l R Qf k (pc + 3) L st (va_pl P1 F1) (cs + dc) (sl + ds)) :
    G (gV D I) l R Qf k pc L (.ref x :: .int p :: .ref lst :: st) (va_pl P F) cs sl := by
  obtain ⟨⟨m, z, e, v1, v2, v3, v4, v5⟩, v6⟩ := show rk_3 D I γ el F lst from RS_o hT hl
  have ml : lst ∈ P := hT.1 lst (by omega)
  have mx : x ∈ P := hT.1 x (by omega)
  have bz : gB z 0 16777216 := ⟨by omega, by omega⟩
  have bp : gB p 0 16777216 := ⟨by omega, by omega⟩
  obtain ⟨op, t, a, b, s, ra, rb, r1, r2, r3, r4, r5, r6, -⟩ := id hx1
  unfold rCp at v5
  have hk : p.toInt.toNat ≤ γ 2 lst := by omega
  rcases v4 with ⟨e0, s0, c0⟩ | ⟨x1, x2, n, g, y1, y2, y3, y4, y5, y6⟩
  · subst e0
    refine Gw_callV (As := [.int p, .ref x]) (gV_ok D I) (cp_1239_ArrayList_add l hl0 D I P F lst x p m z op t a b s ra rb ml mx v1 r1 bp bz r2 r3 r4 r5 r6 (by omega) (by omega)) d (gCw_mono hw (by decide) (by decide)) w2 w3 ml v1 rfl (by omega) (by omega) hcat (fun r w dc ds hp => ?_) (fun _ _ _ _ _ z => z.elim)
    obtain ⟨P1, F1, o1, o2, e1, n1, f1, rfl, rfl, p1, p2, p3, p4, p5, p6, p7, p8, p9, p10, p11, p12, p13, p14⟩ := hp
    exact kk P1 F1 _ _ dc ds (Iq_of hT p1 hl hlf hx hxf hx22 hx8 h18 hk hc hcf hj hli hx1 (Or.inr (RS_new hT p7)) p6 (fun b h0 h1 h2 => p2 b (hT.1 b h0) (nm_c h1 nm_n)) p4 (by omega) p5 (by omega) (by omega) (by omega) (by omega) (fun j hj => by omega) p12 (fun j h1 h2 => by omega) (fun j w hj => Or.inr (p13 j w hj)) (by omega) (by omega))
  · have me : e ∈ P := RS_m hT x1 (by decide)
    have hel := RS_el hT y6
    by_cases hroom : γ 2 lst < n
    · refine Gw_callV (As := [.int p, .ref x]) (gV_ok D I) (cp_1055_ArrayList_add l hl0 D I P F lst x e p m z op t a b s ra rb g n ml mx me v1 r1 y1 bp bz r2 r3 r4 r5 r6 (by omega) (by omega) hel (by omega)) d (gCw_mono hw (by decide) (by decide)) w2 w3 ml v1 rfl (by omega) (by omega) hcat (fun r w dc ds hp => ?_) (fun _ _ _ _ _ z => z.elim)
      obtain ⟨F1, o1, o2, f1, rfl, rfl, p1, p2, p3, p4, p5, p6, p7, p8, ⟨p9, p10, p12⟩, p11⟩ := hp
      exact kk P F1 _ _ dc ds (Iq_of hT rSub_rf hl hlf hx hxf hx22 hx8 h18 hk hc hcf hj hli hx1 (Or.inl ⟨x1, x2⟩) me (fun b h0 h1 h2 => p1 b (hT.1 b h0) (nm_c h2 (nm_c h1 nm_n))) p2 (by omega) p4 (by omega) (by omega) (by omega) (by omega) (fun j hj => (p9 j (by omega)).trans (y5 j (by omega))) p10 (fun j h1 h2 => (p12 j (by omega) (by omega)).trans (y5 j h2)) (fun j w hj => by rcases p11 j w hj with h | ⟨q, h⟩; exact Or.inr h; exact Or.inl (y6 q w h)) (by omega) (by omega))
    · refine Gw_callV (As := [.int p, .ref x]) (gV_ok D I) (cp_1142_ArrayList_add l hl0 D I P F lst x e p m z op t a b s ra rb g n ml mx me v1 r1 y1 bp bz r2 r3 r4 r5 r6 (by omega) (by omega) (by omega) (by omega) hel (by omega)) d (gCw_mono hw (by decide) (by decide)) w2 w3 ml v1 rfl (by omega) (by omega) hcat (fun r w dc ds hp => ?_) (fun _ _ _ _ _ z => z.elim)
      obtain ⟨P1, F1, o1, o2, e1, n1, f1, rfl, rfl, p1, p2, p3, p4, p5, p6, p7, p8, p9, p10, p11, ⟨p12, p13, p16⟩, p14, p15⟩ := hp
      exact kk P1 F1 _ _ dc ds (Iq_of hT p1 hl hlf hx hxf hx22 hx8 h18 hk hc hcf hj hli hx1 (Or.inr (RS_new hT p7)) p6 (fun b h0 h1 h2 => p2 b (hT.1 b h0) (nm_c h1 nm_n)) p4 (by omega) p5 (by omega) (by omega) (by omega) (by omega) (fun j hj => (p12 j (by omega)).trans (y5 j (by omega))) p13 (fun j h1 h2 => (p16 j (by omega) (by omega)).trans (y5 j h2)) (fun j w hj => by rcases p14 j w hj with h | ⟨q, h⟩; exact Or.inr h; exact Or.inl (y6 q w h)) (by omega) (by omega))
set_option maxHeartbeats 1000000 in
theorem Gt_rem {p : Int32} (hl0 : l.stackTraces = false) (d : decode k.1 pc = .ok (.invokevirtual i, 3)) (hw : gCw (gV D I) R k.2.2.1 i yJx4a65c_remove_915e3 cJx4a65c_remove_915e3 4 (some (FieldType.object "java/lang/Object")) 2 43 1) (w2 : Cond.instanceMethod yJx4a65c_remove_915e3 ∈ (gV D I).2.2.2.2) (w3 : Cond.selects yJx4a65c_remove_915e3.cls yJx4a65c_remove_915e3 yJx4a65c_remove_915e3 ∈ (gV D I).2.2.2.2)
    (hT : RS D I P F γ el) (hl : γ 0 lst = 3) (hlf : γ 1 lst = f) (hc : γ 0 c = 9) (hcf : γ 1 c = f) (hp0 : 0 ≤ p.toInt) (hp1 : p.toInt < γ 2 lst) (hcs : cs + 0 ≤ R.cells) (hsl : sl + 0 ≤ R.slots) (hcat : (st.map fun u => u.category).sum ≤ 8)
    (kk : ∀ F1 γ1 el1, rDq D I P F γ el f lst p.toInt.toNat F1 γ1 el1 → G (gV D I) l R Qf k (pc + 3) L (.ref (el lst p.toInt.toNat) :: st) (va_pl P F1) cs sl) :
    G (gV D I) l R Qf k pc L (.int p :: .ref lst :: st) (va_pl P F) cs sl := by
  obtain ⟨⟨m, z, e, v1, v2, v3, v4, v5⟩, v6⟩ := show rk_3 D I γ el F lst from RS_o hT hl
  have ml : lst ∈ P := hT.1 lst (by omega)
  have bz : gB z 0 16777216 := ⟨by omega, by omega⟩
  have bp : gB p 0 16777216 := ⟨by omega, by omega⟩
  obtain ⟨x1, x2, n, g, y1, y2, y3, y4, y5, y6⟩ := rLC_n v4 (by omega)
  have me : e ∈ P := RS_m hT x1 (by decide)
  refine Gw_callV (As := [.int p]) (gV_ok D I) (cp_1507_ArrayList_remove l hl0 D I P F lst e p m z g n (el lst p.toInt.toNat) ml me v1 y1 bp bz (by omega) (by omega) (RS_el hT y6) (y5 p.toInt.toNat (by omega)) (by omega)) d (gCw_mono hw (by decide) (by decide)) w2 w3 ml v1 rfl (by omega) (by omega) hcat (fun r w dc ds hp => ?_) (fun _ _ _ _ _ z => z.elim)
  obtain ⟨F1, o1, o2, f1, rfl, rfl, p1, p2, p3, p4, p5, p6, p7, ⟨p8, p9⟩, p10⟩ := hp
  obtain ⟨h1, h2, h3, h4⟩ := St_del3 (f := f) (k := p.toInt.toNat) hT hl hlf (by omega) hc hcf x1 x2.1 x2.2 y4 (by omega) (by omega) (fun b h0 h1 h2 => p1 b (hT.1 b h0) (nm_c h2 (nm_c h1 nm_n))) p2 (by omega) p3 (fun j hj => (p8 j (by omega)).trans (y5 j (by omega))) (fun j h1 h2 => (p9 j (by omega) (by omega)).trans (y5 (j + 1) h2)) (fun j w hj => by obtain ⟨q, h⟩ := p10 j w hj; exact y6 q w h)
  refine G_widen (cs' := cs) (sl' := sl) (by omega) (by omega) ?_
  exact kk F1 _ _ ⟨h1, if_pos rfl, fun i => if_pos rfl, fun a h0 hne => ⟨if_neg hne, eDel_ne hne⟩, rfl, rfl, ⟨rfl, rfl, rfl, rfl⟩, h2, h3, h4⟩
end RT2
