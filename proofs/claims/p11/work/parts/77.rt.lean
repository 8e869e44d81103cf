/-! calls on the programs over the state -/
section RT
variable {l : Launch} {R : Room} {Qf : gFin} {k : gKey} {pc cs sl i : Nat} {L : List (Nat × Value)} {st : List Value} {D : va_G} {I : FieldType → ClassId} {P : List Nat} {F : Nat → va_E} {γ el : Nat → Nat → Nat} {c f : Nat}
theorem gCw_mono {v : gEnv} {own : String} {y : MethodName} {cc : ByteArray} {nL fr lo fr' lo' np : Nat} {ret : Option FieldType} (h : gCw v R own i y cc nL ret fr lo np) (h1 : fr' ≤ fr) (h2 : lo' ≤ lo) : gCw v R own i y cc nL ret fr' lo' np := by
  obtain ⟨w1, w2, w3, w4, w5, w6, w7⟩ := h
  exact ⟨w1, w2, w3, w4, w5, by omega, by omega⟩
theorem RS_el {g : Nat → Option Nat} (hT : RS D I P F γ el) (h : ∀ j w, g j = some w → rLK γ w) : rEl P F g := fun j w hj => by
  have h1 := h j w hj
  have h0 : γ 0 w ≠ 0 := by unfold rLK at h1; omega
  refine ⟨hT.1 w h0, ?_⟩
  rcases h1 with q | q | q | q | q
  · obtain ⟨op, t, a, b, s, ra, rb, w1, -⟩ := show rk_1 γ w (F w) from RS_o hT q
    exact Or.inr ⟨_, w1⟩
  · obtain ⟨x, n, p, s, w1, -⟩ := show rk_2 γ w (F w) from RS_o hT q
    exact Or.inl ⟨_, w1⟩
  · obtain ⟨op, t, a, b, s, ra, rb, w1, -⟩ := show rkR (F w) from RS_o hT q
    exact Or.inr ⟨_, w1⟩
  · obtain ⟨x, n, p, s, w1, -⟩ := show rk_102 γ w (F w) from RS_o hT q
    exact Or.inl ⟨_, w1⟩
  · obtain ⟨x, n, p, s, w1, -⟩ := show rk_202 γ w (F w) from RS_o hT q
    exact Or.inl ⟨_, w1⟩
theorem RS_new {q : Nat} (hT : RS D I P F γ el) (h : q ∉ P) : γ 0 q = 0 := Classical.byContradiction (fun z => h (hT.1 q z))
theorem rkR0 {e : va_E} {op : Int32} (h : e = .inr (20, [.int op, .int 0, .int 0, .int 0, .int 0, .int 0, .int 0])) (b : gB op 0 32) (r : op.toInt ≤ 14 ∨ 20 ≤ op.toInt) : rkR e := ⟨op, 0, 0, 0, 0, 0, 0, h, b, ⟨by decide, by decide⟩, ⟨by decide, by decide⟩, ⟨by decide, by decide⟩, ⟨by decide, by decide⟩, r, Or.inl (by decide), Or.inl (by decide)⟩
theorem rkR00 {e : va_E} (h : e = .inr (20, [.int 0, .int 0, .int 0, .int 0, .int 0, .int 0, .int 0])) : rkR e := rkR0 h ⟨by decide, by decide⟩ (Or.inl (by decide))
theorem fI0 {e : va_E} {op : Int32} (h : e = .inr (20, [.int op, .int 0, .int 0, .int 0, .int 0, .int 0, .int 0])) : (fI e 5).toInt = 0 ∧ (fI e 6).toInt = 0 ∧ (fI e 2).toInt = 0 ∧ (fI e 3).toInt = 0 := by
  rw [h]
  exact ⟨rfl, rfl, rfl, rfl⟩
set_option maxHeartbeats 1000000 in
theorem Gt_row (hl0 : l.stackTraces = false) (d : decode k.1 pc = .ok (.invokevirtual i, 3)) (hw : gCw (gV D I) R k.2.2.1 i yX13_row cX13_row 2 (some (FieldType.object "SpillForgeModel$Row")) 7 149 0) (w2 : Cond.instanceMethod yX13_row ∈ (gV D I).2.2.2.2) (w3 : Cond.selects yX13_row.cls yX13_row yX13_row ∈ (gV D I).2.2.2.2)
    (hT : RS D I P F γ el) (hc : γ 0 c = 9) (hcf : γ 1 c = f) (hsz : γ 2 (γ 15 c) ≤ 600000) (hcs : cs + 2 ≤ R.cells) (hsl : sl + (2 * γ 13 (γ 15 c) + 18) ≤ R.slots) (hcat : (st.map fun u => u.category).sum ≤ 8)
    (kk : ∀ P1 F1 γ1 el1 x dc ds, rRq D I P F γ el f c P1 F1 γ1 el1 x dc ds → G (gV D I) l R Qf k (pc + 3) L (.ref x :: st) (va_pl P1 F1) (cs + dc) (sl + ds)) :
    G (gV D I) l R Qf k pc L (.ref c :: st) (va_pl P F) cs sl := by
  have h9 : rk_9 γ el c (F c) := RS_o hT hc
  obtain ⟨lb, lr, rn, md, w1, -⟩ := id h9
  obtain ⟨u2, u3, u4, u5, u6, u7, u8, u9, u10, u11, u12, u13, u14, u15, u16, u17⟩ := rk9_at w1 h9
  have hlr : γ 15 c = lr := u2.2.1
  rw [hlr] at hsz hsl
  obtain ⟨⟨m, z, e, v1, v2, v3, v4, v5⟩, v6⟩ := show rk_5 D I γ el F lr from RS_o hT u5
  have mc : c ∈ P := hT.1 c (by omega)
  have mlr : lr ∈ P := hT.1 lr (by omega)
  have bz : gB z 0 1000000 := ⟨by omega, by omega⟩
  have brn : gB rn 0 1000000 := ⟨by omega, by omega⟩
  have bmd : gB md 0 1000000 := ⟨by omega, by omega⟩
  by_cases hlt : rn.toInt < γ 2 lr
  · obtain ⟨x1, x2, n, g, y1, y2, y3, y4, y5, y6⟩ := rLC_n v4 (by omega)
    have hi : rn.toInt.toNat < γ 2 lr := by omega
    have x0 : γ 0 (el lr rn.toInt.toNat) = 101 := u16 _ (by omega) hi
    obtain ⟨op, t, a, b, s, ra, rb, r1, r2, r3, r4, r5, r6, r7, -⟩ := show rkR (F (el lr rn.toInt.toNat)) from RS_o hT x0
    have me : e ∈ P := RS_m hT x1 (by decide)
    refine Gw_callV (As := []) (gV_ok D I) (cp_2289_Code_row l hl0 D I P F c lr e lb rn md m z g n (el lr rn.toInt.toNat) op t a b s ra rb mc mlr me (hT.1 _ (by omega)) w1 v1 y1 r1 brn bmd bz r2 r3 r4 r5 r6 (by omega) (by omega) (y5 _ hi) (by omega)) d (gCw_mono hw (by decide) (by decide)) w2 w3 mc w1 rfl (by omega) (by omega) hcat (fun r w dc ds hp => ?_) (fun _ _ _ _ _ z => z.elim)
    obtain ⟨F1, o, rfl, rfl, p1, p2, p3, p4, p5, p6, p7, p8, p9⟩ := hp
    exact kk P F1 _ _ _ dc ds (St_rowo hT hc hcf w1 hlr hlt rfl (fun b h0 hb hx => p1 b (hT.1 b h0) (nm_c hx (nm_c hb nm_n))) p2 p9 (rkR0 p5 r2 r7) (fI0 p5) p6 p7)
  · have heq : rn.toInt = γ 2 lr := by omega
    unfold rCp at v5
    rcases v4 with ⟨e0, s0, c0⟩ | hN
    · subst e0
      refine Gw_callV (As := []) (gV_ok D I) (cp_2696_Code_row l hl0 D I P F c lr lb rn md m z mc mlr w1 v1 brn bmd bz (by omega) (by omega)) d (gCw_mono hw (by decide) (by decide)) w2 w3 mc w1 rfl (by omega) (by omega) hcat (fun r w dc ds hp => ?_) (fun _ _ _ _ _ z => z.elim)
      obtain ⟨P1, F1, o1, x, o3, o4, e1, n1, f1, rfl, rfl, p1, p2, p3, p4, p5, p6, p7, p8, p9, p10, p11, p12, p13, p14, p15, p16, p17, p18, p19⟩ := hp
      refine kk P1 F1 _ _ x dc ds (St_rown hT p1 hc hcf w1 heq (RS_new hT p8) p7 (Or.inr (RS_new hT p10)) p9 (rn_oa p4 p6) (fun b h0 h1 h2 h3 => p2 b (hT.1 b h0) (nm_c h1 (nm_c h2 nm_n))) p3 p15 (rkR00 p4) (fI0 p4) p5 (by omega) p6 (by omega) (by omega) (by omega) (by omega) (fun j hj => by omega) ?_ (fun j w hj => Or.inr (p18 j w hj)) (by omega) (by omega))
      rw [show z.toInt.toNat = γ 2 lr by omega] at p17
      exact p17
    · obtain ⟨x1, x2, n, g, y1, y2, y3, y4, y5, y6⟩ := hN
      have me : e ∈ P := RS_m hT x1 (by decide)
      have hel := RS_el hT y6
      by_cases hroom : γ 2 lr < n
      · refine Gw_callV (As := []) (gV_ok D I) (cp_2390_Code_row l hl0 D I P F c lr e lb rn md m z g n mc mlr me w1 v1 y1 brn bmd bz (by omega) (by omega) hel (by omega)) d (gCw_mono hw (by decide) (by decide)) w2 w3 mc w1 rfl (by omega) (by omega) hcat (fun r w dc ds hp => ?_) (fun _ _ _ _ _ z => z.elim)
        obtain ⟨P1, F1, o1, x, o3, o4, f1, rfl, rfl, p1, p2, p3, p4, p5, p6, p7, p8, p9, p10, p11, p12, p13, p14, ⟨p15, p16⟩, p17⟩ := hp
        refine kk P1 F1 _ _ x dc ds (St_rown hT p1 hc hcf w1 heq (RS_new hT p8) p7 (Or.inl ⟨x1, x2⟩) (p1 _ me) (rn_oa p5 p6) (fun b h0 h1 h2 h3 => p2 b (hT.1 b h0) (nm_c h1 (nm_c h2 (nm_c h3 nm_n)))) p3 p13 (rkR00 p5) (fI0 p5) p4 (by omega) p6 (by omega) (by omega) (by omega) (by omega) (fun j hj => (p15 j (by omega)).trans (y5 j hj)) ?_ (fun j w hj => ?_) (by omega) (by omega))
        · rw [show z.toInt.toNat = γ 2 lr by omega] at p16
          exact p16
        · rcases p17 j w hj with h | ⟨q, h⟩
          · exact Or.inr h
          · exact Or.inl (y6 q w h)
      · refine Gw_callV (As := []) (gV_ok D I) (cp_2541_Code_row l hl0 D I P F c lr e lb rn md m z g n mc mlr me w1 v1 y1 brn bmd bz (by omega) (by omega) (by omega) (by omega) hel (by omega)) d (gCw_mono hw (by decide) (by decide)) w2 w3 mc w1 rfl (by omega) (by omega) hcat (fun r w dc ds hp => ?_) (fun _ _ _ _ _ z => z.elim)
        obtain ⟨P1, F1, o1, x, o3, o4, e1, n1, f1, rfl, rfl, p1, p2, p3, p4, p5, p6, p7, p8, p9, p10, p11, p12, p13, p14, p15, p16, ⟨p17, p18⟩, p19, p20⟩ := hp
        refine kk P1 F1 _ _ x dc ds (St_rown hT p1 hc hcf w1 heq (RS_new hT p8) p7 (Or.inr (RS_new hT p10)) p9 (rn_oa p4 p6) (fun b h0 h1 h2 h3 => p2 b (hT.1 b h0) (nm_c h1 (nm_c h2 nm_n))) p3 p15 (rkR00 p4) (fI0 p4) p5 (by omega) p6 (by omega) (by omega) (by omega) (by omega) (fun j hj => (p17 j (by omega)).trans (y5 j hj)) ?_ (fun j w hj => ?_) (by omega) (by omega))
        · rw [show z.toInt.toNat = γ 2 lr by omega] at p18
          exact p18
        · rcases p19 j w hj with h | ⟨q, h⟩
          · exact Or.inr h
          · exact Or.inl (y6 q w h)
set_option maxHeartbeats 1000000 in
theorem Gt_block (hl0 : l.stackTraces = false) (d : decode k.1 pc = .ok (.invokevirtual i, 3)) (hw : gCw (gV D I) R k.2.2.1 i yX13_block cX13_block 2 (some (FieldType.object "SpillForgeModel$Block")) 7 149 0) (w2 : Cond.instanceMethod yX13_block ∈ (gV D I).2.2.2.2) (w3 : Cond.selects yX13_block.cls yX13_block yX13_block ∈ (gV D I).2.2.2.2)
    (hT : RS D I P F γ el) (hc : γ 0 c = 9) (hcf : γ 1 c = f) (hv : γ 6 f = 0) (hsz : γ 2 (γ 14 c) ≤ 600000) (hcs : cs + 4 ≤ R.cells) (hsl : sl + (2 * γ 13 (γ 14 c) + 25) ≤ R.slots) (hcat : (st.map fun u => u.category).sum ≤ 8)
    (kk : ∀ P1 F1 γ1 el1 b dc ds, rBq D I P F γ el f c P1 F1 γ1 el1 b dc ds → G (gV D I) l R Qf k (pc + 3) L (.ref b :: st) (va_pl P1 F1) (cs + dc) (sl + ds)) :
    G (gV D I) l R Qf k pc L (.ref c :: st) (va_pl P F) cs sl := by
  have h9 : rk_9 γ el c (F c) := RS_o hT hc
  obtain ⟨lb, lr, rn, md, w1, -⟩ := id h9
  obtain ⟨u2, u3, u4, u5, u6, u7, u8, u9, u10, u11, u12, u13, u14, u15, u16, u17⟩ := rk9_at w1 h9
  have hlb : γ 14 c = lb := u2.1
  rw [hlb] at hsz hsl
  obtain ⟨⟨m, z, e, v1, v2, v3, v4, v5⟩, v6⟩ := show rk_4 D I γ el F lb from RS_o hT u3
  have mc : c ∈ P := hT.1 c (by omega)
  have mlb : lb ∈ P := hT.1 lb (by omega)
  have bz : gB z 0 1000000 := ⟨by omega, by omega⟩
  have brn : gB rn 0 1000000 := ⟨by omega, by omega⟩
  have bmd : gB md 0 1000000 := ⟨by omega, by omega⟩
  by_cases hlt : md.toInt < γ 2 lb
  · obtain ⟨x1, x2, n, g, y1, y2, y3, y4, y5, y6⟩ := rLC_n v4 (by omega)
    have hi : md.toInt.toNat < γ 2 lb := by omega
    have x0 : γ 0 (el lb md.toInt.toNat) = 102 := u15 _ (by omega) hi
    obtain ⟨bl, bn, p, s, r1, -⟩ := show rk_102 γ (el lb md.toInt.toNat) (F (el lb md.toInt.toNat)) from RS_o hT x0
    obtain ⟨t1, t2, t3, t4, t5, t6, t7, t8⟩ := rk102_at r1 (show rk_102 γ (el lb md.toInt.toNat) (F (el lb md.toInt.toNat)) from RS_o hT x0)
    obtain ⟨m', z', e', s1, s2, s3, s4, s5⟩ := show rkL D I γ el F 6 bl from RS_o hT t2
    have me : e ∈ P := RS_m hT x1 (by decide)
    have ml : bl ∈ P := hT.1 bl (by omega)
    have bz' : gB z' 0 1000000 := ⟨by omega, by omega⟩
    have hne : lb ≠ bl := fun q => by rw [q, t2] at u3; cases u3
    rcases s4 with ⟨e0, s0, c0⟩ | ⟨a1, a2, n', g', b1, b2, b3, b4, b5, b6⟩
    · subst e0
      refine Gw_callV (As := []) (gV_ok D I) (cp_2937_Code_block l hl0 D I P F c lb e lr rn md m z g n bl (el lb md.toInt.toNat) m' z' bn p s mc mlb me ml (hT.1 _ (by omega)) w1 v1 y1 s1 r1 hne brn bmd bz bz' t7 t8 (by omega) (by omega) (y5 _ hi) (by omega) (by omega)) d (gCw_mono hw (by decide) (by decide)) w2 w3 mc w1 rfl (by omega) (by omega) hcat (fun r w dc ds hp => ?_) (fun _ _ _ _ _ z => z.elim)
      obtain ⟨F1, o1, o2, rfl, rfl, p1, p2, p3, p4, p5, p6, p7, p8, p9, p10⟩ := hp
      exact kk P F1 _ _ _ dc ds (St_blko (e := bl) hT hc hcf w1 hv hlt rfl r1 (Or.inl rfl) (fun b h0 hb hx _ => p1 b (hT.1 b h0) (nm_c hb (nm_c hx nm_n))) p2 p10 p6 (Or.inl ⟨rfl, c0⟩) p7 p8)
    · have me' : e' ∈ P := RS_m hT a1 (by decide)
      have hee : e ≠ e' := fun q => by rw [q] at x1; unfold rKd at a1 x1; omega
      refine Gw_callV (As := []) (gV_ok D I) (cp_2864_Code_block l hl0 D I P F c lb e lr rn md m z g n e' bl (el lb md.toInt.toNat) n' g' m' z' bn p s mc mlb me me' ml (hT.1 _ (by omega)) w1 v1 y1 b1 s1 r1 hee hne brn bmd bz bz' t7 t8 (by omega) (by omega) (y5 _ hi) (RS_el hT b6) (by omega) (by omega) (by omega)) d (gCw_mono hw (by decide) (by decide)) w2 w3 mc w1 rfl (by omega) (by omega) hcat (fun r w dc ds hp => ?_) (fun _ _ _ _ _ z => z.elim)
      obtain ⟨F1, o1, o2, f2, rfl, rfl, p1, p2, p3, p4, p5, p6, p7, p8, p9, p10, p11, p12⟩ := hp
      exact kk P F1 _ _ _ dc ds (St_blko (e := e') hT hc hcf w1 hv hlt rfl r1 (Or.inr ⟨a1, a2⟩) (fun b h0 hb hx he => p1 b (hT.1 b h0) (nm_c hb (nm_c hx (nm_c he nm_n)))) p2 p11 p6 (Or.inr ⟨rfl, a1, a2.1, a2.2, n', f2, p7, b3, b4, fun j w hj => by obtain ⟨q, h⟩ := p12 j w hj; exact b6 q w h⟩) p8 p9)
  · have heq : md.toInt = γ 2 lb := by omega
    unfold rCp at v5
    rcases v4 with ⟨e0, s0, c0⟩ | hN
    · subst e0
      refine Gw_callV (As := []) (gV_ok D I) (cp_3643_Code_block l hl0 D I P F c lb lr rn md m z mc mlb w1 v1 brn bmd bz (by omega) (by omega)) d (gCw_mono hw (by decide) (by decide)) w2 w3 mc w1 rfl (by omega) (by omega) hcat (fun r w dc ds hp => ?_) (fun _ _ _ _ _ z => z.elim)
      obtain ⟨P1, F1, o1, b, o3, o4, bl, o5, bn, e1, n1, f1, rfl, rfl, p1, p2, p3, p4, p5, p6, p7, p8, q1, q2, q3, q4, q5, q6, q7, q8, p11, p12, p13, p14, p15, p16, p17, p18, p19⟩ := hp
      refine kk P1 F1 _ _ b dc ds (St_blkn hT p1 hc hcf w1 hv heq (RS_new hT q2) (RS_new hT q4) (RS_new hT q6) (rn_oo p4 p8 (by decide)) (rn_oo p4 p5 (by decide)) (rn_oo p8 p5 (by decide)) (rn_oa p4 p7) (rn_oa p8 p7) (rn_oa p5 p7) q1 q3 q5 (Or.inr (RS_new hT q8)) q7 (fun b h0 h1 h2 h3 => p2 b (hT.1 b h0) (nm_c h1 (nm_c h2 nm_n))) p3 p15 p4 ⟨by decide, by decide⟩ ⟨by decide, by decide⟩ (rkR00 p5) p8 p6 (by omega) p7 (by omega) (by omega) (by omega) (by omega) (fun j hj => by omega) ?_ (fun j w hj => Or.inr (p18 j w hj)) (by omega) (by omega))
      rw [show z.toInt.toNat = γ 2 lb by omega] at p17
      exact p17
    · obtain ⟨x1, x2, n, g, y1, y2, y3, y4, y5, y6⟩ := hN
      have me : e ∈ P := RS_m hT x1 (by decide)
      have hel := RS_el hT y6
      by_cases hroom : γ 2 lb < n
      · refine Gw_callV (As := []) (gV_ok D I) (cp_2997_Code_block l hl0 D I P F c lb e lr rn md m z g n mc mlb me w1 v1 y1 brn bmd bz (by omega) (by omega) hel (by omega)) d (gCw_mono hw (by decide) (by decide)) w2 w3 mc w1 rfl (by omega) (by omega) hcat (fun r w dc ds hp => ?_) (fun _ _ _ _ _ z => z.elim)
        obtain ⟨P1, F1, o1, b, o3, o4, bl, o5, bn, f1, rfl, rfl, p1, p2, p3, p4, p5, p6, p7, p8, q1, q2, q3, q4, q5, q6, p11, p12, p13, p14, p15, p16, ⟨p17, p18⟩, p19⟩ := hp
        refine kk P1 F1 _ _ b dc ds (St_blkn hT p1 hc hcf w1 hv heq (RS_new hT q2) (RS_new hT q4) (RS_new hT q6) (rn_oo p5 p8 (by decide)) (rn_oo p5 p7 (by decide)) (rn_oo p8 p7 (by decide)) (rn_oa p5 p6) (rn_oa p8 p6) (rn_oa p7 p6) q1 q3 q5 (Or.inl ⟨x1, x2⟩) (p1 _ me) (fun b h0 h1 h2 h3 => p2 b (hT.1 b h0) (nm_c h1 (nm_c h2 (nm_c h3 nm_n)))) p3 p15 p5 ⟨by decide, by decide⟩ ⟨by decide, by decide⟩ (rkR00 p7) p8 p4 (by omega) p6 (by omega) (by omega) (by omega) (by omega) (fun j hj => (p17 j (by omega)).trans (y5 j hj)) ?_ (fun j w hj => ?_) (by omega) (by omega))
        · rw [show z.toInt.toNat = γ 2 lb by omega] at p18
          exact p18
        · rcases p19 j w hj with h | ⟨q, h⟩
          · exact Or.inr h
          · exact Or.inl (y6 q w h)
      · refine Gw_callV (As := []) (gV_ok D I) (cp_3321_Code_block l hl0 D I P F c lb e lr rn md m z g n mc mlb me w1 v1 y1 brn bmd bz (by omega) (by omega) (by omega) (by omega) hel (by omega)) d (gCw_mono hw (by decide) (by decide)) w2 w3 mc w1 rfl (by omega) (by omega) hcat (fun r w dc ds hp => ?_) (fun _ _ _ _ _ z => z.elim)
        obtain ⟨P1, F1, o1, b, o3, o4, bl, o5, bn, e1, n1, f1, rfl, rfl, p1, p2, p3, p4, p5, p6, p7, p8, q1, q2, q3, q4, q5, q6, q7, q8, p11, p12, p13, p14, p15, p16, ⟨p17, p18⟩, p19, p20⟩ := hp
        refine kk P1 F1 _ _ b dc ds (St_blkn hT p1 hc hcf w1 hv heq (RS_new hT q2) (RS_new hT q4) (RS_new hT q6) (rn_oo p4 p8 (by decide)) (rn_oo p4 p5 (by decide)) (rn_oo p8 p5 (by decide)) (rn_oa p4 p7) (rn_oa p8 p7) (rn_oa p5 p7) q1 q3 q5 (Or.inr (RS_new hT q8)) q7 (fun b h0 h1 h2 h3 => p2 b (hT.1 b h0) (nm_c h1 (nm_c h2 nm_n))) p3 p15 p4 ⟨by decide, by decide⟩ ⟨by decide, by decide⟩ (rkR00 p5) p8 p6 (by omega) p7 (by omega) (by omega) (by omega) (by omega) (fun j hj => (p17 j (by omega)).trans (y5 j hj)) ?_ (fun j w hj => ?_) (by omega) (by omega))
        · rw [show z.toInt.toNat = γ 2 lb by omega] at p18
          exact p18
        · rcases p19 j w hj with h | ⟨q, h⟩
          · exact Or.inr h
          · exact Or.inl (y6 q w h)
end RT
