section
theorem dr_cX13_begin_0 : decode cX13_begin 0 = .ok (.aload_n 0, 1) := by decide +kernel
theorem dr_cX13_begin_1 : decode cX13_begin 1 = .ok (.iconst 0, 1) := by decide +kernel
theorem dr_cX13_begin_2 : decode cX13_begin 2 = .ok (.putfield 19, 3) := by decide +kernel
theorem dr_cX13_begin_5 : decode cX13_begin 5 = .ok (.aload_n 0, 1) := by decide +kernel
theorem dr_cX13_begin_6 : decode cX13_begin 6 = .ok (.iconst 0, 1) := by decide +kernel
theorem dr_cX13_begin_7 : decode cX13_begin 7 = .ok (.putfield 23, 3) := by decide +kernel
theorem dr_cX13_begin_10 : decode cX13_begin 10 = .ok (.return_, 1) := by decide +kernel
abbrev ky_3928_Code_begin : gKey := (cX13_begin, 1, "SpillForgeModel$Code", none, [], "begin", fun _ _ => True)
def pp_3928_Code_begin (D : va_G) (I : FieldType → ClassId) (P3921 : List Nat) (F3922 : Nat → va_E) (q3923 : Nat) (qo3924 : Nat) (qo3925 : Nat) (p3926 : Int32) (p3927 : Int32) : Option Value → va_W → Nat → Nat → Prop := fun r w dc ds => ∃ (F3940 : Nat → va_E), r = none ∧ w = va_pl P3921 F3940 ∧ rFr [q3923] P3921 F3922 F3940 ∧ F3940 q3923 = .inr (18, [.ref qo3924, .ref qo3925, .int 0, .int 0]) ∧ dc ≤ 0 ∧ ds ≤ 0
set_option maxRecDepth 100000 in
set_option maxHeartbeats 4000000 in
theorem cp_3928_Code_begin (l : Launch) (hl0 : l.stackTraces = false) (D : va_G) (I : FieldType → ClassId) (P3921 : List Nat) (F3922 : Nat → va_E) (q3923 : Nat) (qo3924 : Nat) (qo3925 : Nat) (p3926 : Int32) (p3927 : Int32) (hmq3923 : q3923 ∈ P3921) (heq3923 : F3922 q3923 = .inr (18, [.ref qo3924, .ref qo3925, .int p3926, .int p3927])) (bp3926 : gB p3926 0 1000000) (bp3927 : gB p3927 0 1000000) : CtA (gV D I) l yX13_begin cX13_begin 1 none 0 0 0 0 [.ref q3923] (va_pl P3921 F3922) (pp_3928_Code_begin D I P3921 F3922 q3923 qo3924 qo3925 p3926 p3927) gNA := by
  refine CtA_of hl0 (by decide) (Nat.le_of_ble_eq_true rfl) ?_
  refine G_aload_n 0 dr_cX13_begin_0 rfl ?_
  refine G_iconst 0 dr_cX13_begin_1 (by decide +kernel) ?_
  refine Gp_put 2 hmq3923 heq3923 dr_cX13_begin_2 (gk_X13 D I) (Nat.le_of_ble_eq_true rfl) wr_7_32 rfl rfl rfl (Nat.le_of_ble_eq_true rfl) (fun F3929 e3930 n3931 => ?_)
  have he3932 : F3929 q3923 = .inr (18, [.ref qo3924, .ref qo3925, .int 0, .int p3927]) := e3930
  have hfr3933 : rFr [q3923] P3921 F3922 F3929 := rFr_put (rFr_rf (W := []) (P := P3921) (F := F3922)) n3931
  refine G_aload_n 0 dr_cX13_begin_5 rfl ?_
  refine G_iconst 0 dr_cX13_begin_6 (by decide +kernel) ?_
  refine Gp_put 3 hmq3923 he3932 dr_cX13_begin_7 (gk_X13 D I) (Nat.le_of_ble_eq_true rfl) wr_7_33 rfl rfl rfl (Nat.le_of_ble_eq_true rfl) (fun F3934 e3935 n3936 => ?_)
  have he3937 : F3934 q3923 = .inr (18, [.ref qo3924, .ref qo3925, .int 0, .int 0]) := e3935
  have hfr3938 : rFr [q3923] P3921 F3922 F3934 := rFr_put' List.mem_cons_self hfr3933 n3936
  exact G_vretA dr_cX13_begin_10 rfl (Nat.le_of_ble_eq_true rfl) (Nat.le_of_ble_eq_true rfl) ⟨F3934, rfl, rfl, hfr3938, he3937, (Nat.le_of_ble_eq_true rfl), (Nat.le_of_ble_eq_true rfl)⟩
end
section
/-! calls on the programs over the state -/
section RT
variable {l : Launch} {R : Room} {Qf : gFin} {k : gKey} {pc cs sl i : Nat} {L : List (Nat × Value)} {st : List Value} {D : va_G} {I : FieldType → ClassId} {P : List Nat} {F : Nat → va_E} {γ el : Nat → Nat → Nat} {c f : Nat}
theorem gCw_mono {v : gEnv} {own : String} {y : MethodName} {cc : ByteArray} {nL fr lo fr' lo' np : Nat} {ret : Option FieldType} (h : gCw v R own i y cc nL ret fr lo np) (h1 : fr' ≤ fr) (h2 : lo' ≤ lo) : gCw v R own i y cc nL ret fr' lo' np := by
  obtain ⟨w1, w2, w3, w4, w5, w6, w7⟩ := h
  exact ⟨w1, w2, w3, w4, w5, by omega, by omega⟩
theorem RS_el {g : Nat → Option Nat} (hT : RS D I P F γ el) (h : ∀ j w, g j = some w → rLK γ w) : rEl P F g := fun j w hj => by
  have h1 := h j w hj
  have h0 : γ 0 w ≠ 0 := by unfold rLK at h1; omega
  refine ⟨hT.1 w h0, ?_⟩
  rcases h1 with q | q | q | q | q
  · obtain ⟨op, t, a, b, s, ra, rb, w1, -⟩ := show rk_1 γ w (F w) from RS_o hT q
    exact Or.inr ⟨_, w1⟩
  · obtain ⟨x, n, p, s, w1, -⟩ := show rk_2 γ w (F w) from RS_o hT q
    exact Or.inl ⟨_, w1⟩
  · obtain ⟨op, t, a, b, s, ra, rb, w1, -⟩ := show rkR (F w) from RS_o hT q
    exact Or.inr ⟨_, w1⟩
  · obtain ⟨x, n, p, s, w1, -⟩ := show rk_102 γ w (F w) from RS_o hT q
    exact Or.inl ⟨_, w1⟩
  · obtain ⟨x, n, p, s, w1, -⟩ := show rk_202 γ w (F w) from RS_o hT q
    exact Or.inl ⟨_, w1⟩
theorem RS_new {q : Nat} (hT : RS D I P F γ el) (h : q ∉ P) : γ 0 q = 0 := Classical.byContradiction (fun z => h (hT.1 q z))
theorem rkR0 {e : va_E} {op : Int32} (h : e = .inr (20, [.int op, .int 0, .int 0, .int 0, .int 0, .int 0, .int 0])) (b : gB op 0 32) (r : op.toInt ≤ 14 ∨ 20 ≤ op.toInt) : rkR e := ⟨op, 0, 0, 0, 0, 0, 0, h, b, ⟨by decide, by decide⟩, ⟨by decide, by decide⟩, ⟨by decide, by decide⟩, ⟨by decide, by decide⟩, r, Or.inl (by decide), Or.inl (by decide)⟩
theorem rkR00 {e : va_E} (h : e = .inr (20, [.int 0, .int 0, .int 0, .int 0, .int 0, .int 0, .int 0])) : rkR e := rkR0 h ⟨by decide, by decide⟩ (Or.inl (by decide))
theorem fI0 {e : va_E} {op : Int32} (h : e = .inr (20, [.int op, .int 0, .int 0, .int 0, .int 0, .int 0, .int 0])) : (fI e 5).toInt = 0 ∧ (fI e 6).toInt = 0 ∧ (fI e 2).toInt = 0 ∧ (fI e 3).toInt = 0 := by
  rw [h]
  exact ⟨rfl, rfl, rfl, rfl⟩
set_option maxHeartbeats 1000000 in
theorem Gt_row (hl0 : l.stackTraces = false) (d : decode k.1 pc = .ok (.invokevirtual i, 3)) (hw : gCw (gV D I) R k.2.2.1 i yX13_row cX13_row 2 (some (FieldType.object "SpillForgeModel$Row")) 7 149 0) (w2 : Cond.instanceMethod yX13_row ∈ (gV D I).2.2.2.2) (w3 : Cond.selects yX13_row.cls yX13_row yX13_row ∈ (gV D I).2.2.2.2)
    (hT : RS D I P F γ el) (hc : γ 0 c = 9) (hcf : γ 1 c = f) (hsz : γ 2 (γ 15 c) ≤ 600000) (hcs : cs + 2 ≤ R.cells) (hsl : sl + (2 * γ 13 (γ 15 c) + 18) ≤ R.slots) (hcat : (st.map fun u => u.category).sum ≤ 8)
    (kk : ∀ P1 F1 γ1 el1 x dc ds, rRq D I P F γ el f c P1 F1 γ1 el1 x dc ds → G (gV D I) l R Qf k (pc + 3) L (.ref x :: st) (va_pl P1 F1) (cs + dc) (sl + ds)) :
    G (gV D I) l R Qf k pc L (.ref c :: st) (va_pl P F) cs sl := by
  have h9 : rk_9 γ el c (F c) := RS_o hT hc
  obtain ⟨lb, lr, rn, md, w1, -⟩ := id h9
  obtain ⟨u2, u3, u4, u5, u6, u7, u8, u9, u10, u11, u12, u13, u14, u15, u16, u17⟩ := rk9_at w1 h9
  have hlr : γ 15 c = lr := u2.2.1
  rw [hlr] at hsz hsl
  obtain ⟨⟨m, z, e, v1, v2, v3, v4, v5⟩, v6⟩ := show rk_5 D I γ el F lr from RS_o hT u5
  have mc : c ∈ P := hT.1 c (by omega)
  have mlr : lr ∈ P := hT.1 lr (by omega)
  have bz : gB z 0 1000000 := ⟨by omega, by omega⟩
  have brn : gB rn 0 1000000 := ⟨by omega, by omega⟩
  have bmd : gB md 0 1000000 := ⟨by omega, by omega⟩
  by_cases hlt : rn.toInt < γ 2 lr
  · obtain ⟨x1, x2, n, g, y1, y2, y3, y4, y5, y6⟩ := rLC_n v4 (by omega)
    have hi : rn.toInt.toNat < γ 2 lr := by omega
    have x0 : γ 0 (el lr rn.toInt.toNat) = 101 := u16 _ (by omega) hi
    obtain ⟨op, t, a, b, s, ra, rb, r1, r2, r3, r4, r5, r6, r7, -⟩ := show rkR (F (el lr rn.toInt.toNat)) from RS_o hT x0
    have me : e ∈ P := RS_m hT x1 (by decide)
    refine Gw_callV (As := []) (gV_ok D I) (cp_2289_Code_row l hl0 D I P F c lr e lb rn md m z g n (el lr rn.toInt.toNat) op t a b s ra rb mc mlr me (hT.1 _ (by omega)) w1 v1 y1 r1 brn bmd bz r2 r3 r4 r5 r6 (by omega) (by omega) (y5 _ hi) (by omega)) d (gCw_mono hw (by decide) (by decide)) w2 w3 mc w1 rfl (by omega) (by omega) hcat (fun r w dc ds hp => ?_) (fun _ _ _ _ _ z => z.elim)
    obtain ⟨F1, o, rfl, rfl, p1, p2, p3, p4, p5, p6, p7, p8, p9⟩ := hp
    exact kk P F1 _ _ _ dc ds (St_rowo hT hc hcf w1 hlr hlt rfl (fun b h0 hb hx => p1 b (hT.1 b h0) (nm_c hx (nm_c hb nm_n))) p2 p9 (rkR0 p5 r2 r7) (fI0 p5) p6 p7)
  · have heq : rn.toInt = γ 2 lr := by omega
    unfold rCp at v5
    rcases v4 with ⟨e0, s0, c0⟩ | hN
    · subst e0
      refine Gw_callV (As := []) (gV_ok D I) (cp_2696_Code_row l hl0 D I P F c lr lb rn md m z mc mlr w1 v1 brn bmd bz (by omega) (by omega)) d (gCw_mono hw (by decide) (by decide)) w2 w3 mc w1 rfl (by omega) (by omega) hcat (fun r w dc ds hp => ?_) (fun _ _ _ _ _ z => z.elim)
      obtain ⟨P1, F1, o1, x, o3, o4, e1, n1, f1, rfl, rfl, p1, p2, p3, p4, p5, p6, p7, p8, p9, p10, p11, p12, p13, p14, p15, p16, p17, p18, p19⟩ := hp
      refine kk P1 F1 _ _ x dc ds (St_rown hT p1 hc hcf w1 heq (RS_new hT p8) p7 (Or.inr (RS_new hT p10)) p9 (rn_oa p4 p6) (fun b h0 h1 h2 h3 => p2 b (hT.1 b h0) (nm_c h1 (nm_c h2 nm_n))) p3 p15 (rkR00 p4) (fI0 p4) p5 (by omega) p6 (by omega) (by omega) (by omega) (by omega) (fun j hj => by omega) ?_ (fun j w hj => Or.inr (p18 j w hj)) (by omega) (by omega))
      rw [show z.toInt.toNat = γ 2 lr by omega] at p17
      exact p17
    · obtain ⟨x1, x2, n, g, y1, y2, y3, y4, y5, y6⟩ := hN
      have me : e ∈ P := RS_m hT x1 (by decide)
      have hel := RS_el hT y6
      by_cases hroom : γ 2 lr < n
      · refine Gw_callV (As := []) (gV_ok D I) (cp_2390_Code_row l hl0 D I P F c lr e lb rn md m z g n mc mlr me w1 v1 y1 brn bmd bz (by omega) (by omega) hel (by omega)) d (gCw_mono hw (by decide) (by decide)) w2 w3 mc w1 rfl (by omega) (by omega) hcat (fun r w dc ds hp => ?_) (fun _ _ _ _ _ z => z.elim)
        obtain ⟨P1, F1, o1, x, o3, o4, f1, rfl, rfl, p1, p2, p3, p4, p5, p6, p7, p8, p9, p10, p11, p12, p13, p14, ⟨p15, p16⟩, p17⟩ := hp
        refine kk P1 F1 _ _ x dc ds (St_rown hT p1 hc hcf w1 heq (RS_new hT p8) p7 (Or.inl ⟨x1, x2⟩) (p1 _ me) (rn_oa p5 p6) (fun b h0 h1 h2 h3 => p2 b (hT.1 b h0) (nm_c h1 (nm_c h2 (nm_c h3 nm_n)))) p3 p13 (rkR00 p5) (fI0 p5) p4 (by omega) p6 (by omega) (by omega) (by omega) (by omega) (fun j hj => (p15 j (by omega)).trans (y5 j hj)) ?_ (fun j w hj => ?_) (by omega) (by omega))
        · rw [show z.toInt.toNat = γ 2 lr by omega] at p16
          exact p16
        · rcases p17 j w hj with h | ⟨q, h⟩
          · exact Or.inr h
          · exact Or.inl (y6 q w h)
      · refine Gw_callV (As := []) (gV_ok D I) (cp_2541_Code_row l hl0 D I P F c lr e lb rn md m z g n mc mlr me w1 v1 y1 brn bmd bz (by omega) (by omega) (by omega) (by omega) hel (by omega)) d (gCw_mono hw (by decide) (by decide)) w2 w3 mc w1 rfl (by omega) (by omega) hcat (fun r w dc ds hp => ?_) (fun _ _ _ _ _ z => z.elim)
        obtain ⟨P1, F1, o1, x, o3, o4, e1, n1, f1, rfl, rfl, p1, p2, p3, p4, p5, p6, p7, p8, p9, p10, p11, p12, p13, p14, p15, p16, ⟨p17, p18⟩, p19, p20⟩ := hp
        refine kk P1 F1 _ _ x dc ds (St_rown hT p1 hc hcf w1 heq (RS_new hT p8) p7 (Or.inr (RS_new hT p10)) p9 (rn_oa p4 p6) (fun b h0 h1 h2 h3 => p2 b (hT.1 b h0) (nm_c h1 (nm_c h2 nm_n))) p3 p15 (rkR00 p4) (fI0 p4) p5 (by omega) p6 (by omega) (by omega) (by omega) (by omega) (fun j hj => (p17 j (by omega)).trans (y5 j hj)) ?_ (fun j w hj => ?_) (by omega) (by omega))
        · rw [show z.toInt.toNat = γ 2 lr by omega] at p18
          exact p18
        · rcases p19 j w hj with h | ⟨q, h⟩
          · exact Or.inr h
          · exact Or.inl (y6 q w h)
set_option maxHeartbeats 1000000 in
theorem Gt_block (hl0 : l.stackTraces = false) (d : decode k.1 pc = .ok (.invokevirtual i, 3)) (hw : gCw (gV D I) R k.2.2.1 i yX13_block cX13_block 2 (some (FieldType.object "SpillForgeModel$Block")) 7 149 0) (w2 : Cond.instanceMethod yX13_block ∈ (gV D I).2.2.2.2) (w3 : Cond.selects yX13_block.cls yX13_block yX13_block ∈ (gV D I).2.2.2.2)
    (hT : RS D I P F γ el) (hc : γ 0 c = 9) (hcf : γ 1 c = f) (hv : γ 6 f = 0) (hsz : γ 2 (γ 14 c) ≤ 600000) (hcs : cs + 4 ≤ R.cells) (hsl : sl + (2 * γ 13 (γ 14 c) + 25) ≤ R.slots) (hcat : (st.map fun u => u.category).sum ≤ 8)
    (kk : ∀ P1 F1 γ1 el1 b dc ds, rBq D I P F γ el f c P1 F1 γ1 el1 b dc ds → G (gV D I) l R Qf k (pc + 3) L (.ref b :: st) (va_pl P1 F1) (cs + dc) (sl + ds)) :
    G (gV D I) l R Qf k pc L (.ref c :: st) (va_pl P F) cs sl := by
  have h9 : rk_9 γ el c (F c) := RS_o hT hc
  obtain ⟨lb, lr, rn, md, w1, -⟩ := id h9
  obtain ⟨u2, u3, u4, u5, u6, u7, u8, u9, u10, u11, u12, u13, u14, u15, u16, u17⟩ := rk9_at w1 h9
  have hlb : γ 14 c = lb := u2.1
  rw [hlb] at hsz hsl
  obtain ⟨⟨m, z, e, v1, v2, v3, v4, v5⟩, v6⟩ := show rk_4 D I γ el F lb from RS_o hT u3
  have mc : c ∈ P := hT.1 c (by omega)
  have mlb : lb ∈ P := hT.1 lb (by omega)
  have bz : gB z 0 1000000 := ⟨by omega, by omega⟩
  have brn : gB rn 0 1000000 := ⟨by omega, by omega⟩
  have bmd : gB md 0 1000000 := ⟨by omega, by omega⟩
  by_cases hlt : md.toInt < γ 2 lb
  · obtain ⟨x1, x2, n, g, y1, y2, y3, y4, y5, y6⟩ := rLC_n v4 (by omega)
    have hi : md.toInt.toNat < γ 2 lb := by omega
    have x0 : γ 0 (el lb md.toInt.toNat) = 102 := u15 _ (by omega) hi
    obtain ⟨bl, bn, p, s, r1, -⟩ := show rk_102 γ (el lb md.toInt.toNat) (F (el lb md.toInt.toNat)) from RS_o hT x0
    obtain ⟨t1, t2, t3, t4, t5, t6, t7, t8⟩ := rk102_at r1 (show rk_102 γ (el lb md.toInt.toNat) (F (el lb md.toInt.toNat)) from RS_o hT x0)
    obtain ⟨m', z', e', s1, s2, s3, s4, s5⟩ := show rkL D I γ el F 6 bl from RS_o hT t2
    have me : e ∈ P := RS_m hT x1 (by decide)
    have ml : bl ∈ P := hT.1 bl (by omega)
    have bz' : gB z' 0 1000000 := ⟨by omega, by omega⟩
    have hne : lb ≠ bl := fun q => by rw [q, t2] at u3; cases u3
    rcases s4 with ⟨e0, s0, c0⟩ | ⟨a1, a2, n', g', b1, b2, b3, b4, b5, b6⟩
    · subst e0
      refine Gw_callV (As := []) (gV_ok D I) (cp_2937_Code_block l hl0 D I P F c lb e lr rn md m z g n bl (el lb md.toInt.toNat) m' z' bn p s mc mlb me ml (hT.1 _ (by omega)) w1 v1 y1 s1 r1 hne brn bmd bz bz' t7 t8 (by omega) (by omega) (y5 _ hi) (by omega) (by omega)) d (gCw_mono hw (by decide) (by decide)) w2 w3 mc w1 rfl (by omega) (by omega) hcat (fun r w dc ds hp => ?_) (fun _ _ _ _ _ z => z.elim)
      obtain ⟨F1, o1, o2, rfl, rfl, p1, p2, p3, p4, p5, p6, p7, p8, p9, p10⟩ := hp
      exact kk P F1 _ _ _ dc ds (St_blko (e := bl) hT hc hcf w1 hv hlt rfl r1 (Or.inl rfl) (fun b h0 hb hx _ => p1 b (hT.1 b h0) (nm_c hb (nm_c hx nm_n))) p2 p10 p6 (Or.inl ⟨rfl, c0⟩) p7 p8)
    · have me' : e' ∈ P := RS_m hT a1 (by decide)
      have hee : e ≠ e' := fun q => by rw [q] at x1; unfold rKd at a1 x1; omega
      refine Gw_callV (As := []) (gV_ok D I) (cp_2864_Code_block l hl0 D I P F c lb e lr rn md m z g n e' bl (el lb md.toInt.toNat) n' g' m' z' bn p s mc mlb me me' ml (hT.1 _ (by omega)) w1 v1 y1 b1 s1 r1 hee hne brn bmd bz bz' t7 t8 (by omega) (by omega) (y5 _ hi) (RS_el hT b6) (by omega) (by omega) (by omega)) d (gCw_mono hw (by decide) (by decide)) w2 w3 mc w1 rfl (by omega) (by omega) hcat (fun r w dc ds hp => ?_) (fun _ _ _ _ _ z => z.elim)
      obtain ⟨F1, o1, o2, f2, rfl, rfl, p1, p2, p3, p4, p5, p6, p7, p8, p9, p10, p11, p12⟩ := hp
      exact kk P F1 _ _ _ dc ds (St_blko (e := e') hT hc hcf w1 hv hlt rfl r1 (Or.inr ⟨a1, a2⟩) (fun b h0 hb hx he => p1 b (hT.1 b h0) (nm_c hb (nm_c hx (nm_c he nm_n)))) p2 p11 p6 (Or.inr ⟨rfl, a1, a2.1, a2.2, n', f2, p7, b3, b4, fun j w hj => by obtain ⟨q, h⟩ := p12 j w hj; exact b6 q w h⟩) p8 p9)
  · have heq : md.toInt = γ 2 lb := by omega
    unfold rCp at v5
    rcases v4 with ⟨e0, s0, c0⟩ | hN
    · subst e0
      refine Gw_callV (As := []) (gV_ok D I) (cp_3643_Code_block l hl0 D I P F c lb lr rn md m z mc mlb w1 v1 brn bmd bz (by omega) (by omega)) d (gCw_mono hw (by decide) (by decide)) w2 w3 mc w1 rfl (by omega) (by omega) hcat (fun r w dc ds hp => ?_) (fun _ _ _ _ _ z => z.elim)
      obtain ⟨P1, F1, o1, b, o3, o4, bl, o5, bn, e1, n1, f1, rfl, rfl, p1, p2, p3, p4, p5, p6, p7, p8, q1, q2, q3, q4, q5, q6, q7, q8, p11, p12, p13, p14, p15, p16, p17, p18, p19⟩ := hp
      refine kk P1 F1 _ _ b dc ds (St_blkn hT p1 hc hcf w1 hv heq (RS_new hT q2) (RS_new hT q4) (RS_new hT q6) (rn_oo p4 p8 (by decide)) (rn_oo p4 p5 (by decide)) (rn_oo p8 p5 (by decide)) (rn_oa p4 p7) (rn_oa p8 p7) (rn_oa p5 p7) q1 q3 q5 (Or.inr (RS_new hT q8)) q7 (fun b h0 h1 h2 h3 => p2 b (hT.1 b h0) (nm_c h1 (nm_c h2 nm_n))) p3 p15 p4 ⟨by decide, by decide⟩ ⟨by decide, by decide⟩ (rkR00 p5) p8 p6 (by omega) p7 (by omega) (by omega) (by omega) (by omega) (fun j hj => by omega) ?_ (fun j w hj => Or.inr (p18 j w hj)) (by omega) (by omega))
      rw [show z.toInt.toNat = γ 2 lb by omega] at p17
      exact p17
    · obtain ⟨x1, x2, n, g, y1, y2, y3, y4, y5, y6⟩ := hN
      have me : e ∈ P := RS_m hT x1 (by decide)
      have hel := RS_el hT y6
      by_cases hroom : γ 2 lb < n
      · refine Gw_callV (As := []) (gV_ok D I) (cp_2997_Code_block l hl0 D I P F c lb e lr rn md m z g n mc mlb me w1 v1 y1 brn bmd bz (by omega) (by omega) hel (by omega)) d (gCw_mono hw (by decide) (by decide)) w2 w3 mc w1 rfl (by omega) (by omega) hcat (fun r w dc ds hp => ?_) (fun _ _ _ _ _ z => z.elim)
        obtain ⟨P1, F1, o1, b, o3, o4, bl, o5, bn, f1, rfl, rfl, p1, p2, p3, p4, p5, p6, p7, p8, q1, q2, q3, q4, q5, q6, p11, p12, p13, p14, p15, p16, ⟨p17, p18⟩, p19⟩ := hp
        refine kk P1 F1 _ _ b dc ds (St_blkn hT p1 hc hcf w1 hv heq (RS_new hT q2) (RS_new hT q4) (RS_new hT q6) (rn_oo p5 p8 (by decide)) (rn_oo p5 p7 (by decide)) (rn_oo p8 p7 (by decide)) (rn_oa p5 p6) (rn_oa p8 p6) (rn_oa p7 p6) q1 q3 q5 (Or.inl ⟨x1, x2⟩) (p1 _ me) (fun b h0 h1 h2 h3 => p2 b (hT.1 b h0) (nm_c h1 (nm_c h2 (nm_c h3 nm_n)))) p3 p15 p5 ⟨by decide, by decide⟩ ⟨by decide, by decide⟩ (rkR00 p7) p8 p4 (by omega) p6 (by omega) (by omega) (by omega) (by omega) (fun j hj => (p17 j (by omega)).trans (y5 j hj)) ?_ (fun j w hj => ?_) (by omega) (by omega))
        · rw [show z.toInt.toNat = γ 2 lb by omega] at p18
          exact p18
        · rcases p19 j w hj with h | ⟨q, h⟩
          · exact Or.inr h
          · exact Or.inl (y6 q w h)
      · refine Gw_callV (As := []) (gV_ok D I) (cp_3321_Code_block l hl0 D I P F c lb e lr rn md m z g n mc mlb me w1 v1 y1 brn bmd bz (by omega) (by omega) (by omega) (by omega) hel (by omega)) d (gCw_mono hw (by decide) (by decide)) w2 w3 mc w1 rfl (by omega) (by omega) hcat (fun r w dc ds hp => ?_) (fun _ _ _ _ _ z => z.elim)
        obtain ⟨P1, F1, o1, b, o3, o4, bl, o5, bn, e1, n1, f1, rfl, rfl, p1, p2, p3, p4, p5, p6, p7, p8, q1, q2, q3, q4, q5, q6, q7, q8, p11, p12, p13, p14, p15, p16, ⟨p17, p18⟩, p19, p20⟩ := hp
        refine kk P1 F1 _ _ b dc ds (St_blkn hT p1 hc hcf w1 hv heq (RS_new hT q2) (RS_new hT q4) (RS_new hT q6) (rn_oo p4 p8 (by decide)) (rn_oo p4 p5 (by decide)) (rn_oo p8 p5 (by decide)) (rn_oa p4 p7) (rn_oa p8 p7) (rn_oa p5 p7) q1 q3 q5 (Or.inr (RS_new hT q8)) q7 (fun b h0 h1 h2 h3 => p2 b (hT.1 b h0) (nm_c h1 (nm_c h2 nm_n))) p3 p15 p4 ⟨by decide, by decide⟩ ⟨by decide, by decide⟩ (rkR00 p5) p8 p6 (by omega) p7 (by omega) (by omega) (by omega) (by omega) (fun j hj => (p17 j (by omega)).trans (y5 j hj)) ?_ (fun j w hj => ?_) (by omega) (by omega))
        · rw [show z.toInt.toNat = γ 2 lb by omega] at p18
          exact p18
        · rcases p19 j w hj with h | ⟨q, h⟩
          · exact Or.inr h
          · exact Or.inl (y6 q w h)
end RT
end
section
/-! calls that put rows into lists, take them out; a program begun -/
def rIq (D : va_G) (I : FieldType → ClassId) (P : List Nat) (F : Nat → va_E) (γ el : Nat → Nat → Nat) (f lst k x : Nat) (P1 : List Nat) (F1 : Nat → va_E) (γ1 el1 : Nat → Nat → Nat) (dc ds : Nat) : Prop :=
  rSt f [101] [3, 6, 101] D I P F γ el P1 F1 γ1 el1 ∧ γ1 0 x = 1 ∧ γ1 2 lst = γ 2 lst + 1 ∧ (∀ i, el1 lst i = if i < k then el lst i else if i = k then x else el lst (i - 1)) ∧ (∀ a, γ 0 a ≠ 0 → a ≠ lst → γ1 2 a = γ 2 a ∧ el1 a = el a) ∧ γ1 16 f = γ 16 f ∧ γ1 18 f = γ 18 f - 1 ∧ rNu f γ γ1 ∧ F1 x = F x ∧ (18 * dc + rPh γ el f ≤ rPh γ1 el1 f ∧ ds + rPh γ el f ≤ rPh γ1 el1 f) ∧ rM γ1 el1 f ≤ rM γ el f + 9 ∧ ∀ B, rBd γ el f B → rBd γ1 el1 f B
def rDq (D : va_G) (I : FieldType → ClassId) (P : List Nat) (F : Nat → va_E) (γ el : Nat → Nat → Nat) (f lst k : Nat) (F1 : Nat → va_E) (γ1 el1 : Nat → Nat → Nat) : Prop :=
  rSt f [] [3, 6] D I P F γ el P F1 γ1 el1 ∧ γ1 2 lst = γ 2 lst - 1 ∧ (∀ i, el1 lst i = if i < k then el lst i else el lst (i + 1)) ∧ (∀ a, γ 0 a ≠ 0 → a ≠ lst → γ1 2 a = γ 2 a ∧ el1 a = el a) ∧ γ1 16 f = γ 16 f ∧ γ1 18 f = γ 18 f ∧ rNu f γ γ1 ∧ rPh γ1 el1 f = rPh γ el f ∧ rM γ1 el1 f = rM γ el f ∧ ∀ B, rBd γ el f B → rBd γ1 el1 f B
section RT2
variable {l : Launch} {R : Room} {Qf : gFin} {k : gKey} {pc cs sl i : Nat} {L : List (Nat × Value)} {st : List Value} {D : va_G} {I : FieldType → ClassId} {P : List Nat} {F : Nat → va_E} {γ el : Nat → Nat → Nat} {c f lst x j : Nat}
theorem Iq_of {P1 : List Nat} {F1 : Nat → va_E} {m1 z1 : Int32} {f1 : Nat → Option Nat} {e1 n1 kk dc ds : Nat} (hT : RS D I P F γ el) (hs : rSub P P1) (hl : γ 0 lst = 3) (hlf : γ 1 lst = f) (hx : γ 0 x = 101) (hxf : γ 1 x = f) (hx22 : γ 22 x = 0) (hx8 : γ 8 x < γ 16 f) (h18 : 0 < γ 18 f) (hk : kk ≤ γ 2 lst)
    (hc : γ 0 c = 9) (hcf : γ 1 c = f) (hj : j < γ 2 (γ 14 c)) (hli : γ 14 (el (γ 14 c) j) = lst) (hx1 : rk_1 γ x (F x)) (he1 : (γ 0 e1 = 6 ∧ γ 3 e1 = lst ∧ γ 1 e1 = γ 1 lst) ∨ γ 0 e1 = 0) (heP : e1 ∈ P1)
    (hfr : ∀ b, γ 0 b ≠ 0 → b ≠ lst → b ≠ e1 → F1 b = F b) (c1 : F1 lst = .inr (4, [.int m1, .ref e1, .int z1])) (c2 : z1.toInt = γ 2 lst + 1) (c3 : F1 e1 = .inl (I (.object "java/lang/Object"), n1, .inr (.inr (.inr (.inr f1)))))
    (d1 : γ 2 lst + 1 ≤ n1) (d2 : (n1 : Int) ≤ 1000000) (d3 : 2 * n1 ≤ 3 * max (γ 17 lst) (γ 2 lst + 1) + 20) (d4 : 10 ≤ n1)
    (g1 : ∀ j, j < kk → f1 j = some (el lst j)) (g2 : f1 kk = some x) (g3 : ∀ j, kk ≤ j → j < γ 2 lst → f1 (j + 1) = some (el lst j)) (g4 : ∀ j w, f1 j = some w → rLK γ w ∨ w = x) (hdc : 18 * dc + 4 * γ 13 lst ≤ 4 * n1) (hds : ds + 4 * γ 13 lst ≤ 4 * n1) :
    rIq D I P F γ el f lst kk x P1 F1 (gIns γ lst x e1 n1 kk f) (eIns el lst kk x) dc ds := by
  obtain ⟨h1, h2, h3, h4⟩ := St_ins3 hT hs hl hlf hx hxf hx22 hx8 h18 hk hc hcf hj hli hx1 he1 heP hfr c1 c2 c3 d1 d2 d3 d4 g1 g2 g3 g4
  have hle : lst ≠ x := fun e => by rw [e, hx] at hl; cases hl
  have hxe : x ≠ e1 := fun e => by rw [← e] at he1; omega
  exact ⟨h1, if_pos rfl, if_pos rfl, fun i => if_pos rfl, fun a h0 hne => ⟨if_neg hne, eIns_ne hne⟩, rfl, if_pos rfl, ⟨rfl, rfl, rfl, rfl⟩, hfr x (by omega) (Ne.symm hle) hxe, ⟨by omega, by omega⟩, h3, h4⟩
set_option maxHeartbeats 1000000 in
theorem Gt_add (hl0 : l.stackTraces = false) (d : decode k.1 pc = .ok (.invokevirtual i, 3)) (hw : gCw (gV D I) R k.2.2.1 i yJx4a65c_add_9ea2d cJx4a65c_add_9ea2d 2 (some FieldType.boolean) 6 128 1) (w2 : Cond.instanceMethod yJx4a65c_add_9ea2d ∈ (gV D I).2.2.2.2) (w3 : Cond.selects yJx4a65c_add_9ea2d.cls yJx4a65c_add_9ea2d yJx4a65c_add_9ea2d ∈ (gV D I).2.2.2.2)
    (hT : RS D I P F γ el) (hl : γ 0 lst = 3) (hlf : γ 1 lst = f) (hx : γ 0 x = 101) (hxf : γ 1 x = f) (hx22 : γ 22 x = 0) (hx8 : γ 8 x < γ 16 f) (h18 : 0 < γ 18 f) (hc : γ 0 c = 9) (hcf : γ 1 c = f) (hj : j < γ 2 (γ 14 c)) (hli : γ 14 (el (γ 14 c) j) = lst) (hx1 : rk_1 γ x (F x))
    (hsz : γ 2 lst ≤ 600000) (hcs : cs + 1 ≤ R.cells) (hsl : sl + (2 * γ 13 lst + 11) ≤ R.slots) (hcat : (st.map fun u => u.category).sum ≤ 8)
    (kk : ∀ P1 F1 γ1 el1 dc ds, rIq D I P F γ el f lst (γ 2 lst) x P1 F1 γ1 el1 dc ds → G (gV D I) l R Qf k (pc + 3) L (.int 1 :: st) (va_pl P1 F1) (cs + dc) (sl + ds)) :
    G (gV D I) l R Qf k pc L (.ref x :: .ref lst :: st) (va_pl P F) cs sl := by
  obtain ⟨⟨m, z, e, v1, v2, v3, v4, v5⟩, v6⟩ := show rk_3 D I γ el F lst from RS_o hT hl
  have ml : lst ∈ P := hT.1 lst (by omega)
  have mx : x ∈ P := hT.1 x (by omega)
  have bz : gB z 0 16777216 := ⟨by omega, by omega⟩
  obtain ⟨op, t, a, b, s, ra, rb, r1, r2, r3, r4, r5, r6, -⟩ := id hx1
  unfold rCp at v5
  rcases v4 with ⟨e0, s0, c0⟩ | ⟨x1, x2, n, g, y1, y2, y3, y4, y5, y6⟩
  · subst e0
    refine Gw_callV (As := [.ref x]) (gV_ok D I) (cp_746_ArrayList_add l hl0 D I P F lst x m z op t a b s ra rb ml mx v1 r1 bz r2 r3 r4 r5 r6 (by omega)) d (gCw_mono hw (by decide) (by decide)) w2 w3 ml v1 rfl (by omega) (by omega) hcat (fun r w dc ds hp => ?_) (fun _ _ _ _ _ z => z.elim)
    obtain ⟨P1, F1, o1, o2, e1, n1, f1, rfl, rfl, p1, p2, p3, p4, p5, p6, p7, p8, p9, p10, p11, p12, p13, p14⟩ := hp
    have zz : z.toInt.toNat = γ 2 lst := by omega
    rw [zz] at p12
    exact kk P1 F1 _ _ dc ds (Iq_of hT p1 hl hlf hx hxf hx22 hx8 h18 (Nat.le_refl _) hc hcf hj hli hx1 (Or.inr (RS_new hT p7)) p6 (fun b h0 h1 h2 => p2 b (hT.1 b h0) (nm_c h1 nm_n)) p4 (by omega) p5 (by omega) (by omega) (by omega) (by omega) (fun j hj => by omega) p12 (fun j h1 h2 => by omega) (fun j w hj => Or.inr (p13 j w hj)) (by omega) (by omega))
  · have me : e ∈ P := RS_m hT x1 (by decide)
    have hel := RS_el hT y6
    by_cases hroom : γ 2 lst < n
    · refine Gw_callV (As := [.ref x]) (gV_ok D I) (cp_88_ArrayList_add l hl0 D I P F lst x e m z op t a b s ra rb g n ml mx me v1 r1 y1 bz r2 r3 r4 r5 r6 (by omega) hel (by omega)) d (gCw_mono hw (by decide) (by decide)) w2 w3 ml v1 rfl (by omega) (by omega) hcat (fun r w dc ds hp => ?_) (fun _ _ _ _ _ z => z.elim)
      obtain ⟨F1, o1, o2, f1, rfl, rfl, p1, p2, p3, p4, p5, p6, p7, p8, ⟨p9, p10⟩, p11⟩ := hp
      have zz : z.toInt.toNat = γ 2 lst := by omega
      rw [zz] at p10
      exact kk P F1 _ _ dc ds (Iq_of hT rSub_rf hl hlf hx hxf hx22 hx8 h18 (Nat.le_refl _) hc hcf hj hli hx1 (Or.inl ⟨x1, x2⟩) me (fun b h0 h1 h2 => p1 b (hT.1 b h0) (nm_c h1 (nm_c h2 nm_n))) p2 (by omega) p4 (by omega) (by omega) (by omega) (by omega) (fun j hj => (p9 j (by omega)).trans (y5 j hj)) p10 (fun j h1 h2 => by omega) (fun j w hj => by rcases p11 j w hj with h | ⟨q, h⟩; exact Or.inr h; exact Or.inl (y6 q w h)) (by omega) (by omega))
    · refine Gw_callV (As := [.ref x]) (gV_ok D I) (cp_276_ArrayList_add l hl0 D I P F lst x e m z op t a b s ra rb g n ml mx me v1 r1 y1 bz r2 r3 r4 r5 r6 (by omega) (by omega) (by omega) hel (by omega)) d (gCw_mono hw (by decide) (by decide)) w2 w3 ml v1 rfl (by omega) (by omega) hcat (fun r w dc ds hp => ?_) (fun _ _ _ _ _ z => z.elim)
      obtain ⟨P1, F1, o1, o2, e1, n1, f1, rfl, rfl, p1, p2, p3, p4, p5, p6, p7, p8, p9, p10, p11, ⟨p12, p13⟩, p14, p15⟩ := hp
      have zz : z.toInt.toNat = γ 2 lst := by omega
      rw [zz] at p13
      exact kk P1 F1 _ _ dc ds (Iq_of hT p1 hl hlf hx hxf hx22 hx8 h18 (Nat.le_refl _) hc hcf hj hli hx1 (Or.inr (RS_new hT p7)) p6 (fun b h0 h1 h2 => p2 b (hT.1 b h0) (nm_c h1 nm_n)) p4 (by omega) p5 (by omega) (by omega) (by omega) (by omega) (fun j hj => (p12 j (by omega)).trans (y5 j hj)) p13 (fun j h1 h2 => by omega) (fun j w hj => by rcases p14 j w hj with h | ⟨q, h⟩; exact Or.inr h; exact Or.inl (y6 q w h)) (by omega) (by omega))
set_option maxHeartbeats 1000000 in
theorem Gt_ins {p : Int32} (hl0 : l.stackTraces = false) (d : decode k.1 pc = .ok (.invokevirtual i, 3)) (hw : gCw (gV D I) R k.2.2.1 i yJx4a65c_add_7a177 cJx4a65c_add_7a177 5 none 5 105 2) (w2 : Cond.instanceMethod yJx4a65c_add_7a177 ∈ (gV D I).2.2.2.2) (w3 : Cond.selects yJx4a65c_add_7a177.cls yJx4a65c_add_7a177 yJx4a65c_add_7a177 ∈ (gV D I).2.2.2.2)
    (hT : RS D I P F γ el) (hl : γ 0 lst = 3) (hlf : γ 1 lst = f) (hx : γ 0 x = 101) (hxf : γ 1 x = f) (hx22 : γ 22 x = 0) (hx8 : γ 8 x < γ 16 f) (h18 : 0 < γ 18 f) (hc : γ 0 c = 9) (hcf : γ 1 c = f) (hj : j < γ 2 (γ 14 c)) (hli : γ 14 (el (γ 14 c) j) = lst) (hx1 : rk_1 γ x (F x))
    (hp0 : 0 ≤ p.toInt) (hp1 : p.toInt ≤ γ 2 lst) (hsz : γ 2 lst ≤ 600000) (hcs : cs + 1 ≤ R.cells) (hsl : sl + (2 * γ 13 lst + 11) ≤ R.slots) (hcat : (st.map fun u => u.category).sum ≤ 8)
    (kk : ∀ P1 F1 γ1 el1 dc ds, rIq D I P F γ el f lst p.toInt.toNat x P1 F1 γ1 el1 dc ds → G (gV D I) l R Qf k (pc + 3) L st (va_pl P1 F1) (cs + dc) (sl + ds)) :
    G (gV D I) l R Qf k pc L (.ref x :: .int p :: .ref lst :: st) (va_pl P F) cs sl := by
  obtain ⟨⟨m, z, e, v1, v2, v3, v4, v5⟩, v6⟩ := show rk_3 D I γ el F lst from RS_o hT hl
  have ml : lst ∈ P := hT.1 lst (by omega)
  have mx : x ∈ P := hT.1 x (by omega)
  have bz : gB z 0 16777216 := ⟨by omega, by omega⟩
  have bp : gB p 0 16777216 := ⟨by omega, by omega⟩
  obtain ⟨op, t, a, b, s, ra, rb, r1, r2, r3, r4, r5, r6, -⟩ := id hx1
  unfold rCp at v5
  have hk : p.toInt.toNat ≤ γ 2 lst := by omega
  rcases v4 with ⟨e0, s0, c0⟩ | ⟨x1, x2, n, g, y1, y2, y3, y4, y5, y6⟩
  · subst e0
    refine Gw_callV (As := [.int p, .ref x]) (gV_ok D I) (cp_1239_ArrayList_add l hl0 D I P F lst x p m z op t a b s ra rb ml mx v1 r1 bp bz r2 r3 r4 r5 r6 (by omega) (by omega)) d (gCw_mono hw (by decide) (by decide)) w2 w3 ml v1 rfl (by omega) (by omega) hcat (fun r w dc ds hp => ?_) (fun _ _ _ _ _ z => z.elim)
    obtain ⟨P1, F1, o1, o2, e1, n1, f1, rfl, rfl, p1, p2, p3, p4, p5, p6, p7, p8, p9, p10, p11, p12, p13, p14⟩ := hp
    exact kk P1 F1 _ _ dc ds (Iq_of hT p1 hl hlf hx hxf hx22 hx8 h18 hk hc hcf hj hli hx1 (Or.inr (RS_new hT p7)) p6 (fun b h0 h1 h2 => p2 b (hT.1 b h0) (nm_c h1 nm_n)) p4 (by omega) p5 (by omega) (by omega) (by omega) (by omega) (fun j hj => by omega) p12 (fun j h1 h2 => by omega) (fun j w hj => Or.inr (p13 j w hj)) (by omega) (by omega))
  · have me : e ∈ P := RS_m hT x1 (by decide)
    have hel := RS_el hT y6
    by_cases hroom : γ 2 lst < n
    · refine Gw_callV (As := [.int p, .ref x]) (gV_ok D I) (cp_1055_ArrayList_add l hl0 D I P F lst x e p m z op t a b s ra rb g n ml mx me v1 r1 y1 bp bz r2 r3 r4 r5 r6 (by omega) (by omega) hel (by omega)) d (gCw_mono hw (by decide) (by decide)) w2 w3 ml v1 rfl (by omega) (by omega) hcat (fun r w dc ds hp => ?_) (fun _ _ _ _ _ z => z.elim)
      obtain ⟨F1, o1, o2, f1, rfl, rfl, p1, p2, p3, p4, p5, p6, p7, p8, ⟨p9, p10, p12⟩, p11⟩ := hp
      exact kk P F1 _ _ dc ds (Iq_of hT rSub_rf hl hlf hx hxf hx22 hx8 h18 hk hc hcf hj hli hx1 (Or.inl ⟨x1, x2⟩) me (fun b h0 h1 h2 => p1 b (hT.1 b h0) (nm_c h2 (nm_c h1 nm_n))) p2 (by omega) p4 (by omega) (by omega) (by omega) (by omega) (fun j hj => (p9 j (by omega)).trans (y5 j (by omega))) p10 (fun j h1 h2 => (p12 j (by omega) (by omega)).trans (y5 j h2)) (fun j w hj => by rcases p11 j w hj with h | ⟨q, h⟩; exact Or.inr h; exact Or.inl (y6 q w h)) (by omega) (by omega))
    · refine Gw_callV (As := [.int p, .ref x]) (gV_ok D I) (cp_1142_ArrayList_add l hl0 D I P F lst x e p m z op t a b s ra rb g n ml mx me v1 r1 y1 bp bz r2 r3 r4 r5 r6 (by omega) (by omega) (by omega) (by omega) hel (by omega)) d (gCw_mono hw (by decide) (by decide)) w2 w3 ml v1 rfl (by omega) (by omega) hcat (fun r w dc ds hp => ?_) (fun _ _ _ _ _ z => z.elim)
      obtain ⟨P1, F1, o1, o2, e1, n1, f1, rfl, rfl, p1, p2, p3, p4, p5, p6, p7, p8, p9, p10, p11, ⟨p12, p13, p16⟩, p14, p15⟩ := hp
      exact kk P1 F1 _ _ dc ds (Iq_of hT p1 hl hlf hx hxf hx22 hx8 h18 hk hc hcf hj hli hx1 (Or.inr (RS_new hT p7)) p6 (fun b h0 h1 h2 => p2 b (hT.1 b h0) (nm_c h1 nm_n)) p4 (by omega) p5 (by omega) (by omega) (by omega) (by omega) (fun j hj => (p12 j (by omega)).trans (y5 j (by omega))) p13 (fun j h1 h2 => (p16 j (by omega) (by omega)).trans (y5 j h2)) (fun j w hj => by rcases p14 j w hj with h | ⟨q, h⟩; exact Or.inr h; exact Or.inl (y6 q w h)) (by omega) (by omega))
set_option maxHeartbeats 1000000 in
theorem Gt_rem {p : Int32} (hl0 : l.stackTraces = false) (d : decode k.1 pc = .ok (.invokevirtual i, 3)) (hw : gCw (gV D I) R k.2.2.1 i yJx4a65c_remove_915e3 cJx4a65c_remove_915e3 4 (some (FieldType.object "java/lang/Object")) 2 43 1) (w2 : Cond.instanceMethod yJx4a65c_remove_915e3 ∈ (gV D I).2.2.2.2) (w3 : Cond.selects yJx4a65c_remove_915e3.cls yJx4a65c_remove_915e3 yJx4a65c_remove_915e3 ∈ (gV D I).2.2.2.2)
    (hT : RS D I P F γ el) (hl : γ 0 lst = 3) (hlf : γ 1 lst = f) (hc : γ 0 c = 9) (hcf : γ 1 c = f) (hp0 : 0 ≤ p.toInt) (hp1 : p.toInt < γ 2 lst) (hcs : cs + 0 ≤ R.cells) (hsl : sl + 0 ≤ R.slots) (hcat : (st.map fun u => u.category).sum ≤ 8)
    (kk : ∀ F1 γ1 el1, rDq D I P F γ el f lst p.toInt.toNat F1 γ1 el1 → G (gV D I) l R Qf k (pc + 3) L (.ref (el lst p.toInt.toNat) :: st) (va_pl P F1) cs sl) :
    G (gV D I) l R Qf k pc L (.int p :: .ref lst :: st) (va_pl P F) cs sl := by
  obtain ⟨⟨m, z, e, v1, v2, v3, v4, v5⟩, v6⟩ := show rk_3 D I γ el F lst from RS_o hT hl
  have ml : lst ∈ P := hT.1 lst (by omega)
  have bz : gB z 0 16777216 := ⟨by omega, by omega⟩
  have bp : gB p 0 16777216 := ⟨by omega, by omega⟩
  obtain ⟨x1, x2, n, g, y1, y2, y3, y4, y5, y6⟩ := rLC_n v4 (by omega)
  have me : e ∈ P := RS_m hT x1 (by decide)
  refine Gw_callV (As := [.int p]) (gV_ok D I) (cp_1507_ArrayList_remove l hl0 D I P F lst e p m z g n (el lst p.toInt.toNat) ml me v1 y1 bp bz (by omega) (by omega) (RS_el hT y6) (y5 p.toInt.toNat (by omega)) (by omega)) d (gCw_mono hw (by decide) (by decide)) w2 w3 ml v1 rfl (by omega) (by omega) hcat (fun r w dc ds hp => ?_) (fun _ _ _ _ _ z => z.elim)
  obtain ⟨F1, o1, o2, f1, rfl, rfl, p1, p2, p3, p4, p5, p6, p7, ⟨p8, p9⟩, p10⟩ := hp
  obtain ⟨h1, h2, h3, h4⟩ := St_del3 (f := f) (k := p.toInt.toNat) hT hl hlf (by omega) hc hcf x1 x2.1 x2.2 y4 (by omega) (by omega) (fun b h0 h1 h2 => p1 b (hT.1 b h0) (nm_c h2 (nm_c h1 nm_n))) p2 (by omega) p3 (fun j hj => (p8 j (by omega)).trans (y5 j (by omega))) (fun j h1 h2 => (p9 j (by omega) (by omega)).trans (y5 (j + 1) h2)) (fun j w hj => by obtain ⟨q, h⟩ := p10 j w hj; exact y6 q w h)
  refine G_widen (cs' := cs) (sl' := sl) (by omega) (by omega) ?_
  exact kk F1 _ _ ⟨h1, if_pos rfl, fun i => if_pos rfl, fun a h0 hne => ⟨if_neg hne, eDel_ne hne⟩, rfl, rfl, ⟨rfl, rfl, rfl, rfl⟩, h2, h3, h4⟩
end RT2
end
section
/-! a program begun; a program is valid -/
def rGq (D : va_G) (I : FieldType → ClassId) (P : List Nat) (F : Nat → va_E) (γ el : Nat → Nat → Nat) (f c B : Nat) (F1 : Nat → va_E) (γ1 el1 : Nat → Nat → Nat) : Prop :=
  rSt f [1, 2, 3, 202] [1, 2, 3, 9, 202] D I P F γ el P F1 γ1 el1 ∧ γ1 6 f = 0 ∧ γ1 7 f = 0 ∧ γ1 16 f = 0 ∧ γ1 18 f = 0 ∧ γ1 19 f = B ∧ γ1 23 f = 1 ∧ γ1 2 = γ 2 ∧ el1 = el ∧ (fI (F1 c) 3).toInt = 0 ∧ rPh γ1 el1 f = rPh γ el f ∧ rM γ1 el1 f = rM γ el f ∧ ∀ C, rBd γ el f C → rBd γ1 el1 f C
def gVal (γ : Nat → Nat → Nat) (j f n : Nat) : Nat → Nat → Nat := fun i g => if i = j ∧ g = f then n else γ i g
section RT3
variable {l : Launch} {R : Room} {Qf : gFin} {k : gKey} {pc cs sl i : Nat} {L : List (Nat × Value)} {st : List Value} {D : va_G} {I : FieldType → ClassId} {P : List Nat} {F : Nat → va_E} {γ el : Nat → Nat → Nat} {c f : Nat}
theorem Gt_beg (B : Nat) (hl0 : l.stackTraces = false) (d : decode k.1 pc = .ok (.invokevirtual i, 3)) (hw : gCw (gV D I) R k.2.2.1 i yX13_begin cX13_begin 1 none 0 0 0) (w2 : Cond.instanceMethod yX13_begin ∈ (gV D I).2.2.2.2) (w3 : Cond.selects yX13_begin.cls yX13_begin yX13_begin ∈ (gV D I).2.2.2.2)
    (hT : RS D I P F γ el) (hc : γ 0 c = 9) (hcf : γ 1 c = f) (hcs : cs + 0 ≤ R.cells) (hsl : sl + 0 ≤ R.slots) (hcat : (st.map fun u => u.category).sum ≤ 8)
    (kk : ∀ F1 γ1 el1, rGq D I P F γ el f c B F1 γ1 el1 → G (gV D I) l R Qf k (pc + 3) L st (va_pl P F1) cs sl) :
    G (gV D I) l R Qf k pc L (.ref c :: st) (va_pl P F) cs sl := by
  have h9 : rk_9 γ el c (F c) := RS_o hT hc
  obtain ⟨lb, lr, rn, md, w1, -⟩ := id h9
  obtain ⟨u2, u3, u4, u5, u6, u7, u8, u9, u10, u11, u12, u13, u14, u15, u16, u17⟩ := rk9_at w1 h9
  have mc : c ∈ P := hT.1 c (by omega)
  refine Gw_callV (As := []) (gV_ok D I) (cp_3928_Code_begin l hl0 D I P F c lb lr rn md mc w1 ⟨by omega, by omega⟩ ⟨by omega, by omega⟩) d hw w2 w3 mc w1 rfl (by omega) (by omega) hcat (fun r w dc ds hp => ?_) (fun _ _ _ _ _ z => z.elim)
  obtain ⟨F1, rfl, rfl, p1, p2, p3, p4⟩ := hp
  obtain ⟨h1, h2, h3, h4⟩ := St_beg (f := f) B hT hc hcf w1 (fun a h0 hne => p1 a (hT.1 a h0) (nm_c hne nm_n)) p2
  refine G_widen (cs' := cs) (sl' := sl) (by omega) (by omega) ?_
  exact kk F1 _ _ ⟨h1, if_pos rfl, if_pos rfl, if_pos rfl, if_pos rfl, if_pos rfl, if_pos rfl, rfl, rfl, by rw [p2]; rfl, h2, h3, h4⟩
theorem gVal_ne {j n a : Nat} (h : a ≠ j) : gVal γ j f n a = γ a := by funext g; unfold gVal; rw [if_neg (fun z => h z.1)]
theorem gVal_g {j n a g : Nat} (h : g ≠ f) : gVal γ j f n a g = γ a g := by unfold gVal; rw [if_neg (fun z => h z.2)]
theorem gVal_s {j n : Nat} : gVal γ j f n j f = n := by unfold gVal; rw [if_pos ⟨rfl, rfl⟩]
/-- all blocks are finished: the program is valid -/
theorem St_val {n : Nat} (hT : RS D I P F γ el) (hc : γ 0 c = 9) (hcf : γ 1 c = f) (h0 : γ 6 f = 0) (hn : 0 < n) (h40 : n ≤ 40) (h19 : γ 19 f ≤ n) (hmd : (fI (F c) 3).toInt = n) (hk : ∀ i, i < n → γ 0 (el (γ 14 c) i) = 2) :
    rSt f [] [] D I P F γ el P F (gVal γ 6 f n) el ∧ rPh (gVal γ 6 f n) el f = rPh γ el f ∧ rM (gVal γ 6 f n) el f = rM γ el f ∧ ∀ C, rBd γ el f C → rBd (gVal γ 6 f n) el f C := by
  have e : ∀ j, j ≠ 6 → gVal γ 6 f n j = γ j := fun j h => gVal_ne h
  refine ⟨St_num hT hc hcf (fun j h _ _ _ => e j h) (fun j g h => gVal_g h) (by rw [e 7 (by decide)]; exact Nat.le_refl _) ⟨by rw [e 19 (by decide)]; exact Nat.le_refl _, Or.inr (Or.inr (by rw [gVal_s]; exact h19))⟩ (fun g _ h => ?_) (fun lb lr rn md hF h9 => ?_), ?_, ?_, fun C hC => ?_⟩
  · rw [e 23 (by decide)]
    by_cases q : g = f
    · rw [q, gVal_s]; exact Or.inl hn
    · rw [gVal_g q]; exact h
  · rw [gVal_s, e 19 (by decide)]
    have hmd2 : md.toInt = n := by rw [hF] at hmd; exact hmd
    obtain ⟨u2, -⟩ := rk9_at hF h9
    rw [u2.1] at hk
    exact ⟨Or.inr ⟨hmd2, by omega, h19⟩, fun i hi => Or.inl (hk i (by omega))⟩
  · unfold rPh rPhc
    rw [e 21 (by decide), e 14 (by decide), e 15 (by decide), e 13 (by decide), e 2 (by decide)]
  · unfold rM rMc
    rw [e 21 (by decide), e 14 (by decide), e 15 (by decide), e 17 (by decide), e 2 (by decide)]
  · unfold rBd at hC ⊢
    rw [e 21 (by decide), e 14 (by decide), e 15 (by decide), e 16 (by decide), e 17 (by decide), e 2 (by decide)]
    exact hC
/-- the programs' numbers fit the flags again -/
theorem St_free (hT : RS D I P F γ el) (hc : γ 0 c = 9) (hcf : γ 1 c = f) (h : 1 < f ∨ 0 < γ 6 f) : rSt f [] [] D I P F γ el P F (gVal γ 23 f 0) el ∧ rPh (gVal γ 23 f 0) el f = rPh γ el f ∧ rM (gVal γ 23 f 0) el f = rM γ el f ∧ ∀ C, rBd γ el f C → rBd (gVal γ 23 f 0) el f C := by
  have e : ∀ j, j ≠ 23 → gVal γ 23 f 0 j = γ j := fun j h => gVal_ne h
  refine ⟨St_num hT hc hcf (fun j _ _ _ h => e j h) (fun j g h => gVal_g h) (by rw [e 7 (by decide)]; exact Nat.le_refl _) ⟨by rw [e 19 (by decide)]; exact Nat.le_refl _, Or.inl (by rw [e 6 (by decide)])⟩ (fun g hg z => ?_) (fun lb lr rn md hF h9 => ?_), ?_, ?_, fun C hC => ?_⟩
  · rw [e 6 (by decide)]
    by_cases q : g = f
    · rw [q] at hg ⊢
      rcases h with h | h
      · omega
      · exact Or.inl h
    · rw [gVal_g q]; exact z
  · rw [e 6 (by decide), e 19 (by decide)]
    obtain ⟨u2, u3, u4, u5, u6, u7, u8, u9, u10, u11, u12, u13, u14, -⟩ := rk9_at hF h9
    rw [hcf] at u13 u14
    exact ⟨u13, u14⟩
  · unfold rPh rPhc
    rw [e 21 (by decide), e 14 (by decide), e 15 (by decide), e 13 (by decide), e 2 (by decide)]
  · unfold rM rMc
    rw [e 21 (by decide), e 14 (by decide), e 15 (by decide), e 17 (by decide), e 2 (by decide)]
  · unfold rBd at hC ⊢
    rw [e 21 (by decide), e 14 (by decide), e 15 (by decide), e 16 (by decide), e 17 (by decide), e 2 (by decide)]
    exact hC
/-- more slots -/
theorem St_slots {n : Nat} (hT : RS D I P F γ el) (hc : γ 0 c = 9) (hcf : γ 1 c = f) (h : γ 7 f ≤ n) : rSt f [] [] D I P F γ el P F (gVal γ 7 f n) el ∧ rPh (gVal γ 7 f n) el f = rPh γ el f ∧ rM (gVal γ 7 f n) el f = rM γ el f ∧ ∀ C, rBd γ el f C → rBd (gVal γ 7 f n) el f C := by
  have e : ∀ j, j ≠ 7 → gVal γ 7 f n j = γ j := fun j h => gVal_ne h
  refine ⟨St_num hT hc hcf (fun j _ h _ _ => e j h) (fun j g h => gVal_g h) (by rw [gVal_s]; exact h) ⟨by rw [e 19 (by decide)]; exact Nat.le_refl _, Or.inl (by rw [e 6 (by decide)])⟩ (fun g hg z => by rw [e 6 (by decide), e 23 (by decide)]; exact z) (fun lb lr rn md hF h9 => ?_), ?_, ?_, fun C hC => ?_⟩
  · rw [e 6 (by decide), e 19 (by decide)]
    obtain ⟨u2, u3, u4, u5, u6, u7, u8, u9, u10, u11, u12, u13, u14, -⟩ := rk9_at hF h9
    rw [hcf] at u13 u14
    exact ⟨u13, u14⟩
  · unfold rPh rPhc
    rw [e 21 (by decide), e 14 (by decide), e 15 (by decide), e 13 (by decide), e 2 (by decide)]
  · unfold rM rMc
    rw [e 21 (by decide), e 14 (by decide), e 15 (by decide), e 17 (by decide), e 2 (by decide)]
  · unfold rBd at hC ⊢
    rw [e 21 (by decide), e 14 (by decide), e 15 (by decide), e 16 (by decide), e 17 (by decide), e 2 (by decide)]
    exact hC
end RT3
section RT4
variable {D : va_G} {I : FieldType → ClassId} {P : List Nat} {F : Nat → va_E} {γ el : Nat → Nat → Nat} {c f b n : Nat}
/-- of a valid program -/
theorem RS_valid (hT : RS D I P F γ el) (hc : γ 0 c = 9) (hcf : γ 1 c = f) (h : 0 < γ 6 f) : γ 6 f ≤ γ 2 (γ 14 c) ∧ γ 6 f ≤ 40 ∧ (fI (F c) 3).toInt = γ 6 f ∧ (∀ i, i < γ 6 f → γ 0 (el (γ 14 c) i) = 2) ∧ rsum (fun i => γ 2 (γ 14 (el (γ 14 c) i))) (γ 6 f) ≤ γ 16 f := by
  have h9 : rk_9 γ el c (F c) := RS_o hT hc
  obtain ⟨lb, lr, rn, md, w1, -⟩ := id h9
  obtain ⟨u2, u3, u4, u5, u6, u7, u8, u9, u10, u11, u12, u13, u14, u15, u16, u17⟩ := rk9_at w1 h9
  rw [hcf] at u13 u14
  have e := u13.resolve_left (by omega)
  have q := u17.2
  rw [hcf, show md.toInt.toNat = γ 6 f by omega] at q
  rw [u2.1]
  refine ⟨by omega, by omega, by rw [w1]; exact e.1, fun i hi => (u14 i (by omega)).resolve_right (fun z => by omega), by omega⟩
theorem rsum_1 {g : Nat → Nat} {k k1 : Int} (h : k1 = k + 1) (h0 : 0 ≤ k) : rsum g k1.toNat = rsum g k.toNat + g k.toNat := by
  rw [show k1.toNat = k.toNat + 1 by omega]
  rfl
theorem gSea_ph : rPh (gSea γ b n) el f = rPh γ el f ∧ rM (gSea γ b n) el f = rM γ el f ∧ ∀ C, rBd γ el f C → rBd (gSea γ b n) el f C := ⟨rfl, rfl, fun _ h => h⟩
/-- the first n blocks are finished -/
def rKb (γ el : Nat → Nat → Nat) (c n : Nat) : Prop := ∀ i, i < n → γ 0 (el (γ 14 c) i) = 2
theorem rKb_t {γ1 el1 : Nat → Nat → Nat} {P1 : List Nat} {F1 : Nat → va_E} {K KF : List Nat} (h : rKb γ el c n) (hk : rSk f K KF D I P F γ el P1 F1 γ1 el1) (h2 : 2 ∉ K) (e : γ1 14 c = γ 14 c) (he : ∀ i, i < n → el1 (γ 14 c) i = el (γ 14 c) i) : rKb γ1 el1 c n := fun i hi => by
  have z := h i hi
  rw [e, he i hi]
  exact (hk.2.2.1.1 _ (by omega) (Or.inr (by rw [z]; exact h2))).trans z
theorem rKb_s {m : Nat} (h : rKb γ el c n) (hm : m = n + 1) (hb : γ 0 (el (γ 14 c) n) = 2) : rKb γ el c m := fun i hi => by
  by_cases q : i = n
  · rw [q]; exact hb
  · exact h i (by omega)
theorem rKb_0 : rKb γ el c 0 := fun i hi => absurd hi (Nat.not_lt_zero _)
end RT4
theorem rm_cs {p p0 K M c k : Nat} (h0 : p0 ≤ p) (h1 : p + 2 * c + 100 ≤ M) (h2 : M ≤ K) (hk : k ≤ 4) : (p - p0) / 18 + k ≤ (K - p0) / 18 := by omega
theorem rm_sl {p p0 K M c k : Nat} (h0 : p0 ≤ p) (h1 : p + 2 * c + 100 ≤ M) (h2 : M ≤ K) (hk : k ≤ 2 * c + 25) : (p - p0) + k ≤ K - p0 := by omega
theorem rm_s18 {c : Nat} : 2 * c + 18 ≤ 2 * c + 25 := by omega
theorem rm_s11 {c : Nat} : 2 * c + 11 ≤ 2 * c + 25 := by omega
theorem rm_s25 {c : Nat} : 2 * c + 25 ≤ 2 * c + 25 := by omega
theorem rm_s0 {c : Nat} : 0 ≤ 2 * c + 25 := by omega
theorem rm_wc {p p0 p1 d : Nat} (h0 : p0 ≤ p) (h1 : 18 * d + p ≤ p1) : (p - p0) / 18 + d ≤ (p1 - p0) / 18 := by omega
theorem rm_ws {p p0 p1 d : Nat} (h0 : p0 ≤ p) (h1 : d + p ≤ p1) : (p - p0) + d ≤ p1 - p0 := by omega
theorem rm_ec {p p0 p1 : Nat} (h1 : p1 = p) : (p - p0) / 18 ≤ (p1 - p0) / 18 := by rw [h1]; exact Nat.le_refl _
theorem rm_es {p p0 p1 : Nat} (h1 : p1 = p) : (p - p0) ≤ p1 - p0 := by rw [h1]; exact Nat.le_refl _
theorem rm_ph {p p0 p1 d : Nat} (h0 : p0 ≤ p) (h1 : d + p ≤ p1) : p0 ≤ p1 := by omega
theorem rm_gc {p p0 K : Nat} (h0 : p0 ≤ p) (hp : p ≤ K) : (p - p0) / 18 + (K - p) / 18 ≤ (K - p0) / 18 := by omega
theorem rm_gs {p p0 K : Nat} (h0 : p0 ≤ p) (hp : p ≤ K) : (p - p0) + (K - p) ≤ K - p0 := by omega
theorem rm_pk {p M K c : Nat} (h1 : p + 2 * c + 100 ≤ M) (h2 : M ≤ K) : p ≤ K := by omega
theorem rm_zc {p p0 K : Nat} (hp : p ≤ K) : (p - p0) / 18 + 0 ≤ (K - p0) / 18 := by omega
theorem rm_zs {p p0 K : Nat} (hp : p ≤ K) : (p - p0) + 0 ≤ K - p0 := by omega
theorem rm_x8 {a b c d : Nat} (h : a = b) (g : c = d + 1) (e : b = d) : a < c := by omega
theorem rm_d0 {a d : Nat} (h : d ≤ 0) : a + d ≤ a := by omega
theorem gSea_n {γ γ1 : Nat → Nat → Nat} {b n : Nat} (h : γ1 = gSea γ b n) (f : Nat) : γ1 6 f = γ 6 f ∧ γ1 7 f = γ 7 f ∧ γ1 16 f = γ 16 f ∧ γ1 18 f = γ 18 f ∧ γ1 19 f = γ 19 f := by
  subst h
  exact ⟨rfl, rfl, rfl, rfl, rfl⟩
theorem gVal_n {γ γ1 : Nat → Nat → Nat} {f n : Nat} (h : γ1 = gVal γ 6 f n) : γ1 6 f = n ∧ γ1 7 f = γ 7 f ∧ γ1 16 f = γ 16 f ∧ γ1 18 f = γ 18 f := by
  subst h
  exact ⟨gVal_s, by rw [gVal_ne (by decide)], by rw [gVal_ne (by decide)], by rw [gVal_ne (by decide)]⟩
theorem rm_m1 {N n : Nat} {k z : Int} (e : z = k + 1) (h0 : 0 ≤ k) (h : k < N) (hm : N - k.toNat < n + 1) : N - z.toNat < n := by omega
theorem rm_tn {N : Nat} {k : Int} (h : k < N) : (k + 1).toNat ≤ N := by omega
theorem rm_ix {j : Int} {a b c : Nat} (hj : 0 ≤ j) (h0 : j < a) (e : b = a) (e2 : b = c) : j.toNat < c := by omega
end
section
/-- the cell that a field names -/
def fR (e : va_E) (k : Nat) : Nat := match e with
  | .inr (_, fs) => (match fs[k]? with | some (.ref x) => x | _ => 0)
  | _ => 0
end
section
theorem dr_cX17_back_0 : decode cX17_back 0 = .ok (.aload_n 1, 1) := by decide +kernel
theorem dr_cX17_back_1 : decode cX17_back 1 = .ok (.iload_n 2, 1) := by decide +kernel
theorem dr_cX17_back_2 : decode cX17_back 2 = .ok (.invokestatic 55, 3) := by decide +kernel
theorem wr_10_178 : (Jvm.Cond.methodLink "SpillForgeModel" (55 : Nat) ({ cls := "SpillForgeModel", name := "setOf", desc := "(LSpillForgeModel$Row;Z)I" } : Jvm.MethodName)) ∈ gw := gw_10 178 rfl rfl
theorem wr_1_14 : (Jvm.Cond.initialized "SpillForgeModel") ∈ gw := gw_1 14 rfl rfl
theorem wr_10_180 : (Jvm.Cond.code ({ cls := "SpillForgeModel", name := "setOf", desc := "(LSpillForgeModel$Row;Z)I" } : Jvm.MethodName) prog_14_method_6_code (2 : Nat) (Option.some Jvm.ClassFile.FieldType.int)) ∈ gw := gw_10 180 rfl rfl
theorem wr_10_179 : (Jvm.Cond.static ({ cls := "SpillForgeModel", name := "setOf", desc := "(LSpillForgeModel$Row;Z)I" } : Jvm.MethodName)) ∈ gw := gw_10 179 rfl rfl
theorem dr_cX17_back_5 : decode cX17_back 5 = .ok (.istore_n 3, 1) := by decide +kernel
theorem dr_cX17_back_6 : decode cX17_back 6 = .ok (.iload_n 3, 1) := by decide +kernel
theorem dr_cX17_back_7 : decode cX17_back 7 = .ok (.ifCond .lt 11, 3) := by decide +kernel
theorem dr_cX17_back_18 : decode cX17_back 18 = .ok (.iload_n 2, 1) := by decide +kernel
theorem dr_cX17_back_19 : decode cX17_back 19 = .ok (.ifCond .eq 24, 3) := by decide +kernel
theorem dr_cX17_back_43 : decode cX17_back 43 = .ok (.aload_n 1, 1) := by decide +kernel
theorem dr_cX17_back_44 : decode cX17_back 44 = .ok (.invokevirtual 70, 3) := by decide +kernel
theorem wr_10_192 : (Jvm.Cond.methodLink "SpillForgeModel" (70 : Nat) ({ cls := "SpillForgeModel$Row", name := "usesA", desc := "()Z" } : Jvm.MethodName)) ∈ gw := gw_10 192 rfl rfl
theorem wr_10_195 : (Jvm.Cond.code ({ cls := "SpillForgeModel$Row", name := "usesA", desc := "()Z" } : Jvm.MethodName) prog_18_method_3_code (1 : Nat) (Option.some Jvm.ClassFile.FieldType.boolean)) ∈ gw := gw_10 195 rfl rfl
theorem wr_10_193 : (Jvm.Cond.instanceMethod ({ cls := "SpillForgeModel$Row", name := "usesA", desc := "()Z" } : Jvm.MethodName)) ∈ gw := gw_10 193 rfl rfl
theorem wr_10_194 : (Jvm.Cond.selects "SpillForgeModel$Row" ({ cls := "SpillForgeModel$Row", name := "usesA", desc := "()Z" } : Jvm.MethodName) ({ cls := "SpillForgeModel$Row", name := "usesA", desc := "()Z" } : Jvm.MethodName)) ∈ gw := gw_10 194 rfl rfl
theorem dr_cX17_back_47 : decode cX17_back 47 = .ok (.ifCond .eq 14, 3) := by decide +kernel
theorem dr_cX17_back_61 : decode cX17_back 61 = .ok (.aload_n 1, 1) := by decide +kernel
theorem dr_cX17_back_62 : decode cX17_back 62 = .ok (.invokevirtual 76, 3) := by decide +kernel
theorem wr_10_196 : (Jvm.Cond.methodLink "SpillForgeModel" (76 : Nat) ({ cls := "SpillForgeModel$Row", name := "usesB", desc := "()Z" } : Jvm.MethodName)) ∈ gw := gw_10 196 rfl rfl
theorem wr_10_199 : (Jvm.Cond.code ({ cls := "SpillForgeModel$Row", name := "usesB", desc := "()Z" } : Jvm.MethodName) prog_18_method_4_code (1 : Nat) (Option.some Jvm.ClassFile.FieldType.boolean)) ∈ gw := gw_10 199 rfl rfl
theorem wr_10_197 : (Jvm.Cond.instanceMethod ({ cls := "SpillForgeModel$Row", name := "usesB", desc := "()Z" } : Jvm.MethodName)) ∈ gw := gw_10 197 rfl rfl
theorem wr_10_198 : (Jvm.Cond.selects "SpillForgeModel$Row" ({ cls := "SpillForgeModel$Row", name := "usesB", desc := "()Z" } : Jvm.MethodName) ({ cls := "SpillForgeModel$Row", name := "usesB", desc := "()Z" } : Jvm.MethodName)) ∈ gw := gw_10 198 rfl rfl
theorem dr_cX17_back_65 : decode cX17_back 65 = .ok (.ifCond .eq 14, 3) := by decide +kernel
theorem dr_cX17_back_79 : decode cX17_back 79 = .ok (.return_, 1) := by decide +kernel
theorem dr_cX17_back_68 : decode cX17_back 68 = .ok (.aload_n 0, 1) := by decide +kernel
theorem dr_cX17_back_69 : decode cX17_back 69 = .ok (.getfield 59, 3) := by decide +kernel
theorem wr_7_76 : (Jvm.Cond.fieldLink "SpillForgeModel" (59 : Nat) "SpillForgeModel" "now" "[J") ∈ gw := gw_7 76 rfl rfl
theorem dr_cX17_back_72 : decode cX17_back 72 = .ok (.aload_n 1, 1) := by decide +kernel
theorem dr_cX17_back_73 : decode cX17_back 73 = .ok (.getfield 79, 3) := by decide +kernel
theorem wr_9_190 : (Jvm.Cond.fieldLink "SpillForgeModel" (79 : Nat) "SpillForgeModel$Row" "b" "I") ∈ gw := gw_9 190 rfl rfl
theorem dr_cX17_back_76 : decode cX17_back 76 = .ok (.invokestatic 67, 3) := by decide +kernel
theorem wr_10_189 : (Jvm.Cond.methodLink "SpillForgeModel" (67 : Nat) ({ cls := "SpillForgeModel", name := "set", desc := "([JI)V" } : Jvm.MethodName)) ∈ gw := gw_10 189 rfl rfl
theorem wr_10_191 : (Jvm.Cond.code ({ cls := "SpillForgeModel", name := "set", desc := "([JI)V" } : Jvm.MethodName) prog_14_method_3_code (2 : Nat) (Option.none : Option Jvm.ClassFile.FieldType)) ∈ gw := gw_10 191 rfl rfl
theorem wr_10_190 : (Jvm.Cond.static ({ cls := "SpillForgeModel", name := "set", desc := "([JI)V" } : Jvm.MethodName)) ∈ gw := gw_10 190 rfl rfl
theorem dr_cX17_back_50 : decode cX17_back 50 = .ok (.aload_n 0, 1) := by decide +kernel
theorem dr_cX17_back_51 : decode cX17_back 51 = .ok (.getfield 59, 3) := by decide +kernel
theorem dr_cX17_back_54 : decode cX17_back 54 = .ok (.aload_n 1, 1) := by decide +kernel
theorem dr_cX17_back_55 : decode cX17_back 55 = .ok (.getfield 73, 3) := by decide +kernel
theorem wr_9_186 : (Jvm.Cond.fieldLink "SpillForgeModel" (73 : Nat) "SpillForgeModel$Row" "a" "I") ∈ gw := gw_9 186 rfl rfl
theorem dr_cX17_back_58 : decode cX17_back 58 = .ok (.invokestatic 67, 3) := by decide +kernel
theorem dr_cX17_back_22 : decode cX17_back 22 = .ok (.aload_n 1, 1) := by decide +kernel
theorem dr_cX17_back_23 : decode cX17_back 23 = .ok (.getfield 39, 3) := by decide +kernel
theorem dr_cX17_back_26 : decode cX17_back 26 = .ok (.bipush 21, 2) := by decide +kernel
theorem dr_cX17_back_28 : decode cX17_back 28 = .ok (.if_icmp .ne 14, 3) := by decide +kernel
theorem dr_cX17_back_42 : decode cX17_back 42 = .ok (.return_, 1) := by decide +kernel
theorem dr_cX17_back_31 : decode cX17_back 31 = .ok (.aload_n 0, 1) := by decide +kernel
theorem dr_cX17_back_32 : decode cX17_back 32 = .ok (.getfield 59, 3) := by decide +kernel
theorem dr_cX17_back_35 : decode cX17_back 35 = .ok (.aload_n 1, 1) := by decide +kernel
theorem dr_cX17_back_36 : decode cX17_back 36 = .ok (.getfield 45, 3) := by decide +kernel
theorem dr_cX17_back_39 : decode cX17_back 39 = .ok (.invokestatic 67, 3) := by decide +kernel
theorem dr_cX17_back_10 : decode cX17_back 10 = .ok (.aload_n 0, 1) := by decide +kernel
theorem dr_cX17_back_11 : decode cX17_back 11 = .ok (.getfield 59, 3) := by decide +kernel
theorem dr_cX17_back_14 : decode cX17_back 14 = .ok (.iload_n 3, 1) := by decide +kernel
theorem dr_cX17_back_15 : decode cX17_back 15 = .ok (.invokestatic 63, 3) := by decide +kernel
theorem wr_10_185 : (Jvm.Cond.methodLink "SpillForgeModel" (63 : Nat) ({ cls := "SpillForgeModel", name := "clear", desc := "([JI)V" } : Jvm.MethodName)) ∈ gw := gw_10 185 rfl rfl
theorem wr_10_187 : (Jvm.Cond.code ({ cls := "SpillForgeModel", name := "clear", desc := "([JI)V" } : Jvm.MethodName) prog_14_method_4_code (2 : Nat) (Option.none : Option Jvm.ClassFile.FieldType)) ∈ gw := gw_10 187 rfl rfl
theorem wr_10_186 : (Jvm.Cond.static ({ cls := "SpillForgeModel", name := "clear", desc := "([JI)V" } : Jvm.MethodName)) ∈ gw := gw_10 186 rfl rfl
theorem dr_cX17_stand_0 : decode cX17_stand 0 = .ok (.aload_n 1, 1) := by decide +kernel
theorem dr_cX17_stand_1 : decode cX17_stand 1 = .ok (.iload_n 2, 1) := by decide +kernel
theorem dr_cX17_stand_2 : decode cX17_stand 2 = .ok (.invokestatic 55, 3) := by decide +kernel
theorem dr_cX17_stand_5 : decode cX17_stand 5 = .ok (.istore_n 3, 1) := by decide +kernel
theorem dr_cX17_stand_6 : decode cX17_stand 6 = .ok (.iload_n 3, 1) := by decide +kernel
theorem dr_cX17_stand_7 : decode cX17_stand 7 = .ok (.ifCond .lt 10, 3) := by decide +kernel
theorem dr_cX17_stand_17 : decode cX17_stand 17 = .ok (.iload_n 2, 1) := by decide +kernel
theorem dr_cX17_stand_18 : decode cX17_stand 18 = .ok (.ifCond .eq 23, 3) := by decide +kernel
theorem dr_cX17_stand_41 : decode cX17_stand 41 = .ok (.aload_n 1, 1) := by decide +kernel
theorem dr_cX17_stand_42 : decode cX17_stand 42 = .ok (.invokevirtual 70, 3) := by decide +kernel
theorem dr_cX17_stand_45 : decode cX17_stand 45 = .ok (.ifCond .eq 13, 3) := by decide +kernel
theorem dr_cX17_stand_58 : decode cX17_stand 58 = .ok (.aload_n 1, 1) := by decide +kernel
theorem dr_cX17_stand_59 : decode cX17_stand 59 = .ok (.invokevirtual 76, 3) := by decide +kernel
theorem dr_cX17_stand_62 : decode cX17_stand 62 = .ok (.ifCond .eq 13, 3) := by decide +kernel
theorem dr_cX17_stand_75 : decode cX17_stand 75 = .ok (.return_, 1) := by decide +kernel
theorem dr_cX17_stand_65 : decode cX17_stand 65 = .ok (.aload_n 0, 1) := by decide +kernel
theorem dr_cX17_stand_66 : decode cX17_stand 66 = .ok (.getfield 131, 3) := by decide +kernel
theorem wr_7_77 : (Jvm.Cond.fieldLink "SpillForgeModel" (131 : Nat) "SpillForgeModel" "stands" "[Z") ∈ gw := gw_7 77 rfl rfl
theorem dr_cX17_stand_69 : decode cX17_stand 69 = .ok (.aload_n 1, 1) := by decide +kernel
theorem dr_cX17_stand_70 : decode cX17_stand 70 = .ok (.getfield 79, 3) := by decide +kernel
theorem dr_cX17_stand_73 : decode cX17_stand 73 = .ok (.iconst 1, 1) := by decide +kernel
theorem dr_cX17_stand_74 : decode cX17_stand 74 = .ok (.bastore, 1) := by decide +kernel
theorem dr_cX17_stand_48 : decode cX17_stand 48 = .ok (.aload_n 0, 1) := by decide +kernel
theorem dr_cX17_stand_49 : decode cX17_stand 49 = .ok (.getfield 131, 3) := by decide +kernel
theorem dr_cX17_stand_52 : decode cX17_stand 52 = .ok (.aload_n 1, 1) := by decide +kernel
theorem dr_cX17_stand_53 : decode cX17_stand 53 = .ok (.getfield 73, 3) := by decide +kernel
theorem dr_cX17_stand_56 : decode cX17_stand 56 = .ok (.iconst 1, 1) := by decide +kernel
theorem dr_cX17_stand_57 : decode cX17_stand 57 = .ok (.bastore, 1) := by decide +kernel
theorem dr_cX17_stand_21 : decode cX17_stand 21 = .ok (.aload_n 1, 1) := by decide +kernel
theorem dr_cX17_stand_22 : decode cX17_stand 22 = .ok (.getfield 39, 3) := by decide +kernel
theorem dr_cX17_stand_25 : decode cX17_stand 25 = .ok (.bipush 21, 2) := by decide +kernel
theorem dr_cX17_stand_27 : decode cX17_stand 27 = .ok (.if_icmp .ne 13, 3) := by decide +kernel
theorem dr_cX17_stand_40 : decode cX17_stand 40 = .ok (.return_, 1) := by decide +kernel
theorem dr_cX17_stand_30 : decode cX17_stand 30 = .ok (.aload_n 0, 1) := by decide +kernel
theorem dr_cX17_stand_31 : decode cX17_stand 31 = .ok (.getfield 131, 3) := by decide +kernel
theorem dr_cX17_stand_34 : decode cX17_stand 34 = .ok (.aload_n 1, 1) := by decide +kernel
theorem dr_cX17_stand_35 : decode cX17_stand 35 = .ok (.getfield 45, 3) := by decide +kernel
theorem dr_cX17_stand_38 : decode cX17_stand 38 = .ok (.iconst 1, 1) := by decide +kernel
theorem dr_cX17_stand_39 : decode cX17_stand 39 = .ok (.bastore, 1) := by decide +kernel
theorem dr_cX17_stand_10 : decode cX17_stand 10 = .ok (.aload_n 0, 1) := by decide +kernel
theorem dr_cX17_stand_11 : decode cX17_stand 11 = .ok (.getfield 131, 3) := by decide +kernel
theorem dr_cX17_stand_14 : decode cX17_stand 14 = .ok (.iload_n 3, 1) := by decide +kernel
theorem dr_cX17_stand_15 : decode cX17_stand 15 = .ok (.iconst 1, 1) := by decide +kernel
theorem dr_cX17_stand_16 : decode cX17_stand 16 = .ok (.bastore, 1) := by decide +kernel
/- tr_RModel_back: F -/
def tr_RModel_back (D : va_G) (I : FieldType → ClassId) (γ el : Nat → Nat → Nat) (P : List Nat) (F : Nat → va_E) (q0 : Nat) (q1 : Nat) (a2 : Int32) (o1 : Nat → va_E) : Prop := ∀ R : (Nat → va_E) → Prop,
  (∀ (x1 : Int32) (x2 : Int32) (x3 : Int32) (x4 : Int32) (x5 : Int32) (x6 : Int32) (x7 : Int32) (x8 : Int32), fI (F q1) 0 = x1 → fI (F q1) 1 = x2 → fI (F q1) 4 = x3 → gB x4 (-1) 1999 → tr_RModel_setOf a2 x1 x2 x3 x4 → x4.toInt < 0 → a2.toInt = 0 → fI (F q1) 5 = x5 → gB x6 0 1 → tr_RRow_usesA x1 x5 x6 → x6.toInt = 0 → fI (F q1) 6 = x7 → gB x8 0 1 → tr_RRow_usesB x1 x7 x8 → x8.toInt = 0 → R F) →
  (∀ (x1 : Int32) (x2 : Int32) (x3 : Int32) (x4 : Int32) (x5 : Int32) (x6 : Int32) (x7 : Int32) (x8 : Int32) (x9 : Int32) (x10 : Nat → Int64) (x11 : Nat → Int64) (x12 : Nat → va_E), fI (F q1) 0 = x1 → fI (F q1) 1 = x2 → fI (F q1) 4 = x3 → gB x4 (-1) 1999 → tr_RModel_setOf a2 x1 x2 x3 x4 → x4.toInt < 0 → a2.toInt = 0 → fI (F q1) 5 = x5 → gB x6 0 1 → tr_RRow_usesA x1 x5 x6 → x6.toInt = 0 → fI (F q1) 6 = x7 → gB x8 0 1 → tr_RRow_usesB x1 x7 x8 → x8.toInt ≠ 0 → fR (F q0) 2 = (γ 9 2) → fI (F q1) 3 = x9 → F (γ 9 2) = .inl (I .long, 32, .inr (.inl x10)) → tr_RModel_set x9 x10 x11 → rFr [(γ 9 2)] P F x12 → x12 (γ 9 2) = .inl (I .long, 32, .inr (.inl x11)) → RS D I P x12 γ el → R x12) →
  (∀ (x1 : Int32) (x2 : Int32) (x3 : Int32) (x4 : Int32) (x5 : Int32) (x6 : Int32) (x7 : Int32) (x8 : Nat → Int64) (x9 : Nat → Int64) (x10 : Nat → va_E) (x11 : Int32) (x12 : Int32), fI (F q1) 0 = x1 → fI (F q1) 1 = x2 → fI (F q1) 4 = x3 → gB x4 (-1) 1999 → tr_RModel_setOf a2 x1 x2 x3 x4 → x4.toInt < 0 → a2.toInt = 0 → fI (F q1) 5 = x5 → gB x6 0 1 → tr_RRow_usesA x1 x5 x6 → x6.toInt ≠ 0 → fR (F q0) 2 = (γ 9 2) → fI (F q1) 2 = x7 → F (γ 9 2) = .inl (I .long, 32, .inr (.inl x8)) → tr_RModel_set x7 x8 x9 → rFr [(γ 9 2)] P F x10 → x10 (γ 9 2) = .inl (I .long, 32, .inr (.inl x9)) → RS D I P x10 γ el → fI (x10 q1) 0 = x1 → fI (x10 q1) 6 = x11 → gB x12 0 1 → tr_RRow_usesB x1 x11 x12 → x12.toInt = 0 → R x10) →
  (∀ (x1 : Int32) (x2 : Int32) (x3 : Int32) (x4 : Int32) (x5 : Int32) (x6 : Int32) (x7 : Int32) (x8 : Nat → Int64) (x9 : Nat → Int64) (x10 : Nat → va_E) (x11 : Int32) (x12 : Int32) (x13 : Int32) (x14 : Nat → Int64) (x15 : Nat → va_E), fI (F q1) 0 = x1 → fI (F q1) 1 = x2 → fI (F q1) 4 = x3 → gB x4 (-1) 1999 → tr_RModel_setOf a2 x1 x2 x3 x4 → x4.toInt < 0 → a2.toInt = 0 → fI (F q1) 5 = x5 → gB x6 0 1 → tr_RRow_usesA x1 x5 x6 → x6.toInt ≠ 0 → fR (F q0) 2 = (γ 9 2) → fI (F q1) 2 = x7 → F (γ 9 2) = .inl (I .long, 32, .inr (.inl x8)) → tr_RModel_set x7 x8 x9 → rFr [(γ 9 2)] P F x10 → x10 (γ 9 2) = .inl (I .long, 32, .inr (.inl x9)) → RS D I P x10 γ el → fI (x10 q1) 0 = x1 → fI (x10 q1) 6 = x11 → gB x12 0 1 → tr_RRow_usesB x1 x11 x12 → x12.toInt ≠ 0 → fR (x10 q0) 2 = (γ 9 2) → fI (x10 q1) 3 = x13 → x10 (γ 9 2) = .inl (I .long, 32, .inr (.inl x9)) → tr_RModel_set x13 x9 x14 → rFr [(γ 9 2)] P x10 x15 → x15 (γ 9 2) = .inl (I .long, 32, .inr (.inl x14)) → RS D I P x15 γ el → R x15) →
  (∀ (x1 : Int32) (x2 : Int32) (x3 : Int32) (x4 : Int32), fI (F q1) 0 = x1 → fI (F q1) 1 = x2 → fI (F q1) 4 = x3 → gB x4 (-1) 1999 → tr_RModel_setOf a2 x1 x2 x3 x4 → x4.toInt < 0 → a2.toInt ≠ 0 → x1.toInt ≠ 21 → R F) →
  (∀ (x1 : Int32) (x2 : Int32) (x3 : Int32) (x4 : Int32) (x5 : Nat → Int64) (x6 : Nat → Int64) (x7 : Nat → va_E), fI (F q1) 0 = x1 → fI (F q1) 1 = x2 → fI (F q1) 4 = x3 → gB x4 (-1) 1999 → tr_RModel_setOf a2 x1 x2 x3 x4 → x4.toInt < 0 → a2.toInt ≠ 0 → x1.toInt = 21 → fR (F q0) 2 = (γ 9 2) → F (γ 9 2) = .inl (I .long, 32, .inr (.inl x5)) → tr_RModel_set x3 x5 x6 → rFr [(γ 9 2)] P F x7 → x7 (γ 9 2) = .inl (I .long, 32, .inr (.inl x6)) → RS D I P x7 γ el → R x7) →
  (∀ (x1 : Int32) (x2 : Int32) (x3 : Int32) (x4 : Int32) (x5 : Nat → Int64) (x6 : Nat → Int64) (x7 : Nat → va_E) (x8 : Int32) (x9 : Int32) (x10 : Int32) (x11 : Int32), fI (F q1) 0 = x1 → fI (F q1) 1 = x2 → fI (F q1) 4 = x3 → gB x4 (-1) 1999 → tr_RModel_setOf a2 x1 x2 x3 x4 → 0 ≤ x4.toInt → fR (F q0) 2 = (γ 9 2) → F (γ 9 2) = .inl (I .long, 32, .inr (.inl x5)) → tr_RModel_clear x4 x5 x6 → rFr [(γ 9 2)] P F x7 → x7 (γ 9 2) = .inl (I .long, 32, .inr (.inl x6)) → RS D I P x7 γ el → a2.toInt = 0 → fI (x7 q1) 0 = x1 → fI (x7 q1) 5 = x8 → gB x9 0 1 → tr_RRow_usesA x1 x8 x9 → x9.toInt = 0 → fI (x7 q1) 6 = x10 → gB x11 0 1 → tr_RRow_usesB x1 x10 x11 → x11.toInt = 0 → R x7) →
  (∀ (x1 : Int32) (x2 : Int32) (x3 : Int32) (x4 : Int32) (x5 : Nat → Int64) (x6 : Nat → Int64) (x7 : Nat → va_E) (x8 : Int32) (x9 : Int32) (x10 : Int32) (x11 : Int32) (x12 : Int32) (x13 : Nat → Int64) (x14 : Nat → va_E), fI (F q1) 0 = x1 → fI (F q1) 1 = x2 → fI (F q1) 4 = x3 → gB x4 (-1) 1999 → tr_RModel_setOf a2 x1 x2 x3 x4 → 0 ≤ x4.toInt → fR (F q0) 2 = (γ 9 2) → F (γ 9 2) = .inl (I .long, 32, .inr (.inl x5)) → tr_RModel_clear x4 x5 x6 → rFr [(γ 9 2)] P F x7 → x7 (γ 9 2) = .inl (I .long, 32, .inr (.inl x6)) → RS D I P x7 γ el → a2.toInt = 0 → fI (x7 q1) 0 = x1 → fI (x7 q1) 5 = x8 → gB x9 0 1 → tr_RRow_usesA x1 x8 x9 → x9.toInt = 0 → fI (x7 q1) 6 = x10 → gB x11 0 1 → tr_RRow_usesB x1 x10 x11 → x11.toInt ≠ 0 → fR (x7 q0) 2 = (γ 9 2) → fI (x7 q1) 3 = x12 → x7 (γ 9 2) = .inl (I .long, 32, .inr (.inl x6)) → tr_RModel_set x12 x6 x13 → rFr [(γ 9 2)] P x7 x14 → x14 (γ 9 2) = .inl (I .long, 32, .inr (.inl x13)) → RS D I P x14 γ el → R x14) →
  (∀ (x1 : Int32) (x2 : Int32) (x3 : Int32) (x4 : Int32) (x5 : Nat → Int64) (x6 : Nat → Int64) (x7 : Nat → va_E) (x8 : Int32) (x9 : Int32) (x10 : Int32) (x11 : Nat → Int64) (x12 : Nat → va_E) (x13 : Int32) (x14 : Int32), fI (F q1) 0 = x1 → fI (F q1) 1 = x2 → fI (F q1) 4 = x3 → gB x4 (-1) 1999 → tr_RModel_setOf a2 x1 x2 x3 x4 → 0 ≤ x4.toInt → fR (F q0) 2 = (γ 9 2) → F (γ 9 2) = .inl (I .long, 32, .inr (.inl x5)) → tr_RModel_clear x4 x5 x6 → rFr [(γ 9 2)] P F x7 → x7 (γ 9 2) = .inl (I .long, 32, .inr (.inl x6)) → RS D I P x7 γ el → a2.toInt = 0 → fI (x7 q1) 0 = x1 → fI (x7 q1) 5 = x8 → gB x9 0 1 → tr_RRow_usesA x1 x8 x9 → x9.toInt ≠ 0 → fR (x7 q0) 2 = (γ 9 2) → fI (x7 q1) 2 = x10 → x7 (γ 9 2) = .inl (I .long, 32, .inr (.inl x6)) → tr_RModel_set x10 x6 x11 → rFr [(γ 9 2)] P x7 x12 → x12 (γ 9 2) = .inl (I .long, 32, .inr (.inl x11)) → RS D I P x12 γ el → fI (x12 q1) 0 = x1 → fI (x12 q1) 6 = x13 → gB x14 0 1 → tr_RRow_usesB x1 x13 x14 → x14.toInt = 0 → R x12) →
  (∀ (x1 : Int32) (x2 : Int32) (x3 : Int32) (x4 : Int32) (x5 : Nat → Int64) (x6 : Nat → Int64) (x7 : Nat → va_E) (x8 : Int32) (x9 : Int32) (x10 : Int32) (x11 : Nat → Int64) (x12 : Nat → va_E) (x13 : Int32) (x14 : Int32) (x15 : Int32) (x16 : Nat → Int64) (x17 : Nat → va_E), fI (F q1) 0 = x1 → fI (F q1) 1 = x2 → fI (F q1) 4 = x3 → gB x4 (-1) 1999 → tr_RModel_setOf a2 x1 x2 x3 x4 → 0 ≤ x4.toInt → fR (F q0) 2 = (γ 9 2) → F (γ 9 2) = .inl (I .long, 32, .inr (.inl x5)) → tr_RModel_clear x4 x5 x6 → rFr [(γ 9 2)] P F x7 → x7 (γ 9 2) = .inl (I .long, 32, .inr (.inl x6)) → RS D I P x7 γ el → a2.toInt = 0 → fI (x7 q1) 0 = x1 → fI (x7 q1) 5 = x8 → gB x9 0 1 → tr_RRow_usesA x1 x8 x9 → x9.toInt ≠ 0 → fR (x7 q0) 2 = (γ 9 2) → fI (x7 q1) 2 = x10 → x7 (γ 9 2) = .inl (I .long, 32, .inr (.inl x6)) → tr_RModel_set x10 x6 x11 → rFr [(γ 9 2)] P x7 x12 → x12 (γ 9 2) = .inl (I .long, 32, .inr (.inl x11)) → RS D I P x12 γ el → fI (x12 q1) 0 = x1 → fI (x12 q1) 6 = x13 → gB x14 0 1 → tr_RRow_usesB x1 x13 x14 → x14.toInt ≠ 0 → fR (x12 q0) 2 = (γ 9 2) → fI (x12 q1) 3 = x15 → x12 (γ 9 2) = .inl (I .long, 32, .inr (.inl x11)) → tr_RModel_set x15 x11 x16 → rFr [(γ 9 2)] P x12 x17 → x17 (γ 9 2) = .inl (I .long, 32, .inr (.inl x16)) → RS D I P x17 γ el → R x17) →
  (∀ (x1 : Int32) (x2 : Int32) (x3 : Int32) (x4 : Int32) (x5 : Nat → Int64) (x6 : Nat → Int64) (x7 : Nat → va_E), fI (F q1) 0 = x1 → fI (F q1) 1 = x2 → fI (F q1) 4 = x3 → gB x4 (-1) 1999 → tr_RModel_setOf a2 x1 x2 x3 x4 → 0 ≤ x4.toInt → fR (F q0) 2 = (γ 9 2) → F (γ 9 2) = .inl (I .long, 32, .inr (.inl x5)) → tr_RModel_clear x4 x5 x6 → rFr [(γ 9 2)] P F x7 → x7 (γ 9 2) = .inl (I .long, 32, .inr (.inl x6)) → RS D I P x7 γ el → a2.toInt ≠ 0 → fI (x7 q1) 0 = x1 → x1.toInt ≠ 21 → R x7) →
  (∀ (x1 : Int32) (x2 : Int32) (x3 : Int32) (x4 : Int32) (x5 : Nat → Int64) (x6 : Nat → Int64) (x7 : Nat → va_E) (x8 : Nat → Int64) (x9 : Nat → va_E), fI (F q1) 0 = x1 → fI (F q1) 1 = x2 → fI (F q1) 4 = x3 → gB x4 (-1) 1999 → tr_RModel_setOf a2 x1 x2 x3 x4 → 0 ≤ x4.toInt → fR (F q0) 2 = (γ 9 2) → F (γ 9 2) = .inl (I .long, 32, .inr (.inl x5)) → tr_RModel_clear x4 x5 x6 → rFr [(γ 9 2)] P F x7 → x7 (γ 9 2) = .inl (I .long, 32, .inr (.inl x6)) → RS D I P x7 γ el → a2.toInt ≠ 0 → fI (x7 q1) 0 = x1 → x1.toInt = 21 → fR (x7 q0) 2 = (γ 9 2) → fI (x7 q1) 4 = x3 → x7 (γ 9 2) = .inl (I .long, 32, .inr (.inl x6)) → tr_RModel_set x3 x6 x8 → rFr [(γ 9 2)] P x7 x9 → x9 (γ 9 2) = .inl (I .long, 32, .inr (.inl x8)) → RS D I P x9 γ el → R x9) →
  R o1
/- tr_RModel_stand: F -/
def tr_RModel_stand (D : va_G) (I : FieldType → ClassId) (γ el : Nat → Nat → Nat) (F : Nat → va_E) (q0 : Nat) (q1 : Nat) (a2 : Int32) (o1 : Nat → va_E) : Prop := ∀ R : (Nat → va_E) → Prop,
  (∀ (x1 : Int32) (x2 : Int32) (x3 : Int32) (x4 : Int32) (x5 : Int32) (x6 : Int32) (x7 : Int32) (x8 : Int32), fI (F q1) 0 = x1 → fI (F q1) 1 = x2 → fI (F q1) 4 = x3 → gB x4 (-1) 1999 → tr_RModel_setOf a2 x1 x2 x3 x4 → x4.toInt < 0 → a2.toInt = 0 → fI (F q1) 5 = x5 → gB x6 0 1 → tr_RRow_usesA x1 x5 x6 → x6.toInt = 0 → fI (F q1) 6 = x7 → gB x8 0 1 → tr_RRow_usesB x1 x7 x8 → x8.toInt = 0 → R F) →
  (∀ (x1 : Int32) (x2 : Int32) (x3 : Int32) (x4 : Int32) (x5 : Int32) (x6 : Int32) (x7 : Int32) (x8 : Int32) (x9 : Int32) (x10 : Nat → Int32) (x11 : Nat → Int32) (x12 : Nat → va_E), fI (F q1) 0 = x1 → fI (F q1) 1 = x2 → fI (F q1) 4 = x3 → gB x4 (-1) 1999 → tr_RModel_setOf a2 x1 x2 x3 x4 → x4.toInt < 0 → a2.toInt = 0 → fI (F q1) 5 = x5 → gB x6 0 1 → tr_RRow_usesA x1 x5 x6 → x6.toInt = 0 → fI (F q1) 6 = x7 → gB x8 0 1 → tr_RRow_usesB x1 x7 x8 → x8.toInt ≠ 0 → fR (F q0) 3 = (γ 9 3) → fI (F q1) 3 = x9 → F (γ 9 3) = .inl (I .boolean, 2000, .inl x10) → x11 = upd x10 x9.toNatClampNeg (vp_nar .boolean 1) → (∀ b, b ≠ (γ 9 3) → x12 b = F b) → x12 (γ 9 3) = .inl (I .boolean, 2000, .inl x11) → R x12) →
  (∀ (x1 : Int32) (x2 : Int32) (x3 : Int32) (x4 : Int32) (x5 : Int32) (x6 : Int32) (x7 : Int32) (x8 : Nat → Int32) (x9 : Nat → Int32) (x10 : Nat → va_E) (x11 : Int32) (x12 : Int32), fI (F q1) 0 = x1 → fI (F q1) 1 = x2 → fI (F q1) 4 = x3 → gB x4 (-1) 1999 → tr_RModel_setOf a2 x1 x2 x3 x4 → x4.toInt < 0 → a2.toInt = 0 → fI (F q1) 5 = x5 → gB x6 0 1 → tr_RRow_usesA x1 x5 x6 → x6.toInt ≠ 0 → fR (F q0) 3 = (γ 9 3) → fI (F q1) 2 = x7 → F (γ 9 3) = .inl (I .boolean, 2000, .inl x8) → x9 = upd x8 x7.toNatClampNeg (vp_nar .boolean 1) → (∀ b, b ≠ (γ 9 3) → x10 b = F b) → x10 (γ 9 3) = .inl (I .boolean, 2000, .inl x9) → fI (x10 q1) 0 = x1 → fI (x10 q1) 6 = x11 → gB x12 0 1 → tr_RRow_usesB x1 x11 x12 → x12.toInt = 0 → R x10) →
  (∀ (x1 : Int32) (x2 : Int32) (x3 : Int32) (x4 : Int32) (x5 : Int32) (x6 : Int32) (x7 : Int32) (x8 : Nat → Int32) (x9 : Nat → Int32) (x10 : Nat → va_E) (x11 : Int32) (x12 : Int32) (x13 : Int32) (x14 : Nat → Int32) (x15 : Nat → va_E), fI (F q1) 0 = x1 → fI (F q1) 1 = x2 → fI (F q1) 4 = x3 → gB x4 (-1) 1999 → tr_RModel_setOf a2 x1 x2 x3 x4 → x4.toInt < 0 → a2.toInt = 0 → fI (F q1) 5 = x5 → gB x6 0 1 → tr_RRow_usesA x1 x5 x6 → x6.toInt ≠ 0 → fR (F q0) 3 = (γ 9 3) → fI (F q1) 2 = x7 → F (γ 9 3) = .inl (I .boolean, 2000, .inl x8) → x9 = upd x8 x7.toNatClampNeg (vp_nar .boolean 1) → (∀ b, b ≠ (γ 9 3) → x10 b = F b) → x10 (γ 9 3) = .inl (I .boolean, 2000, .inl x9) → fI (x10 q1) 0 = x1 → fI (x10 q1) 6 = x11 → gB x12 0 1 → tr_RRow_usesB x1 x11 x12 → x12.toInt ≠ 0 → fR (x10 q0) 3 = (γ 9 3) → fI (x10 q1) 3 = x13 → x10 (γ 9 3) = .inl (I .boolean, 2000, .inl x9) → x14 = upd x9 x13.toNatClampNeg (vp_nar .boolean 1) → (∀ b, b ≠ (γ 9 3) → x15 b = x10 b) → x15 (γ 9 3) = .inl (I .boolean, 2000, .inl x14) → R x15) →
  (∀ (x1 : Int32) (x2 : Int32) (x3 : Int32) (x4 : Int32), fI (F q1) 0 = x1 → fI (F q1) 1 = x2 → fI (F q1) 4 = x3 → gB x4 (-1) 1999 → tr_RModel_setOf a2 x1 x2 x3 x4 → x4.toInt < 0 → a2.toInt ≠ 0 → x1.toInt ≠ 21 → R F) →
  (∀ (x1 : Int32) (x2 : Int32) (x3 : Int32) (x4 : Int32) (x5 : Nat → Int32) (x6 : Nat → Int32) (x7 : Nat → va_E), fI (F q1) 0 = x1 → fI (F q1) 1 = x2 → fI (F q1) 4 = x3 → gB x4 (-1) 1999 → tr_RModel_setOf a2 x1 x2 x3 x4 → x4.toInt < 0 → a2.toInt ≠ 0 → x1.toInt = 21 → fR (F q0) 3 = (γ 9 3) → F (γ 9 3) = .inl (I .boolean, 2000, .inl x5) → x6 = upd x5 x3.toNatClampNeg (vp_nar .boolean 1) → (∀ b, b ≠ (γ 9 3) → x7 b = F b) → x7 (γ 9 3) = .inl (I .boolean, 2000, .inl x6) → R x7) →
  (∀ (x1 : Int32) (x2 : Int32) (x3 : Int32) (x4 : Int32) (x5 : Nat → Int32) (x6 : Nat → Int32) (x7 : Nat → va_E) (x8 : Int32) (x9 : Int32) (x10 : Int32) (x11 : Int32), fI (F q1) 0 = x1 → fI (F q1) 1 = x2 → fI (F q1) 4 = x3 → gB x4 (-1) 1999 → tr_RModel_setOf a2 x1 x2 x3 x4 → 0 ≤ x4.toInt → fR (F q0) 3 = (γ 9 3) → F (γ 9 3) = .inl (I .boolean, 2000, .inl x5) → x6 = upd x5 x4.toNatClampNeg (vp_nar .boolean 1) → (∀ b, b ≠ (γ 9 3) → x7 b = F b) → x7 (γ 9 3) = .inl (I .boolean, 2000, .inl x6) → a2.toInt = 0 → fI (x7 q1) 0 = x1 → fI (x7 q1) 5 = x8 → gB x9 0 1 → tr_RRow_usesA x1 x8 x9 → x9.toInt = 0 → fI (x7 q1) 6 = x10 → gB x11 0 1 → tr_RRow_usesB x1 x10 x11 → x11.toInt = 0 → R x7) →
  (∀ (x1 : Int32) (x2 : Int32) (x3 : Int32) (x4 : Int32) (x5 : Nat → Int32) (x6 : Nat → Int32) (x7 : Nat → va_E) (x8 : Int32) (x9 : Int32) (x10 : Int32) (x11 : Int32) (x12 : Int32) (x13 : Nat → Int32) (x14 : Nat → va_E), fI (F q1) 0 = x1 → fI (F q1) 1 = x2 → fI (F q1) 4 = x3 → gB x4 (-1) 1999 → tr_RModel_setOf a2 x1 x2 x3 x4 → 0 ≤ x4.toInt → fR (F q0) 3 = (γ 9 3) → F (γ 9 3) = .inl (I .boolean, 2000, .inl x5) → x6 = upd x5 x4.toNatClampNeg (vp_nar .boolean 1) → (∀ b, b ≠ (γ 9 3) → x7 b = F b) → x7 (γ 9 3) = .inl (I .boolean, 2000, .inl x6) → a2.toInt = 0 → fI (x7 q1) 0 = x1 → fI (x7 q1) 5 = x8 → gB x9 0 1 → tr_RRow_usesA x1 x8 x9 → x9.toInt = 0 → fI (x7 q1) 6 = x10 → gB x11 0 1 → tr_RRow_usesB x1 x10 x11 → x11.toInt ≠ 0 → fR (x7 q0) 3 = (γ 9 3) → fI (x7 q1) 3 = x12 → x7 (γ 9 3) = .inl (I .boolean, 2000, .inl x6) → x13 = upd x6 x12.toNatClampNeg (vp_nar .boolean 1) → (∀ b, b ≠ (γ 9 3) → x14 b = x7 b) → x14 (γ 9 3) = .inl (I .boolean, 2000, .inl x13) → R x14) →
  (∀ (x1 : Int32) (x2 : Int32) (x3 : Int32) (x4 : Int32) (x5 : Nat → Int32) (x6 : Nat → Int32) (x7 : Nat → va_E) (x8 : Int32) (x9 : Int32) (x10 : Int32) (x11 : Nat → Int32) (x12 : Nat → va_E) (x13 : Int32) (x14 : Int32), fI (F q1) 0 = x1 → fI (F q1) 1 = x2 → fI (F q1) 4 = x3 → gB x4 (-1) 1999 → tr_RModel_setOf a2 x1 x2 x3 x4 → 0 ≤ x4.toInt → fR (F q0) 3 = (γ 9 3) → F (γ 9 3) = .inl (I .boolean, 2000, .inl x5) → x6 = upd x5 x4.toNatClampNeg (vp_nar .boolean 1) → (∀ b, b ≠ (γ 9 3) → x7 b = F b) → x7 (γ 9 3) = .inl (I .boolean, 2000, .inl x6) → a2.toInt = 0 → fI (x7 q1) 0 = x1 → fI (x7 q1) 5 = x8 → gB x9 0 1 → tr_RRow_usesA x1 x8 x9 → x9.toInt ≠ 0 → fR (x7 q0) 3 = (γ 9 3) → fI (x7 q1) 2 = x10 → x7 (γ 9 3) = .inl (I .boolean, 2000, .inl x6) → x11 = upd x6 x10.toNatClampNeg (vp_nar .boolean 1) → (∀ b, b ≠ (γ 9 3) → x12 b = x7 b) → x12 (γ 9 3) = .inl (I .boolean, 2000, .inl x11) → fI (x12 q1) 0 = x1 → fI (x12 q1) 6 = x13 → gB x14 0 1 → tr_RRow_usesB x1 x13 x14 → x14.toInt = 0 → R x12) →
  (∀ (x1 : Int32) (x2 : Int32) (x3 : Int32) (x4 : Int32) (x5 : Nat → Int32) (x6 : Nat → Int32) (x7 : Nat → va_E) (x8 : Int32) (x9 : Int32) (x10 : Int32) (x11 : Nat → Int32) (x12 : Nat → va_E) (x13 : Int32) (x14 : Int32) (x15 : Int32) (x16 : Nat → Int32) (x17 : Nat → va_E), fI (F q1) 0 = x1 → fI (F q1) 1 = x2 → fI (F q1) 4 = x3 → gB x4 (-1) 1999 → tr_RModel_setOf a2 x1 x2 x3 x4 → 0 ≤ x4.toInt → fR (F q0) 3 = (γ 9 3) → F (γ 9 3) = .inl (I .boolean, 2000, .inl x5) → x6 = upd x5 x4.toNatClampNeg (vp_nar .boolean 1) → (∀ b, b ≠ (γ 9 3) → x7 b = F b) → x7 (γ 9 3) = .inl (I .boolean, 2000, .inl x6) → a2.toInt = 0 → fI (x7 q1) 0 = x1 → fI (x7 q1) 5 = x8 → gB x9 0 1 → tr_RRow_usesA x1 x8 x9 → x9.toInt ≠ 0 → fR (x7 q0) 3 = (γ 9 3) → fI (x7 q1) 2 = x10 → x7 (γ 9 3) = .inl (I .boolean, 2000, .inl x6) → x11 = upd x6 x10.toNatClampNeg (vp_nar .boolean 1) → (∀ b, b ≠ (γ 9 3) → x12 b = x7 b) → x12 (γ 9 3) = .inl (I .boolean, 2000, .inl x11) → fI (x12 q1) 0 = x1 → fI (x12 q1) 6 = x13 → gB x14 0 1 → tr_RRow_usesB x1 x13 x14 → x14.toInt ≠ 0 → fR (x12 q0) 3 = (γ 9 3) → fI (x12 q1) 3 = x15 → x12 (γ 9 3) = .inl (I .boolean, 2000, .inl x11) → x16 = upd x11 x15.toNatClampNeg (vp_nar .boolean 1) → (∀ b, b ≠ (γ 9 3) → x17 b = x12 b) → x17 (γ 9 3) = .inl (I .boolean, 2000, .inl x16) → R x17) →
  (∀ (x1 : Int32) (x2 : Int32) (x3 : Int32) (x4 : Int32) (x5 : Nat → Int32) (x6 : Nat → Int32) (x7 : Nat → va_E), fI (F q1) 0 = x1 → fI (F q1) 1 = x2 → fI (F q1) 4 = x3 → gB x4 (-1) 1999 → tr_RModel_setOf a2 x1 x2 x3 x4 → 0 ≤ x4.toInt → fR (F q0) 3 = (γ 9 3) → F (γ 9 3) = .inl (I .boolean, 2000, .inl x5) → x6 = upd x5 x4.toNatClampNeg (vp_nar .boolean 1) → (∀ b, b ≠ (γ 9 3) → x7 b = F b) → x7 (γ 9 3) = .inl (I .boolean, 2000, .inl x6) → a2.toInt ≠ 0 → fI (x7 q1) 0 = x1 → x1.toInt ≠ 21 → R x7) →
  (∀ (x1 : Int32) (x2 : Int32) (x3 : Int32) (x4 : Int32) (x5 : Nat → Int32) (x6 : Nat → Int32) (x7 : Nat → va_E) (x8 : Nat → Int32) (x9 : Nat → va_E), fI (F q1) 0 = x1 → fI (F q1) 1 = x2 → fI (F q1) 4 = x3 → gB x4 (-1) 1999 → tr_RModel_setOf a2 x1 x2 x3 x4 → 0 ≤ x4.toInt → fR (F q0) 3 = (γ 9 3) → F (γ 9 3) = .inl (I .boolean, 2000, .inl x5) → x6 = upd x5 x4.toNatClampNeg (vp_nar .boolean 1) → (∀ b, b ≠ (γ 9 3) → x7 b = F b) → x7 (γ 9 3) = .inl (I .boolean, 2000, .inl x6) → a2.toInt ≠ 0 → fI (x7 q1) 0 = x1 → x1.toInt = 21 → fR (x7 q0) 3 = (γ 9 3) → fI (x7 q1) 4 = x3 → x7 (γ 9 3) = .inl (I .boolean, 2000, .inl x6) → x8 = upd x6 x3.toNatClampNeg (vp_nar .boolean 1) → (∀ b, b ≠ (γ 9 3) → x9 b = x7 b) → x9 (γ 9 3) = .inl (I .boolean, 2000, .inl x8) → R x9) →
  R o1
/- tr_RBlock_way2: result -/
def tr_RBlock_way2 (a1 : Int32) (a0_first : Int32) (a0_second : Int32) (o1 : Int32) : Prop := ∀ R : (Int32) → Prop,
  (a1.toInt ≠ 0 → R a0_second) →
  (a1.toInt = 0 → R a0_first) →
  R o1
end
section
theorem dr_cX17_behind_0 : decode cX17_behind 0 = .ok (.iconst 0, 1) := by decide +kernel
theorem dr_cX17_behind_1 : decode cX17_behind 1 = .ok (.istore_n 2, 1) := by decide +kernel
theorem dr_cX17_behind_2 : decode cX17_behind 2 = .ok (.iload_n 2, 1) := by decide +kernel
theorem dr_cX17_behind_3 : decode cX17_behind 3 = .ok (.bipush 32, 2) := by decide +kernel
theorem dr_cX17_behind_5 : decode cX17_behind 5 = .ok (.if_icmp .ge 16, 3) := by decide +kernel
theorem dr_cX17_behind_21 : decode cX17_behind 21 = .ok (.iconst 0, 1) := by decide +kernel
theorem dr_cX17_behind_22 : decode cX17_behind 22 = .ok (.istore_n 2, 1) := by decide +kernel
theorem dr_cX17_behind_23 : decode cX17_behind 23 = .ok (.iload_n 2, 1) := by decide +kernel
theorem dr_cX17_behind_24 : decode cX17_behind 24 = .ok (.aload_n 1, 1) := by decide +kernel
theorem dr_cX17_behind_25 : decode cX17_behind 25 = .ok (.invokevirtual 82, 3) := by decide +kernel
theorem wr_10_166 : (Jvm.Cond.methodLink "SpillForgeModel" (82 : Nat) ({ cls := "SpillForgeModel$Block", name := "ways", desc := "()I" } : Jvm.MethodName)) ∈ gw := gw_10 166 rfl rfl
theorem wr_10_169 : (Jvm.Cond.code ({ cls := "SpillForgeModel$Block", name := "ways", desc := "()I" } : Jvm.MethodName) prog_15_method_2_code (1 : Nat) (Option.some Jvm.ClassFile.FieldType.int)) ∈ gw := gw_10 169 rfl rfl
theorem wr_10_167 : (Jvm.Cond.instanceMethod ({ cls := "SpillForgeModel$Block", name := "ways", desc := "()I" } : Jvm.MethodName)) ∈ gw := gw_10 167 rfl rfl
theorem wr_10_168 : (Jvm.Cond.selects "SpillForgeModel$Block" ({ cls := "SpillForgeModel$Block", name := "ways", desc := "()I" } : Jvm.MethodName) ({ cls := "SpillForgeModel$Block", name := "ways", desc := "()I" } : Jvm.MethodName)) ∈ gw := gw_10 168 rfl rfl
theorem dr_cX17_behind_28 : decode cX17_behind 28 = .ok (.if_icmp .ge 44, 3) := by decide +kernel
theorem dr_cX17_behind_72 : decode cX17_behind 72 = .ok (.return_, 1) := by decide +kernel
theorem dr_cX17_behind_31 : decode cX17_behind 31 = .ok (.iconst 0, 1) := by decide +kernel
theorem dr_cX17_behind_32 : decode cX17_behind 32 = .ok (.istore_n 3, 1) := by decide +kernel
theorem dr_cX17_behind_33 : decode cX17_behind 33 = .ok (.iload_n 3, 1) := by decide +kernel
theorem dr_cX17_behind_34 : decode cX17_behind 34 = .ok (.bipush 32, 2) := by decide +kernel
theorem dr_cX17_behind_36 : decode cX17_behind 36 = .ok (.if_icmp .ge 30, 3) := by decide +kernel
theorem dr_cX17_behind_66 : decode cX17_behind 66 = .ok (.iinc 2 1, 3) := by decide +kernel
theorem dr_cX17_behind_69 : decode cX17_behind 69 = .ok (.goto (-46), 3) := by decide +kernel
theorem dr_cX17_behind_39 : decode cX17_behind 39 = .ok (.aload_n 0, 1) := by decide +kernel
theorem dr_cX17_behind_40 : decode cX17_behind 40 = .ok (.getfield 59, 3) := by decide +kernel
theorem dr_cX17_behind_43 : decode cX17_behind 43 = .ok (.iload_n 3, 1) := by decide +kernel
theorem dr_cX17_behind_44 : decode cX17_behind 44 = .ok (.dup2, 1) := by decide +kernel
theorem dr_cX17_behind_45 : decode cX17_behind 45 = .ok (.laload, 1) := by decide +kernel
theorem dr_cX17_behind_46 : decode cX17_behind 46 = .ok (.aload_n 0, 1) := by decide +kernel
theorem dr_cX17_behind_47 : decode cX17_behind 47 = .ok (.getfield 88, 3) := by decide +kernel
theorem wr_7_74 : (Jvm.Cond.fieldLink "SpillForgeModel" (88 : Nat) "SpillForgeModel" "live" "[[J") ∈ gw := gw_7 74 rfl rfl
theorem dr_cX17_behind_50 : decode cX17_behind 50 = .ok (.aload_n 1, 1) := by decide +kernel
theorem dr_cX17_behind_51 : decode cX17_behind 51 = .ok (.iload_n 2, 1) := by decide +kernel
theorem dr_cX17_behind_52 : decode cX17_behind 52 = .ok (.invokevirtual 92, 3) := by decide +kernel
theorem wr_10_170 : (Jvm.Cond.methodLink "SpillForgeModel" (92 : Nat) ({ cls := "SpillForgeModel$Block", name := "way", desc := "(I)I" } : Jvm.MethodName)) ∈ gw := gw_10 170 rfl rfl
theorem wr_10_173 : (Jvm.Cond.code ({ cls := "SpillForgeModel$Block", name := "way", desc := "(I)I" } : Jvm.MethodName) prog_15_method_3_code (2 : Nat) (Option.some Jvm.ClassFile.FieldType.int)) ∈ gw := gw_10 173 rfl rfl
theorem wr_10_171 : (Jvm.Cond.instanceMethod ({ cls := "SpillForgeModel$Block", name := "way", desc := "(I)I" } : Jvm.MethodName)) ∈ gw := gw_10 171 rfl rfl
theorem wr_10_172 : (Jvm.Cond.selects "SpillForgeModel$Block" ({ cls := "SpillForgeModel$Block", name := "way", desc := "(I)I" } : Jvm.MethodName) ({ cls := "SpillForgeModel$Block", name := "way", desc := "(I)I" } : Jvm.MethodName)) ∈ gw := gw_10 172 rfl rfl
theorem dr_cX17_behind_55 : decode cX17_behind 55 = .ok (.aaload, 1) := by decide +kernel
theorem dr_cX17_behind_56 : decode cX17_behind 56 = .ok (.iload_n 3, 1) := by decide +kernel
theorem dr_cX17_behind_57 : decode cX17_behind 57 = .ok (.laload, 1) := by decide +kernel
theorem dr_cX17_behind_58 : decode cX17_behind 58 = .ok (.lor, 1) := by decide +kernel
theorem dr_cX17_behind_59 : decode cX17_behind 59 = .ok (.lastore, 1) := by decide +kernel
theorem dr_cX17_behind_60 : decode cX17_behind 60 = .ok (.iinc 3 1, 3) := by decide +kernel
theorem dr_cX17_behind_63 : decode cX17_behind 63 = .ok (.goto (-30), 3) := by decide +kernel
theorem dr_cX17_behind_8 : decode cX17_behind 8 = .ok (.aload_n 0, 1) := by decide +kernel
theorem dr_cX17_behind_9 : decode cX17_behind 9 = .ok (.getfield 59, 3) := by decide +kernel
theorem dr_cX17_behind_12 : decode cX17_behind 12 = .ok (.iload_n 2, 1) := by decide +kernel
theorem dr_cX17_behind_13 : decode cX17_behind 13 = .ok (.lconst 0, 1) := by decide +kernel
theorem dr_cX17_behind_14 : decode cX17_behind 14 = .ok (.lastore, 1) := by decide +kernel
theorem dr_cX17_behind_15 : decode cX17_behind 15 = .ok (.iinc 2 1, 3) := by decide +kernel
theorem dr_cX17_behind_18 : decode cX17_behind 18 = .ok (.goto (-16), 3) := by decide +kernel
theorem dr_cX17_value_0 : decode cX17_value 0 = .ok (.iload_n 1, 1) := by decide +kernel
theorem dr_cX17_value_1 : decode cX17_value 1 = .ok (.ifCond .eq 12, 3) := by decide +kernel
theorem dr_cX17_value_13 : decode cX17_value 13 = .ok (.iload_n 2, 1) := by decide +kernel
theorem dr_cX17_value_14 : decode cX17_value 14 = .ok (.ireturn, 1) := by decide +kernel
theorem dr_cX17_value_4 : decode cX17_value 4 = .ok (.aload_n 0, 1) := by decide +kernel
theorem dr_cX17_value_5 : decode cX17_value 5 = .ok (.getfield 271, 3) := by decide +kernel
theorem wr_7_94 : (Jvm.Cond.fieldLink "SpillForgeModel" (271 : Nat) "SpillForgeModel" "registers" "[I") ∈ gw := gw_7 94 rfl rfl
theorem dr_cX17_value_8 : decode cX17_value 8 = .ok (.iload_n 2, 1) := by decide +kernel
theorem dr_cX17_value_9 : decode cX17_value 9 = .ok (.iaload, 1) := by decide +kernel
theorem dr_cX17_value_10 : decode cX17_value 10 = .ok (.goto 4, 3) := by decide +kernel
theorem dr_cX17_leads_0 : decode cX17_leads 0 = .ok (.iconst 0, 1) := by decide +kernel
theorem dr_cX17_leads_1 : decode cX17_leads 1 = .ok (.istore_n 2, 1) := by decide +kernel
theorem dr_cX17_leads_2 : decode cX17_leads 2 = .ok (.iload_n 2, 1) := by decide +kernel
theorem dr_cX17_leads_3 : decode cX17_leads 3 = .ok (.aload_n 0, 1) := by decide +kernel
theorem dr_cX17_leads_4 : decode cX17_leads 4 = .ok (.invokevirtual 82, 3) := by decide +kernel
theorem dr_cX17_leads_7 : decode cX17_leads 7 = .ok (.if_icmp .ge 20, 3) := by decide +kernel
theorem dr_cX17_leads_27 : decode cX17_leads 27 = .ok (.iconst 0, 1) := by decide +kernel
theorem dr_cX17_leads_28 : decode cX17_leads 28 = .ok (.ireturn, 1) := by decide +kernel
theorem dr_cX17_leads_10 : decode cX17_leads 10 = .ok (.aload_n 0, 1) := by decide +kernel
theorem dr_cX17_leads_11 : decode cX17_leads 11 = .ok (.iload_n 2, 1) := by decide +kernel
theorem dr_cX17_leads_12 : decode cX17_leads 12 = .ok (.invokevirtual 92, 3) := by decide +kernel
theorem dr_cX17_leads_15 : decode cX17_leads 15 = .ok (.iload_n 1, 1) := by decide +kernel
theorem dr_cX17_leads_16 : decode cX17_leads 16 = .ok (.if_icmp .ne 5, 3) := by decide +kernel
theorem dr_cX17_leads_21 : decode cX17_leads 21 = .ok (.iinc 2 1, 3) := by decide +kernel
theorem dr_cX17_leads_24 : decode cX17_leads 24 = .ok (.goto (-22), 3) := by decide +kernel
theorem dr_cX17_leads_19 : decode cX17_leads 19 = .ok (.iconst 1, 1) := by decide +kernel
theorem dr_cX17_leads_20 : decode cX17_leads 20 = .ok (.ireturn, 1) := by decide +kernel
theorem dr_cX13_get_0 : decode cX13_get 0 = .ok (.aload_n 0, 1) := by decide +kernel
theorem dr_cX13_get_1 : decode cX13_get 1 = .ok (.getfield 10, 3) := by decide +kernel
theorem dr_cX13_get_4 : decode cX13_get 4 = .ok (.iload_n 1, 1) := by decide +kernel
theorem dr_cX13_get_5 : decode cX13_get 5 = .ok (.invokevirtual 37, 3) := by decide +kernel
theorem dr_cX13_get_8 : decode cX13_get 8 = .ok (.checkcast 30, 3) := by decide +kernel
theorem dr_cX13_get_11 : decode cX13_get 11 = .ok (.areturn, 1) := by decide +kernel
theorem dr_cX13_countRows_0 : decode cX13_countRows 0 = .ok (.iconst 0, 1) := by decide +kernel
theorem dr_cX13_countRows_1 : decode cX13_countRows 1 = .ok (.istore_n 1, 1) := by decide +kernel
theorem dr_cX13_countRows_2 : decode cX13_countRows 2 = .ok (.iconst 0, 1) := by decide +kernel
theorem dr_cX13_countRows_3 : decode cX13_countRows 3 = .ok (.istore_n 2, 1) := by decide +kernel
theorem dr_cX13_countRows_4 : decode cX13_countRows 4 = .ok (.iload_n 2, 1) := by decide +kernel
theorem dr_cX13_countRows_5 : decode cX13_countRows 5 = .ok (.aload_n 0, 1) := by decide +kernel
theorem dr_cX13_countRows_6 : decode cX13_countRows 6 = .ok (.getfield 23, 3) := by decide +kernel
theorem dr_cX13_countRows_9 : decode cX13_countRows 9 = .ok (.if_icmp .ge 23, 3) := by decide +kernel
theorem dr_cX13_countRows_32 : decode cX13_countRows 32 = .ok (.iload_n 1, 1) := by decide +kernel
theorem dr_cX13_countRows_33 : decode cX13_countRows 33 = .ok (.ireturn, 1) := by decide +kernel
theorem dr_cX13_countRows_12 : decode cX13_countRows 12 = .ok (.iload_n 1, 1) := by decide +kernel
theorem dr_cX13_countRows_13 : decode cX13_countRows 13 = .ok (.aload_n 0, 1) := by decide +kernel
theorem dr_cX13_countRows_14 : decode cX13_countRows 14 = .ok (.iload_n 2, 1) := by decide +kernel
theorem dr_cX13_countRows_15 : decode cX13_countRows 15 = .ok (.invokevirtual 67, 3) := by decide +kernel
theorem wr_10_138 : (Jvm.Cond.methodLink "SpillForgeModel$Code" (67 : Nat) ({ cls := "SpillForgeModel$Code", name := "get", desc := "(I)LSpillForgeModel$Block;" } : Jvm.MethodName)) ∈ gw := gw_10 138 rfl rfl
theorem wr_1_15 : (Jvm.Cond.initialized "SpillForgeModel$Code") ∈ gw := gw_1 15 rfl rfl
theorem wr_10_141 : (Jvm.Cond.code ({ cls := "SpillForgeModel$Code", name := "get", desc := "(I)LSpillForgeModel$Block;" } : Jvm.MethodName) prog_16_method_6_code (2 : Nat) (Option.some (Jvm.ClassFile.FieldType.object "SpillForgeModel$Block"))) ∈ gw := gw_10 141 rfl rfl
theorem wr_10_139 : (Jvm.Cond.instanceMethod ({ cls := "SpillForgeModel$Code", name := "get", desc := "(I)LSpillForgeModel$Block;" } : Jvm.MethodName)) ∈ gw := gw_10 139 rfl rfl
theorem wr_10_140 : (Jvm.Cond.selects "SpillForgeModel$Code" ({ cls := "SpillForgeModel$Code", name := "get", desc := "(I)LSpillForgeModel$Block;" } : Jvm.MethodName) ({ cls := "SpillForgeModel$Code", name := "get", desc := "(I)LSpillForgeModel$Block;" } : Jvm.MethodName)) ∈ gw := gw_10 140 rfl rfl
theorem dr_cX13_countRows_18 : decode cX13_countRows 18 = .ok (.getfield 41, 3) := by decide +kernel
theorem dr_cX13_countRows_21 : decode cX13_countRows 21 = .ok (.invokevirtual 26, 3) := by decide +kernel
theorem dr_cX13_countRows_24 : decode cX13_countRows 24 = .ok (.iadd, 1) := by decide +kernel
theorem dr_cX13_countRows_25 : decode cX13_countRows 25 = .ok (.istore_n 1, 1) := by decide +kernel
theorem dr_cX13_countRows_26 : decode cX13_countRows 26 = .ok (.iinc 2 1, 3) := by decide +kernel
theorem dr_cX13_countRows_29 : decode cX13_countRows 29 = .ok (.goto (-25), 3) := by decide +kernel
theorem dr_cX13_count_0 : decode cX13_count 0 = .ok (.iconst 0, 1) := by decide +kernel
theorem dr_cX13_count_1 : decode cX13_count 1 = .ok (.istore_n 2, 1) := by decide +kernel
theorem dr_cX13_count_2 : decode cX13_count 2 = .ok (.iconst 0, 1) := by decide +kernel
theorem dr_cX13_count_3 : decode cX13_count 3 = .ok (.istore_n 3, 1) := by decide +kernel
theorem dr_cX13_count_4 : decode cX13_count 4 = .ok (.iload_n 3, 1) := by decide +kernel
theorem dr_cX13_count_5 : decode cX13_count 5 = .ok (.aload_n 0, 1) := by decide +kernel
theorem dr_cX13_count_6 : decode cX13_count 6 = .ok (.getfield 23, 3) := by decide +kernel
theorem dr_cX13_count_9 : decode cX13_count 9 = .ok (.if_icmp .ge 65, 3) := by decide +kernel
theorem dr_cX13_count_74 : decode cX13_count 74 = .ok (.iload_n 2, 1) := by decide +kernel
theorem dr_cX13_count_75 : decode cX13_count 75 = .ok (.ireturn, 1) := by decide +kernel
theorem dr_cX13_count_12 : decode cX13_count 12 = .ok (.iconst 0, 1) := by decide +kernel
theorem dr_cX13_count_13 : decode cX13_count 13 = .ok (.istore 4, 2) := by decide +kernel
theorem dr_cX13_count_15 : decode cX13_count 15 = .ok (.iload 4, 2) := by decide +kernel
theorem dr_cX13_count_17 : decode cX13_count 17 = .ok (.aload_n 0, 1) := by decide +kernel
theorem dr_cX13_count_18 : decode cX13_count 18 = .ok (.iload_n 3, 1) := by decide +kernel
theorem dr_cX13_count_19 : decode cX13_count 19 = .ok (.invokevirtual 67, 3) := by decide +kernel
theorem dr_cX13_count_22 : decode cX13_count 22 = .ok (.getfield 41, 3) := by decide +kernel
theorem dr_cX13_count_25 : decode cX13_count 25 = .ok (.invokevirtual 26, 3) := by decide +kernel
theorem dr_cX13_count_28 : decode cX13_count 28 = .ok (.if_icmp .ge 40, 3) := by decide +kernel
theorem dr_cX13_count_68 : decode cX13_count 68 = .ok (.iinc 3 1, 3) := by decide +kernel
theorem dr_cX13_count_71 : decode cX13_count 71 = .ok (.goto (-67), 3) := by decide +kernel
theorem dr_cX13_count_31 : decode cX13_count 31 = .ok (.iload_n 2, 1) := by decide +kernel
theorem dr_cX13_count_32 : decode cX13_count 32 = .ok (.aload_n 0, 1) := by decide +kernel
theorem dr_cX13_count_33 : decode cX13_count 33 = .ok (.iload_n 3, 1) := by decide +kernel
theorem dr_cX13_count_34 : decode cX13_count 34 = .ok (.invokevirtual 67, 3) := by decide +kernel
theorem dr_cX13_count_37 : decode cX13_count 37 = .ok (.getfield 41, 3) := by decide +kernel
theorem dr_cX13_count_40 : decode cX13_count 40 = .ok (.iload 4, 2) := by decide +kernel
theorem dr_cX13_count_42 : decode cX13_count 42 = .ok (.invokevirtual 37, 3) := by decide +kernel
theorem dr_cX13_count_45 : decode cX13_count 45 = .ok (.checkcast 45, 3) := by decide +kernel
theorem dr_cX13_count_48 : decode cX13_count 48 = .ok (.getfield 70, 3) := by decide +kernel
theorem wr_9_178 : (Jvm.Cond.fieldLink "SpillForgeModel$Code" (70 : Nat) "SpillForgeModel$Row" "op" "I") ∈ gw := gw_9 178 rfl rfl
theorem dr_cX13_count_51 : decode cX13_count 51 = .ok (.iload_n 1, 1) := by decide +kernel
theorem dr_cX13_count_52 : decode cX13_count 52 = .ok (.if_icmp .ne 7, 3) := by decide +kernel
theorem dr_cX13_count_59 : decode cX13_count 59 = .ok (.iconst 0, 1) := by decide +kernel
theorem dr_cX13_count_60 : decode cX13_count 60 = .ok (.iadd, 1) := by decide +kernel
theorem dr_cX13_count_61 : decode cX13_count 61 = .ok (.istore_n 2, 1) := by decide +kernel
theorem dr_cX13_count_62 : decode cX13_count 62 = .ok (.iinc 4 1, 3) := by decide +kernel
theorem dr_cX13_count_65 : decode cX13_count 65 = .ok (.goto (-50), 3) := by decide +kernel
theorem dr_cX13_count_55 : decode cX13_count 55 = .ok (.iconst 1, 1) := by decide +kernel
theorem dr_cX13_count_56 : decode cX13_count 56 = .ok (.goto 4, 3) := by decide +kernel
def pp_5159_Block_way (D : va_G) (I : FieldType → ClassId) (P5144 : List Nat) (F5145 : Nat → va_E) (q5146 : Nat) (q5147 : Nat) (p5148 : Int32) (qo5149 : Nat) (p5150 : Int32) (p5151 : Int32) (p5152 : Int32) (p5153 : Int32) (p5154 : Int32) (p5155 : Int32) (p5156 : Int32) (p5157 : Int32) (p5158 : Int32) : Option Value → va_W → Nat → Nat → Prop := fun r w dc ds => ∃ (o5163 : Int32), r = some (.int o5163) ∧ w = va_pl P5144 F5145 ∧ dc ≤ 0 ∧ ds ≤ 0 ∧ gB o5163 0 39 ∧ tr_RBlock_way2 p5148 p5150 p5151 o5163
set_option maxRecDepth 100000 in
set_option maxHeartbeats 4000000 in
theorem cp_5159_Block_way (l : Launch) (hl0 : l.stackTraces = false) (D : va_G) (I : FieldType → ClassId) (P5144 : List Nat) (F5145 : Nat → va_E) (q5146 : Nat) (q5147 : Nat) (p5148 : Int32) (qo5149 : Nat) (p5150 : Int32) (p5151 : Int32) (p5152 : Int32) (p5153 : Int32) (p5154 : Int32) (p5155 : Int32) (p5156 : Int32) (p5157 : Int32) (p5158 : Int32) (hmq5146 : q5146 ∈ P5144) (hmq5147 : q5147 ∈ P5144) (heq5146 : F5145 q5146 = .inr (17, [.ref qo5149, .ref q5147, .int p5150, .int p5151])) (heq5147 : F5145 q5147 = .inr (20, [.int p5152, .int p5153, .int p5154, .int p5155, .int p5156, .int p5157, .int p5158])) (bp5150 : gB p5150 0 39) (bp5151 : gB p5151 0 39) (bp5152 : gB p5152 0 32) (bp5153 : gB p5153 0 1999) (bp5156 : gB p5156 0 1999) (bp5157 : gB p5157 0 1) (bp5158 : gB p5158 0 1) : CtA (gV D I) l yX12_way cX12_way 2 (some FieldType.int) 0 0 0 0 [.ref q5146, .int p5148] (va_pl P5144 F5145) (pp_5159_Block_way D I P5144 F5145 q5146 q5147 p5148 qo5149 p5150 p5151 p5152 p5153 p5154 p5155 p5156 p5157 p5158) gNA := by
  refine CtA_of hl0 (by decide) (Nat.le_of_ble_eq_true rfl) ?_
  have bp5148 := gB_any p5148
  have bp5154 := gB_any p5154
  have bp5155 := gB_any p5155
  refine G_iload_n 1 dr_cX12_way_0 rfl ?_
  refine G_if_ne 11 dr_cX12_way_1 (by decide +kernel) (fun hc5160 => ?_) (fun hc5160 => ?_)
  · have r5161 : p5148.toInt ≠ 0 := gj_neq hc5160 (show Int32.toInt 0 = 0 by decide)
    refine G_aload_n 0 dr_cX12_way_11 rfl ?_
    refine Gp_get 3 hmq5146 heq5146 dr_cX12_way_12 (gk_X12 D I) (Nat.le_of_ble_eq_true rfl) wr_9_230 rfl ?_
    exact G_iretA dr_cX12_way_15 rfl (Nat.le_of_ble_eq_true rfl) (Nat.le_of_ble_eq_true rfl) ⟨p5151, rfl, rfl, (Nat.le_of_ble_eq_true rfl), (Nat.le_of_ble_eq_true rfl), bp5151, (fun R c1 c2 => c1 r5161)⟩
  · have r5162 : p5148.toInt = 0 := gj_eq hc5160 (show Int32.toInt 0 = 0 by decide)
    have bp5148' : gB p5148 0 0 := ⟨by omega, by omega⟩
    refine G_aload_n 0 dr_cX12_way_4 rfl ?_
    refine Gp_get 2 hmq5146 heq5146 dr_cX12_way_5 (gk_X12 D I) (Nat.le_of_ble_eq_true rfl) wr_9_226 rfl ?_
    refine G_goto 15 dr_cX12_way_8 (by decide +kernel) ?_
    exact G_iretA dr_cX12_way_15 rfl (Nat.le_of_ble_eq_true rfl) (Nat.le_of_ble_eq_true rfl) ⟨p5150, rfl, rfl, (Nat.le_of_ble_eq_true rfl), (Nat.le_of_ble_eq_true rfl), bp5150, (fun R c1 c2 => c2 r5162)⟩
/- tl_RModel_behind_33: F, l3; out: F -/
def tl_RModel_behind_33 (D : va_G) (I : FieldType → ClassId) (γ el : Nat → Nat → Nat) (P : List Nat) (F : Nat → va_E) (q0 : Nat) (q1 : Nat) (l2_1 : Int32) (s1 : Nat → va_E) (s2 : Int32) (k : Nat) (e1 : Nat → va_E) : Prop := ∀ R : (Nat → va_E) → (Int32) → Nat → (Nat → va_E) → Prop,
  (∀ (F_2 : Nat → va_E) (l3_2 : Int32), gB l3_2 0 32 → RS D I P F_2 γ el → rStr γ [] F F_2 → 32 ≤ l3_2.toInt → R F_2 l3_2 66 F_2) →
  (∀ (F_2 : Nat → va_E) (l3_2 : Int32) (x1 : Nat → Int64) (x2 : Int64) (x3 : Int32) (x4 : Int32) (x5 : Int32) (x6 : Nat) (x7 : Nat → Int64) (x8 : Int64) (x9 : Int64) (x10 : Nat → Int64) (x11 : Nat → va_E) (x12 : Int32) (k : Nat) (e1 : Nat → va_E), gB l3_2 0 32 → RS D I P F_2 γ el → rStr γ [] F F_2 → l3_2.toInt < 32 → fR (F_2 q0) 2 = (γ 9 2) → F_2 (γ 9 2) = .inl (I .long, 32, .inr (.inl x1)) → x2 = x1 l3_2.toNatClampNeg → fR (F_2 q0) 0 = (γ 9 0) → fI (F_2 q1) 2 = x3 → fI (F_2 q1) 3 = x4 → gB x5 0 39 → tr_RBlock_way2 l2_1 x3 x4 x5 → x6 = γ 10 x5.toInt.toNat → F_2 x6 = .inl (I .long, 32, .inr (.inl x7)) → x8 = x7 l3_2.toNatClampNeg → x9 = x2 ||| x8 → x10 = vp_updL x1 l3_2.toNatClampNeg x9 → (∀ b, b ≠ (γ 9 2) → x11 b = F_2 b) → x11 (γ 9 2) = .inl (I .long, 32, .inr (.inl x10)) → x12.toInt = l3_2.toInt + 1 → R x11 x12 k e1 → R F_2 l3_2 k e1) →
  R s1 s2 k e1
/- tl_RModel_behind_23: F, l2; out: F -/
def tl_RModel_behind_23 (D : va_G) (I : FieldType → ClassId) (γ el : Nat → Nat → Nat) (P : List Nat) (F : Nat → va_E) (q1 : Nat) (q0 : Nat) (s1 : Nat → va_E) (s2 : Int32) (k : Nat) (e1 : Nat → va_E) : Prop := ∀ R : (Nat → va_E) → (Int32) → Nat → (Nat → va_E) → Prop,
  (∀ (F_1 : Nat → va_E) (l2_1 : Int32) (x1 : Int32) (x2 : Int32) (x3 : Nat) (x4 : Int32) (x5 : Int32), gB l2_1 0 2 → RS D I P F_1 γ el → rStr γ [] F F_1 → fI (F_1 q1) 2 = x1 → fI (F_1 q1) 3 = x2 → fR (F_1 q1) 1 = x3 → fI (F_1 x3) 0 = x4 → gB x5 0 2 → tr_RBlock_ways x1 x2 x4 x5 → x5.toInt ≤ l2_1.toInt → R F_1 l2_1 72 F_1) →
  (∀ (F_1 : Nat → va_E) (l2_1 : Int32) (x1 : Int32) (x2 : Int32) (x3 : Nat) (x4 : Int32) (x5 : Int32) (x6 : Nat → va_E) (x7 : Int32) (k : Nat) (e1 : Nat → va_E), gB l2_1 0 2 → RS D I P F_1 γ el → rStr γ [] F F_1 → fI (F_1 q1) 2 = x1 → fI (F_1 q1) 3 = x2 → fR (F_1 q1) 1 = x3 → fI (F_1 x3) 0 = x4 → gB x5 0 2 → tr_RBlock_ways x1 x2 x4 x5 → l2_1.toInt < x5.toInt → tl_RModel_behind_33 D I γ el P F q0 q1 l2_1 F_1 (0 : Int32) 66 x6 → x7.toInt = l2_1.toInt + 1 → R x6 x7 k e1 → R F_1 l2_1 k e1) →
  R s1 s2 k e1
/- tl_RModel_behind_2: F, l2; out: F -/
def tl_RModel_behind_2 (D : va_G) (I : FieldType → ClassId) (γ el : Nat → Nat → Nat) (P : List Nat) (F : Nat → va_E) (q0 : Nat) (s1 : Nat → va_E) (s2 : Int32) (k : Nat) (e1 : Nat → va_E) : Prop := ∀ R : (Nat → va_E) → (Int32) → Nat → (Nat → va_E) → Prop,
  (∀ (F_1 : Nat → va_E) (l2_1 : Int32), gB l2_1 0 32 → RS D I P F_1 γ el → rStr γ [] F F_1 → 32 ≤ l2_1.toInt → R F_1 l2_1 21 F_1) →
  (∀ (F_1 : Nat → va_E) (l2_1 : Int32) (x1 : Nat → Int64) (x2 : Nat → Int64) (x3 : Nat → va_E) (x4 : Int32) (k : Nat) (e1 : Nat → va_E), gB l2_1 0 32 → RS D I P F_1 γ el → rStr γ [] F F_1 → l2_1.toInt < 32 → fR (F_1 q0) 2 = (γ 9 2) → F_1 (γ 9 2) = .inl (I .long, 32, .inr (.inl x1)) → x2 = vp_updL x1 l2_1.toNatClampNeg 0 → (∀ b, b ≠ (γ 9 2) → x3 b = F_1 b) → x3 (γ 9 2) = .inl (I .long, 32, .inr (.inl x2)) → x4.toInt = l2_1.toInt + 1 → R x3 x4 k e1 → R F_1 l2_1 k e1) →
  R s1 s2 k e1
/- tr_RModel_behind: F -/
def tr_RModel_behind (D : va_G) (I : FieldType → ClassId) (γ el : Nat → Nat → Nat) (P : List Nat) (F : Nat → va_E) (q0 : Nat) (q1 : Nat) (o1 : Nat → va_E) : Prop := ∀ R : (Nat → va_E) → Prop,
  (∀ (x1 : Nat → va_E) (x2 : Nat → va_E), tl_RModel_behind_2 D I γ el P F q0 F (0 : Int32) 21 x1 → tl_RModel_behind_23 D I γ el P F q1 q0 x1 (0 : Int32) 72 x2 → R x2) →
  R o1
/- tr_RModel_value: result -/
def tr_RModel_value (D : va_G) (I : FieldType → ClassId) (γ el : Nat → Nat → Nat) (F : Nat → va_E) (q0 : Nat) (a1 : Int32) (a2 : Int32) (o1 : Int32) : Prop := ∀ R : (Int32) → Prop,
  (a1.toInt = 0 → R a2) →
  (∀ (x1 : Nat → Int32) (x2 : Int32), a1.toInt ≠ 0 → fR (F q0) 20 = (γ 9 20) → F (γ 9 20) = .inl (I .int, 2000, .inl x1) → x2 = x1 a2.toNatClampNeg → R x2) →
  R o1
def pt_7532_SpillForgeModel_value (D : va_G) (I : FieldType → ClassId) (γ el : Nat → Nat → Nat) (P7526 : List Nat) (F7527 : Nat → va_E) (q7528 : Nat) (p7529 : Int32) (p7530 : Int32) : Option Value → va_W → Nat → Nat → Prop := fun r w dc ds => ∃ (o7588 : Int32), r = some (.int o7588) ∧ w = va_pl P7526 F7527 ∧ dc ≤ 0 ∧ ds ≤ 0 ∧ tr_RModel_value D I γ el F7527 q7528 p7529 p7530 o7588
set_option maxRecDepth 100000 in
set_option maxHeartbeats 4000000 in
theorem ct_7532_SpillForgeModel_value (l : Launch) (hl0 : l.stackTraces = false) (D : va_G) (I : FieldType → ClassId) (γ el : Nat → Nat → Nat) (P7526 : List Nat) (F7527 : Nat → va_E) (q7528 : Nat) (p7529 : Int32) (p7530 : Int32) (hT : RS D I P7526 F7527 γ el) (htq7528 : rKd γ q7528 10) (bp7529 : gB p7529 0 1) (x7531 : (p7529.toInt = 0 ∨ (0 ≤ p7530.toInt ∧ p7530.toInt ≤ 1999))) : CtA (gV D I) l yX17_value cX17_value 3 (some FieldType.int) 0 0 0 0 [.ref q7528, .int p7529, .int p7530] (va_pl P7526 F7527) (pt_7532_SpillForgeModel_value D I γ el P7526 F7527 q7528 p7529 p7530) gNA := by
  refine CtA_of hl0 (by decide) (Nat.le_of_ble_eq_true rfl) ?_
  have bp7530 := gB_any p7530
  refine G_iload_n 1 dr_cX17_value_0 rfl ?_
  refine G_if_eq 13 dr_cX17_value_1 (by decide +kernel) (fun hc7533 => ?_) (fun hc7533 => ?_)
  · have r7534 : p7529.toInt = 0 := gj_eq hc7533 (show Int32.toInt 0 = 0 by decide)
    have bp7529' : gB p7529 0 0 := ⟨by omega, by omega⟩
    refine G_iload_n 2 dr_cX17_value_13 rfl ?_
    exact G_iretA dr_cX17_value_14 rfl (Nat.le_of_ble_eq_true rfl) (Nat.le_of_ble_eq_true rfl) ⟨p7530, rfl, rfl, (Nat.le_of_ble_eq_true rfl), (Nat.le_of_ble_eq_true rfl), (fun R c1 c2 => c1 r7534)⟩
  · have r7535 : p7529.toInt ≠ 0 := gj_neq hc7533 (show Int32.toInt 0 = 0 by decide)
    have bp7529' : gB p7529 1 1 := ⟨by omega, by omega⟩
    refine G_aload_n 0 dr_cX17_value_4 rfl ?_
    have hm7536 : q7528 ∈ P7526 := RS_m hT htq7528 (by decide)
    obtain ⟨q7538, q7539, p7540, p7541, p7542, p7543, p7544, p7545, p7546, p7547, p7548, p7549, p7550, p7551, p7552, p7553, p7554, he7537, hB7581, ht7555, ht7556, ht7557, ht7558, ht7559, ht7560, ht7561, ht7562, ht7563, ht7564, ht7565, ht7566, ht7567, ht7568, ht7569, ht7570, ht7571, ht7572, ht7573, ht7574, ht7575, ht7576, ht7577, ht7578, hB7582⟩ := show rk_10 γ (F7527 q7528) from RS_o hT htq7528
    have fq7583 : fR (F7527 q7528) 20 = (γ 9 20) := by rw [he7537]; rfl
    refine Gp_get 20 hm7536 he7537 dr_cX17_value_5 (gk_X17 D I) (Nat.le_of_ble_eq_true rfl) wr_7_94 rfl ?_
    refine G_iload_n 2 dr_cX17_value_8 rfl ?_
    have hm7584 : (γ 9 20) ∈ P7526 := RS_m hT ht7571 (by decide)
    obtain ⟨f7586, he7585⟩ := show rk_22 I (F7527 (γ 9 20)) from RS_o hT ht7571
    refine Gp_iald 0 hm7584 he7585 dr_cX17_value_9 rfl (gB_inr (by omega) (by omega)) (G_nam fun z7587 hz7587 => ?_)
    have bz7587 : gB z7587 (-2147483648) 2147483647 := gB_any z7587
    refine G_goto 14 dr_cX17_value_10 (by decide +kernel) ?_
    exact G_iretA dr_cX17_value_14 rfl (Nat.le_of_ble_eq_true rfl) (Nat.le_of_ble_eq_true rfl) ⟨z7587, rfl, rfl, (Nat.le_of_ble_eq_true rfl), (Nat.le_of_ble_eq_true rfl), (fun R c1 c2 => c2 f7586 z7587 r7535 fq7583 he7585 hz7587)⟩
/- tl_RModel_leads_2: l2; out:  -/
def tl_RModel_leads_2 (D : va_G) (I : FieldType → ClassId) (γ el : Nat → Nat → Nat) (F : Nat → va_E) (q0 : Nat) (a1 : Int32) (s1 : Int32) (k : Nat) : Prop := ∀ R : (Int32) → Nat → Prop,
  (∀ (l2_1 : Int32) (x1 : Int32) (x2 : Int32) (x3 : Nat) (x4 : Int32) (x5 : Int32), gB l2_1 0 2 → fI (F q0) 2 = x1 → fI (F q0) 3 = x2 → fR (F q0) 1 = x3 → fI (F x3) 0 = x4 → gB x5 0 2 → tr_RBlock_ways x1 x2 x4 x5 → x5.toInt ≤ l2_1.toInt → R l2_1 27) →
  (∀ (l2_1 : Int32) (x1 : Int32) (x2 : Int32) (x3 : Nat) (x4 : Int32) (x5 : Int32) (x6 : Int32) (x7 : Int32) (k : Nat), gB l2_1 0 2 → fI (F q0) 2 = x1 → fI (F q0) 3 = x2 → fR (F q0) 1 = x3 → fI (F x3) 0 = x4 → gB x5 0 2 → tr_RBlock_ways x1 x2 x4 x5 → l2_1.toInt < x5.toInt → gB x6 0 39 → tr_RBlock_way2 l2_1 x1 x2 x6 → x6.toInt ≠ a1.toInt → x7.toInt = l2_1.toInt + 1 → R x7 k → R l2_1 k) →
  (∀ (l2_1 : Int32) (x1 : Int32) (x2 : Int32) (x3 : Nat) (x4 : Int32) (x5 : Int32) (x6 : Int32), gB l2_1 0 2 → fI (F q0) 2 = x1 → fI (F q0) 3 = x2 → fR (F q0) 1 = x3 → fI (F x3) 0 = x4 → gB x5 0 2 → tr_RBlock_ways x1 x2 x4 x5 → l2_1.toInt < x5.toInt → gB x6 0 39 → tr_RBlock_way2 l2_1 x1 x2 x6 → x6.toInt = a1.toInt → R l2_1 19) →
  R s1 k
/- tr_RModel_leads: result -/
def tr_RModel_leads (D : va_G) (I : FieldType → ClassId) (γ el : Nat → Nat → Nat) (F : Nat → va_E) (q0 : Nat) (a1 : Int32) (o1 : Int32) : Prop := ∀ R : (Int32) → Prop,
  (tl_RModel_leads_2 D I γ el F q0 a1 (0 : Int32) 27 → R (0 : Int32)) →
  (tl_RModel_leads_2 D I γ el F q0 a1 (0 : Int32) 19 → R (1 : Int32)) →
  R o1
abbrev ky_7594_SpillForgeModel_leads : gKey := (cX17_leads, 3, "SpillForgeModel", (some FieldType.boolean), [], "leads", fun _ _ => True)
def pt_7594_SpillForgeModel_leads (D : va_G) (I : FieldType → ClassId) (γ el : Nat → Nat → Nat) (P7590 : List Nat) (F7591 : Nat → va_E) (q7592 : Nat) (p7593 : Int32) : Option Value → va_W → Nat → Nat → Prop := fun r w dc ds => ∃ (o7804 : Int32), r = some (.int o7804) ∧ w = va_pl P7590 F7591 ∧ dc ≤ 0 ∧ ds ≤ 0 ∧ gB o7804 0 1 ∧ tr_RModel_leads D I γ el F7591 q7592 p7593 o7804
set_option maxRecDepth 100000 in
set_option maxHeartbeats 4000000 in
theorem ct_7594_SpillForgeModel_leads (l : Launch) (hl0 : l.stackTraces = false) (D : va_G) (I : FieldType → ClassId) (γ el : Nat → Nat → Nat) (P7590 : List Nat) (F7591 : Nat → va_E) (q7592 : Nat) (p7593 : Int32) (hT : RS D I P7590 F7591 γ el) (htq7592 : rKd γ q7592 2) : CtA (gV D I) l yX17_leads cX17_leads 3 (some FieldType.boolean) 1 21 0 0 [.ref q7592, .int p7593] (va_pl P7590 F7591) (pt_7594_SpillForgeModel_leads D I γ el P7590 F7591 q7592 p7593) gNA := by
  refine CtA_of hl0 (by decide) (Nat.le_of_ble_eq_true rfl) ?_
  have bp7593 := gB_any p7593
  refine G_iconst 0 dr_cX17_leads_0 (by decide +kernel) ?_
  refine G_istore_n (L' := [(2, .int 0), (0, .ref q7592), (1, .int p7593)]) dr_cX17_leads_1 (Nat.le_of_ble_eq_true rfl) rfl ?_
  have hlp2_7746 : ∀ (n2_7746 : Nat) (g7746 : Int32), gB g7746 0 2 → (∀ (k : Nat), tl_RModel_leads_2 D I γ el F7591 q7592 p7593 g7746 k → tl_RModel_leads_2 D I γ el F7591 q7592 p7593 (0 : Int32) k) → ((3 : Int) - g7746.toInt).toNat < n2_7746 → G (gV D I) l (gRm 1 21 0 0) (gMA (gV D I) (pt_7594_SpillForgeModel_leads D I γ el P7590 F7591 q7592 p7593) gNA 0 0) ky_7594_SpillForgeModel_leads 2 [(2, .int g7746), (0, .ref q7592), (1, .int p7593)] [] (va_pl P7590 F7591) 0 0 := by
    intro n2_7746
    induction n2_7746 with
    | zero => intro g7746 bg7746 kt2_7747 hm2_7746; exact absurd hm2_7746 (Nat.not_lt_zero _)
    | succ n2_7746 ih2_7746 =>
      intro g7746 bg7746 kt2_7747 hm2_7746
      refine G_iload_n 0 dr_cX17_leads_2 rfl ?_
      refine G_aload_n 1 dr_cX17_leads_3 rfl ?_
      have hm7748 : q7592 ∈ P7590 := RS_m hT htq7592 (by decide)
      obtain ⟨q7750, q7751, p7752, p7753, he7749, ht7760, ht7754, ht7755, ht7756, ht7757, ht7758, bp7752, bp7753, r7759, r7761, r7762⟩ := show rk_2 γ q7592 (F7591 q7592) from RS_o hT htq7592
      have hm7763 : q7751 ∈ P7590 := RS_m hT ht7756 (by decide)
      obtain ⟨p7765, p7766, p7767, p7768, p7769, p7770, p7771, he7764, bp7765, bp7766, bp7769, bp7770, bp7771, r7772, r7773, r7774, r7775, r7776⟩ := show rk_1 γ q7751 (F7591 q7751) from RS_o hT ht7756
      have bp7767 := gB_any p7767
      have bp7768 := gB_any p7768
      have fq7777 : fI (F7591 q7592) 2 = p7752 := by rw [he7749]; rfl
      have fq7778 : fI (F7591 q7592) 3 = p7753 := by rw [he7749]; rfl
      have fq7779 : fR (F7591 q7592) 1 = q7751 := by rw [he7749]; rfl
      have fq7780 : fI (F7591 q7751) 0 = p7765 := by rw [he7764]; rfl
      refine Gw_callV (As := []) (gV_ok D I) (cp_1816_Block_ways l hl0 D I P7590 F7591 q7592 q7751 q7750 p7752 p7753 p7765 p7766 p7767 p7768 p7769 p7770 p7771 hm7748 hm7763 he7749 he7764 bp7752 bp7753 bp7765 bp7766 bp7769 bp7770 bp7771) dr_cX17_leads_4 ⟨wr_10_166, wr_1_38, wr_10_169, by decide, rfl, (Nat.le_of_ble_eq_true rfl), (Nat.le_of_ble_eq_true rfl)⟩ wr_10_167 wr_10_168 hm7748 he7749 rfl (show 0 + 0 ≤ 0 by first | omega | decide) (show 0 + 0 ≤ 0 by first | omega | decide) (Nat.le_of_ble_eq_true rfl) (fun r7784 w7785 dc7781 ds7782 hp7783 => ?_) (fun _ _ _ _ _ z => z.elim)
      obtain ⟨o7786, rfl, rfl, hdc, hds, bo7786, ht7787⟩ := hp7783
      change G _ _ _ _ _ _ _ (.int o7786 :: _) _ _ _
      refine G_widen (cs' := 0) (sl' := 0) (by omega) (by omega) ?_
      refine G_icmp_ge 27 dr_cX17_leads_7 (by decide +kernel) (fun hc7788 => ?_) (fun hc7788 => ?_)
      · have r7789 : o7786.toInt ≤ g7746.toInt := gC_le hc7788
        have hx7790 : tl_RModel_leads_2 D I γ el F7591 q7592 p7593 (0 : Int32) 27 := kt2_7747 27 (fun R c1 c2 c3 => c1 g7746 p7752 p7753 q7751 p7765 o7786 bg7746 fq7777 fq7778 fq7779 fq7780 bo7786 ht7787 r7789)
        refine G_iconst 0 dr_cX17_leads_27 (by decide +kernel) ?_
        exact G_zretA FieldType.boolean dr_cX17_leads_28 rfl rfl (Nat.le_of_ble_eq_true rfl) (Nat.le_of_ble_eq_true rfl) ⟨0, rfl, rfl, (Nat.le_of_ble_eq_true rfl), (Nat.le_of_ble_eq_true rfl), (gB_w (gBl (show Int32.toInt 0 = 0 by decide)) (by decide) (by decide)), (fun R c1 c2 => c1 hx7790)⟩
      · have r7791 : g7746.toInt < o7786.toInt := gC_nle hc7788
        have bg7746' : gB g7746 0 1 := ⟨by omega, by omega⟩
        have bo7786' : gB o7786 1 2 := ⟨by omega, by omega⟩
        refine G_aload_n 1 dr_cX17_leads_10 rfl ?_
        refine G_iload_n 0 dr_cX17_leads_11 rfl ?_
        refine Gw_callV (As := [.int g7746]) (gV_ok D I) (cp_5159_Block_way l hl0 D I P7590 F7591 q7592 q7751 g7746 q7750 p7752 p7753 p7765 p7766 p7767 p7768 p7769 p7770 p7771 hm7748 hm7763 he7749 he7764 bp7752 bp7753 bp7765 bp7766 bp7769 bp7770 bp7771) dr_cX17_leads_12 ⟨wr_10_170, wr_1_38, wr_10_173, by decide, rfl, (Nat.le_of_ble_eq_true rfl), (Nat.le_of_ble_eq_true rfl)⟩ wr_10_171 wr_10_172 hm7748 he7749 rfl (show 0 + 0 ≤ 0 by first | omega | decide) (show 0 + 0 ≤ 0 by first | omega | decide) (Nat.le_of_ble_eq_true rfl) (fun r7795 w7796 dc7792 ds7793 hp7794 => ?_) (fun _ _ _ _ _ z => z.elim)
        obtain ⟨o7797, rfl, rfl, hdc, hds, bo7797, ht7798⟩ := hp7794
        change G _ _ _ _ _ _ _ (.int o7797 :: _) _ _ _
        refine G_widen (cs' := 0) (sl' := 0) (by omega) (by omega) ?_
        refine G_iload_n 2 dr_cX17_leads_15 rfl ?_
        refine G_icmp_ne 21 dr_cX17_leads_16 (by decide +kernel) (fun hc7799 => ?_) (fun hc7799 => ?_)
        · have r7800 : o7797.toInt ≠ p7593.toInt := gC_ne hc7799
          obtain ⟨z7801, hz7801⟩ : ∃ z : Int32, z = g7746 + Int32.ofInt 1 := ⟨_, rfl⟩
          have ez7801 : z7801.toInt = g7746.toInt + 1 := gI_inc hz7801 (by decide) bg7746' (by decide) (by decide)
          have bz7801 : gB z7801 1 2 := ⟨by omega, by omega⟩
          refine G_iinc (L' := [(2, .int z7801), (0, .ref q7592), (1, .int p7593)]) z7801 0 dr_cX17_leads_21 rfl hz7801.symm (Nat.le_of_ble_eq_true rfl) rfl ?_
          refine G_goto 2 dr_cX17_leads_24 (by decide +kernel) ?_
          exact ih2_7746 z7801 (gB_w bz7801 (by decide) (by decide)) (fun k ht => kt2_7747 k (fun R c1 c2 c3 => c2 g7746 p7752 p7753 q7751 p7765 o7786 o7797 z7801 k bg7746 fq7777 fq7778 fq7779 fq7780 bo7786 ht7787 r7791 bo7797 ht7798 r7800 ez7801 (ht R c1 c2 c3))) (by omega)
        · have r7802 : o7797.toInt = p7593.toInt := gC_eq hc7799
          have bp7593' : gB p7593 0 39 := ⟨by omega, by omega⟩
          have hx7803 : tl_RModel_leads_2 D I γ el F7591 q7592 p7593 (0 : Int32) 19 := kt2_7747 19 (fun R c1 c2 c3 => c3 g7746 p7752 p7753 q7751 p7765 o7786 o7797 bg7746 fq7777 fq7778 fq7779 fq7780 bo7786 ht7787 r7791 bo7797 ht7798 r7802)
          refine G_iconst 1 dr_cX17_leads_19 (by decide +kernel) ?_
          exact G_zretA FieldType.boolean dr_cX17_leads_20 rfl rfl (Nat.le_of_ble_eq_true rfl) (Nat.le_of_ble_eq_true rfl) ⟨1, rfl, rfl, (Nat.le_of_ble_eq_true rfl), (Nat.le_of_ble_eq_true rfl), (gB_w (gBl (show Int32.toInt 1 = 1 by decide)) (by decide) (by decide)), (fun R c1 c2 => c2 hx7803)⟩
  exact hlp2_7746 (((3 : Int) - 0).toNat + 1) 0 (gB_w (gBl (show Int32.toInt 0 = 0 by decide)) (by decide) (by decide)) (fun k ht => ht) (Nat.lt_succ_self _)
/- tr_RCode_get:  -/
def tr_RCode_get (a1 : Int32) (a0_blocks_size : Int32) : Prop := ∀ R : Prop,
  (tr_RArrayList_get a1 a0_blocks_size → R) →
  R
def pp_7901_Code_get (D : va_G) (I : FieldType → ClassId) (P7879 : List Nat) (F7880 : Nat → va_E) (q7881 : Nat) (q7882 : Nat) (q7883 : Nat) (p7884 : Int32) (qo7885 : Nat) (p7886 : Int32) (p7887 : Int32) (p7888 : Int32) (p7889 : Int32) (f7890 : Nat → Option Nat) (n7891 : Nat) (x7892 : Nat) (qo7893 : Nat) (qo7894 : Nat) (p7895 : Int32) (p7896 : Int32) : Option Value → va_W → Nat → Nat → Prop := fun r w dc ds => r = some (.ref x7892) ∧ w = va_pl P7879 F7880 ∧ dc ≤ 0 ∧ ds ≤ 0 ∧ tr_RCode_get p7884 p7889
set_option maxRecDepth 100000 in
set_option maxHeartbeats 4000000 in
theorem cp_7901_Code_get (l : Launch) (hl0 : l.stackTraces = false) (D : va_G) (I : FieldType → ClassId) (P7879 : List Nat) (F7880 : Nat → va_E) (q7881 : Nat) (q7882 : Nat) (q7883 : Nat) (p7884 : Int32) (qo7885 : Nat) (p7886 : Int32) (p7887 : Int32) (p7888 : Int32) (p7889 : Int32) (f7890 : Nat → Option Nat) (n7891 : Nat) (x7892 : Nat) (qo7893 : Nat) (qo7894 : Nat) (p7895 : Int32) (p7896 : Int32) (hmq7881 : q7881 ∈ P7879) (hmq7882 : q7882 ∈ P7879) (hmq7883 : q7883 ∈ P7879) (hmx7892 : x7892 ∈ P7879) (heq7881 : F7880 q7881 = .inr (18, [.ref q7882, .ref qo7885, .int p7886, .int p7887])) (heq7882 : F7880 q7882 = .inr (4, [.int p7888, .ref q7883, .int p7889])) (heq7883 : F7880 q7883 = .inl (I (.object "java/lang/Object"), n7891, .inr (.inr (.inr (.inr f7890))))) (hex7892 : F7880 x7892 = .inr (17, [.ref qo7893, .ref qo7894, .int p7895, .int p7896])) (bp7884 : gB p7884 0 16777216) (bp7889 : gB p7889 0 16777216) (x7897 : p7884.toInt < p7889.toInt) (x7898 : p7889.toInt ≤ (n7891 : Int)) (x7899 : f7890 p7884.toNatClampNeg = some x7892) (x7900 : ((n7891 : Int) ≤ 16777216)) : CtA (gV D I) l yX13_get cX13_get 2 (some (FieldType.object "SpillForgeModel$Block")) 3 64 0 0 [.ref q7881, .int p7884] (va_pl P7879 F7880) (pp_7901_Code_get D I P7879 F7880 q7881 q7882 q7883 p7884 qo7885 p7886 p7887 p7888 p7889 f7890 n7891 x7892 qo7893 qo7894 p7895 p7896) gNA := by
  refine CtA_of hl0 (by decide) (Nat.le_of_ble_eq_true rfl) ?_
  have bp7886 := gB_any p7886
  have bp7887 := gB_any p7887
  have bp7888 := gB_any p7888
  have bp7895 := gB_any p7895
  have bp7896 := gB_any p7896
  refine G_aload_n 0 dr_cX13_get_0 rfl ?_
  refine Gp_get 0 hmq7881 heq7881 dr_cX13_get_1 (gk_X13 D I) (Nat.le_of_ble_eq_true rfl) wr_7_30 rfl ?_
  refine G_iload_n 1 dr_cX13_get_4 rfl ?_
  refine Gw_callV (As := [.int p7884]) (gV_ok D I) (cp_22_ArrayList_get l hl0 D I P7879 F7880 q7882 q7883 p7884 p7888 p7889 f7890 n7891 x7892 hmq7882 hmq7883 heq7882 heq7883 bp7884 bp7889 (by omega) (by omega) (by assumption) (by omega)) dr_cX13_get_5 ⟨wr_10_62, wr_1_18, wr_10_65, by decide, rfl, (Nat.le_of_ble_eq_true rfl), (Nat.le_of_ble_eq_true rfl)⟩ wr_10_63 wr_10_64 hmq7882 heq7882 rfl (show 0 + 0 ≤ 0 by first | omega | decide) (show 0 + 0 ≤ 0 by first | omega | decide) (Nat.le_of_ble_eq_true rfl) (fun r7905 w7906 dc7902 ds7903 hp7904 => ?_) (fun _ _ _ _ _ z => z.elim)
  obtain ⟨rfl, rfl, hdc, hds, ht7907⟩ := hp7904
  change G _ _ _ _ _ _ _ (.ref x7892 :: _) _ _ _
  refine G_widen (cs' := 0) (sl' := 0) (by omega) (by omega) ?_
  refine Gp_cast hmx7892 hex7892 rfl dr_cX13_get_8 wr_9_161 (gr_cast 0 rfl) ?_
  exact G_aretA (FieldType.object "SpillForgeModel$Block") dr_cX13_get_11 rfl (by first | exact Or.inl ⟨_, rfl⟩ | exact Or.inr ⟨_, rfl⟩) (Or.inr ⟨_, rfl⟩) (Nat.le_of_ble_eq_true rfl) (Nat.le_of_ble_eq_true rfl) ⟨rfl, rfl, (Nat.le_of_ble_eq_true rfl), (Nat.le_of_ble_eq_true rfl), (fun R c1 => c1 ht7907)⟩
/- tl_RCode_countRows_4: l2, l1; out: l1 -/
def tl_RCode_countRows_4 (D : va_G) (I : FieldType → ClassId) (γ el : Nat → Nat → Nat) (F : Nat → va_E) (q0 : Nat) (s1 : Int32) (s2 : Int32) (k : Nat) (e1 : Int32) : Prop := ∀ R : (Int32) → (Int32) → Nat → (Int32) → Prop,
  (∀ (l2_1 : Int32) (l1_1 : Int32) (x1 : Int32), gB l2_1 0 1000000 → fI (F q0) 3 = x1 → x1.toInt ≤ l2_1.toInt → R l2_1 l1_1 32 l1_1) →
  (∀ (l2_1 : Int32) (l1_1 : Int32) (x1 : Int32) (x2 : Nat) (x3 : Nat) (x4 : Int32) (x5 : Nat) (x6 : Int32) (x7 : Int32) (x8 : Int32) (k : Nat) (e1 : Int32), gB l2_1 0 1000000 → fI (F q0) 3 = x1 → l2_1.toInt < x1.toInt → fR (F q0) 0 = x2 → x3 = el x2 l2_1.toInt.toNat → fI (F x2) 2 = x4 → tr_RCode_get l2_1 x4 → fR (F x3) 0 = x5 → x6.toInt = (γ 2 x5 : Int) → fI (F x5) 2 = x6 → x7 = l1_1 + x6 → x8.toInt = l2_1.toInt + 1 → R x8 x7 k e1 → R l2_1 l1_1 k e1) →
  R s1 s2 k e1
/- tr_RCode_countRows: result -/
def tr_RCode_countRows (D : va_G) (I : FieldType → ClassId) (γ el : Nat → Nat → Nat) (F : Nat → va_E) (q0 : Nat) (o1 : Int32) : Prop := ∀ R : (Int32) → Prop,
  (∀ (x1 : Int32), tl_RCode_countRows_4 D I γ el F q0 (0 : Int32) (0 : Int32) 32 x1 → R x1) →
  R o1
abbrev ky_7810_Code_countRows : gKey := (cX13_countRows, 3, "SpillForgeModel$Code", (some FieldType.int), [], "countRows", fun _ _ => True)
def pt_7810_Code_countRows (D : va_G) (I : FieldType → ClassId) (γ el : Nat → Nat → Nat) (P7806 : List Nat) (F7807 : Nat → va_E) (q7808 : Nat) : Option Value → va_W → Nat → Nat → Prop := fun r w dc ds => ∃ (o8775 : Int32), r = some (.int o8775) ∧ w = va_pl P7806 F7807 ∧ dc ≤ 0 ∧ ds ≤ 0 ∧ tr_RCode_countRows D I γ el F7807 q7808 o8775
set_option maxRecDepth 100000 in
set_option maxHeartbeats 4000000 in
theorem ct_7810_Code_countRows (l : Launch) (hl0 : l.stackTraces = false) (D : va_G) (I : FieldType → ClassId) (γ el : Nat → Nat → Nat) (P7806 : List Nat) (F7807 : Nat → va_E) (q7808 : Nat) (hT : RS D I P7806 F7807 γ el) (htq7808 : rKd γ q7808 9) (x7809 : 0 < γ 6 (γ 1 q7808)) : CtA (gV D I) l yX13_countRows cX13_countRows 3 (some FieldType.int) 4 85 0 0 [.ref q7808] (va_pl P7806 F7807) (pt_7810_Code_countRows D I γ el P7806 F7807 q7808) gNA := by
  refine CtA_of hl0 (by decide) (Nat.le_of_ble_eq_true rfl) ?_
  refine G_iconst 0 dr_cX13_countRows_0 (by decide +kernel) ?_
  refine G_istore_n (L' := [(1, .int 0), (0, .ref q7808)]) dr_cX13_countRows_1 (Nat.le_of_ble_eq_true rfl) rfl ?_
  refine G_iconst 0 dr_cX13_countRows_2 (by decide +kernel) ?_
  refine G_istore_n (L' := [(2, .int 0), (1, .int 0), (0, .ref q7808)]) dr_cX13_countRows_3 (Nat.le_of_ble_eq_true rfl) rfl ?_
  have hlp4_8675 : ∀ (n4_8675 : Nat) (g8674 : Int32) (g8675 : Int32), gB g8674 0 1000000 → (∀ (k : Nat) (e1 : Int32), tl_RCode_countRows_4 D I γ el F7807 q7808 g8674 g8675 k e1 → tl_RCode_countRows_4 D I γ el F7807 q7808 (0 : Int32) (0 : Int32) k e1) → ((1000001 : Int) - g8674.toInt).toNat < n4_8675 → G (gV D I) l (gRm 4 85 0 0) (gMA (gV D I) (pt_7810_Code_countRows D I γ el P7806 F7807 q7808) gNA 0 0) ky_7810_Code_countRows 4 [(2, .int g8674), (1, .int g8675), (0, .ref q7808)] [] (va_pl P7806 F7807) 0 0 := by
    intro n4_8675
    induction n4_8675 with
    | zero => intro g8674 g8675 bg8674 kt4_8676 hm4_8675; exact absurd hm4_8675 (Nat.not_lt_zero _)
    | succ n4_8675 ih4_8675 =>
      intro g8674 g8675 bg8674 kt4_8676 hm4_8675
      have bg8675 := gB_any g8675
      refine G_iload_n 0 dr_cX13_countRows_4 rfl ?_
      refine G_aload_n 2 dr_cX13_countRows_5 rfl ?_
      have hm8677 : q7808 ∈ P7806 := RS_m hT htq7808 (by decide)
      obtain ⟨q8679, q8680, p8681, p8682, he8678, ht8698, ht8683, ht8684, ht8685, ht8686, r8687, r8688, r8689, r8690, r8691, r8692, r8693, r8694, r8695, r8696, r8697⟩ := show rk_9 γ el q7808 (F7807 q7808) from RS_o hT htq7808
      have bp8681 : gB p8681 0 1000000 := ⟨by omega, by omega⟩
      have bp8682 : gB p8682 0 1000000 := ⟨by omega, by omega⟩
      have fq8699 : fI (F7807 q7808) 3 = p8682 := by rw [he8678]; rfl
      refine Gp_get 3 hm8677 he8678 dr_cX13_countRows_6 (gk_X13 D I) (Nat.le_of_ble_eq_true rfl) wr_7_33 rfl ?_
      refine G_icmp_ge 32 dr_cX13_countRows_9 (by decide +kernel) (fun hc8700 => ?_) (fun hc8700 => ?_)
      · have r8701 : p8682.toInt ≤ g8674.toInt := gC_le hc8700
        have hx8702 : tl_RCode_countRows_4 D I γ el F7807 q7808 (0 : Int32) (0 : Int32) 32 g8675 := kt4_8676 32 g8675 (fun R c1 c2 => c1 g8674 g8675 p8682 bg8674 fq8699 r8701)
        refine G_iload_n 1 dr_cX13_countRows_32 rfl ?_
        exact G_iretA dr_cX13_countRows_33 rfl (Nat.le_of_ble_eq_true rfl) (Nat.le_of_ble_eq_true rfl) ⟨g8675, rfl, rfl, (Nat.le_of_ble_eq_true rfl), (Nat.le_of_ble_eq_true rfl), (fun R c1 => c1 g8675 hx8702)⟩
      · have r8703 : g8674.toInt < p8682.toInt := gC_nle hc8700
        have bg8674' : gB g8674 0 999999 := ⟨by omega, by omega⟩
        have bp8682' : gB p8682 1 1000000 := ⟨by omega, by omega⟩
        refine G_iload_n 1 dr_cX13_countRows_12 rfl ?_
        refine G_aload_n 2 dr_cX13_countRows_13 rfl ?_
        refine G_iload_n 0 dr_cX13_countRows_14 rfl ?_
        have hm8704 : q8679 ∈ P7806 := RS_m hT ht8683 (by decide)
        obtain ⟨⟨p8706, p8707, q8708, he8705, r8709, r8710, r8711, r8713⟩, r8712⟩ := show rk_4 D I γ el F7807 q8679 from RS_o hT ht8683
        have bp8706 := gB_any p8706
        have bp8707 : gB p8707 0 1000000 := ⟨by omega, by omega⟩
        obtain ⟨r8714, r8715, n8722, f8723, r8716, r8717, r8718, r8719, r8720, r8721⟩ := rLC_n r8711 (by omega)
        have hm8724 : q8708 ∈ P7806 := RS_m hT r8714 (by decide)
        obtain ⟨q8725, hx8726⟩ : ∃ x, x = el q8679 g8674.toInt.toNat := ⟨_, rfl⟩
        have fq8730 : fR (F7807 q7808) 0 = q8679 := by rw [he8678]; rfl
        have hx8727 : f8723 g8674.toNatClampNeg = some q8725 := (r8720 _ (show g8674.toInt.toNat < γ 2 q8679 by omega)).trans (by rw [hx8726])
        have ht8731 : rKd γ q8725 2 := by rw [hx8726]; exact (r8694 _ (by omega)).resolve_right (fun z => absurd z.1 (by omega))
        have ht8732 : rFm γ q8725 q8679 := by rw [hx8726]; exact (r8712 _ (show g8674.toInt.toNat < γ 2 q8679 by omega)).2.1
        have hm8733 : q8725 ∈ P7806 := RS_m hT ht8731 (by decide)
        obtain ⟨q8735, q8736, p8737, p8738, he8734, ht8745, ht8739, ht8740, ht8741, ht8742, ht8743, bp8737, bp8738, r8744, r8746, r8747⟩ := show rk_2 γ q8725 (F7807 q8725) from RS_o hT ht8731
        have fq8748 : fI (F7807 q8679) 2 = p8707 := by rw [he8705]; rfl
        refine Gw_callV (As := [.int g8674]) (gV_ok D I) (cp_7901_Code_get l hl0 D I P7806 F7807 q7808 q8679 q8708 g8674 q8680 p8681 p8682 p8706 p8707 f8723 n8722 q8725 q8735 q8736 p8737 p8738 hm8677 hm8704 hm8724 hm8733 he8678 he8705 r8716 he8734 (gB_w bg8674' (by decide) (by decide)) (gB_w bp8707 (by decide) (by decide)) (by omega) (by omega) (by assumption) (by omega)) dr_cX13_countRows_15 ⟨wr_10_138, wr_1_15, wr_10_141, by decide, rfl, (Nat.le_of_ble_eq_true rfl), (Nat.le_of_ble_eq_true rfl)⟩ wr_10_139 wr_10_140 hm8677 he8678 rfl (show 0 + 0 ≤ 0 by first | omega | decide) (show 0 + 0 ≤ 0 by first | omega | decide) (Nat.le_of_ble_eq_true rfl) (fun r8752 w8753 dc8749 ds8750 hp8751 => ?_) (fun _ _ _ _ _ z => z.elim)
        obtain ⟨rfl, rfl, hdc, hds, ht8754⟩ := hp8751
        change G _ _ _ _ _ _ _ (.ref q8725 :: _) _ _ _
        refine G_widen (cs' := 0) (sl' := 0) (by omega) (by omega) ?_
        have fq8755 : fR (F7807 q8725) 0 = q8735 := by rw [he8734]; rfl
        refine Gp_get 0 hm8733 he8734 dr_cX13_countRows_18 (gk_X12 D I) (Nat.le_of_ble_eq_true rfl) wr_9_219 rfl ?_
        have hm8756 : q8735 ∈ P7806 := RS_m hT ht8739 (by decide)
        obtain ⟨⟨p8758, p8759, q8760, he8757, r8761, r8762, r8763, r8765⟩, r8764⟩ := show rk_3 D I γ el F7807 q8735 from RS_o hT ht8739
        have bp8758 := gB_any p8758
        have bp8759 : gB p8759 0 1000000 := ⟨by omega, by omega⟩
        have fq8766 : p8759.toInt = (γ 2 q8735 : Int) := by omega
        have fq8767 : fI (F7807 q8735) 2 = p8759 := by rw [he8757]; rfl
        refine Gw_callV (As := []) (gV_ok D I) (cp_7_ArrayList_size l hl0 D I P7806 F7807 q8735 p8758 q8760 p8759 hm8756 he8757 (gB_w bp8759 (by decide) (by decide))) dr_cX13_countRows_21 ⟨wr_9_157, wr_1_18, wr_9_160, by decide, rfl, (Nat.le_of_ble_eq_true rfl), (Nat.le_of_ble_eq_true rfl)⟩ wr_9_158 wr_9_159 hm8756 he8757 rfl (show 0 + 0 ≤ 0 by first | omega | decide) (show 0 + 0 ≤ 0 by first | omega | decide) (Nat.le_of_ble_eq_true rfl) (fun r8771 w8772 dc8768 ds8769 hp8770 => ?_) (fun _ _ _ _ _ z => z.elim)
        obtain ⟨rfl, rfl, hdc, hds⟩ := hp8770
        change G _ _ _ _ _ _ _ (.int p8759 :: _) _ _ _
        refine G_widen (cs' := 0) (sl' := 0) (by omega) (by omega) ?_
        refine G_iadd dr_cX13_countRows_24 (G_nam fun z8773 hz8773 => ?_)
        have bz8773 : gB z8773 (-2147483648) 2147483647 := gB_any z8773
        refine G_istore_n (L' := [(1, .int z8773), (2, .int g8674), (0, .ref q7808)]) dr_cX13_countRows_25 (Nat.le_of_ble_eq_true rfl) rfl ?_
        obtain ⟨z8774, hz8774⟩ : ∃ z : Int32, z = g8674 + Int32.ofInt 1 := ⟨_, rfl⟩
        have ez8774 : z8774.toInt = g8674.toInt + 1 := gI_inc hz8774 (by decide) bg8674' (by decide) (by decide)
        have bz8774 : gB z8774 1 1000000 := ⟨by omega, by omega⟩
        refine G_iinc (L' := [(2, .int z8774), (1, .int z8773), (0, .ref q7808)]) z8774 1 dr_cX13_countRows_26 rfl hz8774.symm (Nat.le_of_ble_eq_true rfl) rfl ?_
        refine G_goto 4 dr_cX13_countRows_29 (by decide +kernel) ?_
        exact ih4_8675 z8774 z8773 (gB_w bz8774 (by decide) (by decide)) (fun k e1 ht => kt4_8676 k e1 (fun R c1 c2 => c2 g8674 g8675 p8682 q8679 q8725 p8707 q8735 p8759 z8773 z8774 k e1 bg8674 fq8699 r8703 fq8730 hx8726 fq8748 ht8754 fq8755 fq8766 fq8767 hz8773 ez8774 (ht R c1 c2))) (by omega)
  exact hlp4_8675 (((1000001 : Int) - 0).toNat + 1) 0 0 (gB_w (gBl (show Int32.toInt 0 = 0 by decide)) (by decide) (by decide)) (fun k e1 ht => ht) (Nat.lt_succ_self _)
/- tl_RCode_count_15: l4, l2; out: l2 -/
def tl_RCode_count_15 (D : va_G) (I : FieldType → ClassId) (γ el : Nat → Nat → Nat) (F : Nat → va_E) (q0 : Nat) (l3_1 : Int32) (a1 : Int32) (s1 : Int32) (s2 : Int32) (k : Nat) (e1 : Int32) : Prop := ∀ R : (Int32) → (Int32) → Nat → (Int32) → Prop,
  (∀ (l4_2 : Int32) (l2_2 : Int32) (x1 : Nat) (x2 : Nat) (x3 : Int32) (x4 : Nat) (x5 : Int32), gB l4_2 0 1000000 → fR (F q0) 0 = x1 → x2 = el x1 l3_1.toInt.toNat → fI (F x1) 2 = x3 → tr_RCode_get l3_1 x3 → fR (F x2) 0 = x4 → x5.toInt = (γ 2 x4 : Int) → fI (F x4) 2 = x5 → x5.toInt ≤ l4_2.toInt → R l4_2 l2_2 68 l2_2) →
  (∀ (l4_2 : Int32) (l2_2 : Int32) (x1 : Nat) (x2 : Nat) (x3 : Int32) (x4 : Nat) (x5 : Int32) (x6 : Nat) (x7 : Int32) (x8 : Int32) (x9 : Int32) (k : Nat) (e1 : Int32), gB l4_2 0 1000000 → fR (F q0) 0 = x1 → x2 = el x1 l3_1.toInt.toNat → fI (F x1) 2 = x3 → tr_RCode_get l3_1 x3 → fR (F x2) 0 = x4 → x5.toInt = (γ 2 x4 : Int) → fI (F x4) 2 = x5 → l4_2.toInt < x5.toInt → tr_RCode_get l3_1 x3 → x6 = el x4 l4_2.toInt.toNat → tr_RArrayList_get l4_2 x5 → fI (F x6) 0 = x7 → x7.toInt ≠ a1.toInt → x8.toInt = l2_2.toInt + 0 → x9.toInt = l4_2.toInt + 1 → R x9 x8 k e1 → R l4_2 l2_2 k e1) →
  (∀ (l4_2 : Int32) (l2_2 : Int32) (x1 : Nat) (x2 : Nat) (x3 : Int32) (x4 : Nat) (x5 : Int32) (x6 : Nat) (x7 : Int32) (x8 : Int32) (x9 : Int32) (k : Nat) (e1 : Int32), gB l4_2 0 1000000 → fR (F q0) 0 = x1 → x2 = el x1 l3_1.toInt.toNat → fI (F x1) 2 = x3 → tr_RCode_get l3_1 x3 → fR (F x2) 0 = x4 → x5.toInt = (γ 2 x4 : Int) → fI (F x4) 2 = x5 → l4_2.toInt < x5.toInt → tr_RCode_get l3_1 x3 → x6 = el x4 l4_2.toInt.toNat → tr_RArrayList_get l4_2 x5 → fI (F x6) 0 = x7 → x7.toInt = a1.toInt → x8 = l2_2 + (1 : Int32) → x9.toInt = l4_2.toInt + 1 → R x9 x8 k e1 → R l4_2 l2_2 k e1) →
  R s1 s2 k e1
/- tl_RCode_count_4: l3, l2; out: l2 -/
def tl_RCode_count_4 (D : va_G) (I : FieldType → ClassId) (γ el : Nat → Nat → Nat) (F : Nat → va_E) (q0 : Nat) (a1 : Int32) (s1 : Int32) (s2 : Int32) (k : Nat) (e1 : Int32) : Prop := ∀ R : (Int32) → (Int32) → Nat → (Int32) → Prop,
  (∀ (l3_1 : Int32) (l2_1 : Int32) (x1 : Int32), gB l3_1 0 1000000 → fI (F q0) 3 = x1 → x1.toInt ≤ l3_1.toInt → R l3_1 l2_1 74 l2_1) →
  (∀ (l3_1 : Int32) (l2_1 : Int32) (x1 : Int32) (x2 : Int32) (x3 : Int32) (k : Nat) (e1 : Int32), gB l3_1 0 1000000 → fI (F q0) 3 = x1 → l3_1.toInt < x1.toInt → tl_RCode_count_15 D I γ el F q0 l3_1 a1 (0 : Int32) l2_1 68 x2 → x3.toInt = l3_1.toInt + 1 → R x3 x2 k e1 → R l3_1 l2_1 k e1) →
  R s1 s2 k e1
/- tr_RCode_count: result -/
def tr_RCode_count (D : va_G) (I : FieldType → ClassId) (γ el : Nat → Nat → Nat) (F : Nat → va_E) (q0 : Nat) (a1 : Int32) (o1 : Int32) : Prop := ∀ R : (Int32) → Prop,
  (∀ (x1 : Int32), tl_RCode_count_4 D I γ el F q0 a1 (0 : Int32) (0 : Int32) 74 x1 → R x1) →
  R o1
abbrev ky_8782_Code_count : gKey := (cX13_count, 5, "SpillForgeModel$Code", (some FieldType.int), [], "count", fun _ _ => True)
def pt_8782_Code_count (D : va_G) (I : FieldType → ClassId) (γ el : Nat → Nat → Nat) (P8777 : List Nat) (F8778 : Nat → va_E) (q8779 : Nat) (p8780 : Int32) : Option Value → va_W → Nat → Nat → Prop := fun r w dc ds => ∃ (o12741 : Int32), r = some (.int o12741) ∧ w = va_pl P8777 F8778 ∧ dc ≤ 0 ∧ ds ≤ 0 ∧ tr_RCode_count D I γ el F8778 q8779 p8780 o12741
set_option maxRecDepth 100000 in
set_option maxHeartbeats 4000000 in
theorem ct_8782_Code_count (l : Launch) (hl0 : l.stackTraces = false) (D : va_G) (I : FieldType → ClassId) (γ el : Nat → Nat → Nat) (P8777 : List Nat) (F8778 : Nat → va_E) (q8779 : Nat) (p8780 : Int32) (hT : RS D I P8777 F8778 γ el) (htq8779 : rKd γ q8779 9) (x8781 : 0 < γ 6 (γ 1 q8779)) : CtA (gV D I) l yX13_count cX13_count 5 (some FieldType.int) 4 85 0 0 [.ref q8779, .int p8780] (va_pl P8777 F8778) (pt_8782_Code_count D I γ el P8777 F8778 q8779 p8780) gNA := by
  refine CtA_of hl0 (by decide) (Nat.le_of_ble_eq_true rfl) ?_
  have bp8780 := gB_any p8780
  refine G_iconst 0 dr_cX13_count_0 (by decide +kernel) ?_
  refine G_istore_n (L' := [(2, .int 0), (0, .ref q8779), (1, .int p8780)]) dr_cX13_count_1 (Nat.le_of_ble_eq_true rfl) rfl ?_
  refine G_iconst 0 dr_cX13_count_2 (by decide +kernel) ?_
  refine G_istore_n (L' := [(3, .int 0), (2, .int 0), (0, .ref q8779), (1, .int p8780)]) dr_cX13_count_3 (Nat.le_of_ble_eq_true rfl) rfl ?_
  have hlp4_12466 : ∀ (n4_12466 : Nat) (g12465 : Int32) (g12466 : Int32), gB g12465 0 1000000 → (∀ (k : Nat) (e1 : Int32), tl_RCode_count_4 D I γ el F8778 q8779 p8780 g12465 g12466 k e1 → tl_RCode_count_4 D I γ el F8778 q8779 p8780 (0 : Int32) (0 : Int32) k e1) → ((1000001 : Int) - g12465.toInt).toNat < n4_12466 → G (gV D I) l (gRm 4 85 0 0) (gMA (gV D I) (pt_8782_Code_count D I γ el P8777 F8778 q8779 p8780) gNA 0 0) ky_8782_Code_count 4 [(3, .int g12465), (2, .int g12466), (0, .ref q8779), (1, .int p8780)] [] (va_pl P8777 F8778) 0 0 := by
    intro n4_12466
    induction n4_12466 with
    | zero => intro g12465 g12466 bg12465 kt4_12467 hm4_12466; exact absurd hm4_12466 (Nat.not_lt_zero _)
    | succ n4_12466 ih4_12466 =>
      intro g12465 g12466 bg12465 kt4_12467 hm4_12466
      have bg12466 := gB_any g12466
      refine G_iload_n 0 dr_cX13_count_4 rfl ?_
      refine G_aload_n 2 dr_cX13_count_5 rfl ?_
      have hm12468 : q8779 ∈ P8777 := RS_m hT htq8779 (by decide)
      obtain ⟨q12470, q12471, p12472, p12473, he12469, ht12489, ht12474, ht12475, ht12476, ht12477, r12478, r12479, r12480, r12481, r12482, r12483, r12484, r12485, r12486, r12487, r12488⟩ := show rk_9 γ el q8779 (F8778 q8779) from RS_o hT htq8779
      have bp12472 : gB p12472 0 1000000 := ⟨by omega, by omega⟩
      have bp12473 : gB p12473 0 1000000 := ⟨by omega, by omega⟩
      have fq12490 : fI (F8778 q8779) 3 = p12473 := by rw [he12469]; rfl
      refine Gp_get 3 hm12468 he12469 dr_cX13_count_6 (gk_X13 D I) (Nat.le_of_ble_eq_true rfl) wr_7_33 rfl ?_
      refine G_icmp_ge 74 dr_cX13_count_9 (by decide +kernel) (fun hc12491 => ?_) (fun hc12491 => ?_)
      · have r12492 : p12473.toInt ≤ g12465.toInt := gC_le hc12491
        have hx12493 : tl_RCode_count_4 D I γ el F8778 q8779 p8780 (0 : Int32) (0 : Int32) 74 g12466 := kt4_12467 74 g12466 (fun R c1 c2 => c1 g12465 g12466 p12473 bg12465 fq12490 r12492)
        refine G_iload_n 1 dr_cX13_count_74 rfl ?_
        exact G_iretA dr_cX13_count_75 rfl (Nat.le_of_ble_eq_true rfl) (Nat.le_of_ble_eq_true rfl) ⟨g12466, rfl, rfl, (Nat.le_of_ble_eq_true rfl), (Nat.le_of_ble_eq_true rfl), (fun R c1 => c1 g12466 hx12493)⟩
      · have r12494 : g12465.toInt < p12473.toInt := gC_nle hc12491
        have bg12465' : gB g12465 0 999999 := ⟨by omega, by omega⟩
        have bp12473' : gB p12473 1 1000000 := ⟨by omega, by omega⟩
        refine G_iconst 0 dr_cX13_count_12 (by decide +kernel) ?_
        refine G_istore (L' := [(4, .int 0), (3, .int g12465), (2, .int g12466), (0, .ref q8779), (1, .int p8780)]) dr_cX13_count_13 (Nat.le_of_ble_eq_true rfl) rfl ?_
        have hlp15_12615 : ∀ (n15_12615 : Nat) (g12614 : Int32) (g12615 : Int32), gB g12614 0 1000000 → (∀ (k : Nat) (e1 : Int32), tl_RCode_count_15 D I γ el F8778 q8779 g12465 p8780 g12614 g12615 k e1 → tl_RCode_count_15 D I γ el F8778 q8779 g12465 p8780 (0 : Int32) g12466 k e1) → ((1000001 : Int) - g12614.toInt).toNat < n15_12615 → G (gV D I) l (gRm 4 85 0 0) (gMA (gV D I) (pt_8782_Code_count D I γ el P8777 F8778 q8779 p8780) gNA 0 0) ky_8782_Code_count 15 [(4, .int g12614), (3, .int g12465), (2, .int g12615), (0, .ref q8779), (1, .int p8780)] [] (va_pl P8777 F8778) 0 0 := by
          intro n15_12615
          induction n15_12615 with
          | zero => intro g12614 g12615 bg12614 kt15_12616 hm15_12615; exact absurd hm15_12615 (Nat.not_lt_zero _)
          | succ n15_12615 ih15_12615 =>
            intro g12614 g12615 bg12614 kt15_12616 hm15_12615
            have bg12615 := gB_any g12615
            refine G_iload 0 dr_cX13_count_15 rfl ?_
            refine G_aload_n 3 dr_cX13_count_17 rfl ?_
            refine G_iload_n 1 dr_cX13_count_18 rfl ?_
            have hm12617 : q12470 ∈ P8777 := RS_m hT ht12474 (by decide)
            obtain ⟨⟨p12619, p12620, q12621, he12618, r12622, r12623, r12624, r12626⟩, r12625⟩ := show rk_4 D I γ el F8778 q12470 from RS_o hT ht12474
            have bp12619 := gB_any p12619
            have bp12620 : gB p12620 0 1000000 := ⟨by omega, by omega⟩
            obtain ⟨r12627, r12628, n12635, f12636, r12629, r12630, r12631, r12632, r12633, r12634⟩ := rLC_n r12624 (by omega)
            have hm12637 : q12621 ∈ P8777 := RS_m hT r12627 (by decide)
            obtain ⟨q12638, hx12639⟩ : ∃ x, x = el q12470 g12465.toInt.toNat := ⟨_, rfl⟩
            have fq12643 : fR (F8778 q8779) 0 = q12470 := by rw [he12469]; rfl
            have hx12640 : f12636 g12465.toNatClampNeg = some q12638 := (r12633 _ (show g12465.toInt.toNat < γ 2 q12470 by omega)).trans (by rw [hx12639])
            have ht12644 : rKd γ q12638 2 := by rw [hx12639]; exact (r12485 _ (by omega)).resolve_right (fun z => absurd z.1 (by omega))
            have ht12645 : rFm γ q12638 q12470 := by rw [hx12639]; exact (r12625 _ (show g12465.toInt.toNat < γ 2 q12470 by omega)).2.1
            have hm12646 : q12638 ∈ P8777 := RS_m hT ht12644 (by decide)
            obtain ⟨q12648, q12649, p12650, p12651, he12647, ht12658, ht12652, ht12653, ht12654, ht12655, ht12656, bp12650, bp12651, r12657, r12659, r12660⟩ := show rk_2 γ q12638 (F8778 q12638) from RS_o hT ht12644
            have fq12661 : fI (F8778 q12470) 2 = p12620 := by rw [he12618]; rfl
            refine Gw_callV (As := [.int g12465]) (gV_ok D I) (cp_7901_Code_get l hl0 D I P8777 F8778 q8779 q12470 q12621 g12465 q12471 p12472 p12473 p12619 p12620 f12636 n12635 q12638 q12648 q12649 p12650 p12651 hm12468 hm12617 hm12637 hm12646 he12469 he12618 r12629 he12647 (gB_w bg12465' (by decide) (by decide)) (gB_w bp12620 (by decide) (by decide)) (by omega) (by omega) (by assumption) (by omega)) dr_cX13_count_19 ⟨wr_10_138, wr_1_15, wr_10_141, by decide, rfl, (Nat.le_of_ble_eq_true rfl), (Nat.le_of_ble_eq_true rfl)⟩ wr_10_139 wr_10_140 hm12468 he12469 rfl (show 0 + 0 ≤ 0 by first | omega | decide) (show 0 + 0 ≤ 0 by first | omega | decide) (Nat.le_of_ble_eq_true rfl) (fun r12665 w12666 dc12662 ds12663 hp12664 => ?_) (fun _ _ _ _ _ z => z.elim)
            obtain ⟨rfl, rfl, hdc, hds, ht12667⟩ := hp12664
            change G _ _ _ _ _ _ _ (.ref q12638 :: _) _ _ _
            refine G_widen (cs' := 0) (sl' := 0) (by omega) (by omega) ?_
            have fq12668 : fR (F8778 q12638) 0 = q12648 := by rw [he12647]; rfl
            refine Gp_get 0 hm12646 he12647 dr_cX13_count_22 (gk_X12 D I) (Nat.le_of_ble_eq_true rfl) wr_9_219 rfl ?_
            have hm12669 : q12648 ∈ P8777 := RS_m hT ht12652 (by decide)
            obtain ⟨⟨p12671, p12672, q12673, he12670, r12674, r12675, r12676, r12678⟩, r12677⟩ := show rk_3 D I γ el F8778 q12648 from RS_o hT ht12652
            have bp12671 := gB_any p12671
            have bp12672 : gB p12672 0 1000000 := ⟨by omega, by omega⟩
            have fq12679 : p12672.toInt = (γ 2 q12648 : Int) := by omega
            have fq12680 : fI (F8778 q12648) 2 = p12672 := by rw [he12670]; rfl
            refine Gw_callV (As := []) (gV_ok D I) (cp_7_ArrayList_size l hl0 D I P8777 F8778 q12648 p12671 q12673 p12672 hm12669 he12670 (gB_w bp12672 (by decide) (by decide))) dr_cX13_count_25 ⟨wr_9_157, wr_1_18, wr_9_160, by decide, rfl, (Nat.le_of_ble_eq_true rfl), (Nat.le_of_ble_eq_true rfl)⟩ wr_9_158 wr_9_159 hm12669 he12670 rfl (show 0 + 0 ≤ 0 by first | omega | decide) (show 0 + 0 ≤ 0 by first | omega | decide) (Nat.le_of_ble_eq_true rfl) (fun r12684 w12685 dc12681 ds12682 hp12683 => ?_) (fun _ _ _ _ _ z => z.elim)
            obtain ⟨rfl, rfl, hdc, hds⟩ := hp12683
            change G _ _ _ _ _ _ _ (.int p12672 :: _) _ _ _
            refine G_widen (cs' := 0) (sl' := 0) (by omega) (by omega) ?_
            refine G_icmp_ge 68 dr_cX13_count_28 (by decide +kernel) (fun hc12686 => ?_) (fun hc12686 => ?_)
            · have r12687 : p12672.toInt ≤ g12614.toInt := gC_le hc12686
              have hx12688 : tl_RCode_count_15 D I γ el F8778 q8779 g12465 p8780 (0 : Int32) g12466 68 g12615 := kt15_12616 68 g12615 (fun R c1 c2 c3 => c1 g12614 g12615 q12470 q12638 p12620 q12648 p12672 bg12614 fq12643 hx12639 fq12661 ht12667 fq12668 fq12679 fq12680 r12687)
              obtain ⟨z12689, hz12689⟩ : ∃ z : Int32, z = g12465 + Int32.ofInt 1 := ⟨_, rfl⟩
              have ez12689 : z12689.toInt = g12465.toInt + 1 := gI_inc hz12689 (by decide) bg12465' (by decide) (by decide)
              have bz12689 : gB z12689 1 1000000 := ⟨by omega, by omega⟩
              refine G_iinc (L' := [(3, .int z12689), (4, .int g12614), (2, .int g12615), (0, .ref q8779), (1, .int p8780)]) z12689 1 dr_cX13_count_68 rfl hz12689.symm (Nat.le_of_ble_eq_true rfl) rfl ?_
              refine G_goto 4 dr_cX13_count_71 (by decide +kernel) ?_
              refine G_lv (L' := [(3, .int z12689), (2, .int g12615), (0, .ref q8779), (1, .int p8780)]) [0, 2, 3, 4] rfl ?_
              exact ih4_12466 z12689 g12615 (gB_w bz12689 (by decide) (by decide)) (fun k e1 ht => kt4_12467 k e1 (fun R c1 c2 => c2 g12465 g12466 p12473 g12615 z12689 k e1 bg12465 fq12490 r12494 hx12688 ez12689 (ht R c1 c2))) (by omega)
            · have r12690 : g12614.toInt < p12672.toInt := gC_nle hc12686
              have bg12614' : gB g12614 0 999999 := ⟨by omega, by omega⟩
              have bp12672' : gB p12672 1 1000000 := ⟨by omega, by omega⟩
              refine G_iload_n 2 dr_cX13_count_31 rfl ?_
              refine G_aload_n 3 dr_cX13_count_32 rfl ?_
              refine G_iload_n 1 dr_cX13_count_33 rfl ?_
              refine Gw_callV (As := [.int g12465]) (gV_ok D I) (cp_7901_Code_get l hl0 D I P8777 F8778 q8779 q12470 q12621 g12465 q12471 p12472 p12473 p12619 p12620 f12636 n12635 q12638 q12648 q12649 p12650 p12651 hm12468 hm12617 hm12637 hm12646 he12469 he12618 r12629 he12647 (gB_w bg12465' (by decide) (by decide)) (gB_w bp12620 (by decide) (by decide)) (by omega) (by omega) (by assumption) (by omega)) dr_cX13_count_34 ⟨wr_10_138, wr_1_15, wr_10_141, by decide, rfl, (Nat.le_of_ble_eq_true rfl), (Nat.le_of_ble_eq_true rfl)⟩ wr_10_139 wr_10_140 hm12468 he12469 rfl (show 0 + 0 ≤ 0 by first | omega | decide) (show 0 + 0 ≤ 0 by first | omega | decide) (Nat.le_of_ble_eq_true rfl) (fun r12694 w12695 dc12691 ds12692 hp12693 => ?_) (fun _ _ _ _ _ z => z.elim)
              obtain ⟨rfl, rfl, hdc, hds, ht12696⟩ := hp12693
              change G _ _ _ _ _ _ _ (.ref q12638 :: _) _ _ _
              refine G_widen (cs' := 0) (sl' := 0) (by omega) (by omega) ?_
              refine Gp_get 0 hm12646 he12647 dr_cX13_count_37 (gk_X12 D I) (Nat.le_of_ble_eq_true rfl) wr_9_219 rfl ?_
              refine G_iload 0 dr_cX13_count_40 rfl ?_
              obtain ⟨r12697, r12698, n12705, f12706, r12699, r12700, r12701, r12702, r12703, r12704⟩ := rLC_n r12676 (by omega)
              have hm12707 : q12673 ∈ P8777 := RS_m hT r12697 (by decide)
              obtain ⟨q12708, hx12709⟩ : ∃ x, x = el q12648 g12614.toInt.toNat := ⟨_, rfl⟩
              have hx12710 : f12706 g12614.toNatClampNeg = some q12708 := (r12703 _ (show g12614.toInt.toNat < γ 2 q12648 by omega)).trans (by rw [hx12709])
              have ht12711 : rKd γ q12708 1 := by rw [hx12709]; exact (r12677 _ (show g12614.toInt.toNat < γ 2 q12648 by omega)).1
              have ht12712 : rFm γ q12708 q12648 := by rw [hx12709]; exact (r12677 _ (show g12614.toInt.toNat < γ 2 q12648 by omega)).2.1
              refine Gw_callV (As := [.int g12614]) (gV_ok D I) (cp_22_ArrayList_get l hl0 D I P8777 F8778 q12648 q12673 g12614 p12671 p12672 f12706 n12705 q12708 hm12669 hm12707 he12670 r12699 (gB_w bg12614' (by decide) (by decide)) (gB_w bp12672' (by decide) (by decide)) (by omega) (by omega) (by assumption) (by omega)) dr_cX13_count_42 ⟨wr_10_62, wr_1_18, wr_10_65, by decide, rfl, (Nat.le_of_ble_eq_true rfl), (Nat.le_of_ble_eq_true rfl)⟩ wr_10_63 wr_10_64 hm12669 he12670 rfl (show 0 + 0 ≤ 0 by first | omega | decide) (show 0 + 0 ≤ 0 by first | omega | decide) (Nat.le_of_ble_eq_true rfl) (fun r12716 w12717 dc12713 ds12714 hp12715 => ?_) (fun _ _ _ _ _ z => z.elim)
              obtain ⟨rfl, rfl, hdc, hds, ht12718⟩ := hp12715
              change G _ _ _ _ _ _ _ (.ref q12708 :: _) _ _ _
              refine G_widen (cs' := 0) (sl' := 0) (by omega) (by omega) ?_
              have hm12719 : q12708 ∈ P8777 := RS_m hT ht12711 (by decide)
              obtain ⟨p12721, p12722, p12723, p12724, p12725, p12726, p12727, he12720, bp12721, bp12722, bp12725, bp12726, bp12727, r12728, r12729, r12730, r12731, r12732⟩ := show rk_1 γ q12708 (F8778 q12708) from RS_o hT ht12711
              have bp12723 := gB_any p12723
              have bp12724 := gB_any p12724
              refine Gp_cast hm12719 he12720 rfl dr_cX13_count_45 wr_10_83 (gr_cast 1 rfl) ?_
              have fq12733 : fI (F8778 q12708) 0 = p12721 := by rw [he12720]; rfl
              refine Gp_get 0 hm12719 he12720 dr_cX13_count_48 (gk_X15 D I) (Nat.le_of_ble_eq_true rfl) wr_9_178 rfl ?_
              refine G_iload_n 4 dr_cX13_count_51 rfl ?_
              refine G_icmp_ne 59 dr_cX13_count_52 (by decide +kernel) (fun hc12734 => ?_) (fun hc12734 => ?_)
              · have r12735 : p12721.toInt ≠ p8780.toInt := gC_ne hc12734
                refine G_iconst 0 dr_cX13_count_59 (by decide +kernel) ?_
                refine G_iadd dr_cX13_count_60 (G_nam fun z12736 hz12736 => ?_)
                have ez12736 : z12736.toInt = g12615.toInt + 0 := by rw [gI_add hz12736 bg12615 (gBl (show Int32.toInt 0 = 0 by decide)) (by decide) (by decide), show Int32.toInt 0 = 0 from by decide]
                have bz12736 : gB z12736 (-2147483648) 2147483647 := gB_add (gI_add hz12736 bg12615 (gBl (show Int32.toInt 0 = 0 by decide)) (by decide) (by decide)) bg12615 (gBl (show Int32.toInt 0 = 0 by decide)) (by decide) (by decide)
                refine G_istore_n (L' := [(2, .int z12736), (4, .int g12614), (3, .int g12465), (0, .ref q8779), (1, .int p8780)]) dr_cX13_count_61 (Nat.le_of_ble_eq_true rfl) rfl ?_
                obtain ⟨z12737, hz12737⟩ : ∃ z : Int32, z = g12614 + Int32.ofInt 1 := ⟨_, rfl⟩
                have ez12737 : z12737.toInt = g12614.toInt + 1 := gI_inc hz12737 (by decide) bg12614' (by decide) (by decide)
                have bz12737 : gB z12737 1 1000000 := ⟨by omega, by omega⟩
                refine G_iinc (L' := [(4, .int z12737), (2, .int z12736), (3, .int g12465), (0, .ref q8779), (1, .int p8780)]) z12737 1 dr_cX13_count_62 rfl hz12737.symm (Nat.le_of_ble_eq_true rfl) rfl ?_
                refine G_goto 15 dr_cX13_count_65 (by decide +kernel) ?_
                refine G_lv (L' := [(4, .int z12737), (3, .int g12465), (2, .int z12736), (0, .ref q8779), (1, .int p8780)]) [0, 2, 1, 3, 4] rfl ?_
                exact ih15_12615 z12737 z12736 (gB_w bz12737 (by decide) (by decide)) (fun k e1 ht => kt15_12616 k e1 (fun R c1 c2 c3 => c2 g12614 g12615 q12470 q12638 p12620 q12648 p12672 q12708 p12721 z12736 z12737 k e1 bg12614 fq12643 hx12639 fq12661 ht12667 fq12668 fq12679 fq12680 r12690 ht12696 hx12709 ht12718 fq12733 r12735 ez12736 ez12737 (ht R c1 c2 c3))) (by omega)
              · have r12738 : p12721.toInt = p8780.toInt := gC_eq hc12734
                have bp8780' : gB p8780 0 32 := ⟨by omega, by omega⟩
                refine G_iconst 1 dr_cX13_count_55 (by decide +kernel) ?_
                refine G_goto 60 dr_cX13_count_56 (by decide +kernel) ?_
                refine G_iadd dr_cX13_count_60 (G_nam fun z12739 hz12739 => ?_)
                have bz12739 : gB z12739 (-2147483648) 2147483647 := gB_any z12739
                refine G_istore_n (L' := [(2, .int z12739), (4, .int g12614), (3, .int g12465), (0, .ref q8779), (1, .int p8780)]) dr_cX13_count_61 (Nat.le_of_ble_eq_true rfl) rfl ?_
                obtain ⟨z12740, hz12740⟩ : ∃ z : Int32, z = g12614 + Int32.ofInt 1 := ⟨_, rfl⟩
                have ez12740 : z12740.toInt = g12614.toInt + 1 := gI_inc hz12740 (by decide) bg12614' (by decide) (by decide)
                have bz12740 : gB z12740 1 1000000 := ⟨by omega, by omega⟩
                refine G_iinc (L' := [(4, .int z12740), (2, .int z12739), (3, .int g12465), (0, .ref q8779), (1, .int p8780)]) z12740 1 dr_cX13_count_62 rfl hz12740.symm (Nat.le_of_ble_eq_true rfl) rfl ?_
                refine G_goto 15 dr_cX13_count_65 (by decide +kernel) ?_
                refine G_lv (L' := [(4, .int z12740), (3, .int g12465), (2, .int z12739), (0, .ref q8779), (1, .int p8780)]) [0, 2, 1, 3, 4] rfl ?_
                exact ih15_12615 z12740 z12739 (gB_w bz12740 (by decide) (by decide)) (fun k e1 ht => kt15_12616 k e1 (fun R c1 c2 c3 => c3 g12614 g12615 q12470 q12638 p12620 q12648 p12672 q12708 p12721 z12739 z12740 k e1 bg12614 fq12643 hx12639 fq12661 ht12667 fq12668 fq12679 fq12680 r12690 ht12696 hx12709 ht12718 fq12733 r12738 hz12739 ez12740 (ht R c1 c2 c3))) (by omega)
        exact hlp15_12615 (((1000001 : Int) - 0).toNat + 1) 0 g12466 (gB_w (gBl (show Int32.toInt 0 = 0 by decide)) (by decide) (by decide)) (fun k e1 ht => ht) (Nat.lt_succ_self _)
  exact hlp4_12466 (((1000001 : Int) - 0).toNat + 1) 0 0 (gB_w (gBl (show Int32.toInt 0 = 0 by decide)) (by decide) (by decide)) (fun k e1 ht => ht) (Nat.lt_succ_self _)
end
