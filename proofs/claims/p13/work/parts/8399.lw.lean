section
/-! a literal by the wide form -/
theorem G_ldwK {v : gEnv} {l : Launch} {R : Room} {Qf : gFin} {k : gKey} {pc cs sl i a : Nat} {L : List (Nat × Value)} {st : List Value} {ws : va_W} {tx : String} (d : decode k.1 pc = .ok (.ldc_w i, 3)) (hE : ∀ A s H, v.2.2.2.1 A s H → vk_R k.2.2.1 i tx a s) (n : G v l R Qf k (pc + 3) L (.ref a :: st) ws cs sl) : G v l R Qf k pc L st ws cs sl := fun p e s m args below meth c A H locs ls C hP hD hS h => by
  obtain ⟨h1, h2, h3, h4, h5, h6, h7, h8, h9, h10, h11, h12, h13⟩ := id C
  have hZ := hE _ _ _ h12
  intro T hT X
  obtain ⟨t, s1, s2⟩ := n p e s m args below meth c A H locs ls C hP hD hS h T hT X
  refine ⟨t, ?_, s2⟩
  obtain ⟨kc, cf, j, q, w1, w2, w3, -, w4, w5⟩ := Cond.stringRef_spec h4 (hZ.1 : (Cond.stringRef k.2.2.1 i tx).before args s = true)
  have hq : q = a := by
    have z := w5.symm.trans hZ.2
    cases z
    rfl
  subst hq
  obtain ⟨kd, x1, x2⟩ := X.warmed.alike.2.2 _ _ w1
  have hres : kd.resolved[i]? = some (some (.string q)) := by
    rcases X.warmed.entry w1 x1 i with z | ⟨z, -⟩
    · exact z.trans w4
    · rw [w4] at z; cases z
  have hd : decode c.code (F0 m pc ls st).pc = .ok (.ldc_w i, 3) := by rw [h2]; exact d
  jvm_step X.here [h1, hd, ldc_w.wp_string (e := e) (s := T) (f := F0 m pc ls st) X.here.top x1 (by rw [x2]; exact w2) w3 hres]
  exact s1
end
section
/-! the model's words while a listing is written: the builder and its letters beside the state -/
def sW (F F0 : Nat → va_E) (W : Nat) : Nat → va_E := fun b => if b = W then F0 W else F b
def wdS (D : va_G) (I : FieldType → ClassId) (P0 : List Nat) (F0 : Nat → va_E) (γ el : Nat → Nat → Nat) (W : Nat) (P : List Nat) (F : Nat → va_E) (a n : Nat) (c : Int32) (ws : List Int32) : Prop :=
  rSk 0 [] [28, 29] D I P0 F0 γ el P (sW F F0 W) γ el ∧ (W ∈ P ∧ γ 0 W = 28 ∧ ∃ mb : Int32, F W = .inr (1, [.ref a, .int 0, .int mb, .int c]) ∧ gB mb 0 1) ∧ (a ∈ P ∧ ∃ f : Nat → Int32, F a = .inl (I .byte, n, .inl f) ∧ gF f (-128) 127) ∧ ((γ 0 a = 29 ∧ n = γ 12 a) ∨ γ 0 a = 0) ∧ gB c 0 16777216 ∧ c.toInt ≤ (n : Int) ∧ c.toInt = (ws.length : Int) ∧ lt9 ws (cB (F a))
def wdQ (n : Nat) (c : Int32) (n1 : Nat) (c1 : Int32) (k : Int) (dc ds : Nat) : Prop := c.toInt ≤ c1.toInt ∧ c1.toInt ≤ c.toInt + k ∧ n ≤ n1 ∧ (n1 = n ∨ (n1 : Int) ≤ 2 * c1.toInt + 16) ∧ 2 * dc + n ≤ n1 ∧ ds + 2 * n ≤ 2 * n1
section WDS
variable {D : va_G} {I : FieldType → ClassId} {P P0 P1 : List Nat} {F F0 F1 : Nat → va_E} {γ el : Nat → Nat → Nat} {W a n a1 n1 n2 dc ds dc2 ds2 : Nat} {c c1 c2 mb : Int32} {f1 : Nat → Int32} {k k2 : Int} {ws ws1 : List Int32}
theorem wdQ_t (h : wdQ n c n1 c1 k dc ds) (g : wdQ n1 c1 n2 c2 k2 dc2 ds2) : wdQ n c n2 c2 (k + k2) (dc + dc2) (ds + ds2) := by
  obtain ⟨h1, h2, h3, h4, h5, h6⟩ := h
  obtain ⟨g1, g2, g3, g4, g5, g6⟩ := g
  exact ⟨by omega, by omega, by omega, by omega, by omega, by omega⟩
theorem wdQ_r (hk : 0 ≤ k) : wdQ n c n c k 0 0 := ⟨by omega, by omega, Nat.le_refl _, Or.inl rfl, by omega, by omega⟩
theorem wdQ_w (h : wdQ n c n1 c1 k dc ds) (hk : k ≤ k2) : wdQ n c n1 c1 k2 dc ds := ⟨h.1, by have := h.2.1; omega, h.2.2⟩
theorem sW_ne {b : Nat} (h : b ≠ W) : sW F F0 W b = F b := if_neg h
theorem wdS_1 (h : wdS D I P0 F0 γ el W P F a n c ws) (hfr : ∀ b, b ∈ P → b ≠ a → b ≠ W → F1 b = F b) (e1 : F1 W = .inr (1, [.ref a, .int 0, .int mb, .int c1])) (hb : gB mb 0 1) (e2 : F1 a = .inl (I .byte, n, .inl f1)) (hf : gF f1 (-128) 127) (bc : gB c1 0 16777216) (hc : c1.toInt ≤ (n : Int)) (hn : n ≤ 16777216) (hlen : c1.toInt = (ws1.length : Int)) (hlt : lt9 ws1 f1) : wdS D I P0 F0 γ el W P F1 a n c1 ws1 := by
  obtain ⟨h1, ⟨h2, h3, mb0, h4, h5⟩, ⟨h6, f, h7, h8⟩, h9, h10, h11, hL, hw⟩ := h
  have haW : a ≠ W := rn_ao h7 h4
  refine ⟨?_, ⟨h2, h3, mb, e1, hb⟩, ⟨h6, f1, e2, hf⟩, h9, bc, hc, hlen, by rw [cB_of e2]; exact hlt⟩
  have ea : sW F1 F0 W a = F1 a := sW_ne haW
  refine rSk_ow (W := [a]) h1 rSub_rf (fun b hbP hb => ?_) (wm_c ?_ wm_n) (wm_c ?_ wm_n) (fun _ z => nomatch z)
  · by_cases q : b = W
    · rw [q]; unfold sW; rw [if_pos rfl, if_pos rfl]
    · rw [sW_ne q, sW_ne q]; exact hfr b hbP (fun e => hb (e ▸ List.mem_cons_self)) q
  · rcases h9 with ⟨q1, q2⟩ | q
    · refine Or.inr ⟨by rw [q1]; decide, ?_⟩
      rw [q1]
      exact ⟨n, f1, ea.trans e2, hf, by omega, q2⟩
    · exact Or.inl q
  · rcases h9 with ⟨q1, q2⟩ | q
    · exact Or.inr ⟨by rw [q1]; decide, Or.inr (by omega)⟩
    · exact Or.inl q
theorem wdS_2 (h : wdS D I P0 F0 γ el W P F a n c ws) (hs : rSub P P1) (hfr : ∀ b, b ∈ P → b ≠ W → F1 b = F b) (e1 : F1 W = .inr (1, [.ref a1, .int 0, .int mb, .int c1])) (hb : gB mb 0 1) (m1 : a1 ∈ P1) (hn1 : a1 ∉ P) (e2 : F1 a1 = .inl (I .byte, n1, .inl f1)) (hf : gF f1 (-128) 127) (bc : gB c1 0 16777216) (hc : c1.toInt ≤ (n1 : Int)) (hlen : c1.toInt = (ws1.length : Int)) (hlt : lt9 ws1 f1) : wdS D I P0 F0 γ el W P1 F1 a1 n1 c1 ws1 := by
  obtain ⟨h1, ⟨h2, h3, mb0, h4, h5⟩, ⟨h6, f, h7, h8⟩, h9, h10, h11, hL, hw⟩ := h
  refine ⟨?_, ⟨hs _ h2, h3, mb, e1, hb⟩, ⟨m1, f1, e2, hf⟩, Or.inr (RS_new h1.1 hn1), bc, hc, hlen, by rw [cB_of e2]; exact hlt⟩
  refine rSk_ow (W := []) h1 hs (fun b hbP _ => ?_) wm_n wm_n (fun _ z => nomatch z)
  by_cases q : b = W
  · rw [q]; unfold sW; rw [if_pos rfl, if_pos rfl]
  · rw [sW_ne q, sW_ne q]; exact hfr b hbP q
end WDS
section GWD
variable {l : Launch} {Rm : Room} {Qf : gFin} {ky : gKey} {pc cs sl i : Nat} {L : List (Nat × Value)} {st : List Value} {D : va_G} {I : FieldType → ClassId} {P0 P : List Nat} {F0 F : Nat → va_E} {γ el : Nat → Nat → Nat} {W a n : Nat} {c x : Int32} {ws : List Int32}
theorem Gw_appC (hl0 : l.stackTraces = false) (d : decode ky.1 pc = .ok (.invokevirtual i, 3)) (hw : gCw (gV D I) Rm ky.2.2.1 i yJ4_append_cf468 cJ4_append_cf468 2 (some (FieldType.object "java/lang/StringBuilder")) 5 107 1) (w2 : Cond.instanceMethod yJ4_append_cf468 ∈ (gV D I).2.2.2.2) (w3 : Cond.selects yJ4_append_cf468.cls yJ4_append_cf468 yJ4_append_cf468 ∈ (gV D I).2.2.2.2)
    (h : wdS D I P0 F0 γ el W P F a n c ws) (bx : gB x 0 127) (hn : n ≤ 8000000) (hcs : cs + 1 ≤ Rm.cells) (hsl : sl ≤ Rm.slots) (hsl2 : (n : Int) < c.toInt + 1 → sl + (4 * n + 64) ≤ Rm.slots) (hcat : (st.map fun u => u.category).sum ≤ 8)
    (kk : ∀ P1 F1 a1 n1 c1 dc ds, wdS D I P0 F0 γ el W P1 F1 a1 n1 c1 (ws ++ [x]) → wdQ n c n1 c1 1 dc ds → G (gV D I) l Rm Qf ky (pc + 3) L (.ref W :: st) (va_pl P1 F1) (cs + dc) (sl + ds)) :
    G (gV D I) l Rm Qf ky pc L (.int x :: .ref W :: st) (va_pl P F) cs sl := by
  obtain ⟨h1, ⟨h2, h3, mb, h4, h5⟩, ⟨h6, f, h7, h8⟩, h9, h10, h11, hL, hwl⟩ := id h
  rw [cB_of h7] at hwl
  have hLn : ws.length ≤ n := by omega
  by_cases q : c.toInt < (n : Int)
  · refine Gw_callV (As := [.int x]) (gV_ok D I) (cp_658676_StringBuilder_append l hl0 D I P F W a x mb c f n h2 h6 h4 h7 (gB_w bx (by decide) (by decide)) h5 h10 h8 q (by omega)) d (gCw_mono hw (by decide) (by decide)) w2 w3 h2 h4 rfl (by omega) (by omega) hcat (fun r w dc ds hp => ?_) (fun _ _ _ _ _ z => z.elim)
    obtain ⟨F1, c1, f1, rfl, rfl, hfr, e1, e2, hdc, hds, bc, hf, ec, ht⟩ := hp
    have y := apCr hL hLn bx.1 bx.2 ht
    exact kk P F1 a n c1 dc ds (wdS_1 h (fun b hb ha hW => hfr b hb (by first | exact nm_c ha (nm_c hW nm_n) | exact nm_c hW (nm_c ha nm_n))) e1 h5 e2 hf (gB_w bc (by decide) (by decide)) (by omega) (by omega) (by rw [y.1, List.length_append]) (lt_ap hwl y.2)) ⟨by omega, by omega, by omega, by omega, by omega, by omega⟩
  · have hr := hsl2 (by omega)
    refine Gw_callV (As := [.int x]) (gV_ok D I) (cp_677215_StringBuilder_append l hl0 D I P F W a x mb c f n h2 h6 h4 h7 (gB_w bx (by decide) (by decide)) h5 h10 h8 (by omega) h11 (by omega)) d (gCw_mono hw (by decide) (by decide)) w2 w3 h2 h4 rfl (by omega) (by omega) hcat (fun r w dc ds hp => ?_) (fun _ _ _ _ _ z => z.elim)
    rcases hp with ⟨F1, c1, f1, rfl, rfl, hfr, e1, e2, hdc, hds, bc, hf, ec, t1, -, t2, t3, -, ht⟩ | ⟨P1, F1, c1, a1, n1, f1, rfl, rfl, hs, hfr, e1, e2, m1, m2, hdc, hds, bc, hf, ec, t1, t2, t3, t4, t5, ht⟩
    · have y := apC hL hLn bx.1 bx.2 ht
      exact kk P F1 a n c1 dc ds (wdS_1 h (fun b hb ha hW => hfr b hb (by first | exact nm_c ha (nm_c hW nm_n) | exact nm_c hW (nm_c ha nm_n))) e1 h5 e2 hf (gB_w bc (by decide) (by decide)) (by omega) (by omega) (by rw [y.1, List.length_append]) (lt_ap hwl y.2)) ⟨by omega, by omega, by omega, by omega, by omega, by omega⟩
    · have y := apCg hL hLn bx.1 bx.2 ht
      exact kk P1 F1 a1 n1 c1 dc ds (wdS_2 h hs (fun b hb hW => hfr b hb (nm_c hW nm_n)) e1 h5 m1 m2 e2 hf (gB_w bc (by decide) (by decide)) (by omega) (by rw [y.1, List.length_append]) (lt_ap hwl y.2)) ⟨by omega, by omega, by omega, by omega, by omega, by omega⟩
theorem Gw_appI (hl0 : l.stackTraces = false) (d : decode ky.1 pc = .ok (.invokevirtual i, 3)) (hw : gCw (gV D I) Rm ky.2.2.1 i yJ4_append_bf812 cJ4_append_bf812 2 (some (FieldType.object "java/lang/StringBuilder")) 5 107 1) (w2 : Cond.instanceMethod yJ4_append_bf812 ∈ (gV D I).2.2.2.2) (w3 : Cond.selects yJ4_append_bf812.cls yJ4_append_bf812 yJ4_append_bf812 ∈ (gV D I).2.2.2.2)
    (h : wdS D I P0 F0 γ el W P F a n c ws) (hn : n ≤ 8000000) (hcs : cs + 1 ≤ Rm.cells) (hsl : sl ≤ Rm.slots) (hsl2 : (n : Int) < c.toInt + 11 → sl + (4 * n + 64) ≤ Rm.slots) (hcat : (st.map fun u => u.category).sum ≤ 8)
    (kk : ∀ P1 F1 a1 n1 c1 dc ds, wdS D I P0 F0 γ el W P1 F1 a1 n1 c1 (ws ++ dgI x.toInt) → wdQ n c n1 c1 11 dc ds → G (gV D I) l Rm Qf ky (pc + 3) L (.ref W :: st) (va_pl P1 F1) (cs + dc) (sl + ds)) :
    G (gV D I) l Rm Qf ky pc L (.int x :: .ref W :: st) (va_pl P F) cs sl := by
  obtain ⟨h1, ⟨h2, h3, mb, h4, h5⟩, ⟨h6, f, h7, h8⟩, h9, h10, h11, hL, hwl⟩ := id h
  rw [cB_of h7] at hwl
  have hLn : ws.length ≤ n := by omega
  by_cases q : c.toInt + 11 ≤ (n : Int)
  · refine Gw_callV (As := [.int x]) (gV_ok D I) (cp_677857_StringBuilder_append l hl0 D I P F W a x mb c f n h2 h6 h4 h7 h5 h10 h8 q (by omega)) d (gCw_mono hw (by decide) (by decide)) w2 w3 h2 h4 rfl (by omega) (by omega) hcat (fun r w dc ds hp => ?_) (fun _ _ _ _ _ z => z.elim)
    obtain ⟨F1, c1, f1, rfl, rfl, hfr, e1, e2, hdc, hds, bc, hf, ec, ec2, ht⟩ := hp
    have y := apIr hL hLn ht
    exact kk P F1 a n c1 dc ds (wdS_1 h (fun b hb ha hW => hfr b hb (by first | exact nm_c ha (nm_c hW nm_n) | exact nm_c hW (nm_c ha nm_n))) e1 h5 e2 hf (gB_w bc (by decide) (by decide)) (by omega) (by omega) (by rw [y.1, List.length_append]) (lt_ap hwl y.2)) ⟨by omega, by omega, by omega, by omega, by omega, by omega⟩
  · have hr := hsl2 (by omega)
    refine Gw_callV (As := [.int x]) (gV_ok D I) (cp_677472_StringBuilder_append l hl0 D I P F W a x mb c f n h2 h6 h4 h7 h5 h10 h8 (by omega) h11 (by omega)) d (gCw_mono hw (by decide) (by decide)) w2 w3 h2 h4 rfl (by omega) (by omega) hcat (fun r w dc ds hp => ?_) (fun _ _ _ _ _ z => z.elim)
    rcases hp with ⟨F1, c1, f1, rfl, rfl, hfr, e1, e2, hdc, hds, bc, hf, ec, ec2, t1, -, t2, t3, -, ht⟩ | ⟨P1, F1, c1, a1, n1, f1, rfl, rfl, hs, hfr, e1, e2, m1, m2, hdc, hds, bc, hf, ec, ec2, t1, t2, t3, t4, t5, ht⟩
    · have y := apI hL hLn ht
      exact kk P F1 a n c1 dc ds (wdS_1 h (fun b hb ha hW => hfr b hb (by first | exact nm_c ha (nm_c hW nm_n) | exact nm_c hW (nm_c ha nm_n))) e1 h5 e2 hf (gB_w bc (by decide) (by decide)) (by omega) (by omega) (by rw [y.1, List.length_append]) (lt_ap hwl y.2)) ⟨by omega, by omega, by omega, by omega, by omega, by omega⟩
    · have y := apIg hL hLn ht
      exact kk P1 F1 a1 n1 c1 dc ds (wdS_2 h hs (fun b hb hW => hfr b hb (nm_c hW nm_n)) e1 h5 m1 m2 e2 hf (gB_w bc (by decide) (by decide)) (by omega) (by rw [y.1, List.length_append]) (lt_ap hwl y.2)) ⟨by omega, by omega, by omega, by omega, by omega, by omega⟩
theorem Gw_appS {qs qb : Nat} {bs : List Int32} (hl0 : l.stackTraces = false) (d : decode ky.1 pc = .ok (.invokevirtual i, 3)) (hw : gCw (gV D I) Rm ky.2.2.1 i yJ4_append_15ec4 cJ4_append_15ec4 2 (some (FieldType.object "java/lang/StringBuilder")) 5 107 1) (w2 : Cond.instanceMethod yJ4_append_15ec4 ∈ (gV D I).2.2.2.2) (w3 : Cond.selects yJ4_append_15ec4.cls yJ4_append_15ec4 yJ4_append_15ec4 ∈ (gV D I).2.2.2.2)
    (h : wdS D I P0 F0 γ el W P F a n c ws) (hbs : ∀ A s H, (gV D I).2.2.2.1 A s H → gSC qs qb bs A s H) (nbs : bs.length ≤ 16) (lbs : gLB bs) (hn : n ≤ 8000000) (hcs : cs + 1 ≤ Rm.cells) (hsl : sl ≤ Rm.slots) (hsl2 : (n : Int) < c.toInt + (bs.length : Int) → sl + (4 * n + 64) ≤ Rm.slots) (hcat : (st.map fun u => u.category).sum ≤ 8)
    (kk : ∀ P1 F1 a1 n1 c1 dc ds, wdS D I P0 F0 γ el W P1 F1 a1 n1 c1 (ws ++ bs) → wdQ n c n1 c1 (bs.length : Int) dc ds → G (gV D I) l Rm Qf ky (pc + 3) L (.ref W :: st) (va_pl P1 F1) (cs + dc) (sl + ds)) :
    G (gV D I) l Rm Qf ky pc L (.ref qs :: .ref W :: st) (va_pl P F) cs sl := by
  obtain ⟨h1, ⟨h2, h3, mb, h4, h5⟩, ⟨h6, f, h7, h8⟩, h9, h10, h11, hL, hwl⟩ := id h
  rw [cB_of h7] at hwl
  have hLn : ws.length ≤ n := by omega
  by_cases q : c.toInt + (bs.length : Int) ≤ (n : Int)
  · refine Gw_callV (As := [.ref qs]) (gV_ok D I) (cp_659417_StringBuilder_append l hl0 D I P F W a qs qb bs mb c f n h2 h6 h4 h7 hbs (by omega) lbs h5 h10 h8 q (by omega)) d (gCw_mono hw (by decide) (by decide)) w2 w3 h2 h4 rfl (by omega) (by omega) hcat (fun r w dc ds hp => ?_) (fun _ _ _ _ _ z => z.elim)
    obtain ⟨F1, c1, f1, rfl, rfl, hfr, e1, e2, hdc, hds, bc, hf, ec, -, -, ht⟩ := hp
    have y := apSr hL hLn ht
    exact kk P F1 a n c1 dc ds (wdS_1 h (fun b hb ha hW => hfr b hb (by first | exact nm_c ha (nm_c hW nm_n) | exact nm_c hW (nm_c ha nm_n))) e1 h5 e2 hf bc (by omega) (by omega) (by rw [y.1, List.length_append]) (lt_ap hwl y.2)) ⟨by omega, by omega, by omega, by omega, by omega, by omega⟩
  · have hr := hsl2 (by omega)
    refine Gw_callV (As := [.ref qs]) (gV_ok D I) (cp_677669_StringBuilder_append l hl0 D I P F W a qs qb bs mb c f n h2 h6 h4 h7 hbs (by omega) lbs h5 h10 h8 (by omega) (by omega) h11 (by omega)) d (gCw_mono hw (by decide) (by decide)) w2 w3 h2 h4 rfl (by omega) (by omega) hcat (fun r w dc ds hp => ?_) (fun _ _ _ _ _ z => z.elim)
    rcases hp with ⟨F1, c1, f1, rfl, rfl, hfr, e1, e2, hdc, hds, bc, hf, ec, t1, -, t2, t3, -, ht⟩ | ⟨P1, F1, c1, a1, n1, f1, rfl, rfl, hs, hfr, e1, e2, m1, m2, hdc, hds, bc, hf, ec, t1, t2, t3, t4, t5, ht⟩
    · have y := apS hL hLn ht
      exact kk P F1 a n c1 dc ds (wdS_1 h (fun b hb ha hW => hfr b hb (by first | exact nm_c ha (nm_c hW nm_n) | exact nm_c hW (nm_c ha nm_n))) e1 h5 e2 hf bc (by omega) (by omega) (by rw [y.1, List.length_append]) (lt_ap hwl y.2)) ⟨by omega, by omega, by omega, by omega, by omega, by omega⟩
    · have y := apSg hL hLn ht
      exact kk P1 F1 a1 n1 c1 dc ds (wdS_2 h hs (fun b hb hW => hfr b hb (nm_c hW nm_n)) e1 h5 m1 m2 e2 hf bc (by omega) (by rw [y.1, List.length_append]) (lt_ap hwl y.2)) ⟨by omega, by omega, by omega, by omega, by omega, by omega⟩
end GWD
/-- room for a listing of at most C letters -/
def rmW (mc ms n C : Nat) : Prop := 2 * C + 18 ≤ 2 * mc + n ∧ 1 ≤ mc ∧ 6 * C + 200 ≤ ms + 2 * n ∧ C ≤ 2000000 ∧ n ≤ 8000000
section RMW
variable {mc ms n0 n C cs sl : Nat} {c0 c : Int32} {K k : Int}
theorem rmW_n (hr : rmW mc ms n0 C) (q : wdQ n0 c0 n c K cs sl) (hC : c0.toInt + (K + k) ≤ (C : Int)) (hk : 0 ≤ k) : n ≤ 8000000 := by
  obtain ⟨h1, h2, h3, h4, h5⟩ := hr
  obtain ⟨q1, q2, q3, q4, q5, q6⟩ := q
  omega
theorem rmW_1 (hr : rmW mc ms n0 C) (q : wdQ n0 c0 n c K cs sl) (hC : c0.toInt + (K + k) ≤ (C : Int)) (hk : 0 ≤ k) : cs + 1 ≤ mc := by
  obtain ⟨h1, h2, h3, h4, h5⟩ := hr
  obtain ⟨q1, q2, q3, q4, q5, q6⟩ := q
  omega
theorem rmW_2 (hr : rmW mc ms n0 C) (q : wdQ n0 c0 n c K cs sl) (hC : c0.toInt + (K + k) ≤ (C : Int)) (hk : 0 ≤ k) : sl ≤ ms := by
  obtain ⟨h1, h2, h3, h4, h5⟩ := hr
  obtain ⟨q1, q2, q3, q4, q5, q6⟩ := q
  omega
theorem rmW_3 (hr : rmW mc ms n0 C) (q : wdQ n0 c0 n c K cs sl) (hC : c0.toInt + (K + k) ≤ (C : Int)) : (n : Int) < c.toInt + k → sl + (4 * n + 64) ≤ ms := fun h => by
  obtain ⟨h1, h2, h3, h4, h5⟩ := hr
  obtain ⟨q1, q2, q3, q4, q5, q6⟩ := q
  omega
/-- what is left of the room -/
theorem rmW_s (hr : rmW mc ms n0 C) (q : wdQ n0 c0 n c K cs sl) (hC : c0.toInt + (K + k) ≤ (C : Int)) (hk : 0 ≤ k) : rmW (mc - cs) (ms - sl) n C ∧ cs + (mc - cs) ≤ mc ∧ sl + (ms - sl) ≤ ms := by
  have a1 := rmW_1 hr q hC hk
  have a2 := rmW_2 hr q hC hk
  have a3 := rmW_n hr q hC hk
  obtain ⟨h1, h2, h3, h4, h5⟩ := hr
  obtain ⟨q1, q2, q3, q4, q5, q6⟩ := q
  exact ⟨⟨by omega, by omega, by omega, h4, a3⟩, by omega, by omega⟩
end RMW
section WDF
variable {D : va_G} {I : FieldType → ClassId} {P P0 : List Nat} {F F0 : Nat → va_E} {γ el : Nat → Nat → Nat} {W a n b k : Nat} {c : Int32} {ws : List Int32}
/-- cells of other kinds are as they were -/
theorem wdS_F (h : wdS D I P0 F0 γ el W P F a n c ws) (hb : γ 0 b = k) (h0 : k ≠ 0) (h1 : k ≠ 28) (h2 : k ≠ 29) : b ∈ P ∧ F b = F0 b := by
  have hW := h.2.1.2.1
  have hbW : b ≠ W := fun e => h1 (by rw [← hb, e]; exact hW)
  refine ⟨h.1.1.1 b (by rw [hb]; exact h0), ?_⟩
  have e := rSk_F h.1 (show rKd γ b k from hb) h0 (fun z => by
    rcases List.mem_cons.mp z with z | z
    · exact h1 z
    · rcases List.mem_cons.mp z with z | z
      · exact h2 z
      · cases z)
  rw [sW_ne hbW] at e
  exact e
end WDF
def wdP (D : va_G) (I : FieldType → ClassId) (P0 : List Nat) (F0 : Nat → va_E) (γ el : Nat → Nat → Nat) (W n : Nat) (c : Int32) (k : Int) (T : List Int32) : Option Value → va_W → Nat → Nat → Prop := fun r w dc ds => ∃ (P1 : List Nat) (F1 : Nat → va_E) (a1 n1 : Nat) (c1 : Int32), r = none ∧ w = va_pl P1 F1 ∧ wdS D I P0 F0 γ el W P1 F1 a1 n1 c1 T ∧ wdQ n c n1 c1 k dc ds
theorem wdQ_c {n0 n cs sl C : Nat} {c0 c : Int32} {K k : Int} (q : wdQ n0 c0 n c K cs sl) (hC : c0.toInt + (K + k) ≤ (C : Int)) : c.toInt + k ≤ (C : Int) := by
  have := q.2.1
  omega
/-! the letters of a row, of an end, of a program, in the reference's own terms -/
def zrO (rg x : Int32) : List Int32 := if rg = 0 then dgI x.toInt else 118 :: dgI x.toInt
/-- where a sign lies, how long it is -/
def zqP (o : Int) : Nat := if o ≤ 9 then (2 * o - 1).toNat else if o = 10 then 20 else if o = 11 then 23 else if o = 12 then 25 else if o = 13 then 28 else 31
def zqE (o : Int) : Nat := if o ≤ 8 ∨ o = 11 then 1 else 2
def zrS (o : Int) : List Int32 := sgm sb_42 (zqP o) (zqE o)
def zqB (op rb xb : Int32) : List Int32 := if 0 < op.toInt ∧ op.toInt < 20 then (([32] ++ zrS op.toInt) ++ [32]) ++ zrO rb xb else []
def zrA (op xa s ra : Int32) : List Int32 := if op = 20 then sb_57 else if op = 21 then sb_55 ++ dgI s.toInt else zrO ra xa
def zrH (op t s : Int32) : List Int32 := if op = 22 then sb_54 else if op = 23 then (sb_55 ++ dgI s.toInt) ++ sb_56 else ([118] ++ dgI t.toInt) ++ sb_56
def zrL (op t xa xb s ra rb : Int32) : List Int32 := zrH op t s ++ (zrA op xa s ra ++ (zqB op rb xb ++ [10]))
def zrJ (op : Int32) : List Int32 := if op = 30 then sb_58 else if op = 31 then sb_59 else sb_60
def zrK (op xa ra : Int32) : List Int32 := if op = 30 then [] else zrO ra xa
def zrM (op fi : Int32) : List Int32 := if op = 32 then [] else sb_61 ++ dgI fi.toInt
def zrN (op se : Int32) : List Int32 := if op = 31 then sb_61 ++ dgI se.toInt else []
def zrE (op xa ra fi se : Int32) : List Int32 := zrJ op ++ (zrK op xa ra ++ (zrM op fi ++ (zrN op se ++ [10])))
/-- a row's cell, an end's cell -/
def zlW (e : va_E) : List Int32 := zrL (fI e 0) (fI e 1) (fI e 2) (fI e 3) (fI e 4) (fI e 5) (fI e 6)
def zlV (e : va_E) (fi se : Int32) : List Int32 := zrE (fI e 0) (fI e 2) (fI e 5) fi se
def zrR (el : Nat → Nat → Nat) (F : Nat → va_E) (l : Nat) : Nat → List Int32
  | 0 => []
  | j + 1 => zrR el F l j ++ zlW (F (el l j))
def zrC (γ el : Nat → Nat → Nat) (F : Nat → va_E) (b k : Nat) : List Int32 := ((([98] ++ dgI (k : Int)) ++ [58]) ++ [10]) ++ (zrR el F (γ 14 b) (γ 2 (γ 14 b)) ++ zlV (F (γ 15 b)) (fI (F b) 2) (fI (F b) 3))
def zrP (γ el : Nat → Nat → Nat) (F : Nat → va_E) (cc : Nat) : Nat → List Int32
  | 0 => []
  | k + 1 => zrP γ el F cc k ++ zrC γ el F (el (γ 14 cc) k) k
end
section
theorem dr_cX17_operand_14 : decode cX17_operand 14 = .ok (.aload_n 0, 1) := by decide +kernel
theorem dr_cX17_operand_15 : decode cX17_operand 15 = .ok (.getfield 316, 3) := by decide +kernel
theorem wr_7_103 : (Jvm.Cond.fieldLink "SpillForgeModel" (316 : Nat) "SpillForgeModel" "words" "Ljava/lang/StringBuilder;") ∈ gw := gw_7 103 rfl rfl
theorem dr_cX17_operand_18 : decode cX17_operand 18 = .ok (.iload_n 2, 1) := by decide +kernel
theorem dr_cX17_operand_19 : decode cX17_operand 19 = .ok (.invokevirtual 323, 3) := by decide +kernel
theorem wr_11_187 : (Jvm.Cond.methodLink "SpillForgeModel" (323 : Nat) ({ cls := "java/lang/StringBuilder", name := "append", desc := "(I)Ljava/lang/StringBuilder;" } : Jvm.MethodName)) ∈ gw := gw_11 187 rfl rfl
theorem wr_8_108 : (Jvm.Cond.code ({ cls := "java/lang/StringBuilder", name := "append", desc := "(I)Ljava/lang/StringBuilder;" } : Jvm.MethodName) prog_35_method_15_code (2 : Nat) (Option.some (Jvm.ClassFile.FieldType.object "java/lang/StringBuilder"))) ∈ gw := gw_8 108 rfl rfl
theorem wr_8_106 : (Jvm.Cond.instanceMethod ({ cls := "java/lang/StringBuilder", name := "append", desc := "(I)Ljava/lang/StringBuilder;" } : Jvm.MethodName)) ∈ gw := gw_8 106 rfl rfl
theorem wr_8_107 : (Jvm.Cond.selects "java/lang/StringBuilder" ({ cls := "java/lang/StringBuilder", name := "append", desc := "(I)Ljava/lang/StringBuilder;" } : Jvm.MethodName) ({ cls := "java/lang/StringBuilder", name := "append", desc := "(I)Ljava/lang/StringBuilder;" } : Jvm.MethodName)) ∈ gw := gw_8 107 rfl rfl
theorem dr_cX17_operand_22 : decode cX17_operand 22 = .ok (.pop, 1) := by decide +kernel
theorem dr_cX17_operand_23 : decode cX17_operand 23 = .ok (.return_, 1) := by decide +kernel
theorem dr_cX17_operand_0 : decode cX17_operand 0 = .ok (.iload_n 1, 1) := by decide +kernel
theorem dr_cX17_operand_1 : decode cX17_operand 1 = .ok (.ifCond .eq 13, 3) := by decide +kernel
theorem dr_cX17_operand_4 : decode cX17_operand 4 = .ok (.aload_n 0, 1) := by decide +kernel
theorem dr_cX17_operand_5 : decode cX17_operand 5 = .ok (.getfield 316, 3) := by decide +kernel
theorem dr_cX17_operand_8 : decode cX17_operand 8 = .ok (.bipush 118, 2) := by decide +kernel
theorem dr_cX17_operand_10 : decode cX17_operand 10 = .ok (.invokevirtual 320, 3) := by decide +kernel
theorem wr_11_186 : (Jvm.Cond.methodLink "SpillForgeModel" (320 : Nat) ({ cls := "java/lang/StringBuilder", name := "append", desc := "(C)Ljava/lang/StringBuilder;" } : Jvm.MethodName)) ∈ gw := gw_11 186 rfl rfl
theorem dr_cX17_operand_13 : decode cX17_operand 13 = .ok (.pop, 1) := by decide +kernel
theorem dr_cX17_sign_60 : decode cX17_sign 60 = .ok (.return_, 1) := by decide +kernel
theorem dr_cX17_sign_29 : decode cX17_sign 29 = .ok (.ldc 3, 2) := by decide +kernel
theorem dr_cX17_sign_31 : decode cX17_sign 31 = .ok (.iload_n 2, 1) := by decide +kernel
theorem dr_cX17_sign_32 : decode cX17_sign 32 = .ok (.invokevirtual 27, 3) := by decide +kernel
theorem dr_cX17_sign_35 : decode cX17_sign 35 = .ok (.bipush 32, 2) := by decide +kernel
theorem dr_cX17_sign_37 : decode cX17_sign 37 = .ok (.if_icmp .eq 23, 3) := by decide +kernel
theorem dr_cX17_sign_40 : decode cX17_sign 40 = .ok (.aload_n 0, 1) := by decide +kernel
theorem dr_cX17_sign_41 : decode cX17_sign 41 = .ok (.getfield 316, 3) := by decide +kernel
theorem dr_cX17_sign_44 : decode cX17_sign 44 = .ok (.ldc 3, 2) := by decide +kernel
theorem dr_cX17_sign_46 : decode cX17_sign 46 = .ok (.iload_n 2, 1) := by decide +kernel
theorem dr_cX17_sign_47 : decode cX17_sign 47 = .ok (.invokevirtual 27, 3) := by decide +kernel
theorem dr_cX17_sign_50 : decode cX17_sign 50 = .ok (.invokevirtual 320, 3) := by decide +kernel
theorem dr_cX17_sign_53 : decode cX17_sign 53 = .ok (.pop, 1) := by decide +kernel
theorem dr_cX17_sign_54 : decode cX17_sign 54 = .ok (.iinc 2 1, 3) := by decide +kernel
theorem dr_cX17_sign_57 : decode cX17_sign 57 = .ok (.goto (-28), 3) := by decide +kernel
theorem dr_cX17_sign_4 : decode cX17_sign 4 = .ok (.iload_n 3, 1) := by decide +kernel
theorem dr_cX17_sign_5 : decode cX17_sign 5 = .ok (.iload_n 1, 1) := by decide +kernel
theorem dr_cX17_sign_6 : decode cX17_sign 6 = .ok (.if_icmp .gt 23, 3) := by decide +kernel
theorem dr_cX17_sign_9 : decode cX17_sign 9 = .ok (.ldc 3, 2) := by decide +kernel
theorem dr_cX17_sign_11 : decode cX17_sign 11 = .ok (.iload_n 2, 1) := by decide +kernel
theorem dr_cX17_sign_12 : decode cX17_sign 12 = .ok (.invokevirtual 27, 3) := by decide +kernel
theorem dr_cX17_sign_15 : decode cX17_sign 15 = .ok (.bipush 32, 2) := by decide +kernel
theorem dr_cX17_sign_23 : decode cX17_sign 23 = .ok (.iinc 2 1, 3) := by decide +kernel
theorem dr_cX17_sign_26 : decode cX17_sign 26 = .ok (.goto (-22), 3) := by decide +kernel
theorem dr_cX17_sign_17 : decode cX17_sign 17 = .ok (.if_icmp .ne 6, 3) := by decide +kernel
theorem dr_cX17_sign_20 : decode cX17_sign 20 = .ok (.iinc 3 1, 3) := by decide +kernel
theorem dr_cX17_sign_0 : decode cX17_sign 0 = .ok (.iconst 0, 1) := by decide +kernel
theorem dr_cX17_sign_1 : decode cX17_sign 1 = .ok (.istore_n 2, 1) := by decide +kernel
theorem dr_cX17_sign_2 : decode cX17_sign 2 = .ok (.iconst 1, 1) := by decide +kernel
theorem dr_cX17_sign_3 : decode cX17_sign 3 = .ok (.istore_n 3, 1) := by decide +kernel
theorem dr_cX17_list__203 : decode cX17_list_ 203 = .ok (.aload_n 0, 1) := by decide +kernel
theorem dr_cX17_list__204 : decode cX17_list_ 204 = .ok (.getfield 316, 3) := by decide +kernel
theorem dr_cX17_list__207 : decode cX17_list_ 207 = .ok (.bipush 10, 2) := by decide +kernel
theorem dr_cX17_list__209 : decode cX17_list_ 209 = .ok (.invokevirtual 320, 3) := by decide +kernel
theorem dr_cX17_list__212 : decode cX17_list_ 212 = .ok (.pop, 1) := by decide +kernel
theorem dr_cX17_list__213 : decode cX17_list_ 213 = .ok (.return_, 1) := by decide +kernel
theorem dr_cX17_list__147 : decode cX17_list_ 147 = .ok (.aload_n 1, 1) := by decide +kernel
theorem dr_cX17_list__148 : decode cX17_list_ 148 = .ok (.getfield 39, 3) := by decide +kernel
theorem dr_cX17_list__151 : decode cX17_list_ 151 = .ok (.ifCond .le 52, 3) := by decide +kernel
theorem dr_cX17_list__154 : decode cX17_list_ 154 = .ok (.aload_n 1, 1) := by decide +kernel
theorem dr_cX17_list__155 : decode cX17_list_ 155 = .ok (.getfield 39, 3) := by decide +kernel
theorem dr_cX17_list__158 : decode cX17_list_ 158 = .ok (.bipush 20, 2) := by decide +kernel
theorem dr_cX17_list__160 : decode cX17_list_ 160 = .ok (.if_icmp .ge 43, 3) := by decide +kernel
theorem dr_cX17_list__163 : decode cX17_list_ 163 = .ok (.aload_n 0, 1) := by decide +kernel
theorem dr_cX17_list__164 : decode cX17_list_ 164 = .ok (.getfield 316, 3) := by decide +kernel
theorem dr_cX17_list__167 : decode cX17_list_ 167 = .ok (.bipush 32, 2) := by decide +kernel
theorem dr_cX17_list__169 : decode cX17_list_ 169 = .ok (.invokevirtual 320, 3) := by decide +kernel
theorem dr_cX17_list__172 : decode cX17_list_ 172 = .ok (.pop, 1) := by decide +kernel
theorem dr_cX17_list__173 : decode cX17_list_ 173 = .ok (.aload_n 0, 1) := by decide +kernel
theorem dr_cX17_list__174 : decode cX17_list_ 174 = .ok (.aload_n 1, 1) := by decide +kernel
theorem dr_cX17_list__175 : decode cX17_list_ 175 = .ok (.getfield 39, 3) := by decide +kernel
theorem dr_cX17_list__178 : decode cX17_list_ 178 = .ok (.invokevirtual 353, 3) := by decide +kernel
theorem wr_11_200 : (Jvm.Cond.methodLink "SpillForgeModel" (353 : Nat) ({ cls := "SpillForgeModel", name := "sign", desc := "(I)V" } : Jvm.MethodName)) ∈ gw := gw_11 200 rfl rfl
theorem wr_11_203 : (Jvm.Cond.code ({ cls := "SpillForgeModel", name := "sign", desc := "(I)V" } : Jvm.MethodName) prog_14_method_34_code (4 : Nat) (Option.none : Option Jvm.ClassFile.FieldType)) ∈ gw := gw_11 203 rfl rfl
theorem wr_11_202 : (Jvm.Cond.instanceMethod ({ cls := "SpillForgeModel", name := "sign", desc := "(I)V" } : Jvm.MethodName)) ∈ gw := gw_11 202 rfl rfl
theorem wr_p_119 : Cond.selects "SpillForgeModel" ⟨"SpillForgeModel", "sign", "(I)V"⟩ ⟨"SpillForgeModel", "sign", "(I)V"⟩ ∈ gw := gw_p _ 119 rfl rfl rfl
theorem dr_cX17_list__181 : decode cX17_list_ 181 = .ok (.aload_n 0, 1) := by decide +kernel
theorem dr_cX17_list__182 : decode cX17_list_ 182 = .ok (.getfield 316, 3) := by decide +kernel
theorem dr_cX17_list__185 : decode cX17_list_ 185 = .ok (.bipush 32, 2) := by decide +kernel
theorem dr_cX17_list__187 : decode cX17_list_ 187 = .ok (.invokevirtual 320, 3) := by decide +kernel
theorem dr_cX17_list__190 : decode cX17_list_ 190 = .ok (.pop, 1) := by decide +kernel
theorem dr_cX17_list__191 : decode cX17_list_ 191 = .ok (.aload_n 0, 1) := by decide +kernel
theorem dr_cX17_list__192 : decode cX17_list_ 192 = .ok (.aload_n 1, 1) := by decide +kernel
theorem dr_cX17_list__193 : decode cX17_list_ 193 = .ok (.getfield 309, 3) := by decide +kernel
theorem dr_cX17_list__196 : decode cX17_list_ 196 = .ok (.aload_n 1, 1) := by decide +kernel
theorem dr_cX17_list__197 : decode cX17_list_ 197 = .ok (.getfield 79, 3) := by decide +kernel
theorem dr_cX17_list__200 : decode cX17_list_ 200 = .ok (.invokevirtual 339, 3) := by decide +kernel
theorem wr_11_196 : (Jvm.Cond.methodLink "SpillForgeModel" (339 : Nat) ({ cls := "SpillForgeModel", name := "operand", desc := "(ZI)V" } : Jvm.MethodName)) ∈ gw := gw_11 196 rfl rfl
theorem wr_11_199 : (Jvm.Cond.code ({ cls := "SpillForgeModel", name := "operand", desc := "(ZI)V" } : Jvm.MethodName) prog_14_method_31_code (3 : Nat) (Option.none : Option Jvm.ClassFile.FieldType)) ∈ gw := gw_11 199 rfl rfl
theorem wr_11_198 : (Jvm.Cond.instanceMethod ({ cls := "SpillForgeModel", name := "operand", desc := "(ZI)V" } : Jvm.MethodName)) ∈ gw := gw_11 198 rfl rfl
theorem wr_p_118 : Cond.selects "SpillForgeModel" ⟨"SpillForgeModel", "operand", "(ZI)V"⟩ ⟨"SpillForgeModel", "operand", "(ZI)V"⟩ ∈ gw := gw_p _ 118 rfl rfl rfl
theorem dr_cX17_list__82 : decode cX17_list_ 82 = .ok (.aload_n 1, 1) := by decide +kernel
theorem dr_cX17_list__83 : decode cX17_list_ 83 = .ok (.getfield 39, 3) := by decide +kernel
theorem dr_cX17_list__86 : decode cX17_list_ 86 = .ok (.bipush 20, 2) := by decide +kernel
theorem dr_cX17_list__88 : decode cX17_list_ 88 = .ok (.if_icmp .ne 17, 3) := by decide +kernel
theorem dr_cX17_list__105 : decode cX17_list_ 105 = .ok (.aload_n 1, 1) := by decide +kernel
theorem dr_cX17_list__106 : decode cX17_list_ 106 = .ok (.getfield 39, 3) := by decide +kernel
theorem dr_cX17_list__109 : decode cX17_list_ 109 = .ok (.bipush 21, 2) := by decide +kernel
theorem dr_cX17_list__111 : decode cX17_list_ 111 = .ok (.if_icmp .ne 24, 3) := by decide +kernel
theorem dr_cX17_list__135 : decode cX17_list_ 135 = .ok (.aload_n 0, 1) := by decide +kernel
theorem dr_cX17_list__136 : decode cX17_list_ 136 = .ok (.aload_n 1, 1) := by decide +kernel
theorem dr_cX17_list__137 : decode cX17_list_ 137 = .ok (.getfield 141, 3) := by decide +kernel
theorem dr_cX17_list__140 : decode cX17_list_ 140 = .ok (.aload_n 1, 1) := by decide +kernel
theorem dr_cX17_list__141 : decode cX17_list_ 141 = .ok (.getfield 73, 3) := by decide +kernel
theorem dr_cX17_list__144 : decode cX17_list_ 144 = .ok (.invokevirtual 339, 3) := by decide +kernel
theorem dr_cX17_list__114 : decode cX17_list_ 114 = .ok (.aload_n 0, 1) := by decide +kernel
theorem dr_cX17_list__115 : decode cX17_list_ 115 = .ok (.getfield 316, 3) := by decide +kernel
theorem dr_cX17_list__118 : decode cX17_list_ 118 = .ok (.ldc_w 347, 3) := by decide +kernel
theorem dr_cX17_list__121 : decode cX17_list_ 121 = .ok (.invokevirtual 13, 3) := by decide +kernel
theorem dr_cX17_list__124 : decode cX17_list_ 124 = .ok (.aload_n 1, 1) := by decide +kernel
theorem dr_cX17_list__125 : decode cX17_list_ 125 = .ok (.getfield 45, 3) := by decide +kernel
theorem dr_cX17_list__128 : decode cX17_list_ 128 = .ok (.invokevirtual 323, 3) := by decide +kernel
theorem dr_cX17_list__131 : decode cX17_list_ 131 = .ok (.pop, 1) := by decide +kernel
theorem dr_cX17_list__132 : decode cX17_list_ 132 = .ok (.goto 15, 3) := by decide +kernel
theorem dr_cX17_list__91 : decode cX17_list_ 91 = .ok (.aload_n 0, 1) := by decide +kernel
theorem dr_cX17_list__92 : decode cX17_list_ 92 = .ok (.getfield 316, 3) := by decide +kernel
theorem dr_cX17_list__95 : decode cX17_list_ 95 = .ok (.ldc_w 351, 3) := by decide +kernel
theorem dr_cX17_list__98 : decode cX17_list_ 98 = .ok (.invokevirtual 13, 3) := by decide +kernel
theorem dr_cX17_list__101 : decode cX17_list_ 101 = .ok (.pop, 1) := by decide +kernel
theorem dr_cX17_list__102 : decode cX17_list_ 102 = .ok (.goto 45, 3) := by decide +kernel
theorem dr_cX17_list__0 : decode cX17_list_ 0 = .ok (.aload_n 1, 1) := by decide +kernel
theorem dr_cX17_list__1 : decode cX17_list_ 1 = .ok (.getfield 39, 3) := by decide +kernel
theorem dr_cX17_list__4 : decode cX17_list_ 4 = .ok (.bipush 22, 2) := by decide +kernel
theorem dr_cX17_list__6 : decode cX17_list_ 6 = .ok (.if_icmp .ne 17, 3) := by decide +kernel
theorem dr_cX17_list__23 : decode cX17_list_ 23 = .ok (.aload_n 1, 1) := by decide +kernel
theorem dr_cX17_list__24 : decode cX17_list_ 24 = .ok (.getfield 39, 3) := by decide +kernel
theorem dr_cX17_list__27 : decode cX17_list_ 27 = .ok (.bipush 23, 2) := by decide +kernel
theorem dr_cX17_list__29 : decode cX17_list_ 29 = .ok (.if_icmp .ne 30, 3) := by decide +kernel
theorem dr_cX17_list__59 : decode cX17_list_ 59 = .ok (.aload_n 0, 1) := by decide +kernel
theorem dr_cX17_list__60 : decode cX17_list_ 60 = .ok (.getfield 316, 3) := by decide +kernel
theorem dr_cX17_list__63 : decode cX17_list_ 63 = .ok (.bipush 118, 2) := by decide +kernel
theorem dr_cX17_list__65 : decode cX17_list_ 65 = .ok (.invokevirtual 320, 3) := by decide +kernel
theorem dr_cX17_list__68 : decode cX17_list_ 68 = .ok (.aload_n 1, 1) := by decide +kernel
theorem dr_cX17_list__69 : decode cX17_list_ 69 = .ok (.getfield 52, 3) := by decide +kernel
theorem dr_cX17_list__72 : decode cX17_list_ 72 = .ok (.invokevirtual 323, 3) := by decide +kernel
theorem dr_cX17_list__75 : decode cX17_list_ 75 = .ok (.ldc_w 349, 3) := by decide +kernel
theorem dr_cX17_list__78 : decode cX17_list_ 78 = .ok (.invokevirtual 13, 3) := by decide +kernel
theorem dr_cX17_list__81 : decode cX17_list_ 81 = .ok (.pop, 1) := by decide +kernel
theorem dr_cX17_list__32 : decode cX17_list_ 32 = .ok (.aload_n 0, 1) := by decide +kernel
theorem dr_cX17_list__33 : decode cX17_list_ 33 = .ok (.getfield 316, 3) := by decide +kernel
theorem dr_cX17_list__36 : decode cX17_list_ 36 = .ok (.ldc_w 347, 3) := by decide +kernel
theorem dr_cX17_list__39 : decode cX17_list_ 39 = .ok (.invokevirtual 13, 3) := by decide +kernel
theorem dr_cX17_list__42 : decode cX17_list_ 42 = .ok (.aload_n 1, 1) := by decide +kernel
theorem dr_cX17_list__43 : decode cX17_list_ 43 = .ok (.getfield 45, 3) := by decide +kernel
theorem dr_cX17_list__46 : decode cX17_list_ 46 = .ok (.invokevirtual 323, 3) := by decide +kernel
theorem dr_cX17_list__49 : decode cX17_list_ 49 = .ok (.ldc_w 349, 3) := by decide +kernel
theorem dr_cX17_list__52 : decode cX17_list_ 52 = .ok (.invokevirtual 13, 3) := by decide +kernel
theorem dr_cX17_list__55 : decode cX17_list_ 55 = .ok (.pop, 1) := by decide +kernel
theorem dr_cX17_list__56 : decode cX17_list_ 56 = .ok (.goto 26, 3) := by decide +kernel
theorem dr_cX17_list__9 : decode cX17_list_ 9 = .ok (.aload_n 0, 1) := by decide +kernel
theorem dr_cX17_list__10 : decode cX17_list_ 10 = .ok (.getfield 316, 3) := by decide +kernel
theorem dr_cX17_list__13 : decode cX17_list_ 13 = .ok (.ldc_w 345, 3) := by decide +kernel
theorem dr_cX17_list__16 : decode cX17_list_ 16 = .ok (.invokevirtual 13, 3) := by decide +kernel
theorem dr_cX17_list__19 : decode cX17_list_ 19 = .ok (.pop, 1) := by decide +kernel
theorem dr_cX17_list__20 : decode cX17_list_ 20 = .ok (.goto 62, 3) := by decide +kernel
theorem dr_cX17_list_214 : decode cX17_list 214 = .ok (.aload_n 0, 1) := by decide +kernel
theorem dr_cX17_list_215 : decode cX17_list 215 = .ok (.getfield 316, 3) := by decide +kernel
theorem dr_cX17_list_218 : decode cX17_list 218 = .ok (.bipush 10, 2) := by decide +kernel
theorem dr_cX17_list_220 : decode cX17_list 220 = .ok (.invokevirtual 320, 3) := by decide +kernel
theorem dr_cX17_list_223 : decode cX17_list 223 = .ok (.pop, 1) := by decide +kernel
theorem dr_cX17_list_186 : decode cX17_list 186 = .ok (.aload 4, 2) := by decide +kernel
theorem dr_cX17_list_188 : decode cX17_list 188 = .ok (.getfield 39, 3) := by decide +kernel
theorem dr_cX17_list_191 : decode cX17_list 191 = .ok (.bipush 31, 2) := by decide +kernel
theorem dr_cX17_list_193 : decode cX17_list 193 = .ok (.if_icmp .ne 21, 3) := by decide +kernel
theorem dr_cX17_list_196 : decode cX17_list 196 = .ok (.aload_n 0, 1) := by decide +kernel
theorem dr_cX17_list_197 : decode cX17_list 197 = .ok (.getfield 316, 3) := by decide +kernel
theorem dr_cX17_list_200 : decode cX17_list 200 = .ok (.ldc_w 343, 3) := by decide +kernel
theorem dr_cX17_list_203 : decode cX17_list 203 = .ok (.invokevirtual 13, 3) := by decide +kernel
theorem dr_cX17_list_206 : decode cX17_list 206 = .ok (.aload_n 3, 1) := by decide +kernel
theorem dr_cX17_list_207 : decode cX17_list 207 = .ok (.getfield 300, 3) := by decide +kernel
theorem dr_cX17_list_210 : decode cX17_list 210 = .ok (.invokevirtual 323, 3) := by decide +kernel
theorem dr_cX17_list_213 : decode cX17_list 213 = .ok (.pop, 1) := by decide +kernel
theorem dr_cX17_list_158 : decode cX17_list 158 = .ok (.aload 4, 2) := by decide +kernel
theorem dr_cX17_list_160 : decode cX17_list 160 = .ok (.getfield 39, 3) := by decide +kernel
theorem dr_cX17_list_163 : decode cX17_list 163 = .ok (.bipush 32, 2) := by decide +kernel
theorem dr_cX17_list_165 : decode cX17_list 165 = .ok (.if_icmp .eq 21, 3) := by decide +kernel
theorem dr_cX17_list_168 : decode cX17_list 168 = .ok (.aload_n 0, 1) := by decide +kernel
theorem dr_cX17_list_169 : decode cX17_list 169 = .ok (.getfield 316, 3) := by decide +kernel
theorem dr_cX17_list_172 : decode cX17_list 172 = .ok (.ldc_w 343, 3) := by decide +kernel
theorem dr_cX17_list_175 : decode cX17_list 175 = .ok (.invokevirtual 13, 3) := by decide +kernel
theorem dr_cX17_list_178 : decode cX17_list 178 = .ok (.aload_n 3, 1) := by decide +kernel
theorem dr_cX17_list_179 : decode cX17_list 179 = .ok (.getfield 297, 3) := by decide +kernel
theorem dr_cX17_list_182 : decode cX17_list 182 = .ok (.invokevirtual 323, 3) := by decide +kernel
theorem dr_cX17_list_185 : decode cX17_list 185 = .ok (.pop, 1) := by decide +kernel
theorem dr_cX17_list_134 : decode cX17_list 134 = .ok (.aload 4, 2) := by decide +kernel
theorem dr_cX17_list_136 : decode cX17_list 136 = .ok (.getfield 39, 3) := by decide +kernel
theorem dr_cX17_list_139 : decode cX17_list 139 = .ok (.bipush 30, 2) := by decide +kernel
theorem dr_cX17_list_141 : decode cX17_list 141 = .ok (.if_icmp .eq 17, 3) := by decide +kernel
theorem dr_cX17_list_144 : decode cX17_list 144 = .ok (.aload_n 0, 1) := by decide +kernel
theorem dr_cX17_list_145 : decode cX17_list 145 = .ok (.aload 4, 2) := by decide +kernel
theorem dr_cX17_list_147 : decode cX17_list 147 = .ok (.getfield 141, 3) := by decide +kernel
theorem dr_cX17_list_150 : decode cX17_list 150 = .ok (.aload 4, 2) := by decide +kernel
theorem dr_cX17_list_152 : decode cX17_list 152 = .ok (.getfield 73, 3) := by decide +kernel
theorem dr_cX17_list_155 : decode cX17_list 155 = .ok (.invokevirtual 339, 3) := by decide +kernel
theorem dr_cX17_list_85 : decode cX17_list 85 = .ok (.aload_n 3, 1) := by decide +kernel
theorem dr_cX17_list_86 : decode cX17_list 86 = .ok (.getfield 109, 3) := by decide +kernel
theorem dr_cX17_list_89 : decode cX17_list 89 = .ok (.astore 4, 2) := by decide +kernel
theorem dr_cX17_list_91 : decode cX17_list 91 = .ok (.aload_n 0, 1) := by decide +kernel
theorem dr_cX17_list_92 : decode cX17_list 92 = .ok (.getfield 316, 3) := by decide +kernel
theorem dr_cX17_list_95 : decode cX17_list 95 = .ok (.aload 4, 2) := by decide +kernel
theorem dr_cX17_list_97 : decode cX17_list 97 = .ok (.getfield 39, 3) := by decide +kernel
theorem dr_cX17_list_100 : decode cX17_list 100 = .ok (.bipush 30, 2) := by decide +kernel
theorem dr_cX17_list_102 : decode cX17_list 102 = .ok (.if_icmp .ne 9, 3) := by decide +kernel
theorem dr_cX17_list_111 : decode cX17_list 111 = .ok (.aload 4, 2) := by decide +kernel
theorem dr_cX17_list_113 : decode cX17_list 113 = .ok (.getfield 39, 3) := by decide +kernel
theorem dr_cX17_list_116 : decode cX17_list 116 = .ok (.bipush 31, 2) := by decide +kernel
theorem dr_cX17_list_118 : decode cX17_list 118 = .ok (.if_icmp .ne 9, 3) := by decide +kernel
theorem dr_cX17_list_127 : decode cX17_list 127 = .ok (.ldc_w 337, 3) := by decide +kernel
theorem dr_cX17_list_130 : decode cX17_list 130 = .ok (.invokevirtual 13, 3) := by decide +kernel
theorem dr_cX17_list_133 : decode cX17_list 133 = .ok (.pop, 1) := by decide +kernel
theorem dr_cX17_list_121 : decode cX17_list 121 = .ok (.ldc_w 335, 3) := by decide +kernel
theorem dr_cX17_list_124 : decode cX17_list 124 = .ok (.goto 6, 3) := by decide +kernel
theorem dr_cX17_list_105 : decode cX17_list 105 = .ok (.ldc_w 333, 3) := by decide +kernel
theorem dr_cX17_list_108 : decode cX17_list 108 = .ok (.goto 22, 3) := by decide +kernel
theorem dr_cX17_list_51 : decode cX17_list 51 = .ok (.iload 4, 2) := by decide +kernel
theorem dr_cX17_list_53 : decode cX17_list 53 = .ok (.aload_n 3, 1) := by decide +kernel
theorem dr_cX17_list_54 : decode cX17_list 54 = .ok (.getfield 117, 3) := by decide +kernel
theorem dr_cX17_list_57 : decode cX17_list 57 = .ok (.invokevirtual 121, 3) := by decide +kernel
theorem dr_cX17_list_60 : decode cX17_list 60 = .ok (.if_icmp .ge 25, 3) := by decide +kernel
theorem dr_cX17_list_63 : decode cX17_list 63 = .ok (.aload_n 0, 1) := by decide +kernel
theorem dr_cX17_list_64 : decode cX17_list 64 = .ok (.aload_n 3, 1) := by decide +kernel
theorem dr_cX17_list_65 : decode cX17_list 65 = .ok (.getfield 117, 3) := by decide +kernel
theorem dr_cX17_list_68 : decode cX17_list 68 = .ok (.iload 4, 2) := by decide +kernel
theorem dr_cX17_list_70 : decode cX17_list 70 = .ok (.invokevirtual 124, 3) := by decide +kernel
theorem dr_cX17_list_73 : decode cX17_list 73 = .ok (.checkcast 40, 3) := by decide +kernel
theorem dr_cX17_list_76 : decode cX17_list 76 = .ok (.invokevirtual 330, 3) := by decide +kernel
theorem wr_11_188 : (Jvm.Cond.methodLink "SpillForgeModel" (330 : Nat) ({ cls := "SpillForgeModel", name := "list", desc := "(LSpillForgeModel$Row;)V" } : Jvm.MethodName)) ∈ gw := gw_11 188 rfl rfl
theorem wr_11_191 : (Jvm.Cond.code ({ cls := "SpillForgeModel", name := "list", desc := "(LSpillForgeModel$Row;)V" } : Jvm.MethodName) prog_14_method_33_code (2 : Nat) (Option.none : Option Jvm.ClassFile.FieldType)) ∈ gw := gw_11 191 rfl rfl
theorem wr_11_190 : (Jvm.Cond.instanceMethod ({ cls := "SpillForgeModel", name := "list", desc := "(LSpillForgeModel$Row;)V" } : Jvm.MethodName)) ∈ gw := gw_11 190 rfl rfl
theorem wr_p_117 : Cond.selects "SpillForgeModel" ⟨"SpillForgeModel", "list", "(LSpillForgeModel$Row;)V"⟩ ⟨"SpillForgeModel", "list", "(LSpillForgeModel$Row;)V"⟩ ∈ gw := gw_p _ 117 rfl rfl rfl
theorem dr_cX17_list_79 : decode cX17_list 79 = .ok (.iinc 4 1, 3) := by decide +kernel
theorem dr_cX17_list_82 : decode cX17_list 82 = .ok (.goto (-31), 3) := by decide +kernel
theorem dr_cX17_list_10 : decode cX17_list 10 = .ok (.iload_n 2, 1) := by decide +kernel
theorem dr_cX17_list_11 : decode cX17_list 11 = .ok (.aload_n 1, 1) := by decide +kernel
theorem dr_cX17_list_12 : decode cX17_list 12 = .ok (.invokevirtual 96, 3) := by decide +kernel
theorem dr_cX17_list_15 : decode cX17_list 15 = .ok (.if_icmp .ge 215, 3) := by decide +kernel
theorem dr_cX17_list_230 : decode cX17_list 230 = .ok (.return_, 1) := by decide +kernel
theorem dr_cX17_list_18 : decode cX17_list 18 = .ok (.aload_n 1, 1) := by decide +kernel
theorem dr_cX17_list_19 : decode cX17_list 19 = .ok (.iload_n 2, 1) := by decide +kernel
theorem dr_cX17_list_20 : decode cX17_list 20 = .ok (.invokevirtual 101, 3) := by decide +kernel
theorem dr_cX17_list_23 : decode cX17_list 23 = .ok (.astore_n 3, 1) := by decide +kernel
theorem dr_cX17_list_24 : decode cX17_list 24 = .ok (.aload_n 0, 1) := by decide +kernel
theorem dr_cX17_list_25 : decode cX17_list 25 = .ok (.getfield 316, 3) := by decide +kernel
theorem dr_cX17_list_28 : decode cX17_list 28 = .ok (.bipush 98, 2) := by decide +kernel
theorem dr_cX17_list_30 : decode cX17_list 30 = .ok (.invokevirtual 320, 3) := by decide +kernel
theorem dr_cX17_list_33 : decode cX17_list 33 = .ok (.iload_n 2, 1) := by decide +kernel
theorem dr_cX17_list_34 : decode cX17_list 34 = .ok (.invokevirtual 323, 3) := by decide +kernel
theorem dr_cX17_list_37 : decode cX17_list 37 = .ok (.bipush 58, 2) := by decide +kernel
theorem dr_cX17_list_39 : decode cX17_list 39 = .ok (.invokevirtual 320, 3) := by decide +kernel
theorem dr_cX17_list_42 : decode cX17_list 42 = .ok (.bipush 10, 2) := by decide +kernel
theorem dr_cX17_list_44 : decode cX17_list 44 = .ok (.invokevirtual 320, 3) := by decide +kernel
theorem dr_cX17_list_47 : decode cX17_list 47 = .ok (.pop, 1) := by decide +kernel
theorem dr_cX17_list_48 : decode cX17_list 48 = .ok (.iconst 0, 1) := by decide +kernel
theorem dr_cX17_list_49 : decode cX17_list 49 = .ok (.istore 4, 2) := by decide +kernel
theorem dr_cX17_list_224 : decode cX17_list 224 = .ok (.iinc 2 1, 3) := by decide +kernel
theorem dr_cX17_list_227 : decode cX17_list 227 = .ok (.goto (-217), 3) := by decide +kernel
theorem dr_cX17_list_0 : decode cX17_list 0 = .ok (.aload_n 0, 1) := by decide +kernel
theorem dr_cX17_list_1 : decode cX17_list 1 = .ok (.getfield 316, 3) := by decide +kernel
theorem dr_cX17_list_4 : decode cX17_list 4 = .ok (.iconst 0, 1) := by decide +kernel
theorem dr_cX17_list_5 : decode cX17_list 5 = .ok (.invokevirtual 326, 3) := by decide +kernel
theorem wr_11_125 : (Jvm.Cond.methodLink "SpillForgeModel" (326 : Nat) ({ cls := "java/lang/StringBuilder", name := "setLength", desc := "(I)V" } : Jvm.MethodName)) ∈ gw := gw_11 125 rfl rfl
theorem wr_11_128 : (Jvm.Cond.code ({ cls := "java/lang/StringBuilder", name := "setLength", desc := "(I)V" } : Jvm.MethodName) prog_35_method_89_code (2 : Nat) (Option.none : Option Jvm.ClassFile.FieldType)) ∈ gw := gw_11 128 rfl rfl
theorem wr_11_126 : (Jvm.Cond.instanceMethod ({ cls := "java/lang/StringBuilder", name := "setLength", desc := "(I)V" } : Jvm.MethodName)) ∈ gw := gw_11 126 rfl rfl
theorem wr_11_127 : (Jvm.Cond.selects "java/lang/StringBuilder" ({ cls := "java/lang/StringBuilder", name := "setLength", desc := "(I)V" } : Jvm.MethodName) ({ cls := "java/lang/StringBuilder", name := "setLength", desc := "(I)V" } : Jvm.MethodName)) ∈ gw := gw_11 127 rfl rfl
theorem dr_cX17_list_8 : decode cX17_list 8 = .ok (.iconst 0, 1) := by decide +kernel
theorem dr_cX17_list_9 : decode cX17_list 9 = .ok (.istore_n 2, 1) := by decide +kernel
abbrev ky_opd : gKey := (cX17_operand, 3, "SpillForgeModel", none, [], "operand", fun _ _ => True)
set_option maxRecDepth 100000 in
set_option maxHeartbeats 4000000 in
theorem cp_opd (l : Launch) (hl0 : l.stackTraces = false) (D : va_G) (I : FieldType → ClassId) {P0 P : List Nat} {F0 F : Nat → va_E} {γ el : Nat → Nat → Nat} {W a n m C mc ms r28 r35 : Nat} {ws : List Int32} {c rg x v9 v10 v11 v12 v13 v14 v23 v24 v25 v26 v27 v30 v32 v33 v34 : Int32} (hm : γ 0 m = 10) (hW : γ 9 29 = W) (he : F0 m = mdE γ r28 r35 v9 v10 v11 v12 v13 v14 v23 v24 v25 v26 v27 v30 v32 v33 v34) (h : wdS D I P0 F0 γ el W P F a n c ws) (hC : c.toInt + 12 ≤ (C : Int)) (hr : rmW mc ms n C) :
    CtA (gV D I) l yX17_operand cX17_operand 3 none 6 140 mc ms [.ref m, .int rg, .int x] (va_pl P F) (wdP D I P0 F0 γ el W n c 12 (ws ++ zrO rg x)) gNA := by
  subst hW
  refine CtA_of hl0 (by decide) (Nat.le_of_ble_eq_true rfl) ?_
  have Mm : ∀ {P : List Nat} {F : Nat → va_E} {a n : Nat} {c : Int32} {ws : List Int32}, wdS D I P0 F0 γ el (γ 9 29) P F a n c ws → m ∈ P ∧ F m = mdE γ r28 r35 v9 v10 v11 v12 v13 v14 v23 v24 v25 v26 v27 v30 v32 v33 v34 := fun h => ⟨(wdS_F h hm (by decide) (by decide) (by decide)).1, (wdS_F h hm (by decide) (by decide) (by decide)).2.trans he⟩
  have hCk : ∀ j : Int, j ≤ 12 → c.toInt + j ≤ (C : Int) := fun j hj => by omega
  have k14 : ∀ (P : List Nat) (F : Nat → va_E) (a1 n1 : Nat) (c1 : Int32) (cs sl : Nat) (w1 : List Int32), wdS D I P0 F0 γ el (γ 9 29) P F a1 n1 c1 w1 → w1 ++ dgI x.toInt = ws ++ zrO rg x → wdQ n c n1 c1 1 cs sl → G (gV D I) l (gRm 6 140 mc ms) (gMA (gV D I) (wdP D I P0 F0 γ el (γ 9 29) n c 12 (ws ++ zrO rg x)) gNA mc ms) ky_opd 14 [(0, .ref m), (1, .int rg), (2, .int x)] [] (va_pl P F) cs sl := fun P F a1 n1 c1 cs sl w1 h ew q => by
    refine G_aload_n 0 dr_cX17_operand_14 rfl ?_
    refine Gp_get 29 (Mm h).1 (Mm h).2 dr_cX17_operand_15 (gk_X17 D I) (Nat.le_of_ble_eq_true rfl) wr_7_103 rfl ?_
    refine G_iload_n 2 dr_cX17_operand_18 rfl ?_
    refine Gw_appI hl0 dr_cX17_operand_19 ⟨wr_11_187, wr_1_20, wr_8_108, by decide, rfl, (Nat.le_of_ble_eq_true rfl), (Nat.le_of_ble_eq_true rfl)⟩ wr_8_106 wr_8_107 h (rmW_n (k := 11) hr q (hCk _ (by decide)) (by decide)) (rmW_1 (k := 11) hr q (hCk _ (by decide)) (by decide)) (rmW_2 (k := 11) hr q (hCk _ (by decide)) (by decide)) (rmW_3 (k := 11) hr q (hCk _ (by decide))) (Nat.le_of_ble_eq_true rfl) (fun P2 F2 a2 n2 c2 dc ds h2 q2 => ?_)
    have q' := wdQ_t q q2
    refine G_pop dr_cX17_operand_22 rfl ?_
    exact G_vretA dr_cX17_operand_23 rfl (Nat.le_of_succ_le (rmW_1 (k := 0) hr q' (hCk _ (by decide)) (by decide))) (rmW_2 (k := 0) hr q' (hCk _ (by decide)) (by decide)) ⟨P2, F2, a2, n2, c2, rfl, rfl, by rw [← ew]; exact h2, q'⟩
  have q0 : wdQ n c n c 0 0 0 := wdQ_r (by decide)
  refine G_iload_n 1 dr_cX17_operand_0 rfl ?_
  refine G_if_eq 14 dr_cX17_operand_1 (by decide +kernel) (fun hz => k14 P F a n c 0 0 ws h (by unfold zrO; rw [if_pos hz]) (wdQ_w q0 (by decide))) (fun hz => ?_)
  refine G_aload_n 0 dr_cX17_operand_4 rfl ?_
  refine Gp_get 29 (Mm h).1 (Mm h).2 dr_cX17_operand_5 (gk_X17 D I) (Nat.le_of_ble_eq_true rfl) wr_7_103 rfl ?_
  refine G_bipush 118 dr_cX17_operand_8 (by decide +kernel) ?_
  refine Gw_appC hl0 dr_cX17_operand_10 ⟨wr_11_186, wr_1_20, wr_8_0, by decide, rfl, (Nat.le_of_ble_eq_true rfl), (Nat.le_of_ble_eq_true rfl)⟩ wr_7_238 wr_7_239 h ⟨by decide, by decide⟩ (rmW_n (k := 1) hr q0 (hCk _ (by decide)) (by decide)) (rmW_1 (k := 1) hr q0 (hCk _ (by decide)) (by decide)) (rmW_2 (k := 1) hr q0 (hCk _ (by decide)) (by decide)) (rmW_3 (k := 1) hr q0 (hCk _ (by decide))) (Nat.le_of_ble_eq_true rfl) (fun P2 F2 a2 n2 c2 dc ds h2 q2 => ?_)
  refine G_pop dr_cX17_operand_13 rfl ?_
  exact k14 P2 F2 a2 n2 c2 _ _ _ h2 (by unfold zrO; rw [if_neg hz]; exact List.append_assoc _ _ _) (wdQ_t q0 q2)
abbrev ky_sgn : gKey := (cX17_sign, 4, "SpillForgeModel", none, [], "sign", fun _ _ => True)
theorem sg_a : ∀ p : Nat, p < 35 → opsN p ≤ 13 → p < 34 := by decide +kernel
theorem sg_b : ∀ p : Nat, p < 35 → opsN p ≤ 14 → p < 34 := by decide +kernel
theorem sg_e0 : ∀ p : Nat, p < 34 → 1 ≤ opsN p → opsN p < 15 → (p = 0 ∨ opsN (p - 1) < opsN p) → p = zqP (opsN p : Int) := by decide +kernel
theorem sg_e : ∀ p : Nat, p < 34 → ∀ o : Nat, o < 15 → 1 ≤ o → opsN p = o → (p = 0 ∨ opsN (p - 1) < o) → p = zqP (o : Int) := by
  intro p hp o ho h1 e h
  subst e
  exact sg_e0 p hp h1 ho h
theorem sg_f : ∀ o : Nat, o < 15 → 1 ≤ o → zqP (o : Int) + zqE (o : Int) < 34 ∧ zqE (o : Int) ≤ 2 ∧ (sb_42.getD (zqP (o : Int) + zqE (o : Int)) 0).toInt = 32 ∧ ∀ j, j < zqE (o : Int) → (sb_42.getD (zqP (o : Int) + j) 0).toInt ≠ 32 := by decide +kernel
theorem sg_g : ∀ p : Nat, p < 34 → 0 ≤ (sb_42.getD p 0).toInt ∧ (sb_42.getD p 0).toInt ≤ 127 := by decide +kernel
theorem sg_c : ∀ p : Nat, p < 34 → (sb_42.getD p 0).toInt = 32 ∨ (p + 1 < 34 ∧ (sb_42.getD (p + 1) 0).toInt = 32) ∨ (p + 2 < 34 ∧ (sb_42.getD (p + 2) 0).toInt = 32) := by decide +kernel
theorem sg_d : ∀ p : Nat, p < 34 → 0 ≤ (sb_42.getD p 0).toInt := by decide +kernel
section SGN
variable {l : Launch} {D : va_G} {I : FieldType → ClassId} {P0 : List Nat} {F0 : Nat → va_E} {γ el : Nat → Nat → Nat} {n0 m C mc ms r28 r35 : Nat} {T : List Int32} {c0 op v9 v10 v11 v12 v13 v14 v23 v24 v25 v26 v27 v30 v32 v33 v34 : Int32}
set_option maxRecDepth 100000 in
set_option maxHeartbeats 4000000 in
theorem sg_l2 (hl0 : l.stackTraces = false) (hm : γ 0 m = 10) (he : F0 m = mdE γ r28 r35 v9 v10 v11 v12 v13 v14 v23 v24 v25 v26 v27 v30 v32 v33 v34) (hCk : ∀ j : Int, j ≤ 2 → c0.toInt + j ≤ (C : Int)) (hr : rmW mc ms n0 C) :
    ∀ (e : Nat) (P : List Nat) (F : Nat → va_E) (a n : Nat) (c k at' : Int32) (cs sl : Nat) (w1 : List Int32), w1 ++ sgm sb_42 at'.toInt.toNat e = T → (∀ j, j < e → (sb_42.getD (at'.toInt.toNat + j) 0).toInt ≠ 32) → 0 ≤ at'.toInt → at'.toInt + (e : Int) < 34 → e ≤ 2 → (sb_42.getD (at'.toInt.toNat + e) 0).toInt = 32 → wdS D I P0 F0 γ el (γ 9 29) P F a n c w1 → wdQ n0 c0 n c (2 - (e : Int)) cs sl →
    G (gV D I) l (gRm 6 140 mc ms) (gMA (gV D I) (wdP D I P0 F0 γ el (γ 9 29) n0 c0 2 T) gNA mc ms) ky_sgn 29 [(3, .int k), (2, .int at'), (0, .ref m), (1, .int op)] [] (va_pl P F) cs sl := by
  have Mm : ∀ {P : List Nat} {F : Nat → va_E} {a n : Nat} {c : Int32} {ws : List Int32}, wdS D I P0 F0 γ el (γ 9 29) P F a n c ws → m ∈ P ∧ F m = mdE γ r28 r35 v9 v10 v11 v12 v13 v14 v23 v24 v25 v26 v27 v30 v32 v33 v34 := fun h => ⟨(wdS_F h hm (by decide) (by decide) (by decide)).1, (wdS_F h hm (by decide) (by decide) (by decide)).2.trans he⟩
  have hlen : (sb_42.length : Int) = 34 := rfl
  have ext : ∀ (P : List Nat) (F : Nat → va_E) (a n : Nat) (c k at' : Int32) (cs sl : Nat) (K : Int), K ≤ 2 → wdS D I P0 F0 γ el (γ 9 29) P F a n c T → wdQ n0 c0 n c K cs sl → G (gV D I) l (gRm 6 140 mc ms) (gMA (gV D I) (wdP D I P0 F0 γ el (γ 9 29) n0 c0 2 T) gNA mc ms) ky_sgn 60 [(3, .int k), (2, .int at'), (0, .ref m), (1, .int op)] [] (va_pl P F) cs sl := fun P F a n c k at' cs sl K hK h q => by
    have hz : c0.toInt + (K + 0) ≤ (C : Int) := hCk _ (by omega)
    exact G_vretA dr_cX17_sign_60 rfl (Nat.le_of_succ_le (rmW_1 (k := 0) hr q hz (by decide))) (rmW_2 (k := 0) hr q hz (by decide)) ⟨P, F, a, n, c, rfl, rfl, h, wdQ_w q hK⟩
  intro e
  induction e with
  | zero =>
    intro P F a n c k at' cs sl w1 ew hN h0 h1 h2 h3 h q
    have hz : c0.toInt + (2 - ((0 : Nat) : Int) + 0) ≤ (C : Int) := hCk _ (by decide)
    have r1 := rmW_1 (k := 0) hr q hz (by decide)
    have r2 := rmW_2 (k := 0) hr q hz (by decide)
    refine G_ldcK (a := D.2 1000 42) dr_cX17_sign_29 (fun _ _ _ h => gx_vk 42 rfl rfl h) ?_
    refine G_iload_n 1 dr_cX17_sign_31 rfl ?_
    refine Gw_callVk (As := [.int at']) (gV_ok D I) (cp_675262_String_charAt l hl0 D I P F (D.2 1000 42) (D.2 1001 42) sb_42 at' (gx_sc 42 rfl rfl) (by omega) (by decide +kernel) ⟨h0, by omega⟩ (by omega)) dr_cX17_sign_32 ⟨wr_10_103, wr_1_21, wr_3_70, by decide, rfl, (Nat.le_of_ble_eq_true rfl), (Nat.le_of_ble_eq_true rfl)⟩ wr_3_68 wr_3_69 (fun _ _ _ h => (gx_sc 42 rfl rfl _ _ _ h).1) (show _ ≤ mc by omega) (show _ ≤ ms by omega) (Nat.le_of_ble_eq_true rfl) (fun r w dc ds hp => ?_) (fun _ _ _ _ _ z => z.elim)
    obtain ⟨o, rfl, rfl, hdc, hds, bo, hch, -⟩ := hp
    change G _ _ _ _ _ _ _ (.int o :: []) _ _ _
    refine G_widen (cs' := cs) (sl' := sl) (by omega) (by omega) ?_
    refine G_bipush 32 dr_cX17_sign_35 (by decide +kernel) ?_
    refine G_icmp_eq 60 dr_cX17_sign_37 (by decide +kernel) (fun _ => ext P F a n c k at' cs sl _ (by decide) (by rw [← ew]; show wdS D I P0 F0 γ el (γ 9 29) P F a n c (w1 ++ []); rw [List.append_nil]; exact h) q) (fun hc => absurd ?_ hc)
    have e1 : (sb_42.getD at'.toNatClampNeg 0).toInt = 32 := h3
    have e2 : o.toInt = 32 := (hch (by show 0 ≤ (sb_42.getD at'.toNatClampNeg 0).toInt; omega)).trans e1
    exact Int32.toInt_inj.mp (e2.trans (show (32 : Int) = Int32.toInt 32 by decide))
  | succ e ih =>
    intro P F a n c k at' cs sl w1 ew hN h0 h1 h2 h3 h q
    have hz : c0.toInt + (2 - ((e + 1 : Nat) : Int) + 1) ≤ (C : Int) := hCk _ (by omega)
    have r1 := rmW_1 (k := 1) hr q hz (by decide)
    have r2 := rmW_2 (k := 1) hr q hz (by decide)
    refine G_ldcK (a := D.2 1000 42) dr_cX17_sign_29 (fun _ _ _ h => gx_vk 42 rfl rfl h) ?_
    refine G_iload_n 1 dr_cX17_sign_31 rfl ?_
    refine Gw_callVk (As := [.int at']) (gV_ok D I) (cp_675262_String_charAt l hl0 D I P F (D.2 1000 42) (D.2 1001 42) sb_42 at' (gx_sc 42 rfl rfl) (by omega) (by decide +kernel) ⟨h0, by omega⟩ (by omega)) dr_cX17_sign_32 ⟨wr_10_103, wr_1_21, wr_3_70, by decide, rfl, (Nat.le_of_ble_eq_true rfl), (Nat.le_of_ble_eq_true rfl)⟩ wr_3_68 wr_3_69 (fun _ _ _ h => (gx_sc 42 rfl rfl _ _ _ h).1) (show _ ≤ mc by omega) (show _ ≤ ms by omega) (Nat.le_of_ble_eq_true rfl) (fun r w dc ds hp => ?_) (fun _ _ _ _ _ z => z.elim)
    obtain ⟨o, rfl, rfl, hdc, hds, bo, hch, -⟩ := hp
    change G _ _ _ _ _ _ _ (.int o :: []) _ _ _
    refine G_widen (cs' := cs) (sl' := sl) (by omega) (by omega) ?_
    refine G_bipush 32 dr_cX17_sign_35 (by decide +kernel) ?_
    refine G_icmp_eq 60 dr_cX17_sign_37 (by decide +kernel) (fun hc => absurd (show o.toInt = 32 by rw [hc]; decide) (fun z => hN 0 (by omega) (by rw [Nat.add_zero]; exact (hch (sg_g at'.toInt.toNat (by omega)).1).symm.trans z))) (fun hc => ?_)
    refine G_aload_n 2 dr_cX17_sign_40 rfl ?_
    refine Gp_get 29 (Mm h).1 (Mm h).2 dr_cX17_sign_41 (gk_X17 D I) (Nat.le_of_ble_eq_true rfl) wr_7_103 rfl ?_
    refine G_ldcK (a := D.2 1000 42) dr_cX17_sign_44 (fun _ _ _ h => gx_vk 42 rfl rfl h) ?_
    refine G_iload_n 1 dr_cX17_sign_46 rfl ?_
    refine Gw_callVk (As := [.int at']) (gV_ok D I) (cp_675262_String_charAt l hl0 D I P F (D.2 1000 42) (D.2 1001 42) sb_42 at' (gx_sc 42 rfl rfl) (by omega) (by decide +kernel) ⟨h0, by omega⟩ (by omega)) dr_cX17_sign_47 ⟨wr_10_103, wr_1_21, wr_3_70, by decide, rfl, (Nat.le_of_ble_eq_true rfl), (Nat.le_of_ble_eq_true rfl)⟩ wr_3_68 wr_3_69 (fun _ _ _ h => (gx_sc 42 rfl rfl _ _ _ h).1) (show _ ≤ mc by omega) (show _ ≤ ms by omega) (Nat.le_of_ble_eq_true rfl) (fun r w dc ds hp => ?_) (fun _ _ _ _ _ z => z.elim)
    obtain ⟨o2, rfl, rfl, hdc2, hds2, bo2, hch2, -⟩ := hp
    obtain ⟨gg0, gg1⟩ := sg_g at'.toInt.toNat (by omega)
    have eo2 : o2 = sb_42.getD at'.toInt.toNat 0 := Int32.toInt_inj.mp (hch2 gg0)
    change G _ _ _ _ _ _ _ (.int o2 :: .ref (γ 9 29) :: []) _ _ _
    refine G_widen (cs' := cs) (sl' := sl) (by omega) (by omega) ?_
    refine Gw_appC hl0 dr_cX17_sign_50 ⟨wr_11_186, wr_1_20, wr_8_0, by decide, rfl, (Nat.le_of_ble_eq_true rfl), (Nat.le_of_ble_eq_true rfl)⟩ wr_7_238 wr_7_239 h (⟨by rw [eo2]; exact gg0, by rw [eo2]; exact gg1⟩ : gB o2 0 127) (rmW_n (k := 1) hr q hz (by decide)) r1 r2 (rmW_3 (k := 1) hr q hz) (Nat.le_of_ble_eq_true rfl) (fun P2 F2 a2 n2 c2 dc ds h2' q2 => ?_)
    refine G_pop dr_cX17_sign_53 rfl ?_
    obtain ⟨t1, ht1⟩ : ∃ z, z = at' + 1 := ⟨_, rfl⟩
    have et : t1.toInt = at'.toInt + 1 := by rw [gI_add ht1 (⟨h0, by omega⟩ : gB at' 0 34) (gBl (show Int32.toInt 1 = 1 by decide)) (by decide) (by decide), show Int32.toInt 1 = 1 from by decide]
    refine G_iinc (L' := [(2, .int t1), (3, .int k), (0, .ref m), (1, .int op)]) t1 1 dr_cX17_sign_54 rfl (by rw [ht1]; rfl) (Nat.le_of_ble_eq_true rfl) rfl ?_
    refine G_goto 29 dr_cX17_sign_57 (by decide +kernel) ?_
    refine G_lv [1, 0, 2, 3] rfl ?_
    have et1 : t1.toInt.toNat = at'.toInt.toNat + 1 := by omega
    refine ih P2 F2 a2 n2 c2 k t1 _ _ (w1 ++ [o2]) ?_ (fun j hj => ?_) (by omega) (by omega) (by omega) ?_ h2' (wdQ_w (wdQ_t q q2) (by omega))
    · rw [← ew, et1, List.append_assoc, eo2]; rfl
    · rw [et1, Nat.add_assoc, Nat.add_comm 1 j]; exact hN (j + 1) (by omega)
    rw [show t1.toInt.toNat + e = at'.toInt.toNat + (e + 1) by omega]
    exact h3
set_option maxRecDepth 100000 in
set_option maxHeartbeats 4000000 in
theorem sg_l1 (hl0 : l.stackTraces = false) {Qf : gFin} {P : List Nat} {F : Nat → va_E} (hop : op.toInt ≤ 14) (hop1 : 1 ≤ op.toInt) (hmc : 0 ≤ mc) (kk : ∀ (k at' : Int32), 0 ≤ at'.toInt → at'.toInt < 34 → at'.toInt.toNat = zqP op.toInt → G (gV D I) l (gRm 6 140 mc ms) Qf ky_sgn 29 [(3, .int k), (2, .int at'), (0, .ref m), (1, .int op)] [] (va_pl P F) 0 0) :
    ∀ (μ : Nat) (k at' : Int32), 34 - at'.toInt < (μ : Int) → at'.toInt ≤ 34 → opI at' k → k.toInt ≤ op.toInt + 1 → (at'.toInt = 0 ∨ opsN (at'.toInt.toNat - 1) < op.toInt.toNat) →
    G (gV D I) l (gRm 6 140 mc ms) Qf ky_sgn 4 [(3, .int k), (2, .int at'), (0, .ref m), (1, .int op)] [] (va_pl P F) 0 0 := by
  have hlen : (sb_42.length : Int) = 34 := rfl
  intro μ
  induction μ with
  | zero => intro k at' h h0 _ _ _; exact absurd h (by omega)
  | succ μ ih =>
  intro k at' hμ h0 hI hk hpr
  obtain ⟨i0, i1⟩ := id hI
  refine G_iload_n 0 dr_cX17_sign_4 rfl ?_
  refine G_iload_n 3 dr_cX17_sign_5 rfl ?_
  refine G_icmp_gt 29 dr_cX17_sign_6 (by decide +kernel) (fun hc => ?_) (fun hc => ?_)
  · have hlt : op.toInt < k.toInt := gj_lt hc rfl
    have ha34 : at'.toInt < 34 := by have := sg_b at'.toInt.toNat (by omega) (by omega); omega
    have eo : op.toInt = ((op.toInt.toNat : Nat) : Int) := by omega
    exact kk k at' i0 ha34 (by rw [eo]; exact sg_e at'.toInt.toNat (by omega) op.toInt.toNat (by omega) (by omega) (by omega) (hpr.imp (fun z => by omega) id))
  · have hle : k.toInt ≤ op.toInt := gj_nlt hc rfl
    have hat : at'.toInt < 34 := by have := sg_a at'.toInt.toNat (by omega) (by omega); omega
    refine G_ldcK (a := D.2 1000 42) dr_cX17_sign_9 (fun _ _ _ h => gx_vk 42 rfl rfl h) ?_
    refine G_iload_n 1 dr_cX17_sign_11 rfl ?_
    refine Gw_callVk (As := [.int at']) (gV_ok D I) (cp_675262_String_charAt l hl0 D I P F (D.2 1000 42) (D.2 1001 42) sb_42 at' (gx_sc 42 rfl rfl) (by omega) (by decide +kernel) ⟨i0, by omega⟩ (by omega)) dr_cX17_sign_12 ⟨wr_10_103, wr_1_21, wr_3_70, by decide, rfl, (Nat.le_of_ble_eq_true rfl), (Nat.le_of_ble_eq_true rfl)⟩ wr_3_68 wr_3_69 (fun _ _ _ h => (gx_sc 42 rfl rfl _ _ _ h).1) (show _ ≤ mc by omega) (show _ ≤ ms by omega) (Nat.le_of_ble_eq_true rfl) (fun r w dc ds hp => ?_) (fun _ _ _ _ _ z => z.elim)
    obtain ⟨o, rfl, rfl, hdc, hds, bo, hch, -⟩ := hp
    change G _ _ _ _ _ _ _ (.int o :: []) _ _ _
    refine G_widen (cs' := 0) (sl' := 0) (by omega) (by omega) ?_
    refine G_bipush 32 dr_cX17_sign_15 (by decide +kernel) ?_
    have z32 : Int32.toInt 32 = 32 := by decide
    have k23 : ∀ k1 : Int32, (k1.toInt = k.toInt + 1 ∧ o.toInt = 32) ∨ (k1.toInt = k.toInt + 0 ∧ o.toInt ≠ 32) → G (gV D I) l (gRm 6 140 mc ms) Qf ky_sgn 23 [(3, .int k1), (2, .int at'), (0, .ref m), (1, .int op)] [] (va_pl P F) 0 0 := fun k1 hk1 => by
      obtain ⟨t1, ht1⟩ : ∃ z, z = at' + 1 := ⟨_, rfl⟩
      have et : t1.toInt = at'.toInt + 1 := by rw [gI_add ht1 (⟨i0, by omega⟩ : gB at' 0 34) (gBl (show Int32.toInt 1 = 1 by decide)) (by decide) (by decide), show Int32.toInt 1 = 1 from by decide]
      refine G_iinc (L' := [(2, .int t1), (3, .int k1), (0, .ref m), (1, .int op)]) t1 1 dr_cX17_sign_23 rfl (by rw [ht1]; rfl) (Nat.le_of_ble_eq_true rfl) rfl ?_
      refine G_goto 4 dr_cX17_sign_26 (by decide +kernel) ?_
      refine G_lv [1, 0, 2, 3] rfl ?_
      have hpn : t1.toInt = 0 ∨ opsN (t1.toInt.toNat - 1) < op.toInt.toNat := Or.inr (by rw [show t1.toInt.toNat - 1 = at'.toInt.toNat by omega]; omega)
      rcases hk1 with ⟨q1, q2⟩ | ⟨q1, q2⟩
      · exact ih k1 t1 (by omega) (by omega) (opI_st hI hat et q1 hch (Or.inl ⟨q2, rfl⟩)) (by omega) hpn
      · exact ih k1 t1 (by omega) (by omega) (opI_st hI hat et q1 hch (Or.inr ⟨q2, rfl⟩)) (by omega) hpn
    refine G_icmp_ne 23 dr_cX17_sign_17 (by decide +kernel) (fun hc1 => k23 k (Or.inr ⟨by omega, fun e => hc1 (Int32.toInt_inj.mp (e.trans z32.symm))⟩)) (fun hc1 => ?_)
    obtain ⟨k1, hk1⟩ : ∃ z, z = k + 1 := ⟨_, rfl⟩
    have ek : k1.toInt = k.toInt + 1 := by rw [gI_add hk1 (⟨by omega, by omega⟩ : gB k 0 20) (gBl (show Int32.toInt 1 = 1 by decide)) (by decide) (by decide), show Int32.toInt 1 = 1 from by decide]
    refine G_iinc (L' := [(3, .int k1), (2, .int at'), (0, .ref m), (1, .int op)]) k1 0 dr_cX17_sign_20 rfl (by rw [hk1]; rfl) (Nat.le_of_ble_eq_true rfl) rfl ?_
    exact k23 k1 (Or.inl ⟨ek, by rw [hc1]; exact z32⟩)
end SGN
set_option maxRecDepth 100000 in
set_option maxHeartbeats 4000000 in
theorem cp_sgn (l : Launch) (hl0 : l.stackTraces = false) (D : va_G) (I : FieldType → ClassId) {P0 P : List Nat} {F0 F : Nat → va_E} {γ el : Nat → Nat → Nat} {W a n m C mc ms r28 r35 : Nat} {ws : List Int32} {c op v9 v10 v11 v12 v13 v14 v23 v24 v25 v26 v27 v30 v32 v33 v34 : Int32} (hm : γ 0 m = 10) (hW : γ 9 29 = W) (he : F0 m = mdE γ r28 r35 v9 v10 v11 v12 v13 v14 v23 v24 v25 v26 v27 v30 v32 v33 v34) (h : wdS D I P0 F0 γ el W P F a n c ws) (h1 : 1 ≤ op.toInt) (h14 : op.toInt ≤ 14) (hC : c.toInt + 2 ≤ (C : Int)) (hr : rmW mc ms n C) :
    CtA (gV D I) l yX17_sign cX17_sign 4 none 6 140 mc ms [.ref m, .int op] (va_pl P F) (wdP D I P0 F0 γ el W n c 2 (ws ++ zrS op.toInt)) gNA := by
  subst hW
  refine CtA_of hl0 (by decide) (Nat.le_of_ble_eq_true rfl) ?_
  have hCk : ∀ j : Int, j ≤ 2 → c.toInt + j ≤ (C : Int) := fun j hj => by omega
  have q0 : wdQ n c n c 0 0 0 := wdQ_r (by decide)
  refine G_iconst 0 dr_cX17_sign_0 (by decide +kernel) ?_
  refine G_istore_n (L' := [(2, .int 0), (0, .ref m), (1, .int op)]) dr_cX17_sign_1 (Nat.le_of_ble_eq_true rfl) rfl ?_
  refine G_iconst 1 dr_cX17_sign_2 (by decide +kernel) ?_
  refine G_istore_n (L' := [(3, .int 1), (2, .int 0), (0, .ref m), (1, .int op)]) dr_cX17_sign_3 (Nat.le_of_ble_eq_true rfl) rfl ?_
  refine sg_l1 hl0 h14 h1 (Nat.zero_le _) (fun k at' ha hb hE => ?_) 40 1 0 (by decide) (by decide) opI_0 (by have z1 : Int32.toInt 1 = 1 := (by decide); omega) (Or.inl (by decide))
  obtain ⟨f1, f2, f3, f4⟩ := sg_f op.toInt.toNat (by omega) (by omega)
  have eo : ((op.toInt.toNat : Nat) : Int) = op.toInt := by omega
  rw [eo] at f1 f2 f3 f4
  exact sg_l2 hl0 hm he hCk hr (zqE op.toInt) P F a n c k at' 0 0 ws (by rw [hE]; rfl) (fun j hj => by rw [hE]; exact f4 j hj) ha (by omega) f2 (by rw [hE]; exact f3) h (wdQ_w q0 (by omega))
abbrev ky_lrw : gKey := (cX17_list_, 2, "SpillForgeModel", none, [], "list", fun _ _ => True)
set_option maxRecDepth 100000 in
set_option maxHeartbeats 4000000 in
theorem cp_lrw (l : Launch) (hl0 : l.stackTraces = false) (D : va_G) (I : FieldType → ClassId) {P0 P : List Nat} {F0 F : Nat → va_E} {γ el : Nat → Nat → Nat} {W a n0 m x C mc ms r28 r35 : Nat} {ws0 : List Int32} {c0 v9 v10 v11 v12 v13 v14 v23 v24 v25 v26 v27 v30 v32 v33 v34 : Int32} (hT0 : RS D I P0 F0 γ el) (hx : γ 0 x = 1) (hm : γ 0 m = 10) (hW : γ 9 29 = W) (he : F0 m = mdE γ r28 r35 v9 v10 v11 v12 v13 v14 v23 v24 v25 v26 v27 v30 v32 v33 v34) (h : wdS D I P0 F0 γ el W P F a n0 c0 ws0) (hC : c0.toInt + 52 ≤ (C : Int)) (hr : rmW mc ms n0 C) :
    CtA (gV D I) l yX17_list_ cX17_list_ 2 none 7 170 mc ms [.ref m, .ref x] (va_pl P F) (wdP D I P0 F0 γ el W n0 c0 52 (ws0 ++ zlW (F0 x))) gNA := by
  subst hW
  refine CtA_of hl0 (by decide) (Nat.le_of_ble_eq_true rfl) ?_
  obtain ⟨op, t, xa, xb, s, ra, rb, x1, x2, x3, x4, x5, x6, x7, -⟩ := show rk_1 γ x (F0 x) from RS_o hT0 hx
  have eW : zlW (F0 x) = zrL op t xa xb s ra rb := by rw [x1]; rfl
  rw [eW]
  have ew : ws0 ++ zrL op t xa xb s ra rb = ws0 ++ zrL op t xa xb s ra rb := rfl
  have Mm : ∀ {P : List Nat} {F : Nat → va_E} {a n : Nat} {c : Int32} {ws : List Int32}, wdS D I P0 F0 γ el (γ 9 29) P F a n c ws → m ∈ P ∧ F m = mdE γ r28 r35 v9 v10 v11 v12 v13 v14 v23 v24 v25 v26 v27 v30 v32 v33 v34 := fun h => ⟨(wdS_F h hm (by decide) (by decide) (by decide)).1, (wdS_F h hm (by decide) (by decide) (by decide)).2.trans he⟩
  have Xx : ∀ {P : List Nat} {F : Nat → va_E} {a n : Nat} {c : Int32} {ws : List Int32}, wdS D I P0 F0 γ el (γ 9 29) P F a n c ws → x ∈ P ∧ F x = .inr (20, [.int op, .int t, .int xa, .int xb, .int s, .int ra, .int rb]) := fun h => ⟨(wdS_F h hx (by decide) (by decide) (by decide)).1, (wdS_F h hx (by decide) (by decide) (by decide)).2.trans x1⟩
  have hCk : ∀ j : Int, j ≤ 52 → c0.toInt + j ≤ (C : Int) := fun j hj => by omega
  have q : wdQ n0 c0 n0 c0 0 0 0 := wdQ_r (by decide)
  have k203 : ∀ (P : List Nat) (F : Nat → va_E) (a n : Nat) (c : Int32) (cs sl : Nat) (ws : List Int32), wdS D I P0 F0 γ el (γ 9 29) P F a n c ws → ws ++ [10] = ws0 ++ zrL op t xa xb s ra rb → wdQ n0 c0 n c 51 cs sl → G (gV D I) l (gRm 7 170 mc ms) (gMA (gV D I) (wdP D I P0 F0 γ el (γ 9 29) n0 c0 52 (ws0 ++ zrL op t xa xb s ra rb)) gNA mc ms) ky_lrw 203 [(0, .ref m), (1, .ref x)] [] (va_pl P F) cs sl := fun P F a n c cs sl ws h ew q => by
    refine G_aload_n 0 dr_cX17_list__203 rfl ?_
    refine Gp_get 29 (Mm h).1 (Mm h).2 dr_cX17_list__204 (gk_X17 D I) (Nat.le_of_ble_eq_true rfl) wr_7_103 rfl ?_
    refine G_bipush 10 dr_cX17_list__207 (by decide +kernel) ?_
    refine Gw_appC hl0 dr_cX17_list__209 ⟨wr_11_186, wr_1_20, wr_8_0, by decide, rfl, (Nat.le_of_ble_eq_true rfl), (Nat.le_of_ble_eq_true rfl)⟩ wr_7_238 wr_7_239 h ⟨by decide, by decide⟩ (rmW_n (k := 1) hr q (hCk _ (by decide +kernel)) (by decide +kernel)) (rmW_1 (k := 1) hr q (hCk _ (by decide +kernel)) (by decide +kernel)) (rmW_2 (k := 1) hr q (hCk _ (by decide +kernel)) (by decide +kernel)) (rmW_3 (k := 1) hr q (hCk _ (by decide +kernel))) (Nat.le_of_ble_eq_true rfl) (fun P F a n c dc ds h q2 => ?_)
    have q := wdQ_t q q2
    refine G_pop dr_cX17_list__212 rfl ?_
    exact G_vretA dr_cX17_list__213 rfl (Nat.le_of_succ_le (rmW_1 (k := 0) hr q (hCk _ (by decide +kernel)) (by decide))) (rmW_2 (k := 0) hr q (hCk _ (by decide +kernel)) (by decide)) ⟨_, _, _, _, _, rfl, rfl, by rw [← ew]; exact h, q⟩
  have k147 : ∀ (P : List Nat) (F : Nat → va_E) (a n : Nat) (c : Int32) (cs sl : Nat) (ws : List Int32), wdS D I P0 F0 γ el (γ 9 29) P F a n c ws → ws ++ (zqB op rb xb ++ [10]) = ws0 ++ zrL op t xa xb s ra rb → wdQ n0 c0 n c 35 cs sl → G (gV D I) l (gRm 7 170 mc ms) (gMA (gV D I) (wdP D I P0 F0 γ el (γ 9 29) n0 c0 52 (ws0 ++ zrL op t xa xb s ra rb)) gNA mc ms) ky_lrw 147 [(0, .ref m), (1, .ref x)] [] (va_pl P F) cs sl := fun P F a n c cs sl ws h ew q => by
    refine G_aload_n 1 dr_cX17_list__147 rfl ?_
    refine Gp_get 0 (Xx h).1 (Xx h).2 dr_cX17_list__148 (gk_X15 D I) (Nat.le_of_ble_eq_true rfl) wr_9_177 rfl ?_
    refine G_if_le 203 dr_cX17_list__151 (by decide +kernel) (fun hc1 => ?_) (fun hc1 => ?_)
    · have p0 : op.toInt ≤ 0 := gj_le hc1 (show Int32.toInt 0 = 0 by decide)
      exact k203 _ _ _ _ _ _ _ _ h (by rw [← ew]; unfold zqB; rw [if_neg (by omega)] <;> rfl) (wdQ_w q (by decide +kernel))
    · have p1 : 0 < op.toInt := gj_nle hc1 (show Int32.toInt 0 = 0 by decide)
      refine G_aload_n 1 dr_cX17_list__154 rfl ?_
      refine Gp_get 0 (Xx h).1 (Xx h).2 dr_cX17_list__155 (gk_X15 D I) (Nat.le_of_ble_eq_true rfl) wr_9_177 rfl ?_
      refine G_bipush 20 dr_cX17_list__158 (by decide +kernel) ?_
      refine G_icmp_ge 203 dr_cX17_list__160 (by decide +kernel) (fun hc2 => k203 _ _ _ _ _ _ _ _ h (by have p2 : (20 : Int) ≤ op.toInt := gj_leL hc2 (by decide); rw [← ew]; unfold zqB; rw [if_neg (by omega)] <;> rfl) (wdQ_w q (by decide +kernel))) (fun hc2 => ?_)
      have p2 : op.toInt < 20 := gj_nle hc2 rfl
      have p3 : op.toInt ≤ 14 := by omega
      refine G_aload_n 0 dr_cX17_list__163 rfl ?_
      refine Gp_get 29 (Mm h).1 (Mm h).2 dr_cX17_list__164 (gk_X17 D I) (Nat.le_of_ble_eq_true rfl) wr_7_103 rfl ?_
      refine G_bipush 32 dr_cX17_list__167 (by decide +kernel) ?_
      refine Gw_appC hl0 dr_cX17_list__169 ⟨wr_11_186, wr_1_20, wr_8_0, by decide, rfl, (Nat.le_of_ble_eq_true rfl), (Nat.le_of_ble_eq_true rfl)⟩ wr_7_238 wr_7_239 h ⟨by decide, by decide⟩ (rmW_n (k := 1) hr q (hCk _ (by decide +kernel)) (by decide +kernel)) (rmW_1 (k := 1) hr q (hCk _ (by decide +kernel)) (by decide +kernel)) (rmW_2 (k := 1) hr q (hCk _ (by decide +kernel)) (by decide +kernel)) (rmW_3 (k := 1) hr q (hCk _ (by decide +kernel))) (Nat.le_of_ble_eq_true rfl) (fun P F a n c dc ds h q2 => ?_)
      have q := wdQ_t q q2
      refine G_pop dr_cX17_list__172 rfl ?_
      refine G_aload_n 0 dr_cX17_list__173 rfl ?_
      refine G_aload_n 1 dr_cX17_list__174 rfl ?_
      refine Gp_get 0 (Xx h).1 (Xx h).2 dr_cX17_list__175 (gk_X15 D I) (Nat.le_of_ble_eq_true rfl) wr_9_177 rfl ?_
      refine Gw_callV (As := [.int op]) (gV_ok D I) (cp_sgn l hl0 D I (C := C) hm rfl he h (by omega) p3 (wdQ_c (k := 2) q (hCk _ (by decide +kernel))) (rmW_s (k := 2) hr q (hCk _ (by decide +kernel)) (by decide)).1) dr_cX17_list__178 ⟨wr_11_200, wr_1_14, wr_11_203, by decide, rfl, (Nat.le_of_ble_eq_true rfl), (Nat.le_of_ble_eq_true rfl)⟩ wr_11_202 wr_p_119 (Mm h).1 (Mm h).2 rfl (rmW_s (k := 2) hr q (hCk _ (by decide +kernel)) (by decide)).2.1 (rmW_s (k := 2) hr q (hCk _ (by decide +kernel)) (by decide)).2.2 (Nat.le_of_ble_eq_true rfl) (fun r w dc ds hp => ?_) (fun _ _ _ _ _ z => z.elim)
      obtain ⟨P, F, a, n, c, rfl, rfl, h, q2⟩ := hp
      have q := wdQ_t q q2
      change G _ _ _ _ _ _ _ [] _ _ _
      refine G_aload_n 0 dr_cX17_list__181 rfl ?_
      refine Gp_get 29 (Mm h).1 (Mm h).2 dr_cX17_list__182 (gk_X17 D I) (Nat.le_of_ble_eq_true rfl) wr_7_103 rfl ?_
      refine G_bipush 32 dr_cX17_list__185 (by decide +kernel) ?_
      refine Gw_appC hl0 dr_cX17_list__187 ⟨wr_11_186, wr_1_20, wr_8_0, by decide, rfl, (Nat.le_of_ble_eq_true rfl), (Nat.le_of_ble_eq_true rfl)⟩ wr_7_238 wr_7_239 h ⟨by decide, by decide⟩ (rmW_n (k := 1) hr q (hCk _ (by decide +kernel)) (by decide +kernel)) (rmW_1 (k := 1) hr q (hCk _ (by decide +kernel)) (by decide +kernel)) (rmW_2 (k := 1) hr q (hCk _ (by decide +kernel)) (by decide +kernel)) (rmW_3 (k := 1) hr q (hCk _ (by decide +kernel))) (Nat.le_of_ble_eq_true rfl) (fun P F a n c dc ds h q2 => ?_)
      have q := wdQ_t q q2
      refine G_pop dr_cX17_list__190 rfl ?_
      refine G_aload_n 0 dr_cX17_list__191 rfl ?_
      refine G_aload_n 1 dr_cX17_list__192 rfl ?_
      refine Gp_get 6 (Xx h).1 (Xx h).2 dr_cX17_list__193 (gk_X15 D I) (Nat.le_of_ble_eq_true rfl) wr_9_202 rfl ?_
      refine G_aload_n 1 dr_cX17_list__196 rfl ?_
      refine Gp_get 3 (Xx h).1 (Xx h).2 dr_cX17_list__197 (gk_X15 D I) (Nat.le_of_ble_eq_true rfl) wr_9_190 rfl ?_
      refine Gw_callV (As := [.int rb, .int xb]) (gV_ok D I) (cp_opd l hl0 D I (C := C) hm rfl he h  (wdQ_c (k := 12) q (hCk _ (by decide +kernel))) (rmW_s (k := 12) hr q (hCk _ (by decide +kernel)) (by decide)).1) dr_cX17_list__200 ⟨wr_11_196, wr_1_14, wr_11_199, by decide, rfl, (Nat.le_of_ble_eq_true rfl), (Nat.le_of_ble_eq_true rfl)⟩ wr_11_198 wr_p_118 (Mm h).1 (Mm h).2 rfl (rmW_s (k := 12) hr q (hCk _ (by decide +kernel)) (by decide)).2.1 (rmW_s (k := 12) hr q (hCk _ (by decide +kernel)) (by decide)).2.2 (Nat.le_of_ble_eq_true rfl) (fun r w dc ds hp => ?_) (fun _ _ _ _ _ z => z.elim)
      obtain ⟨P, F, a, n, c, rfl, rfl, h, q2⟩ := hp
      have q := wdQ_t q q2
      change G _ _ _ _ _ _ _ [] _ _ _
      exact k203 _ _ _ _ _ _ _ _ h (by rw [← ew]; unfold zqB; rw [if_pos ⟨p1, p2⟩]; simp only [List.append_assoc]) (wdQ_w q (by decide +kernel))
  have k82 : ∀ (P : List Nat) (F : Nat → va_E) (a n : Nat) (c : Int32) (cs sl : Nat) (ws : List Int32), wdS D I P0 F0 γ el (γ 9 29) P F a n c ws → ws ++ (zrA op xa s ra ++ (zqB op rb xb ++ [10])) = ws0 ++ zrL op t xa xb s ra rb → wdQ n0 c0 n c 19 cs sl → G (gV D I) l (gRm 7 170 mc ms) (gMA (gV D I) (wdP D I P0 F0 γ el (γ 9 29) n0 c0 52 (ws0 ++ zrL op t xa xb s ra rb)) gNA mc ms) ky_lrw 82 [(0, .ref m), (1, .ref x)] [] (va_pl P F) cs sl := fun P F a n c cs sl ws h ew q => by
    refine G_aload_n 1 dr_cX17_list__82 rfl ?_
    refine Gp_get 0 (Xx h).1 (Xx h).2 dr_cX17_list__83 (gk_X15 D I) (Nat.le_of_ble_eq_true rfl) wr_9_177 rfl ?_
    refine G_bipush 20 dr_cX17_list__86 (by decide +kernel) ?_
    refine G_icmp_ne 105 dr_cX17_list__88 (by decide +kernel) (fun c20 => ?_) (fun c20 => ?_)
    · refine G_aload_n 1 dr_cX17_list__105 rfl ?_
      refine Gp_get 0 (Xx h).1 (Xx h).2 dr_cX17_list__106 (gk_X15 D I) (Nat.le_of_ble_eq_true rfl) wr_9_177 rfl ?_
      refine G_bipush 21 dr_cX17_list__109 (by decide +kernel) ?_
      refine G_icmp_ne 135 dr_cX17_list__111 (by decide +kernel) (fun c21 => ?_) (fun c21 => ?_)
      · refine G_aload_n 0 dr_cX17_list__135 rfl ?_
        refine G_aload_n 1 dr_cX17_list__136 rfl ?_
        refine Gp_get 5 (Xx h).1 (Xx h).2 dr_cX17_list__137 (gk_X15 D I) (Nat.le_of_ble_eq_true rfl) wr_9_197 rfl ?_
        refine G_aload_n 1 dr_cX17_list__140 rfl ?_
        refine Gp_get 2 (Xx h).1 (Xx h).2 dr_cX17_list__141 (gk_X15 D I) (Nat.le_of_ble_eq_true rfl) wr_9_186 rfl ?_
        refine Gw_callV (As := [.int ra, .int xa]) (gV_ok D I) (cp_opd l hl0 D I (C := C) hm rfl he h  (wdQ_c (k := 12) q (hCk _ (by decide +kernel))) (rmW_s (k := 12) hr q (hCk _ (by decide +kernel)) (by decide)).1) dr_cX17_list__144 ⟨wr_11_196, wr_1_14, wr_11_199, by decide, rfl, (Nat.le_of_ble_eq_true rfl), (Nat.le_of_ble_eq_true rfl)⟩ wr_11_198 wr_p_118 (Mm h).1 (Mm h).2 rfl (rmW_s (k := 12) hr q (hCk _ (by decide +kernel)) (by decide)).2.1 (rmW_s (k := 12) hr q (hCk _ (by decide +kernel)) (by decide)).2.2 (Nat.le_of_ble_eq_true rfl) (fun r w dc ds hp => ?_) (fun _ _ _ _ _ z => z.elim)
        obtain ⟨P, F, a, n, c, rfl, rfl, h, q2⟩ := hp
        have q := wdQ_t q q2
        change G _ _ _ _ _ _ _ [] _ _ _
        exact k147 _ _ _ _ _ _ _ _ h (by rw [← ew]; unfold zrA; rw [if_neg c20, if_neg c21]; simp only [List.append_assoc]) (wdQ_w q (by decide +kernel))
      · refine G_aload_n 0 dr_cX17_list__114 rfl ?_
        refine Gp_get 29 (Mm h).1 (Mm h).2 dr_cX17_list__115 (gk_X17 D I) (Nat.le_of_ble_eq_true rfl) wr_7_103 rfl ?_
        refine G_ldwK (a := D.2 1000 55) dr_cX17_list__118 (fun _ _ _ h => gx_vk 55 rfl rfl h) ?_
        refine Gw_appS (bs := sb_55) (qs := D.2 1000 55) (qb := D.2 1001 55) hl0 dr_cX17_list__121 ⟨wr_10_100, wr_1_20, wr_8_143, by decide, rfl, (Nat.le_of_ble_eq_true rfl), (Nat.le_of_ble_eq_true rfl)⟩ wr_8_141 wr_8_142 h (gx_sc 55 rfl rfl) (by decide +kernel) (by decide +kernel) (rmW_n (k := (sb_55.length : Int)) hr q (hCk _ (by decide +kernel)) (by decide +kernel)) (rmW_1 (k := (sb_55.length : Int)) hr q (hCk _ (by decide +kernel)) (by decide +kernel)) (rmW_2 (k := (sb_55.length : Int)) hr q (hCk _ (by decide +kernel)) (by decide +kernel)) (rmW_3 (k := (sb_55.length : Int)) hr q (hCk _ (by decide +kernel))) (Nat.le_of_ble_eq_true rfl) (fun P F a n c dc ds h q2 => ?_)
        have q := wdQ_t q q2
        refine G_aload_n 1 dr_cX17_list__124 rfl ?_
        refine Gp_get 4 (Xx h).1 (Xx h).2 dr_cX17_list__125 (gk_X15 D I) (Nat.le_of_ble_eq_true rfl) wr_9_193 rfl ?_
        refine Gw_appI hl0 dr_cX17_list__128 ⟨wr_11_187, wr_1_20, wr_8_108, by decide, rfl, (Nat.le_of_ble_eq_true rfl), (Nat.le_of_ble_eq_true rfl)⟩ wr_8_106 wr_8_107 h (rmW_n (k := 11) hr q (hCk _ (by decide +kernel)) (by decide +kernel)) (rmW_1 (k := 11) hr q (hCk _ (by decide +kernel)) (by decide +kernel)) (rmW_2 (k := 11) hr q (hCk _ (by decide +kernel)) (by decide +kernel)) (rmW_3 (k := 11) hr q (hCk _ (by decide +kernel))) (Nat.le_of_ble_eq_true rfl) (fun P F a n c dc ds h q2 => ?_)
        have q := wdQ_t q q2
        refine G_pop dr_cX17_list__131 rfl ?_
        refine G_goto 147 dr_cX17_list__132 (by decide +kernel) ?_
        exact k147 _ _ _ _ _ _ _ _ h (by rw [← ew]; unfold zrA; rw [if_neg c20, if_pos c21]; simp only [List.append_assoc]) (wdQ_w q (by decide +kernel))
    · refine G_aload_n 0 dr_cX17_list__91 rfl ?_
      refine Gp_get 29 (Mm h).1 (Mm h).2 dr_cX17_list__92 (gk_X17 D I) (Nat.le_of_ble_eq_true rfl) wr_7_103 rfl ?_
      refine G_ldwK (a := D.2 1000 57) dr_cX17_list__95 (fun _ _ _ h => gx_vk 57 rfl rfl h) ?_
      refine Gw_appS (bs := sb_57) (qs := D.2 1000 57) (qb := D.2 1001 57) hl0 dr_cX17_list__98 ⟨wr_10_100, wr_1_20, wr_8_143, by decide, rfl, (Nat.le_of_ble_eq_true rfl), (Nat.le_of_ble_eq_true rfl)⟩ wr_8_141 wr_8_142 h (gx_sc 57 rfl rfl) (by decide +kernel) (by decide +kernel) (rmW_n (k := (sb_57.length : Int)) hr q (hCk _ (by decide +kernel)) (by decide +kernel)) (rmW_1 (k := (sb_57.length : Int)) hr q (hCk _ (by decide +kernel)) (by decide +kernel)) (rmW_2 (k := (sb_57.length : Int)) hr q (hCk _ (by decide +kernel)) (by decide +kernel)) (rmW_3 (k := (sb_57.length : Int)) hr q (hCk _ (by decide +kernel))) (Nat.le_of_ble_eq_true rfl) (fun P F a n c dc ds h q2 => ?_)
      have q := wdQ_t q q2
      refine G_pop dr_cX17_list__101 rfl ?_
      refine G_goto 147 dr_cX17_list__102 (by decide +kernel) ?_
      exact k147 _ _ _ _ _ _ _ _ h (by rw [← ew]; unfold zrA; rw [if_pos c20]; simp only [List.append_assoc]) (wdQ_w q (by decide +kernel))
  refine G_aload_n 1 dr_cX17_list__0 rfl ?_
  refine Gp_get 0 (Xx h).1 (Xx h).2 dr_cX17_list__1 (gk_X15 D I) (Nat.le_of_ble_eq_true rfl) wr_9_177 rfl ?_
  refine G_bipush 22 dr_cX17_list__4 (by decide +kernel) ?_
  refine G_icmp_ne 23 dr_cX17_list__6 (by decide +kernel) (fun c22 => ?_) (fun c22 => ?_)
  · refine G_aload_n 1 dr_cX17_list__23 rfl ?_
    refine Gp_get 0 (Xx h).1 (Xx h).2 dr_cX17_list__24 (gk_X15 D I) (Nat.le_of_ble_eq_true rfl) wr_9_177 rfl ?_
    refine G_bipush 23 dr_cX17_list__27 (by decide +kernel) ?_
    refine G_icmp_ne 59 dr_cX17_list__29 (by decide +kernel) (fun c23 => ?_) (fun c23 => ?_)
    · refine G_aload_n 0 dr_cX17_list__59 rfl ?_
      refine Gp_get 29 (Mm h).1 (Mm h).2 dr_cX17_list__60 (gk_X17 D I) (Nat.le_of_ble_eq_true rfl) wr_7_103 rfl ?_
      refine G_bipush 118 dr_cX17_list__63 (by decide +kernel) ?_
      refine Gw_appC hl0 dr_cX17_list__65 ⟨wr_11_186, wr_1_20, wr_8_0, by decide, rfl, (Nat.le_of_ble_eq_true rfl), (Nat.le_of_ble_eq_true rfl)⟩ wr_7_238 wr_7_239 h ⟨by decide, by decide⟩ (rmW_n (k := 1) hr q (hCk _ (by decide +kernel)) (by decide +kernel)) (rmW_1 (k := 1) hr q (hCk _ (by decide +kernel)) (by decide +kernel)) (rmW_2 (k := 1) hr q (hCk _ (by decide +kernel)) (by decide +kernel)) (rmW_3 (k := 1) hr q (hCk _ (by decide +kernel))) (Nat.le_of_ble_eq_true rfl) (fun P F a n c dc ds h q2 => ?_)
      have q := wdQ_t q q2
      refine G_aload_n 1 dr_cX17_list__68 rfl ?_
      refine Gp_get 1 (Xx h).1 (Xx h).2 dr_cX17_list__69 (gk_X15 D I) (Nat.le_of_ble_eq_true rfl) wr_9_182 rfl ?_
      refine Gw_appI hl0 dr_cX17_list__72 ⟨wr_11_187, wr_1_20, wr_8_108, by decide, rfl, (Nat.le_of_ble_eq_true rfl), (Nat.le_of_ble_eq_true rfl)⟩ wr_8_106 wr_8_107 h (rmW_n (k := 11) hr q (hCk _ (by decide +kernel)) (by decide +kernel)) (rmW_1 (k := 11) hr q (hCk _ (by decide +kernel)) (by decide +kernel)) (rmW_2 (k := 11) hr q (hCk _ (by decide +kernel)) (by decide +kernel)) (rmW_3 (k := 11) hr q (hCk _ (by decide +kernel))) (Nat.le_of_ble_eq_true rfl) (fun P F a n c dc ds h q2 => ?_)
      have q := wdQ_t q q2
      refine G_ldwK (a := D.2 1000 56) dr_cX17_list__75 (fun _ _ _ h => gx_vk 56 rfl rfl h) ?_
      refine Gw_appS (bs := sb_56) (qs := D.2 1000 56) (qb := D.2 1001 56) hl0 dr_cX17_list__78 ⟨wr_10_100, wr_1_20, wr_8_143, by decide, rfl, (Nat.le_of_ble_eq_true rfl), (Nat.le_of_ble_eq_true rfl)⟩ wr_8_141 wr_8_142 h (gx_sc 56 rfl rfl) (by decide +kernel) (by decide +kernel) (rmW_n (k := (sb_56.length : Int)) hr q (hCk _ (by decide +kernel)) (by decide +kernel)) (rmW_1 (k := (sb_56.length : Int)) hr q (hCk _ (by decide +kernel)) (by decide +kernel)) (rmW_2 (k := (sb_56.length : Int)) hr q (hCk _ (by decide +kernel)) (by decide +kernel)) (rmW_3 (k := (sb_56.length : Int)) hr q (hCk _ (by decide +kernel))) (Nat.le_of_ble_eq_true rfl) (fun P F a n c dc ds h q2 => ?_)
      have q := wdQ_t q q2
      refine G_pop dr_cX17_list__81 rfl ?_
      exact k82 _ _ _ _ _ _ _ _ h (by rw [← ew]; unfold zrL zrH; rw [if_neg c22, if_neg c23]; simp only [List.append_assoc]) (wdQ_w q (by decide +kernel))
    · refine G_aload_n 0 dr_cX17_list__32 rfl ?_
      refine Gp_get 29 (Mm h).1 (Mm h).2 dr_cX17_list__33 (gk_X17 D I) (Nat.le_of_ble_eq_true rfl) wr_7_103 rfl ?_
      refine G_ldwK (a := D.2 1000 55) dr_cX17_list__36 (fun _ _ _ h => gx_vk 55 rfl rfl h) ?_
      refine Gw_appS (bs := sb_55) (qs := D.2 1000 55) (qb := D.2 1001 55) hl0 dr_cX17_list__39 ⟨wr_10_100, wr_1_20, wr_8_143, by decide, rfl, (Nat.le_of_ble_eq_true rfl), (Nat.le_of_ble_eq_true rfl)⟩ wr_8_141 wr_8_142 h (gx_sc 55 rfl rfl) (by decide +kernel) (by decide +kernel) (rmW_n (k := (sb_55.length : Int)) hr q (hCk _ (by decide +kernel)) (by decide +kernel)) (rmW_1 (k := (sb_55.length : Int)) hr q (hCk _ (by decide +kernel)) (by decide +kernel)) (rmW_2 (k := (sb_55.length : Int)) hr q (hCk _ (by decide +kernel)) (by decide +kernel)) (rmW_3 (k := (sb_55.length : Int)) hr q (hCk _ (by decide +kernel))) (Nat.le_of_ble_eq_true rfl) (fun P F a n c dc ds h q2 => ?_)
      have q := wdQ_t q q2
      refine G_aload_n 1 dr_cX17_list__42 rfl ?_
      refine Gp_get 4 (Xx h).1 (Xx h).2 dr_cX17_list__43 (gk_X15 D I) (Nat.le_of_ble_eq_true rfl) wr_9_193 rfl ?_
      refine Gw_appI hl0 dr_cX17_list__46 ⟨wr_11_187, wr_1_20, wr_8_108, by decide, rfl, (Nat.le_of_ble_eq_true rfl), (Nat.le_of_ble_eq_true rfl)⟩ wr_8_106 wr_8_107 h (rmW_n (k := 11) hr q (hCk _ (by decide +kernel)) (by decide +kernel)) (rmW_1 (k := 11) hr q (hCk _ (by decide +kernel)) (by decide +kernel)) (rmW_2 (k := 11) hr q (hCk _ (by decide +kernel)) (by decide +kernel)) (rmW_3 (k := 11) hr q (hCk _ (by decide +kernel))) (Nat.le_of_ble_eq_true rfl) (fun P F a n c dc ds h q2 => ?_)
      have q := wdQ_t q q2
      refine G_ldwK (a := D.2 1000 56) dr_cX17_list__49 (fun _ _ _ h => gx_vk 56 rfl rfl h) ?_
      refine Gw_appS (bs := sb_56) (qs := D.2 1000 56) (qb := D.2 1001 56) hl0 dr_cX17_list__52 ⟨wr_10_100, wr_1_20, wr_8_143, by decide, rfl, (Nat.le_of_ble_eq_true rfl), (Nat.le_of_ble_eq_true rfl)⟩ wr_8_141 wr_8_142 h (gx_sc 56 rfl rfl) (by decide +kernel) (by decide +kernel) (rmW_n (k := (sb_56.length : Int)) hr q (hCk _ (by decide +kernel)) (by decide +kernel)) (rmW_1 (k := (sb_56.length : Int)) hr q (hCk _ (by decide +kernel)) (by decide +kernel)) (rmW_2 (k := (sb_56.length : Int)) hr q (hCk _ (by decide +kernel)) (by decide +kernel)) (rmW_3 (k := (sb_56.length : Int)) hr q (hCk _ (by decide +kernel))) (Nat.le_of_ble_eq_true rfl) (fun P F a n c dc ds h q2 => ?_)
      have q := wdQ_t q q2
      refine G_pop dr_cX17_list__55 rfl ?_
      refine G_goto 82 dr_cX17_list__56 (by decide +kernel) ?_
      exact k82 _ _ _ _ _ _ _ _ h (by rw [← ew]; unfold zrL zrH; rw [if_neg c22, if_pos c23]; simp only [List.append_assoc]) (wdQ_w q (by decide +kernel))
  · refine G_aload_n 0 dr_cX17_list__9 rfl ?_
    refine Gp_get 29 (Mm h).1 (Mm h).2 dr_cX17_list__10 (gk_X17 D I) (Nat.le_of_ble_eq_true rfl) wr_7_103 rfl ?_
    refine G_ldwK (a := D.2 1000 54) dr_cX17_list__13 (fun _ _ _ h => gx_vk 54 rfl rfl h) ?_
    refine Gw_appS (bs := sb_54) (qs := D.2 1000 54) (qb := D.2 1001 54) hl0 dr_cX17_list__16 ⟨wr_10_100, wr_1_20, wr_8_143, by decide, rfl, (Nat.le_of_ble_eq_true rfl), (Nat.le_of_ble_eq_true rfl)⟩ wr_8_141 wr_8_142 h (gx_sc 54 rfl rfl) (by decide +kernel) (by decide +kernel) (rmW_n (k := (sb_54.length : Int)) hr q (hCk _ (by decide +kernel)) (by decide +kernel)) (rmW_1 (k := (sb_54.length : Int)) hr q (hCk _ (by decide +kernel)) (by decide +kernel)) (rmW_2 (k := (sb_54.length : Int)) hr q (hCk _ (by decide +kernel)) (by decide +kernel)) (rmW_3 (k := (sb_54.length : Int)) hr q (hCk _ (by decide +kernel))) (Nat.le_of_ble_eq_true rfl) (fun P F a n c dc ds h q2 => ?_)
    have q := wdQ_t q q2
    refine G_pop dr_cX17_list__19 rfl ?_
    refine G_goto 82 dr_cX17_list__20 (by decide +kernel) ?_
    exact k82 _ _ _ _ _ _ _ _ h (by rw [← ew]; unfold zrL zrH; rw [if_pos c22]; simp only [List.append_assoc]) (wdQ_w q (by decide +kernel))
abbrev ky_lcd : gKey := (cX17_list, 5, "SpillForgeModel", none, [], "list", fun _ _ => True)
set_option maxRecDepth 100000 in
set_option maxHeartbeats 4000000 in
theorem lc_end {l : Launch} {D : va_G} {I : FieldType → ClassId} {P0 : List Nat} {F0 : Nat → va_E} {γ el : Nat → Nat → Nat} {n0 m cc bb lst nn g C mc ms r28 r35 : Nat} {c0 k fi se v9 v10 v11 v12 v13 v14 v23 v24 v25 v26 v27 v30 v32 v33 v34 : Int32} {Qf : gFin} {rk : Int} {T w0 : List Int32} (hl0 : l.stackTraces = false) (hT0 : RS D I P0 F0 γ el) (hm : γ 0 m = 10) (he : F0 m = mdE γ r28 r35 v9 v10 v11 v12 v13 v14 v23 v24 v25 v26 v27 v30 v32 v33 v34) (hb : γ 0 bb = 2) (eb : F0 bb = .inr (17, [.ref lst, .ref nn, .int fi, .int se])) (hn : γ 0 nn = 1) (hCk : ∀ j : Int, j ≤ rk + 43 → c0.toInt + j ≤ (C : Int)) (hr : rmW mc ms n0 C)
    (kk : ∀ (P : List Nat) (F : Nat → va_E) (a n : Nat) (c : Int32) (cs sl : Nat), wdS D I P0 F0 γ el (γ 9 29) P F a n c T → wdQ n0 c0 n c (rk + 43) cs sl → G (gV D I) l (gRm 8 200 mc ms) Qf ky_lcd 224 [(4, .ref nn), (3, .ref bb), (2, .int k), (0, .ref m), (1, .ref cc)] [] (va_pl P F) cs sl) {P : List Nat} {F : Nat → va_E} {a n cs sl : Nat} {c jj : Int32} {ws : List Int32} (h : wdS D I P0 F0 γ el (γ 9 29) P F a n c ws) (ew0 : ws ++ zlV (F0 nn) fi se = T) (q : wdQ n0 c0 n c rk cs sl) :
    G (gV D I) l (gRm 8 200 mc ms) Qf ky_lcd 85 [(4, .int jj), (3, .ref bb), (2, .int k), (0, .ref m), (1, .ref cc)] [] (va_pl P F) cs sl := by
  obtain ⟨op, t, xa, xb, s, ra, rb, x1, x2, x3, x4, x5, x6, x7, -⟩ := show rk_1 γ nn (F0 nn) from RS_o hT0 hn
  have Mm : ∀ {P : List Nat} {F : Nat → va_E} {a n : Nat} {c : Int32} {ws : List Int32}, wdS D I P0 F0 γ el (γ 9 29) P F a n c ws → m ∈ P ∧ F m = mdE γ r28 r35 v9 v10 v11 v12 v13 v14 v23 v24 v25 v26 v27 v30 v32 v33 v34 := fun h => ⟨(wdS_F h hm (by decide) (by decide) (by decide)).1, (wdS_F h hm (by decide) (by decide) (by decide)).2.trans he⟩
  have Bb : ∀ {P : List Nat} {F : Nat → va_E} {a n : Nat} {c : Int32} {ws : List Int32}, wdS D I P0 F0 γ el (γ 9 29) P F a n c ws → bb ∈ P ∧ F bb = .inr (17, [.ref lst, .ref nn, .int fi, .int se]) := fun h => ⟨(wdS_F h hb (by decide) (by decide) (by decide)).1, (wdS_F h hb (by decide) (by decide) (by decide)).2.trans eb⟩
  have Nn : ∀ {P : List Nat} {F : Nat → va_E} {a n : Nat} {c : Int32} {ws : List Int32}, wdS D I P0 F0 γ el (γ 9 29) P F a n c ws → nn ∈ P ∧ F nn = .inr (20, [.int op, .int t, .int xa, .int xb, .int s, .int ra, .int rb]) := fun h => ⟨(wdS_F h hn (by decide) (by decide) (by decide)).1, (wdS_F h hn (by decide) (by decide) (by decide)).2.trans x1⟩
  clear x2 x3 x4 x5 x6 x7
  have ew : ws ++ zrE op xa ra fi se = T := by rw [← ew0, x1]; rfl
  have k214 : ∀ (P : List Nat) (F : Nat → va_E) (a n : Nat) (c : Int32) (cs sl : Nat) (ws : List Int32), wdS D I P0 F0 γ el (γ 9 29) P F a n c ws → ws ++ [10] = T → wdQ n0 c0 n c (rk + 42) cs sl → G (gV D I) l (gRm 8 200 mc ms) Qf ky_lcd 214 [(4, .ref nn), (3, .ref bb), (2, .int k), (0, .ref m), (1, .ref cc)] [] (va_pl P F) cs sl := fun P F a n c cs sl ws h ew q => by
    refine G_aload_n 3 dr_cX17_list_214 rfl ?_
    refine Gp_get 29 (Mm h).1 (Mm h).2 dr_cX17_list_215 (gk_X17 D I) (Nat.le_of_ble_eq_true rfl) wr_7_103 rfl ?_
    refine G_bipush 10 dr_cX17_list_218 (by decide +kernel) ?_
    refine Gw_appC hl0 dr_cX17_list_220 ⟨wr_11_186, wr_1_20, wr_8_0, by decide, rfl, (Nat.le_of_ble_eq_true rfl), (Nat.le_of_ble_eq_true rfl)⟩ wr_7_238 wr_7_239 h ⟨by decide, by decide⟩ (rmW_n (k := 1) hr q (hCk _ (by omega)) (by decide +kernel)) (rmW_1 (k := 1) hr q (hCk _ (by omega)) (by decide +kernel)) (rmW_2 (k := 1) hr q (hCk _ (by omega)) (by decide +kernel)) (rmW_3 (k := 1) hr q (hCk _ (by omega))) (Nat.le_of_ble_eq_true rfl) (fun P F a n c dc ds h q2 => ?_)
    have q := wdQ_t q q2
    refine G_pop dr_cX17_list_223 rfl ?_
    exact kk _ _ _ _ _ _ _ (by rw [← ew]; exact h) (wdQ_w q (by omega))
  have k186 : ∀ (P : List Nat) (F : Nat → va_E) (a n : Nat) (c : Int32) (cs sl : Nat) (ws : List Int32), wdS D I P0 F0 γ el (γ 9 29) P F a n c ws → ws ++ (zrN op se ++ [10]) = T → wdQ n0 c0 n c (rk + 29) cs sl → G (gV D I) l (gRm 8 200 mc ms) Qf ky_lcd 186 [(4, .ref nn), (3, .ref bb), (2, .int k), (0, .ref m), (1, .ref cc)] [] (va_pl P F) cs sl := fun P F a n c cs sl ws h ew q => by
    refine G_aload 0 dr_cX17_list_186 rfl ?_
    refine Gp_get 0 (Nn h).1 (Nn h).2 dr_cX17_list_188 (gk_X15 D I) (Nat.le_of_ble_eq_true rfl) wr_9_177 rfl ?_
    refine G_bipush 31 dr_cX17_list_191 (by decide +kernel) ?_
    refine G_icmp_ne 214 dr_cX17_list_193 (by decide +kernel) (fun c31 => k214 _ _ _ _ _ _ _ _ h (by rw [← ew]; unfold zrN; rw [if_neg c31] <;> rfl) (wdQ_w q (by omega))) (fun c31 => ?_)
    refine G_aload_n 3 dr_cX17_list_196 rfl ?_
    refine Gp_get 29 (Mm h).1 (Mm h).2 dr_cX17_list_197 (gk_X17 D I) (Nat.le_of_ble_eq_true rfl) wr_7_103 rfl ?_
    refine G_ldwK (a := D.2 1000 61) dr_cX17_list_200 (fun _ _ _ h => gx_vk 61 rfl rfl h) ?_
    have hl61 : (sb_61.length : Int) = 2 := rfl
    refine Gw_appS (bs := sb_61) (qs := D.2 1000 61) (qb := D.2 1001 61) hl0 dr_cX17_list_203 ⟨wr_10_100, wr_1_20, wr_8_143, by decide, rfl, (Nat.le_of_ble_eq_true rfl), (Nat.le_of_ble_eq_true rfl)⟩ wr_8_141 wr_8_142 h (gx_sc 61 rfl rfl) (by decide +kernel) (by decide +kernel) (rmW_n (k := (sb_61.length : Int)) hr q (hCk _ (by omega)) (by decide +kernel)) (rmW_1 (k := (sb_61.length : Int)) hr q (hCk _ (by omega)) (by decide +kernel)) (rmW_2 (k := (sb_61.length : Int)) hr q (hCk _ (by omega)) (by decide +kernel)) (rmW_3 (k := (sb_61.length : Int)) hr q (hCk _ (by omega))) (Nat.le_of_ble_eq_true rfl) (fun P F a n c dc ds h q2 => ?_)
    have q := wdQ_t q q2
    refine G_aload_n 1 dr_cX17_list_206 rfl ?_
    refine Gp_get 3 (Bb h).1 (Bb h).2 dr_cX17_list_207 (gk_X12 D I) (Nat.le_of_ble_eq_true rfl) wr_9_233 rfl ?_
    refine Gw_appI hl0 dr_cX17_list_210 ⟨wr_11_187, wr_1_20, wr_8_108, by decide, rfl, (Nat.le_of_ble_eq_true rfl), (Nat.le_of_ble_eq_true rfl)⟩ wr_8_106 wr_8_107 h (rmW_n (k := 11) hr q (hCk _ (by omega)) (by decide +kernel)) (rmW_1 (k := 11) hr q (hCk _ (by omega)) (by decide +kernel)) (rmW_2 (k := 11) hr q (hCk _ (by omega)) (by decide +kernel)) (rmW_3 (k := 11) hr q (hCk _ (by omega))) (Nat.le_of_ble_eq_true rfl) (fun P F a n c dc ds h q2 => ?_)
    have q := wdQ_t q q2
    refine G_pop dr_cX17_list_213 rfl ?_
    exact k214 _ _ _ _ _ _ _ _ h (by rw [← ew]; unfold zrN; rw [if_pos c31]; simp only [List.append_assoc]) (wdQ_w q (by omega))
  have k158 : ∀ (P : List Nat) (F : Nat → va_E) (a n : Nat) (c : Int32) (cs sl : Nat) (ws : List Int32), wdS D I P0 F0 γ el (γ 9 29) P F a n c ws → ws ++ (zrM op fi ++ (zrN op se ++ [10])) = T → wdQ n0 c0 n c (rk + 16) cs sl → G (gV D I) l (gRm 8 200 mc ms) Qf ky_lcd 158 [(4, .ref nn), (3, .ref bb), (2, .int k), (0, .ref m), (1, .ref cc)] [] (va_pl P F) cs sl := fun P F a n c cs sl ws h ew q => by
    refine G_aload 0 dr_cX17_list_158 rfl ?_
    refine Gp_get 0 (Nn h).1 (Nn h).2 dr_cX17_list_160 (gk_X15 D I) (Nat.le_of_ble_eq_true rfl) wr_9_177 rfl ?_
    refine G_bipush 32 dr_cX17_list_163 (by decide +kernel) ?_
    refine G_icmp_eq 186 dr_cX17_list_165 (by decide +kernel) (fun c32 => k186 _ _ _ _ _ _ _ _ h (by rw [← ew]; unfold zrM; rw [if_pos c32] <;> rfl) (wdQ_w q (by omega))) (fun c32 => ?_)
    refine G_aload_n 3 dr_cX17_list_168 rfl ?_
    refine Gp_get 29 (Mm h).1 (Mm h).2 dr_cX17_list_169 (gk_X17 D I) (Nat.le_of_ble_eq_true rfl) wr_7_103 rfl ?_
    refine G_ldwK (a := D.2 1000 61) dr_cX17_list_172 (fun _ _ _ h => gx_vk 61 rfl rfl h) ?_
    have hl61 : (sb_61.length : Int) = 2 := rfl
    refine Gw_appS (bs := sb_61) (qs := D.2 1000 61) (qb := D.2 1001 61) hl0 dr_cX17_list_175 ⟨wr_10_100, wr_1_20, wr_8_143, by decide, rfl, (Nat.le_of_ble_eq_true rfl), (Nat.le_of_ble_eq_true rfl)⟩ wr_8_141 wr_8_142 h (gx_sc 61 rfl rfl) (by decide +kernel) (by decide +kernel) (rmW_n (k := (sb_61.length : Int)) hr q (hCk _ (by omega)) (by decide +kernel)) (rmW_1 (k := (sb_61.length : Int)) hr q (hCk _ (by omega)) (by decide +kernel)) (rmW_2 (k := (sb_61.length : Int)) hr q (hCk _ (by omega)) (by decide +kernel)) (rmW_3 (k := (sb_61.length : Int)) hr q (hCk _ (by omega))) (Nat.le_of_ble_eq_true rfl) (fun P F a n c dc ds h q2 => ?_)
    have q := wdQ_t q q2
    refine G_aload_n 1 dr_cX17_list_178 rfl ?_
    refine Gp_get 2 (Bb h).1 (Bb h).2 dr_cX17_list_179 (gk_X12 D I) (Nat.le_of_ble_eq_true rfl) wr_9_229 rfl ?_
    refine Gw_appI hl0 dr_cX17_list_182 ⟨wr_11_187, wr_1_20, wr_8_108, by decide, rfl, (Nat.le_of_ble_eq_true rfl), (Nat.le_of_ble_eq_true rfl)⟩ wr_8_106 wr_8_107 h (rmW_n (k := 11) hr q (hCk _ (by omega)) (by decide +kernel)) (rmW_1 (k := 11) hr q (hCk _ (by omega)) (by decide +kernel)) (rmW_2 (k := 11) hr q (hCk _ (by omega)) (by decide +kernel)) (rmW_3 (k := 11) hr q (hCk _ (by omega))) (Nat.le_of_ble_eq_true rfl) (fun P F a n c dc ds h q2 => ?_)
    have q := wdQ_t q q2
    refine G_pop dr_cX17_list_185 rfl ?_
    exact k186 _ _ _ _ _ _ _ _ h (by rw [← ew]; unfold zrM; rw [if_neg c32]; simp only [List.append_assoc]) (wdQ_w q (by omega))
  have k134 : ∀ (P : List Nat) (F : Nat → va_E) (a n : Nat) (c : Int32) (cs sl : Nat) (ws : List Int32), wdS D I P0 F0 γ el (γ 9 29) P F a n c ws → ws ++ (zrK op xa ra ++ (zrM op fi ++ (zrN op se ++ [10]))) = T → wdQ n0 c0 n c (rk + 4) cs sl → G (gV D I) l (gRm 8 200 mc ms) Qf ky_lcd 134 [(4, .ref nn), (3, .ref bb), (2, .int k), (0, .ref m), (1, .ref cc)] [] (va_pl P F) cs sl := fun P F a n c cs sl ws h ew q => by
    refine G_aload 0 dr_cX17_list_134 rfl ?_
    refine Gp_get 0 (Nn h).1 (Nn h).2 dr_cX17_list_136 (gk_X15 D I) (Nat.le_of_ble_eq_true rfl) wr_9_177 rfl ?_
    refine G_bipush 30 dr_cX17_list_139 (by decide +kernel) ?_
    refine G_icmp_eq 158 dr_cX17_list_141 (by decide +kernel) (fun c30 => k158 _ _ _ _ _ _ _ _ h (by rw [← ew]; unfold zrK; rw [if_pos c30] <;> rfl) (wdQ_w q (by omega))) (fun c30 => ?_)
    refine G_aload_n 3 dr_cX17_list_144 rfl ?_
    refine G_aload 0 dr_cX17_list_145 rfl ?_
    refine Gp_get 5 (Nn h).1 (Nn h).2 dr_cX17_list_147 (gk_X15 D I) (Nat.le_of_ble_eq_true rfl) wr_9_197 rfl ?_
    refine G_aload 0 dr_cX17_list_150 rfl ?_
    refine Gp_get 2 (Nn h).1 (Nn h).2 dr_cX17_list_152 (gk_X15 D I) (Nat.le_of_ble_eq_true rfl) wr_9_186 rfl ?_
    refine Gw_callV (As := [.int ra, .int xa]) (gV_ok D I) (cp_opd l hl0 D I (C := C)  hm rfl he h (wdQ_c (k := 12) q (hCk _ (by omega))) (rmW_s (k := 12) hr q (hCk _ (by omega)) (by decide)).1) dr_cX17_list_155 ⟨wr_11_196, wr_1_14, wr_11_199, by decide, rfl, (Nat.le_of_ble_eq_true rfl), (Nat.le_of_ble_eq_true rfl)⟩ wr_11_198 wr_p_118 (Mm h).1 (Mm h).2 rfl (rmW_s (k := 12) hr q (hCk _ (by omega)) (by decide)).2.1 (rmW_s (k := 12) hr q (hCk _ (by omega)) (by decide)).2.2 (Nat.le_of_ble_eq_true rfl) (fun r w dc ds hp => ?_) (fun _ _ _ _ _ z => z.elim)
    obtain ⟨P, F, a, n, c, rfl, rfl, h, q2⟩ := hp
    have q := wdQ_t q q2
    change G _ _ _ _ _ _ _ [] _ _ _
    exact k158 _ _ _ _ _ _ _ _ h (by rw [← ew]; unfold zrK; rw [if_neg c30]; simp only [List.append_assoc]) (wdQ_w q (by omega))
  refine G_aload_n 1 dr_cX17_list_85 rfl ?_
  refine Gp_get 1 (Bb h).1 (Bb h).2 dr_cX17_list_86 (gk_X12 D I) (Nat.le_of_ble_eq_true rfl) wr_9_223 rfl ?_
  refine G_astore (L' := [(4, .ref nn), (3, .ref bb), (2, .int k), (0, .ref m), (1, .ref cc)]) dr_cX17_list_89 (Nat.le_of_ble_eq_true rfl) rfl ?_
  refine G_aload_n 3 dr_cX17_list_91 rfl ?_
  refine Gp_get 29 (Mm h).1 (Mm h).2 dr_cX17_list_92 (gk_X17 D I) (Nat.le_of_ble_eq_true rfl) wr_7_103 rfl ?_
  refine G_aload 0 dr_cX17_list_95 rfl ?_
  refine Gp_get 0 (Nn h).1 (Nn h).2 dr_cX17_list_97 (gk_X15 D I) (Nat.le_of_ble_eq_true rfl) wr_9_177 rfl ?_
  refine G_bipush 30 dr_cX17_list_100 (by decide +kernel) ?_
  refine G_icmp_ne 111 dr_cX17_list_102 (by decide +kernel) (fun c30 => ?_) (fun c30 => ?_)
  · refine G_aload 0 dr_cX17_list_111 rfl ?_
    refine Gp_get 0 (Nn h).1 (Nn h).2 dr_cX17_list_113 (gk_X15 D I) (Nat.le_of_ble_eq_true rfl) wr_9_177 rfl ?_
    refine G_bipush 31 dr_cX17_list_116 (by decide +kernel) ?_
    refine G_icmp_ne 127 dr_cX17_list_118 (by decide +kernel) (fun c31 => ?_) (fun c31 => ?_)
    · refine G_ldwK (a := D.2 1000 60) dr_cX17_list_127 (fun _ _ _ h => gx_vk 60 rfl rfl h) ?_
      have hl60 : (sb_60.length : Int) = 4 := rfl
      refine Gw_appS (bs := sb_60) (qs := D.2 1000 60) (qb := D.2 1001 60) hl0 dr_cX17_list_130 ⟨wr_10_100, wr_1_20, wr_8_143, by decide, rfl, (Nat.le_of_ble_eq_true rfl), (Nat.le_of_ble_eq_true rfl)⟩ wr_8_141 wr_8_142 h (gx_sc 60 rfl rfl) (by decide +kernel) (by decide +kernel) (rmW_n (k := (sb_60.length : Int)) hr q (hCk _ (by omega)) (by decide +kernel)) (rmW_1 (k := (sb_60.length : Int)) hr q (hCk _ (by omega)) (by decide +kernel)) (rmW_2 (k := (sb_60.length : Int)) hr q (hCk _ (by omega)) (by decide +kernel)) (rmW_3 (k := (sb_60.length : Int)) hr q (hCk _ (by omega))) (Nat.le_of_ble_eq_true rfl) (fun P F a n c dc ds h q2 => ?_)
      have q := wdQ_t q q2
      refine G_pop dr_cX17_list_133 rfl ?_
      exact k134 _ _ _ _ _ _ _ _ h (by rw [← ew]; unfold zrE zrJ; rw [if_neg c30, if_neg c31]; simp only [List.append_assoc]) (wdQ_w q (by omega))
    · refine G_ldwK (a := D.2 1000 59) dr_cX17_list_121 (fun _ _ _ h => gx_vk 59 rfl rfl h) ?_
      refine G_goto 130 dr_cX17_list_124 (by decide +kernel) ?_
      have hl59 : (sb_59.length : Int) = 3 := rfl
      refine Gw_appS (bs := sb_59) (qs := D.2 1000 59) (qb := D.2 1001 59) hl0 dr_cX17_list_130 ⟨wr_10_100, wr_1_20, wr_8_143, by decide, rfl, (Nat.le_of_ble_eq_true rfl), (Nat.le_of_ble_eq_true rfl)⟩ wr_8_141 wr_8_142 h (gx_sc 59 rfl rfl) (by decide +kernel) (by decide +kernel) (rmW_n (k := (sb_59.length : Int)) hr q (hCk _ (by omega)) (by decide +kernel)) (rmW_1 (k := (sb_59.length : Int)) hr q (hCk _ (by omega)) (by decide +kernel)) (rmW_2 (k := (sb_59.length : Int)) hr q (hCk _ (by omega)) (by decide +kernel)) (rmW_3 (k := (sb_59.length : Int)) hr q (hCk _ (by omega))) (Nat.le_of_ble_eq_true rfl) (fun P F a n c dc ds h q2 => ?_)
      have q := wdQ_t q q2
      refine G_pop dr_cX17_list_133 rfl ?_
      exact k134 _ _ _ _ _ _ _ _ h (by rw [← ew]; unfold zrE zrJ; rw [if_neg c30, if_pos c31]; simp only [List.append_assoc]) (wdQ_w q (by omega))
  · refine G_ldwK (a := D.2 1000 58) dr_cX17_list_105 (fun _ _ _ h => gx_vk 58 rfl rfl h) ?_
    refine G_goto 130 dr_cX17_list_108 (by decide +kernel) ?_
    have hl58 : (sb_58.length : Int) = 4 := rfl
    refine Gw_appS (bs := sb_58) (qs := D.2 1000 58) (qb := D.2 1001 58) hl0 dr_cX17_list_130 ⟨wr_10_100, wr_1_20, wr_8_143, by decide, rfl, (Nat.le_of_ble_eq_true rfl), (Nat.le_of_ble_eq_true rfl)⟩ wr_8_141 wr_8_142 h (gx_sc 58 rfl rfl) (by decide +kernel) (by decide +kernel) (rmW_n (k := (sb_58.length : Int)) hr q (hCk _ (by omega)) (by decide +kernel)) (rmW_1 (k := (sb_58.length : Int)) hr q (hCk _ (by omega)) (by decide +kernel)) (rmW_2 (k := (sb_58.length : Int)) hr q (hCk _ (by omega)) (by decide +kernel)) (rmW_3 (k := (sb_58.length : Int)) hr q (hCk _ (by omega))) (Nat.le_of_ble_eq_true rfl) (fun P F a n c dc ds h q2 => ?_)
    have q := wdQ_t q q2
    refine G_pop dr_cX17_list_133 rfl ?_
    exact k134 _ _ _ _ _ _ _ _ h (by rw [← ew]; unfold zrE zrJ; rw [if_pos c30]; simp only [List.append_assoc]) (wdQ_w q (by omega))
set_option maxRecDepth 100000 in
set_option maxHeartbeats 4000000 in
theorem lc_rows {l : Launch} {D : va_G} {I : FieldType → ClassId} {P0 : List Nat} {F0 : Nat → va_E} {γ el : Nat → Nat → Nat} {n0 m cc bb lst nn g C mc ms r28 r35 : Nat} {c0 k fi se v9 v10 v11 v12 v13 v14 v23 v24 v25 v26 v27 v30 v32 v33 v34 : Int32} {Qf : gFin} {rk : Int} {T w0 : List Int32} (hl0 : l.stackTraces = false) (hT0 : RS D I P0 F0 γ el) (hm : γ 0 m = 10) (he : F0 m = mdE γ r28 r35 v9 v10 v11 v12 v13 v14 v23 v24 v25 v26 v27 v30 v32 v33 v34) (hb : γ 0 bb = 2) (eb : F0 bb = .inr (17, [.ref lst, .ref nn, .int fi, .int se])) (hl3 : γ 0 lst = 3) (hg : γ 2 lst = g) (hCk : ∀ j : Int, j ≤ rk + 52 * (g : Int) → c0.toInt + j ≤ (C : Int)) (hr : rmW mc ms n0 C)
    (kk : ∀ (P : List Nat) (F : Nat → va_E) (a n : Nat) (c jj : Int32) (cs sl : Nat), wdS D I P0 F0 γ el (γ 9 29) P F a n c (w0 ++ zrR el F0 lst g) → wdQ n0 c0 n c (rk + 52 * (g : Int)) cs sl → G (gV D I) l (gRm 8 200 mc ms) Qf ky_lcd 85 [(4, .int jj), (3, .ref bb), (2, .int k), (0, .ref m), (1, .ref cc)] [] (va_pl P F) cs sl) :
    ∀ (μ : Nat) (P : List Nat) (F : Nat → va_E) (a n : Nat) (c jj : Int32) (cs sl : Nat), (g : Int) - jj.toInt < (μ : Int) → 0 ≤ jj.toInt → jj.toInt ≤ (g : Int) → wdS D I P0 F0 γ el (γ 9 29) P F a n c (w0 ++ zrR el F0 lst jj.toInt.toNat) → wdQ n0 c0 n c (rk + 52 * jj.toInt) cs sl → G (gV D I) l (gRm 8 200 mc ms) Qf ky_lcd 51 [(4, .int jj), (3, .ref bb), (2, .int k), (0, .ref m), (1, .ref cc)] [] (va_pl P F) cs sl := by
  have Mm : ∀ {P : List Nat} {F : Nat → va_E} {a n : Nat} {c : Int32} {ws : List Int32}, wdS D I P0 F0 γ el (γ 9 29) P F a n c ws → m ∈ P ∧ F m = mdE γ r28 r35 v9 v10 v11 v12 v13 v14 v23 v24 v25 v26 v27 v30 v32 v33 v34 := fun h => ⟨(wdS_F h hm (by decide) (by decide) (by decide)).1, (wdS_F h hm (by decide) (by decide) (by decide)).2.trans he⟩
  have Bb : ∀ {P : List Nat} {F : Nat → va_E} {a n : Nat} {c : Int32} {ws : List Int32}, wdS D I P0 F0 γ el (γ 9 29) P F a n c ws → bb ∈ P ∧ F bb = .inr (17, [.ref lst, .ref nn, .int fi, .int se]) := fun h => ⟨(wdS_F h hb (by decide) (by decide) (by decide)).1, (wdS_F h hb (by decide) (by decide) (by decide)).2.trans eb⟩
  obtain ⟨⟨m1, z1, ea, y1, y2, y3, y4, y5⟩, y6⟩ := show rk_3 D I γ el F0 lst from RS_o hT0 hl3
  have Ll : ∀ {P : List Nat} {F : Nat → va_E} {a n : Nat} {c : Int32} {ws : List Int32}, wdS D I P0 F0 γ el (γ 9 29) P F a n c ws → lst ∈ P ∧ F lst = .inr (4, [.int m1, .ref ea, .int z1]) := fun h => ⟨(wdS_F h hl3 (by decide) (by decide) (by decide)).1, (wdS_F h hl3 (by decide) (by decide) (by decide)).2.trans y1⟩
  have bz : gB z1 0 16777216 := ⟨by omega, by omega⟩
  intro μ
  induction μ with
  | zero => intro P F a n c jj cs sl h0 _ h1 _ _; exact absurd h0 (by omega)
  | succ μ ih =>
  intro P F a n c jj cs sl hμ h0 h1 h q
  have r1 := rmW_1 (k := 0) hr q (hCk _ (by omega)) (by decide)
  have r2 := rmW_2 (k := 0) hr q (hCk _ (by omega)) (by decide)
  refine G_iload 0 dr_cX17_list_51 rfl ?_
  refine G_aload_n 1 dr_cX17_list_53 rfl ?_
  refine Gp_get 0 (Bb h).1 (Bb h).2 dr_cX17_list_54 (gk_X12 D I) (Nat.le_of_ble_eq_true rfl) wr_9_220 rfl ?_
  refine Gw_callV (As := []) (gV_ok D I) (cp_7_ArrayList_size l hl0 D I P F lst m1 ea z1 (Ll h).1 (Ll h).2 bz) dr_cX17_list_57 ⟨wr_10_200, wr_1_18, wr_9_160, by decide, rfl, (Nat.le_of_ble_eq_true rfl), (Nat.le_of_ble_eq_true rfl)⟩ wr_9_158 wr_9_159 (Ll h).1 (Ll h).2 rfl (show _ ≤ mc by omega) (show _ ≤ ms by omega) (Nat.le_of_ble_eq_true rfl) (fun r w dc ds hp => ?_) (fun _ _ _ _ _ z => z.elim)
  obtain ⟨rfl, rfl, hdc, hds⟩ := hp
  change G _ _ _ _ _ _ _ (.int z1 :: .int jj :: []) _ _ _
  refine G_widen (cs' := cs) (sl' := sl) (by omega) (by omega) ?_
  refine G_icmp_ge 85 dr_cX17_list_60 (by decide +kernel) (fun hc => ?_) (fun hc => ?_)
  · have hle : z1.toInt ≤ jj.toInt := gj_le hc rfl
    exact kk P F a n c jj cs sl (by rw [show jj.toInt.toNat = g by omega] at h; exact h) (wdQ_w q (by omega))
  · have hlt : jj.toInt < z1.toInt := gj_nle hc rfl
    have hi : jj.toInt.toNat < γ 2 lst := by omega
    obtain ⟨w1, w2, nE, fE, w3, w4, w5, w6, w7, w8⟩ := rLC_n y4 (by omega)
    obtain ⟨x0, -⟩ := y6 _ hi
    have w1' : γ 0 ea = 6 := w1
    have Ee := wdS_F h w1' (by decide) (by decide) (by decide)
    have Xe := wdS_F h x0 (by decide) (by decide) (by decide)
    obtain ⟨op, t, xa, xb, s, ra, rb, x1, -⟩ := show rk_1 γ (el lst jj.toInt.toNat) (F0 (el lst jj.toInt.toNat)) from RS_o hT0 x0
    refine G_aload_n 3 dr_cX17_list_63 rfl ?_
    refine G_aload_n 1 dr_cX17_list_64 rfl ?_
    refine Gp_get 0 (Bb h).1 (Bb h).2 dr_cX17_list_65 (gk_X12 D I) (Nat.le_of_ble_eq_true rfl) wr_9_220 rfl ?_
    refine G_iload 0 dr_cX17_list_68 rfl ?_
    refine Gw_callV (As := [.int jj]) (gV_ok D I) (cp_22_ArrayList_get l hl0 D I P F lst ea jj m1 z1 fE nE (el lst jj.toInt.toNat) (Ll h).1 Ee.1 (Ll h).2 (Ee.2.trans w3) ⟨h0, by omega⟩ bz hlt (by omega) (w7 _ hi) (by omega)) dr_cX17_list_70 ⟨wr_10_201, wr_1_18, wr_10_65, by decide, rfl, (Nat.le_of_ble_eq_true rfl), (Nat.le_of_ble_eq_true rfl)⟩ wr_10_63 wr_10_64 (Ll h).1 (Ll h).2 rfl (show _ ≤ mc by omega) (show _ ≤ ms by omega) (Nat.le_of_ble_eq_true rfl) (fun r w dc ds hp => ?_) (fun _ _ _ _ _ z => z.elim)
    obtain ⟨rfl, rfl, hdc2, hds2⟩ := hp
    change G _ _ _ _ _ _ _ (.ref (el lst jj.toInt.toNat) :: .ref m :: []) _ _ _
    refine G_widen (cs' := cs) (sl' := sl) (by omega) (by omega) ?_
    refine Gp_cast Xe.1 (Xe.2.trans x1) rfl dr_cX17_list_73 wr_10_202 (gr_cast 1 rfl) ?_
    refine Gw_callV (As := [.ref (el lst jj.toInt.toNat)]) (gV_ok D I) (cp_lrw l hl0 D I (C := C) hT0 x0 hm rfl he h (wdQ_c (k := 52) q (hCk _ (by omega))) (rmW_s (k := 52) hr q (hCk _ (by omega)) (by decide)).1) dr_cX17_list_76 ⟨wr_11_188, wr_1_14, wr_11_191, by decide, rfl, (Nat.le_of_ble_eq_true rfl), (Nat.le_of_ble_eq_true rfl)⟩ wr_11_190 wr_p_117 (Mm h).1 (Mm h).2 rfl (rmW_s (k := 52) hr q (hCk _ (by omega)) (by decide)).2.1 (rmW_s (k := 52) hr q (hCk _ (by omega)) (by decide)).2.2 (Nat.le_of_ble_eq_true rfl) (fun r w dc ds hp => ?_) (fun _ _ _ _ _ z => z.elim)
    obtain ⟨P, F, a, n, c, rfl, rfl, h, q2⟩ := hp
    have q := wdQ_t q q2
    change G _ _ _ _ _ _ _ [] _ _ _
    obtain ⟨j1, hj1⟩ : ∃ z, z = jj + 1 := ⟨_, rfl⟩
    have ej : j1.toInt = jj.toInt + 1 := by rw [gI_add hj1 (⟨h0, by omega⟩ : gB jj 0 1000000) (gBl (show Int32.toInt 1 = 1 by decide)) (by decide) (by decide), show Int32.toInt 1 = 1 from by decide]
    refine G_iinc (L' := [(4, .int j1), (3, .ref bb), (2, .int k), (0, .ref m), (1, .ref cc)]) j1 0 dr_cX17_list_79 rfl (by rw [hj1]; rfl) (Nat.le_of_ble_eq_true rfl) rfl ?_
    refine G_goto 51 dr_cX17_list_82 (by decide +kernel) ?_
    exact ih _ _ _ _ _ j1 _ _ (by omega) (by omega) (by omega) (by rw [show j1.toInt.toNat = jj.toInt.toNat + 1 by omega]; show wdS D I P0 F0 γ el (γ 9 29) _ _ _ _ _ (w0 ++ (zrR el F0 lst jj.toInt.toNat ++ zlW (F0 (el lst jj.toInt.toNat)))); rw [← List.append_assoc]; exact h) (wdQ_w q (by omega))
def lcP (D : va_G) (I : FieldType → ClassId) (P0 : List Nat) (F0 : Nat → va_E) (γ el : Nat → Nat → Nat) (n0 cc f : Nat) : Option Value → va_W → Nat → Nat → Prop := fun r w dc ds => ∃ (P1 : List Nat) (F1 : Nat → va_E) (a1 n1 : Nat) (c1 : Int32), r = none ∧ w = va_pl P1 F1 ∧ wdS D I P0 F0 γ el (γ 9 29) P1 F1 a1 n1 c1 (zrP γ el F0 cc (γ 6 f)) ∧ wdQ n0 0 n1 c1 ((rsum (fun i => 52 * γ 2 (γ 14 (el (γ 14 cc) i)) + 60) (γ 6 f) : Nat) : Int) dc ds
set_option maxRecDepth 100000 in
set_option maxHeartbeats 4000000 in
theorem lc_blks {l : Launch} {D : va_G} {I : FieldType → ClassId} {P0 : List Nat} {F0 : Nat → va_E} {γ el : Nat → Nat → Nat} {n0 m cc f C mc ms r28 r35 : Nat} {v9 v10 v11 v12 v13 v14 v23 v24 v25 v26 v27 v30 v32 v33 v34 : Int32} (hl0 : l.stackTraces = false) (hT0 : RS D I P0 F0 γ el) (hm : γ 0 m = 10) (he : F0 m = mdE γ r28 r35 v9 v10 v11 v12 v13 v14 v23 v24 v25 v26 v27 v30 v32 v33 v34) (hc9 : γ 0 cc = 9) (hcf : γ 1 cc = f) (h6 : 0 < γ 6 f) (hC : ((rsum (fun i => 52 * γ 2 (γ 14 (el (γ 14 cc) i)) + 60) (γ 6 f) : Nat) : Int) ≤ (C : Int)) (hr : rmW mc ms n0 C) :
    ∀ (μ : Nat) (P : List Nat) (F : Nat → va_E) (a n : Nat) (c k : Int32) (cs sl : Nat), (γ 6 f : Int) - k.toInt < (μ : Int) → 0 ≤ k.toInt → k.toInt ≤ (γ 6 f : Int) → wdS D I P0 F0 γ el (γ 9 29) P F a n c (zrP γ el F0 cc k.toInt.toNat) → wdQ n0 0 n c ((rsum (fun i => 52 * γ 2 (γ 14 (el (γ 14 cc) i)) + 60) k.toInt.toNat : Nat) : Int) cs sl → G (gV D I) l (gRm 8 200 mc ms) (gMA (gV D I) (lcP D I P0 F0 γ el n0 cc f) gNA mc ms) ky_lcd 10 [(2, .int k), (0, .ref m), (1, .ref cc)] [] (va_pl P F) cs sl := by
  have z0 : Int32.toInt 0 = 0 := by decide
  have hCk0 : ∀ j : Int, j ≤ ((rsum (fun i => 52 * γ 2 (γ 14 (el (γ 14 cc) i)) + 60) (γ 6 f) : Nat) : Int) → Int32.toInt 0 + j ≤ (C : Int) := fun j hj => by rw [z0]; omega
  have Mm : ∀ {P : List Nat} {F : Nat → va_E} {a n : Nat} {c : Int32} {ws : List Int32}, wdS D I P0 F0 γ el (γ 9 29) P F a n c ws → m ∈ P ∧ F m = mdE γ r28 r35 v9 v10 v11 v12 v13 v14 v23 v24 v25 v26 v27 v30 v32 v33 v34 := fun h => ⟨(wdS_F h hm (by decide) (by decide) (by decide)).1, (wdS_F h hm (by decide) (by decide) (by decide)).2.trans he⟩
  obtain ⟨lb, lr, rn, md, w1, -⟩ := show rk_9 γ el cc (F0 cc) from RS_o hT0 hc9
  obtain ⟨u2, u3, u4, u5, u6, u7, u8, u9, u10, u11, u12, u13, u14, u15, u16, u17⟩ := rk9_at w1 (show rk_9 γ el cc (F0 cc) from RS_o hT0 hc9)
  rw [hcf] at u13 u14
  have umd := u13.resolve_left (by omega)
  have elb : γ 14 cc = lb := u2.1
  obtain ⟨⟨m1, z1, ea, y1, y2, y3, y4, y5⟩, y6⟩ := show rk_4 D I γ el F0 lb from RS_o hT0 u3
  obtain ⟨t1, t2, nE, fE, t3, t4, t5, t6, t7, t8⟩ := rLC_n y4 (by omega)
  have t1' : γ 0 ea = 7 := t1
  have bz : gB z1 0 16777216 := ⟨by omega, by omega⟩
  have Cc : ∀ {P : List Nat} {F : Nat → va_E} {a n : Nat} {c : Int32} {ws : List Int32}, wdS D I P0 F0 γ el (γ 9 29) P F a n c ws → cc ∈ P ∧ F cc = .inr (18, [.ref lb, .ref lr, .int rn, .int md]) := fun h => ⟨(wdS_F h hc9 (by decide) (by decide) (by decide)).1, (wdS_F h hc9 (by decide) (by decide) (by decide)).2.trans w1⟩
  intro μ
  induction μ with
  | zero => intro P F a n c k cs sl h0 _ h1 _ _; exact absurd h0 (by omega)
  | succ μ ih =>
  intro P F a n c k cs sl hμ h0 h1 h q
  have hkm := rsum_m (f := fun i => 52 * γ 2 (γ 14 (el (γ 14 cc) i)) + 60) (n := k.toInt.toNat) (γ 6 f) (by omega)
  have r1 := rmW_1 (k := 0) hr q (hCk0 _ (by omega)) (by decide)
  have r2 := rmW_2 (k := 0) hr q (hCk0 _ (by omega)) (by decide)
  refine G_iload_n 0 dr_cX17_list_10 rfl ?_
  refine G_aload_n 2 dr_cX17_list_11 rfl ?_
  refine Gw_callV (As := []) (gV_ok D I) (cp_12780_Code_size l hl0 D I P F cc lb lr rn md (Cc h).1 (Cc h).2) dr_cX17_list_12 ⟨wr_10_160, wr_1_15, wr_9_131, by decide, rfl, (Nat.le_of_ble_eq_true rfl), (Nat.le_of_ble_eq_true rfl)⟩ wr_9_129 wr_9_130 (Cc h).1 (Cc h).2 rfl (show _ ≤ mc by omega) (show _ ≤ ms by omega) (Nat.le_of_ble_eq_true rfl) (fun r w dc ds hp => ?_) (fun _ _ _ _ _ z => z.elim)
  obtain ⟨rfl, rfl, hdc, hds⟩ := hp
  change G _ _ _ _ _ _ _ (.int md :: .int k :: []) _ _ _
  refine G_widen (cs' := cs) (sl' := sl) (by omega) (by omega) ?_
  refine G_icmp_ge 230 dr_cX17_list_15 (by decide +kernel) (fun hc => ?_) (fun hc => ?_)
  · exact G_vretA dr_cX17_list_230 rfl (by omega) r2 ⟨P, F, a, n, c, rfl, rfl, by rw [show k.toInt.toNat = γ 6 f by have := gj_le hc rfl; omega] at h; exact h, wdQ_w q (by omega)⟩
  · have hlt : k.toInt < md.toInt := gj_nle hc rfl
    have hi : k.toInt.toNat < γ 2 lb := by omega
    have b2 : γ 0 (el lb k.toInt.toNat) = 2 := (u14 k.toInt.toNat (by omega)).resolve_right (fun z => by omega)
    obtain ⟨lst, nn, fi, se, e1, e2, e3, e4, e5, -⟩ := show rk_2 γ (el lb k.toInt.toNat) (F0 (el lb k.toInt.toNat)) from RS_o hT0 b2
    have e3' : γ 0 lst = 3 := e3
    have e5' : γ 0 nn = 1 := e5
    have Ee := wdS_F h t1' (by decide) (by decide) (by decide)
    have Lb := wdS_F h u3 (by decide) (by decide) (by decide)
    have Be := wdS_F h b2 (by decide) (by decide) (by decide)
    have hk1 : rsum (fun i => 52 * γ 2 (γ 14 (el (γ 14 cc) i)) + 60) (k.toInt.toNat + 1) = rsum (fun i => 52 * γ 2 (γ 14 (el (γ 14 cc) i)) + 60) k.toInt.toNat + (52 * γ 2 lst + 60) := by
      show rsum (fun i => 52 * γ 2 (γ 14 (el (γ 14 cc) i)) + 60) k.toInt.toNat + (52 * γ 2 (γ 14 (el (γ 14 cc) k.toInt.toNat)) + 60) = _
      rw [elb, e2.1]
    have hkn := rsum_m (f := fun i => 52 * γ 2 (γ 14 (el (γ 14 cc) i)) + 60) (n := k.toInt.toNat + 1) (γ 6 f) (by omega)
    refine G_aload_n 2 dr_cX17_list_18 rfl ?_
    refine G_iload_n 0 dr_cX17_list_19 rfl ?_
    refine Gw_callV (As := [.int k]) (gV_ok D I) (cp_7901_Code_get l hl0 D I P F cc lb ea k lr rn md m1 z1 fE nE (el lb k.toInt.toNat) lst nn fi se (Cc h).1 Lb.1 Ee.1 Be.1 (Cc h).2 (Lb.2.trans y1) (Ee.2.trans t3) (Be.2.trans e1) ⟨h0, by omega⟩ bz (by omega) (by omega) (t7 _ hi) (by omega)) dr_cX17_list_20 ⟨wr_10_161, wr_1_15, wr_10_141, by decide, rfl, (Nat.le_of_ble_eq_true rfl), (Nat.le_of_ble_eq_true rfl)⟩ wr_10_139 wr_10_140 (Cc h).1 (Cc h).2 rfl (show _ ≤ mc by omega) (show _ ≤ ms by omega) (Nat.le_of_ble_eq_true rfl) (fun r w dc ds hp => ?_) (fun _ _ _ _ _ z => z.elim)
    obtain ⟨rfl, rfl, hdc2, hds2⟩ := hp
    change G _ _ _ _ _ _ _ (.ref (el lb k.toInt.toNat) :: []) _ _ _
    refine G_widen (cs' := cs) (sl' := sl) (by omega) (by omega) ?_
    obtain ⟨g, hg⟩ : ∃ g, γ 2 lst = g := ⟨_, rfl⟩
    obtain ⟨bb, hbb⟩ : ∃ b, el lb k.toInt.toNat = b := ⟨_, rfl⟩
    rw [hbb] at b2 e1 e2 ⊢
    have eC : zrP γ el F0 cc (k.toInt.toNat + 1) = zrP γ el F0 cc k.toInt.toNat ++ (((([98] ++ dgI k.toInt) ++ [58]) ++ [10]) ++ (zrR el F0 lst g ++ zlV (F0 nn) fi se)) := by
      show zrP γ el F0 cc k.toInt.toNat ++ zrC γ el F0 (el (γ 14 cc) k.toInt.toNat) k.toInt.toNat = _
      unfold zrC
      rw [elb, hbb, e2.1, e2.2.1, hg, e1, show ((k.toInt.toNat : Nat) : Int) = k.toInt by omega]
      rfl
    obtain ⟨r0, hr0⟩ : ∃ z : Int, ((rsum (fun i => 52 * γ 2 (γ 14 (el (γ 14 cc) i)) + 60) k.toInt.toNat : Nat) : Int) = z := ⟨_, rfl⟩
    have hrr : r0 + 52 * (g : Int) + 60 = ((rsum (fun i => 52 * γ 2 (γ 14 (el (γ 14 cc) i)) + 60) (k.toInt.toNat + 1) : Nat) : Int) := by rw [hk1, hg, ← hr0]; omega
    have hCk : ∀ j : Int, j ≤ r0 + 52 * (g : Int) + 60 → Int32.toInt 0 + j ≤ (C : Int) := fun j hj => hCk0 j (by omega)
    rw [hr0] at q
    have k40a : k.toInt < (γ 6 f : Int) := by omega
    have k40b : (γ 6 f : Int) ≤ 40 := by omega
    clear hkm hkn r1 r2 hdc hds hdc2 hds2 hi hk1 umd u7 u8 u9 u10 u11 u12 u13 u14 u15 u16 u17 t4 t5 t6 y2 y3 y5
    refine G_astore_n (L' := [(3, .ref bb), (2, .int k), (0, .ref m), (1, .ref cc)]) dr_cX17_list_23 (Nat.le_of_ble_eq_true rfl) rfl ?_
    refine G_aload_n 2 dr_cX17_list_24 rfl ?_
    refine Gp_get 29 (Mm h).1 (Mm h).2 dr_cX17_list_25 (gk_X17 D I) (Nat.le_of_ble_eq_true rfl) wr_7_103 rfl ?_
    refine G_bipush 98 dr_cX17_list_28 (by decide +kernel) ?_
    refine Gw_appC hl0 dr_cX17_list_30 ⟨wr_11_186, wr_1_20, wr_8_0, by decide, rfl, (Nat.le_of_ble_eq_true rfl), (Nat.le_of_ble_eq_true rfl)⟩ wr_7_238 wr_7_239 h ⟨by decide, by decide⟩ (rmW_n (k := 1) hr q (hCk _ (by omega)) (by decide +kernel)) (rmW_1 (k := 1) hr q (hCk _ (by omega)) (by decide +kernel)) (rmW_2 (k := 1) hr q (hCk _ (by omega)) (by decide +kernel)) (rmW_3 (k := 1) hr q (hCk _ (by omega))) (Nat.le_of_ble_eq_true rfl) (fun P F a n c dc ds h q2 => ?_)
    have q := wdQ_t q q2
    refine G_iload_n 1 dr_cX17_list_33 rfl ?_
    refine Gw_appI hl0 dr_cX17_list_34 ⟨wr_11_187, wr_1_20, wr_8_108, by decide, rfl, (Nat.le_of_ble_eq_true rfl), (Nat.le_of_ble_eq_true rfl)⟩ wr_8_106 wr_8_107 h (rmW_n (k := 11) hr q (hCk _ (by omega)) (by decide +kernel)) (rmW_1 (k := 11) hr q (hCk _ (by omega)) (by decide +kernel)) (rmW_2 (k := 11) hr q (hCk _ (by omega)) (by decide +kernel)) (rmW_3 (k := 11) hr q (hCk _ (by omega))) (Nat.le_of_ble_eq_true rfl) (fun P F a n c dc ds h q2 => ?_)
    have q := wdQ_t q q2
    refine G_bipush 58 dr_cX17_list_37 (by decide +kernel) ?_
    refine Gw_appC hl0 dr_cX17_list_39 ⟨wr_11_186, wr_1_20, wr_8_0, by decide, rfl, (Nat.le_of_ble_eq_true rfl), (Nat.le_of_ble_eq_true rfl)⟩ wr_7_238 wr_7_239 h ⟨by decide, by decide⟩ (rmW_n (k := 1) hr q (hCk _ (by omega)) (by decide +kernel)) (rmW_1 (k := 1) hr q (hCk _ (by omega)) (by decide +kernel)) (rmW_2 (k := 1) hr q (hCk _ (by omega)) (by decide +kernel)) (rmW_3 (k := 1) hr q (hCk _ (by omega))) (Nat.le_of_ble_eq_true rfl) (fun P F a n c dc ds h q2 => ?_)
    have q := wdQ_t q q2
    refine G_bipush 10 dr_cX17_list_42 (by decide +kernel) ?_
    refine Gw_appC hl0 dr_cX17_list_44 ⟨wr_11_186, wr_1_20, wr_8_0, by decide, rfl, (Nat.le_of_ble_eq_true rfl), (Nat.le_of_ble_eq_true rfl)⟩ wr_7_238 wr_7_239 h ⟨by decide, by decide⟩ (rmW_n (k := 1) hr q (hCk _ (by omega)) (by decide +kernel)) (rmW_1 (k := 1) hr q (hCk _ (by omega)) (by decide +kernel)) (rmW_2 (k := 1) hr q (hCk _ (by omega)) (by decide +kernel)) (rmW_3 (k := 1) hr q (hCk _ (by omega))) (Nat.le_of_ble_eq_true rfl) (fun P F a n c dc ds h q2 => ?_)
    have q := wdQ_t q q2
    refine G_pop dr_cX17_list_47 rfl ?_
    refine G_iconst 0 dr_cX17_list_48 (by decide +kernel) ?_
    refine G_istore (L' := [(4, .int 0), (3, .ref bb), (2, .int k), (0, .ref m), (1, .ref cc)]) dr_cX17_list_49 (Nat.le_of_ble_eq_true rfl) rfl ?_
    refine lc_rows (rk := r0 + 14) (T := []) (w0 := (((zrP γ el F0 cc k.toInt.toNat ++ [98]) ++ dgI k.toInt) ++ [58]) ++ [10]) hl0 hT0 hm he b2 e1 e3' hg (fun j hj => hCk j (by omega)) hr (fun P F a n c jj cs sl h q => ?_) (g + 1) _ _ _ _ _ 0 _ _ (by rw [z0]; omega) (by rw [z0]; decide) (by rw [z0]; omega) (by rw [z0]; show wdS D I P0 F0 γ el (γ 9 29) _ _ _ _ _ (_ ++ []); rw [List.append_nil]; exact h) (wdQ_w q (by rw [z0]; omega))
    refine lc_end (g := g) (rk := r0 + 14 + 52 * (g : Int)) (T := zrP γ el F0 cc (k.toInt.toNat + 1)) (w0 := []) hl0 hT0 hm he b2 e1 e5' (fun j hj => hCk j (by omega)) hr (fun P F a n c cs sl h q => ?_) h (by rw [eC]; simp only [List.append_assoc]) q
    obtain ⟨k1, hk1⟩ : ∃ z, z = k + 1 := ⟨_, rfl⟩
    have ek : k1.toInt = k.toInt + 1 := by rw [gI_add hk1 (⟨h0, by omega⟩ : gB k 0 1000000) (gBl (show Int32.toInt 1 = 1 by decide)) (by decide) (by decide), show Int32.toInt 1 = 1 from by decide]
    refine G_iinc (L' := [(2, .int k1), (4, .ref nn), (3, .ref bb), (0, .ref m), (1, .ref cc)]) k1 2 dr_cX17_list_224 rfl (by rw [hk1]; rfl) (Nat.le_of_ble_eq_true rfl) rfl ?_
    refine G_goto 10 dr_cX17_list_227 (by decide +kernel) ?_
    refine G_lv [0, 3, 4] rfl ?_
    have ekn : k1.toInt.toNat = k.toInt.toNat + 1 := by omega
    exact ih _ _ _ _ _ k1 _ _ (by omega) (by omega) (by omega) (by rw [ekn]; exact h) (by rw [ekn, ← hrr]; exact wdQ_w q (by omega))
set_option maxRecDepth 100000 in
set_option maxHeartbeats 4000000 in
theorem cp_lcd (l : Launch) (hl0 : l.stackTraces = false) (D : va_G) (I : FieldType → ClassId) {P0 P : List Nat} {F0 F : Nat → va_E} {γ el : Nat → Nat → Nat} {a n0 m cc f C mc ms r28 r35 : Nat} {ws : List Int32} {c v9 v10 v11 v12 v13 v14 v23 v24 v25 v26 v27 v30 v32 v33 v34 : Int32} (hT0 : RS D I P0 F0 γ el) (hm : γ 0 m = 10) (he : F0 m = mdE γ r28 r35 v9 v10 v11 v12 v13 v14 v23 v24 v25 v26 v27 v30 v32 v33 v34) (hc9 : γ 0 cc = 9) (hcf : γ 1 cc = f) (h6 : 0 < γ 6 f) (h : wdS D I P0 F0 γ el (γ 9 29) P F a n0 c ws) (hC : ((rsum (fun i => 52 * γ 2 (γ 14 (el (γ 14 cc) i)) + 60) (γ 6 f) : Nat) : Int) ≤ (C : Int)) (hr : rmW mc ms n0 C) :
    CtA (gV D I) l yX17_list cX17_list 5 none 8 200 mc ms [.ref m, .ref cc] (va_pl P F) (lcP D I P0 F0 γ el n0 cc f) gNA := by
  refine CtA_of hl0 (by decide) (Nat.le_of_ble_eq_true rfl) ?_
  have Mm : ∀ {P : List Nat} {F : Nat → va_E} {a n : Nat} {c : Int32} {ws : List Int32}, wdS D I P0 F0 γ el (γ 9 29) P F a n c ws → m ∈ P ∧ F m = mdE γ r28 r35 v9 v10 v11 v12 v13 v14 v23 v24 v25 v26 v27 v30 v32 v33 v34 := fun h => ⟨(wdS_F h hm (by decide) (by decide) (by decide)).1, (wdS_F h hm (by decide) (by decide) (by decide)).2.trans he⟩
  obtain ⟨h1, ⟨h2, h3, mb, h4, h5⟩, ⟨h6', fA, h7, h8⟩, h9, h10, h11, hL, hwl⟩ := id h
  have hn8 := hr.2.2.2.2
  refine G_aload_n 0 dr_cX17_list_0 rfl ?_
  refine Gp_get 29 (Mm h).1 (Mm h).2 dr_cX17_list_1 (gk_X17 D I) (Nat.le_of_ble_eq_true rfl) wr_7_103 rfl ?_
  refine G_iconst 0 dr_cX17_list_4 (by decide +kernel) ?_
  refine Gw_callV (As := [.int 0]) (gV_ok D I) (cp_659049_StringBuilder_setLength l hl0 D I P F (γ 9 29) a mb c fA n0 h2 h6' h4 h7 h5 h10 h8 (by omega)) dr_cX17_list_5 ⟨wr_11_125, wr_1_20, wr_11_128, by decide, rfl, (Nat.le_of_ble_eq_true rfl), (Nat.le_of_ble_eq_true rfl)⟩ wr_11_126 wr_11_127 h2 h4 rfl (show _ ≤ mc by omega) (show _ ≤ ms by omega) (Nat.le_of_ble_eq_true rfl) (fun r w dc ds hp => ?_) (fun _ _ _ _ _ z => z.elim)
  obtain ⟨F1, mb1, rfl, rfl, hfr, g1, g2, hdc, hds, bm, -⟩ := hp
  change G _ _ _ _ _ _ _ [] _ _ _
  refine G_widen (cs' := 0) (sl' := 0) (by omega) (by omega) ?_
  have z0 : Int32.toInt 0 = 0 := by decide
  have hS := wdS_1 h (fun b hb ha hW => hfr b hb (nm_c hW nm_n)) g1 bm g2 h8 (⟨by decide, by decide⟩ : gB 0 0 16777216) (by rw [z0]; omega) (by omega) (ws1 := []) (by rw [z0]; rfl) ltz_0
  refine G_iconst 0 dr_cX17_list_8 (by decide +kernel) ?_
  refine G_istore_n (L' := [(2, .int 0), (0, .ref m), (1, .ref cc)]) dr_cX17_list_9 (Nat.le_of_ble_eq_true rfl) rfl ?_
  exact lc_blks hl0 hT0 hm he hc9 hcf h6 hC hr (γ 6 f + 1) P F1 a n0 0 0 0 0 (by rw [z0]; omega) (by rw [z0]; decide) (by rw [z0]; omega) (by rw [z0]; exact hS) (wdQ_r (by omega))
end
