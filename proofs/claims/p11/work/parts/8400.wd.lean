/-! the model's words while a listing is written: the builder and its letters beside the state -/
def sW (F F0 : Nat → va_E) (W : Nat) : Nat → va_E := fun b => if b = W then F0 W else F b
def wdS (D : va_G) (I : FieldType → ClassId) (P0 : List Nat) (F0 : Nat → va_E) (γ el : Nat → Nat → Nat) (W : Nat) (P : List Nat) (F : Nat → va_E) (a n : Nat) (c : Int32) (ws : List Int32) : Prop :=
  rSk 0 [] [28, 29] D I P0 F0 γ el P (sW F F0 W) γ el ∧ (W ∈ P ∧ γ 0 W = 28 ∧ ∃ mb : Int32, F W = .inr (1, [.ref a, .int 0, .int mb, .int c]) ∧ gB mb 0 1) ∧ (a ∈ P ∧ ∃ f : Nat → Int32, F a = .inl (I .byte, n, .inl f) ∧ gF f (-128) 127) ∧ ((γ 0 a = 29 ∧ n = γ 12 a) ∨ γ 0 a = 0) ∧ gB c 0 16777216 ∧ c.toInt ≤ (n : Int) ∧ c.toInt = (ws.length : Int) ∧ lt9 ws (cB (F a))
def wdQ (n : Nat) (c : Int32) (n1 : Nat) (c1 : Int32) (k : Int) (dc ds : Nat) : Prop := c.toInt ≤ c1.toInt ∧ c1.toInt ≤ c.toInt + k ∧ n ≤ n1 ∧ (n1 = n ∨ (n1 : Int) ≤ 2 * c1.toInt + 16) ∧ 2 * dc + n ≤ n1 ∧ ds + 2 * n ≤ 2 * n1
section WDS
variable {D : va_G} {I : FieldType → ClassId} {P P0 P1 : List Nat} {F F0 F1 : Nat → va_E} {γ el : Nat → Nat → Nat} {W a n a1 n1 n2 dc ds dc2 ds2 : Nat} {c c1 c2 mb : Int32} {f1 : Nat → Int32} {k k2 : Int} {ws ws1 : List Int32}
theorem wdQ_t (h : wdQ n c n1 c1 k dc ds) (g : wdQ n1 c1 n2 c2 k2 dc2 ds2) : wdQ n c n2 c2 (k + k2) (dc + dc2) (ds + ds2) := by
  obtain ⟨h1, h2, h3, h4, h5, h6⟩ := h
  obtain ⟨g1, g2, g3, g4, g5, g6⟩ := g
  exact ⟨by omega, by omega, by omega, by omega, by omega, by omega⟩
theorem wdQ_r (hk : 0 ≤ k) : wdQ n c n c k 0 0 := ⟨by omega, by omega, Nat.le_refl _, Or.inl rfl, by omega, by omega⟩
theorem wdQ_w (h : wdQ n c n1 c1 k dc ds) (hk : k ≤ k2) : wdQ n c n1 c1 k2 dc ds := ⟨h.1, by have := h.2.1; omega, h.2.2⟩
theorem sW_ne {b : Nat} (h : b ≠ W) : sW F F0 W b = F b := if_neg h
theorem wdS_1 (h : wdS D I P0 F0 γ el W P F a n c ws) (hfr : ∀ b, b ∈ P → b ≠ a → b ≠ W → F1 b = F b) (e1 : F1 W = .inr (1, [.ref a, .int 0, .int mb, .int c1])) (hb : gB mb 0 1) (e2 : F1 a = .inl (I .byte, n, .inl f1)) (hf : gF f1 (-128) 127) (bc : gB c1 0 16777216) (hc : c1.toInt ≤ (n : Int)) (hn : n ≤ 16777216) (hlen : c1.toInt = (ws1.length : Int)) (hlt : lt9 ws1 f1) : wdS D I P0 F0 γ el W P F1 a n c1 ws1 := by
  obtain ⟨h1, ⟨h2, h3, mb0, h4, h5⟩, ⟨h6, f, h7, h8⟩, h9, h10, h11, hL, hw⟩ := h
  have haW : a ≠ W := rn_ao h7 h4
  refine ⟨?_, ⟨h2, h3, mb, e1, hb⟩, ⟨h6, f1, e2, hf⟩, h9, bc, hc, hlen, by rw [cB_of e2]; exact hlt⟩
  have ea : sW F1 F0 W a = F1 a := sW_ne haW
  refine rSk_ow (W := [a]) h1 rSub_rf (fun b hbP hb => ?_) (wm_c ?_ wm_n) (wm_c ?_ wm_n) (fun _ z => nomatch z)
  · by_cases q : b = W
    · rw [q]; unfold sW; rw [if_pos rfl, if_pos rfl]
    · rw [sW_ne q, sW_ne q]; exact hfr b hbP (fun e => hb (e ▸ List.mem_cons_self)) q
  · rcases h9 with ⟨q1, q2⟩ | q
    · refine Or.inr ⟨by rw [q1]; decide, ?_⟩
      rw [q1]
      exact ⟨n, f1, ea.trans e2, hf, by omega, q2⟩
    · exact Or.inl q
  · rcases h9 with ⟨q1, q2⟩ | q
    · exact Or.inr ⟨by rw [q1]; decide, Or.inr (by omega)⟩
    · exact Or.inl q
theorem wdS_2 (h : wdS D I P0 F0 γ el W P F a n c ws) (hs : rSub P P1) (hfr : ∀ b, b ∈ P → b ≠ W → F1 b = F b) (e1 : F1 W = .inr (1, [.ref a1, .int 0, .int mb, .int c1])) (hb : gB mb 0 1) (m1 : a1 ∈ P1) (hn1 : a1 ∉ P) (e2 : F1 a1 = .inl (I .byte, n1, .inl f1)) (hf : gF f1 (-128) 127) (bc : gB c1 0 16777216) (hc : c1.toInt ≤ (n1 : Int)) (hlen : c1.toInt = (ws1.length : Int)) (hlt : lt9 ws1 f1) : wdS D I P0 F0 γ el W P1 F1 a1 n1 c1 ws1 := by
  obtain ⟨h1, ⟨h2, h3, mb0, h4, h5⟩, ⟨h6, f, h7, h8⟩, h9, h10, h11, hL, hw⟩ := h
  refine ⟨?_, ⟨hs _ h2, h3, mb, e1, hb⟩, ⟨m1, f1, e2, hf⟩, Or.inr (RS_new h1.1 hn1), bc, hc, hlen, by rw [cB_of e2]; exact hlt⟩
  refine rSk_ow (W := []) h1 hs (fun b hbP _ => ?_) wm_n wm_n (fun _ z => nomatch z)
  by_cases q : b = W
  · rw [q]; unfold sW; rw [if_pos rfl, if_pos rfl]
  · rw [sW_ne q, sW_ne q]; exact hfr b hbP q
end WDS
section GWD
variable {l : Launch} {Rm : Room} {Qf : gFin} {ky : gKey} {pc cs sl i : Nat} {L : List (Nat × Value)} {st : List Value} {D : va_G} {I : FieldType → ClassId} {P0 P : List Nat} {F0 F : Nat → va_E} {γ el : Nat → Nat → Nat} {W a n : Nat} {c x : Int32} {ws : List Int32}
theorem Gw_appC (hl0 : l.stackTraces = false) (d : decode ky.1 pc = .ok (.invokevirtual i, 3)) (hw : gCw (gV D I) Rm ky.2.2.1 i yJ4_append_cf468 cJ4_append_cf468 2 (some (FieldType.object "java/lang/StringBuilder")) 5 107 1) (w2 : Cond.instanceMethod yJ4_append_cf468 ∈ (gV D I).2.2.2.2) (w3 : Cond.selects yJ4_append_cf468.cls yJ4_append_cf468 yJ4_append_cf468 ∈ (gV D I).2.2.2.2)
    (h : wdS D I P0 F0 γ el W P F a n c ws) (bx : gB x 0 127) (hn : n ≤ 8000000) (hcs : cs + 1 ≤ Rm.cells) (hsl : sl ≤ Rm.slots) (hsl2 : (n : Int) < c.toInt + 1 → sl + (4 * n + 64) ≤ Rm.slots) (hcat : (st.map fun u => u.category).sum ≤ 8)
    (kk : ∀ P1 F1 a1 n1 c1 dc ds, wdS D I P0 F0 γ el W P1 F1 a1 n1 c1 (ws ++ [x]) → wdQ n c n1 c1 1 dc ds → G (gV D I) l Rm Qf ky (pc + 3) L (.ref W :: st) (va_pl P1 F1) (cs + dc) (sl + ds)) :
    G (gV D I) l Rm Qf ky pc L (.int x :: .ref W :: st) (va_pl P F) cs sl := by
  obtain ⟨h1, ⟨h2, h3, mb, h4, h5⟩, ⟨h6, f, h7, h8⟩, h9, h10, h11, hL, hwl⟩ := id h
  rw [cB_of h7] at hwl
  have hLn : ws.length ≤ n := by omega
  by_cases q : c.toInt < (n : Int)
  · refine Gw_callV (As := [.int x]) (gV_ok D I) (cp_658676_StringBuilder_append l hl0 D I P F W a x mb c f n h2 h6 h4 h7 (gB_w bx (by decide) (by decide)) h5 h10 h8 q (by omega)) d (gCw_mono hw (by decide) (by decide)) w2 w3 h2 h4 rfl (by omega) (by omega) hcat (fun r w dc ds hp => ?_) (fun _ _ _ _ _ z => z.elim)
    obtain ⟨F1, c1, f1, rfl, rfl, hfr, e1, e2, hdc, hds, bc, hf, ec, ht⟩ := hp
    have y := apCr hL hLn bx.1 bx.2 ht
    exact kk P F1 a n c1 dc ds (wdS_1 h (fun b hb ha hW => hfr b hb (by first | exact nm_c ha (nm_c hW nm_n) | exact nm_c hW (nm_c ha nm_n))) e1 h5 e2 hf (gB_w bc (by decide) (by decide)) (by omega) (by omega) (by rw [y.1, List.length_append]) (lt_ap hwl y.2)) ⟨by omega, by omega, by omega, by omega, by omega, by omega⟩
  · have hr := hsl2 (by omega)
    refine Gw_callV (As := [.int x]) (gV_ok D I) (cp_677215_StringBuilder_append l hl0 D I P F W a x mb c f n h2 h6 h4 h7 (gB_w bx (by decide) (by decide)) h5 h10 h8 (by omega) h11 (by omega)) d (gCw_mono hw (by decide) (by decide)) w2 w3 h2 h4 rfl (by omega) (by omega) hcat (fun r w dc ds hp => ?_) (fun _ _ _ _ _ z => z.elim)
    rcases hp with ⟨F1, c1, f1, rfl, rfl, hfr, e1, e2, hdc, hds, bc, hf, ec, t1, -, t2, t3, -, ht⟩ | ⟨P1, F1, c1, a1, n1, f1, rfl, rfl, hs, hfr, e1, e2, m1, m2, hdc, hds, bc, hf, ec, t1, t2, t3, t4, t5, ht⟩
    · have y := apC hL hLn bx.1 bx.2 ht
      exact kk P F1 a n c1 dc ds (wdS_1 h (fun b hb ha hW => hfr b hb (by first | exact nm_c ha (nm_c hW nm_n) | exact nm_c hW (nm_c ha nm_n))) e1 h5 e2 hf (gB_w bc (by decide) (by decide)) (by omega) (by omega) (by rw [y.1, List.length_append]) (lt_ap hwl y.2)) ⟨by omega, by omega, by omega, by omega, by omega, by omega⟩
    · have y := apCg hL hLn bx.1 bx.2 ht
      exact kk P1 F1 a1 n1 c1 dc ds (wdS_2 h hs (fun b hb hW => hfr b hb (nm_c hW nm_n)) e1 h5 m1 m2 e2 hf (gB_w bc (by decide) (by decide)) (by omega) (by rw [y.1, List.length_append]) (lt_ap hwl y.2)) ⟨by omega, by omega, by omega, by omega, by omega, by omega⟩
theorem Gw_appI (hl0 : l.stackTraces = false) (d : decode ky.1 pc = .ok (.invokevirtual i, 3)) (hw : gCw (gV D I) Rm ky.2.2.1 i yJ4_append_bf812 cJ4_append_bf812 2 (some (FieldType.object "java/lang/StringBuilder")) 5 107 1) (w2 : Cond.instanceMethod yJ4_append_bf812 ∈ (gV D I).2.2.2.2) (w3 : Cond.selects yJ4_append_bf812.cls yJ4_append_bf812 yJ4_append_bf812 ∈ (gV D I).2.2.2.2)
    (h : wdS D I P0 F0 γ el W P F a n c ws) (hn : n ≤ 8000000) (hcs : cs + 1 ≤ Rm.cells) (hsl : sl ≤ Rm.slots) (hsl2 : (n : Int) < c.toInt + 11 → sl + (4 * n + 64) ≤ Rm.slots) (hcat : (st.map fun u => u.category).sum ≤ 8)
    (kk : ∀ P1 F1 a1 n1 c1 dc ds, wdS D I P0 F0 γ el W P1 F1 a1 n1 c1 (ws ++ dgI x.toInt) → wdQ n c n1 c1 11 dc ds → G (gV D I) l Rm Qf ky (pc + 3) L (.ref W :: st) (va_pl P1 F1) (cs + dc) (sl + ds)) :
    G (gV D I) l Rm Qf ky pc L (.int x :: .ref W :: st) (va_pl P F) cs sl := by
  obtain ⟨h1, ⟨h2, h3, mb, h4, h5⟩, ⟨h6, f, h7, h8⟩, h9, h10, h11, hL, hwl⟩ := id h
  rw [cB_of h7] at hwl
  have hLn : ws.length ≤ n := by omega
  by_cases q : c.toInt + 11 ≤ (n : Int)
  · refine Gw_callV (As := [.int x]) (gV_ok D I) (cp_677857_StringBuilder_append l hl0 D I P F W a x mb c f n h2 h6 h4 h7 h5 h10 h8 q (by omega)) d (gCw_mono hw (by decide) (by decide)) w2 w3 h2 h4 rfl (by omega) (by omega) hcat (fun r w dc ds hp => ?_) (fun _ _ _ _ _ z => z.elim)
    obtain ⟨F1, c1, f1, rfl, rfl, hfr, e1, e2, hdc, hds, bc, hf, ec, ec2, ht⟩ := hp
    have y := apIr hL hLn ht
    exact kk P F1 a n c1 dc ds (wdS_1 h (fun b hb ha hW => hfr b hb (by first | exact nm_c ha (nm_c hW nm_n) | exact nm_c hW (nm_c ha nm_n))) e1 h5 e2 hf (gB_w bc (by decide) (by decide)) (by omega) (by omega) (by rw [y.1, List.length_append]) (lt_ap hwl y.2)) ⟨by omega, by omega, by omega, by omega, by omega, by omega⟩
  · have hr := hsl2 (by omega)
    refine Gw_callV (As := [.int x]) (gV_ok D I) (cp_677472_StringBuilder_append l hl0 D I P F W a x mb c f n h2 h6 h4 h7 h5 h10 h8 (by omega) h11 (by omega)) d (gCw_mono hw (by decide) (by decide)) w2 w3 h2 h4 rfl (by omega) (by omega) hcat (fun r w dc ds hp => ?_) (fun _ _ _ _ _ z => z.elim)
    rcases hp with ⟨F1, c1, f1, rfl, rfl, hfr, e1, e2, hdc, hds, bc, hf, ec, ec2, t1, -, t2, t3, -, ht⟩ | ⟨P1, F1, c1, a1, n1, f1, rfl, rfl, hs, hfr, e1, e2, m1, m2, hdc, hds, bc, hf, ec, ec2, t1, t2, t3, t4, t5, ht⟩
    · have y := apI hL hLn ht
      exact kk P F1 a n c1 dc ds (wdS_1 h (fun b hb ha hW => hfr b hb (by first | exact nm_c ha (nm_c hW nm_n) | exact nm_c hW (nm_c ha nm_n))) e1 h5 e2 hf (gB_w bc (by decide) (by decide)) (by omega) (by omega) (by rw [y.1, List.length_append]) (lt_ap hwl y.2)) ⟨by omega, by omega, by omega, by omega, by omega, by omega⟩
    · have y := apIg hL hLn ht
      exact kk P1 F1 a1 n1 c1 dc ds (wdS_2 h hs (fun b hb hW => hfr b hb (nm_c hW nm_n)) e1 h5 m1 m2 e2 hf (gB_w bc (by decide) (by decide)) (by omega) (by rw [y.1, List.length_append]) (lt_ap hwl y.2)) ⟨by omega, by omega, by omega, by omega, by omega, by omega⟩
theorem Gw_appS {qs qb : Nat} {bs : List Int32} (hl0 : l.stackTraces = false) (d : decode ky.1 pc = .ok (.invokevirtual i, 3)) (hw : gCw (gV D I) Rm ky.2.2.1 i yJ4_append_15ec4 cJ4_append_15ec4 2 (some (FieldType.object "java/lang/StringBuilder")) 5 107 1) (w2 : Cond.instanceMethod yJ4_append_15ec4 ∈ (gV D I).2.2.2.2) (w3 : Cond.selects yJ4_append_15ec4.cls yJ4_append_15ec4 yJ4_append_15ec4 ∈ (gV D I).2.2.2.2)
    (h : wdS D I P0 F0 γ el W P F a n c ws) (hbs : ∀ A s H, (gV D I).2.2.2.1 A s H → gSC qs qb bs A s H) (nbs : bs.length ≤ 16) (lbs : gLB bs) (hn : n ≤ 8000000) (hcs : cs + 1 ≤ Rm.cells) (hsl : sl ≤ Rm.slots) (hsl2 : (n : Int) < c.toInt + (bs.length : Int) → sl + (4 * n + 64) ≤ Rm.slots) (hcat : (st.map fun u => u.category).sum ≤ 8)
    (kk : ∀ P1 F1 a1 n1 c1 dc ds, wdS D I P0 F0 γ el W P1 F1 a1 n1 c1 (ws ++ bs) → wdQ n c n1 c1 (bs.length : Int) dc ds → G (gV D I) l Rm Qf ky (pc + 3) L (.ref W :: st) (va_pl P1 F1) (cs + dc) (sl + ds)) :
    G (gV D I) l Rm Qf ky pc L (.ref qs :: .ref W :: st) (va_pl P F) cs sl := by
  obtain ⟨h1, ⟨h2, h3, mb, h4, h5⟩, ⟨h6, f, h7, h8⟩, h9, h10, h11, hL, hwl⟩ := id h
  rw [cB_of h7] at hwl
  have hLn : ws.length ≤ n := by omega
  by_cases q : c.toInt + (bs.length : Int) ≤ (n : Int)
  · refine Gw_callV (As := [.ref qs]) (gV_ok D I) (cp_659417_StringBuilder_append l hl0 D I P F W a qs qb bs mb c f n h2 h6 h4 h7 hbs (by omega) lbs h5 h10 h8 q (by omega)) d (gCw_mono hw (by decide) (by decide)) w2 w3 h2 h4 rfl (by omega) (by omega) hcat (fun r w dc ds hp => ?_) (fun _ _ _ _ _ z => z.elim)
    obtain ⟨F1, c1, f1, rfl, rfl, hfr, e1, e2, hdc, hds, bc, hf, ec, -, -, ht⟩ := hp
    have y := apSr hL hLn ht
    exact kk P F1 a n c1 dc ds (wdS_1 h (fun b hb ha hW => hfr b hb (by first | exact nm_c ha (nm_c hW nm_n) | exact nm_c hW (nm_c ha nm_n))) e1 h5 e2 hf bc (by omega) (by omega) (by rw [y.1, List.length_append]) (lt_ap hwl y.2)) ⟨by omega, by omega, by omega, by omega, by omega, by omega⟩
  · have hr := hsl2 (by omega)
    refine Gw_callV (As := [.ref qs]) (gV_ok D I) (cp_677669_StringBuilder_append l hl0 D I P F W a qs qb bs mb c f n h2 h6 h4 h7 hbs (by omega) lbs h5 h10 h8 (by omega) (by omega) h11 (by omega)) d (gCw_mono hw (by decide) (by decide)) w2 w3 h2 h4 rfl (by omega) (by omega) hcat (fun r w dc ds hp => ?_) (fun _ _ _ _ _ z => z.elim)
    rcases hp with ⟨F1, c1, f1, rfl, rfl, hfr, e1, e2, hdc, hds, bc, hf, ec, t1, -, t2, t3, -, ht⟩ | ⟨P1, F1, c1, a1, n1, f1, rfl, rfl, hs, hfr, e1, e2, m1, m2, hdc, hds, bc, hf, ec, t1, t2, t3, t4, t5, ht⟩
    · have y := apS hL hLn ht
      exact kk P F1 a n c1 dc ds (wdS_1 h (fun b hb ha hW => hfr b hb (by first | exact nm_c ha (nm_c hW nm_n) | exact nm_c hW (nm_c ha nm_n))) e1 h5 e2 hf bc (by omega) (by omega) (by rw [y.1, List.length_append]) (lt_ap hwl y.2)) ⟨by omega, by omega, by omega, by omega, by omega, by omega⟩
    · have y := apSg hL hLn ht
      exact kk P1 F1 a1 n1 c1 dc ds (wdS_2 h hs (fun b hb hW => hfr b hb (nm_c hW nm_n)) e1 h5 m1 m2 e2 hf bc (by omega) (by rw [y.1, List.length_append]) (lt_ap hwl y.2)) ⟨by omega, by omega, by omega, by omega, by omega, by omega⟩
end GWD
/-- room for a listing of at most C letters -/
def rmW (mc ms n C : Nat) : Prop := 2 * C + 18 ≤ 2 * mc + n ∧ 1 ≤ mc ∧ 6 * C + 200 ≤ ms + 2 * n ∧ C ≤ 2000000 ∧ n ≤ 8000000
section RMW
variable {mc ms n0 n C cs sl : Nat} {c0 c : Int32} {K k : Int}
theorem rmW_n (hr : rmW mc ms n0 C) (q : wdQ n0 c0 n c K cs sl) (hC : c0.toInt + (K + k) ≤ (C : Int)) (hk : 0 ≤ k) : n ≤ 8000000 := by
  obtain ⟨h1, h2, h3, h4, h5⟩ := hr
  obtain ⟨q1, q2, q3, q4, q5, q6⟩ := q
  omega
theorem rmW_1 (hr : rmW mc ms n0 C) (q : wdQ n0 c0 n c K cs sl) (hC : c0.toInt + (K + k) ≤ (C : Int)) (hk : 0 ≤ k) : cs + 1 ≤ mc := by
  obtain ⟨h1, h2, h3, h4, h5⟩ := hr
  obtain ⟨q1, q2, q3, q4, q5, q6⟩ := q
  omega
theorem rmW_2 (hr : rmW mc ms n0 C) (q : wdQ n0 c0 n c K cs sl) (hC : c0.toInt + (K + k) ≤ (C : Int)) (hk : 0 ≤ k) : sl ≤ ms := by
  obtain ⟨h1, h2, h3, h4, h5⟩ := hr
  obtain ⟨q1, q2, q3, q4, q5, q6⟩ := q
  omega
theorem rmW_3 (hr : rmW mc ms n0 C) (q : wdQ n0 c0 n c K cs sl) (hC : c0.toInt + (K + k) ≤ (C : Int)) : (n : Int) < c.toInt + k → sl + (4 * n + 64) ≤ ms := fun h => by
  obtain ⟨h1, h2, h3, h4, h5⟩ := hr
  obtain ⟨q1, q2, q3, q4, q5, q6⟩ := q
  omega
/-- what is left of the room -/
theorem rmW_s (hr : rmW mc ms n0 C) (q : wdQ n0 c0 n c K cs sl) (hC : c0.toInt + (K + k) ≤ (C : Int)) (hk : 0 ≤ k) : rmW (mc - cs) (ms - sl) n C ∧ cs + (mc - cs) ≤ mc ∧ sl + (ms - sl) ≤ ms := by
  have a1 := rmW_1 hr q hC hk
  have a2 := rmW_2 hr q hC hk
  have a3 := rmW_n hr q hC hk
  obtain ⟨h1, h2, h3, h4, h5⟩ := hr
  obtain ⟨q1, q2, q3, q4, q5, q6⟩ := q
  exact ⟨⟨by omega, by omega, by omega, h4, a3⟩, by omega, by omega⟩
end RMW
section WDF
variable {D : va_G} {I : FieldType → ClassId} {P P0 : List Nat} {F F0 : Nat → va_E} {γ el : Nat → Nat → Nat} {W a n b k : Nat} {c : Int32} {ws : List Int32}
/-- cells of other kinds are as they were -/
theorem wdS_F (h : wdS D I P0 F0 γ el W P F a n c ws) (hb : γ 0 b = k) (h0 : k ≠ 0) (h1 : k ≠ 28) (h2 : k ≠ 29) : b ∈ P ∧ F b = F0 b := by
  have hW := h.2.1.2.1
  have hbW : b ≠ W := fun e => h1 (by rw [← hb, e]; exact hW)
  refine ⟨h.1.1.1 b (by rw [hb]; exact h0), ?_⟩
  have e := rSk_F h.1 (show rKd γ b k from hb) h0 (fun z => by
    rcases List.mem_cons.mp z with z | z
    · exact h1 z
    · rcases List.mem_cons.mp z with z | z
      · exact h2 z
      · cases z)
  rw [sW_ne hbW] at e
  exact e
end WDF
def wdP (D : va_G) (I : FieldType → ClassId) (P0 : List Nat) (F0 : Nat → va_E) (γ el : Nat → Nat → Nat) (W n : Nat) (c : Int32) (k : Int) (T : List Int32) : Option Value → va_W → Nat → Nat → Prop := fun r w dc ds => ∃ (P1 : List Nat) (F1 : Nat → va_E) (a1 n1 : Nat) (c1 : Int32), r = none ∧ w = va_pl P1 F1 ∧ wdS D I P0 F0 γ el W P1 F1 a1 n1 c1 T ∧ wdQ n c n1 c1 k dc ds
theorem wdQ_c {n0 n cs sl C : Nat} {c0 c : Int32} {K k : Int} (q : wdQ n0 c0 n c K cs sl) (hC : c0.toInt + (K + k) ≤ (C : Int)) : c.toInt + k ≤ (C : Int) := by
  have := q.2.1
  omega
/-! the letters of a row, of an end, of a program, in the reference's own terms -/
def zrO (rg x : Int32) : List Int32 := if rg = 0 then dgI x.toInt else 118 :: dgI x.toInt
/-- where a sign lies, how long it is -/
def zqP (o : Int) : Nat := if o ≤ 9 then (2 * o - 1).toNat else if o = 10 then 20 else if o = 11 then 23 else if o = 12 then 25 else if o = 13 then 28 else 31
def zqE (o : Int) : Nat := if o ≤ 8 ∨ o = 11 then 1 else 2
def zrS (o : Int) : List Int32 := sgm sb_42 (zqP o) (zqE o)
def zqB (op rb xb : Int32) : List Int32 := if 0 < op.toInt ∧ op.toInt < 20 then (([32] ++ zrS op.toInt) ++ [32]) ++ zrO rb xb else []
def zrA (op xa s ra : Int32) : List Int32 := if op = 20 then sb_57 else if op = 21 then sb_55 ++ dgI s.toInt else zrO ra xa
def zrH (op t s : Int32) : List Int32 := if op = 22 then sb_54 else if op = 23 then (sb_55 ++ dgI s.toInt) ++ sb_56 else ([118] ++ dgI t.toInt) ++ sb_56
def zrL (op t xa xb s ra rb : Int32) : List Int32 := zrH op t s ++ (zrA op xa s ra ++ (zqB op rb xb ++ [10]))
def zrJ (op : Int32) : List Int32 := if op = 30 then sb_58 else if op = 31 then sb_59 else sb_60
def zrK (op xa ra : Int32) : List Int32 := if op = 30 then [] else zrO ra xa
def zrM (op fi : Int32) : List Int32 := if op = 32 then [] else sb_61 ++ dgI fi.toInt
def zrN (op se : Int32) : List Int32 := if op = 31 then sb_61 ++ dgI se.toInt else []
def zrE (op xa ra fi se : Int32) : List Int32 := zrJ op ++ (zrK op xa ra ++ (zrM op fi ++ (zrN op se ++ [10])))
/-- a row's cell, an end's cell -/
def zlW (e : va_E) : List Int32 := zrL (fI e 0) (fI e 1) (fI e 2) (fI e 3) (fI e 4) (fI e 5) (fI e 6)
def zlV (e : va_E) (fi se : Int32) : List Int32 := zrE (fI e 0) (fI e 2) (fI e 5) fi se
def zrR (el : Nat → Nat → Nat) (F : Nat → va_E) (l : Nat) : Nat → List Int32
  | 0 => []
  | j + 1 => zrR el F l j ++ zlW (F (el l j))
def zrC (γ el : Nat → Nat → Nat) (F : Nat → va_E) (b k : Nat) : List Int32 := ((([98] ++ dgI (k : Int)) ++ [58]) ++ [10]) ++ (zrR el F (γ 14 b) (γ 2 (γ 14 b)) ++ zlV (F (γ 15 b)) (fI (F b) 2) (fI (F b) 3))
def zrP (γ el : Nat → Nat → Nat) (F : Nat → va_E) (cc : Nat) : Nat → List Int32
  | 0 => []
  | k + 1 => zrP γ el F cc k ++ zrC γ el F (el (γ 14 cc) k) k
