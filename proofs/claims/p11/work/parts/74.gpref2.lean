/-! G over a pool: small things for the writer -/
theorem rFr_newp {W P : List Nat} {F F1 F2 : Nat → va_E} {q : Nat} (hq : q ∉ P) (h : rFr W P F F1) (g : ∀ b, b ≠ q → F2 b = F1 b) : rFr W P F F2 := fun b hb hn => (g b (fun e => hq (e ▸ hb))).trans (h b hb hn)
section RN
variable {F : Nat → va_E} {a b : Nat}
theorem rn_oa {x : Nat × List Value} {y : ClassId × vp_A} (hb : F b = .inr x) (ha : F a = .inl y) : b ≠ a := fun h => by rw [h, ha] at hb; cases hb
theorem rn_ao {x : ClassId × vp_A} {y : Nat × List Value} (hb : F b = .inl x) (ha : F a = .inr y) : b ≠ a := fun h => by rw [h, ha] at hb; cases hb
theorem rn_oo {i j : Nat} {x y : List Value} (hb : F b = .inr (i, x)) (ha : F a = .inr (j, y)) (hne : ¬ i = j) : b ≠ a := fun h => by
  rw [h, ha] at hb
  exact hne (congrArg Prod.fst (Sum.inr.inj hb)).symm
theorem rn_len {c d : ClassId} {n m : Nat} {x y : (Nat → Int32) ⊕ (Nat → Int64) ⊕ (Nat → UInt32) ⊕ (Nat → UInt64) ⊕ (Nat → Option Nat)} (hb : F b = .inl (c, n, x)) (ha : F a = .inl (d, m, y)) (hne : ¬ n = m) : b ≠ a := fun h => by
  rw [h, ha] at hb
  exact hne (congrArg (fun z => z.2.1) (Sum.inl.inj hb)).symm
theorem rn_num_long {c d : ClassId} {n m : Nat} {x : Nat → Int32} {y : Nat → Int64} (hb : F b = .inl (c, n, .inl x)) (ha : F a = .inl (d, m, .inr (.inl y))) : b ≠ a := fun h => by rw [h, ha] at hb; cases (congrArg (fun z => z.2.2) (Sum.inl.inj hb))
theorem rn_long_num {c d : ClassId} {n m : Nat} {x : Nat → Int64} {y : Nat → Int32} (hb : F b = .inl (c, n, .inr (.inl x))) (ha : F a = .inl (d, m, .inl y)) : b ≠ a := fun h => by rw [h, ha] at hb; cases (congrArg (fun z => z.2.2) (Sum.inl.inj hb))
theorem rn_num_ref {c d : ClassId} {n m : Nat} {x : Nat → Int32} {y : Nat → Option Nat} (hb : F b = .inl (c, n, .inl x)) (ha : F a = .inl (d, m, .inr (.inr (.inr (.inr y))))) : b ≠ a := fun h => by rw [h, ha] at hb; cases (congrArg (fun z => z.2.2) (Sum.inl.inj hb))
theorem rn_ref_num {c d : ClassId} {n m : Nat} {x : Nat → Option Nat} {y : Nat → Int32} (hb : F b = .inl (c, n, .inr (.inr (.inr (.inr x))))) (ha : F a = .inl (d, m, .inl y)) : b ≠ a := fun h => by rw [h, ha] at hb; cases (congrArg (fun z => z.2.2) (Sum.inl.inj hb))
theorem rn_long_ref {c d : ClassId} {n m : Nat} {x : Nat → Int64} {y : Nat → Option Nat} (hb : F b = .inl (c, n, .inr (.inl x))) (ha : F a = .inl (d, m, .inr (.inr (.inr (.inr y))))) : b ≠ a := fun h => by rw [h, ha] at hb; cases (congrArg (fun z => z.2.2) (Sum.inl.inj hb))
theorem rn_ref_long {c d : ClassId} {n m : Nat} {x : Nat → Option Nat} {y : Nat → Int64} (hb : F b = .inl (c, n, .inr (.inr (.inr (.inr x))))) (ha : F a = .inl (d, m, .inr (.inl y))) : b ≠ a := fun h => by rw [h, ha] at hb; cases (congrArg (fun z => z.2.2) (Sum.inl.inj hb))
end RN
/-- what lies in a row of references: rows and blocks of the reference -/
def rEl (P : List Nat) (F : Nat → va_E) (f : Nat → Option Nat) : Prop := ∀ j w, f j = some w → w ∈ P ∧ ((∃ fs, F w = .inr (17, fs)) ∨ ∃ fs, F w = .inr (20, fs))
def rNo (e : va_E) : Prop := (∃ fs, e = .inr (4, fs)) ∨ ∃ a, e = .inl a
theorem rNo_n {F : Nat → va_E} : ∀ b, b ∈ ([] : List Nat) → rNo (F b) := fun _ h => nomatch h
theorem rNo_c {F : Nat → va_E} {a : Nat} {W : List Nat} (h : rNo (F a)) (g : ∀ b, b ∈ W → rNo (F b)) : ∀ b, b ∈ a :: W → rNo (F b) := fun b hb => by
  rcases List.mem_cons.mp hb with rfl | hb
  · exact h
  · exact g b hb
theorem rEl_fr {P P1 W : List Nat} {F F1 : Nat → va_E} {f : Nat → Option Nat} (h : rEl P F f) (hs : rSub P P1) (hf : rFr W P F F1) (hw : ∀ b, b ∈ W → rNo (F b)) : rEl P1 F1 f := fun j w hj => by
  obtain ⟨h1, h2⟩ := h j w hj
  have hn : w ∉ W := fun z => by
    rcases hw w z with ⟨fs, e⟩ | ⟨a, e⟩
    · rcases h2 with ⟨gs, e2⟩ | ⟨gs, e2⟩
      · rw [e] at e2; exact absurd (show (4 : Nat) = 17 from congrArg Prod.fst (Sum.inr.inj e2)) (by decide)
      · rw [e] at e2; exact absurd (show (4 : Nat) = 20 from congrArg Prod.fst (Sum.inr.inj e2)) (by decide)
    · rcases h2 with ⟨gs, e2⟩ | ⟨gs, e2⟩
      · rw [e] at e2; cases e2
      · rw [e] at e2; cases e2
  refine ⟨hs w h1, ?_⟩
  rw [hf w h1 hn]
  exact h2
theorem rEl_ob {D : va_G} {I : FieldType → ClassId} {P : List Nat} {F : Nat → va_E} {f : Nat → Option Nat} (h : rEl P F f) {j w : Nat} (hj : f j = some w) : gOb (gV D I) P F "java/lang/Object" w := by
  obtain ⟨h1, ⟨fs, e⟩ | ⟨fs, e⟩⟩ := h j w hj
  · exact ⟨h1, 17, fs, _, _, _, e, rfl, gr_cast 2 rfl⟩
  · exact ⟨h1, 20, fs, _, _, _, e, rfl, gr_cast 3 rfl⟩
theorem gT_byte {x : Int32} (h : gB x (-128) 127) : fits .byte (.int x) = true := by
  show (decide (-128 ≤ x) && decide (x ≤ 127)) = true
  have h1 : (-128 : Int32) ≤ x := by rw [Int32.le_iff_toInt_le, show Int32.toInt (-128) = -128 by decide]; exact h.1
  have h2 : x ≤ (127 : Int32) := by rw [Int32.le_iff_toInt_le, show Int32.toInt 127 = 127 by decide]; exact h.2
  rw [decide_eq_true h1, decide_eq_true h2]
  rfl
theorem gI_ofM {z : Int32} {n : Nat} (hz : z = Int32.ofNat n) (h : (n : Int) ≤ 16777216) : z.toInt = n := by
  subst hz
  exact gI_ofNat (x := Int32.ofNat n) (k := n) (by show n % 2 ^ 32 = n; omega) (by omega)
set_option maxHeartbeats 1000000 in
theorem CtA_ofF {v : gEnv} {l : Launch} {y : MethodName} {cc : ByteArray} {nL fr lo mc ms : Nat} {ret : Option FieldType} {av : List Value} {ws : va_W} {Post : Option Value → va_W → Nat → Nat → Prop} {XP : String → Nat → va_W → Nat → Nat → Prop} (hl0 : l.stackTraces = false) (hy : plainFor y = true) (hlen : (lg_sl av).length ≤ nL) (h : G v l (gRm fr lo mc ms) (gMA v Post XP mc ms) (cc, nL, y.cls, ret, [], y.name, fun _ _ => True) 0 (lv_args 0 av) [] ws 0 0) :
    CtA v l y cc nL ret fr lo mc ms av ws Post XP := by
  intro sz
  refine vx_ofWF (cc := cc) (maxL := nL) (ret := ret) hy rfl ?_
  intro p e s m args below meth c s₁ B hml ht hpre
  obtain ⟨rfl, hsz, hP, hK, hD, hE⟩ := hpre
  subst hsz
  have hts := atoms_spec (ws := .code y cc nL ret :: v.2.2.2.2) B.pre
  have hl := lv_entry av (n := nL) hlen
  rw [lg_entry_eq]
  generalize (lg_sl av ++ List.replicate (nL - (lg_sl av).length) Slot.unset).toArray = ls at hl ⊢
  have ht0 : c.exceptionTable.toList = [] := by
    cases hx : c.exceptionTable.toList with
    | nil => rfl
    | cons x r => exact absurd (by rw [hx]; exact List.mem_cons_self) (fun z => ht x z)
  exact h p e s m av.toArray below meth c (va_A ws s.heap.size) s.heap [] ls ⟨B.exec, B.bytes, hml, findClass_of_methodNamed B.named, B.returns, ht0, (name_of_methodNamed B.named B.method).1, fun w hw => hts w (List.mem_cons_of_mem _ hw), B.notSynchronized, hK, fun q hq => Or.inr hq, hE, hl0, trivial⟩ hP hD.self va_S.rf hl
section GWI
variable {v : gEnv} {l : Launch} {R : Room} {Qf : gFin} {k : gKey} {pc cs sl : Nat} {L : List (Nat × Value)} {st : List Value} {P : List Nat} {F : Nat → va_E}
variable {y : MethodName} {cc' : ByteArray} {nL' fr' lo' mc' ms' i b : Nat} {As : List Value} {Post' : Option Value → va_W → Nat → Nat → Prop}
theorem Gw_callI (hv : gOk v) (cp : CtA v l y cc' nL' none fr' lo' mc' ms' (.ref b :: As) (va_pl P F) Post' gNA) (d : decode k.1 pc = .ok (.invokespecial i, 3)) (hw : gCw v R k.2.2.1 i y cc' nL' none fr' lo' As.length) (w2 : Cond.instanceMethod y ∈ v.2.2.2.2) (hin : y.name = "<init>")
    (hcs : cs + mc' ≤ R.cells) (hsl : sl + ms' ≤ R.slots) (hcat : (st.map fun u => u.category).sum ≤ 8)
    (kk : ∀ r w dc ds, Post' r w dc ds → G v l R Qf k (pc + 3) L (r.toList ++ st) w (cs + dc) (sl + ds)) :
    G v l R Qf k pc L (As.reverse ++ .ref b :: st) (va_pl P F) cs sl :=
  G_callIA (wr := []) hv cp d hw w2 hin (List.range (va_pl P F).length) [] (gw_all _) rfl (r_nd _ List.nodup_range) rfl (fun i hi => nomatch hi) hcs hsl hcat kk
theorem Gw_callIN {host : String} (hv : gOk v) (cp : CtA v l y cc' nL' none fr' lo' mc' ms' (.ref b :: As) (va_pl P F) Post' gNA) (d : decode k.1 pc = .ok (.invokespecial i, 3)) (hw : gCn v R k.2.2.1 i y host cc' nL' none fr' lo' As.length) (w2 : Cond.instanceMethod y ∈ v.2.2.2.2) (hin : y.name = "<init>")
    (hcs : cs + mc' ≤ R.cells) (hsl : sl + ms' ≤ R.slots) (hcat : (st.map fun u => u.category).sum ≤ 8)
    (kk : ∀ r w dc ds, Post' r w dc ds → G v l R Qf k (pc + 3) L (r.toList ++ st) w (cs + dc) (sl + ds)) :
    G v l R Qf k pc L (As.reverse ++ .ref b :: st) (va_pl P F) cs sl :=
  G_callINA (wr := []) hv cp d hw w2 hin (List.range (va_pl P F).length) [] (gw_all _) rfl (r_nd _ List.nodup_range) rfl (fun i hi => nomatch hi) hcs hsl hcat kk
end GWI
