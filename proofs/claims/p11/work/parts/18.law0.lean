/-! THE CLAIM OUT OF ONE WALK OF THE LAW'S BODY. Your part is whole_start (and what it stands on); all else here is the same for every law, but numbers. -/
def R_law : String := "SpillForgeLaw"
def lw_P (b : Addr) (xs : List Int32) (args : Array Value) (s : State) : Prop := args = #[.ref b] ∧ s.IntsAt b xs ∧ xs.length ≤ 3072 ∧ (Jvm.Cond.and given_1 narrow_1).before args s = true
def lw_Q (_ : Array Value) (s : State) (o : Outcome) (t : State) : Prop := o = .returned (some (.int 1)) ∧ Framed s o t [] 601024 7293034
def lw_Z (below : List Frame) (a : Array Value) (s : State) : State → Prop := fun t => ∃ o, t.status = .running ∧ Ended t below o ∧ lw_Q a s o t
/-- the law's own end, with 1 on the stack, nothing written that was there before, its room as the claim has it -/
theorem lw_ret {p : Program} {l : Launch} {e : Env} {s : State} {m : MethodId} {below : List Frame} {meth : Method} {c : Code} {b : Nat} (hx : p.tables.exec = Jvm.exec) (hb : c.code = code) (hr : meth.sig.returnType = ret) (hlocks : meth.locks = false) {pc : Nat} {H : Heap} {ls : Array Slot} (hdg : decode code pc = .ok (.ireturn, 1)) : W p l e room_1 s m #[Value.ref b] below meth c H [] 601024 7293034 (lw_Z below #[Value.ref b] s) (F0 m pc ls [.int 1]) := by
  intro T hT X
  obtain ⟨fs, hret, hrun, hended, hW, hframe⟩ := X.leave (v := some (.int 1)) (hlocks := hlocks) (fun h => by rw [hr] at h; cases h)
  have hmeth' : T.vm.method? m = some meth := X.method'
  refine ⟨T.setFrames fs, ?_, .returned (some (.int 1)), hrun, hended, rfl, ⟨_, rfl⟩, hW, hframe⟩
  jvm_step X.here [X.here.top, hx, hb, hdg, hmeth', hr, ret, narrow_b1]
  (try refine ⟨rfl, ?_⟩); (try refine ⟨rfl, ?_⟩)
  first | (intro acts; rw [hret _ acts rfl rfl rfl]) | rw [hret _ _ rfl rfl rfl]
  exact Steps.refl _
/-- what holds at the law's entry: the machine, the code, the tables' words (any of lw_tbl by 'hts w (by decide +kernel)'), the script of L ints xs at the cell b, what the Statement gives of the start (any of its parts by flat_of_before) -/
def lw_At (p : Program) (s : State) (m : MethodId) (meth : Method) (c : Code) (b L : Nat) (xs : Nat → Int32) : Prop :=
  p.tables.exec = Jvm.exec ∧ c.code = code ∧ meth.sig.returnType = ret ∧ c.maxLocals = 8 ∧ s.vm.findClass R_law = some m.cls ∧ (∀ w ∈ lw_tbl, w.before #[Value.ref b] s = true) ∧ va_X b L xs s s.heap ∧ b < s.heap.size ∧ meth.locks = false ∧ (Jvm.Cond.and given_1 narrow_1).before #[Value.ref b] s = true
/-- the law's end in G -/
theorem G_lend {v : gEnv} {l : Launch} {b M : Nat} {xs : Nat → Int32} {pc cs sl : Nat} {L : List (Nat × Value)} {ws : va_W} (hdg : decode cL_law pc = .ok (.ireturn, 1)) (h1 : cs ≤ 601024) (h2 : sl ≤ 7293034) :
    G v l room_1 (fun below args s _ => lw_Z below args s) (gL cL_law 8 "SpillForgeLaw" (some .boolean) "law" b M xs) pc L [.int 1] ws cs sl := fun p e s m args below meth c A H locs ls C hP hD hS h => by
  obtain ⟨hx, hb, g3, g4, hr, g6, g7, g8, hlocks, g10, g11, g12, g13, f1, f2, f3⟩ := id C
  refine va_forget (fun q hq => f3 _ (hS.2.2 q hq)) ?_
  refine W.widen (k := 601024) (n := 7293034) h1 h2 ?_
  intro T hT X
  obtain ⟨fs, hret, hrun, hended, hW, hframe⟩ := X.leave (v := some (.int 1)) (hlocks := hlocks) (fun h => by rw [hr] at h; cases h)
  have hmeth' : T.vm.method? m = some meth := X.method'
  have hb' : c.code = cL_law := hb
  have hr' : meth.sig.returnType = some .boolean := hr
  refine ⟨T.setFrames fs, ?_, .returned (some (.int 1)), hrun, hended, rfl, ⟨_, rfl⟩, hW, hframe⟩
  jvm_step X.here [X.here.top, hx, hb', hdg, hmeth', hr', narrow_b1]
  (try refine ⟨rfl, ?_⟩); (try refine ⟨rfl, ?_⟩)
  first | (intro acts; rw [hret _ acts rfl rfl rfl]) | rw [hret _ _ rfl rfl rfl]
  exact Steps.refl _
section GJ
variable {x y : Int32} {n : Int}
theorem gj_lt (h : x < y) (e : y.toInt = n) : x.toInt < n := e ▸ Int32.lt_iff_toInt_lt.mp h
theorem gj_nlt (h : ¬ x < y) (e : y.toInt = n) : n ≤ x.toInt := e ▸ Int.not_lt.mp (fun z => h (Int32.lt_iff_toInt_lt.mpr z))
theorem gj_le (h : x ≤ y) (e : y.toInt = n) : x.toInt ≤ n := e ▸ Int32.le_iff_toInt_le.mp h
theorem gj_nle (h : ¬ x ≤ y) (e : y.toInt = n) : n < x.toInt := e ▸ Int.not_le.mp (fun z => h (Int32.le_iff_toInt_le.mpr z))
theorem gj_eq (h : x = y) (e : y.toInt = n) : x.toInt = n := h ▸ e
theorem gj_neq (h : ¬ x = y) (e : y.toInt = n) : x.toInt ≠ n := fun z => h (Int32.toInt_inj.mp (z.trans e.symm))
theorem gj_ltL (h : y < x) (e : y.toInt = n) : n < x.toInt := e ▸ Int32.lt_iff_toInt_lt.mp h
theorem gj_nltL (h : ¬ y < x) (e : y.toInt = n) : x.toInt ≤ n := e ▸ Int.not_lt.mp (fun z => h (Int32.lt_iff_toInt_lt.mpr z))
theorem gj_leL (h : y ≤ x) (e : y.toInt = n) : n ≤ x.toInt := e ▸ Int32.le_iff_toInt_le.mp h
theorem gj_nleL (h : ¬ y ≤ x) (e : y.toInt = n) : x.toInt < n := e ▸ Int.not_le.mp (fun z => h (Int32.le_iff_toInt_le.mpr z))
theorem gj_eqL (h : y = x) (e : y.toInt = n) : x.toInt = n := h ▸ e
theorem gj_neqL (h : ¬ y = x) (e : y.toInt = n) : x.toInt ≠ n := fun z => h (Int32.toInt_inj.mp (e.trans z.symm))
end GJ
