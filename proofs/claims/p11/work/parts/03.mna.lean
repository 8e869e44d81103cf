/-! 'new T[n][k]' as one instruction (own proof): the outer array at the old end of the heap, then n rows of k places. -/
def gm_in (cI : ClassId) (K : Nat) (dv : Value) : Cell := { cls := cI, slots := Array.replicate K dv, vm := .none }
/-- the outer array of N places at h0, i of them filled -/
def gm_out (cO : ClassId) (N h0 i : Nat) : Cell := { cls := cO, slots := Array.ofFn (n := N) (fun j => if j.val < i then Value.ref (h0 + 1 + j.val) else Value.null), vm := .none }
/-- T with such an outer array and j rows behind its heap -/
def gm_st (T : State) (cO cI : ClassId) (N K : Nat) (dv : Value) (i j : Nat) : State := { T with heap := T.heap.push (gm_out cO N T.heap.size i) ++ Array.replicate j (gm_in cI K dv), slotsUsed := T.slotsUsed + N + j * K }
theorem gm_out_size (cO : ClassId) (N h0 i : Nat) : (gm_out cO N h0 i).slots.size = N := by simp [gm_out]
theorem gm_out_0 (cO : ClassId) (N h0 : Nat) : gm_out cO N h0 0 = { cls := cO, slots := Array.replicate N .null, vm := .none } := by
  unfold gm_out
  congr 1
  apply Array.ext
  · simp
  · intro i h1 h2
    simp
theorem gm_out_set (cO : ClassId) (N h0 : Nat) {i : Nat} (hi : i < N) : (gm_out cO N h0 i).setSlot i (.ref (h0 + 1 + i)) = gm_out cO N h0 (i + 1) := by
  unfold gm_out Cell.setSlot
  congr 1
  apply Array.ext_getElem?
  intro j
  rw [Array.getElem?_setIfInBounds]
  simp only [Array.getElem?_ofFn, Array.size_ofFn]
  by_cases e : i = j
  · subst e
    simp [hi]
  · rw [if_neg e]
    by_cases hj : j < N
    · rw [dif_pos hj, dif_pos hj]
      by_cases q : j < i
      · rw [if_pos q, if_pos (by omega)]
      · rw [if_neg q, if_neg (by omega)]
    · rw [dif_neg hj, dif_neg hj]
theorem gm_st_new (T : State) (cO cI : ClassId) (N K : Nat) (dv : Value) (i : Nat) : T.pushCell (gm_out cO N T.heap.size i) = gm_st T cO cI N K dv i 0 := by
  unfold gm_st State.pushCell
  rw [gm_out_size]
  simp
theorem gm_st_push (T : State) (cO cI : ClassId) (N K : Nat) (dv : Value) (i j : Nat) : (gm_st T cO cI N K dv i j).pushCell (gm_in cI K dv) = gm_st T cO cI N K dv i (j + 1) := by
  unfold gm_st State.pushCell
  have h1 : (gm_in cI K dv).slots.size = K := by simp [gm_in]
  have h2 : (T.heap.push (gm_out cO N T.heap.size i) ++ Array.replicate j (gm_in cI K dv)).push (gm_in cI K dv) = T.heap.push (gm_out cO N T.heap.size i) ++ Array.replicate (j + 1) (gm_in cI K dv) := by
    rw [Array.replicate_succ, Array.append_push]
  show ({ T with heap := _, slotsUsed := _ } : State) = { T with heap := _, slotsUsed := _ }
  rw [h2, h1, Nat.succ_mul, Nat.add_assoc (T.slotsUsed + N)]
theorem gm_st_set (T : State) (cO cI : ClassId) (N K : Nat) (dv : Value) {i : Nat} (j : Nat) (hi : i < N) : (gm_st T cO cI N K dv i j).setCell T.heap.size ((gm_out cO N T.heap.size i).setSlot i (.ref (T.heap.size + 1 + i))) = gm_st T cO cI N K dv (i + 1) j := by
  rw [gm_out_set cO N T.heap.size hi]
  unfold gm_st State.setCell
  have h2 : (T.heap.push (gm_out cO N T.heap.size i) ++ Array.replicate j (gm_in cI K dv)).setIfInBounds T.heap.size (gm_out cO N T.heap.size (i + 1)) = T.heap.push (gm_out cO N T.heap.size (i + 1)) ++ Array.replicate j (gm_in cI K dv) := by
    apply Array.ext_getElem?
    intro q
    rw [Array.getElem?_setIfInBounds]
    by_cases e : T.heap.size = q
    · subst e
      rw [if_pos rfl, Array.getElem?_append_left (by simp)]
      simp
      omega
    · rw [if_neg e]
      by_cases a : q < T.heap.size
      · rw [Array.getElem?_append_left (by simp; omega), Array.getElem?_append_left (by simp; omega), Array.getElem?_push, Array.getElem?_push]
        rw [if_neg (by omega), if_neg (by omega)]
      · rw [Array.getElem?_append_right (by simp; omega), Array.getElem?_append_right (by simp; omega)]
        simp
  show ({ T with heap := _, slotsUsed := _ } : State) = { T with heap := _, slotsUsed := _ }
  rw [h2]
theorem gm_st_size (T : State) (cO cI : ClassId) (N K : Nat) (dv : Value) (i j : Nat) : (gm_st T cO cI N K dv i j).heap.size = T.heap.size + 1 + j := by
  simp [gm_st]
theorem gm_st_outer (T : State) (cO cI : ClassId) (N K : Nat) (dv : Value) (i j : Nat) : (gm_st T cO cI N K dv i j).heap[T.heap.size]? = some (gm_out cO N T.heap.size i) := by
  show (T.heap.push (gm_out cO N T.heap.size i) ++ Array.replicate j (gm_in cI K dv))[T.heap.size]? = _
  rw [Array.getElem?_append_left (by simp)]
  simp
theorem gm_st_inner (T : State) (cO cI : ClassId) (N K : Nat) (dv : Value) (i j : Nat) {q : Nat} (hq : q < j) : (gm_st T cO cI N K dv i j).heap[T.heap.size + 1 + q]? = some (gm_in cI K dv) := by
  show (T.heap.push (gm_out cO N T.heap.size i) ++ Array.replicate j (gm_in cI K dv))[T.heap.size + 1 + q]? = _
  rw [Array.getElem?_append_right (by simp)]
  simp [hq]
theorem gm_st_old (T : State) (cO cI : ClassId) (N K : Nat) (dv : Value) (i j : Nat) {q : Nat} (hq : q < T.heap.size) : (gm_st T cO cI N K dv i j).heap[q]? = T.heap[q]? := by
  show (T.heap.push (gm_out cO N T.heap.size i) ++ Array.replicate j (gm_in cI K dv))[q]? = _
  rw [Array.getElem?_append_left (by simp; omega), Array.getElem?_push_lt hq]
  simp [hq]

section GM
variable {E : CtlPost} {e : Env} {d : Bool} {acts : List Action} {S : State}
/-- one array of default values -/
theorem gm_wpNew {cA comp : ClassId} {k : Class} {ty : FieldType} {n : Nat} {v : Value} (hk : S.vm.classes[cA]? = some k) (hkd : k.kind = .array comp ty) (hv : fits ty v = true) (hv2 : v.isDefault = true)
    (hlim : n ≤ e.platform.arrayLengthLimit) (hbytes : n * componentBytes ty ≤ e.platform.maxHeapBytes) (hc : S.heap.size < e.platform.maxCells) (hs : S.slotsUsed + n ≤ e.platform.maxSlots) {Q : Addr → Pre}
    (hq : Q S.heap.size d acts (S.pushCell { cls := cA, slots := Array.replicate n v, vm := .none })) : wp (Jvm.newArray cA n v) Q E e d acts S := by
  have h1 : ∀ i w, (Array.replicate n v)[i]? = some w → S.fitsSlot cA .none i w = true := by
    intro i w hw
    rw [Array.getElem?_replicate] at hw
    split at hw
    · cases hw
      simp [State.fitsSlot, State.slotType?, hk, hkd, hv]
    · cases hw
  have h2 : allocActs (Array.replicate n v) S.heap.size acts = acts := by
    unfold allocActs
    rw [if_pos]
    rw [Array.all_replicate]
    split <;> simp [hv2]
  have a1 : ¬ n > e.platform.arrayLengthLimit := by omega
  have a2 : ¬ n * componentBytes ty > e.platform.maxHeapBytes := by omega
  simp only [Jvm.newArray, Jvm.arrayFits, wp_bind', W.ask, W.ite, a1, if_false, wp_pure', W.theClass, hk, hkd, a2, W.alloc, W.stop, Option.some.injEq, exists_eq_left', Array.size_replicate, h2]
  rw [if_neg (by omega)]
  exact ⟨hc, hs, h1, hq⟩
theorem gm_refFits {t : FieldType} (h : t.isReference = true) {v : Value} (hv : v = .null ∨ ∃ a, v = .ref a) : fits t v = true := by
  rcases hv with rfl | ⟨a, rfl⟩ <;> cases t <;> first | (cases h; done) | rfl
theorem gm_wpRow {cI cz : ClassId} {k : Class} {ty : FieldType} {w : Int32} (hk : S.vm.classes[cI]? = some k) (hkd : k.kind = .array cz ty) (hw : ¬ w < 0) (hv : fits ty (defaultValue ty) = true) (hv2 : (defaultValue ty).isDefault = true)
    (hlim : w.toNatClampNeg ≤ e.platform.arrayLengthLimit) (hbytes : w.toNatClampNeg * componentBytes ty ≤ e.platform.maxHeapBytes) (hc : S.heap.size < e.platform.maxCells) (hs : S.slotsUsed + w.toNatClampNeg ≤ e.platform.maxSlots) {Q : Addr → Pre}
    (hq : Q S.heap.size d acts (S.pushCell (gm_in cI w.toNatClampNeg (defaultValue ty)))) : wp (multianewarray.make cI [w]) Q E e d acts S := by
  rw [multianewarray.make]
  simp only [wp_bind', W.ite, hw, if_false, wp_pure', W.theClass, hk, hkd, Option.some.injEq, exists_eq_left']
  exact gm_wpNew hk hkd hv hv2 hlim hbytes hc hs hq
theorem gm_wpMake {cO cI cz : ClassId} {kO kI : Class} {tO ty : FieldType} {n w : Int32} (hkO : S.vm.classes[cO]? = some kO) (hdO : kO.kind = .array cI tO) (hr : tO.isReference = true) (hkI : S.vm.classes[cI]? = some kI) (hdI : kI.kind = .array cz ty)
    (hn : ¬ n < 0) (hw : ¬ w < 0) (hv : fits ty (defaultValue ty) = true) (hv2 : (defaultValue ty).isDefault = true)
    (hlim : n.toNatClampNeg ≤ e.platform.arrayLengthLimit) (hbytes : n.toNatClampNeg * componentBytes tO ≤ e.platform.maxHeapBytes) (hlim2 : w.toNatClampNeg ≤ e.platform.arrayLengthLimit) (hbytes2 : w.toNatClampNeg * componentBytes ty ≤ e.platform.maxHeapBytes)
    (hc : S.heap.size + 1 + n.toNatClampNeg ≤ e.platform.maxCells) (hs : S.slotsUsed + n.toNatClampNeg + n.toNatClampNeg * w.toNatClampNeg ≤ e.platform.maxSlots) {Q : Addr → Pre}
    (hq : ∀ d' acts', Q S.heap.size d' acts' (gm_st S cO cI n.toNatClampNeg w.toNatClampNeg (defaultValue ty) n.toNatClampNeg n.toNatClampNeg)) : wp (multianewarray.make cO [n, w]) Q E e d acts S := by
  have hfind : ([w].find? (· < 0)) = none := by simp [hw]
  generalize hN : n.toNatClampNeg = N at *
  generalize hK : w.toNatClampNeg = K at *
  rw [multianewarray.make]
  simp only [wp_bind', W.ite, hn, if_false, wp_pure', W.theClass, hkO, hdO, Option.some.injEq, exists_eq_left', hN]
  refine gm_wpNew hkO hdO (gm_refFits hr (Or.inl rfl)) rfl hlim hbytes (by omega) (by omega) ?_
  simp only [hfind]
  rw [ite_self, wp_bind', Std.Legacy.Range.forIn_eq_forIn_range']
  have hsz : ([:N] : Std.Legacy.Range).size = N := by simp [Std.Legacy.Range.size]
  rw [hsz]
  show wp (forIn (List.range' 0 N 1) PUnit.unit _) _ E e d acts _
  rw [← gm_out_0 cO N S.heap.size, gm_st_new S cO cI N K (defaultValue ty) 0]
  refine wp_forIn_inv (fun rest s' => ∃ i, i ≤ N ∧ rest = List.range' i (N - i) ∧ s' = gm_st S cO cI N K (defaultValue ty) i i) _ _ ⟨0, Nat.zero_le _, rfl, rfl⟩ ?_ ?_
  · rintro x rest s' d' acts' Q' ⟨i, hi, hl, rfl⟩ hnext
    rcases Nat.lt_or_ge i N with hlt | hge
    · rw [show N - i = (N - (i + 1)) + 1 from by omega, List.range'_succ] at hl
      obtain ⟨rfl, hrest⟩ := List.cons.inj hl
      have hmul : x * K + K ≤ N * K := by
        have h9 := Nat.mul_le_mul_right K (show x + 1 ≤ N from hlt)
        rw [Nat.succ_mul] at h9
        exact h9
      have z1 : (gm_st S cO cI N K (defaultValue ty) x x).heap.size = S.heap.size + 1 + x := gm_st_size ..
      have z2 : (gm_st S cO cI N K (defaultValue ty) x x).slotsUsed = S.slotsUsed + N + x * K := rfl
      simp only [wp_bind']
      refine gm_wpRow (S := gm_st S cO cI N K (defaultValue ty) x x) (k := kI) hkI hdI hw hv hv2 (by rw [hK]; exact hlim2) (by rw [hK]; exact hbytes2) (by rw [z1]; omega) (by rw [z2, hK]; omega) ?_
      simp only [wp_bind', W.writeLoc, wp_pure']
      rw [hK, gm_st_push, z1]
      refine ⟨gm_out cO N S.heap.size x, gm_st_outer .., by simp [gm_out], by rw [gm_out_size]; exact hlt, ?_, hnext _ _ _ ⟨x + 1, hlt, hrest, ?_⟩⟩
      · show State.fitsSlot _ cO .none x _ = true
        simp [State.fitsSlot, State.slotType?, show (gm_st S cO cI N K (defaultValue ty) x (x + 1)).vm = S.vm from rfl, hkO, hdO, gm_refFits hr (Or.inr ⟨_, rfl⟩)]
      · exact gm_st_set S cO cI N K (defaultValue ty) (x + 1) hlt
    · rw [show N - i = 0 from by omega] at hl
      cases hl
  · rintro s' d' acts' ⟨i, hi, hl, rfl⟩
    have hiN : i = N := by
      rcases Nat.lt_or_ge i N with h | h
      · rw [show N - i = (N - (i + 1)) + 1 from by omega, List.range'_succ] at hl
        cases hl
      · omega
    subst hiN
    simp only [wp_pure']
    exact hq _ _
end GM
