theorem st_sub {args : Array Value} {s : State} (hts : ∀ w ∈ lw_tbl, w.before args s = true) : ∀ y ∈ gSubs, (Cond.selects "java/lang/StringBuilder" y y).before args s = true := List.forall_mem_cons.mpr ⟨gs_sel ⟨by decide, by decide⟩ (hts _ (gt_7 44 rfl)) (hts _ (gt_8 5 rfl)) (hts _ (gt_8 6 rfl)) (hts _ (gt_8 36 rfl)) rfl, List.forall_mem_cons.mpr ⟨gs_sel ⟨by decide, by decide⟩ (hts _ (gt_7 44 rfl)) (hts _ (gt_8 9 rfl)) (hts _ (gt_8 10 rfl)) (hts _ (gt_8 36 rfl)) rfl, List.forall_mem_cons.mpr ⟨gs_sel ⟨by decide, by decide⟩ (hts _ (gt_7 44 rfl)) (hts _ (gt_8 42 rfl)) (hts _ (gt_8 43 rfl)) (hts _ (gt_8 36 rfl)) rfl, List.forall_mem_cons.mpr ⟨gs_sel ⟨by decide, by decide⟩ (hts _ (gt_7 44 rfl)) (hts _ (gt_8 148 rfl)) (hts _ (gt_8 149 rfl)) (hts _ (gt_8 36 rfl)) rfl, List.forall_mem_cons.mpr ⟨gs_sel ⟨by decide, by decide⟩ (hts _ (gt_7 44 rfl)) (hts _ (gt_8 156 rfl)) (hts _ (gt_8 157 rfl)) (hts _ (gt_8 36 rfl)) rfl, List.forall_mem_cons.mpr ⟨gs_sel ⟨by decide, by decide⟩ (hts _ (gt_7 44 rfl)) (hts _ (gt_8 160 rfl)) (hts _ (gt_8 161 rfl)) (hts _ (gt_8 36 rfl)) rfl, fun _ h => absurd h List.not_mem_nil⟩⟩⟩⟩⟩⟩
theorem st_cast {s : State} {args : Array Value} (hts : ∀ w ∈ lw_tbl, w.before args s = true) : ∀ q ∈ gCast, va_Nw (.castable q.1 q.2) s := List.forall_mem_cons.mpr ⟨va_Nw.of rfl (hts _ (gt_11 238 rfl)), List.forall_mem_cons.mpr ⟨va_Nw.of rfl (hts _ (gt_11 239 rfl)), List.forall_mem_cons.mpr ⟨va_Nw.of rfl (hts _ (gt_12 20 rfl)), List.forall_mem_cons.mpr ⟨va_Nw.of rfl (hts _ (gt_12 21 rfl)), List.forall_mem_cons.mpr ⟨va_Nw.of rfl (hts _ (gt_12 18 rfl)), List.forall_mem_cons.mpr ⟨va_Nw.of rfl (hts _ (gt_9 103 rfl)), fun _ h => absurd h List.not_mem_nil⟩⟩⟩⟩⟩⟩
set_option maxRecDepth 100000 in
set_option maxHeartbeats 1000000 in
theorem st_X {s : State} {b : Nat} {A : Nat → Prop} (hA : ∀ a : Nat, a < s.heap.size → ¬ A a) (hts : ∀ w ∈ lw_tbl, w.before #[Value.ref b] s = true) (hf : ∀ w ∈ flatC (Jvm.Cond.and given_1 narrow_1), w.before #[Value.ref b] s = true) (htg : ∀ w ∈ gw, w.before #[Value.ref b] s = true) : ∃ D : va_G, (∀ (c : Nat) (q : vw_C), vwCl[c]? = some q → u_Kn s q.1 q.2.1 q.2.2 (D.1 c) (D.2 c)) ∧ gExS D A s s.heap := by
  obtain ⟨f0, f1, hS⟩ := st_H hA hts hf
  obtain ⟨mi, hmi⟩ := va_Mi.of (hf _ (fl_R (fl_L (fl_L (fl_R (fl_R (fl_R (fl_L (fl_R (fl_R (fl_R (fl_R (fl_R (fl_i))))))))))))))
  obtain ⟨t1, z1, y1⟩ := st_al hA hts hf
  obtain ⟨t2, z2, y2⟩ := st_dg_O hA hts hf
  obtain ⟨t3, z3, y3⟩ := st_dg_T hA hts hf
  obtain ⟨D, hK, hD⟩ := st_D htg (fun c i => if c = 1000 then f0 i else if c = 1001 then f1 i else if i = 0 then mi else if i = 1 then t1 else if i = 2 then t2 else t3)
  have d0 : ∀ i, D.2 1000 i = f0 i := fun i => (congrFun (hD 1000 (by decide)) i).trans (if_pos rfl)
  have d1 : ∀ i, D.2 1001 i = f1 i := fun i => (congrFun (hD 1001 (by decide)) i).trans ((if_neg (by decide)).trans (if_pos rfl))
  have dr : ∀ i, D.2 1002 i = if i = 0 then mi else if i = 1 then t1 else if i = 2 then t2 else t3 := fun i => (congrFun (hD 1002 (by decide)) i).trans ((if_neg (by decide)).trans (if_neg (by decide)))
  have r0 : D.2 1002 0 = mi := (dr 0).trans (if_pos rfl)
  have r1 : D.2 1002 1 = t1 := (dr 1).trans ((if_neg (by decide)).trans (if_pos rfl))
  have r2 : D.2 1002 2 = t2 := (dr 2).trans ((if_neg (by decide)).trans ((if_neg (by decide)).trans (if_pos rfl)))
  have r3 : D.2 1002 3 = t3 := (dr 3).trans ((if_neg (by decide)).trans ((if_neg (by decide)).trans (if_neg (by decide))))
  refine ⟨D, hK, st_E hA hts hf, fun i q bs h1 h2 => ?_, va_Zqof (hts _ (gt_3 82 rfl)) (hts _ (gt_1 29 rfl)) (hf _ (fl_R (fl_L (fl_L (fl_L (fl_L (fl_L (fl_L (fl_L (fl_L (fl_R (fl_L (fl_i))))))))))))) hA, ?_⟩
  · rw [d0, d1]
    exact hS i q bs h1 h2
  · unfold gRX
    rw [r0, r1, r2, r3]
    exact ⟨st_cast hts, hmi, va_Dc.of (hts _ (gt_12 2 rfl)), z1, y1, z2, y2, z3, y3, va_AO.of (hts _ (gt_10 58 rfl))⟩
set_option maxRecDepth 100000 in
theorem whole_start {p : Program} {e : Env} {s : State} {m : MethodId} {below : List Frame} {meth : Method} {c : Code} (l : Launch) (hl0 : l.stackTraces = false) {b L : Nat} {xs : Nat → Int32} (hL : L ≤ 3072) (C0 : lw_At p s m meth c b L xs) (ht0 : c.exceptionTable.toList = []) (hnm : meth.name = "law") :
    W p l e room_1 s m #[Value.ref b] below meth c s.heap [] 0 0 (lw_Z below #[Value.ref b] s) (entryFrame m ([Value.ref b] : List Value).toArray 8) := by
  obtain ⟨hx, hb, hr, hml, hown, hts, hX, hbl, hlocks, hgv⟩ := id C0
  have htg : ∀ w ∈ gw, w.before #[Value.ref b] s = true := fun w hw => (List.mem_append.mp (List.mem_filter.mp hw).1).elim (hts w) (fun h => by obtain ⟨y, hy, rfl⟩ := List.mem_map.mp h; exact st_sub hts y hy)
  obtain ⟨D, hKD, hE⟩ := st_X (A := fun q : Nat => s.heap.size ≤ q) (fun a h => Nat.not_le.mpr h) hts (flat_of_before _ hgv) htg
  obtain ⟨I, hKI⟩ := st_I htg hts
  have hP : va_P D vwCl [] s.heap := fun k q h => by simp at h
  have hD : va_D (fun q : Nat => s.heap.size ≤ q) [] := ⟨fun i j p q h => by simp at h, fun k q h => by simp at h⟩
  have C : gC (gV D I) (gL cL_law 8 "SpillForgeLaw" (some .boolean) "law" b L xs) (fun q => s.heap.size ≤ q) p l s m #[Value.ref b] meth c :=
    ⟨hx, hb, hml, hown, hr, ht0, hnm, htg, hlocks, ⟨hKD, hKI⟩, fun q h => h, hE, hl0, hX, hbl, fun q h => h⟩
  have hl := lv_entry ([.ref b]) (n := 8) (Nat.le_of_ble_eq_true rfl)
  rw [lg_entry_eq]
  generalize (lg_sl ([.ref b]) ++ List.replicate (8 - (lg_sl ([.ref b])).length) Slot.unset).toArray = ls at hl ⊢
  have hl : lv_has ls 8 [(0, .ref b)] := hl
  exact lw_go l hl0 D I b L xs hL p e s m _ below meth c _ s.heap [] ls C hP hD va_S.rf hl
