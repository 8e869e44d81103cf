theorem dr_cX14_block_109 : decode cX14_block 109 = .ok (.aload_n 0, 1) := by decide +kernel
theorem dr_cX14_block_110 : decode cX14_block 110 = .ok (.aload 4, 2) := by decide +kernel
theorem dr_cX14_block_112 : decode cX14_block 112 = .ok (.invokevirtual 201, 3) := by decide +kernel
theorem wr_10_105 : (Jvm.Cond.methodLink "SpillForgeModel$Reader" (201 : Nat) ({ cls := "SpillForgeModel$Reader", name := "end", desc := "(LSpillForgeModel$Block;)V" } : Jvm.MethodName)) ∈ gw := gw_10 105 rfl rfl
theorem wr_10_108 : (Jvm.Cond.code ({ cls := "SpillForgeModel$Reader", name := "end", desc := "(LSpillForgeModel$Block;)V" } : Jvm.MethodName) prog_17_method_18_code (3 : Nat) (Option.none : Option Jvm.ClassFile.FieldType)) ∈ gw := gw_10 108 rfl rfl
theorem wr_10_107 : (Jvm.Cond.instanceMethod ({ cls := "SpillForgeModel$Reader", name := "end", desc := "(LSpillForgeModel$Block;)V" } : Jvm.MethodName)) ∈ gw := gw_10 107 rfl rfl
theorem wr_p_90 : Cond.selects "SpillForgeModel$Reader" ⟨"SpillForgeModel$Reader", "end", "(LSpillForgeModel$Block;)V"⟩ ⟨"SpillForgeModel$Reader", "end", "(LSpillForgeModel$Block;)V"⟩ ∈ gw := gw_p _ 90 rfl rfl rfl
theorem dr_cX14_block_115 : decode cX14_block 115 = .ok (.return_, 1) := by decide +kernel
theorem dr_cX14_block_73 : decode cX14_block 73 = .ok (.aload_n 0, 1) := by decide +kernel
theorem dr_cX14_block_74 : decode cX14_block 74 = .ok (.dup, 1) := by decide +kernel
theorem dr_cX14_block_75 : decode cX14_block 75 = .ok (.getfield 181, 3) := by decide +kernel
theorem wr_9_48 : (Jvm.Cond.fieldLink "SpillForgeModel$Reader" (181 : Nat) "SpillForgeModel$Reader" "rows" "I") ∈ gw := gw_9 48 rfl rfl
theorem dr_cX14_block_78 : decode cX14_block 78 = .ok (.iconst 1, 1) := by decide +kernel
theorem dr_cX14_block_79 : decode cX14_block 79 = .ok (.iadd, 1) := by decide +kernel
theorem dr_cX14_block_80 : decode cX14_block 80 = .ok (.putfield 181, 3) := by decide +kernel
theorem dr_cX14_block_83 : decode cX14_block 83 = .ok (.aload_n 1, 1) := by decide +kernel
theorem dr_cX14_block_84 : decode cX14_block 84 = .ok (.invokevirtual 184, 3) := by decide +kernel
theorem wr_10_79 : (Jvm.Cond.methodLink "SpillForgeModel$Reader" (184 : Nat) ({ cls := "SpillForgeModel$Code", name := "row", desc := "()LSpillForgeModel$Row;" } : Jvm.MethodName)) ∈ gw := gw_10 79 rfl rfl
theorem dr_cX14_block_87 : decode cX14_block 87 = .ok (.astore 5, 2) := by decide +kernel
theorem dr_cX14_block_89 : decode cX14_block 89 = .ok (.aload_n 0, 1) := by decide +kernel
theorem dr_cX14_block_90 : decode cX14_block 90 = .ok (.aload 5, 2) := by decide +kernel
theorem dr_cX14_block_92 : decode cX14_block 92 = .ok (.invokevirtual 188, 3) := by decide +kernel
theorem wr_10_85 : (Jvm.Cond.methodLink "SpillForgeModel$Reader" (188 : Nat) ({ cls := "SpillForgeModel$Reader", name := "row", desc := "(LSpillForgeModel$Row;)V" } : Jvm.MethodName)) ∈ gw := gw_10 85 rfl rfl
theorem wr_10_88 : (Jvm.Cond.code ({ cls := "SpillForgeModel$Reader", name := "row", desc := "(LSpillForgeModel$Row;)V" } : Jvm.MethodName) prog_17_method_17_code (2 : Nat) (Option.none : Option Jvm.ClassFile.FieldType)) ∈ gw := gw_10 88 rfl rfl
theorem wr_10_87 : (Jvm.Cond.instanceMethod ({ cls := "SpillForgeModel$Reader", name := "row", desc := "(LSpillForgeModel$Row;)V" } : Jvm.MethodName)) ∈ gw := gw_10 87 rfl rfl
theorem wr_p_88 : Cond.selects "SpillForgeModel$Reader" ⟨"SpillForgeModel$Reader", "row", "(LSpillForgeModel$Row;)V"⟩ ⟨"SpillForgeModel$Reader", "row", "(LSpillForgeModel$Row;)V"⟩ ∈ gw := gw_p _ 88 rfl rfl rfl
theorem dr_cX14_block_95 : decode cX14_block 95 = .ok (.aload 4, 2) := by decide +kernel
theorem dr_cX14_block_97 : decode cX14_block 97 = .ok (.getfield 191, 3) := by decide +kernel
theorem wr_9_221 : (Jvm.Cond.fieldLink "SpillForgeModel$Reader" (191 : Nat) "SpillForgeModel$Block" "rows" "Ljava/util/ArrayList;") ∈ gw := gw_9 221 rfl rfl
theorem dr_cX14_block_100 : decode cX14_block 100 = .ok (.aload 5, 2) := by decide +kernel
theorem dr_cX14_block_102 : decode cX14_block 102 = .ok (.invokevirtual 196, 3) := by decide +kernel
theorem wr_10_104 : (Jvm.Cond.methodLink "SpillForgeModel$Reader" (196 : Nat) ({ cls := "java/util/ArrayList", name := "add", desc := "(Ljava/lang/Object;)Z" } : Jvm.MethodName)) ∈ gw := gw_10 104 rfl rfl
theorem dr_cX14_block_105 : decode cX14_block 105 = .ok (.pop, 1) := by decide +kernel
theorem dr_cX14_block_106 : decode cX14_block 106 = .ok (.goto (-69), 3) := by decide +kernel
theorem dr_cX14_block_54 : decode cX14_block 54 = .ok (.aload_n 0, 1) := by decide +kernel
theorem dr_cX14_block_55 : decode cX14_block 55 = .ok (.getfield 181, 3) := by decide +kernel
theorem dr_cX14_block_58 : decode cX14_block 58 = .ok (.sipush 160, 3) := by decide +kernel
theorem dr_cX14_block_61 : decode cX14_block 61 = .ok (.if_icmp .ne 12, 3) := by decide +kernel
theorem dr_cX14_block_64 : decode cX14_block 64 = .ok (.aload_n 0, 1) := by decide +kernel
theorem dr_cX14_block_65 : decode cX14_block 65 = .ok (.iconst 4, 1) := by decide +kernel
theorem dr_cX14_block_66 : decode cX14_block 66 = .ok (.aload_n 0, 1) := by decide +kernel
theorem dr_cX14_block_67 : decode cX14_block 67 = .ok (.getfield 47, 3) := by decide +kernel
theorem dr_cX14_block_70 : decode cX14_block 70 = .ok (.invokevirtual 167, 3) := by decide +kernel
theorem wr_9_132 : (Jvm.Cond.methodLink "SpillForgeModel$Reader" (167 : Nat) ({ cls := "SpillForgeModel$Reader", name := "breaks", desc := "(II)V" } : Jvm.MethodName)) ∈ gw := gw_9 132 rfl rfl
theorem wr_9_135 : (Jvm.Cond.code ({ cls := "SpillForgeModel$Reader", name := "breaks", desc := "(II)V" } : Jvm.MethodName) prog_17_method_12_code (3 : Nat) (Option.none : Option Jvm.ClassFile.FieldType)) ∈ gw := gw_9 135 rfl rfl
theorem wr_9_134 : (Jvm.Cond.instanceMethod ({ cls := "SpillForgeModel$Reader", name := "breaks", desc := "(II)V" } : Jvm.MethodName)) ∈ gw := gw_9 134 rfl rfl
theorem wr_p_82 : Cond.selects "SpillForgeModel$Reader" ⟨"SpillForgeModel$Reader", "breaks", "(II)V"⟩ ⟨"SpillForgeModel$Reader", "breaks", "(II)V"⟩ ∈ gw := gw_p _ 82 rfl rfl rfl
theorem dr_cX14_block_37 : decode cX14_block 37 = .ok (.aload_n 0, 1) := by decide +kernel
theorem dr_cX14_block_38 : decode cX14_block 38 = .ok (.getfield 38, 3) := by decide +kernel
theorem dr_cX14_block_41 : decode cX14_block 41 = .ok (.iconst 2, 1) := by decide +kernel
theorem dr_cX14_block_42 : decode cX14_block 42 = .ok (.if_icmp .eq 12, 3) := by decide +kernel
theorem dr_cX14_block_45 : decode cX14_block 45 = .ok (.aload_n 0, 1) := by decide +kernel
theorem dr_cX14_block_46 : decode cX14_block 46 = .ok (.ldc 179, 2) := by decide +kernel
theorem dr_cX14_block_48 : decode cX14_block 48 = .ok (.invokevirtual 132, 3) := by decide +kernel
theorem dr_cX14_block_51 : decode cX14_block 51 = .ok (.ifCond .eq 58, 3) := by decide +kernel
theorem dr_cX14_block_0 : decode cX14_block 0 = .ok (.aload_n 0, 1) := by decide +kernel
theorem dr_cX14_block_1 : decode cX14_block 1 = .ok (.getfield 47, 3) := by decide +kernel
theorem dr_cX14_block_4 : decode cX14_block 4 = .ok (.istore_n 2, 1) := by decide +kernel
theorem dr_cX14_block_5 : decode cX14_block 5 = .ok (.aload_n 0, 1) := by decide +kernel
theorem dr_cX14_block_6 : decode cX14_block 6 = .ok (.iconst 3, 1) := by decide +kernel
theorem dr_cX14_block_7 : decode cX14_block 7 = .ok (.invokevirtual 152, 3) := by decide +kernel
theorem dr_cX14_block_10 : decode cX14_block 10 = .ok (.istore_n 3, 1) := by decide +kernel
theorem dr_cX14_block_11 : decode cX14_block 11 = .ok (.iload_n 3, 1) := by decide +kernel
theorem dr_cX14_block_12 : decode cX14_block 12 = .ok (.aload_n 1, 1) := by decide +kernel
theorem dr_cX14_block_13 : decode cX14_block 13 = .ok (.invokevirtual 164, 3) := by decide +kernel
theorem wr_9_128 : (Jvm.Cond.methodLink "SpillForgeModel$Reader" (164 : Nat) ({ cls := "SpillForgeModel$Code", name := "size", desc := "()I" } : Jvm.MethodName)) ∈ gw := gw_9 128 rfl rfl
theorem dr_cX14_block_25 : decode cX14_block 25 = .ok (.aload_n 0, 1) := by decide +kernel
theorem dr_cX14_block_26 : decode cX14_block 26 = .ok (.ldc 171, 2) := by decide +kernel
theorem dr_cX14_block_28 : decode cX14_block 28 = .ok (.invokevirtual 173, 3) := by decide +kernel
theorem dr_cX14_block_31 : decode cX14_block 31 = .ok (.aload_n 1, 1) := by decide +kernel
theorem dr_cX14_block_32 : decode cX14_block 32 = .ok (.invokevirtual 176, 3) := by decide +kernel
theorem wr_9_153 : (Jvm.Cond.methodLink "SpillForgeModel$Reader" (176 : Nat) ({ cls := "SpillForgeModel$Code", name := "block", desc := "()LSpillForgeModel$Block;" } : Jvm.MethodName)) ∈ gw := gw_9 153 rfl rfl
theorem dr_cX14_block_35 : decode cX14_block 35 = .ok (.astore 4, 2) := by decide +kernel
theorem dr_cX14_block_16 : decode cX14_block 16 = .ok (.if_icmp .eq 9, 3) := by decide +kernel
theorem dr_cX14_block_19 : decode cX14_block 19 = .ok (.aload_n 0, 1) := by decide +kernel
theorem dr_cX14_block_20 : decode cX14_block 20 = .ok (.iconst 2, 1) := by decide +kernel
theorem dr_cX14_block_21 : decode cX14_block 21 = .ok (.iload_n 2, 1) := by decide +kernel
theorem dr_cX14_block_22 : decode cX14_block 22 = .ok (.invokevirtual 167, 3) := by decide +kernel
abbrev ky_rdb : gKey := (cX14_block, 6, "SpillForgeModel$Reader", none, [], "block", fun _ _ => True)
set_option maxRecDepth 100000 in
set_option maxHeartbeats 4000000 in
theorem blk_loop {l : Launch} (hl0 : l.stackTraces = false) {D : va_G} {I : FieldType → ClassId} {P0 : List Nat} {F0 : Nat → va_E} {γ0 el0 : Nat → Nat → Nat} {f c R tp g gp : Nat} {n a0 rw0 gn nn wh : Int32} {N : Nat} {fg fp : Nat → Int32} {j bb M mc ms : Nat} {ft : Nat → Int32} (t0 : γ0 0 tp = 99) (hf1 : F0 tp = .inl (I .byte, 8192, .inl ft)) (hf2 : gF ft (-128) 127) (hra : rw0.toInt ≤ a0.toInt) (ha0 : 0 ≤ a0.toInt)
    (hM : (rM γ0 el0 f : Int) + 18 * (n.toInt - a0.toInt) + 300 ≤ M) (hM9 : M ≤ 2000000) (hMC : (M : Int) + 360 * (n.toInt - a0.toInt) + 720 ≤ 18 * (mc : Int) + (rPh γ0 el0 f : Int)) (hMS : (M : Int) + 192 * (n.toInt - a0.toInt) + 16 * (N : Int) + 400 ≤ (ms : Int) + (rPh γ0 el0 f : Int)) :
    ∀ (μ : Nat) (P : List Nat) (F : Nat → va_E) (γ el : Nat → Nat → Nat) (tx : gTz) (a k pl v b rp ru rw : Int32) (cs sl mi : Nat) (mb : Bool) (Q : gPg), n.toInt - a.toInt < (μ : Int) → rSk f blkK blkF D I P0 F0 γ0 el0 P F γ el → rNu f γ0 γ → rdI I P F γ R tp g gp tx n a k pl v b rp ru rw gn N fg fp → prL γ el F f c j bb fg gn rp rw → mcL (bA ft n.toInt) n.toInt mi a k v tx.2 rw.toInt mb Q gn fg rp → rfL γ el F c j bb Q →
    (rw0.toInt ≤ rw.toInt ∧ 2 * (rw.toInt - rw0.toInt) + 1 ≤ a.toInt - a0.toInt ∧ (k.toInt = 0 ∨ 2 * (rw.toInt - rw0.toInt) + 2 ≤ a.toInt - a0.toInt)) →
    18 * (cs : Int) + (rPh γ0 el0 f : Int) ≤ (rPh γ el f : Int) + 18 * (16 * (a.toInt - a0.toInt) + 8 * (rw.toInt - rw0.toInt)) → (sl : Int) + (rPh γ0 el0 f : Int) ≤ (rPh γ el f : Int) + 160 * (a.toInt - a0.toInt) + 64 * (rw.toInt - rw0.toInt) → (rM γ el f : Int) ≤ (rM γ0 el0 f : Int) + 123 + 36 * (rw.toInt - rw0.toInt) →
    G (gV D I) l (gRm 11 260 mc ms) (gMA (gV D I) (blP D I P0 F0 γ0 el0 f c R tp n a0 rw0 N j ft) (blX D I P0 F0 γ0 el0 f n a0 N ft) mc ms) ky_rdb 37 [(4, .ref bb), (3, .int nn), (2, .int wh), (0, .ref R), (1, .ref c)] [] (va_pl P F) cs sl := by
  intro μ
  induction μ with
  | zero =>
    intro P F γ el tx a k pl v b rp ru rw cs sl mi mb Q hμ hk hnu hd hL hmc hrf hρ hcs hsl hrm
    exact absurd hμ (by have := hd.2.2.2.2.2.1.1; omega)
  | succ μ ih =>
  intro P F γ el tx a k pl v b rp ru rw cs sl mi mb Q hμ hk hnu hd hL hmc hrf hρ hcs hsl hrm
  obtain ⟨⟨r1, r2, r3⟩, ⟨gm0, gF0, g03⟩, ⟨gpm0, gpF0, gp03⟩, ⟨t25, -⟩, ⟨bn, ba, bk, bpl, bbf, brp, bru, brw, bgn⟩, ⟨an, tp0, vp0, -⟩, ⟨-, -, -, -, rwa⟩⟩ := id hd
  obtain ⟨⟨c0, c1, c6, c19⟩, h16, hmd, hB2, hGI, hrp, ⟨b0, b1, bj, bj2⟩⟩ := id hL
  obtain ⟨hρ0, hρ1, hρ2⟩ := hρ
  have hT := hk.1
  obtain ⟨sz1, sz2, sz3, sz4, sz5⟩ := rsz hT c0 c1
  have hn8 := bn.2
  have f1 : F tp = .inl (I .byte, 8192, .inl ft) := (rSk_F hk (show rKd γ0 tp 99 from t0) (by decide) (by decide)).trans hf1
  have ext : ¬ ((tk (bA ft n.toInt) n.toInt mi).1 = 2 ∨ (tk (bA ft n.toInt) n.toInt mi).1 = 9) → G (gV D I) l (gRm 11 260 mc ms) (gMA (gV D I) (blP D I P0 F0 γ0 el0 f c R tp n a0 rw0 N j ft) (blX D I P0 F0 γ0 el0 f n a0 N ft) mc ms) ky_rdb 109 [(4, .ref bb), (3, .int nn), (2, .int wh), (0, .ref R), (1, .ref c)] [] (va_pl P F) cs sl := fun hk0 => by
    refine G_aload_n 3 dr_cX14_block_109 rfl ?_
    refine G_aload 0 dr_cX14_block_110 rfl ?_
    refine Gr_end hl0 dr_cX14_block_112 ⟨wr_10_105, wr_1_32, wr_10_108, by decide, rfl, (Nat.le_of_ble_eq_true rfl), (Nat.le_of_ble_eq_true rfl)⟩ wr_10_107 wr_p_90 hT hd f1 hf2 b0 (show _ ≤ mc by omega) (show _ ≤ ms by omega) (Nat.le_of_ble_eq_true rfl) (fun P1 F1 g1 gp1 tx1 a1 k1 pl1 v1 b1' gn1 N1 fg1 fp1 lb nb fi se dc ds hs hfr nbx hT1 hd1 hFb bfi bse hRn h1n hgl hnz la pr hN hgn hgn2 hdc hds htr => ?_) (fun q P1 F1 nb dc ds hs hfr nbx hRn h202 hT1 hq hwr hdc hds htx => ?_)
    · obtain ⟨nb0, nb1⟩ := nbx
      have hρ3 := hρ2.resolve_left hnz
      have h7 := hd1.2.2.2.2.2.1.1
      have h8 := hd1.2.2.2.2.2.2.1
      have h9 := hd.2.2.2.2.2.2.2.1
      have h10 := hd.2.2.2.2.2.2.2.2.1
      obtain ⟨i2, ll, Q1, w1, -, w3, w4, w5, w6, w7, w8, w9, -⟩ := end_tr hf2 bn.1 bn.2 hmc.1 hmc.2.1 (by have := hrf.1; clear ih hd1 hT1 hL hd hGI hB2; omega) (fun z hz => by have e : z = j := (by have := hrf.1; clear ih hd1 hT1 hL hd hGI hB2; omega); rw [e]; exact hrf.2.2.2) hmc.2.2.1 bgn.1 h9 rfl (by clear ih hd1 hT1 hL hd hGI hB2; omega) htr
      refine G_vretA dr_cX14_block_115 rfl ?_ ?_ (blP_of (g := g) (gp := gp) hk hnu hL hrf ⟨r3, g03, gp03⟩ hs hfr nb0 nb1 hT1 hd1 hFb bfi bse hRn h1n hgl hgn ⟨w1, w3, w9, hmc.2.2.2⟩ w4 w5 w6 w7 w8 (by omega) (pr.imp id (fun z => by omega)) hρ0 hN (by clear ih hd1 hT1 hL hd hGI hB2; omega) (by clear ih hd1 hT1 hL hd hGI hB2; omega) hrm)
      · clear ih hd1 hT1 hL hd hGI hB2
        omega
      · clear ih hd1 hT1 hL hd hGI hB2
        omega
    · obtain ⟨nb0, nb1⟩ := nbx
      have h3 : 2 * (rw.toInt - rw0.toInt) + 1 ≤ n.toInt - a0.toInt := by omega
      exact GT_outA rfl (by clear ih hL hd hGI hB2; omega) (by clear ih hL hd hGI hB2; omega) ⟨P1, F1, γ, el, rfl, rfl, rSk_ow hk hs hfr (wm_c (Or.inr (fit_202 b0 h202)) (wm_c (Or.inr (fit_101 nb0 hRn)) (wm_c (Or.inl r3) (wm_c (Or.inl gp03) (wm_c (Or.inl g03) wm_n))))) (wm_c (Or.inr ⟨by rw [b0]; decide, Or.inl b1⟩) (wm_c (Or.inr ⟨by rw [nb0]; decide, Or.inl (nb1.trans b1)⟩) (wm_c (Or.inl r3) (wm_c (Or.inl gp03) (wm_c (Or.inl g03) wm_n))))) blkKF, hnu, hq, hwr, by clear ih hL hd hGI hB2; omega, by clear ih hL hd hGI hB2; omega, by clear ih hL hd hGI hB2; omega, end_tx hf2 bn.1 bn.2 hmc.1 hmc.2.1 hk0 bgn.1 hd.2.2.2.2.2.2.2.1 rfl (by have := hd.2.2.2.2.2.2.2.2.1; clear ih hL hd hGI hB2; omega) htx⟩
  have body : ((tk (bA ft n.toInt) n.toInt mi).1 = 2 ∨ (tk (bA ft n.toInt) n.toInt mi).1 = 9) → nzK k → G (gV D I) l (gRm 11 260 mc ms) (gMA (gV D I) (blP D I P0 F0 γ0 el0 f c R tp n a0 rw0 N j ft) (blX D I P0 F0 γ0 el0 f n a0 N ft) mc ms) ky_rdb 54 [(4, .ref bb), (3, .int nn), (2, .int wh), (0, .ref R), (1, .ref c)] [] (va_pl P F) cs sl := fun hk0 hnz => by
    clear ext
    have hρ3 := hρ2.resolve_left hnz
    clear hρ2
    have k73 : ∀ (F1 : Nat → va_E) (rp1 ru1 : Int32), rFr [R] P F F1 → RS D I P F1 γ el → rdI I P F1 γ R tp g gp tx n a k pl v b rp1 ru1 rw gn N fg fp → (0 ≤ rp1.toInt ∨ ((j : Int) + 1 ≤ 40 ∧ rw.toInt + 1 ≤ 160)) → bkE rp1 (mb || decide (160 < rw.toInt + 1)) → G (gV D I) l (gRm 11 260 mc ms) (gMA (gV D I) (blP D I P0 F0 γ0 el0 f c R tp n a0 rw0 N j ft) (blX D I P0 F0 γ0 el0 f n a0 N ft) mc ms) ky_rdb 73 [(4, .ref bb), (3, .int nn), (2, .int wh), (0, .ref R), (1, .ref c)] [] (va_pl P F1) cs sl := fun F1 rp1 ru1 hfr1 hT1 hd1 hrp1 hbk => by
      obtain ⟨⟨r1', r2', -⟩, ⟨gm, gF', -⟩, ⟨gpm, gpF, -⟩, -, ⟨-, -, -, -, -, brp1, bru1, -, -⟩, ⟨-, tp1, vp1, -⟩, -⟩ := id hd1
      refine G_aload_n 3 dr_cX14_block_73 rfl ?_
      refine G_dup dr_cX14_block_74 rfl ?_
      refine Gp_get 10 r1' r2' dr_cX14_block_75 (gk_X14 D I) (Nat.le_of_ble_eq_true rfl) wr_9_48 rfl ?_
      refine G_iconst 1 dr_cX14_block_78 (by decide +kernel) ?_
      refine G_iadd dr_cX14_block_79 (G_nam fun rw1 hrw1 => ?_)
      have erw : rw1.toInt = rw.toInt + 1 := by rw [gI_add hrw1 brw (gBl (show Int32.toInt 1 = 1 by decide)) (by decide) (by decide), show Int32.toInt 1 = 1 from by decide]
      refine Gp_put 10 r1' r2' dr_cX14_block_80 (gk_X14 D I) (Nat.le_of_ble_eq_true rfl) wr_9_48 rfl rfl rfl (Nat.le_of_ble_eq_true rfl) (fun F2 e2 n2 => ?_)
      have hfr2 : rFr [R] P F1 F2 := rFr_n n2
      have hT2 := RS_ow hT1 rSub_rf hfr2 (wm_c (Or.inl r3) wm_n)
      have brw1 : gB rw1 0 1000000 := by have q1 := brw.1; have q2 := ba.2; clear ih hd1 hT1 hL hd hGI hB2; exact ⟨by omega, by omega⟩
      have hd2 : rdI I P F2 γ R tp g gp tx n a k pl v b rp1 ru1 rw1 gn N fg fp := rdI_n hd1 rSub_rf (n2 g (Ne.symm (rn_oa r2' gF'))) (n2 gp (Ne.symm (rn_oa r2' gpF))) e2 ba bk bpl bbf brp1 bru1 brw1 (Int.le_refl _) an (by clear ih hd1 hT1 hL hd hGI hB2; omega) (tP_of tp1 rSub_rf (fun q xs hq e => n2 q (rn_oo e r2' (by decide))) (fun q m z hq _ _ e => n2 q (Ne.symm (rn_oa r2' e)))) vp1
      have hk2 : rSk f blkK blkF D I P0 F0 γ0 el0 P F2 γ el := rSk_ow (rSk_ow hk rSub_rf hfr1 (wm_c (Or.inl r3) wm_n) (wm_c (Or.inl r3) wm_n) blkKF) rSub_rf hfr2 (wm_c (Or.inl r3) wm_n) (wm_c (Or.inl r3) wm_n) blkKF
      have hL2 : prL γ el F2 f c j bb fg gn rp1 rw := prL_ow hT1 (prL_ow (rp1 := rp1) hT hL hfr1 (wm_c (by rw [r3]; decide) wm_n) (hrp1.imp id (fun z => ⟨z.1, by omega⟩))) hfr2 (wm_c (by rw [r3]; decide) wm_n) (hrp1.imp id (fun z => ⟨z.1, by omega⟩))
      have hR2 : rfL γ el F2 c j bb Q := rfL_ow hT1 (rfL_ow hT hrf hB2 b0 hfr1 (wm_c (by rw [r3]; decide) wm_n)) hB2 b0 hfr2 (wm_c (by rw [r3]; decide) wm_n)
      clear hd1 hT1 e2 n2 r1' r2' tp1 vp1 gF' gpF
      refine G_aload_n 4 dr_cX14_block_83 rfl ?_
      refine Gt_row0 (c := c) (f := f) hl0 dr_cX14_block_84 ⟨wr_10_79, wr_1_15, wr_10_82, by decide, rfl, (Nat.le_of_ble_eq_true rfl), (Nat.le_of_ble_eq_true rfl)⟩ wr_10_80 wr_10_81 hT2 c0 c1 (by clear ih hL hd hGI hB2; omega) (show _ ≤ mc by clear ih hL hd hGI hB2; omega) (show _ ≤ ms by clear ih hL hd hGI hB2; omega) (Nat.le_of_ble_eq_true rfl) (fun P3 F3 γ3 el3 x dc3 ds3 hq hz hzz => ?_)
      obtain ⟨st3, x0, x1, x22, x8, g16, g18, hnu3, hl3, h45, ⟨x5, x6, hmd3⟩, ⟨ph1, ph2⟩, hrm3, -⟩ := hq
      have sk3 := rSk_of st3
      have hk3 := rSk_tr hk2 sk3 (by decide) (by decide) blkKF
      have t3 : γ3 0 tp = 99 := rSk_k sk3 (show rKd γ tp 99 from t25) (by decide) (by decide)
      have hd3 := rdI_z hd2 st3.2.1 hz hzz.1 t3
      obtain ⟨-, a4, -, -, -⟩ := rc_at hT2 c0 c1
      have hll := hl3 (γ 14 c) (by rw [a4]; decide) (by rw [a4]; decide)
      have hL3 : prL γ3 el3 F3 f c j bb fg gn rp1 rw1 := prL_st hL2 st3 (by decide) (by decide) hzz.2 hnu3 hll hmd3 (by clear ih hL hd hGI hB2; omega) (hrp1.imp id (fun z => ⟨z.1, by omega⟩))
      have hR3 : rfL γ3 el3 F3 c j bb Q := rfL_st hT2 hR2 c0 hB2 b0 sk3 (by decide) hll.2 (fun a ha => hl3 a (by rw [ha]; decide) (by rw [ha]; decide))
      have f13 : F3 tp = .inl (I .byte, 8192, .inl ft) := (rSk_F hk3 (show rKd γ0 tp 99 from t0) (by decide) (by decide)).trans hf1
      clear hL hL2 hd hd2 hT2 hk hk2 hGI hB2 hfr1 hfr2 hT hrf hR2 f1
      refine G_astore (L' := [(5, .ref x), (4, .ref bb), (3, .int nn), (2, .int wh), (0, .ref R), (1, .ref c)]) dr_cX14_block_87 (Nat.le_of_ble_eq_true rfl) rfl ?_
      refine G_aload_n 4 dr_cX14_block_89 rfl ?_
      refine G_aload 0 dr_cX14_block_90 rfl ?_
      have hx0 := hd3.1.2.2
      obtain ⟨⟨c0', c1', -, -⟩, -, -, hB2', -, -, ⟨b0', b1', bj', bj2'⟩⟩ := id hL3
      obtain ⟨sy1, sy2, sy3, sy4, sy5⟩ := rsz hk3.1 c0' c1'
      refine Gr_row hl0 dr_cX14_block_92 ⟨wr_10_85, wr_1_32, wr_10_88, by decide, rfl, (Nat.le_of_ble_eq_true rfl), (Nat.le_of_ble_eq_true rfl)⟩ wr_10_87 wr_p_88 hk3.1 hd3 f13 hf2 x0 x22 (show _ ≤ mc by clear ih hL3 hd3; omega) (show _ ≤ ms by clear ih hL3 hd3; omega) (Nat.le_of_ble_eq_true rfl) (fun P4 F4 a4 k4 pl4 v4 b4 tx4 dc4 ds4 hs4 hfr4 hT4 hd4 hR4 h14 _ hwq hdc4 hds4 htr => ?_) (fun q P4 F4 dc ds hs hfr hT4 hR4 hq hwr hdc hds htx => ?_)
      · have hk4 : rSk f blkK blkF D I P0 F0 γ0 el0 P4 F4 γ3 el3 := rSk_ow hk3 hs4 hfr4 (wm_c (Or.inr (fit_101 x0 hR4)) (wm_c (Or.inl hx0) wm_n)) (wm_c (Or.inr ⟨by rw [x0]; decide, Or.inl x1⟩) (wm_c (Or.inl hx0) wm_n)) blkKF
        have hL4 : prL γ3 el3 F4 f c j bb fg gn rp1 rw1 := prL_ow hk3.1 hL3 hfr4 (wm_c (by rw [x0]; decide) (wm_c (by rw [hx0]; decide) wm_n)) (hrp1.imp id (fun z => ⟨z.1, by omega⟩))
        have hRr4 : rfL γ3 el3 F4 c j bb Q := rfL_ow hk3.1 hR3 hB2' b0' hfr4 (wm_c (by rw [x0]; decide) (wm_c (by rw [hx0]; decide) wm_n))
        obtain ⟨i2, ll, z1, -, z2, z3⟩ := row_tr hf2 bn.1 bn.2 hmc.1 hmc.2.1 htr
        have h202 : rk_202 γ3 bb (F4 bb) := RS_o hT4 b0'
        obtain ⟨lb, nb, p0, s0, w1, -⟩ := id h202
        obtain ⟨u1, u2, u3, u4, u5, u6, u7, u8⟩ := rk202_at w1 h202
        refine G_aload 1 dr_cX14_block_95 rfl ?_
        refine Gp_get 0 (hT4.1 bb (by omega)) w1 dr_cX14_block_97 (gk_X12 D I) (Nat.le_of_ble_eq_true rfl) wr_9_221 rfl ?_
        refine G_aload 0 dr_cX14_block_100 rfl ?_
        have hli : γ3 14 (el3 (γ3 14 c) j) = lb := by rw [bj']; exact u1.1
        obtain ⟨sl1, sl2, sl3⟩ := rsl hT4 c0' c1' u2 bj2' hli
        have h4n := hd4.2.2.2.2.2.1.1
        have hw1 := hwq.1
        clear hL3 hd3 hk3
        refine Gt_add0 (c := c) (f := f) (lst := lb) (x := x) (j := j) hl0 dr_cX14_block_102 ⟨wr_10_104, wr_1_18, wr_10_6, by decide, rfl, (Nat.le_of_ble_eq_true rfl), (Nat.le_of_ble_eq_true rfl)⟩ wr_10_4 wr_10_5 hT4 u2 (u3.trans b1') x0 x1 x22 (by clear ih hL4 hd4; omega) (by clear ih hL4 hd4; omega) c0' c1' bj2' hli h14 (by clear ih hL4 hd4; omega) (show _ ≤ mc by clear ih hL4 hd4; omega) (show _ ≤ ms by clear ih hL4 hd4; omega) (Nat.le_of_ble_eq_true rfl) (fun P5 F5 γ5 el5 dc5 ds5 hq5 hz5 hzz5 => ?_)
        obtain ⟨st5, y0, y2, yel, yo, y16, y18, hnu5, yF, ⟨ph51, ph52⟩, hrm5, -⟩ := hq5
        have sk5 := rSk_of st5
        have t5 : γ5 0 tp = 99 := rSk_k sk5 (show rKd γ3 tp 99 from t3) (by decide) (by decide)
        obtain ⟨-, a45, -, -, -⟩ := rc_at hT4 c0' c1'
        have hll5 := yo (γ3 14 c) (by rw [a45]; decide) (fun e => by rw [e, u2] at a45; cases a45)
        have hm5 : (fI (F5 c) 3).toInt = (fI (F4 c) 3).toInt := by rw [rSk_F sk5 (show rKd γ3 c 9 from c0') (by decide) (by decide)]
        have hL5 : prL γ5 el5 F5 f c j bb fg gn rp1 rw1 := prL_st hL4 st5 (by decide) (by decide) hzz5.2 hnu5 hll5 hm5 (by clear ih hL4 hd4; omega) (hrp1.imp id (fun z => ⟨z.1, by omega⟩))
        have hRr5 : rfL γ5 el5 F5 c j bb (pgL Q ll) := rfL_add (x := x) hT4 hRr4 c0' hB2' b0' sk5 (by decide) hll5.2 (by rw [u1.1]; exact y2) (by rw [u1.1]; exact yel) (by rw [u1.1]; exact yo) yF z3
        have hmc5 : mcL (bA ft n.toInt) n.toInt i2 a4 k4 v4 tx4.2 rw1.toInt (mb || decide (160 < rw.toInt + 1)) (pgL Q ll) gn fg rp1 := ⟨z1, by rw [erw]; exact z2, gsR_L hmc.2.2.1, hbk⟩
        refine G_pop dr_cX14_block_105 rfl ?_
        refine G_goto 37 dr_cX14_block_106 (by decide +kernel) ?_
        refine G_lv [1, 2, 3, 4, 5] rfl ?_
        have hwq2 : k4.toInt = 0 ∨ a.toInt + 2 ≤ a4.toInt := hwq.2
        exact ih P5 F5 γ5 el5 tx4 a4 k4 pl4 v4 b4 rp1 ru1 rw1 _ _ i2 (mb || decide (160 < rw.toInt + 1)) (pgL Q ll) (by clear ih hL4 hd4 hL5; omega) (rSk_tr hk4 sk5 (by decide) (by decide) blkKF) (rNu_t (rNu_t hnu hnu3) hnu5) (rdI_z hd4 st5.2.1 hz5 hzz5.1 t5) hL5 hmc5 hRr5 ⟨by clear ih hL4 hd4 hL5; omega, by clear ih hL4 hd4 hL5; omega, hwq2.imp id (fun z => by clear ih hL4 hd4 hL5; omega)⟩ (by clear ih hL4 hd4 hL5; omega) (by clear ih hL4 hd4 hL5; omega) (by clear ih hL4 hd4 hL5; omega)
      · exact GT_outA rfl (by clear ih hL3 hd3; omega) (by clear ih hL3 hd3; omega) ⟨P4, F4, γ3, el3, rfl, rfl, rSk_ow hk3 hs hfr (wm_c (Or.inr (fit_101 x0 hR4)) (wm_c (Or.inl hx0) wm_n)) (wm_c (Or.inr ⟨by rw [x0]; decide, Or.inl x1⟩) (wm_c (Or.inl hx0) wm_n)) blkKF, rNu_t hnu hnu3, hq, hwr, by clear ih hL3 hd3; omega, by clear ih hL3 hd3; omega, by clear ih hL3 hd3; omega, row_tx hf2 bn.1 bn.2 hmc.1 hmc.2.1 hk0 htx⟩
    refine G_aload_n 3 dr_cX14_block_54 rfl ?_
    refine Gp_get 10 r1 r2 dr_cX14_block_55 (gk_X14 D I) (Nat.le_of_ble_eq_true rfl) wr_9_48 rfl ?_
    refine G_sipush 160 dr_cX14_block_58 (by decide +kernel) ?_
    refine G_icmp_ne 73 dr_cX14_block_61 (by decide +kernel) (fun hc => ?_) (fun hc => ?_)
    · have hne : rw.toInt ≠ 160 := fun e => hc (Int32.toInt_inj.mp (e.trans (show (160 : Int) = Int32.toInt 160 by decide)))
      refine k73 F rp ru (fun _ _ _ => rfl) hT hd ?_ (bkE_rw hmc.2.2.2 hne (hrp.imp id (fun z => z.2)))
      rcases hrp with q | q
      · exact Or.inl q
      · exact Or.inr ⟨q.1, by omega⟩
    · have hw160 : rw.toInt = 160 := by
        have q : rw = 160 := by first | exact hc | exact Classical.byContradiction fun z => hc z
        rw [q]; decide
      refine G_aload_n 3 dr_cX14_block_64 rfl ?_
      refine G_iconst 4 dr_cX14_block_65 (by decide +kernel) ?_
      refine G_aload_n 3 dr_cX14_block_66 rfl ?_
      refine Gp_get 4 r1 r2 dr_cX14_block_67 (gk_X14 D I) (Nat.le_of_ble_eq_true rfl) wr_9_40 rfl ?_
      refine Gr_brk hl0 dr_cX14_block_70 ⟨wr_9_132, wr_1_32, wr_9_135, by decide, rfl, (Nat.le_of_ble_eq_true rfl), (Nat.le_of_ble_eq_true rfl)⟩ wr_9_134 wr_p_82 hT hd f1 hf2 ⟨by decide, by decide⟩ bpl (show _ ≤ mc by clear ih k73; omega) (show _ ≤ ms by clear ih k73; omega) (Nat.le_of_ble_eq_true rfl) (fun F1 rp1 ru1 hfr1 hT1 hd1 h0 => ?_)
      exact k73 F1 rp1 ru1 hfr1 hT1 hd1 (Or.inl h0) (bkE_t h0 (by rw [decide_eq_true (show (160 : Int) < rw.toInt + 1 by omega)]; exact Bool.or_true _))
  refine G_aload_n 3 dr_cX14_block_37 rfl ?_
  refine Gp_get 3 r1 r2 dr_cX14_block_38 (gk_X14 D I) (Nat.le_of_ble_eq_true rfl) wr_9_39 rfl ?_
  refine G_iconst 2 dr_cX14_block_41 (by decide +kernel) ?_
  refine G_icmp_eq 54 dr_cX14_block_42 (by decide +kernel) (fun hc => body (Or.inl (hmc.1.1.2.1.mp (by rw [hc]; decide))) (by rw [hc]; unfold nzK; decide)) (fun hc => ?_)
  refine G_aload_n 3 dr_cX14_block_45 rfl ?_
  refine G_ldcK (a := D.2 1000 39) dr_cX14_block_46 (fun _ _ _ h => gx_vk 39 rfl rfl h) ?_
  have hlen : (sb_39.length : Int) = 4 := rfl
  refine Gr_is hl0 dr_cX14_block_48 ⟨wr_9_141, wr_1_32, wr_9_144, by decide, rfl, (Nat.le_of_ble_eq_true rfl), (Nat.le_of_ble_eq_true rfl)⟩ wr_9_143 wr_p_84 hT hd f1 hf2 (gx_sc 39 rfl rfl) (by omega) (by decide +kernel) (show _ ≤ mc by clear ih body ext; omega) (show _ ≤ ms by clear ih body ext; omega) (Nat.le_of_ble_eq_true rfl) (fun o bo ho htr => ?_)
  have X39 := hmc.1.1.2.2.2.2.2.2.2.2.2.2.1
  refine G_if_eq 109 dr_cX14_block_51 (by decide +kernel) (fun h0 => ext (fun q => by
    rcases q with q | q
    · exact hc (Int32.toInt_inj.mp ((hmc.1.1.2.1.mpr q).trans (show (2 : Int) = Int32.toInt 2 by decide)))
    · exact is_0 htr (by rw [h0]; decide) (X39.mpr q))) (fun hc => body (Or.inr (X39.mp (is_1 htr (fun e => hc (Int32.toInt_inj.mp (e.trans (show (0 : Int) = Int32.toInt 0 by decide))))))) (isK_1 ho (fun e => hc (Int32.toInt_inj.mp (e.trans (show (0 : Int) = Int32.toInt 0 by decide))))))
set_option maxRecDepth 100000 in
set_option maxHeartbeats 4000000 in
theorem cp_rdb (l : Launch) (hl0 : l.stackTraces = false) (D : va_G) (I : FieldType → ClassId) {P : List Nat} {F : Nat → va_E} {γ el : Nat → Nat → Nat} {f c R tp g gp : Nat} {tx : gTz} {n a k pl v b rp ru rw gn : Int32} {N : Nat} {fg fp : Nat → Int32} {j M mc ms mi : Nat} {ft : Nat → Int32} {du : Int} {mb : Bool} {Q : gPg} (f1 : F tp = .inl (I .byte, 8192, .inl ft)) (f2 : gF ft (-128) 127) (hmc : mcI (bA ft n.toInt) n.toInt mi a k v tx.2 du rw.toInt mb Q gn fg rp) (hdu : du ≤ 1) (hdE : (tk (bA ft n.toInt) n.toInt mi).1 = 1 → du ≠ 1) (hrf : rfI γ el F c j Q) (hT : RS D I P F γ el) (hd : rdI I P F γ R tp g gp tx n a k pl v b rp ru rw gn N fg fp) (hp : prI γ el F f c j fg gn rp rw)
    (hM : (rM γ el f : Int) + 18 * (n.toInt - a.toInt) + 300 ≤ M) (hM9 : M ≤ 2000000) (hMC : (M : Int) + 360 * (n.toInt - a.toInt) + 720 ≤ 18 * (mc : Int) + (rPh γ el f : Int)) (hMS : (M : Int) + 192 * (n.toInt - a.toInt) + 16 * (N : Int) + 400 ≤ (ms : Int) + (rPh γ el f : Int)) :
    CtA (gV D I) l yX14_block cX14_block 6 none 11 260 mc ms [.ref R, .ref c] (va_pl P F) (blP D I P F γ el f c R tp n a rw N j ft) (blX D I P F γ el f n a N ft) := by
  refine CtA_of hl0 (by decide) (Nat.le_of_ble_eq_true rfl) ?_
  obtain ⟨⟨r1, r2, r3⟩, ⟨gm0, gF0, g03⟩, ⟨gpm0, gpF0, gp03⟩, ⟨t25, -⟩, ⟨bn, ba, bk, bpl, bbf, brp, bru, brw, bgn⟩, ⟨an, tp0, vp0, -⟩, ⟨-, -, -, -, rwa⟩⟩ := id hd
  obtain ⟨⟨c0, c1, c6, c19⟩, h16, hmd, hB2, hGI, hrp⟩ := id hp
  obtain ⟨sz1, sz2, sz3, sz4, sz5⟩ := rsz hT c0 c1
  refine G_aload_n 0 dr_cX14_block_0 rfl ?_
  refine Gp_get 4 r1 r2 dr_cX14_block_1 (gk_X14 D I) (Nat.le_of_ble_eq_true rfl) wr_9_40 rfl ?_
  refine G_istore_n (L' := [(2, .int pl), (0, .ref R), (1, .ref c)]) dr_cX14_block_4 (Nat.le_of_ble_eq_true rfl) rfl ?_
  refine G_aload_n 1 dr_cX14_block_5 rfl ?_
  refine G_iconst 3 dr_cX14_block_6 (by decide +kernel) ?_
  refine Gr_wI hl0 dr_cX14_block_7 ⟨wr_9_93, wr_1_32, wr_9_96, by decide, rfl, (Nat.le_of_ble_eq_true rfl), (Nat.le_of_ble_eq_true rfl)⟩ wr_9_95 wr_p_80 hT hd f1 f2 (show _ ≤ mc by omega) (show _ ≤ ms by omega) (Nat.le_of_ble_eq_true rfl) (fun P1 F1 a1 k1 pl1 v1 tx1 dc1 ds1 hs1 hfr1 hT1 hd1 la1 pr1 vp1 hk3 hdc1 hds1 htr1 => ?_) (fun q P1 F1 dc ds hs hfr hT1 hq hwr hdc hds htx1 => ?_)
  · obtain ⟨m1, st, lf, ln, op, m2⟩ := mc_w3 f2 bn.1 bn.2 hmc hdu htr1
    have hrf1 : rfI γ el F1 c j Q := rfI_ow hT hrf hB2 hfr1 (wm_c (by rw [r3]; decide) wm_n)
    have eQ := hrf.1
    refine G_istore_n (L' := [(3, .int v), (2, .int pl), (0, .ref R), (1, .ref c)]) dr_cX14_block_10 (Nat.le_of_ble_eq_true rfl) rfl ?_
    refine G_iload_n 0 dr_cX14_block_11 rfl ?_
    refine G_aload_n 3 dr_cX14_block_12 rfl ?_
    have hF1c : F1 c = F c := hfr1 c (hT.1 c (by omega)) (nm_c (fun e => by rw [e, r3] at c0; cases c0) nm_n)
    obtain ⟨lb, lr, rn, md, w1, -⟩ := show rk_9 γ el c (F1 c) from RS_o hT1 c0
    have emd : md.toInt = (j : Int) := by
      have h := hmd
      rw [← hF1c, w1] at h
      exact h
    have mc1 := hT1.1 c (by omega)
    have a1n := hd1.2.2.2.2.2.1.1
    refine Gw_callV (As := []) (gV_ok D I) (cp_12780_Code_size l hl0 D I P1 F1 c lb lr rn md mc1 w1) dr_cX14_block_13 ⟨wr_9_128, wr_1_15, wr_9_131, by decide, rfl, (Nat.le_of_ble_eq_true rfl), (Nat.le_of_ble_eq_true rfl)⟩ wr_9_129 wr_9_130 mc1 w1 rfl (show _ ≤ mc by omega) (show _ ≤ ms by omega) (Nat.le_of_ble_eq_true rfl) (fun r w dc ds hp' => ?_) (fun _ _ _ _ _ z => z.elim)
    obtain ⟨rfl, rfl, hdc, hds⟩ := hp'
    change G _ _ _ _ _ _ _ (.int md :: .int v :: []) _ _ _
    refine G_widen (cs' := dc1) (sl' := ds1) (by omega) (by omega) ?_
    have k25 : ∀ (F2 : Nat → va_E) (rp2 ru2 : Int32), rFr [R] P1 F1 F2 → RS D I P1 F2 γ el → rdI I P1 F2 γ R tp g gp tx1 n a1 k1 pl1 v1 k rp2 ru2 rw gn N fg fp → (0 ≤ rp2.toInt ∨ ((j : Int) + 1 ≤ 40 ∧ rw.toInt ≤ 160)) → bkE rp2 (mb || decide (v.toInt ≠ (Q.1 : Int))) → G (gV D I) l (gRm 11 260 mc ms) (gMA (gV D I) (blP D I P F γ el f c R tp n a rw N j ft) (blX D I P F γ el f n a N ft) mc ms) ky_rdb 25 [(3, .int v), (2, .int pl), (0, .ref R), (1, .ref c)] [] (va_pl P1 F2) dc1 ds1 := fun F2 rp2 ru2 hfr2 hT2 hd2 hrp2 hbk => by
      refine G_aload_n 2 dr_cX14_block_25 rfl ?_
      refine G_ldcK (a := D.2 1000 38) dr_cX14_block_26 (fun _ _ _ h => gx_vk 38 rfl rfl h) ?_
      have hlen : (sb_38.length : Int) = 1 := rfl
      have skA : rSk f blkK blkF D I P F γ el P1 F2 γ el := rSk_ow (rSk_ow (rSk_rf hT) hs1 hfr1 (wm_c (Or.inl r3) wm_n) (wm_c (Or.inl r3) wm_n) blkKF) rSub_rf hfr2 (wm_c (Or.inl r3) wm_n) (wm_c (Or.inl r3) wm_n) blkKF
      have hpA : prI γ el F2 f c j fg gn rp2 rw := prI_ow hT1 (prI_ow (rp1 := rp2) hT hp hfr1 (wm_c (by rw [r3]; decide) wm_n) (hrp2.imp id (fun z => ⟨by omega, z.2⟩))) hfr2 (wm_c (by rw [r3]; decide) wm_n) (hrp2.imp id (fun z => ⟨by omega, z.2⟩))
      have hrfA : rfI γ el F2 c j Q := rfI_ow hT1 hrf1 hB2 hfr2 (wm_c (by rw [r3]; decide) wm_n)
      have f12 : F2 tp = .inl (I .byte, 8192, .inl ft) := (rSk_F skA (show rKd γ tp 99 from t25) (by decide) (by decide)).trans f1
      clear hp hd hd1 hT1 hGI
      refine Gr_wS hl0 dr_cX14_block_28 ⟨wr_9_137, wr_1_32, wr_9_140, by decide, rfl, (Nat.le_of_ble_eq_true rfl), (Nat.le_of_ble_eq_true rfl)⟩ wr_9_139 wr_p_83 hT2 hd2 f12 f2 (gx_sc 38 rfl rfl) (by omega) (by decide +kernel) (show _ ≤ mc by omega) (show _ ≤ ms by omega) (Nat.le_of_ble_eq_true rfl) (fun P3 F3 a3 k3 pl3 v3 tx3 dc3 ds3 hs3 hfr3 hT3 hd3 la3 pr3 hnz hdc3 hds3 htr3 => ?_) (fun q P3 F3 dc ds hs hfr hT3 hq hwr hdc hds htx3 => ?_)
      · have la1' : a.toInt < a1.toInt := pr1.resolve_left hnz
        have a3n := hd3.2.2.2.2.2.1.1
        have skB : rSk f blkK blkF D I P F γ el P3 F3 γ el := rSk_ow skA hs3 hfr3 (wm_c (Or.inl r3) wm_n) (wm_c (Or.inl r3) wm_n) blkKF
        have hpB : prI γ el F3 f c j fg gn rp2 rw := prI_ow hT2 hpA hfr3 (wm_c (by rw [r3]; decide) wm_n) (hrp2.imp id (fun z => ⟨by omega, z.2⟩))
        have hrfB : rfI γ el F3 c j Q := rfI_ow hT2 hrfA hB2 hfr3 (wm_c (by rw [r3]; decide) wm_n)
        obtain ⟨z1, z2⟩ := mc_w6 f2 bn.1 bn.2 m1 m2 htr3
        refine G_aload_n 3 dr_cX14_block_31 rfl ?_
        refine Gt_block0 (c := c) (f := f) hl0 dr_cX14_block_32 ⟨wr_9_153, wr_1_15, wr_9_156, by decide, rfl, (Nat.le_of_ble_eq_true rfl), (Nat.le_of_ble_eq_true rfl)⟩ wr_9_154 wr_9_155 hT3 c0 c1 c6 (by clear hpB hpA hd3; omega) (show _ ≤ mc by clear hpB hpA hd3; omega) (show _ ≤ ms by clear hpB hpA hd3; omega) (Nat.le_of_ble_eq_true rfl) (fun P4 F4 γ4 el4 bb dc4 ds4 hq hz hzz => ?_)
        have hL4 := prL_bl hT3 hpB hq hzz.2 hrp2
        have hRL4 := rfL_bl hT3 hrfB c0 hpB.2.2.1 hB2 hq
        obtain ⟨st4, -, -, -, -, g16, g18, hnu4, -, -, ⟨ph1, ph2⟩, hrm4, -⟩ := hq
        have sk4 := rSk_of st4
        have t4 : γ4 0 tp = 99 := rSk_k sk4 (show rKd γ tp 99 from t25) (by decide) (by decide)
        have hd4 := rdI_z hd3 st4.2.1 hz hzz.1 t4
        refine G_astore (L' := [(4, .ref bb), (3, .int v), (2, .int pl), (0, .ref R), (1, .ref c)]) dr_cX14_block_35 (Nat.le_of_ble_eq_true rfl) rfl ?_
        have pr3' : k3.toInt = 0 ∨ 2 * (rw.toInt - rw.toInt) + 2 ≤ a3.toInt - a.toInt := pr3.imp id (fun z => by clear hpB hpA hd3 hd4 hL4; omega)
        exact blk_loop hl0 t25 f1 f2 rwa ba.1 hM hM9 hMC hMS ((n.toInt - a3.toInt).toNat + 1) P4 F4 γ4 el4 tx3 a3 k3 pl3 v3 k1 rp2 ru2 rw _ _ (mi + 1 + 1) (mb || decide (v.toInt ≠ (Q.1 : Int))) (pgB Q) (by clear hpB hpA hd3 hd4 hL4; omega) (rSk_tr skB sk4 (by decide) (by decide) blkKF) hnu4 hd4 hL4 ⟨z1, z2, gsR_B hmc.2.2.1, hbk⟩ hRL4 ⟨Int.le_refl _, by clear hpB hpA hd3 hd4 hL4; omega, pr3'⟩ (by clear hpB hpA hd3 hd4 hL4; omega) (by clear hpB hpA hd3 hd4 hL4; omega) (by clear hpB hpA hd3 hd4 hL4; omega)
      · exact GT_outA rfl (by clear hpA hd2; omega) (by clear hpA hd2; omega) ⟨P3, F3, γ, el, rfl, rfl, rSk_ow skA hs hfr wm_n wm_n blkKF, rNu_r, hq, hwr, by clear hpA hd2; omega, by clear hpA hd2; omega, by clear hpA hd2; omega, mc_x6 m1 m2 htx3⟩
    refine G_icmp_eq 25 dr_cX14_block_16 (by decide +kernel) (fun hc => k25 F1 rp ru (fun _ _ _ => rfl) hT1 hd1 ?_ (by rw [decide_eq_false (fun z => z (by rw [hc, emd, eQ])), Bool.or_false]; exact hmc.2.2.2)) (fun hc => ?_)
    · have q1 := (vP_g3 vp1).2
      rw [hc] at q1
      rcases hrp with q | q
      · exact Or.inl q
      · exact Or.inr ⟨by omega, q.2⟩
    · have hvq : v.toInt ≠ (Q.1 : Int) := fun e => hc (Int32.toInt_inj.mp (by rw [e, emd, eQ]))
      refine G_aload_n 2 dr_cX14_block_19 rfl ?_
      refine G_iconst 2 dr_cX14_block_20 (by decide +kernel) ?_
      refine G_iload_n 1 dr_cX14_block_21 rfl ?_
      exact Gr_brk hl0 dr_cX14_block_22 ⟨wr_9_132, wr_1_32, wr_9_135, by decide, rfl, (Nat.le_of_ble_eq_true rfl), (Nat.le_of_ble_eq_true rfl)⟩ wr_9_134 wr_p_82 hT1 hd1 ((hfr1 tp (hT.1 tp (by omega)) (nm_c (fun e => by rw [e, r3] at t25; cases t25) nm_n)).trans f1) f2 ⟨by decide, by decide⟩ bpl (show _ ≤ mc by clear k25; omega) (show _ ≤ ms by clear k25; omega) (Nat.le_of_ble_eq_true rfl) (fun F2 rp2 ru2 hfr2 hT2 hd2 h0 => k25 F2 rp2 ru2 hfr2 hT2 hd2 (Or.inl h0) (bkE_t h0 (by rw [decide_eq_true hvq]; exact Bool.or_true _)))
  · exact GT_outA rfl (by omega) (by omega) ⟨P1, F1, γ, el, rfl, rfl, rSk_ow (rSk_rf hT) hs hfr wm_n wm_n blkKF, rNu_r, hq, hwr, by omega, by omega, by omega, mc_x3 hmc hdu hdE htx1⟩
