section
theorem dr_cX14_program_59 : decode cX14_program 59 = .ok (.iinc 2 1, 3) := by decide +kernel
theorem dr_cX14_program_62 : decode cX14_program 62 = .ok (.goto (-44), 3) := by decide +kernel
theorem dr_cX14_program_48 : decode cX14_program 48 = .ok (.aload_n 0, 1) := by decide +kernel
theorem dr_cX14_program_49 : decode cX14_program 49 = .ok (.iconst 3, 1) := by decide +kernel
theorem dr_cX14_program_50 : decode cX14_program 50 = .ok (.aload_n 0, 1) := by decide +kernel
theorem dr_cX14_program_51 : decode cX14_program 51 = .ok (.getfield 21, 3) := by decide +kernel
theorem dr_cX14_program_54 : decode cX14_program 54 = .ok (.iload_n 2, 1) := by decide +kernel
theorem dr_cX14_program_55 : decode cX14_program 55 = .ok (.iaload, 1) := by decide +kernel
theorem dr_cX14_program_56 : decode cX14_program 56 = .ok (.invokevirtual 167, 3) := by decide +kernel
theorem dr_cX14_program_18 : decode cX14_program 18 = .ok (.iload_n 2, 1) := by decide +kernel
theorem dr_cX14_program_19 : decode cX14_program 19 = .ok (.aload_n 0, 1) := by decide +kernel
theorem dr_cX14_program_20 : decode cX14_program 20 = .ok (.getfield 143, 3) := by decide +kernel
theorem dr_cX14_program_23 : decode cX14_program 23 = .ok (.if_icmp .ge 42, 3) := by decide +kernel
theorem dr_cX14_program_65 : decode cX14_program 65 = .ok (.return_, 1) := by decide +kernel
theorem dr_cX14_program_26 : decode cX14_program 26 = .ok (.aload_n 0, 1) := by decide +kernel
theorem dr_cX14_program_27 : decode cX14_program 27 = .ok (.getfield 25, 3) := by decide +kernel
theorem dr_cX14_program_30 : decode cX14_program 30 = .ok (.iload_n 2, 1) := by decide +kernel
theorem dr_cX14_program_31 : decode cX14_program 31 = .ok (.iaload, 1) := by decide +kernel
theorem dr_cX14_program_32 : decode cX14_program 32 = .ok (.ifCond .eq 16, 3) := by decide +kernel
theorem dr_cX14_program_35 : decode cX14_program 35 = .ok (.aload_n 0, 1) := by decide +kernel
theorem dr_cX14_program_36 : decode cX14_program 36 = .ok (.getfield 25, 3) := by decide +kernel
theorem dr_cX14_program_39 : decode cX14_program 39 = .ok (.iload_n 2, 1) := by decide +kernel
theorem dr_cX14_program_40 : decode cX14_program 40 = .ok (.iaload, 1) := by decide +kernel
theorem dr_cX14_program_41 : decode cX14_program 41 = .ok (.aload_n 1, 1) := by decide +kernel
theorem dr_cX14_program_42 : decode cX14_program 42 = .ok (.invokevirtual 164, 3) := by decide +kernel
theorem dr_cX14_program_45 : decode cX14_program 45 = .ok (.if_icmp .lt 14, 3) := by decide +kernel
theorem dr_cX14_program_4 : decode cX14_program 4 = .ok (.aload_n 0, 1) := by decide +kernel
theorem dr_cX14_program_5 : decode cX14_program 5 = .ok (.aload_n 1, 1) := by decide +kernel
theorem dr_cX14_program_6 : decode cX14_program 6 = .ok (.invokevirtual 160, 3) := by decide +kernel
theorem wr_9_89 : (Jvm.Cond.methodLink "SpillForgeModel$Reader" (160 : Nat) ({ cls := "SpillForgeModel$Reader", name := "block", desc := "(LSpillForgeModel$Code;)V" } : Jvm.MethodName)) ∈ gw := gw_9 89 rfl rfl
theorem wr_9_92 : (Jvm.Cond.code ({ cls := "SpillForgeModel$Reader", name := "block", desc := "(LSpillForgeModel$Code;)V" } : Jvm.MethodName) prog_17_method_15_code (6 : Nat) (Option.none : Option Jvm.ClassFile.FieldType)) ∈ gw := gw_9 92 rfl rfl
theorem wr_9_91 : (Jvm.Cond.instanceMethod ({ cls := "SpillForgeModel$Reader", name := "block", desc := "(LSpillForgeModel$Code;)V" } : Jvm.MethodName)) ∈ gw := gw_9 91 rfl rfl
theorem wr_p_79 : Cond.selects "SpillForgeModel$Reader" ⟨"SpillForgeModel$Reader", "block", "(LSpillForgeModel$Code;)V"⟩ ⟨"SpillForgeModel$Reader", "block", "(LSpillForgeModel$Code;)V"⟩ ∈ gw := gw_p _ 79 rfl rfl rfl
theorem dr_cX14_program_9 : decode cX14_program 9 = .ok (.aload_n 0, 1) := by decide +kernel
theorem dr_cX14_program_10 : decode cX14_program 10 = .ok (.getfield 38, 3) := by decide +kernel
theorem dr_cX14_program_13 : decode cX14_program 13 = .ok (.ifCond .ne (-9), 3) := by decide +kernel
theorem dr_cX14_program_16 : decode cX14_program 16 = .ok (.iconst 0, 1) := by decide +kernel
theorem dr_cX14_program_17 : decode cX14_program 17 = .ok (.istore_n 2, 1) := by decide +kernel
theorem dr_cX14_program_0 : decode cX14_program 0 = .ok (.aload_n 1, 1) := by decide +kernel
theorem dr_cX14_program_1 : decode cX14_program 1 = .ok (.invokevirtual 155, 3) := by decide +kernel
theorem wr_9_85 : (Jvm.Cond.methodLink "SpillForgeModel$Reader" (155 : Nat) ({ cls := "SpillForgeModel$Code", name := "begin", desc := "()V" } : Jvm.MethodName)) ∈ gw := gw_9 85 rfl rfl
abbrev ky_rdp : gKey := (cX14_program, 3, "SpillForgeModel$Reader", none, [], "program", fun _ _ => True)
set_option maxRecDepth 100000 in
set_option maxHeartbeats 4000000 in
theorem pg_loop2 {l : Launch} (hl0 : l.stackTraces = false) {D : va_G} {I : FieldType → ClassId} {P P0 : List Nat} {F0 : Nat → va_E} {γ el γ0 el0 : Nat → Nat → Nat} {f c R tp g gp : Nat} {tx : gTz} {n a0 a k pl v b rw gn : Int32} {N : Nat} {fg fp : Nat → Int32} {j cs sl mc ms : Nat} {ft : Nat → Int32} {mb : Bool} {Q : gPg} (t0 : γ0 0 tp = 99) (hf1 : F0 tp = .inl (I .byte, 8192, .inl ft)) (hf2 : gF ft (-128) 127) (hmE : mcE (bA ft n.toInt) n.toInt mb Q gn fg) (h7 : γ 7 f = 0) (hj : 0 < j) (hcs : cs ≤ mc) (hsl : sl ≤ ms)
    (h1 : 18 * (cs : Int) + (rPh γ0 el0 f : Int) ≤ (rPh γ el f : Int) + 360 * (n.toInt - a0.toInt) + 720) (h2 : (sl : Int) + (rPh γ0 el0 f : Int) ≤ (rPh γ el f : Int) + 192 * (n.toInt - a0.toInt) + 40 * n.toInt + 900) (h3 : (rM γ el f : Int) ≤ (rM γ0 el0 f : Int) + 41 * (n.toInt - a0.toInt) + 300) :
    ∀ (μ : Nat) (F : Nat → va_E) (rp ru kk : Int32), gn.toInt - kk.toInt < (μ : Int) → 0 ≤ kk.toInt → kk.toInt ≤ gn.toInt → rSk f pgK pgF D I P0 F0 γ0 el0 P F γ el → rdI I P F γ R tp g gp tx n a k pl v b rp ru rw gn N fg fp → prI γ el F f c j fg gn rp rw → (0 ≤ rp.toInt ∨ glR fg kk.toInt j) → bkG rp mb fg kk.toInt j → rfI γ el F c j Q →
    G (gV D I) l (gRm 12 300 mc ms) (gMA (gV D I) (pgP D I P0 F0 γ0 el0 f R n a0 c ft) (pgX D I P0 F0 γ0 el0 f n a0 ft) mc ms) ky_rdp 18 [(2, .int kk), (0, .ref R), (1, .ref c)] [] (va_pl P F) cs sl := by
  intro μ
  induction μ with
  | zero =>
    intro F rp ru kk hμ hk0 hk1 hk hd hp hg hbG hrf
    exact absurd hμ (by omega)
  | succ μ ih =>
  intro F rp ru kk hμ hk0 hk1 hk hd hp hg hbG hrf
  obtain ⟨⟨r1, r2, r3⟩, ⟨gm, gF', g03⟩, ⟨gpm, gpF, gp03⟩, ⟨t25, -⟩, ⟨bn, ba, bk, bpl, bbf, brp, bru, brw, bgn⟩, ⟨an, tp0, vp0, hglP⟩, ⟨-, gnN, -, -, -⟩⟩ := id hd
  obtain ⟨⟨c0, c1, c6, c19⟩, h16, hmd, hB2, hGI, hrp⟩ := id hp
  have hT := hk.1
  obtain ⟨lb, lr, rn, md, w1, -⟩ := show rk_9 γ el c (F c) from RS_o hT c0
  have emd : md.toInt = (j : Int) := by
    have h := hmd
    rw [w1] at h
    exact h
  have mc1 := hT.1 c (by omega)
  have f1 : F tp = .inl (I .byte, 8192, .inl ft) := (rSk_F hk (show rKd γ0 tp 99 from t0) (by decide) (by decide)).trans hf1
  have k59 : ∀ (F1 : Nat → va_E) (rp1 ru1 : Int32), kk.toInt < gn.toInt → rFr [R] P F F1 → RS D I P F1 γ el → rdI I P F1 γ R tp g gp tx n a k pl v b rp1 ru1 rw gn N fg fp → (0 ≤ rp1.toInt ∨ (rp1 = rp ∧ glR fg (kk.toInt + 1) j)) → bkG rp1 mb fg (kk.toInt + 1) j → G (gV D I) l (gRm 12 300 mc ms) (gMA (gV D I) (pgP D I P0 F0 γ0 el0 f R n a0 c ft) (pgX D I P0 F0 γ0 el0 f n a0 ft) mc ms) ky_rdp 59 [(2, .int kk), (0, .ref R), (1, .ref c)] [] (va_pl P F1) cs sl := fun F1 rp1 ru1 hlt hfr1 hT1 hd1 hg1 hbG1 => by
    obtain ⟨kk1, hkk1⟩ : ∃ z, z = kk + 1 := ⟨_, rfl⟩
    have ekk : kk1.toInt = kk.toInt + 1 := by rw [gI_add hkk1 (⟨hk0, by have := bgn.2; omega⟩ : gB kk 0 1000000) (gBl (show Int32.toInt 1 = 1 by decide)) (by decide) (by decide), show Int32.toInt 1 = 1 from by decide]
    refine G_iinc kk1 0 dr_cX14_program_59 rfl (by rw [hkk1]; rfl) (Nat.le_of_ble_eq_true rfl) rfl ?_
    refine G_goto 18 dr_cX14_program_62 (by decide +kernel) ?_
    exact ih F1 rp1 ru1 kk1 (by omega) (by omega) (by omega) (rSk_ow hk rSub_rf hfr1 (wm_c (Or.inl r3) wm_n) (wm_c (Or.inl r3) wm_n) pgKF) hd1 (prI_ow hT hp hfr1 (wm_c (by rw [r3]; decide) wm_n) (by rcases hg1 with q | q; exact Or.inl q; rw [q.1]; exact hrp)) (by rcases hg1 with q | q; exact Or.inl q; rw [ekk]; exact Or.inr q.2) (by rw [ekk]; exact hbG1) (rfI_ow hT hrf hB2 hfr1 (wm_c (by rw [r3]; decide) wm_n))
  have k48 : kk.toInt < gn.toInt → gbd fg (kk.toInt + 1) j → G (gV D I) l (gRm 12 300 mc ms) (gMA (gV D I) (pgP D I P0 F0 γ0 el0 f R n a0 c ft) (pgX D I P0 F0 γ0 el0 f n a0 ft) mc ms) ky_rdp 48 [(2, .int kk), (0, .ref R), (1, .ref c)] [] (va_pl P F) cs sl := fun hlt hbad => by
    refine G_aload_n 1 dr_cX14_program_48 rfl ?_
    refine G_iconst 3 dr_cX14_program_49 (by decide +kernel) ?_
    refine G_aload_n 1 dr_cX14_program_50 rfl ?_
    refine Gp_get 11 r1 r2 dr_cX14_program_51 (gk_X14 D I) (Nat.le_of_ble_eq_true rfl) wr_9_49 rfl ?_
    refine G_iload_n 0 dr_cX14_program_54 rfl ?_
    refine Gp_iald 0 gpm gpF dr_cX14_program_55 rfl (gB_inr (by omega) (by omega)) (G_nam fun z hz => ?_)
    exact Gr_brk hl0 dr_cX14_program_56 ⟨wr_9_132, wr_1_32, wr_9_135, by decide, rfl, (Nat.le_of_ble_eq_true rfl), (Nat.le_of_ble_eq_true rfl)⟩ wr_9_134 wr_p_82 hT hd f1 hf2 ⟨by decide, by decide⟩ (by rw [hz]; exact hglP _) (show _ ≤ mc by omega) (show _ ≤ ms by omega) (Nat.le_of_ble_eq_true rfl) (fun F1 rp1 ru1 hfr1 hT1 hd1 h0 => k59 F1 rp1 ru1 hlt hfr1 hT1 hd1 (Or.inl h0) ⟨fun _ => Or.inr hbad, fun _ => h0⟩)
  refine G_iload_n 0 dr_cX14_program_18 rfl ?_
  refine G_aload_n 1 dr_cX14_program_19 rfl ?_
  refine Gp_get 13 r1 r2 dr_cX14_program_20 (gk_X14 D I) (Nat.le_of_ble_eq_true rfl) wr_9_51 rfl ?_
  refine G_icmp_ge 65 dr_cX14_program_23 (by decide +kernel) (fun hc => ?_) (fun hc => ?_)
  · have hle : gn.toInt ≤ kk.toInt := gj_le hc rfl
    have hee : kk.toInt = gn.toInt := by omega
    exact G_vretA dr_cX14_program_65 rfl hcs hsl (pgP_of hk h7 hd hp hj (by rw [← hee]; exact hg) hmE (by rw [← hee]; exact hbG) hrf h1 h2 h3)
  · have hlt : kk.toInt < gn.toInt := gj_nle hc rfl
    refine G_aload_n 1 dr_cX14_program_26 rfl ?_
    refine Gp_get 12 r1 r2 dr_cX14_program_27 (gk_X14 D I) (Nat.le_of_ble_eq_true rfl) wr_9_50 rfl ?_
    refine G_iload_n 0 dr_cX14_program_30 rfl ?_
    refine Gp_iald 0 gm gF' dr_cX14_program_31 rfl (gB_inr (by omega) (by omega)) (G_nam fun z hz => ?_)
    refine G_if_eq 48 dr_cX14_program_32 (by decide +kernel) (fun hz0 => k48 hlt (gbd_s hk0 hz (Or.inl (by rw [hz0]; decide)))) (fun hc0 => ?_)
    refine G_aload_n 1 dr_cX14_program_35 rfl ?_
    refine Gp_get 12 r1 r2 dr_cX14_program_36 (gk_X14 D I) (Nat.le_of_ble_eq_true rfl) wr_9_50 rfl ?_
    refine G_iload_n 0 dr_cX14_program_39 rfl ?_
    refine Gp_iald 0 gm gF' dr_cX14_program_40 rfl (gB_inr (by omega) (by omega)) (G_nam fun z2 hz2 => ?_)
    refine G_aload_n 2 dr_cX14_program_41 rfl ?_
    refine Gw_callV (As := []) (gV_ok D I) (cp_12780_Code_size l hl0 D I P F c lb lr rn md mc1 w1) dr_cX14_program_42 ⟨wr_9_128, wr_1_15, wr_9_131, by decide, rfl, (Nat.le_of_ble_eq_true rfl), (Nat.le_of_ble_eq_true rfl)⟩ wr_9_129 wr_9_130 mc1 w1 rfl (show _ ≤ mc by omega) (show _ ≤ ms by omega) (Nat.le_of_ble_eq_true rfl) (fun r w dc ds hp' => ?_) (fun _ _ _ _ _ z => z.elim)
    obtain ⟨rfl, rfl, hdc, hds⟩ := hp'
    change G _ _ _ _ _ _ _ (.int md :: .int z2 :: []) _ _ _
    refine G_widen (cs' := cs) (sl' := sl) (by omega) (by omega) ?_
    refine G_icmp_lt 59 dr_cX14_program_45 (by decide +kernel) (fun hc1 => ?_) (fun hc1 => k48 hlt (gbd_s hk0 hz2 (Or.inr (by rw [← emd]; exact gj_nlt hc1 rfl))))
    have hl1 : z2.toInt < md.toInt := gj_lt hc1 rfl
    have ezz : z2 = z := hz2.trans hz.symm
    have hz0 : z2.toInt ≠ 0 := fun e => hc0 (by rw [← ezz]; exact Int32.toInt_inj.mp (e.trans (show (0 : Int) = Int32.toInt 0 by decide)))
    have hbG2 : bkG rp mb fg (kk.toInt + 1) j := by unfold bkG at hbG ⊢; rw [gbd_o hk0 hz2 hz0 (by omega)]; exact hbG
    refine k59 F rp ru hlt (fun _ _ _ => rfl) hT hd ?_ hbG2
    rcases hg with q | q
    · exact Or.inl q
    · by_cases q0 : 0 ≤ rp.toInt
      · exact Or.inl q0
      · exact Or.inr ⟨rfl, glR_s q hk0 hz2 (by omega)⟩
set_option maxRecDepth 100000 in
set_option maxHeartbeats 4000000 in
theorem pg_loop {l : Launch} (hl0 : l.stackTraces = false) {D : va_G} {I : FieldType → ClassId} {P0 : List Nat} {F0 : Nat → va_E} {γ0 el0 : Nat → Nat → Nat} {f c R tp : Nat} {n a0 : Int32} {N0 M mc ms : Nat} {ft : Nat → Int32} (t0 : γ0 0 tp = 99) (hf1 : F0 tp = .inl (I .byte, 8192, .inl ft)) (hf2 : gF ft (-128) 127) (ha0 : 0 ≤ a0.toInt)
    (hM : (rM γ0 el0 f : Int) + 41 * (n.toInt - a0.toInt) + 600 ≤ M) (hM9 : M ≤ 2000000) (hMC : (M : Int) + 360 * (n.toInt - a0.toInt) + 1000 ≤ 18 * (mc : Int) + (rPh γ0 el0 f : Int)) (hMS : (M : Int) + 192 * (n.toInt - a0.toInt) + 40 * n.toInt + 1200 ≤ (ms : Int) + (rPh γ0 el0 f : Int)) :
    ∀ (μ : Nat) (P : List Nat) (F : Nat → va_E) (γ el : Nat → Nat → Nat) (g gp : Nat) (tx : gTz) (a k pl v b rp ru rw gn : Int32) (N : Nat) (fg fp : Nat → Int32) (j cs sl mi : Nat) (du : Int) (mb : Bool) (Q : gPg), n.toInt - a.toInt < (μ : Int) → rSk f pgK pgF D I P0 F0 γ0 el0 P F γ el → γ 7 f = 0 → rdI I P F γ R tp g gp tx n a k pl v b rp ru rw gn N fg fp → prI γ el F f c j fg gn rp rw → mcI (bA ft n.toInt) n.toInt mi a k v tx.2 du rw.toInt mb Q gn fg rp → du ≤ 1 → ((tk (bA ft n.toInt) n.toInt mi).1 = 1 → du ≠ 1) → rfI γ el F c j Q →
    (0 ≤ rw.toInt ∧ 2 * rw.toInt + 3 * (j : Int) ≤ a.toInt - a0.toInt ∧ N0 ≤ N) →
    18 * (cs : Int) + (rPh γ0 el0 f : Int) ≤ (rPh γ el f : Int) + 18 * (16 * (a.toInt - a0.toInt) + 8 * rw.toInt + 4 * (j : Int)) → (sl : Int) + (rPh γ0 el0 f : Int) ≤ (rPh γ el f : Int) + 160 * (a.toInt - a0.toInt) + 64 * rw.toInt + 4 * ((N : Int) - N0) → (rM γ el f : Int) ≤ (rM γ0 el0 f : Int) + 123 * (j : Int) + 36 * rw.toInt →
    G (gV D I) l (gRm 12 300 mc ms) (gMA (gV D I) (pgP D I P0 F0 γ0 el0 f R n a0 c ft) (pgX D I P0 F0 γ0 el0 f n a0 ft) mc ms) ky_rdp 4 [(0, .ref R), (1, .ref c)] [] (va_pl P F) cs sl := by
  intro μ
  induction μ with
  | zero =>
    intro P F γ el g gp tx a k pl v b rp ru rw gn N fg fp j cs sl mi du mb Q hμ hk h7 hd hp hmc hdu hdE hrf hρ hcs hsl hrm
    exact absurd hμ (by have := hd.2.2.2.2.2.1.1; omega)
  | succ μ ih =>
  intro P F γ el g gp tx a k pl v b rp ru rw gn N fg fp j cs sl mi du mb Q hμ hk h7 hd hp hmc hdu hdE hrf hρ hcs hsl hrm
  obtain ⟨⟨r1, r2, r3⟩, -, -, ⟨t25, -⟩, ⟨bn, ba, -, -, -, -, -, brw, bgn⟩, ⟨an, -, -, -⟩, ⟨n1, n2, n3, n4, rwa⟩⟩ := id hd
  obtain ⟨⟨c0, c1, c6, c19⟩, -, -, -, -, -⟩ := id hp
  have hT := hk.1
  obtain ⟨sz1, -, -, -, -⟩ := rsz hT c0 c1
  obtain ⟨hρ0, hρ1, hρ2⟩ := hρ
  refine G_aload_n 0 dr_cX14_program_4 rfl ?_
  refine G_aload_n 1 dr_cX14_program_5 rfl ?_
  have f1 : F tp = .inl (I .byte, 8192, .inl ft) := (rSk_F hk (show rKd γ0 tp 99 from t0) (by decide) (by decide)).trans hf1
  have sz1' : (rPh γ el f : Int) + 100 ≤ (rM γ el f : Int) := by clear ih hd hp hcs hsl hrm hMC hMS hM; omega
  obtain ⟨A1, A2, A3, A4, A5⟩ := pgA hM hMC hMS hρ0 hρ1 (Int.natCast_nonneg j) hcs hsl hrm sz1' an n1 n4 (Int.natCast_nonneg N0) ha0
  have hcm : cs ≤ mc := Int.ofNat_le.mp A4
  have hsm : sl ≤ ms := Int.ofNat_le.mp A5
  have emc : ((mc - cs : Nat) : Int) = (mc : Int) - cs := Int.ofNat_sub hcm
  have ems : ((ms - sl : Nat) : Int) = (ms : Int) - sl := Int.ofNat_sub hsm
  refine Gw_callV (As := [.ref c]) (gV_ok D I) (cp_rdb l hl0 D I (M := M) (mc := mc - cs) (ms := ms - sl) f1 hf2 hmc hdu hdE hrf hT hd hp A1 hM9 (by rw [emc]; exact A2) (by rw [ems]; exact A3)) dr_cX14_program_6 ⟨wr_9_89, wr_1_32, wr_9_92, by decide, rfl, (Nat.le_of_ble_eq_true rfl), (Nat.le_of_ble_eq_true rfl)⟩ wr_9_91 wr_p_79 r1 r2 rfl (show cs + (mc - cs) ≤ mc from Nat.le_of_eq (Nat.add_sub_cancel' hcm)) (show sl + (ms - sl) ≤ ms from Nat.le_of_eq (Nat.add_sub_cancel' hsm)) (Nat.le_of_ble_eq_true rfl) (fun r w dc ds hq => ?_) (fun E q w dc ds hx => ?_)
  · obtain ⟨P1, F1, γ1, el1, g1, gp1, tx1, a1, k1, pl1, v1, b1, rp1, ru1, rw1, gn1, N1, fg1, fp1, i1, bk1, Q1, rfl, rfl, hk1, hnu1, hd1, hp1, ⟨m1, m2, m3, m4⟩, e1, e2, e3, hmc1, hrf1⟩ := hq
    have hkk := rSk_tr hk hk1 (by decide) (by decide) pgKF
    have h71 : γ1 7 f = 0 := hnu1.2.1.trans h7
    obtain ⟨sy1, -⟩ := rsz hkk.1 hp1.1.1 hp1.1.2.1
    obtain ⟨⟨r1', r2', -⟩, -, -, -, ⟨-, ba1, -, -, -, -, -, -, bgn1⟩, ⟨an1, -, -, -⟩, ⟨n1', n2', n3', n4', rwa1⟩⟩ := id hd1
    refine G_aload_n 0 dr_cX14_program_9 rfl ?_
    refine Gp_get 3 r1' r2' dr_cX14_program_10 (gk_X14 D I) (Nat.le_of_ble_eq_true rfl) wr_9_39 rfl ?_
    refine G_if_ne 4 dr_cX14_program_13 (by decide +kernel) (fun hc => ?_) (fun hc => ?_)
    · have hk1' : k1.toInt ≠ 0 := fun e => hc (Int32.toInt_inj.mp (e.trans (show (0 : Int) = Int32.toInt 0 by decide)))
      obtain ⟨B1, B2, B3, B4, B5⟩ := pgB9 hρ0 hρ1 hcs hsl hrm (m2.resolve_left hk1') m3 e1 e2 e3
      have hμ' : n.toInt - a1.toInt < (μ : Int) := by
        have q1 : n.toInt - a.toInt < (μ : Int) + 1 := hμ
        have q2 : 2 * (rw1.toInt - rw.toInt) + 2 ≤ a1.toInt - a.toInt := m1
        have q3 : rw.toInt ≤ rw1.toInt := m3
        clear ih hd hp hd1 hp1 hcs hsl hrm hMC hMS hM A1 A2 A3 A4 A5 B1 B2 B3 B4 B5 e1 e2 e3 m1 m2 m3 hρ1
        omega
      exact ih P1 F1 γ1 el1 g1 gp1 tx1 a1 k1 pl1 v1 b1 rp1 ru1 rw1 gn1 N1 fg1 fp1 (j + 1) (cs + dc) (sl + ds) i1 1 bk1 Q1 hμ' hkk h71 hd1 hp1 hmc1 (Int.le_refl _) (fun z => absurd (hmc1.1.1.1.mpr z) hk1') hrf1 ⟨B1, B2, Nat.le_trans hρ2 m4⟩ B3 B4 B5
    · have sy1' : (rPh γ1 el1 f : Int) + 100 ≤ (rM γ1 el1 f : Int) := by clear ih hd hp hd1 hp1 hcs hsl hrm hMC hMS hM A1 A2 A3 A4 A5 e1 e2 e3 m1 m2 m3 hρ1; omega
      obtain ⟨C1, C2, C3, C4, C5⟩ := pgC hM hMC hMS hρ0 hρ1 (Int.natCast_nonneg j) hcs hsl hrm (Int.natCast_nonneg N0) ha0 m1 m3 e1 e2 e3 sy1' an1 n1' n4'
      refine G_iconst 0 dr_cX14_program_16 (by decide +kernel) ?_
      refine G_istore_n (L' := [(2, .int 0), (0, .ref R), (1, .ref c)]) dr_cX14_program_17 (Nat.le_of_ble_eq_true rfl) rfl ?_
      have z0 : Int32.toInt 0 = 0 := by decide
      have hk0e : k1 = 0 := by first | exact hc | exact Classical.byContradiction fun z => hc z
      have b0 := bgn1.1
      have u6 : gn1.toInt - Int32.toInt 0 < ((gn1.toInt.toNat + 1 : Nat) : Int) := by rw [z0]; clear C1 C2 C3 C4 C5 hMC hMS hM hcs hsl hrm e1 e2 e3 hd1 hp1 hd hp ih A1 A2 A3 A4 A5 m1 m2 m3 hρ1; omega
      exact pg_loop2 hl0 (P := P1) (γ := γ1) (el := el1) (g := g1) (gp := gp1) (tx := tx1) (a := a1) (k := k1) (pl := pl1) (v := v1) (b := b1) (rw := rw1) (gn := gn1) (N := N1) (fg := fg1) (fp := fp1) (j := j + 1) (cs := cs + dc) (sl := sl + ds) (mb := bk1) (Q := Q1) t0 hf1 hf2 ⟨⟨i1, hmc1.2.1.choose, hmc1.2.1.choose_spec.choose, hmc1.2.1.choose_spec.choose_spec.choose, hmc1.2.1.choose_spec.choose_spec.choose_spec.choose, rw1.toInt, hmc1.2.1.choose_spec.choose_spec.choose_spec.choose_spec, hmc1.1.1.1.mp (by rw [hk0e]; decide)⟩, hmc1.2.2.1⟩ h71 (Nat.succ_pos j) (Int.ofNat_le.mp C1) (Int.ofNat_le.mp C2) C3 C4 C5 (gn1.toInt.toNat + 1) F1 rp1 ru1 0 u6 (Int.le_of_eq z0.symm) (by rw [z0]; exact b0) hkk hd1 hp1 (Or.inr (glR_0 z0)) ⟨fun z => Or.inl (hmc1.2.2.2.mp z), fun z => hmc1.2.2.2.mpr (z.resolve_right (gbd_n z0))⟩ hrf1
  · obtain ⟨P1, F1, γ1, el1, rfl, rfl, hk1, hnu1, hq, hwr, e1, e2, e3, hrj⟩ := hx
    obtain ⟨sy1, -⟩ := rsz hk1.1 (rSk_k hk1 (show rKd γ c 9 from c0) (by decide) (by decide)) (rSk_1 hk1 (show rKd γ c 9 from c0) (by decide) c1)
    have sy1' : (rPh γ1 el1 f : Int) + 100 ≤ (rM γ1 el1 f : Int) := by clear ih hd hp hcs hsl hrm hMC hMS hM A1 A2 A3 A4 A5 e1 e2 e3 hρ1; omega
    obtain ⟨C1, C2, C3, C4, C5⟩ := pgD hM hMC hMS hρ0 hρ1 (Int.natCast_nonneg j) hcs hsl hrm (Int.natCast_nonneg N0) ha0 an n1 n4 e1 e2 e3 sy1'
    exact GT_outA rfl (Int.ofNat_le.mp C1) (Int.ofNat_le.mp C2) ⟨P1, F1, γ1, el1, rfl, rfl, rSk_tr hk hk1 (by decide) (by decide) pgKF, hnu1.2.1.trans h7, hq, hwr, C3, C4, C5, hrj⟩
set_option maxRecDepth 100000 in
set_option maxHeartbeats 4000000 in
theorem cp_rdp (l : Launch) (hl0 : l.stackTraces = false) (D : va_G) (I : FieldType → ClassId) {P : List Nat} {F : Nat → va_E} {γ el : Nat → Nat → Nat} {f c R tp g gp : Nat} {tx : gTz} {n a k pl v b rp ru rw gn : Int32} {N : Nat} {fg fp : Nat → Int32} {M mc ms : Nat} {ft : Nat → Int32} (f1 : F tp = .inl (I .byte, 8192, .inl ft)) (f2 : gF ft (-128) 127) (hr0 : rdT (bA ft n.toInt) n.toInt 0 a k v tx.2) (hrp0 : rp.toInt < 0) (hT : RS D I P F γ el) (hd : rdI I P F γ R tp g gp tx n a k pl v b rp ru rw gn N fg fp) (c0 : γ 0 c = 9) (c1 : γ 1 c = f) (hrw : rw.toInt = 0) (hgn : gn.toInt = 0)
    (hM : (rM γ el f : Int) + 41 * (n.toInt - a.toInt) + 600 ≤ M) (hM9 : M ≤ 2000000) (hMC : (M : Int) + 360 * (n.toInt - a.toInt) + 1000 ≤ 18 * (mc : Int) + (rPh γ el f : Int)) (hMS : (M : Int) + 192 * (n.toInt - a.toInt) + 40 * n.toInt + 1200 ≤ (ms : Int) + (rPh γ el f : Int)) :
    CtA (gV D I) l yX14_program cX14_program 3 none 12 300 mc ms [.ref R, .ref c] (va_pl P F) (pgP D I P F γ el f R n a c ft) (pgX D I P F γ el f n a ft) := by
  refine CtA_of hl0 (by decide) (Nat.le_of_ble_eq_true rfl) ?_
  refine G_aload_n 1 dr_cX14_program_0 rfl ?_
  refine Gt_beg0 (c := c) (f := f) 40 hl0 dr_cX14_program_1 ⟨wr_9_85, wr_1_15, wr_9_88, by decide, rfl, (Nat.le_of_ble_eq_true rfl), (Nat.le_of_ble_eq_true rfl)⟩ wr_9_86 wr_9_87 hT c0 c1 (show _ ≤ mc by omega) (show _ ≤ ms by omega) (Nat.le_of_ble_eq_true rfl) (fun F1 γ1 el1 hq hz h0 h2 => ?_)
  obtain ⟨st, q6, q7, q16, q18, q19, q23, q2, qel, qmd, qph, qrm, -⟩ := hq
  have sk := rSk_of st
  have t1 : γ1 0 tp = 99 := rSk_k sk (show rKd γ tp 99 from hd.2.2.2.1.1) (by decide) (by decide)
  have c0' : γ1 0 c = 9 := rSk_k sk (show rKd γ c 9 from c0) (by decide) (by decide)
  have c1' : γ1 1 c = f := rSk_1 sk (show rKd γ c 9 from c0) (by decide) c1
  have hp1 : prI γ1 el1 F1 f c 0 fg gn rp rw := ⟨⟨c0', c1', q6, q19⟩, by rw [hrw, q16]; rfl, qmd, fun i hi => absurd hi (Nat.not_lt_zero _), fun x hx hf => absurd hf (h2 x hx), Or.inr ⟨by omega, by omega⟩⟩
  exact pg_loop hl0 (N0 := N) hd.2.2.2.1.1 f1 f2 hd.2.2.2.2.1.2.1.1 hM hM9 hMC hMS ((n.toInt - a.toInt).toNat + 1) P F1 γ1 el1 g gp tx a k pl v b rp ru rw gn N fg fp 0 0 0 0 0 false pgO (by have := hd.2.2.2.2.2.1.1; omega) (rSk_tr (rSk_rf hT) sk (by decide) (by decide) pgKF) q7 (rdI_z hd rSub_rf hz (fun x _ q => h0 x q) t1) hp1 ⟨hr0, ⟨-1, -1, 0, 0, by rw [hrw]; rfl⟩, gsR_0 hgn, ⟨fun z => by omega, fun z => nomatch z⟩⟩ (by decide) (fun _ => by decide) ⟨rfl, fun b hb => absurd hb (Nat.not_lt_zero b)⟩ ⟨by omega, by omega, Nat.le_refl _⟩ (by rw [qph]; omega) (by rw [qph]; omega) (by rw [qrm]; omega)
end
section
/-! contracts of methods with a table that tell how much was made; the model's cell -/
def CtWA (v : gEnv) (l : Launch) (y : MethodName) (cc : ByteArray) (nL : Nat) (ret : Option FieldType) (hh : List (Nat × Nat × Nat × Nat)) (fr lo mc ms : Nat) (av : List Value) (ws : va_W) (Post : Option Value → va_W → Nat → Nat → Prop) (XP : String → Nat → va_W → Nat → Nat → Prop) : Prop :=
  ∀ sz : Nat, vx_Met l y (.codeWith y cc nL ret hh :: v.2.2.2.2) (gRm fr lo mc ms) (gPre v av ws sz) (gQA v Post (va_A ws sz)) (gXA v XP (va_A ws sz)) mc ms (va_A ws sz)
section GEWA
variable {v : gEnv} {l : Launch} {y : MethodName} {cc : ByteArray} {nL fr lo mc ms : Nat} {ret : Option FieldType} {hh : List (Nat × Nat × Nat × Nat)} {av : List Value} {ws : va_W} {Post : Option Value → va_W → Nat → Nat → Prop} {XP : String → Nat → va_W → Nat → Nat → Prop}
set_option maxHeartbeats 1000000 in
theorem CtWA_of (hl0 : l.stackTraces = false) (hy : plainName y.cls = true) (hlen : (lg_sl av).length ≤ nL) (h : G v l (gRm fr lo mc ms) (gMA v Post XP mc ms) (cc, nL, y.cls, ret, tableOf hh, y.name, fun _ _ => True) 0 (lv_args 0 av) [] ws 0 0) :
    CtWA v l y cc nL ret hh fr lo mc ms av ws Post XP := by
  intro sz
  refine vx_ofWH (cc := cc) (maxL := nL) (ret := ret) (hh := hh) hy rfl ?_
  intro p e s m args below meth c s₁ B hml hpre
  obtain ⟨rfl, hsz, hP, hK, hD, hE⟩ := hpre
  subst hsz
  have hts := atoms_spec (ws := .codeWith y cc nL ret hh :: v.2.2.2.2) B.pre
  have ht := vx_table (x := y) B (hts _ List.mem_cons_self)
  have hl := lv_entry av (n := nL) hlen
  rw [lg_entry_eq]
  generalize (lg_sl av ++ List.replicate (nL - (lg_sl av).length) Slot.unset).toArray = ls at hl ⊢
  exact h p e s m av.toArray below meth c (va_A ws s.heap.size) s.heap [] ls ⟨B.exec, B.bytes, hml, findClass_of_methodNamed B.named, B.returns, ht, (name_of_methodNamed B.named B.method).1, fun w hw => hts w (List.mem_cons_of_mem _ hw), B.notSynchronized, hK, fun q hq => Or.inr hq, hE, hl0, trivial⟩ hP hD.self va_S.rf hl
end GEWA
section GCWA
variable {v : gEnv} {l : Launch} {R : Room} {Qf : gFin} {k : gKey} {pc cs sl : Nat} {L : List (Nat × Value)} {st : List Value} {ws wc wr : va_W}
variable {y : MethodName} {cc' : ByteArray} {nL' fr' lo' mc' ms' i b : Nat} {ret' : Option FieldType} {hh : List (Nat × Nat × Nat × Nat)} {As : List Value} {Post' : Option Value → va_W → Nat → Nat → Prop} {XP' : String → Nat → va_W → Nat → Nat → Prop}
theorem G_callVWA {ci N : Nat} {fs : List Value} {T : u_T} (hv : gOk v) (cp : CtWA v l y cc' nL' ret' hh fr' lo' mc' ms' (.ref b :: As) wc Post' XP') (d : decode k.1 pc = .ok (.invokevirtual i, 3)) (hw : gCwT v R k.2.2.1 i y cc' nL' ret' hh fr' lo' As.length) (w2 : Cond.instanceMethod y ∈ v.2.2.2.2) (w3 : Cond.selects y.cls y y ∈ v.2.2.2.2)
    (q : Nat) (hq : ws[q]? = some (b, .inr (ci, fs))) (hcl : v.2.1[ci]? = some (y.cls, T, N)) (isC isR : List Nat) (hC : isC.map (fun i => ws[i]?) = wc.map some) (hR : isR.map (fun i => ws[i]?) = wr.map some) (hnC : va_nd isC = true) (hn : va_nd isR = true) (hdis : ∀ i ∈ isR, i ∉ isC)
    (hcs : cs + mc' ≤ R.cells) (hsl : sl + ms' ≤ R.slots) (hcat : (st.map fun u => u.category).sum ≤ 8)
    (kk : ∀ r w dc ds, Post' r w dc ds → G v l R Qf k (pc + 3) L (r.toList ++ st) (wr ++ w) (cs + dc) (sl + ds)) (kx : ∀ E q w dc ds, XP' E q w dc ds → GT v l R Qf k pc L st E q (wr ++ w) (cs + dc) (sl + ds)) :
    G v l R Qf k pc L (As.reverse ++ .ref b :: st) ws cs sl := fun p e s m args below meth c A H locs ls C hP hD hS h => by
  obtain ⟨h1, h2, h3, h4, h5, h6, h7, h8, h9, h10, h11, h12, h13⟩ := id C
  obtain ⟨g1, g2, g3, g4, g5, g6⟩ := g_wt (mc' := mc') (ms' := ms') hv h8 hw
  exact g_backA isC isR hC hR hn hdis C hP hD hS h (vx_runVX (As := As) (hh := hh) ⟨h1, h2, h3, h4, h8⟩ (cp H.size) ⟨g1, g2, g3, g4, g5, g6, h8 _ w2, h8 _ w3⟩ ⟨gPre_blind hv _ _ _, va_recv h10 hP hcl hq, g_pre hv isC hC hnC C hP hD hS⟩ rfl rfl h.1 rfl (by show 2 * 0 + _ ≤ 8; omega) d ⟨hcs, hsl⟩) kk kx
end GCWA
/-- the model's cell -/
abbrev mdE (γ : Nat → Nat → Nat) (r28 r35 : Nat) (v9 v10 v11 v12 v13 v14 v23 v24 v25 v26 v27 v30 v32 v33 v34 : Int32) : va_E := .inr (22, [.ref (γ 9 0), .ref (γ 9 1), .ref (γ 9 2), .ref (γ 9 3), .ref (γ 9 4), .ref (γ 9 5), .ref (γ 9 6), .ref (γ 9 7), .ref (γ 9 8), .int v9, .int v10, .int v11, .int v12, .int v13, .int v14, .ref (γ 9 15), .ref (γ 9 16), .ref (γ 9 17), .ref (γ 9 18), .ref (γ 9 19), .ref (γ 9 20), .ref (γ 9 21), .ref (γ 9 22), .int v23, .int v24, .int v25, .int v26, .int v27, .ref r28, .ref (γ 9 29), .int v30, .ref (γ 9 31), .int v32, .int v33, .int v34, .ref r35])
def mdK (γ : Nat → Nat → Nat) (r28 r35 : Nat) : Prop := rKd γ r28 98 ∧ rKd γ r35 96 ∧ rKd γ (γ 9 0) 12 ∧ rKd γ (γ 9 1) 13 ∧ rKd γ (γ 9 2) 35 ∧ rKd γ (γ 9 3) 14 ∧ rKd γ (γ 9 4) 16 ∧ rKd γ (γ 9 5) 17 ∧ rKd γ (γ 9 6) 9 ∧ rKd γ (γ 9 7) 9 ∧ rKd γ (γ 9 8) 9 ∧ rKd γ (γ 9 15) 18 ∧ rKd γ (γ 9 16) 19 ∧ rKd γ (γ 9 17) 20 ∧ rKd γ (γ 9 18) 15 ∧ rKd γ (γ 9 19) 21 ∧ rKd γ (γ 9 20) 22 ∧ rKd γ (γ 9 21) 23 ∧ rKd γ (γ 9 22) 97 ∧ rKd γ (γ 9 29) 28 ∧ rKd γ (γ 9 31) 99 ∧ rF1 γ (γ 9 6) 0 ∧ rF1 γ (γ 9 7) 1 ∧ rF1 γ (γ 9 8) 2
section MDE
variable {D : va_G} {I : FieldType → ClassId} {P P1 : List Nat} {F F1 : Nat → va_E} {γ el : Nat → Nat → Nat} {m r28 r35 : Nat} {v9 v10 v11 v12 v13 v14 v23 v24 v25 v26 v27 v30 v32 v33 v34 : Int32}
theorem rk10_m {e : va_E} (h : rk_10 γ e) : ∃ (r28 r35 : Nat) (v9 v10 v11 v12 v13 v14 v23 v24 v25 v26 v27 v30 v32 v33 v34 : Int32), e = mdE γ r28 r35 v9 v10 v11 v12 v13 v14 v23 v24 v25 v26 v27 v30 v32 v33 v34 ∧ rM1 v9 v10 v11 v14 v25 v26 v27 v32 v34 ∧ mdK γ r28 r35 ∧ rM2 γ v9 v10 v34 r35 := by
  obtain ⟨r28, r35, v9, v10, v11, v12, v13, v14, v23, v24, v25, v26, v27, v30, v32, v33, v34, h0, h1, h2, h3, h4, h5, h6, h7, h8, h9, h10, h11, h12, h13, h14, h15, h16, h17, h18, h19, h20, h21, h22, h23, h24, h25, h26⟩ := h
  exact ⟨r28, r35, v9, v10, v11, v12, v13, v14, v23, v24, v25, v26, v27, v30, v32, v33, v34, h0, h1, ⟨h2, h3, h4, h5, h6, h7, h8, h9, h10, h11, h12, h13, h14, h15, h16, h17, h18, h19, h20, h21, h22, h23, h24, h25⟩, h26⟩
theorem rk10_b {e : va_E} (h0 : e = mdE γ r28 r35 v9 v10 v11 v12 v13 v14 v23 v24 v25 v26 v27 v30 v32 v33 v34) (h1 : rM1 v9 v10 v11 v14 v25 v26 v27 v32 v34) (hk : mdK γ r28 r35) (h26 : rM2 γ v9 v10 v34 r35) : rk_10 γ e := by
  obtain ⟨h2, h3, h4, h5, h6, h7, h8, h9, h10, h11, h12, h13, h14, h15, h16, h17, h18, h19, h20, h21, h22, h23, h24, h25⟩ := hk
  exact ⟨r28, r35, v9, v10, v11, v12, v13, v14, v23, v24, v25, v26, v27, v30, v32, v33, v34, h0, h1, h2, h3, h4, h5, h6, h7, h8, h9, h10, h11, h12, h13, h14, h15, h16, h17, h18, h19, h20, h21, h22, h23, h24, h25, h26⟩
/-- the model's cell was written -/
theorem RS_md (hT : RS D I P F γ el) (hm : γ 0 m = 10) (n : ∀ b, b ≠ m → F1 b = F b) (h0 : F1 m = mdE γ r28 r35 v9 v10 v11 v12 v13 v14 v23 v24 v25 v26 v27 v30 v32 v33 v34) (h1 : rM1 v9 v10 v11 v14 v25 v26 v27 v32 v34) (hk : mdK γ r28 r35) (h2 : rM2 γ v9 v10 v34 r35) : RS D I P F1 γ el :=
  RS_set hT n hm (by decide) (rk10_b h0 h1 hk h2)
end MDE
/-- what text leaves of the program: it holds what the tape says, or the tape says none -/
def txQ (γ el : Nat → Nat → Nat) (F : Nat → va_E) (m c : Nat) (B : Int → Int) (n : Int) : Prop := ((fI (F m) 9).toInt = 1 ∧ ∃ Q, okP B n Q ∧ rfP γ el F c Q) ∨ ((fI (F m) 9).toInt = 0 ∧ ∀ Q, ¬ okP B n Q)
theorem rfP_ow {D : va_G} {I : FieldType → ClassId} {P : List Nat} {F F1 : Nat → va_E} {γ el : Nat → Nat → Nat} {c f : Nat} {Q : gPg} {W : List Nat} (hT : RS D I P F γ el) (h : rfP γ el F c Q) (c0 : γ 0 c = 9) (c1 : γ 1 c = f) (h6 : 0 < γ 6 f) (hfr : rFr W P F F1) (hW : ∀ w, w ∈ W → γ 0 w ≠ 1 ∧ γ 0 w ≠ 2 ∧ γ 0 w ≠ 9) : rfP γ el F1 c Q := by
  obtain ⟨lb, lr, rn, md, w1, ⟨g1, g2, g3⟩, w3, w4, w5, w6, w7, w8, w9, w10, w11, w12, w13, w14, -⟩ := show rk_9 γ el c (F c) from RS_o hT c0
  obtain ⟨h1, h2⟩ := h
  have e : F1 c = F c := hfr c (hT.1 c (by omega)) (fun z => (hW c z).2.2 c0)
  refine ⟨by rw [e]; exact h1, rfI_ow hT h2 (fun i hi => ?_) hfr (fun w hw => ⟨(hW w hw).1, (hW w hw).2.1⟩)⟩
  have h3 : md.toInt = (Q.1 : Int) := by rw [w1] at h1; exact h1
  rw [g1]
  exact (w14 i (by omega)).resolve_right (fun z => by rw [c1] at z; omega)
/-- what text leaves -/
def txP (D : va_G) (I : FieldType → ClassId) (P : List Nat) (F : Nat → va_E) (γ el : Nat → Nat → Nat) (m : Nat) : Option Value → va_W → Nat → Nat → Prop := fun r w dc ds => ∃ (P1 : List Nat) (F1 : Nat → va_E) (γ1 el1 : Nat → Nat → Nat) (x : Int32),
  r = some (.int x) ∧ w = va_pl P1 F1 ∧ rSk 0 pgK (10 :: pgF) D I P F γ el P1 F1 γ1 el1 ∧ γ1 7 0 = 0 ∧ ((fI (F1 m) 9).toInt = 0 ∨ (0 < γ1 6 0 ∧ γ1 16 0 ≤ 160)) ∧ ((fI (F1 m) 10).toInt = 0 ∨ fI (F1 m) 10 = fI (F m) 10) ∧ (fI (F1 m) 32).toInt = 0 ∧
  18 * (dc : Int) + (rPh γ el 0 : Int) ≤ (rPh γ1 el1 0 : Int) + 360 * (fI (F m) 32).toInt + 1100 ∧ (ds : Int) + (rPh γ el 0 : Int) ≤ (rPh γ1 el1 0 : Int) + 232 * (fI (F m) 32).toInt + 1100 ∧ (rM γ1 el1 0 : Int) ≤ (rM γ el 0 : Int) + 41 * (fI (F m) 32).toInt + 300 ∧ fR (F1 m) 35 = fR (F m) 35 ∧ ∃ ft, F (γ 9 31) = .inl (I .byte, 8192, .inl ft) ∧ gF ft (-128) 127 ∧ txQ γ1 el1 F1 m (γ 9 6) (bA ft (fI (F m) 32).toInt) (fI (F m) 32).toInt ∧ mO (F1 m) = mO (F m) ∧ (((fI (F1 m) 9).toInt = 0 ∧ fI (F1 m) 10 = fI (F m) 10) ∨ ((fI (F1 m) 9).toInt = 1 ∧ (fI (F1 m) 10).toInt = 0))
section TXN
variable {M n a cs1 sl1 mc ms Φ0 R0 : Int}
theorem txA (hM : R0 + 41 * n + 600 ≤ M) (hMC : M + 360 * n + 1200 ≤ 18 * mc + Φ0) (hMS : M + 232 * n + 1400 ≤ ms + Φ0) (h0 : 0 ≤ a) (han : a ≤ n) (hc : cs1 ≤ 16 * a + 3) (hs : sl1 ≤ 160 * a + 46) (sz : Φ0 + 100 ≤ R0) :
    R0 + 41 * (n - a) + 600 ≤ M ∧ M + 360 * (n - a) + 1000 ≤ 18 * (mc - cs1) + Φ0 ∧ M + 192 * (n - a) + 40 * n + 1200 ≤ (ms - sl1) + Φ0 ∧ cs1 ≤ mc ∧ sl1 ≤ ms := ⟨by omega, by omega, by omega, by omega, by omega⟩
theorem txB {dc ds Φ1 R1 : Int} (hM : R0 + 41 * n + 600 ≤ M) (hMC : M + 360 * n + 1200 ≤ 18 * mc + Φ0) (hMS : M + 232 * n + 1400 ≤ ms + Φ0) (h0 : 0 ≤ a) (han : a ≤ n) (hc : cs1 ≤ 16 * a + 3) (hs : sl1 ≤ 160 * a + 46)
    (e1 : 18 * dc + Φ0 ≤ Φ1 + 360 * (n - a) + 900) (e2 : ds + Φ0 ≤ Φ1 + 192 * (n - a) + 40 * n + 900) (e3 : R1 ≤ R0 + 41 * (n - a) + 300) (sz : Φ1 + 100 ≤ R1) :
    cs1 + dc ≤ mc ∧ sl1 + ds ≤ ms ∧ 18 * (cs1 + dc) + Φ0 ≤ Φ1 + 360 * n + 1100 ∧ (sl1 + ds) + Φ0 ≤ Φ1 + 232 * n + 1100 ∧ R1 ≤ R0 + 41 * n + 300 := ⟨by omega, by omega, by omega, by omega, by omega⟩
end TXN
end
section
theorem dr_cX17_text_71 : decode cX17_text 71 = .ok (.aload_n 0, 1) := by decide +kernel
theorem dr_cX17_text_72 : decode cX17_text 72 = .ok (.iconst 0, 1) := by decide +kernel
theorem dr_cX17_text_73 : decode cX17_text 73 = .ok (.putfield 383, 3) := by decide +kernel
theorem dr_cX17_text_86 : decode cX17_text 86 = .ok (.putfield 414, 3) := by decide +kernel
theorem dr_cX17_text_89 : decode cX17_text 89 = .ok (.aload_n 0, 1) := by decide +kernel
theorem dr_cX17_text_90 : decode cX17_text 90 = .ok (.getfield 414, 3) := by decide +kernel
theorem dr_cX17_text_93 : decode cX17_text 93 = .ok (.ifCond .eq 8, 3) := by decide +kernel
theorem dr_cX17_text_101 : decode cX17_text 101 = .ok (.iload_n 1, 1) := by decide +kernel
theorem dr_cX17_text_102 : decode cX17_text 102 = .ok (.ireturn, 1) := by decide +kernel
theorem dr_cX17_text_96 : decode cX17_text 96 = .ok (.aload_n 0, 1) := by decide +kernel
theorem dr_cX17_text_97 : decode cX17_text 97 = .ok (.iconst 0, 1) := by decide +kernel
theorem dr_cX17_text_98 : decode cX17_text 98 = .ok (.putfield 416, 3) := by decide +kernel
theorem dr_cX17_text_76 : decode cX17_text 76 = .ok (.aload_n 0, 1) := by decide +kernel
theorem dr_cX17_text_77 : decode cX17_text 77 = .ok (.iload_n 1, 1) := by decide +kernel
theorem dr_cX17_text_78 : decode cX17_text 78 = .ok (.ifCond .ge 7, 3) := by decide +kernel
theorem dr_cX17_text_85 : decode cX17_text 85 = .ok (.iconst 0, 1) := by decide +kernel
theorem dr_cX17_text_81 : decode cX17_text 81 = .ok (.iconst 1, 1) := by decide +kernel
theorem dr_cX17_text_82 : decode cX17_text 82 = .ok (.goto 4, 3) := by decide +kernel
theorem dr_cX17_text_0 : decode cX17_text 0 = .ok (.aload_n 0, 1) := by decide +kernel
theorem dr_cX17_text_1 : decode cX17_text 1 = .ok (.iconst 0, 1) := by decide +kernel
theorem dr_cX17_text_2 : decode cX17_text 2 = .ok (.putfield 380, 3) := by decide +kernel
theorem dr_cX17_text_5 : decode cX17_text 5 = .ok (.iconst (-1), 1) := by decide +kernel
theorem dr_cX17_text_6 : decode cX17_text 6 = .ok (.istore_n 1, 1) := by decide +kernel
theorem dr_cX17_text_7 : decode cX17_text 7 = .ok (.aload_n 0, 1) := by decide +kernel
theorem dr_cX17_text_8 : decode cX17_text 8 = .ok (.iconst 0, 1) := by decide +kernel
theorem dr_cX17_text_9 : decode cX17_text 9 = .ok (.putfield 392, 3) := by decide +kernel
theorem dr_cX17_text_12 : decode cX17_text 12 = .ok (.new 395, 3) := by decide +kernel
theorem wr_7_208 : (Jvm.Cond.classLink "SpillForgeModel" (395 : Nat) "SpillForgeModel$Reader") ∈ gw := gw_7 208 rfl rfl
theorem wr_7_209 : (Jvm.Cond.instantiable "SpillForgeModel$Reader" (14 : Nat)) ∈ gw := gw_7 209 rfl rfl
theorem dr_cX17_text_15 : decode cX17_text 15 = .ok (.dup, 1) := by decide +kernel
theorem dr_cX17_text_16 : decode cX17_text 16 = .ok (.aload_n 0, 1) := by decide +kernel
theorem dr_cX17_text_17 : decode cX17_text 17 = .ok (.getfield 374, 3) := by decide +kernel
theorem dr_cX17_text_20 : decode cX17_text 20 = .ok (.aload_n 0, 1) := by decide +kernel
theorem dr_cX17_text_21 : decode cX17_text 21 = .ok (.getfield 383, 3) := by decide +kernel
theorem dr_cX17_text_24 : decode cX17_text 24 = .ok (.invokespecial 397, 3) := by decide +kernel
theorem wr_7_210 : (Jvm.Cond.methodLink "SpillForgeModel" (397 : Nat) ({ cls := "SpillForgeModel$Reader", name := "<init>", desc := "([BI)V" } : Jvm.MethodName)) ∈ gw := gw_7 210 rfl rfl
theorem wr_7_212 : (Jvm.Cond.code ({ cls := "SpillForgeModel$Reader", name := "<init>", desc := "([BI)V" } : Jvm.MethodName) prog_17_method_1_code (3 : Nat) (Option.none : Option Jvm.ClassFile.FieldType)) ∈ gw := gw_7 212 rfl rfl
theorem wr_7_211 : (Jvm.Cond.instanceMethod ({ cls := "SpillForgeModel$Reader", name := "<init>", desc := "([BI)V" } : Jvm.MethodName)) ∈ gw := gw_7 211 rfl rfl
theorem dr_cX17_text_27 : decode cX17_text 27 = .ok (.astore_n 2, 1) := by decide +kernel
theorem dr_cX17_text_28 : decode cX17_text 28 = .ok (.aload_n 2, 1) := by decide +kernel
theorem dr_cX17_text_29 : decode cX17_text 29 = .ok (.aload_n 0, 1) := by decide +kernel
theorem dr_cX17_text_30 : decode cX17_text 30 = .ok (.getfield 361, 3) := by decide +kernel
theorem dr_cX17_text_33 : decode cX17_text 33 = .ok (.invokevirtual 400, 3) := by decide +kernel
theorem wr_9_81 : (Jvm.Cond.methodLink "SpillForgeModel" (400 : Nat) ({ cls := "SpillForgeModel$Reader", name := "program", desc := "(LSpillForgeModel$Code;)V" } : Jvm.MethodName)) ∈ gw := gw_9 81 rfl rfl
theorem wr_9_84 : (Jvm.Cond.code ({ cls := "SpillForgeModel$Reader", name := "program", desc := "(LSpillForgeModel$Code;)V" } : Jvm.MethodName) prog_17_method_14_code (3 : Nat) (Option.none : Option Jvm.ClassFile.FieldType)) ∈ gw := gw_9 84 rfl rfl
theorem wr_9_82 : (Jvm.Cond.instanceMethod ({ cls := "SpillForgeModel$Reader", name := "program", desc := "(LSpillForgeModel$Code;)V" } : Jvm.MethodName)) ∈ gw := gw_9 82 rfl rfl
theorem wr_9_83 : (Jvm.Cond.selects "SpillForgeModel$Reader" ({ cls := "SpillForgeModel$Reader", name := "program", desc := "(LSpillForgeModel$Code;)V" } : Jvm.MethodName) ({ cls := "SpillForgeModel$Reader", name := "program", desc := "(LSpillForgeModel$Code;)V" } : Jvm.MethodName)) ∈ gw := gw_9 83 rfl rfl
theorem dr_cX17_text_54 : decode cX17_text 54 = .ok (.putfield 392, 3) := by decide +kernel
theorem dr_cX17_text_57 : decode cX17_text 57 = .ok (.goto 14, 3) := by decide +kernel
theorem dr_cX17_text_36 : decode cX17_text 36 = .ok (.aload_n 2, 1) := by decide +kernel
theorem dr_cX17_text_37 : decode cX17_text 37 = .ok (.getfield 403, 3) := by decide +kernel
theorem wr_9_45 : (Jvm.Cond.fieldLink "SpillForgeModel" (403 : Nat) "SpillForgeModel$Reader" "rulePlace" "I") ∈ gw := gw_9 45 rfl rfl
theorem dr_cX17_text_40 : decode cX17_text 40 = .ok (.istore_n 1, 1) := by decide +kernel
theorem dr_cX17_text_41 : decode cX17_text 41 = .ok (.aload_n 0, 1) := by decide +kernel
theorem dr_cX17_text_42 : decode cX17_text 42 = .ok (.iload_n 1, 1) := by decide +kernel
theorem dr_cX17_text_43 : decode cX17_text 43 = .ok (.ifCond .ge 7, 3) := by decide +kernel
theorem dr_cX17_text_50 : decode cX17_text 50 = .ok (.aload_n 2, 1) := by decide +kernel
theorem dr_cX17_text_51 : decode cX17_text 51 = .ok (.getfield 406, 3) := by decide +kernel
theorem wr_9_47 : (Jvm.Cond.fieldLink "SpillForgeModel" (406 : Nat) "SpillForgeModel$Reader" "rule" "I") ∈ gw := gw_9 47 rfl rfl
theorem dr_cX17_text_46 : decode cX17_text 46 = .ok (.iconst 0, 1) := by decide +kernel
theorem dr_cX17_text_47 : decode cX17_text 47 = .ok (.goto 7, 3) := by decide +kernel
theorem wr_7_207 : (Jvm.Cond.classLink "SpillForgeModel" (409 : Nat) "SpillForgeModel$Wrong") ∈ gw := gw_7 207 rfl rfl
theorem dr_cX17_text_60 : decode cX17_text 60 = .ok (.astore_n 2, 1) := by decide +kernel
theorem dr_cX17_text_61 : decode cX17_text 61 = .ok (.aload_n 2, 1) := by decide +kernel
theorem dr_cX17_text_62 : decode cX17_text 62 = .ok (.getfield 411, 3) := by decide +kernel
theorem wr_9_123 : (Jvm.Cond.fieldLink "SpillForgeModel" (411 : Nat) "SpillForgeModel$Wrong" "place" "I") ∈ gw := gw_9 123 rfl rfl
theorem dr_cX17_text_65 : decode cX17_text 65 = .ok (.istore_n 1, 1) := by decide +kernel
theorem dr_cX17_text_66 : decode cX17_text 66 = .ok (.aload_n 0, 1) := by decide +kernel
theorem dr_cX17_text_67 : decode cX17_text 67 = .ok (.iconst 1, 1) := by decide +kernel
theorem dr_cX17_text_68 : decode cX17_text 68 = .ok (.putfield 392, 3) := by decide +kernel
abbrev ky_txt : gKey := (cX17_text, 3, "SpillForgeModel", (some FieldType.int), tableOf [(12, 57, 60, 409)], "text", fun _ _ => True)
theorem txKF : ∀ j, j ∈ pgK → j ∈ 10 :: pgF := by decide
set_option maxRecDepth 100000 in
set_option maxHeartbeats 4000000 in
theorem tx_end {l : Launch} (hl0 : l.stackTraces = false) {D : va_G} {I : FieldType → ClassId} {P P0 : List Nat} {F F0 : Nat → va_E} {γ el γ0 el0 : Nat → Nat → Nat} {m z cs sl mc ms : Nat} {pl : Int32} {ft : Nat → Int32} (g96 : γ 9 = γ0 9) (c9 : γ 0 (γ0 9 6) = 9) (cf : γ 1 (γ0 9 6) = 0) (hft : F0 (γ0 9 31) = .inl (I .byte, 8192, .inl ft)) (hft2 : gF ft (-128) 127) (hQ : okQ γ el F (γ0 9 6) (bA ft (fI (F0 m) 32).toInt) (fI (F0 m) 32).toInt pl) (hk : rSk 0 pgK (10 :: pgF) D I P0 F0 γ0 el0 P F γ el) (hm : γ 0 m = 10) (h7 : γ 7 0 = 0) (hv : pl.toInt < 0 → 0 < γ 6 0 ∧ γ 16 0 ≤ 160) (h10 : fI (F m) 10 = fI (F0 m) 10) (h35 : fR (F m) 35 = fR (F0 m) 35) (hO : mO (F m) = mO (F0 m)) (hcs : cs ≤ mc) (hsl : sl ≤ ms)
    (c1 : 18 * (cs : Int) + (rPh γ0 el0 0 : Int) ≤ (rPh γ el 0 : Int) + 360 * (fI (F0 m) 32).toInt + 1100) (c2 : (sl : Int) + (rPh γ0 el0 0 : Int) ≤ (rPh γ el 0 : Int) + 232 * (fI (F0 m) 32).toInt + 1100) (c3 : (rM γ el 0 : Int) ≤ (rM γ0 el0 0 : Int) + 41 * (fI (F0 m) 32).toInt + 300) :
    G (gV D I) l (gRm 13 340 mc ms) (gMA (gV D I) (txP D I P0 F0 γ0 el0 m) gNA mc ms) ky_txt 71 [(1, .int pl), (2, .ref z), (0, .ref m)] [] (va_pl P F) cs sl := by
  have hT := hk.1
  obtain ⟨r28, r35, v9, v10, v11, v12, v13, v14, v23, v24, v25, v26, v27, v30, v32, v33, v34, he, hM1, hK, hM2⟩ := rk10_m (show rk_10 γ (F m) from RS_o hT hm)
  obtain ⟨q9, q10, q11, q14, q25, q26, q27, q32, q34⟩ := hM1
  have mm : m ∈ P := hT.1 m (by omega)
  have z0 : gB 0 0 8192 := ⟨by decide, by decide⟩
  have e10 : fI (F m) 10 = v10 := by rw [he]; rfl
  have e35 : fR (F m) 35 = r35 := by rw [he]; rfl
  refine G_aload_n 2 dr_cX17_text_71 rfl ?_
  refine G_iconst 0 dr_cX17_text_72 (by decide +kernel) ?_
  refine Gp_put 32 mm he dr_cX17_text_73 (gk_X17 D I) (Nat.le_of_ble_eq_true rfl) wr_7_106 rfl rfl rfl (Nat.le_of_ble_eq_true rfl) (fun F1 e1 n1 => ?_)
  have e1' : F1 m = mdE γ r28 r35 v9 v10 v11 v12 v13 v14 v23 v24 v25 v26 v27 v30 0 v33 v34 := e1
  have hT1 := RS_md hT hm n1 e1' ⟨q9, q10, q11, q14, q25, q26, q27, z0, q34⟩ hK hM2
  have hk1 := rSk_put hk hT1 n1 (show rKd γ m 10 from hm) (by decide) txKF
  have k0 : 0 ≤ pl.toInt → G (gV D I) l (gRm 13 340 mc ms) (gMA (gV D I) (txP D I P0 F0 γ0 el0 m) gNA mc ms) ky_txt 86 [(1, .int pl), (2, .ref z), (0, .ref m)] [.int 0, .ref m] (va_pl P F1) cs sl := fun hpl => by
    refine Gp_put 9 mm e1' dr_cX17_text_86 (gk_X17 D I) (Nat.le_of_ble_eq_true rfl) wr_7_83 rfl rfl rfl (Nat.le_of_ble_eq_true rfl) (fun F2 e2 n2 => ?_)
    have e2' : F2 m = mdE γ r28 r35 0 v10 v11 v12 v13 v14 v23 v24 v25 v26 v27 v30 0 v33 v34 := e2
    have hT2 := RS_md hT1 hm n2 e2' ⟨⟨by decide, by decide⟩, q10, q11, q14, q25, q26, q27, z0, q34⟩ hK ⟨Or.inl (by decide), hM2.2.1, hM2.2.2⟩
    have hk2 := rSk_put hk1 hT2 n2 (show rKd γ m 10 from hm) (by decide) txKF
    refine G_aload_n 2 dr_cX17_text_89 rfl ?_
    refine Gp_get 9 mm e2' dr_cX17_text_90 (gk_X17 D I) (Nat.le_of_ble_eq_true rfl) wr_7_83 rfl ?_
    refine G_if_eq 101 dr_cX17_text_93 (by decide +kernel) (fun _ => ?_) (fun hc => absurd rfl hc)
    refine G_iload_n 0 dr_cX17_text_101 rfl ?_
    exact G_iretA dr_cX17_text_102 rfl hcs hsl ⟨P, F2, γ, el, pl, rfl, rfl, hk2, h7, Or.inl (by rw [e2']; rfl), Or.inr (by rw [e2', ← h10, e10]; rfl), by rw [e2']; rfl, c1, c2, c3, by rw [e2', ← h35, e35]; rfl, ft, hft, hft2, Or.inr ⟨by rw [e2']; rfl, hQ.2 hpl⟩, by rw [← hO, e2', he]; rfl, Or.inl ⟨by rw [e2']; rfl, by rw [e2', ← h10, e10]; rfl⟩⟩
  have k1 : pl.toInt < 0 → G (gV D I) l (gRm 13 340 mc ms) (gMA (gV D I) (txP D I P0 F0 γ0 el0 m) gNA mc ms) ky_txt 86 [(1, .int pl), (2, .ref z), (0, .ref m)] [.int 1, .ref m] (va_pl P F1) cs sl := fun hpl => by
    have hvv := hv hpl
    obtain ⟨qQ, q1, q2⟩ := hQ.1 hpl
    refine Gp_put 9 mm e1' dr_cX17_text_86 (gk_X17 D I) (Nat.le_of_ble_eq_true rfl) wr_7_83 rfl rfl rfl (Nat.le_of_ble_eq_true rfl) (fun F2 e2 n2 => ?_)
    have e2' : F2 m = mdE γ r28 r35 1 v10 v11 v12 v13 v14 v23 v24 v25 v26 v27 v30 0 v33 v34 := e2
    have hT2 := RS_md hT1 hm n2 e2' ⟨⟨by decide, by decide⟩, q10, q11, q14, q25, q26, q27, z0, q34⟩ hK ⟨Or.inr (Or.inl hvv.1), hM2.2.1, hM2.2.2⟩
    have hk2 := rSk_put hk1 hT2 n2 (show rKd γ m 10 from hm) (by decide) txKF
    refine G_aload_n 2 dr_cX17_text_89 rfl ?_
    refine Gp_get 9 mm e2' dr_cX17_text_90 (gk_X17 D I) (Nat.le_of_ble_eq_true rfl) wr_7_83 rfl ?_
    refine G_if_eq 101 dr_cX17_text_93 (by decide +kernel) (fun hc => absurd hc (by decide)) (fun _ => ?_)
    refine G_aload_n 2 dr_cX17_text_96 rfl ?_
    refine G_iconst 0 dr_cX17_text_97 (by decide +kernel) ?_
    refine Gp_put 10 mm e2' dr_cX17_text_98 (gk_X17 D I) (Nat.le_of_ble_eq_true rfl) wr_7_84 rfl rfl rfl (Nat.le_of_ble_eq_true rfl) (fun F3 e3 n3 => ?_)
    have e3' : F3 m = mdE γ r28 r35 1 0 v11 v12 v13 v14 v23 v24 v25 v26 v27 v30 0 v33 v34 := e3
    have hT3 := RS_md hT2 hm n3 e3' ⟨⟨by decide, by decide⟩, ⟨by decide, by decide⟩, q11, q14, q25, q26, q27, z0, q34⟩ hK ⟨Or.inr (Or.inl hvv.1), Or.inl (by decide), hM2.2.2⟩
    have hk3 := rSk_put hk2 hT3 n3 (show rKd γ m 10 from hm) (by decide) txKF
    refine G_iload_n 0 dr_cX17_text_101 rfl ?_
    exact G_iretA dr_cX17_text_102 rfl hcs hsl ⟨P, F3, γ, el, pl, rfl, rfl, hk3, h7, Or.inr hvv, Or.inl (by rw [e3']; rfl), by rw [e3']; rfl, c1, c2, c3, by rw [e3', ← h35, e35]; rfl, ft, hft, hft2, Or.inl ⟨by rw [e3']; rfl, qQ, q1, rfP_ow hT q2 c9 cf hvv.1 (W := [m]) (fun b _ hb => (n3 b (fun e => hb (e ▸ List.mem_cons_self))).trans ((n2 b (fun e => hb (e ▸ List.mem_cons_self))).trans (n1 b (fun e => hb (e ▸ List.mem_cons_self))))) (wm_c (by rw [hm]; decide) wm_n)⟩, by rw [← hO, e3', he]; rfl, Or.inr ⟨by rw [e3']; rfl, by rw [e3']; rfl⟩⟩
  refine G_aload_n 2 dr_cX17_text_76 rfl ?_
  refine G_iload_n 0 dr_cX17_text_77 rfl ?_
  refine G_if_ge 85 dr_cX17_text_78 (by decide +kernel) (fun hc => ?_) (fun hc => ?_)
  · exact G_iconst 0 dr_cX17_text_85 (by decide +kernel) (k0 (gj_le hc rfl))
  · refine G_iconst 1 dr_cX17_text_81 (by decide +kernel) ?_
    exact G_goto 86 dr_cX17_text_82 (by decide +kernel) (k1 (gj_nle hc rfl))
set_option maxRecDepth 100000 in
set_option maxHeartbeats 4000000 in
theorem cp_text (l : Launch) (hl0 : l.stackTraces = false) (D : va_G) (I : FieldType → ClassId) {P : List Nat} {F : Nat → va_E} {γ el : Nat → Nat → Nat} {m M mc ms : Nat} (hT : RS D I P F γ el) (hm : γ 0 m = 10)
    (hM : (rM γ el 0 : Int) + 41 * (fI (F m) 32).toInt + 600 ≤ M) (hM9 : M ≤ 2000000) (hMC : (M : Int) + 360 * (fI (F m) 32).toInt + 1200 ≤ 18 * (mc : Int) + (rPh γ el 0 : Int)) (hMS : (M : Int) + 232 * (fI (F m) 32).toInt + 1400 ≤ (ms : Int) + (rPh γ el 0 : Int)) :
    CtWA (gV D I) l yX17_text cX17_text 3 (some FieldType.int) [(12, 57, 60, 409)] 13 340 mc ms [.ref m] (va_pl P F) (txP D I P F γ el m) gNA := by
  refine CtWA_of hl0 (by decide) (Nat.le_of_ble_eq_true rfl) ?_
  obtain ⟨r28, r35, v9, v10, v11, v12, v13, v14, v23, v24, v25, v26, v27, v30, v32, v33, v34, he, hM1, hK, hM2⟩ := rk10_m (show rk_10 γ (F m) from RS_o hT hm)
  have hM1' := hM1
  obtain ⟨q9, q10, q11, q14, q25, q26, q27, q32, q34⟩ := hM1
  have mm : m ∈ P := hT.1 m (by omega)
  have e32 : fI (F m) 32 = v32 := by rw [he]; rfl
  have e10 : fI (F m) 10 = v10 := by rw [he]; rfl
  have e35 : fR (F m) 35 = r35 := by rw [he]; rfl
  have c9 : γ 0 (γ 9 6) = 9 := hK.2.2.2.2.2.2.2.2.1
  have cf : γ 1 (γ 9 6) = 0 := hK.2.2.2.2.2.2.2.2.2.2.2.2.2.2.2.2.2.2.2.2.2.1
  have t25 : γ 0 (γ 9 31) = 99 := hK.2.2.2.2.2.2.2.2.2.2.2.2.2.2.2.2.2.2.2.2.1
  obtain ⟨sz1, -⟩ := rsz hT c9 cf
  have sz1' : (rPh γ el 0 : Int) + 100 ≤ (rM γ el 0 : Int) := by clear hMC hMS hM; omega
  have n0 : 0 ≤ v32.toInt := q32.1
  have big1 : 100 ≤ mc := by rw [e32] at hMC hM; clear hMS; omega
  have big2 : 100 ≤ ms := by rw [e32] at hMS hM; clear hMC; omega
  refine G_aload_n 0 dr_cX17_text_0 rfl ?_
  refine G_iconst 0 dr_cX17_text_1 (by decide +kernel) ?_
  refine Gp_put 30 mm he dr_cX17_text_2 (gk_X17 D I) (Nat.le_of_ble_eq_true rfl) wr_7_104 rfl rfl rfl (Nat.le_of_ble_eq_true rfl) (fun F1 e1 n1 => ?_)
  have e1' : F1 m = mdE γ r28 r35 v9 v10 v11 v12 v13 v14 v23 v24 v25 v26 v27 0 v32 v33 v34 := e1
  have hT1 := RS_md hT hm n1 e1' hM1' hK hM2
  have hk1 := rSk_put (rSk_rf (f := 0) (K := pgK) (KF := 10 :: pgF) hT) hT1 n1 (show rKd γ m 10 from hm) (by decide) txKF
  refine G_iconst (-1) dr_cX17_text_5 (by decide +kernel) ?_
  refine G_istore_n (L' := [(1, .int (-1)), (0, .ref m)]) dr_cX17_text_6 (Nat.le_of_ble_eq_true rfl) rfl ?_
  refine G_aload_n 1 dr_cX17_text_7 rfl ?_
  refine G_iconst 0 dr_cX17_text_8 (by decide +kernel) ?_
  refine Gp_put 33 mm e1' dr_cX17_text_9 (gk_X17 D I) (Nat.le_of_ble_eq_true rfl) wr_7_107 rfl rfl rfl (Nat.le_of_ble_eq_true rfl) (fun F2 e2 n2 => ?_)
  have e2' : F2 m = mdE γ r28 r35 v9 v10 v11 v12 v13 v14 v23 v24 v25 v26 v27 0 v32 0 v34 := e2
  have hT2 := RS_md hT1 hm n2 e2' hM1' hK hM2
  have hk2 := rSk_put hk1 hT2 n2 (show rKd γ m 10 from hm) (by decide) txKF
  refine G_new [.null, .int 0, .int 0, .int 0, .int 0, .int 0, .int 0, .null, .int 0, .int 0, .int 0, .null, .null, .int 0] dr_cX17_text_12 (gk_X14 D I) wr_7_208 wr_7_209 wr_1_32 (gfs_X14) (show 0 + 1 ≤ mc by omega) (show 0 + 14 ≤ ms by omega) (fun R => Gp_in (fun P3 F3 hq hP e3 n3 => ?_))
  have hs3 : rSub P P3 := rSub_new (rSub_rf (P := P)) hP
  have R0 : γ 0 R = 0 := RS_new hT hq
  have mR3 : R ∈ P3 := (hP R).mpr (Or.inr rfl)
  have hfr3 : rFr [R] P F2 F3 := fun b _ hb => n3 b (fun e => hb (e ▸ List.mem_cons_self))
  have hk3 := rSk_ow hk2 hs3 hfr3 (wm_c (Or.inl R0) wm_n) (wm_c (Or.inl R0) wm_n) txKF
  have hmR : m ≠ R := fun e => by rw [e, R0] at hm; cases hm
  have e3m : F3 m = mdE γ r28 r35 v9 v10 v11 v12 v13 v14 v23 v24 v25 v26 v27 0 v32 0 v34 := (n3 m hmR).trans e2'
  have mm3 := hs3 m mm
  obtain ⟨ft, f1, f2⟩ := show rk_99 I (F3 (γ 9 31)) from RS_o hk3.1 t25
  refine G_dup dr_cX17_text_15 rfl ?_
  refine G_aload_n 1 dr_cX17_text_16 rfl ?_
  refine Gp_get 31 mm3 e3m dr_cX17_text_17 (gk_X17 D I) (Nat.le_of_ble_eq_true rfl) wr_7_105 rfl ?_
  refine G_aload_n 1 dr_cX17_text_20 rfl ?_
  refine Gp_get 32 mm3 e3m dr_cX17_text_21 (gk_X17 D I) (Nat.le_of_ble_eq_true rfl) wr_7_106 rfl ?_
  rw [e32] at hM hMC hMS
  refine Gw_callI (As := [.ref (γ 9 31), .int v32]) (gV_ok D I) (cp_677081_Reader_init l hl0 D I P3 F3 R (γ 9 31) v32 ft mR3 (hk3.1.1 _ (by rw [t25]; decide)) e3 f1 q32 f2) dr_cX17_text_24 ⟨wr_7_210, wr_1_32, wr_7_212, by decide, rfl, (Nat.le_of_ble_eq_true rfl), (Nat.le_of_ble_eq_true rfl)⟩ wr_7_211 rfl (show _ ≤ mc by clear hMS; omega) (show _ ≤ ms by clear hMC; omega) (Nat.le_of_ble_eq_true rfl) (fun r w dc1 ds1 hp => ?_)
  obtain ⟨P4, F4, a, k, pl, v, tx, gp, g, xt, rfl, rfl, hs4, hfr4, eg1, eg2, eR, eT4, mgp, ngp, mg, ng, hdc, hds, ba, bk, bpl, h0a, han, -, htP, hvP, hne, -, -, hglp, -, -, -, htr⟩ := hp
  change G _ _ _ _ _ _ _ [.ref R] _ _ _
  refine G_widen (cs' := dc1 + 1) (sl' := ds1 + 14) (by omega) (by omega) ?_
  have hk4 := rSk_ow hk3 hs4 hfr4 (wm_c (Or.inl R0) wm_n) (wm_c (Or.inl R0) wm_n) txKF
  have e4m : F4 m = mdE γ r28 r35 v9 v10 v11 v12 v13 v14 v23 v24 v25 v26 v27 0 v32 0 v34 := (hfr4 m mm3 (nm_c hmR nm_n)).trans e3m
  have mm4 := hs4 m mm3
  have mR4 := hs4 R mR3
  have hd : rdI I P4 F4 γ R (γ 9 31) g gp (tx, xt) v32 a k pl v 0 (-1) 0 0 0 16 (fun _ => 0) (fun _ => 0) := ⟨⟨mR4, eR, R0⟩, ⟨mg, eg2, RS_new hk3.1 ng⟩, ⟨mgp, eg1, RS_new hk3.1 ngp⟩, ⟨t25, hne⟩, ⟨q32, ba, bk, bpl, ⟨by decide, by decide⟩, ⟨by decide, by decide⟩, ⟨by decide, by decide⟩, ⟨by decide, by decide⟩, ⟨by decide, by decide⟩⟩, ⟨han, htP, hvP, hglp⟩, ⟨by decide, by decide, by decide, h0a, h0a⟩⟩
  have hr0 := rdT_0 f2 q32.1 q32.2 htr
  have hft0 : F (γ 9 31) = .inl (I .byte, 8192, .inl ft) := by
    rw [← f1]
    exact ((n3 _ (fun e => by rw [e, R0] at t25; cases t25)).trans ((n2 _ (fun e => by rw [e, hm] at t25; cases t25)).trans (n1 _ (fun e => by rw [e, hm] at t25; cases t25)))).symm
  have u1 : ((dc1 + 1 : Nat) : Int) ≤ 16 * a.toInt + 3 := by clear hMC hMS hM hd; omega
  have u2 : ((ds1 + 14 : Nat) : Int) ≤ 160 * a.toInt + 46 := by clear hMC hMS hM hd; omega
  obtain ⟨A1, A2, A3, A4, A5⟩ := txA hM hMC hMS h0a han u1 u2 sz1'
  have hcm : dc1 + 1 ≤ mc := Int.ofNat_le.mp A4
  have hsm : ds1 + 14 ≤ ms := Int.ofNat_le.mp A5
  have emc : ((mc - (dc1 + 1) : Nat) : Int) = (mc : Int) - ((dc1 + 1 : Nat) : Int) := Int.ofNat_sub hcm
  have ems : ((ms - (ds1 + 14) : Nat) : Int) = (ms : Int) - ((ds1 + 14 : Nat) : Int) := Int.ofNat_sub hsm
  refine G_astore_n (L' := [(2, .ref R), (1, .int (-1)), (0, .ref m)]) dr_cX17_text_27 (Nat.le_of_ble_eq_true rfl) rfl ?_
  refine G_aload_n 0 dr_cX17_text_28 rfl ?_
  refine G_aload_n 2 dr_cX17_text_29 rfl ?_
  refine Gp_get 6 mm4 e4m dr_cX17_text_30 (gk_X17 D I) (Nat.le_of_ble_eq_true rfl) wr_7_80 rfl ?_
  refine Gw_callV (As := [.ref (γ 9 6)]) (gV_ok D I) (cp_rdp l hl0 D I (f := 0) (c := γ 9 6) (M := M) (mc := mc - (dc1 + 1)) (ms := ms - (ds1 + 14)) eT4 f2 hr0 (by decide) hk4.1 hd c9 cf (by decide) (by decide) A1 hM9 (by rw [emc]; exact A2) (by rw [ems]; exact A3)) dr_cX17_text_33 ⟨wr_9_81, wr_1_32, wr_9_84, by decide, rfl, (Nat.le_of_ble_eq_true rfl), (Nat.le_of_ble_eq_true rfl)⟩ wr_9_82 wr_9_83 mR4 eR rfl (show dc1 + 1 + (mc - (dc1 + 1)) ≤ mc from Nat.le_of_eq (Nat.add_sub_cancel' hcm)) (show ds1 + 14 + (ms - (ds1 + 14)) ≤ ms from Nat.le_of_eq (Nat.add_sub_cancel' hsm)) (Nat.le_of_ble_eq_true rfl) (fun r w dc ds hp => ?_) (fun E q w dc ds hx => ?_)
  · obtain ⟨P5, F5, γ5, el5, w0, w1, w2, w3, w4, w5, w6, w7, w10, w11, w12, w13, rp, ru, rfl, rfl, hk5, ⟨mR5, eR5, brp, bru⟩, h7, hv, e1, e2, e3, hoq⟩ := hp
    have hkk := rSk_tr hk4 hk5 (by decide) (by decide) txKF
    have m5 : γ5 0 m = 10 := rSk_k hk5 (show rKd γ m 10 from hm) (by decide) (by decide)
    have F5m : F5 m = F4 m := rSk_F hk5 (show rKd γ m 10 from hm) (by decide) (by decide)
    have c95 : γ5 0 (γ 9 6) = 9 := rSk_k hk5 (show rKd γ (γ 9 6) 9 from c9) (by decide) (by decide)
    obtain ⟨sy1, -⟩ := rsz hk5.1 c95 (rSk_1 hk5 (show rKd γ (γ 9 6) 9 from c9) (by decide) cf)
    have sy1' : (rPh γ5 el5 0 : Int) + 100 ≤ (rM γ5 el5 0 : Int) := by clear hMC hMS hM hd hkk hk5 A1 A2 A3 A4 A5 e1 e2 e3; omega
    have e1'' : 18 * (dc : Int) + (rPh γ el 0 : Int) ≤ (rPh γ5 el5 0 : Int) + 360 * (v32.toInt - a.toInt) + 900 := by clear hMC hMS hM hd hkk hk5 A1 A2 A3 A4 A5 e2 e3; omega
    obtain ⟨B1, B2, B3, B4, B5⟩ := txB hM hMC hMS h0a han u1 u2 e1'' e2 e3 sy1'
    have mm5 := hk5.2.1 m mm4
    have e5m : F5 m = .inr (22, [.ref (γ 9 0), .ref (γ 9 1), .ref (γ 9 2), .ref (γ 9 3), .ref (γ 9 4), .ref (γ 9 5), .ref (γ 9 6), .ref (γ 9 7), .ref (γ 9 8), .int v9, .int v10, .int v11, .int v12, .int v13, .int v14, .ref (γ 9 15), .ref (γ 9 16), .ref (γ 9 17), .ref (γ 9 18), .ref (γ 9 19), .ref (γ 9 20), .ref (γ 9 21), .ref (γ 9 22), .int v23, .int v24, .int v25, .int v26, .int v27, .ref r28, .ref (γ 9 29), .int 0, .ref (γ 9 31), .int v32, .int 0, .int v34, .ref r35]) := F5m.trans e4m
    have k54 : ∀ x : Int32, G (gV D I) l (gRm 13 340 mc ms) (gMA (gV D I) (txP D I P F γ el m) gNA mc ms) ky_txt 54 [(1, .int rp), (2, .ref R), (0, .ref m)] [.int x, .ref m] (va_pl P5 F5) (dc1 + 1 + dc) (ds1 + 14 + ds) := fun x => by
      obtain ⟨s28, s35, x9, x10, x11, x12, x13, x14, x23, x24, x25, x26, x27, x30, x32, x33, x34, he5, hM15, hK5, hM25⟩ := rk10_m (show rk_10 γ5 (F5 m) from RS_o hk5.1 m5)
      refine Gp_put 33 mm5 he5 dr_cX17_text_54 (gk_X17 D I) (Nat.le_of_ble_eq_true rfl) wr_7_107 rfl rfl rfl (Nat.le_of_ble_eq_true rfl) (fun F6 e6 n6 => ?_)
      have e6' : F6 m = mdE γ5 s28 s35 x9 x10 x11 x12 x13 x14 x23 x24 x25 x26 x27 x30 x32 x x34 := e6
      have hT6 := RS_md hk5.1 m5 n6 e6' hM15 hK5 hM25
      have hk6 := rSk_put hkk hT6 n6 (show rKd γ5 m 10 from m5) (by decide) txKF
      refine G_goto 71 dr_cX17_text_57 (by decide +kernel) ?_
      have h10 : fI (F6 m) 10 = fI (F m) 10 := by
        have y1 : fI (F6 m) 10 = x10 := by rw [e6']; rfl
        have y2 : fI (F5 m) 10 = x10 := by rw [he5]; rfl
        rw [y1, ← y2, e5m, e10]
        rfl
      have h35 : fR (F6 m) 35 = fR (F m) 35 := by
        have y1 : fR (F6 m) 35 = s35 := by rw [e6']; rfl
        have y2 : fR (F5 m) 35 = s35 := by rw [he5]; rfl
        rw [y1, ← y2, e5m, e35]
        rfl
      have hO6 : mO (F6 m) = mO (F m) := by
        have y1 : mO (F6 m) = mO (F5 m) := by rw [e6', he5]; rfl
        rw [y1, e5m, he]
        rfl
      have hoq6 : okQ γ5 el5 F6 (γ 9 6) (bA ft (fI (F m) 32).toInt) (fI (F m) 32).toInt rp := by
        rw [e32]
        exact ⟨fun z => by obtain ⟨Q, y1, y2⟩ := hoq.1 z; exact ⟨Q, y1, rfP_ow hk5.1 y2 c95 (rSk_1 hk5 (show rKd γ (γ 9 6) 9 from c9) (by decide) cf) (hv z).1 (W := [m]) (fun b _ hb => n6 b (fun e => hb (e ▸ List.mem_cons_self))) (wm_c (by rw [m5]; decide) wm_n)⟩, hoq.2⟩
      exact tx_end hl0 ((rSk_9 hk5)) c95 (rSk_1 hk5 (show rKd γ (γ 9 6) 9 from c9) (by decide) cf) hft0 f2 hoq6 hk6 m5 h7 hv h10 h35 hO6 (Int.ofNat_le.mp B1) (Int.ofNat_le.mp B2) (by rw [e32]; exact B3) (by rw [e32]; exact B4) (by rw [e32]; exact B5)
    refine G_aload_n 0 dr_cX17_text_36 rfl ?_
    refine Gp_get 8 mR5 eR5 dr_cX17_text_37 (gk_X14 D I) (Nat.le_of_ble_eq_true rfl) wr_9_45 rfl ?_
    refine G_istore_n (L' := [(1, .int rp), (2, .ref R), (0, .ref m)]) dr_cX17_text_40 (Nat.le_of_ble_eq_true rfl) rfl ?_
    refine G_aload_n 2 dr_cX17_text_41 rfl ?_
    refine G_iload_n 0 dr_cX17_text_42 rfl ?_
    refine G_if_ge 50 dr_cX17_text_43 (by decide +kernel) (fun hc => ?_) (fun hc => ?_)
    · refine G_aload_n 1 dr_cX17_text_50 rfl ?_
      exact Gp_get 9 mR5 eR5 dr_cX17_text_51 (gk_X14 D I) (Nat.le_of_ble_eq_true rfl) wr_9_47 rfl (k54 ru)
    · refine G_iconst 0 dr_cX17_text_46 (by decide +kernel) ?_
      exact G_goto 54 dr_cX17_text_47 (by decide +kernel) (k54 0)
  · obtain ⟨P5, F5, γ5, el5, rfl, rfl, hk5, h7, hq5, ⟨y0, y1, y2, y3, y4, d5, z5, ez, hz⟩, e1, e2, e3, hrj⟩ := hx
    have hkk := rSk_tr hk4 hk5 (by decide) (by decide) txKF
    have m5 : γ5 0 m = 10 := rSk_k hk5 (show rKd γ m 10 from hm) (by decide) (by decide)
    have F5m : F5 m = F4 m := rSk_F hk5 (show rKd γ m 10 from hm) (by decide) (by decide)
    have c95 : γ5 0 (γ 9 6) = 9 := rSk_k hk5 (show rKd γ (γ 9 6) 9 from c9) (by decide) (by decide)
    obtain ⟨sy1, -⟩ := rsz hk5.1 c95 (rSk_1 hk5 (show rKd γ (γ 9 6) 9 from c9) (by decide) cf)
    have sy1' : (rPh γ5 el5 0 : Int) + 100 ≤ (rM γ5 el5 0 : Int) := by clear hMC hMS hM hd hkk hk5 A1 A2 A3 A4 A5 e1 e2 e3; omega
    obtain ⟨B1, B2, B3, B4, B5⟩ := txB hM hMC hMS h0a han u1 u2 e1 e2 e3 sy1'
    have mm5 := hk5.2.1 m mm4
    refine GT_catch (pre := []) (suf := []) (x := ⟨12, 57, 60, 409⟩) rfl rfl (by decide) wr_7_207 (fun _ _ _ hE => ⟨gn_w 77 rfl hE, fun z hz => nomatch hz⟩) ?_
    refine G_astore_n (L' := [(2, .ref q), (1, .int (-1)), (0, .ref m)]) dr_cX17_text_60 (Nat.le_of_ble_eq_true rfl) rfl ?_
    refine G_aload_n 0 dr_cX17_text_61 rfl ?_
    refine Gp_get 6 hq5 ez dr_cX17_text_62 (gk_X16 D I) (Nat.le_of_ble_eq_true rfl) wr_9_123 rfl ?_
    refine G_istore_n (L' := [(1, .int z5), (2, .ref q), (0, .ref m)]) dr_cX17_text_65 (Nat.le_of_ble_eq_true rfl) rfl ?_
    refine G_aload_n 2 dr_cX17_text_66 rfl ?_
    refine G_iconst 1 dr_cX17_text_67 (by decide +kernel) ?_
    obtain ⟨s28, s35, x9, x10, x11, x12, x13, x14, x23, x24, x25, x26, x27, x30, x32, x33, x34, he5, hM15, hK5, hM25⟩ := rk10_m (show rk_10 γ5 (F5 m) from RS_o hk5.1 m5)
    refine Gp_put 33 mm5 he5 dr_cX17_text_68 (gk_X17 D I) (Nat.le_of_ble_eq_true rfl) wr_7_107 rfl rfl rfl (Nat.le_of_ble_eq_true rfl) (fun F6 e6 n6 => ?_)
    have e6' : F6 m = mdE γ5 s28 s35 x9 x10 x11 x12 x13 x14 x23 x24 x25 x26 x27 x30 x32 1 x34 := e6
    have hT6 := RS_md hk5.1 m5 n6 e6' hM15 hK5 hM25
    have hk6 := rSk_put hkk hT6 n6 (show rKd γ5 m 10 from m5) (by decide) txKF
    have h10 : fI (F6 m) 10 = fI (F m) 10 := by
      have y1 : fI (F6 m) 10 = x10 := by rw [e6']; rfl
      have y2 : fI (F5 m) 10 = x10 := by rw [he5]; rfl
      rw [y1, ← y2, F5m, e4m, e10]
      rfl
    have h35 : fR (F6 m) 35 = fR (F m) 35 := by
      have y1 : fR (F6 m) 35 = s35 := by rw [e6']; rfl
      have y2 : fR (F5 m) 35 = s35 := by rw [he5]; rfl
      rw [y1, ← y2, F5m, e4m, e35]
      rfl
    have hO6 : mO (F6 m) = mO (F m) := by
      have y1 : mO (F6 m) = mO (F5 m) := by rw [e6', he5]; rfl
      rw [y1, F5m, e4m, he]
      rfl
    exact tx_end hl0 (rSk_9 hk5) c95 (rSk_1 hk5 (show rKd γ (γ 9 6) 9 from c9) (by decide) cf) hft0 f2 (by rw [e32]; exact ⟨fun h => absurd hz (Int.not_le.mpr h), fun _ => rjt_no hrj⟩) hk6 m5 h7 (fun h => absurd hz (Int.not_le.mpr h)) h10 h35 hO6 (Int.ofNat_le.mp B1) (Int.ofNat_le.mp B2) (by rw [e32]; exact B3) (by rw [e32]; exact B4) (by rw [e32]; exact B5)
end
section
/-! a new array of the model: input -/
section INW
variable {D : va_G} {I : FieldType → ClassId} {P P1 : List Nat} {F F1 : Nat → va_E} {γ el : Nat → Nat → Nat} {A k f r28 r35 : Nat} {K KF : List Nat}
theorem rSk_nw (hT : RS D I P F γ el) (ha : A ∉ P) (hs : rSub P P1) (haP : A ∈ P1) (n : ∀ b, b ≠ A → F1 b = F b) (hfit : rFit D I (gNw γ A k) el F1 A k) : rSk f K KF D I P F γ el P1 F1 (gNw γ A k) el := by
  have h0 : γ 0 A = 0 := RS_new hT ha
  have ne : ∀ b, γ 0 b ≠ 0 → b ≠ A := fun b h e => h (by rw [e]; exact h0)
  have ej : ∀ j, j ≠ 0 → ∀ b, gNw γ A k j b = γ j b := fun j h b => congrFun (gNw_j h) b
  exact ⟨RS_nw hT ha hs haP (fun b h => n b (ne b h)) hfit, hs, ⟨fun a h _ => gNw_ne (ne a h), fun a h => ⟨by rw [gNw_ne (ne a h)]; exact h, ej 1 (by decide) a, ej 14 (by decide) a, ej 15 (by decide) a, ej 8 (by decide) a, ej 20 (by decide) a, ej 22 (by decide) a⟩, fun a _ _ => ⟨ej 2 (by decide) a, ej 13 (by decide) a, ej 17 (by decide) a, rfl⟩, ⟨gNw_j (by decide), gNw_j (by decide), gNw_j (by decide), gNw_j (by decide), gNw_j (by decide)⟩, fun g _ => ⟨ej 6 (by decide) g, ej 7 (by decide) g, ej 16 (by decide) g, ej 18 (by decide) g, ej 19 (by decide) g, ej 23 (by decide) g⟩⟩, fun a h _ => n a (ne a h)⟩
theorem mdK_nw (h0 : γ 0 A = 0) (h : mdK γ r28 r35) : mdK (gNw γ A 98) A r35 := by
  have e : ∀ b k, k ≠ 0 → rKd γ b k → rKd (gNw γ A 98) b k := fun b k hk h => by
    have h' : γ 0 b = k := h
    have hb : b ≠ A := fun z => by rw [z, h0] at h'; omega
    exact (gNw_ne hb).trans h'
  have e9 : gNw γ A 98 9 = γ 9 := gNw_j (by decide)
  have e1 : ∀ b, gNw γ A 98 1 b = γ 1 b := fun b => congrFun (gNw_j (by decide)) b
  obtain ⟨h1, h2, h3, h4, h5, h6, h7, h8, h9, h10, h11, h12, h13, h14, h15, h16, h17, h18, h19, h20, h21, h22, h23, h24⟩ := h
  unfold mdK rF1
  rw [e9]
  exact ⟨if_pos ⟨rfl, rfl⟩, e _ _ (by decide) h2, e _ _ (by decide) h3, e _ _ (by decide) h4, e _ _ (by decide) h5, e _ _ (by decide) h6, e _ _ (by decide) h7, e _ _ (by decide) h8, e _ _ (by decide) h9, e _ _ (by decide) h10, e _ _ (by decide) h11, e _ _ (by decide) h12, e _ _ (by decide) h13, e _ _ (by decide) h14, e _ _ (by decide) h15, e _ _ (by decide) h16, e _ _ (by decide) h17, e _ _ (by decide) h18, e _ _ (by decide) h19, e _ _ (by decide) h20, e _ _ (by decide) h21, (e1 _).trans h22, (e1 _).trans h23, (e1 _).trans h24⟩
end INW
def inP (D : va_G) (I : FieldType → ClassId) (P : List Nat) (F : Nat → va_E) (γ el : Nat → Nat → Nat) (m : Nat) : Option Value → va_W → Nat → Nat → Prop := fun r w dc ds => ∃ (P1 : List Nat) (F1 : Nat → va_E) (γ1 : Nat → Nat → Nat) (x : Int32),
  r = some (.int x) ∧ w = va_pl P1 F1 ∧ rSk 0 [] [10, 98] D I P F γ el P1 F1 γ1 el ∧ (∀ j, j ≠ 0 → γ1 j = γ j) ∧ fI (F1 m) 9 = fI (F m) 9 ∧ fI (F1 m) 10 = fI (F m) 10 ∧ (fI (F1 m) 32).toInt = 0 ∧ dc ≤ 1 ∧ 4 * (ds : Int) ≤ (fI (F m) 32).toInt ∧ fR (F1 m) 35 = fR (F m) 35 ∧ x.toInt = (fI (F m) 32).toInt / 4 ∧ (mO (F1 m)).2 = (mO (F m)).2 ∧ fI (F1 m) 34 = fI (F m) 34 ∧ ∃ ft, F (γ 9 31) = .inl (I .byte, 8192, .inl ft) ∧ ∃ p, F1 (fR (F1 m) 28) = .inl (I .int, ((fI (F m) 32).toInt / 4).toNat, .inl p) ∧ ∀ q, q < ((fI (F m) 32).toInt / 4).toNat → p q = i4 ft q 4
end
section
/-! a program of the reference without the numbers of its operands -/
def rwF (l : Nat → Int) (op t a b rA rB s : Int32) : Prop := (l 0 ≤ 13 → op.toInt = l 0 + 1 ∧ t.toInt = l 1 ∧ opdE (l 2) (l 3) a rA ∧ opdE (l 4) (l 5) b rB) ∧ (l 0 = 14 → op.toInt = 0 ∧ t.toInt = l 1 ∧ opdE (l 2) (l 3) a rA) ∧ (l 0 = 15 → op.toInt = 20 ∧ t.toInt = l 1) ∧ (l 0 = 16 → op.toInt = 22 ∧ opdE (l 2) (l 3) a rA) ∧ (l 0 = 17 → op.toInt = 21 ∧ t.toInt = l 1 ∧ s.toInt = l 5) ∧ (l 0 = 18 → op.toInt = 23 ∧ opdE (l 2) (l 3) a rA ∧ s.toInt = l 5)
def rwO2 (l : Nat → Int) : Prop := (0 ≤ l 0 ∧ l 0 ≤ 18) ∧ (-1 ≤ l 2 ∧ l 2 ≤ 1999) ∧ (-1 ≤ l 4 ∧ l 4 ≤ 1999) ∧ (l 0 ≤ 15 ∨ l 0 = 17 → 0 ≤ l 1 ∧ l 1 ≤ 1999) ∧ (l 0 = 16 ∨ l 0 = 18 → l 1 = -1) ∧ (l 0 = 15 ∨ l 0 = 17 → l 2 = -1) ∧ (14 ≤ l 0 → l 4 = -1)
def edO2 (l : Nat → Int) : Prop := l 1 = -1 ∧ (-1 ≤ l 2 ∧ l 2 ≤ 1999) ∧ l 4 = -1 ∧ (l 0 = 19 → l 2 = -1)
def blC2 (n : Nat) (l : Nat → Nat → Int) (g : Nat → Int) : Prop := 0 < n ∧ (∀ j, j + 1 < n → rwO2 (l j)) ∧ edO2 (l (n - 1)) ∧ edG (l (n - 1) 0) (g 0) (g 1)
theorem rwO_2 {l : Nat → Int} (h : rwO l) : rwO2 l := by
  obtain ⟨o1, o2, o3, o4, o5, o6, o7⟩ := h
  exact ⟨by omega, by omega, by omega, fun z => by have := o4 (by omega); omega, fun z => o5 (by omega), fun z => o6 (by omega), o7⟩
theorem blC_2 {n : Nat} {l : Nat → Nat → Int} {g : Nat → Int} (h : blC n l g) : blC2 n l g := by
  obtain ⟨h0, h1, ⟨a1, a2, a3, a4⟩, h3⟩ := h
  exact ⟨h0, fun j hj => rwO_2 (h1 j hj), ⟨a1, by omega, a3, a4⟩, h3⟩
theorem rwE_w {l : Nat → Int} {op t a b rA rB s : Int32} (hO : rwO l) (h : rwE l op t a b rA rB) : rwF l op t a b rA rB s := by
  obtain ⟨h1, h2, h3, h4⟩ := h
  have o := hO.1
  exact ⟨h1, h2, h3, h4, fun z => by omega, fun z => by omega⟩
def rfRw (γ el : Nat → Nat → Nat) (F : Nat → va_E) (l : Nat) (L : Nat → Nat → Int) (m : Nat) : Prop := γ 2 l = m ∧ ∀ k, k < m → rwF (L k) (fI (F (el l k)) 0) (fI (F (el l k)) 1) (fI (F (el l k)) 2) (fI (F (el l k)) 3) (fI (F (el l k)) 5) (fI (F (el l k)) 6) (fI (F (el l k)) 4)
def rfBw (γ el : Nat → Nat → Nat) (F : Nat → va_E) (B n : Nat) (L : Nat → Nat → Int) (g : Nat → Int) : Prop := 0 < n ∧ rfRw γ el F (γ 14 B) L (n - 1) ∧ edE (L (n - 1)) g (fI (F (γ 15 B)) 0) (fI (F (γ 15 B)) 2) (fI (F (γ 15 B)) 5) (fI (F B) 2) (fI (F B) 3)
def rfW (γ el : Nat → Nat → Nat) (F : Nat → va_E) (c : Nat) (Q : gPg) : Prop := (fI (F c) 3).toInt = (Q.1 : Int) ∧ True ∧ ∀ b, b < Q.1 → rfBw γ el F (el (γ 14 c) b) (Q.2.1 b) (Q.2.2.1 b) (Q.2.2.2 b)
section RFW
variable {D : va_G} {I : FieldType → ClassId} {P : List Nat} {F F1 : Nat → va_E} {γ γ1 el el1 : Nat → Nat → Nat} {B n c m l : Nat} {L : Nat → Nat → Int} {g : Nat → Int} {Q : gPg}
theorem rfP_w (hb : ∀ b, b < Q.1 → blC (Q.2.1 b) (Q.2.2.1 b) (Q.2.2.2 b)) (h : rfP γ el F c Q) : rfW γ el F c Q := ⟨h.1, trivial, fun b hb1 => ⟨(h.2.2 b hb1).1, ⟨(h.2.2 b hb1).2.1.1, fun k hk => rwE_w ((hb b hb1).2.1 k (by have := (h.2.2 b hb1).1; omega)) ((h.2.2 b hb1).2.1.2 k hk)⟩, (h.2.2 b hb1).2.2⟩⟩
theorem rfRw_c (hT : RS D I P F γ el) (hl : γ 0 l = 3) (h : rfRw γ el F l L m) (hF : ∀ x, γ 0 x = 1 ∨ γ 0 x = 2 → F1 x = F x) (e2 : γ1 2 l = γ 2 l ∧ el1 l = el l) : rfRw γ1 el1 F1 l L m := by
  have k3 := (show rk_3 D I γ el F l from RS_o hT hl).2
  obtain ⟨h1, h2⟩ := h
  refine ⟨e2.1.trans h1, fun k hk => ?_⟩
  rw [e2.2, hF _ (Or.inl (k3 k (by omega)).1)]
  exact h2 k hk
theorem rfBw_c (hT : RS D I P F γ el) (hB : γ 0 B = 2) (h : rfBw γ el F B n L g) (hF : ∀ x, γ 0 x = 1 ∨ γ 0 x = 2 → F1 x = F x) (e14 : γ1 14 B = γ 14 B) (e15 : γ1 15 B = γ 15 B) (e2 : γ1 2 (γ 14 B) = γ 2 (γ 14 B) ∧ el1 (γ 14 B) = el (γ 14 B)) : rfBw γ1 el1 F1 B n L g := by
  obtain ⟨l, nn, p, s, v1, ⟨g1, g2, g3⟩, v3, v4, v5, -⟩ := show rk_2 γ B (F B) from RS_o hT hB
  obtain ⟨h0, h1, h3⟩ := h
  refine ⟨h0, ?_, ?_⟩
  · rw [e14]
    exact rfRw_c hT (by rw [g1]; exact v3) h1 hF e2
  · rw [e15, hF _ (Or.inl (by rw [g2]; exact v5)), hF B (Or.inr hB)]
    exact h3
end RFW
end
section
/-! what the reference's rows do to sets, in the words of a program's lines -/
def qOk (Q : gPg) : Prop := glO Q ∧ ∀ b, b < Q.1 → blC2 (Q.2.1 b) (Q.2.2.1 b) (Q.2.2.2 b)
section BKL
variable {l : Nat → Int} {op t a b f s rA rB : Int32} {g : Nat → Int} {sx : Int} {S : Nat → Bool} {k n : Nat}
theorem bk_ln {sl : Int32} (hO : rwO2 l) (hE : rwF l op t a b rA rB sl) : bkV false op.toInt t.toInt a.toInt b.toInt sx rA.toInt rB.toInt S k = true ↔ usR false l k ∨ (S k = true ∧ ¬ seR false l k) := by
  obtain ⟨e1, e2, e3, e4, e5, e6⟩ := hE
  obtain ⟨o1, o2, o3, o4, o5, o6, o7⟩ := hO
  unfold opdE at e1 e2 e4 e6
  unfold bkV usR seR
  rw [if_neg (by decide), if_neg (by decide), if_neg (by decide)]
  simp only [Bool.or_eq_true, Bool.and_eq_true, decide_eq_true_eq, Bool.not_eq_true', Bool.and_eq_false_iff, decide_eq_false_iff_not]
  have h0 : l 0 ≤ 13 ∨ l 0 = 14 ∨ l 0 = 15 ∨ l 0 = 16 ∨ l 0 = 17 ∨ l 0 = 18 := by omega
  rcases h0 with h0 | h0 | h0 | h0 | h0 | h0
  · obtain ⟨p1, p2, p3, p4⟩ := e1 h0
    clear e1 e2 e3 e4 e5 e6
    by_cases hp : S k = true
    · simp only [hp, true_and]; omega
    · simp only [hp, Bool.false_eq_true, false_and, false_or, or_false]; omega
  · obtain ⟨p1, p2, p3⟩ := e2 h0
    have o8 := o7 (by omega)
    clear e1 e2 e3 e4 e5 e6
    by_cases hp : S k = true
    · simp only [hp, true_and]; omega
    · simp only [hp, Bool.false_eq_true, false_and, false_or, or_false]; omega
  · obtain ⟨p1, p2⟩ := e3 h0
    have o8 := o7 (by omega)
    have o9 := o6 (by omega)
    clear e1 e2 e3 e4 e5 e6
    by_cases hp : S k = true
    · simp only [hp, true_and]; omega
    · simp only [hp, Bool.false_eq_true, false_and, false_or, or_false]; omega
  · obtain ⟨p1, p2⟩ := e4 h0
    have o8 := o7 (by omega)
    have o9 := o5 (by omega)
    clear e1 e2 e3 e4 e5 e6
    by_cases hp : S k = true
    · simp only [hp, true_and]; omega
    · simp only [hp, Bool.false_eq_true, false_and, false_or, or_false]; omega
  · obtain ⟨p1, p2, p3⟩ := e5 h0
    have o8 := o7 (by omega)
    have o9 := o6 (by omega)
    clear e1 e2 e3 e4 e5 e6
    by_cases hp : S k = true
    · simp only [hp, true_and]; omega
    · simp only [hp, Bool.false_eq_true, false_and, false_or, or_false]; omega
  · obtain ⟨p1, p2, p3⟩ := e6 h0
    have o8 := o7 (by omega)
    have o9 := o5 (by omega)
    clear e1 e2 e3 e4 e5 e6
    by_cases hp : S k = true
    · simp only [hp, true_and]; omega
    · simp only [hp, Bool.false_eq_true, false_and, false_or, or_false]; omega
theorem bk_ed (hO : edO2 l) (hG : edG (l 0) (g 0) (g 1)) (hE : edE l g op a rA f s) : bkV false op.toInt t.toInt a.toInt b.toInt sx rA.toInt rB.toInt S k = true ↔ usR false l k ∨ (S k = true ∧ ¬ seR false l k) := by
  obtain ⟨e1, e2, e3⟩ := hE
  obtain ⟨o1, o2, o3, o4⟩ := hO
  unfold opdE at e2 e3
  unfold bkV usR seR
  rw [if_neg (by decide), if_neg (by decide), if_neg (by decide)]
  simp only [Bool.or_eq_true, Bool.and_eq_true, decide_eq_true_eq, Bool.not_eq_true', Bool.and_eq_false_iff, decide_eq_false_iff_not]
  rcases hG with ⟨h0, h1⟩ | ⟨h0, h1⟩ | ⟨h0, h1⟩
  · obtain ⟨p1, p2⟩ := e1 h0
    have o9 := o4 h0
    clear e1 e2 e3
    by_cases hp : S k = true
    · simp only [hp, true_and]; omega
    · simp only [hp, Bool.false_eq_true, false_and, false_or, or_false]; omega
  · obtain ⟨p1, p2, p3⟩ := e2 h0
    clear e1 e2 e3
    by_cases hp : S k = true
    · simp only [hp, true_and]; omega
    · simp only [hp, Bool.false_eq_true, false_and, false_or, or_false]; omega
  · obtain ⟨p1, p2⟩ := e3 h0
    clear e1 e2 e3
    by_cases hp : S k = true
    · simp only [hp, true_and]; omega
    · simp only [hp, Bool.false_eq_true, false_and, false_or, or_false]; omega
theorem bh_ed {L : Nat → Nat → Bool} (hG : edG (l 0) (g 0) (g 1)) (hE : edE l g op a rA f s) (hg : ∀ i, i < 2 → g i ≠ -1 → g i < (n : Int)) : bhV op.toInt f.toInt s.toInt L k = true ↔ ∃ i h : Nat, i < 2 ∧ g i = (h : Int) ∧ h < n ∧ L h k = true := by
  obtain ⟨e1, e2, e3⟩ := hE
  have g0 := hg 0 (by decide)
  have g1 := hg 1 (by decide)
  unfold bhV
  rcases hG with ⟨h0, h1, h2, h3⟩ | ⟨h0, h1, h2, h3, h4⟩ | ⟨h0, h1, h2⟩
  · obtain ⟨p1, p2, p3⟩ := e1 h0
    rw [if_neg (by omega), if_pos (by omega)]
    constructor
    · intro z
      exact ⟨0, f.toInt.toNat, by decide, by omega, by omega, z⟩
    · rintro ⟨i, h, q1, q2, q3, q4⟩
      have e : i = 0 := by
        rcases Nat.lt_or_ge 0 i with w | w
        · have : i = 1 := by omega
          rw [this] at q2; omega
        · omega
      rw [e] at q2
      rw [show f.toInt.toNat = h by omega]
      exact q4
  · obtain ⟨p1, p2, p3, p4⟩ := e2 h0
    rw [if_neg (by omega)]
    by_cases q : op.toInt = 30 ∨ f.toInt = s.toInt
    · rw [if_pos q]
      constructor
      · intro z
        exact ⟨0, f.toInt.toNat, by decide, by omega, by omega, z⟩
      · rintro ⟨i, h, q1, q2, q3, q4⟩
        have e : i = 0 ∨ i = 1 := by omega
        rcases e with e | e
        · rw [e] at q2
          rw [show f.toInt.toNat = h by omega]
          exact q4
        · rw [e] at q2
          rw [show f.toInt.toNat = h by omega]
          exact q4
    · rw [if_neg q, Bool.or_eq_true]
      constructor
      · rintro (z | z)
        · exact ⟨0, f.toInt.toNat, by decide, by omega, by omega, z⟩
        · exact ⟨1, s.toInt.toNat, by decide, by omega, by omega, z⟩
      · rintro ⟨i, h, q1, q2, q3, q4⟩
        have e : i = 0 ∨ i = 1 := by omega
        rcases e with e | e
        · rw [e] at q2
          exact Or.inl (by rw [show f.toInt.toNat = h by omega]; exact q4)
        · rw [e] at q2
          exact Or.inr (by rw [show s.toInt.toNat = h by omega]; exact q4)
  · obtain ⟨p1, p2⟩ := e3 h0
    rw [if_pos (by omega)]
    constructor
    · intro z; cases z
    · rintro ⟨i, h, q1, q2, q3, q4⟩
      have e : i = 0 ∨ i = 1 := by omega
      rcases e with e | e
      · rw [e] at q2; omega
      · rw [e] at q2; omega
end BKL
section TRL
variable {γ el : Nat → Nat → Nat} {F : Nat → va_E} {c i k b : Nat} {Q : gPg} {L : Nat → Nat → Bool}
theorem qR (hq : rfW γ el F c Q) (hi : i < Q.1) : rfBw γ el F (el (γ 14 c) i) (Q.2.1 i) (Q.2.2.1 i) (Q.2.2.2 i) := hq.2.2 i hi
theorem qR_m (hq : rfW γ el F c Q) (hi : i < Q.1) : Q.2.1 i = γ 2 (γ 14 (el (γ 14 c) i)) + 1 := by
  obtain ⟨h1, ⟨h2, -⟩, -⟩ := qR hq hi
  omega
theorem qG (hO : qOk Q) (hi : i < Q.1) : ∀ j, j < 2 → Q.2.2.2 i j ≠ -1 → Q.2.2.2 i j < (Q.1 : Int) := fun j hj h => (hO.1 i j hi hj h).2
theorem qB (hO : qOk Q) (hi : i < Q.1) : (∀ j, j + 1 < Q.2.1 i → rwO2 (Q.2.2.1 i j)) ∧ edO2 (Q.2.2.1 i (Q.2.1 i - 1)) ∧ edG (Q.2.2.1 i (Q.2.1 i - 1) 0) (Q.2.2.2 i 0) (Q.2.2.2 i 1) := (hO.2 i hi).2
theorem qrow (hq : rfW γ el F c Q) (hO : qOk Q) (hi : i < Q.1) {j : Nat} (hj : j < γ 2 (γ 14 (el (γ 14 c) i))) {S : Nat → Bool} : bkS (F (el (γ 14 (el (γ 14 c) i)) j)) false S k = true ↔ usR false (Q.2.2.1 i j) k ∨ (S k = true ∧ ¬ seR false (Q.2.2.1 i j) k) := by
  obtain ⟨h1, ⟨h2, h3⟩, -⟩ := qR hq hi
  exact bk_ln ((qB hO hi).1 j (by omega)) (h3 j (by omega))
theorem qend (hq : rfW γ el F c Q) (hO : qOk Q) (hi : i < Q.1) {S : Nat → Bool} : bkS (F (γ 15 (el (γ 14 c) i))) false S k = true ↔ usR false (Q.2.2.1 i (Q.2.1 i - 1)) k ∨ (S k = true ∧ ¬ seR false (Q.2.2.1 i (Q.2.1 i - 1)) k) := by
  obtain ⟨-, -, h3⟩ := qR hq hi
  exact bk_ed (g := Q.2.2.2 i) (qB hO hi).2.1 (qB hO hi).2.2 h3
theorem qbh (hq : rfW γ el F c Q) (hO : qOk Q) (hi : i < Q.1) : bhV (fI (F (γ 15 (el (γ 14 c) i))) 0).toInt (fI (F (el (γ 14 c) i)) 2).toInt (fI (F (el (γ 14 c) i)) 3).toInt L k = true ↔ goX Q (fun g => L g k = true) i := by
  obtain ⟨-, -, h3⟩ := qR hq hi
  exact bh_ed (g := Q.2.2.2 i) (qB hO hi).2.2 h3 (qG hO hi)
/-- sound -/
theorem tr_so (hq : rfW γ el F c Q) (hO : qOk Q) (hi : i < Q.1) (hL : ∀ g, g < Q.1 → L g k = true → Lv Q false k g 0) : ∀ d, d ≤ γ 2 (γ 14 (el (γ 14 c) i)) → trS γ el F false (el (γ 14 c) i) L d k = true → Lv Q false k i (γ 2 (γ 14 (el (γ 14 c) i)) - d)
  | 0, _, h => by
    have m := qR_m hq hi
    have h2 := (qend hq hO hi).mp h
    rw [show Q.2.1 i - 1 = γ 2 (γ 14 (el (γ 14 c) i)) - 0 by omega] at h2
    rw [Lv_row hi (by omega)]
    refine h2.imp id (fun ⟨z1, z2⟩ => ⟨z2, ?_⟩)
    rw [show γ 2 (γ 14 (el (γ 14 c) i)) - 0 + 1 = Q.2.1 i by omega, Lv_out hi]
    exact goX_mo hL ((qbh hq hO hi).mp z1)
  | d + 1, hd, h => by
    have m := qR_m hq hi
    have h2 := (qrow hq hO hi (by omega)).mp h
    rw [show γ 2 (γ 14 (el (γ 14 c) i)) - 1 - d = γ 2 (γ 14 (el (γ 14 c) i)) - (d + 1) by omega] at h2
    rw [Lv_row hi (by omega)]
    refine h2.imp id (fun ⟨z1, z2⟩ => ⟨z2, ?_⟩)
    rw [show γ 2 (γ 14 (el (γ 14 c) i)) - (d + 1) + 1 = γ 2 (γ 14 (el (γ 14 c) i)) - d by omega]
    exact tr_so hq hO hi hL d (by omega) z1
/-- a row's place counted from the end -/
theorem trS_j (hq : rfW γ el F c Q) (hO : qOk Q) (hi : i < Q.1) {j : Nat} (hj : j < Q.2.1 i) : trS γ el F false (el (γ 14 c) i) L (Q.2.1 i - 1 - j) k = true ↔ usR false (Q.2.2.1 i j) k ∨ ((if j + 1 = Q.2.1 i then bhV (fI (F (γ 15 (el (γ 14 c) i))) 0).toInt (fI (F (el (γ 14 c) i)) 2).toInt (fI (F (el (γ 14 c) i)) 3).toInt L k = true else trS γ el F false (el (γ 14 c) i) L (Q.2.1 i - 1 - (j + 1)) k = true) ∧ ¬ seR false (Q.2.2.1 i j) k) := by
  have m := qR_m hq hi
  by_cases e : j + 1 = Q.2.1 i
  · rw [if_pos e, show Q.2.1 i - 1 - j = 0 by omega]
    have h2 := qend (k := k) hq hO hi (S := bhV (fI (F (γ 15 (el (γ 14 c) i))) 0).toInt (fI (F (el (γ 14 c) i)) 2).toInt (fI (F (el (γ 14 c) i)) 3).toInt L)
    rw [show Q.2.1 i - 1 = j by omega] at h2
    exact h2
  · rw [if_neg e, show Q.2.1 i - 1 - j = (Q.2.1 i - 1 - (j + 1)) + 1 by omega]
    have h2 := qrow (k := k) hq hO hi (j := γ 2 (γ 14 (el (γ 14 c) i)) - 1 - (Q.2.1 i - 1 - (j + 1))) (by omega) (S := trS γ el F false (el (γ 14 c) i) L (Q.2.1 i - 1 - (j + 1)))
    have e2 : γ 2 (γ 14 (el (γ 14 c) i)) - 1 - (Q.2.1 i - 1 - (j + 1)) = j := by omega
    have h3 : trS γ el F false (el (γ 14 c) i) L (Q.2.1 i - 1 - (j + 1) + 1) k = bkS (F (el (γ 14 (el (γ 14 c) i)) (γ 2 (γ 14 (el (γ 14 c) i)) - 1 - (Q.2.1 i - 1 - (j + 1))))) false (trS γ el F false (el (γ 14 c) i) L (Q.2.1 i - 1 - (j + 1))) k := rfl
    rw [h3, h2, e2]
/-- complete -/
theorem lv_co (hq : rfW γ el F c Q) (hO : qOk Q) (hL : ∀ i, i < Q.1 → trS γ el F false (el (γ 14 c) i) L (γ 2 (γ 14 (el (γ 14 c) i))) k = true → L i k = true) (h : Lv Q false k b 0) (hb : b < Q.1) : L b k = true := by
  have h0 : ∀ i, i < Q.1 → (if 0 = Q.2.1 i then bhV (fI (F (γ 15 (el (γ 14 c) i))) 0).toInt (fI (F (el (γ 14 c) i)) 2).toInt (fI (F (el (γ 14 c) i)) 3).toInt L k = true else trS γ el F false (el (γ 14 c) i) L (Q.2.1 i - 1 - 0) k = true) → L i k = true := fun i hi z => by
    have m := qR_m hq hi
    rw [if_neg (by omega), show Q.2.1 i - 1 - 0 = γ 2 (γ 14 (el (γ 14 c) i)) by omega] at z
    exact hL i hi z
  refine h0 b hb (h (fun b j => b < Q.1 → (if j = Q.2.1 b then bhV (fI (F (γ 15 (el (γ 14 c) b))) 0).toInt (fI (F (el (γ 14 c) b)) 2).toInt (fI (F (el (γ 14 c) b)) 3).toInt L k = true else trS γ el F false (el (γ 14 c) b) L (Q.2.1 b - 1 - j) k = true)) (fun b j h1 h2 h3 hb => ?_) (fun b j h1 h2 h3 h4 hb => ?_) (fun b i g h1 h2 h3 h4 h5 hb => ?_) hb)
  · rw [if_neg (by omega)]
    exact (trS_j hq hO hb h2).mpr (Or.inl h3)
  · rw [if_neg (by omega)]
    exact (trS_j hq hO hb h2).mpr (Or.inr ⟨h4 hb, h3⟩)
  · rw [if_pos rfl]
    exact (qbh hq hO hb).mpr ⟨i, g, h2, h3, h4, h0 g h4 (h5 h4)⟩
end TRL
theorem updL_same {f : Nat → Int64} {z : Nat} : vp_updL f z (f z) = f := by
  funext j
  unfold vp_updL
  split
  · next e => rw [e]
  · rfl
section FLT
variable {D : va_G} {I : FieldType → ClassId} {P : List Nat} {F F1 F2 : Nat → va_E} {γ el : Nat → Nat → Nat} {q0 q1 : Nat} {Q : gPg} {a2 : Int32}
theorem fl131 {l4 s2 s3 e1 : Int32} {c1 kx : Nat} {s1 e2 : Nat → va_E} (ha : a2.toInt = 0) (h : tl_RModel_findLive_131 D I γ el P F l4 F2 a2 c1 F1 q1 q0 s1 s2 s3 kx e1 e2) : c1 = el (γ 14 q1) l4.toInt.toNat ∧ (∀ i : Nat, i < 40 → (i : Int) ≠ l4.toInt → e2 (γ 10 i) = F2 (γ 10 i)) ∧ (∀ k, k < 2048 → lvS γ e2 l4.toInt.toNat k = trS γ el F false c1 (lvM γ F2) (γ 2 (γ 14 c1)) k) ∧ (∀ k : Nat, k < 2048 → 64 * s2.toInt ≤ (k : Int) → lvS γ s1 l4.toInt.toNat k = lvS γ F2 l4.toInt.toNat k) ∧ (e1.toInt = 0 → s3.toInt = 0 ∧ ∀ k, k < 2048 → lvS γ e2 l4.toInt.toNat k = lvS γ s1 l4.toInt.toNat k) := by
  have ed : decide (a2.toInt = 1) = false := decide_eq_false (by omega)
  refine h (fun s1 s2 s3 _ e1 e2 => c1 = el (γ 14 q1) l4.toInt.toNat ∧ (∀ i : Nat, i < 40 → (i : Int) ≠ l4.toInt → e2 (γ 10 i) = F2 (γ 10 i)) ∧ (∀ k, k < 2048 → lvS γ e2 l4.toInt.toNat k = trS γ el F false c1 (lvM γ F2) (γ 2 (γ 14 c1)) k) ∧ (∀ k : Nat, k < 2048 → 64 * s2.toInt ≤ (k : Int) → lvS γ s1 l4.toInt.toNat k = lvS γ F2 l4.toInt.toNat k) ∧ (e1.toInt = 0 → s3.toInt = 0 ∧ ∀ k, k < 2048 → lvS γ e2 l4.toInt.toNat k = lvS γ s1 l4.toInt.toNat k)) ?_ ?_ ?_ ?_
  · intro F_3 l6_3 l3_3 h1 h2 h3 h4 h5 h6 h7 h8 h9 h10 h11
    have hs : ∀ k : Nat, k < 2048 → 64 * l6_3.toInt ≤ (k : Int) → lvS γ F_3 l4.toInt.toNat k = lvS γ F2 l4.toInt.toNat k := fun k hk hk2 => by
      have z := h7 k hk
      rw [if_neg (by omega)] at z
      exact z
    refine ⟨h9, h5, fun k hk => ?_, hs, fun z => ⟨z, fun _ _ => rfl⟩⟩
    have z := h7 k hk
    rw [if_pos (by omega), ed] at z
    exact z
  · intro F_3 l6_3 l3_3 x1 x2 x3 x4 x5 x6 x7 k e1 e2 h1 h2 h3 h4 h5 h6 h7 h8 h9 h10 h11 h12 h13 h14 h15 h16 h17 h18 h19 h20 h21 h22 ih
    have hs : ∀ k : Nat, k < 2048 → 64 * l6_3.toInt ≤ (k : Int) → lvS γ F_3 l4.toInt.toNat k = lvS γ F2 l4.toInt.toNat k := fun k hk hk2 => by
      have z := h7 k hk
      rw [if_neg (by omega)] at z
      exact z
    obtain ⟨i1, i2, i3, i4, i5⟩ := ih
    exact ⟨i1, i2, i3, hs, fun z => absurd (i5 z).1 (by decide)⟩
  · intro F_3 l6_3 l3_3 x1 x2 x3 x4 x5 x6 x7 x8 k e1 e2 h1 h2 h3 h4 h5 h6 h7 h8 h9 h10 h11 h12 h13 h14 h15 h16 h17 h18 h19 h20 h21 h22 h23 h24 ih
    have hs : ∀ k : Nat, k < 2048 → 64 * l6_3.toInt ≤ (k : Int) → lvS γ F_3 l4.toInt.toNat k = lvS γ F2 l4.toInt.toNat k := fun k hk hk2 => by
      have z := h7 k hk
      rw [if_neg (by omega)] at z
      exact z
    obtain ⟨i1, i2, i3, i4, i5⟩ := ih
    refine ⟨i1, i2, i3, hs, fun z => ⟨h12, fun k hk => ?_⟩⟩
    rw [(i5 z).2 k hk]
    have e : x6 = x2 := by rw [h21, ← h20, h16]; exact updL_same
    show rbt (cL (x7 (γ 10 l4.toInt.toNat))) k = rbt (cL (F_3 (γ 10 l4.toInt.toNat))) k
    rw [← h14, cL_of h23, cL_of h15, e]
  · intro F_3 l6_3 l3_3 x1 x2 x3 x4 x5 x6 x7 x8 k e1 e2 h1 h2 h3 h4 h5 h6 h7 h8 h9 h10 h11 h12 h13 h14 h15 h16 h17 h18 h19 h20 h21 h22 h23 h24 ih
    have hs : ∀ k : Nat, k < 2048 → 64 * l6_3.toInt ≤ (k : Int) → lvS γ F_3 l4.toInt.toNat k = lvS γ F2 l4.toInt.toNat k := fun k hk hk2 => by
      have z := h7 k hk
      rw [if_neg (by omega)] at z
      exact z
    obtain ⟨i1, i2, i3, i4, i5⟩ := ih
    exact ⟨i1, i2, i3, hs, fun z => absurd (i5 z).1 (by decide)⟩
def flS (γ : Nat → Nat → Nat) (Q : gPg) (F : Nat → va_E) : Prop := ∀ i k, i < Q.1 → lvM γ F i k = true → Lv Q false k i 0
def flC (γ el : Nat → Nat → Nat) (F0 : Nat → va_E) (c : Nat) (Q : gPg) (F : Nat → va_E) : Prop := ∀ i, i < Q.1 → ∀ k, k < 2048 → trS γ el F0 false (el (γ 14 c) i) (lvM γ F) (γ 2 (γ 14 (el (γ 14 c) i))) k = true → lvM γ F i k = true
theorem fl58 {s2 s3 e1 : Int32} {kx : Nat} {s1 e2 : Nat → va_E} (ha : a2.toInt = 0) (hq : rfW γ el F q1 Q) (hO : qOk Q) (hQ4 : Q.1 ≤ 40) (hQ6 : γ 6 (γ 1 q1) = Q.1) (h : tl_RModel_findLive_58 D I γ el P F q1 a2 F1 q0 s1 s2 s3 kx e1 e2) : flS γ Q s1 → flS γ Q e2 ∧ (e1.toInt = 0 → s3.toInt = 0 ∧ (∀ i k, i < 40 → k < 2048 → lvS γ e2 i k = lvS γ s1 i k) ∧ ∀ i : Nat, (i : Int) ≤ s2.toInt → ∀ k, k < 2048 → trS γ el F false (el (γ 14 q1) i) (lvM γ s1) (γ 2 (γ 14 (el (γ 14 q1) i))) k = lvS γ s1 i k) := by
  refine h (fun s1 s2 s3 _ e1 e2 => flS γ Q s1 → flS γ Q e2 ∧ (e1.toInt = 0 → s3.toInt = 0 ∧ (∀ i k, i < 40 → k < 2048 → lvS γ e2 i k = lvS γ s1 i k) ∧ ∀ i : Nat, (i : Int) ≤ s2.toInt → ∀ k, k < 2048 → trS γ el F false (el (γ 14 q1) i) (lvM γ s1) (γ 2 (γ 14 (el (γ 14 q1) i))) k = lvS γ s1 i k)) ?_ ?_
  · intro F_2 l4_2 l3_2 h1 h2 h3 h4 h5 h6 h7 h8 h9
    intro hS
    exact ⟨hS, fun z => ⟨z, fun _ _ _ _ => rfl, fun i hi => by omega⟩⟩
  · intro F_2 l4_2 l3_2 x1 x2 x3 x4 x5 x6 x7 x8 x9 x10 x11 x12 x13 k e1 e2 h1 h2 h3 h4 h5 h6 h7 h8 h9 h10 h11 h12 h13 h14 h15 h16 h17 h18 h19 h20 h21 h22 h23 h24 h25 h26 h27 h28 h29 h30 h31 h32 h33 ih
    intro hS
    obtain ⟨f1, f2, f3, f4, f5⟩ := fl131 ha h32
    rw [show Int32.toInt 0 = 0 from by decide] at f4
    have hlt : l4_2.toInt.toNat < Q.1 := by omega
    have f6 : ∀ k, k < 2048 → lvS γ x10 l4_2.toInt.toNat k = lvS γ F_2 l4_2.toInt.toNat k := fun k hk => f4 k hk (by omega)
    have ho : ∀ i k, i < 40 → i ≠ l4_2.toInt.toNat → lvS γ x12 i k = lvS γ F_2 i k := fun i k hi hne => by
      unfold lvS
      rw [f2 i hi (by omega)]
    have hS2 : flS γ Q x12 := fun i k hi hk => by
      obtain ⟨k1, k2, k3⟩ := lvM_t hk
      by_cases e : i = l4_2.toInt.toNat
      · rw [e, f3 k k2, f1] at k3
        have z := tr_so hq hO hlt (fun g hg hL => hS g k hg hL) _ (Nat.le_refl _) k3
        rw [Nat.sub_self] at z
        rw [e]
        exact z
      · refine hS i k hi ?_
        rw [lvM_e k1 k2, ← ho i k k1 e]
        exact k3
    obtain ⟨g1, g2⟩ := ih hS2
    refine ⟨g1, fun z => ?_⟩
    obtain ⟨g3, g4, g5⟩ := g2 z
    obtain ⟨f7, f8⟩ := f5 g3
    have hal : ∀ i k, i < 40 → k < 2048 → lvS γ x12 i k = lvS γ F_2 i k := fun i k hi hk => by
      by_cases e : i = l4_2.toInt.toNat
      · rw [e, f8 k hk, f6 k hk]
      · exact ho i k hi e
    have hM : lvM γ x12 = lvM γ F_2 := by
      funext i k
      unfold lvM
      by_cases hd : i < 40 ∧ k < 2048
      · rw [hal i k hd.1 hd.2]
      · rw [decide_eq_false hd]
        rfl
    refine ⟨f7, fun i k hi hk => by rw [g4 i k hi hk, hal i k hi hk], fun i hi k hk => ?_⟩
    by_cases e : i = l4_2.toInt.toNat
    · have z3 := f3 k hk
      rw [f1] at z3
      rw [e, ← z3, hal _ k (by omega) hk]
    · have z := g5 i (by omega) k hk
      rw [hM] at z
      rw [z, hal i k (by omega) hk]
theorem fl44 {s2 : Int32} {kx : Nat} {s1 e1 : Nat → va_E} (ha : a2.toInt = 0) (hq : rfW γ el F q1 Q) (hO : qOk Q) (hQ4 : Q.1 ≤ 40) (hQ6 : γ 6 (γ 1 q1) = Q.1) (hF : ∀ F1, rStr γ [] F F1 → F1 q1 = F q1) (h : tl_RModel_findLive_44 D I γ el P F q1 a2 q0 s1 s2 kx e1) : flS γ Q s1 → (s2.toInt = 0 → flC γ el F q1 Q s1) → flS γ Q e1 ∧ flC γ el F q1 Q e1 := by
  refine h (fun s1 s2 _ e1 => flS γ Q s1 → (s2.toInt = 0 → flC γ el F q1 Q s1) → flS γ Q e1 ∧ flC γ el F q1 Q e1) ?_ ?_
  · intro F_1 l3_1 h1 h2 h3 h4 h5 h6
    intro hS hC
    exact ⟨hS, hC h6⟩
  · intro F_1 l3_1 x1 x2 x3 x4 k e1 h1 h2 h3 h4 h5 h6 h7 h8 h9 ih
    intro hS hC
    have e1 : x1.toInt = (Q.1 : Int) := by
      rw [← h7, hF _ h3]
      exact hq.1
    obtain ⟨g1, g2⟩ := fl58 ha hq hO hQ4 hQ6 h9 hS
    refine ih g1 (fun z => ?_)
    obtain ⟨-, g4, g5⟩ := g2 z
    have hM : lvM γ x4 = lvM γ F_1 := by
      funext i k
      unfold lvM
      by_cases hd : i < 40 ∧ k < 2048
      · rw [g4 i k hd.1 hd.2]
      · rw [decide_eq_false hd]
        rfl
    intro i hi k hk hz
    rw [hM, g5 i (by omega) k hk] at hz
    rw [hM, lvM_e (by omega) hk]
    exact hz
theorem fl2 {s2 : Int32} {kx : Nat} {s1 e1 : Nat → va_E} (hq : rfW γ el F q1 Q) (hF : ∀ F1, rStr γ [] F F1 → F1 q1 = F q1) (h : tl_RModel_findLive_2 D I γ el P F q0 q1 s1 s2 kx e1) : ∀ i : Nat, i < Q.1 → ∀ j : Nat, j < 32 → cL (e1 (γ 10 i)) j = 0 := by
  refine h (fun _ _ _ e1 => ∀ i : Nat, i < Q.1 → ∀ j : Nat, j < 32 → cL (e1 (γ 10 i)) j = 0) ?_ ?_
  · intro F_1 l3_1 x1 h1 h2 h3 h4 h5 h6 h7
    intro i hi j hj
    have e1 : x1.toInt = (Q.1 : Int) := by
      rw [← h6, hF _ h3]
      exact hq.1
    exact h4 i (by omega) j hj
  · intro F_1 l3_1 x1 x2 x3 k e1 h1 h2 h3 h4 h5 h6 h7 h8 h9 ih
    exact ih
/-- findLive finds what is alive -/
theorem fl_tr (ha : a2.toInt = 0) (hq : rfW γ el F q1 Q) (hO : qOk Q) (hQ4 : Q.1 ≤ 40) (hQ6 : γ 6 (γ 1 q1) = Q.1) (hF : ∀ F1, rStr γ [] F F1 → F1 q1 = F q1) (h : tr_RModel_findLive D I γ el P F q0 q1 a2 F1) : ∀ i k, i < Q.1 → k < 2048 → (lvS γ F1 i k = true ↔ Lv Q false k i 0) := by
  refine h (fun F1 => ∀ i k, i < Q.1 → k < 2048 → (lvS γ F1 i k = true ↔ Lv Q false k i 0)) ?_
  · intro x1 x2 h1 h2
    have z := fl2 hq hF h1
    obtain ⟨g1, g2⟩ := fl44 ha hq hO hQ4 hQ6 hF h2 (fun i k hi hk => by
      obtain ⟨k1, k2, k3⟩ := lvM_t hk
      unfold lvS at k3
      rw [rbt_z (z i hi (k / 64) (by omega))] at k3
      cases k3) (fun e => absurd e (by decide))
    intro i k hi hk
    constructor
    · intro w
      exact g1 i k hi (by rw [lvM_e (by omega) hk]; exact w)
    · intro w
      have w2 := lv_co (L := lvM γ x2) hq hO (fun i hi => g2 i hi k hk) w hi
      rw [lvM_e (by omega) hk] at w2
      exact w2
end FLT
end
section
/-! leaves of the reference, exactly -/
section GLF
variable {op t s ra rb r a1 a2 : Int32} {v x : Nat → Int64}
theorem uA_tr (h : tr_RRow_usesA op ra r) : (r.toInt = 1 ∧ op.toInt ≠ 20 ∧ op.toInt ≠ 21 ∧ op.toInt ≠ 30 ∧ ra.toInt ≠ 0) ∨ (r.toInt = 0 ∧ (op.toInt = 20 ∨ op.toInt = 21 ∨ op.toInt = 30 ∨ ra.toInt = 0)) := by
  refine h (fun r => (r.toInt = 1 ∧ op.toInt ≠ 20 ∧ op.toInt ≠ 21 ∧ op.toInt ≠ 30 ∧ ra.toInt ≠ 0) ∨ (r.toInt = 0 ∧ (op.toInt = 20 ∨ op.toInt = 21 ∨ op.toInt = 30 ∨ ra.toInt = 0))) ?_ ?_ ?_ ?_ ?_
  · intro h1
    have q0 : Int32.toInt 0 = 0 := by decide
    have q1 : Int32.toInt 1 = 1 := by decide
    omega
  · intro h1 h2
    have q0 : Int32.toInt 0 = 0 := by decide
    have q1 : Int32.toInt 1 = 1 := by decide
    omega
  · intro h1 h2 h3
    have q0 : Int32.toInt 0 = 0 := by decide
    have q1 : Int32.toInt 1 = 1 := by decide
    omega
  · intro h1 h2 h3 h4
    have q0 : Int32.toInt 0 = 0 := by decide
    have q1 : Int32.toInt 1 = 1 := by decide
    omega
  · intro h1 h2 h3 h4
    have q0 : Int32.toInt 0 = 0 := by decide
    have q1 : Int32.toInt 1 = 1 := by decide
    omega
theorem uB_tr (h : tr_RRow_usesB op rb r) : (r.toInt = 1 ∧ 0 < op.toInt ∧ op.toInt < 20 ∧ rb.toInt ≠ 0) ∨ (r.toInt = 0 ∧ (op.toInt ≤ 0 ∨ 20 ≤ op.toInt ∨ rb.toInt = 0)) := by
  refine h (fun r => (r.toInt = 1 ∧ 0 < op.toInt ∧ op.toInt < 20 ∧ rb.toInt ≠ 0) ∨ (r.toInt = 0 ∧ (op.toInt ≤ 0 ∨ 20 ≤ op.toInt ∨ rb.toInt = 0))) ?_ ?_ ?_ ?_
  · intro h1
    have q0 : Int32.toInt 0 = 0 := by decide
    have q1 : Int32.toInt 1 = 1 := by decide
    omega
  · intro h1 h2
    have q0 : Int32.toInt 0 = 0 := by decide
    have q1 : Int32.toInt 1 = 1 := by decide
    omega
  · intro h1 h2 h3
    have q0 : Int32.toInt 0 = 0 := by decide
    have q1 : Int32.toInt 1 = 1 := by decide
    omega
  · intro h1 h2 h3
    have q0 : Int32.toInt 0 = 0 := by decide
    have q1 : Int32.toInt 1 = 1 := by decide
    omega
theorem ss_tr (h : tr_RRow_sets op r) : (r.toInt = 1 ∧ op.toInt ≤ 21) ∨ (r.toInt = 0 ∧ 21 < op.toInt) := by
  refine h (fun r => (r.toInt = 1 ∧ op.toInt ≤ 21) ∨ (r.toInt = 0 ∧ 21 < op.toInt)) ?_ ?_
  · intro h1
    have q0 : Int32.toInt 0 = 0 := by decide
    have q1 : Int32.toInt 1 = 1 := by decide
    omega
  · intro h1
    have q0 : Int32.toInt 0 = 0 := by decide
    have q1 : Int32.toInt 1 = 1 := by decide
    omega
theorem sO_tr (ha : a2.toInt = 0) (h : tr_RModel_setOf a2 op t s r) : (op.toInt ≤ 21 ∧ r.toInt = t.toInt) ∨ (21 < op.toInt ∧ r.toInt = -1) := by
  refine h (fun r => (op.toInt ≤ 21 ∧ r.toInt = t.toInt) ∨ (21 < op.toInt ∧ r.toInt = -1)) ?_ ?_ ?_ ?_
  · intro x1 h1 h2 h3 h4
    have q := ss_tr h3
    exact Or.inr ⟨by omega, by decide⟩
  · intro x1 h1 h2 h3 h4
    have q := ss_tr h3
    exact Or.inl ⟨by omega, rfl⟩
  · intro h1 h2
    exact absurd ha h1
  · intro h1 h2
    exact absurd ha h1
theorem se_tr (h : tr_RModel_set a1 v x) (h0 : 0 ≤ a1.toInt) : ∀ k : Nat, rbt x k = (rbt v k || decide ((k : Int) = a1.toInt)) := by
  refine h (fun x => ∀ k : Nat, rbt x k = (rbt v k || decide ((k : Int) = a1.toInt))) ?_
  · intro x1 x2 x3 x4 x5 h1 h2 h3 h4 h5
    exact rbt_set h1 h2 h3 h4 h5 h0
theorem cl_tr (h : tr_RModel_clear a1 v x) (h0 : 0 ≤ a1.toInt) : ∀ k : Nat, rbt x k = (rbt v k && !decide ((k : Int) = a1.toInt)) := by
  refine h (fun x => ∀ k : Nat, rbt x k = (rbt v k && !decide ((k : Int) = a1.toInt))) ?_
  · intro x1 x2 x3 x4 x5 x6 h1 h2 h3 h4 h5 h6
    exact rbt_clr h1 h2 h3 h4 h5 h6 h0
def wnV (op f s : Int) : Int := if op = 32 then 0 else if op = 30 ∨ f = s then 1 else 2
theorem ws_tr {f s : Int32} (h : tr_RBlock_ways f s op r) : r.toInt = wnV op.toInt f.toInt s.toInt := by
  have q0 : Int32.toInt 0 = 0 := by decide
  have q1 : Int32.toInt 1 = 1 := by decide
  have q2 : Int32.toInt 2 = 2 := by decide
  refine h (fun r => r.toInt = wnV op.toInt f.toInt s.toInt) ?_ ?_ ?_ ?_
  · intro h1 h2
    unfold wnV; rw [if_neg h1, if_pos (Or.inl h2)]; exact q1
  · intro h1 h2 h3
    unfold wnV; rw [if_neg h1, if_neg (by omega)]; exact q2
  · intro h1 h2 h3
    unfold wnV; rw [if_neg h1, if_pos (Or.inr h3)]; exact q1
  · intro h1
    unfold wnV; rw [if_pos h1]; exact q0
theorem wy_tr {f s : Int32} (h : tr_RBlock_way2 a1 f s r) : (a1.toInt = 0 ∧ r = f) ∨ (a1.toInt ≠ 0 ∧ r = s) := by
  refine h (fun r => (a1.toInt = 0 ∧ r = f) ∨ (a1.toInt ≠ 0 ∧ r = s)) ?_ ?_
  · intro h1
    exact Or.inr ⟨h1, rfl⟩
  · intro h1
    exact Or.inl ⟨h1, rfl⟩
theorem bh_wn {op f s : Int} {L : Nat → Nat → Bool} {k : Nat} : bhV op f s L k = true ↔ (0 < wnV op f s ∧ L f.toNat k = true) ∨ (1 < wnV op f s ∧ L s.toNat k = true) := by
  unfold bhV wnV
  by_cases h1 : op = 32
  · rw [if_pos h1, if_pos h1]
    constructor
    · intro z; cases z
    · rintro (z | z) <;> exact absurd z.1 (by decide)
  · rw [if_neg h1, if_neg h1]
    by_cases h2 : op = 30 ∨ f = s
    · rw [if_pos h2, if_pos h2]
      constructor
      · intro z; exact Or.inl ⟨by decide, z⟩
      · rintro (z | z)
        · exact z.2
        · exact absurd z.1 (by decide)
    · rw [if_neg h2, if_neg h2, Bool.or_eq_true]
      constructor
      · exact fun z => z.imp (fun w => ⟨by decide, w⟩) (fun w => ⟨by decide, w⟩)
      · exact fun z => z.imp (fun w => w.2) (fun w => w.2)
end GLF
/-- cells of the model, by their kinds -/
theorem md_kd {D : va_G} {I : FieldType → ClassId} {P : List Nat} {F : Nat → va_E} {γ el : Nat → Nat → Nat} {q0 : Nat} (hT : RS D I P F γ el) (hm : γ 0 q0 = 10) : γ 0 (γ 9 0) = 12 ∧ γ 0 (γ 9 1) = 13 ∧ γ 0 (γ 9 2) = 35 ∧ γ 0 (γ 9 3) = 14 := by
  obtain ⟨r28, r35, v9, v10, v11, v12, v13, v14, v23, v24, v25, v26, v27, v30, v32, v33, v34, he, hM1, hK, hM2⟩ := rk10_m (show rk_10 γ (F q0) from RS_o hT hm)
  obtain ⟨-, -, h0, h1, h2, h3, -⟩ := hK
  exact ⟨h0, h1, h2, h3⟩
theorem lr_kd {D : va_G} {I : FieldType → ClassId} {P : List Nat} {F : Nat → va_E} {γ el : Nat → Nat → Nat} (hT : RS D I P F γ el) (h : γ 0 (γ 9 0) = 12) {i : Nat} (hi : i < 40) : γ 0 (γ 10 i) = 11 ∧ γ 12 (γ 10 i) = i := by
  obtain ⟨g, g1, g2⟩ := show rk_12 I γ (F (γ 9 0)) from RS_o hT h
  exact (g2 i hi).2
theorem er_kd {D : va_G} {I : FieldType → ClassId} {P : List Nat} {F : Nat → va_E} {γ el : Nat → Nat → Nat} (hT : RS D I P F γ el) (h : γ 0 (γ 9 1) = 13) {i : Nat} (hi : i < 2000) : γ 0 (γ 11 i) = 36 ∧ γ 12 (γ 11 i) = i := by
  obtain ⟨g, g1, g2⟩ := show rk_13 I γ (F (γ 9 1)) from RS_o hT h
  exact (g2 i hi).2
def nwL (γ : Nat → Nat → Nat) (F : Nat → va_E) (k : Nat) : Bool := rbt (cL (F (γ 9 2))) k
def egS (γ : Nat → Nat → Nat) (F : Nat → va_E) (n k : Nat) : Bool := rbt (cL (F (γ 11 n))) k
section GBK
variable {D : va_G} {I : FieldType → ClassId} {P : List Nat} {F F1 : Nat → va_E} {γ el : Nat → Nat → Nat} {q0 q1 : Nat} {a2 : Int32}
theorem bk3 (hT : RS D I P F γ el) (hm : γ 0 q0 = 10) (hk : γ 0 q1 = 1) (ha : a2.toInt = 0) (h : tr_RModel_back3 D I γ el P F q0 q1 a2 F1) : (∀ k : Nat, nwL γ F1 k = bkS (F q1) false (nwL γ F) k) ∧ ∀ b, b ∈ P → b ≠ γ 9 2 → F1 b = F b := by
  have k92 := (md_kd hT hm).2.2.1
  have k92' : γ 0 (γ 9 2) = 35 := k92
  obtain ⟨op, t, a, b, s, ra, rb, he, v1, v2, v3, v4, v5, v6, v7, v8, v9, v10⟩ := show rk_1 γ q1 (F q1) from RS_o hT hk
  have m1 : q1 ∈ P := hT.1 q1 (by omega)
  have n1 : q1 ≠ γ 9 2 := fun e => by rw [e, k92] at hk; cases hk
  have w4 := v4.2
  have w41 := v4.1
  have w5 := v5.2
  have w51 := v5.1
  have w2 := v2.1
  refine h (fun F1 => (∀ k : Nat, nwL γ F1 k = bkS (F q1) false (nwL γ F) k) ∧ ∀ b, b ∈ P → b ≠ γ 9 2 → F1 b = F b) ?_ ?_ ?_ ?_ ?_ ?_ ?_ ?_ ?_ ?_ ?_ ?_
  · intro x1 x2 x3 x4 x5 x6 x7 x8 h1 h2 h3 h4 h5 h6 h7 h8 h9 h10 h11 h12 h13 h14 h15
    have e1 : x1 = op := by rw [← h1, he]; rfl
    have e2 : x2 = t := by rw [← h2, he]; rfl
    have e3 : x3 = s := by rw [← h3, he]; rfl
    have e8 : x5 = ra := by rw [← h8, he]; rfl
    have e12 : x7 = rb := by rw [← h12, he]; rfl
    have qs := sO_tr ha h5
    have qa := uA_tr h10
    have qb := uB_tr h14
    try rw [e1] at qs
    try rw [e2] at qs
    try rw [e3] at qs
    try rw [e1] at qa
    try rw [e8] at qa
    try rw [e1] at qb
    try rw [e12] at qb
    refine ⟨fun k => ?_, fun b0 hb hne => ?_⟩
    · rw [bkS_of he]
      refine bk_n false false false (decide_eq_false (by omega)) (decide_eq_false (by omega)) (decide_eq_false (by omega)) ?_
      simp only [Bool.false_and, Bool.not_false, Bool.and_true, Bool.or_false]
    · exact rfl
  · intro x1 x2 x3 x4 x5 x6 x7 x8 x9 x10 x11 x12 h1 h2 h3 h4 h5 h6 h7 h8 h9 h10 h11 h12 h13 h14 h15 h16 h17 h18 h19 h20 h21 h22
    have e1 : x1 = op := by rw [← h1, he]; rfl
    have e2 : x2 = t := by rw [← h2, he]; rfl
    have e3 : x3 = s := by rw [← h3, he]; rfl
    have e8 : x5 = ra := by rw [← h8, he]; rfl
    have e12 : x7 = rb := by rw [← h12, he]; rfl
    have e17 : x9 = b := by rw [← h17, he]; rfl
    have fx12 : x12 q1 = F q1 := (h20 q1 m1 (nm_c n1 nm_n))
    have qs := sO_tr ha h5
    have qa := uA_tr h10
    have qb := uB_tr h14
    try rw [e1] at qs
    try rw [e2] at qs
    try rw [e3] at qs
    try rw [e1] at qa
    try rw [e8] at qa
    try rw [e1] at qb
    try rw [e12] at qb
    refine ⟨fun k => ?_, fun b0 hb hne => ?_⟩
    · rw [bkS_of he]
      refine bk_n false false true (decide_eq_false (by omega)) (decide_eq_false (by omega)) (decide_eq_true (by omega)) ?_
      unfold nwL
      rw [cL_of h21, cL_of h18]
      rw [se_tr h19 (by first | exact h6 | omega | (rw [e17]; omega)) k, e17]
      simp only [Bool.false_and, Bool.true_and, Bool.not_false, Bool.and_true, Bool.or_false]
    · exact (h20 b0 hb (nm_c hne nm_n)).trans (rfl)
  · intro x1 x2 x3 x4 x5 x6 x7 x8 x9 x10 x11 x12 h1 h2 h3 h4 h5 h6 h7 h8 h9 h10 h11 h12 h13 h14 h15 h16 h17 h18 h19 h20 h21 h22 h23
    have e1 : x1 = op := by rw [← h1, he]; rfl
    have e2 : x2 = t := by rw [← h2, he]; rfl
    have e3 : x3 = s := by rw [← h3, he]; rfl
    have e8 : x5 = ra := by rw [← h8, he]; rfl
    have e13 : x7 = a := by rw [← h13, he]; rfl
    have fx10 : x10 q1 = F q1 := (h16 q1 m1 (nm_c n1 nm_n))
    have e20 : x11 = rb := by rw [← h20, fx10, he]; rfl
    have qs := sO_tr ha h5
    have qa := uA_tr h10
    have qb := uB_tr h22
    try rw [e1] at qs
    try rw [e2] at qs
    try rw [e3] at qs
    try rw [e1] at qa
    try rw [e8] at qa
    try rw [e1] at qb
    try rw [e20] at qb
    refine ⟨fun k => ?_, fun b0 hb hne => ?_⟩
    · rw [bkS_of he]
      refine bk_n false true false (decide_eq_false (by omega)) (decide_eq_true (by omega)) (decide_eq_false (by omega)) ?_
      unfold nwL
      rw [cL_of h17, cL_of h14]
      rw [se_tr h15 (by first | exact h6 | omega | (rw [e13]; omega)) k, e13]
      simp only [Bool.false_and, Bool.true_and, Bool.not_false, Bool.and_true, Bool.or_false]
    · exact (h16 b0 hb (nm_c hne nm_n)).trans (rfl)
  · intro x1 x2 x3 x4 x5 x6 x7 x8 x9 x10 x11 x12 x13 x14 x15 h1 h2 h3 h4 h5 h6 h7 h8 h9 h10 h11 h12 h13 h14 h15 h16 h17 h18 h19 h20 h21 h22 h23 h24 h25 h26 h27 h28 h29 h30
    have e1 : x1 = op := by rw [← h1, he]; rfl
    have e2 : x2 = t := by rw [← h2, he]; rfl
    have e3 : x3 = s := by rw [← h3, he]; rfl
    have e8 : x5 = ra := by rw [← h8, he]; rfl
    have e13 : x7 = a := by rw [← h13, he]; rfl
    have fx10 : x10 q1 = F q1 := (h16 q1 m1 (nm_c n1 nm_n))
    have e20 : x11 = rb := by rw [← h20, fx10, he]; rfl
    have e25 : x13 = b := by rw [← h25, fx10, he]; rfl
    have fx15 : x15 q1 = F q1 := (h28 q1 m1 (nm_c n1 nm_n)).trans fx10
    have qs := sO_tr ha h5
    have qa := uA_tr h10
    have qb := uB_tr h22
    try rw [e1] at qs
    try rw [e2] at qs
    try rw [e3] at qs
    try rw [e1] at qa
    try rw [e8] at qa
    try rw [e1] at qb
    try rw [e20] at qb
    refine ⟨fun k => ?_, fun b0 hb hne => ?_⟩
    · rw [bkS_of he]
      refine bk_n false true true (decide_eq_false (by omega)) (decide_eq_true (by omega)) (decide_eq_true (by omega)) ?_
      unfold nwL
      rw [cL_of h29, cL_of h14]
      rw [se_tr h27 (by first | exact h6 | omega | (rw [e25]; omega)) k, e25]
      rw [se_tr h15 (by first | exact h6 | omega | (rw [e13]; omega)) k, e13]
      simp only [Bool.false_and, Bool.true_and, Bool.not_false, Bool.and_true, Bool.or_false]
    · exact (h28 b0 hb (nm_c hne nm_n)).trans ((h16 b0 hb (nm_c hne nm_n)).trans (rfl))
  · intro x1 x2 x3 x4 h1 h2 h3 h4 h5 h6 h7 h8
    exact absurd ha h7
  · intro x1 x2 x3 x4 x5 x6 x7 h1 h2 h3 h4 h5 h6 h7 h8 h9 h10 h11 h12 h13 h14
    exact absurd ha h7
  · intro x1 x2 x3 x4 x5 x6 x7 x8 x9 x10 x11 h1 h2 h3 h4 h5 h6 h7 h8 h9 h10 h11 h12 h13 h14 h15 h16 h17 h18 h19 h20 h21 h22
    have e1 : x1 = op := by rw [← h1, he]; rfl
    have e2 : x2 = t := by rw [← h2, he]; rfl
    have e3 : x3 = s := by rw [← h3, he]; rfl
    have fx7 : x7 q1 = F q1 := (h10 q1 m1 (nm_c n1 nm_n))
    have e15 : x8 = ra := by rw [← h15, fx7, he]; rfl
    have e19 : x10 = rb := by rw [← h19, fx7, he]; rfl
    have qs := sO_tr ha h5
    have qa := uA_tr h17
    have qb := uB_tr h21
    try rw [e1] at qs
    try rw [e2] at qs
    try rw [e3] at qs
    try rw [e1] at qa
    try rw [e15] at qa
    try rw [e1] at qb
    try rw [e19] at qb
    refine ⟨fun k => ?_, fun b0 hb hne => ?_⟩
    · rw [bkS_of he]
      refine bk_n true false false (decide_eq_true (by omega)) (decide_eq_false (by omega)) (decide_eq_false (by omega)) ?_
      unfold nwL
      rw [cL_of h11, cL_of h8]
      rw [cl_tr h9 (by first | exact h6 | omega) k]
      rw [show x4.toInt = t.toInt by omega]
      simp only [Bool.false_and, Bool.true_and, Bool.not_false, Bool.and_true, Bool.or_false]
    · exact (h10 b0 hb (nm_c hne nm_n)).trans (rfl)
  · intro x1 x2 x3 x4 x5 x6 x7 x8 x9 x10 x11 x12 x13 x14 h1 h2 h3 h4 h5 h6 h7 h8 h9 h10 h11 h12 h13 h14 h15 h16 h17 h18 h19 h20 h21 h22 h23 h24 h25 h26 h27 h28 h29
    have e1 : x1 = op := by rw [← h1, he]; rfl
    have e2 : x2 = t := by rw [← h2, he]; rfl
    have e3 : x3 = s := by rw [← h3, he]; rfl
    have fx7 : x7 q1 = F q1 := (h10 q1 m1 (nm_c n1 nm_n))
    have e15 : x8 = ra := by rw [← h15, fx7, he]; rfl
    have e19 : x10 = rb := by rw [← h19, fx7, he]; rfl
    have e24 : x12 = b := by rw [← h24, fx7, he]; rfl
    have fx14 : x14 q1 = F q1 := (h27 q1 m1 (nm_c n1 nm_n)).trans fx7
    have qs := sO_tr ha h5
    have qa := uA_tr h17
    have qb := uB_tr h21
    try rw [e1] at qs
    try rw [e2] at qs
    try rw [e3] at qs
    try rw [e1] at qa
    try rw [e15] at qa
    try rw [e1] at qb
    try rw [e19] at qb
    refine ⟨fun k => ?_, fun b0 hb hne => ?_⟩
    · rw [bkS_of he]
      refine bk_n true false true (decide_eq_true (by omega)) (decide_eq_false (by omega)) (decide_eq_true (by omega)) ?_
      unfold nwL
      rw [cL_of h28, cL_of h8]
      rw [se_tr h26 (by first | exact h6 | omega | (rw [e24]; omega)) k, e24]
      rw [cl_tr h9 (by first | exact h6 | omega) k]
      rw [show x4.toInt = t.toInt by omega]
      simp only [Bool.false_and, Bool.true_and, Bool.not_false, Bool.and_true, Bool.or_false]
    · exact (h27 b0 hb (nm_c hne nm_n)).trans ((h10 b0 hb (nm_c hne nm_n)).trans (rfl))
  · intro x1 x2 x3 x4 x5 x6 x7 x8 x9 x10 x11 x12 x13 x14 h1 h2 h3 h4 h5 h6 h7 h8 h9 h10 h11 h12 h13 h14 h15 h16 h17 h18 h19 h20 h21 h22 h23 h24 h25 h26 h27 h28 h29 h30
    have e1 : x1 = op := by rw [← h1, he]; rfl
    have e2 : x2 = t := by rw [← h2, he]; rfl
    have e3 : x3 = s := by rw [← h3, he]; rfl
    have fx7 : x7 q1 = F q1 := (h10 q1 m1 (nm_c n1 nm_n))
    have e15 : x8 = ra := by rw [← h15, fx7, he]; rfl
    have e20 : x10 = a := by rw [← h20, fx7, he]; rfl
    have fx12 : x12 q1 = F q1 := (h23 q1 m1 (nm_c n1 nm_n)).trans fx7
    have e27 : x13 = rb := by rw [← h27, fx12, he]; rfl
    have qs := sO_tr ha h5
    have qa := uA_tr h17
    have qb := uB_tr h29
    try rw [e1] at qs
    try rw [e2] at qs
    try rw [e3] at qs
    try rw [e1] at qa
    try rw [e15] at qa
    try rw [e1] at qb
    try rw [e27] at qb
    refine ⟨fun k => ?_, fun b0 hb hne => ?_⟩
    · rw [bkS_of he]
      refine bk_n true true false (decide_eq_true (by omega)) (decide_eq_true (by omega)) (decide_eq_false (by omega)) ?_
      unfold nwL
      rw [cL_of h24, cL_of h8]
      rw [se_tr h22 (by first | exact h6 | omega | (rw [e20]; omega)) k, e20]
      rw [cl_tr h9 (by first | exact h6 | omega) k]
      rw [show x4.toInt = t.toInt by omega]
      simp only [Bool.false_and, Bool.true_and, Bool.not_false, Bool.and_true, Bool.or_false]
    · exact (h23 b0 hb (nm_c hne nm_n)).trans ((h10 b0 hb (nm_c hne nm_n)).trans (rfl))
  · intro x1 x2 x3 x4 x5 x6 x7 x8 x9 x10 x11 x12 x13 x14 x15 x16 x17 h1 h2 h3 h4 h5 h6 h7 h8 h9 h10 h11 h12 h13 h14 h15 h16 h17 h18 h19 h20 h21 h22 h23 h24 h25 h26 h27 h28 h29 h30 h31 h32 h33 h34 h35 h36 h37
    have e1 : x1 = op := by rw [← h1, he]; rfl
    have e2 : x2 = t := by rw [← h2, he]; rfl
    have e3 : x3 = s := by rw [← h3, he]; rfl
    have fx7 : x7 q1 = F q1 := (h10 q1 m1 (nm_c n1 nm_n))
    have e15 : x8 = ra := by rw [← h15, fx7, he]; rfl
    have e20 : x10 = a := by rw [← h20, fx7, he]; rfl
    have fx12 : x12 q1 = F q1 := (h23 q1 m1 (nm_c n1 nm_n)).trans fx7
    have e27 : x13 = rb := by rw [← h27, fx12, he]; rfl
    have e32 : x15 = b := by rw [← h32, fx12, he]; rfl
    have fx17 : x17 q1 = F q1 := (h35 q1 m1 (nm_c n1 nm_n)).trans fx12
    have qs := sO_tr ha h5
    have qa := uA_tr h17
    have qb := uB_tr h29
    try rw [e1] at qs
    try rw [e2] at qs
    try rw [e3] at qs
    try rw [e1] at qa
    try rw [e15] at qa
    try rw [e1] at qb
    try rw [e27] at qb
    refine ⟨fun k => ?_, fun b0 hb hne => ?_⟩
    · rw [bkS_of he]
      refine bk_n true true true (decide_eq_true (by omega)) (decide_eq_true (by omega)) (decide_eq_true (by omega)) ?_
      unfold nwL
      rw [cL_of h36, cL_of h8]
      rw [se_tr h34 (by first | exact h6 | omega | (rw [e32]; omega)) k, e32]
      rw [se_tr h22 (by first | exact h6 | omega | (rw [e20]; omega)) k, e20]
      rw [cl_tr h9 (by first | exact h6 | omega) k]
      rw [show x4.toInt = t.toInt by omega]
      simp only [Bool.false_and, Bool.true_and, Bool.not_false, Bool.and_true, Bool.or_false]
    · exact (h35 b0 hb (nm_c hne nm_n)).trans ((h23 b0 hb (nm_c hne nm_n)).trans ((h10 b0 hb (nm_c hne nm_n)).trans (rfl)))
  · intro x1 x2 x3 x4 x5 x6 x7 h1 h2 h3 h4 h5 h6 h7 h8 h9 h10 h11 h12 h13 h14 h15
    exact absurd ha h13
  · intro x1 x2 x3 x4 x5 x6 x7 x8 x9 h1 h2 h3 h4 h5 h6 h7 h8 h9 h10 h11 h12 h13 h14 h15 h16 h17 h18 h19 h20 h21 h22
    exact absurd ha h13
theorem st2 (h : tr_RModel_stand2 D I γ el F q0 q1 a2 F1) : ∀ b, b ≠ γ 9 3 → F1 b = F b := by
  refine h (fun F1 => ∀ b, b ≠ γ 9 3 → F1 b = F b) ?_ ?_ ?_ ?_ ?_ ?_ ?_ ?_ ?_ ?_ ?_ ?_
  · intro x1 x2 x3 x4 x5 x6 x7 x8 h1 h2 h3 h4 h5 h6 h7 h8 h9 h10 h11 h12 h13 h14 h15
    intro b hb
    exact rfl
  · intro x1 x2 x3 x4 x5 x6 x7 x8 x9 x10 x11 x12 h1 h2 h3 h4 h5 h6 h7 h8 h9 h10 h11 h12 h13 h14 h15 h16 h17 h18 h19 h20 h21
    intro b hb
    exact (h20 b hb).trans (rfl)
  · intro x1 x2 x3 x4 x5 x6 x7 x8 x9 x10 x11 x12 h1 h2 h3 h4 h5 h6 h7 h8 h9 h10 h11 h12 h13 h14 h15 h16 h17 h18 h19 h20 h21 h22
    intro b hb
    exact (h16 b hb).trans (rfl)
  · intro x1 x2 x3 x4 x5 x6 x7 x8 x9 x10 x11 x12 x13 x14 x15 h1 h2 h3 h4 h5 h6 h7 h8 h9 h10 h11 h12 h13 h14 h15 h16 h17 h18 h19 h20 h21 h22 h23 h24 h25 h26 h27 h28
    intro b hb
    exact (h27 b hb).trans ((h16 b hb).trans (rfl))
  · intro x1 x2 x3 x4 h1 h2 h3 h4 h5 h6 h7 h8
    intro b hb
    exact rfl
  · intro x1 x2 x3 x4 x5 x6 x7 h1 h2 h3 h4 h5 h6 h7 h8 h9 h10 h11 h12 h13
    intro b hb
    exact (h12 b hb).trans (rfl)
  · intro x1 x2 x3 x4 x5 x6 x7 x8 x9 x10 x11 h1 h2 h3 h4 h5 h6 h7 h8 h9 h10 h11 h12 h13 h14 h15 h16 h17 h18 h19 h20 h21
    intro b hb
    exact (h10 b hb).trans (rfl)
  · intro x1 x2 x3 x4 x5 x6 x7 x8 x9 x10 x11 x12 x13 x14 h1 h2 h3 h4 h5 h6 h7 h8 h9 h10 h11 h12 h13 h14 h15 h16 h17 h18 h19 h20 h21 h22 h23 h24 h25 h26 h27
    intro b hb
    exact (h26 b hb).trans ((h10 b hb).trans (rfl))
  · intro x1 x2 x3 x4 x5 x6 x7 x8 x9 x10 x11 x12 x13 x14 h1 h2 h3 h4 h5 h6 h7 h8 h9 h10 h11 h12 h13 h14 h15 h16 h17 h18 h19 h20 h21 h22 h23 h24 h25 h26 h27 h28
    intro b hb
    exact (h22 b hb).trans ((h10 b hb).trans (rfl))
  · intro x1 x2 x3 x4 x5 x6 x7 x8 x9 x10 x11 x12 x13 x14 x15 x16 x17 h1 h2 h3 h4 h5 h6 h7 h8 h9 h10 h11 h12 h13 h14 h15 h16 h17 h18 h19 h20 h21 h22 h23 h24 h25 h26 h27 h28 h29 h30 h31 h32 h33 h34
    intro b hb
    exact (h33 b hb).trans ((h22 b hb).trans ((h10 b hb).trans (rfl)))
  · intro x1 x2 x3 x4 x5 x6 x7 h1 h2 h3 h4 h5 h6 h7 h8 h9 h10 h11 h12 h13 h14
    intro b hb
    exact (h10 b hb).trans (rfl)
  · intro x1 x2 x3 x4 x5 x6 x7 x8 x9 h1 h2 h3 h4 h5 h6 h7 h8 h9 h10 h11 h12 h13 h14 h15 h16 h17 h18 h19 h20
    intro b hb
    exact (h19 b hb).trans ((h10 b hb).trans (rfl))
theorem bh2 {s1 e1 : Nat → va_E} {s2 : Int32} {kx : Nat} (h : tl_RModel_behind3_2 D I γ el P F q0 s1 s2 kx e1) : (∀ j : Nat, (j : Int) < s2.toInt → cL (s1 (γ 9 2)) j = 0) → (∀ j : Nat, j < 32 → cL (e1 (γ 9 2)) j = 0) ∧ ∀ b, b ≠ γ 9 2 → e1 b = s1 b := by
  refine h (fun s1 s2 _ e1 => (∀ j : Nat, (j : Int) < s2.toInt → cL (s1 (γ 9 2)) j = 0) → (∀ j : Nat, j < 32 → cL (e1 (γ 9 2)) j = 0) ∧ ∀ b, b ≠ γ 9 2 → e1 b = s1 b) ?_ ?_
  · intro F_1 l2_1 h1 h2 h3 h4 h5 h6
    intro h0
    exact ⟨fun j hj => h0 j (by have := h6; omega), fun _ _ => rfl⟩
  · intro F_1 l2_1 x1 x2 x3 x4 k e1 h1 h2 h3 h4 h5 h6 h7 h8 h9 h10 h11 h12 ih
    intro h0
    obtain ⟨i1, i2⟩ := ih (by
      rw [cL_of h11]
      rw [cL_of h8] at h0
      exact zr_st h9 h0 h12 (h1.1))
    exact ⟨i1, fun b hb => (i2 b hb).trans (h10 b hb)⟩
theorem bh33 {s1 e1 : Nat → va_E} {l2 s2 : Int32} {kx : Nat} {y : Int32} (hT : RS D I P F γ el) (hm : γ 0 q0 = 10) (hF : ∀ F1, rStr γ [] F F1 → F1 q1 = F q1) (hy : (l2.toInt = 0 ∧ y = fI (F q1) 2) ∨ (l2.toInt ≠ 0 ∧ y = fI (F q1) 3)) (hy0 : 0 ≤ y.toInt ∧ y.toInt < 40) (h : tl_RModel_behind3_33 D I γ el P F q0 q1 l2 s1 s2 kx e1) : 0 ≤ s2.toInt → (∀ b, b ≠ γ 9 2 → e1 b = s1 b) ∧ ∀ k : Nat, k < 2048 → (nwL γ e1 k = true ↔ nwL γ s1 k = true ∨ (64 * s2.toInt ≤ (k : Int) ∧ lvS γ s1 y.toInt.toNat k = true)) := by
  obtain ⟨k0, k1, k2, k3⟩ := md_kd hT hm
  have ky := lr_kd hT k0 (show y.toInt.toNat < 40 by omega)
  have nk : γ 10 y.toInt.toNat ≠ γ 9 2 := fun e => by rw [e, k2] at ky; exact absurd ky.1 (by decide)
  refine h (fun s1 s2 _ e1 => 0 ≤ s2.toInt → (∀ b, b ≠ γ 9 2 → e1 b = s1 b) ∧ ∀ k : Nat, k < 2048 → (nwL γ e1 k = true ↔ nwL γ s1 k = true ∨ (64 * s2.toInt ≤ (k : Int) ∧ lvS γ s1 y.toInt.toNat k = true))) ?_ ?_
  · intro F_2 l3_2 h1 h2 h3 h4 h5 h6
    intro h0
    exact ⟨fun _ _ => rfl, fun k hk => ⟨Or.inl, fun z => z.elim id (fun w => absurd w.1 (by have := h6; omega))⟩⟩
  · intro F_2 l3_2 x1 x2 x3 x4 x5 x6 x7 x8 x9 x10 x11 x12 k e1 h1 h2 h3 h4 h5 h6 h7 h8 h9 h10 h11 h12 h13 h14 h15 h16 h17 h18 h19 h20 h21 h22 ih
    intro h0
    obtain ⟨i1, i2⟩ := ih (by omega)
    have ex := wy_tr h14
    have eF := hF _ h3
    have e5 : x5 = y := by
      rcases ex with ⟨z1, z2⟩ | ⟨z1, z2⟩
      · rcases hy with w | w
        · rw [z2, w.2, ← h11, eF]
        · exact absurd z1 w.1
      · rcases hy with w | w
        · exact absurd w.1 z1
        · rw [z2, w.2, ← h12, eF]
    have hfr := h20
    have hx7 : cL (F_2 (γ 10 y.toInt.toNat)) = x7 := by
      have q := h16
      rw [h15, e5] at q
      exact cL_of q
    refine ⟨fun b hb => (i1 b hb).trans (hfr b hb), fun k hk => ?_⟩
    rw [i2 k hk]
    have elv : lvS γ x11 y.toInt.toNat k = lvS γ F_2 y.toInt.toNat k := by unfold lvS; rw [hfr _ nk]
    have enw : nwL γ x11 k = if k / 64 = l3_2.toNatClampNeg then (nwL γ F_2 k || lvS γ F_2 y.toInt.toNat k) else nwL γ F_2 k := by
      unfold nwL lvS
      rw [cL_of h21, cL_of h8, hx7, rbt_updL h19]
      split
      · next e => rw [h18, Int64.toBitVec_or, BitVec.getLsbD_or, h9, h17, ← e]; rfl
      · rfl
    have hz : (l3_2.toNatClampNeg : Int) = l3_2.toInt := g_nn h0
    rw [elv, enw]
    by_cases e : k / 64 = l3_2.toNatClampNeg
    · rw [if_pos e, Bool.or_eq_true]
      constructor
      · rintro ((z | z) | z)
        · exact Or.inl z
        · exact Or.inr ⟨by omega, z⟩
        · exact Or.inr ⟨by omega, z.2⟩
      · rintro (z | z)
        · exact Or.inl (Or.inl z)
        · exact Or.inl (Or.inr z.2)
    · rw [if_neg e]
      constructor
      · rintro (z | z)
        · exact Or.inl z
        · exact Or.inr ⟨by omega, z.2⟩
      · rintro (z | z)
        · exact Or.inl z
        · exact Or.inr ⟨by omega, z.2⟩
theorem bh23 {s1 e1 : Nat → va_E} {s2 : Int32} {kx : Nat} (hT : RS D I P F γ el) (hm : γ 0 q0 = 10) (hk : γ 0 q1 = 2) (hF : ∀ F1, rStr γ [] F F1 → F1 q1 = F q1 ∧ F1 (γ 15 q1) = F (γ 15 q1)) (h : tl_RModel_behind3_23 D I γ el P F q0 q1 s1 s2 kx e1) : 0 ≤ s2.toInt → (∀ b, b ≠ γ 9 2 → e1 b = s1 b) ∧ ∀ k : Nat, k < 2048 → (nwL γ e1 k = true ↔ nwL γ s1 k = true ∨ (s2.toInt ≤ 0 ∧ 0 < wnV (fI (F (γ 15 q1)) 0).toInt (fI (F q1) 2).toInt (fI (F q1) 3).toInt ∧ lvS γ s1 (fI (F q1) 2).toInt.toNat k = true) ∨ (s2.toInt ≤ 1 ∧ 1 < wnV (fI (F (γ 15 q1)) 0).toInt (fI (F q1) 2).toInt (fI (F q1) 3).toInt ∧ lvS γ s1 (fI (F q1) 3).toInt.toNat k = true)) := by
  obtain ⟨k0, k1, k2, k3⟩ := md_kd hT hm
  obtain ⟨l, nn, p, s, v1, ⟨g1, g2, g3⟩, v3, v4, v5, v6, v7, v8, v9, -⟩ := show rk_2 γ q1 (F q1) from RS_o hT hk
  have ep : fI (F q1) 2 = p := by rw [v1]; rfl
  have es : fI (F q1) 3 = s := by rw [v1]; rfl
  have er : fR (F q1) 1 = nn := by rw [v1]; rfl
  have v81 := v8.1
  have v82 := v8.2
  have v91 := v9.1
  have v92 := v9.2
  refine h (fun s1 s2 _ e1 => 0 ≤ s2.toInt → (∀ b, b ≠ γ 9 2 → e1 b = s1 b) ∧ ∀ k : Nat, k < 2048 → (nwL γ e1 k = true ↔ nwL γ s1 k = true ∨ (s2.toInt ≤ 0 ∧ 0 < wnV (fI (F (γ 15 q1)) 0).toInt (fI (F q1) 2).toInt (fI (F q1) 3).toInt ∧ lvS γ s1 (fI (F q1) 2).toInt.toNat k = true) ∨ (s2.toInt ≤ 1 ∧ 1 < wnV (fI (F (γ 15 q1)) 0).toInt (fI (F q1) 2).toInt (fI (F q1) 3).toInt ∧ lvS γ s1 (fI (F q1) 3).toInt.toNat k = true))) ?_ ?_
  · intro F_1 l2_1 x1 x2 x3 x4 x5 h1 h2 h3 h4 h5 h6 h7 h8 h9 h10 h11 h12
    intro h0
    have eF := hF _ h3
    have ew := ws_tr h11
    rw [← h6, ← h7, ← h9, ← h8, eF.1, er, ← g2, eF.2] at ew
    have hle := h12
    exact ⟨fun _ _ => rfl, fun k hk => ⟨Or.inl, fun z => z.elim id (fun w => w.elim (fun w => absurd w.2.1 (by omega)) (fun w => absurd w.2.1 (by omega)))⟩⟩
  · intro F_1 l2_1 x1 x2 x3 x4 x5 x6 x7 k e1 h1 h2 h3 h4 h5 h6 h7 h8 h9 h10 h11 h12 h13 h14 ih
    intro h0
    have eF := hF _ h3
    have ew := ws_tr h11
    rw [← h6, ← h7, ← h9, ← h8, eF.1, er, ← g2, eF.2] at ew
    have hlt := h12
    have hwn : wnV (fI (F (γ 15 q1)) 0).toInt (fI (F q1) 2).toInt (fI (F q1) 3).toInt ≤ 2 := by
      unfold wnV
      split
      · decide
      · split <;> decide
    have h01 : l2_1.toInt = 0 ∨ l2_1.toInt = 1 := by omega
    obtain ⟨i1, i2⟩ := ih (by omega)
    have key : ∀ y : Int32, ((l2_1.toInt = 0 ∧ y = fI (F q1) 2) ∨ (l2_1.toInt ≠ 0 ∧ y = fI (F q1) 3)) → (∀ b, b ≠ γ 9 2 → x6 b = F_1 b) ∧ ∀ k : Nat, k < 2048 → (nwL γ x6 k = true ↔ nwL γ F_1 k = true ∨ lvS γ F_1 y.toInt.toNat k = true) := fun y hy => by
      have hy0 : 0 ≤ y.toInt ∧ y.toInt < 40 := by
        rcases hy with w | w
        · rw [w.2, ep]; omega
        · rw [w.2, es]; omega
      obtain ⟨j1, j2⟩ := bh33 hT hm (fun F1 h => (hF F1 h).1) hy hy0 h13 (by decide)
      refine ⟨j1, fun k hk => ?_⟩
      rw [j2 k hk, show Int32.toInt 0 = 0 from by decide]
      exact ⟨fun z => z.imp id (fun w => w.2), fun z => z.imp id (fun w => ⟨by omega, w⟩)⟩
    have nk : ∀ y : Int32, 0 ≤ y.toInt ∧ y.toInt < 40 → ∀ G1 G2 : Nat → va_E, (∀ b, b ≠ γ 9 2 → G1 b = G2 b) → ∀ k, lvS γ G1 y.toInt.toNat k = lvS γ G2 y.toInt.toNat k := fun y hy G1 G2 hG k => by
      unfold lvS
      rw [hG _ (fun e => by have ky := lr_kd hT k0 (show y.toInt.toNat < 40 by omega); rw [e, k2] at ky; exact absurd ky.1 (by decide))]
    rcases h01 with h01 | h01
    · obtain ⟨j1, j2⟩ := key _ (Or.inl ⟨h01, rfl⟩)
      refine ⟨fun b hb => (i1 b hb).trans (j1 b hb), fun k hk => ?_⟩
      rw [i2 k hk, j2 k hk, nk (fI (F q1) 3) (by rw [es]; omega) _ _ j1 k]
      constructor
      · rintro ((z | z) | z | z)
        · exact Or.inl z
        · exact Or.inr (Or.inl ⟨by omega, by omega, z⟩)
        · exact absurd z.1 (by omega)
        · exact Or.inr (Or.inr ⟨by omega, z.2.1, z.2.2⟩)
      · rintro (z | z | z)
        · exact Or.inl (Or.inl z)
        · exact Or.inl (Or.inr z.2.2)
        · exact Or.inr (Or.inr ⟨by omega, z.2.1, z.2.2⟩)
    · obtain ⟨j1, j2⟩ := key _ (Or.inr ⟨by omega, rfl⟩)
      refine ⟨fun b hb => (i1 b hb).trans (j1 b hb), fun k hk => ?_⟩
      rw [i2 k hk, j2 k hk]
      constructor
      · rintro ((z | z) | z | z)
        · exact Or.inl z
        · exact Or.inr (Or.inr ⟨by omega, by omega, z⟩)
        · exact absurd z.1 (by omega)
        · exact absurd z.1 (by omega)
      · rintro (z | z | z)
        · exact Or.inl (Or.inl z)
        · exact absurd z.1 (by omega)
        · exact Or.inl (Or.inr z.2.2)
theorem bh3 (hT : RS D I P F γ el) (hm : γ 0 q0 = 10) (hk : γ 0 q1 = 2) (hF : ∀ F1, rStr γ [] F F1 → F1 q1 = F q1 ∧ F1 (γ 15 q1) = F (γ 15 q1)) (h : tr_RModel_behind3 D I γ el P F q0 q1 F1) : (∀ k : Nat, k < 2048 → nwL γ F1 k = bhV (fI (F (γ 15 q1)) 0).toInt (fI (F q1) 2).toInt (fI (F q1) 3).toInt (lvS γ F) k) ∧ ∀ b, b ≠ γ 9 2 → F1 b = F b := by
  obtain ⟨k0, k1, k2, k3⟩ := md_kd hT hm
  obtain ⟨l, nn, p, s, v1, ⟨g1, g2, g3⟩, v3, v4, v5, v6, v7, v8, v9, -⟩ := show rk_2 γ q1 (F q1) from RS_o hT hk
  have ep : fI (F q1) 2 = p := by rw [v1]; rfl
  have es : fI (F q1) 3 = s := by rw [v1]; rfl
  have v81 := v8.1
  have v82 := v8.2
  have v91 := v9.1
  have v92 := v9.2
  refine h (fun F1 => (∀ k : Nat, k < 2048 → nwL γ F1 k = bhV (fI (F (γ 15 q1)) 0).toInt (fI (F q1) 2).toInt (fI (F q1) 3).toInt (lvS γ F) k) ∧ ∀ b, b ≠ γ 9 2 → F1 b = F b) ?_
  · intro x1 x2 h1 h2
    obtain ⟨z1, z2⟩ := bh2 h1 (fun j hj => by rw [show Int32.toInt 0 = 0 from by decide] at hj; omega)
    obtain ⟨z3, z4⟩ := bh23 hT hm hk hF h2 (by decide)
    refine ⟨fun k hk => ?_, fun b hb => (z3 b hb).trans (z2 b hb)⟩
    have nk : ∀ y : Int32, 0 ≤ y.toInt ∧ y.toInt < 40 → ∀ k, lvS γ x1 y.toInt.toNat k = lvS γ F y.toInt.toNat k := fun y hy k => by
      unfold lvS
      rw [z2 _ (fun e => by have ky := lr_kd hT k0 (show y.toInt.toNat < 40 by omega); rw [e, k2] at ky; exact absurd ky.1 (by decide))]
    have e0 : nwL γ x1 k = false := rbt_z (z1 (k / 64) (by omega))
    rw [Bool.eq_iff_iff, z4 k hk, bh_wn, e0, nk (fI (F q1) 2) (by rw [ep]; omega), nk (fI (F q1) 3) (by rw [es]; omega), show Int32.toInt 0 = 0 from by decide]
    constructor
    · rintro (z | z | z)
      · cases z
      · exact Or.inl z.2
      · exact Or.inr z.2
    · rintro (z | z)
      · exact Or.inr (Or.inl ⟨Int.le_refl _, z⟩)
      · exact Or.inr (Or.inr ⟨by decide, z⟩)
end GBK
end
section
/-! the graph of the reference -/
theorem bit_sh {x u v : Int64} {i : Int32} (hu : u = (x.toUInt64 >>> (i.toInt64.toUInt64 &&& Int64.toUInt64 63)).toInt64) (hv : v = u &&& 1) (h0 : 0 ≤ i.toInt) : (v = 0 → x.toBitVec.getLsbD (i.toInt.toNat % 64) = false) ∧ (¬ v = 0 → x.toBitVec.getLsbD (i.toInt.toNat % 64) = true) := by
  have e1 : (i.toInt64.toUInt64 &&& Int64.toUInt64 63) = (i.toInt64 &&& 63).toUInt64 := rfl
  rw [e1, lb_Qcnt i h0] at hu
  have h4 : ((x.toUInt64 >>> (Int64.ofNat (i.toInt.toNat % 64)).toUInt64).toInt64).toBitVec.getLsbD 0 = x.toBitVec.getLsbD (i.toInt.toNat % 64) := by
    have h5 : ((Int64.ofNat (i.toInt.toNat % 64)).toBitVec % 64#64).toNat = i.toInt.toNat % 64 := by
      show ((i.toInt.toNat % 64) % 2 ^ 64) % 64 = i.toInt.toNat % 64
      omega
    show (x.toBitVec >>> ((Int64.ofNat (i.toInt.toNat % 64)).toBitVec % 64#64).toNat).getLsbD 0 = _
    rw [BitVec.getLsbD_ushiftRight, h5, Nat.add_zero]
  have h3 : (1 : Int64).toBitVec.getLsbD 0 = true := by decide
  have hv0 : v.toBitVec.getLsbD 0 = x.toBitVec.getLsbD (i.toInt.toNat % 64) := by
    rw [hv, Int64.toBitVec_and, BitVec.getLsbD_and, h3, Bool.and_true, hu, h4]
  refine ⟨fun h => ?_, fun h => ?_⟩
  · rw [← hv0, h]; rfl
  · rw [← hv0]
    refine Classical.byContradiction fun hn => h ?_
    rw [Bool.not_eq_true] at hn
    apply Int64.toBitVec_inj.mp
    apply BitVec.eq_of_getLsbD_eq
    intro j hj
    have hz : (0 : Int64).toBitVec.getLsbD j = false := by show (0#64).getLsbD j = false; exact BitVec.getLsbD_zero
    rw [hz]
    by_cases e : j = 0
    · rw [e]; exact hn
    · have h1 : ∀ j : Fin 64, j.val ≠ 0 → (1 : Int64).toBitVec.getLsbD j.val = false := by decide +kernel
      rw [hv, Int64.toBitVec_and, BitVec.getLsbD_and, h1 ⟨j, hj⟩ e, Bool.and_false]
theorem ha_tr {a1 r : Int32} {v : Nat → Int64} (h0 : 0 ≤ a1.toInt) (h : tr_RModel_has a1 v r) : (r.toInt = 0 ∧ rbt v a1.toInt.toNat = false) ∨ (r.toInt = 1 ∧ rbt v a1.toInt.toNat = true) := by
  have key : ∀ x1 : Int32, x1.toInt = a1.toInt / 64 → v x1.toNatClampNeg = v (a1.toInt.toNat / 64) := fun x1 h1 => by
    have : (x1.toNatClampNeg : Int) = x1.toInt := g_nn (by omega)
    rw [show x1.toNatClampNeg = a1.toInt.toNat / 64 by omega]
  refine h (fun r => (r.toInt = 0 ∧ rbt v a1.toInt.toNat = false) ∨ (r.toInt = 1 ∧ rbt v a1.toInt.toNat = true)) ?_ ?_
  · intro x1 x2 x3 x4 h1 h2 h3 h4 h5
    refine Or.inl ⟨by decide, ?_⟩
    unfold rbt
    rw [← key x1 h1, ← h2]
    exact (bit_sh h3 h4 h0).1 h5
  · intro x1 x2 x3 x4 h1 h2 h3 h4 h5
    refine Or.inr ⟨by decide, ?_⟩
    unfold rbt
    rw [← key x1 h1, ← h2]
    exact (bit_sh h3 h4 h0).2 h5
theorem rs0 {γ : Nat → Nat → Nat} {F F1 : Nat → va_E} {x k : Nat} (h : rStr γ [] F F1) (hx : γ 0 x = k) (hk : 0 < k ∧ k ≤ 9) : F1 x = F x := h x (by omega) (Or.inl (by omega)) (fun z => nomatch z)
/-- row j of block b joins n with k -/
def jd (Q : gPg) (b j n k : Nat) : Prop := seR false (Q.2.2.1 b j) n ∧ Lv Q false k b (j + 1) ∧ k ≠ n ∧ ¬ (Q.2.2.1 b j 0 = 14 ∧ Q.2.2.1 b j 2 = (k : Int))
section GGR
variable {D : va_G} {I : FieldType → ClassId} {P : List Nat} {F F1 : Nat → va_E} {γ el : Nat → Nat → Nat} {q0 q1 : Nat} {Q : gPg} {a2 : Int32}
theorem g210 {s1 e1 : Nat → va_E} {l3 l5 c1 s2 : Int32} {kx : Nat} (hT : RS D I P F γ el) (hm : γ 0 q0 = 10) (hc : 0 ≤ c1.toInt ∧ c1.toInt < 2000) (h : tl_RModel_graph_210 D I γ el P F a2 q1 l3 l5 q0 c1 s1 s2 kx e1) : 0 ≤ s2.toInt → (∀ b, b ≠ γ 11 c1.toInt.toNat → e1 b = s1 b) ∧ ∀ k : Nat, k < 2048 → (egS γ e1 c1.toInt.toNat k = true ↔ egS γ s1 c1.toInt.toNat k = true ∨ (64 * s2.toInt ≤ (k : Int) ∧ nwL γ s1 k = true)) := by
  obtain ⟨k0, k1, k2, k3⟩ := md_kd hT hm
  have ky := er_kd hT k1 (show c1.toInt.toNat < 2000 by omega)
  have nk : γ 9 2 ≠ γ 11 c1.toInt.toNat := fun e => by rw [← e, k2] at ky; exact absurd ky.1 (by decide)
  refine h (fun s1 s2 _ e1 => 0 ≤ s2.toInt → (∀ b, b ≠ γ 11 c1.toInt.toNat → e1 b = s1 b) ∧ ∀ k : Nat, k < 2048 → (egS γ e1 c1.toInt.toNat k = true ↔ egS γ s1 c1.toInt.toNat k = true ∨ (64 * s2.toInt ≤ (k : Int) ∧ nwL γ s1 k = true))) ?_ ?_
  · intro F_3 l10_3 h1 h2 h3 h4 h5 h6
    intro h0
    exact ⟨fun _ _ => rfl, fun k hk => ⟨Or.inl, fun z => z.elim id (fun w => absurd w.1 (by have := h6; omega))⟩⟩
  · intro F_3 l10_3 x1 x2 x3 x4 x5 x6 x7 x8 x9 k e1 h1 h2 h3 h4 h5 h6 h7 h8 h9 h10 h11 h12 h13 h14 h15 h16 h17 h18 ih
    intro h0
    obtain ⟨i1, i2⟩ := ih (by omega)
    have hfr := h16
    rw [h8] at hfr
    have hp1 := h9
    have hp2 := h17
    rw [h8] at hp1 hp2
    refine ⟨fun b hb => (i1 b hb).trans (hfr b hb), fun k hk => ?_⟩
    rw [i2 k hk]
    have elv : nwL γ x8 k = nwL γ F_3 k := by unfold nwL; rw [hfr _ nk]
    have enw : egS γ x8 c1.toInt.toNat k = if k / 64 = l10_3.toNatClampNeg then (egS γ F_3 c1.toInt.toNat k || nwL γ F_3 k) else egS γ F_3 c1.toInt.toNat k := by
      unfold egS nwL
      rw [cL_of hp2, cL_of hp1, cL_of h12, rbt_updL h15]
      split
      · next e => rw [h14, Int64.toBitVec_or, BitVec.getLsbD_or, h10, h13, ← e]; rfl
      · rfl
    have hz : (l10_3.toNatClampNeg : Int) = l10_3.toInt := g_nn h0
    rw [elv, enw]
    by_cases e : k / 64 = l10_3.toNatClampNeg
    · rw [if_pos e, Bool.or_eq_true]
      constructor
      · rintro ((z | z) | z)
        · exact Or.inl z
        · exact Or.inr ⟨by omega, z⟩
        · exact Or.inr ⟨by omega, z.2⟩
      · rintro (z | z)
        · exact Or.inl (Or.inl z)
        · exact Or.inl (Or.inr z.2)
    · rw [if_neg e]
      constructor
      · rintro (z | z)
        · exact Or.inl z
        · exact Or.inr ⟨by omega, z.2⟩
      · rintro (z | z)
        · exact Or.inl z
        · exact Or.inr ⟨by omega, z.2⟩
theorem g210_2 {s1 e1 : Nat → va_E} {l3 l5 c1 s2 : Int32} {kx : Nat} (hT : RS D I P F γ el) (hm : γ 0 q0 = 10) (hc : 0 ≤ c1.toInt ∧ c1.toInt < 2000) (h : tl_RModel_graph_210_2 D I γ el P F a2 q1 l3 l5 q0 c1 s1 s2 kx e1) : 0 ≤ s2.toInt → (∀ b, b ≠ γ 11 c1.toInt.toNat → e1 b = s1 b) ∧ ∀ k : Nat, k < 2048 → (egS γ e1 c1.toInt.toNat k = true ↔ egS γ s1 c1.toInt.toNat k = true ∨ (64 * s2.toInt ≤ (k : Int) ∧ nwL γ s1 k = true)) := by
  obtain ⟨k0, k1, k2, k3⟩ := md_kd hT hm
  have ky := er_kd hT k1 (show c1.toInt.toNat < 2000 by omega)
  have nk : γ 9 2 ≠ γ 11 c1.toInt.toNat := fun e => by rw [← e, k2] at ky; exact absurd ky.1 (by decide)
  refine h (fun s1 s2 _ e1 => 0 ≤ s2.toInt → (∀ b, b ≠ γ 11 c1.toInt.toNat → e1 b = s1 b) ∧ ∀ k : Nat, k < 2048 → (egS γ e1 c1.toInt.toNat k = true ↔ egS γ s1 c1.toInt.toNat k = true ∨ (64 * s2.toInt ≤ (k : Int) ∧ nwL γ s1 k = true))) ?_ ?_
  · intro F_3 l10_3 h1 h2 h3 h4 h5 h6
    intro h0
    exact ⟨fun _ _ => rfl, fun k hk => ⟨Or.inl, fun z => z.elim id (fun w => absurd w.1 (by have := h6; omega))⟩⟩
  · intro F_3 l10_3 x1 x2 x3 x4 x5 x6 x7 x8 x9 k e1 h1 h2 h3 h4 h5 h6 h7 h8 h9 h10 h11 h12 h13 h14 h15 h16 h17 h18 ih
    intro h0
    obtain ⟨i1, i2⟩ := ih (by omega)
    have hfr := h16
    rw [h8] at hfr
    have hp1 := h9
    have hp2 := h17
    rw [h8] at hp1 hp2
    refine ⟨fun b hb => (i1 b hb).trans (hfr b hb), fun k hk => ?_⟩
    rw [i2 k hk]
    have elv : nwL γ x8 k = nwL γ F_3 k := by unfold nwL; rw [hfr _ nk]
    have enw : egS γ x8 c1.toInt.toNat k = if k / 64 = l10_3.toNatClampNeg then (egS γ F_3 c1.toInt.toNat k || nwL γ F_3 k) else egS γ F_3 c1.toInt.toNat k := by
      unfold egS nwL
      rw [cL_of hp2, cL_of hp1, cL_of h12, rbt_updL h15]
      split
      · next e => rw [h14, Int64.toBitVec_or, BitVec.getLsbD_or, h10, h13, ← e]; rfl
      · rfl
    have hz : (l10_3.toNatClampNeg : Int) = l10_3.toInt := g_nn h0
    rw [elv, enw]
    by_cases e : k / 64 = l10_3.toNatClampNeg
    · rw [if_pos e, Bool.or_eq_true]
      constructor
      · rintro ((z | z) | z)
        · exact Or.inl z
        · exact Or.inr ⟨by omega, z⟩
        · exact Or.inr ⟨by omega, z.2⟩
      · rintro (z | z)
        · exact Or.inl (Or.inl z)
        · exact Or.inl (Or.inr z.2)
    · rw [if_neg e]
      constructor
      · rintro (z | z)
        · exact Or.inl z
        · exact Or.inr ⟨by omega, z.2⟩
      · rintro (z | z)
        · exact Or.inl z
        · exact Or.inr ⟨by omega, z.2⟩
theorem g210_3 {s1 e1 : Nat → va_E} {l3 l5 c1 s2 : Int32} {kx : Nat} (hT : RS D I P F γ el) (hm : γ 0 q0 = 10) (hc : 0 ≤ c1.toInt ∧ c1.toInt < 2000) (h : tl_RModel_graph_210_3 D I γ el P F a2 q1 l3 l5 q0 c1 s1 s2 kx e1) : 0 ≤ s2.toInt → (∀ b, b ≠ γ 11 c1.toInt.toNat → e1 b = s1 b) ∧ ∀ k : Nat, k < 2048 → (egS γ e1 c1.toInt.toNat k = true ↔ egS γ s1 c1.toInt.toNat k = true ∨ (64 * s2.toInt ≤ (k : Int) ∧ nwL γ s1 k = true)) := by
  obtain ⟨k0, k1, k2, k3⟩ := md_kd hT hm
  have ky := er_kd hT k1 (show c1.toInt.toNat < 2000 by omega)
  have nk : γ 9 2 ≠ γ 11 c1.toInt.toNat := fun e => by rw [← e, k2] at ky; exact absurd ky.1 (by decide)
  refine h (fun s1 s2 _ e1 => 0 ≤ s2.toInt → (∀ b, b ≠ γ 11 c1.toInt.toNat → e1 b = s1 b) ∧ ∀ k : Nat, k < 2048 → (egS γ e1 c1.toInt.toNat k = true ↔ egS γ s1 c1.toInt.toNat k = true ∨ (64 * s2.toInt ≤ (k : Int) ∧ nwL γ s1 k = true))) ?_ ?_
  · intro F_3 l10_3 h1 h2 h3 h4 h5 h6
    intro h0
    exact ⟨fun _ _ => rfl, fun k hk => ⟨Or.inl, fun z => z.elim id (fun w => absurd w.1 (by have := h6; omega))⟩⟩
  · intro F_3 l10_3 x1 x2 x3 x4 x5 x6 x7 x8 x9 k e1 h1 h2 h3 h4 h5 h6 h7 h8 h9 h10 h11 h12 h13 h14 h15 h16 h17 h18 ih
    intro h0
    obtain ⟨i1, i2⟩ := ih (by omega)
    have hfr := h16
    rw [h8] at hfr
    have hp1 := h9
    have hp2 := h17
    rw [h8] at hp1 hp2
    refine ⟨fun b hb => (i1 b hb).trans (hfr b hb), fun k hk => ?_⟩
    rw [i2 k hk]
    have elv : nwL γ x8 k = nwL γ F_3 k := by unfold nwL; rw [hfr _ nk]
    have enw : egS γ x8 c1.toInt.toNat k = if k / 64 = l10_3.toNatClampNeg then (egS γ F_3 c1.toInt.toNat k || nwL γ F_3 k) else egS γ F_3 c1.toInt.toNat k := by
      unfold egS nwL
      rw [cL_of hp2, cL_of hp1, cL_of h12, rbt_updL h15]
      split
      · next e => rw [h14, Int64.toBitVec_or, BitVec.getLsbD_or, h10, h13, ← e]; rfl
      · rfl
    have hz : (l10_3.toNatClampNeg : Int) = l10_3.toInt := g_nn h0
    rw [elv, enw]
    by_cases e : k / 64 = l10_3.toNatClampNeg
    · rw [if_pos e, Bool.or_eq_true]
      constructor
      · rintro ((z | z) | z)
        · exact Or.inl z
        · exact Or.inr ⟨by omega, z⟩
        · exact Or.inr ⟨by omega, z.2⟩
      · rintro (z | z)
        · exact Or.inl (Or.inl z)
        · exact Or.inl (Or.inr z.2)
    · rw [if_neg e]
      constructor
      · rintro (z | z)
        · exact Or.inl z
        · exact Or.inr ⟨by omega, z.2⟩
      · rintro (z | z)
        · exact Or.inl z
        · exact Or.inr ⟨by omega, z.2⟩
theorem g210_4 {s1 e1 : Nat → va_E} {l3 l5 c1 s2 : Int32} {kx : Nat} (hT : RS D I P F γ el) (hm : γ 0 q0 = 10) (hc : 0 ≤ c1.toInt ∧ c1.toInt < 2000) (h : tl_RModel_graph_210_4 D I γ el P F a2 q1 l3 l5 q0 c1 s1 s2 kx e1) : 0 ≤ s2.toInt → (∀ b, b ≠ γ 11 c1.toInt.toNat → e1 b = s1 b) ∧ ∀ k : Nat, k < 2048 → (egS γ e1 c1.toInt.toNat k = true ↔ egS γ s1 c1.toInt.toNat k = true ∨ (64 * s2.toInt ≤ (k : Int) ∧ nwL γ s1 k = true)) := by
  obtain ⟨k0, k1, k2, k3⟩ := md_kd hT hm
  have ky := er_kd hT k1 (show c1.toInt.toNat < 2000 by omega)
  have nk : γ 9 2 ≠ γ 11 c1.toInt.toNat := fun e => by rw [← e, k2] at ky; exact absurd ky.1 (by decide)
  refine h (fun s1 s2 _ e1 => 0 ≤ s2.toInt → (∀ b, b ≠ γ 11 c1.toInt.toNat → e1 b = s1 b) ∧ ∀ k : Nat, k < 2048 → (egS γ e1 c1.toInt.toNat k = true ↔ egS γ s1 c1.toInt.toNat k = true ∨ (64 * s2.toInt ≤ (k : Int) ∧ nwL γ s1 k = true))) ?_ ?_
  · intro F_3 l10_3 h1 h2 h3 h4 h5 h6
    intro h0
    exact ⟨fun _ _ => rfl, fun k hk => ⟨Or.inl, fun z => z.elim id (fun w => absurd w.1 (by have := h6; omega))⟩⟩
  · intro F_3 l10_3 x1 x2 x3 x4 x5 x6 x7 x8 x9 k e1 h1 h2 h3 h4 h5 h6 h7 h8 h9 h10 h11 h12 h13 h14 h15 h16 h17 h18 ih
    intro h0
    obtain ⟨i1, i2⟩ := ih (by omega)
    have hfr := h16
    rw [h8] at hfr
    have hp1 := h9
    have hp2 := h17
    rw [h8] at hp1 hp2
    refine ⟨fun b hb => (i1 b hb).trans (hfr b hb), fun k hk => ?_⟩
    rw [i2 k hk]
    have elv : nwL γ x8 k = nwL γ F_3 k := by unfold nwL; rw [hfr _ nk]
    have enw : egS γ x8 c1.toInt.toNat k = if k / 64 = l10_3.toNatClampNeg then (egS γ F_3 c1.toInt.toNat k || nwL γ F_3 k) else egS γ F_3 c1.toInt.toNat k := by
      unfold egS nwL
      rw [cL_of hp2, cL_of hp1, cL_of h12, rbt_updL h15]
      split
      · next e => rw [h14, Int64.toBitVec_or, BitVec.getLsbD_or, h10, h13, ← e]; rfl
      · rfl
    have hz : (l10_3.toNatClampNeg : Int) = l10_3.toInt := g_nn h0
    rw [elv, enw]
    by_cases e : k / 64 = l10_3.toNatClampNeg
    · rw [if_pos e, Bool.or_eq_true]
      constructor
      · rintro ((z | z) | z)
        · exact Or.inl z
        · exact Or.inr ⟨by omega, z⟩
        · exact Or.inr ⟨by omega, z.2⟩
      · rintro (z | z)
        · exact Or.inl (Or.inl z)
        · exact Or.inl (Or.inr z.2)
    · rw [if_neg e]
      constructor
      · rintro (z | z)
        · exact Or.inl z
        · exact Or.inr ⟨by omega, z.2⟩
      · rintro (z | z)
        · exact Or.inl z
        · exact Or.inr ⟨by omega, z.2⟩
theorem g210_5 {s1 e1 : Nat → va_E} {l3 l5 c1 s2 : Int32} {kx : Nat} (hT : RS D I P F γ el) (hm : γ 0 q0 = 10) (hc : 0 ≤ c1.toInt ∧ c1.toInt < 2000) (h : tl_RModel_graph_210_5 D I γ el P F a2 q1 l3 l5 q0 c1 s1 s2 kx e1) : 0 ≤ s2.toInt → (∀ b, b ≠ γ 11 c1.toInt.toNat → e1 b = s1 b) ∧ ∀ k : Nat, k < 2048 → (egS γ e1 c1.toInt.toNat k = true ↔ egS γ s1 c1.toInt.toNat k = true ∨ (64 * s2.toInt ≤ (k : Int) ∧ nwL γ s1 k = true)) := by
  obtain ⟨k0, k1, k2, k3⟩ := md_kd hT hm
  have ky := er_kd hT k1 (show c1.toInt.toNat < 2000 by omega)
  have nk : γ 9 2 ≠ γ 11 c1.toInt.toNat := fun e => by rw [← e, k2] at ky; exact absurd ky.1 (by decide)
  refine h (fun s1 s2 _ e1 => 0 ≤ s2.toInt → (∀ b, b ≠ γ 11 c1.toInt.toNat → e1 b = s1 b) ∧ ∀ k : Nat, k < 2048 → (egS γ e1 c1.toInt.toNat k = true ↔ egS γ s1 c1.toInt.toNat k = true ∨ (64 * s2.toInt ≤ (k : Int) ∧ nwL γ s1 k = true))) ?_ ?_
  · intro F_3 l10_3 h1 h2 h3 h4 h5 h6
    intro h0
    exact ⟨fun _ _ => rfl, fun k hk => ⟨Or.inl, fun z => z.elim id (fun w => absurd w.1 (by have := h6; omega))⟩⟩
  · intro F_3 l10_3 x1 x2 x3 x4 x5 x6 x7 x8 x9 k e1 h1 h2 h3 h4 h5 h6 h7 h8 h9 h10 h11 h12 h13 h14 h15 h16 h17 h18 ih
    intro h0
    obtain ⟨i1, i2⟩ := ih (by omega)
    have hfr := h16
    rw [h8] at hfr
    have hp1 := h9
    have hp2 := h17
    rw [h8] at hp1 hp2
    refine ⟨fun b hb => (i1 b hb).trans (hfr b hb), fun k hk => ?_⟩
    rw [i2 k hk]
    have elv : nwL γ x8 k = nwL γ F_3 k := by unfold nwL; rw [hfr _ nk]
    have enw : egS γ x8 c1.toInt.toNat k = if k / 64 = l10_3.toNatClampNeg then (egS γ F_3 c1.toInt.toNat k || nwL γ F_3 k) else egS γ F_3 c1.toInt.toNat k := by
      unfold egS nwL
      rw [cL_of hp2, cL_of hp1, cL_of h12, rbt_updL h15]
      split
      · next e => rw [h14, Int64.toBitVec_or, BitVec.getLsbD_or, h10, h13, ← e]; rfl
      · rfl
    have hz : (l10_3.toNatClampNeg : Int) = l10_3.toInt := g_nn h0
    rw [elv, enw]
    by_cases e : k / 64 = l10_3.toNatClampNeg
    · rw [if_pos e, Bool.or_eq_true]
      constructor
      · rintro ((z | z) | z)
        · exact Or.inl z
        · exact Or.inr ⟨by omega, z⟩
        · exact Or.inr ⟨by omega, z.2⟩
      · rintro (z | z)
        · exact Or.inl (Or.inl z)
        · exact Or.inl (Or.inr z.2)
    · rw [if_neg e]
      constructor
      · rintro (z | z)
        · exact Or.inl z
        · exact Or.inr ⟨by omega, z.2⟩
      · rintro (z | z)
        · exact Or.inl z
        · exact Or.inr ⟨by omega, z.2⟩
theorem g210_6 {s1 e1 : Nat → va_E} {l3 l5 c1 s2 : Int32} {kx : Nat} (hT : RS D I P F γ el) (hm : γ 0 q0 = 10) (hc : 0 ≤ c1.toInt ∧ c1.toInt < 2000) (h : tl_RModel_graph_210_6 D I γ el P F a2 q1 l3 l5 q0 c1 s1 s2 kx e1) : 0 ≤ s2.toInt → (∀ b, b ≠ γ 11 c1.toInt.toNat → e1 b = s1 b) ∧ ∀ k : Nat, k < 2048 → (egS γ e1 c1.toInt.toNat k = true ↔ egS γ s1 c1.toInt.toNat k = true ∨ (64 * s2.toInt ≤ (k : Int) ∧ nwL γ s1 k = true)) := by
  obtain ⟨k0, k1, k2, k3⟩ := md_kd hT hm
  have ky := er_kd hT k1 (show c1.toInt.toNat < 2000 by omega)
  have nk : γ 9 2 ≠ γ 11 c1.toInt.toNat := fun e => by rw [← e, k2] at ky; exact absurd ky.1 (by decide)
  refine h (fun s1 s2 _ e1 => 0 ≤ s2.toInt → (∀ b, b ≠ γ 11 c1.toInt.toNat → e1 b = s1 b) ∧ ∀ k : Nat, k < 2048 → (egS γ e1 c1.toInt.toNat k = true ↔ egS γ s1 c1.toInt.toNat k = true ∨ (64 * s2.toInt ≤ (k : Int) ∧ nwL γ s1 k = true))) ?_ ?_
  · intro F_3 l10_3 h1 h2 h3 h4 h5 h6
    intro h0
    exact ⟨fun _ _ => rfl, fun k hk => ⟨Or.inl, fun z => z.elim id (fun w => absurd w.1 (by have := h6; omega))⟩⟩
  · intro F_3 l10_3 x1 x2 x3 x4 x5 x6 x7 x8 x9 k e1 h1 h2 h3 h4 h5 h6 h7 h8 h9 h10 h11 h12 h13 h14 h15 h16 h17 h18 ih
    intro h0
    obtain ⟨i1, i2⟩ := ih (by omega)
    have hfr := h16
    rw [h8] at hfr
    have hp1 := h9
    have hp2 := h17
    rw [h8] at hp1 hp2
    refine ⟨fun b hb => (i1 b hb).trans (hfr b hb), fun k hk => ?_⟩
    rw [i2 k hk]
    have elv : nwL γ x8 k = nwL γ F_3 k := by unfold nwL; rw [hfr _ nk]
    have enw : egS γ x8 c1.toInt.toNat k = if k / 64 = l10_3.toNatClampNeg then (egS γ F_3 c1.toInt.toNat k || nwL γ F_3 k) else egS γ F_3 c1.toInt.toNat k := by
      unfold egS nwL
      rw [cL_of hp2, cL_of hp1, cL_of h12, rbt_updL h15]
      split
      · next e => rw [h14, Int64.toBitVec_or, BitVec.getLsbD_or, h10, h13, ← e]; rfl
      · rfl
    have hz : (l10_3.toNatClampNeg : Int) = l10_3.toInt := g_nn h0
    rw [elv, enw]
    by_cases e : k / 64 = l10_3.toNatClampNeg
    · rw [if_pos e, Bool.or_eq_true]
      constructor
      · rintro ((z | z) | z)
        · exact Or.inl z
        · exact Or.inr ⟨by omega, z⟩
        · exact Or.inr ⟨by omega, z.2⟩
      · rintro (z | z)
        · exact Or.inl (Or.inl z)
        · exact Or.inl (Or.inr z.2)
    · rw [if_neg e]
      constructor
      · rintro (z | z)
        · exact Or.inl z
        · exact Or.inr ⟨by omega, z.2⟩
      · rintro (z | z)
        · exact Or.inl z
        · exact Or.inr ⟨by omega, z.2⟩
theorem st_v {G1 G2 : Nat → va_E} (hT : RS D I P F γ el) (hm : γ 0 q0 = 10) (h : ∀ b, b ≠ γ 9 3 → G1 b = G2 b) : (∀ n k, n < 2000 → egS γ G1 n k = egS γ G2 n k) ∧ (∀ k, nwL γ G1 k = nwL γ G2 k) ∧ ∀ i k, i < 40 → lvS γ G1 i k = lvS γ G2 i k := by
  obtain ⟨k0, k1, k2, k3⟩ := md_kd hT hm
  refine ⟨fun n k hn => ?_, fun k => ?_, fun i k hi => ?_⟩
  · have kn := er_kd hT k1 hn
    unfold egS
    rw [h _ (fun e => by rw [e, k3] at kn; exact absurd kn.1 (by decide))]
  · unfold nwL
    rw [h _ (fun e => by rw [e, k3] at k2; exact absurd k2 (by decide))]
  · have kl := lr_kd hT k0 hi
    unfold lvS
    rw [h _ (fun e => by rw [e, k3] at kl; exact absurd kl.1 (by decide))]
theorem bk_v {G1 G2 : Nat → va_E} (hT : RS D I P F γ el) (hm : γ 0 q0 = 10) (h : ∀ b, b ∈ P → b ≠ γ 9 2 → G1 b = G2 b) : (∀ n k, n < 2000 → egS γ G1 n k = egS γ G2 n k) ∧ ∀ i k, i < 40 → lvS γ G1 i k = lvS γ G2 i k := by
  obtain ⟨k0, k1, k2, k3⟩ := md_kd hT hm
  refine ⟨fun n k hn => ?_, fun i k hi => ?_⟩
  · have kn := er_kd hT k1 hn
    unfold egS
    rw [h _ (hT.1 _ (by omega)) (fun e => by rw [e, k2] at kn; exact absurd kn.1 (by decide))]
  · have kl := lr_kd hT k0 hi
    unfold lvS
    rw [h _ (hT.1 _ (by omega)) (fun e => by rw [e, k2] at kl; exact absurd kl.1 (by decide))]
/-- what the rows of a block leave -/
def gMo (γ : Nat → Nat → Nat) (Q : gPg) (i : Nat) (s1 : Nat → va_E) (s2 : Int) (e1 : Nat → va_E) : Prop :=
  (∀ k, k < 2048 → (nwL γ s1 k = true ↔ Lv Q false k i (s2 + 1).toNat)) → (∀ n, n < 2000 → egS γ s1 n n = false) → (∀ j k, j < 40 → lvS γ e1 j k = lvS γ s1 j k) ∧ (∀ n k, n < 2000 → k < 2048 → (egS γ e1 n k = true ↔ egS γ s1 n k = true ∨ ∃ j : Nat, (j : Int) ≤ s2 ∧ jd Q i j n k))
theorem g109_s {F2 F4 Fe Fb e1 : Nat → va_E} {i x2 : Nat} {l5 x10 : Int32} (hT : RS D I P F γ el) (hm : γ 0 q0 = 10) (hq : rfW γ el F q1 Q) (hO : qOk Q) (hi : i < Q.1) (h0 : 0 ≤ l5.toInt) (hlt : l5.toInt < (γ 2 (γ 14 (el (γ 14 q1) i)) : Int)) (hx2 : x2 = el (γ 14 (el (γ 14 q1) i)) l5.toInt.toNat) (hr : Fe x2 = F x2)
    (hst : ∀ b, b ≠ γ 9 3 → F4 b = F2 b) (hed : (∀ n k, n < 2000 → egS γ F2 n n = false → k < 2048 → (egS γ Fe n k = true ↔ egS γ F4 n k = true ∨ (seR false (Q.2.2.1 i l5.toInt.toNat) n ∧ nwL γ F4 k = true ∧ k ≠ n ∧ ¬ (Q.2.2.1 i l5.toInt.toNat 0 = 14 ∧ Q.2.2.1 i l5.toInt.toNat 2 = (k : Int))))) ∧ (∀ k, nwL γ Fe k = nwL γ F4 k) ∧ ∀ i k, i < 40 → lvS γ Fe i k = lvS γ F4 i k)
    (hbk : (∀ k : Nat, nwL γ Fb k = bkS (Fe x2) false (nwL γ Fe) k) ∧ ∀ b, b ∈ P → b ≠ γ 9 2 → Fb b = Fe b) (hx10 : x10.toInt = l5.toInt + (-1)) (ih : gMo γ Q i Fb x10.toInt e1) : gMo γ Q i F2 l5.toInt e1 := by
  intro hN hS
  obtain ⟨s1, s2, s3⟩ := st_v hT hm hst
  obtain ⟨e1', e2, e3⟩ := hed
  obtain ⟨b1, b2⟩ := hbk
  obtain ⟨v1, v2⟩ := bk_v hT hm b2
  have m := qR_m hq hi
  have hj : l5.toInt.toNat < Q.2.1 i := by omega
  have eN : (l5.toInt + 1).toNat = l5.toInt.toNat + 1 := by omega
  rw [eN] at hN
  have hE : ∀ n k, n < 2000 → k < 2048 → (egS γ Fb n k = true ↔ egS γ F2 n k = true ∨ jd Q i l5.toInt.toNat n k) := fun n k hn hk => by
    rw [v1 n k hn, e1' n k hn (hS n hn) hk, s1 n k hn, s2 k, hN k hk]
    exact Iff.rfl
  obtain ⟨i1, i2⟩ := ih (fun k hk => by
    rw [b1 k, hr, hx2, qrow hq hO hi (by omega), e2 k, s2 k, hN k hk, show (x10.toInt + 1).toNat = l5.toInt.toNat by omega, Lv_row hi hj]
    exact or_congr_right ⟨fun z => ⟨z.2, z.1⟩, fun z => ⟨z.2, z.1⟩⟩) (fun n hn => by
    rw [← Bool.not_eq_true, hE n n hn (by omega)]
    rintro (z | z)
    · rw [hS n hn] at z; cases z
    · exact z.2.2.1 rfl)
  refine ⟨fun j k hj => by rw [i1 j k hj, v2 j k hj, e3 j k hj, s3 j k hj], fun n k hn hk => ?_⟩
  rw [i2 n k hn hk, hE n k hn hk]
  constructor
  · rintro ((z | z) | ⟨j, w1, w2⟩)
    · exact Or.inl z
    · exact Or.inr ⟨_, by omega, z⟩
    · exact Or.inr ⟨j, by omega, w2⟩
  · rintro (z | ⟨j, w1, w2⟩)
    · exact Or.inl (Or.inl z)
    · by_cases e : (j : Int) = l5.toInt
      · exact Or.inl (Or.inr (by rw [show l5.toInt.toNat = j by omega]; exact w2))
      · exact Or.inr ⟨j, by omega, w2⟩
theorem hed_ot {F4 Fe : Nat → va_E} {tN : Nat} (hT : RS D I P F γ el) (hm : γ 0 q0 = 10) (htN : tN < 2000) (hfr : ∀ b, b ∈ P → b ≠ γ 11 tN → Fe b = F4 b) :
    (∀ n k, n < 2000 → n ≠ tN → egS γ Fe n k = egS γ F4 n k) ∧ (∀ k, nwL γ Fe k = nwL γ F4 k) ∧ ∀ i k, i < 40 → lvS γ Fe i k = lvS γ F4 i k := by
  obtain ⟨k0, k1, k2, k3⟩ := md_kd hT hm
  have ky := er_kd hT k1 htN
  refine ⟨fun n k hn e => ?_, fun k => ?_, fun i k hi => ?_⟩
  · have kn := er_kd hT k1 hn
    have hne : γ 11 n ≠ γ 11 tN := fun q => e (by rw [← kn.2, ← ky.2, q])
    unfold egS
    rw [hfr _ (hT.1 _ (by omega)) hne]
  · unfold nwL
    rw [hfr _ (hT.1 _ (by omega)) (fun e => by rw [← e, k2] at ky; exact absurd ky.1 (by decide))]
  · have kl := lr_kd hT k0 hi
    unfold lvS
    rw [hfr _ (hT.1 _ (by omega)) (fun e => by rw [← e, kl.1] at ky; exact absurd ky.1 (by decide))]
theorem g109 {i c1 kx : Nat} {s1 e1 : Nat → va_E} {l3 s2 : Int32} (hT : RS D I P F γ el) (hm : γ 0 q0 = 10) (hq : rfW γ el F q1 Q) (hO : qOk Q) (hi : i < Q.1) (hB : γ 0 (el (γ 14 q1) i) = 2) (hc1 : c1 = el (γ 14 q1) i) (ha : a2.toInt = 0) (h : tl_RModel_graph_109 D I γ el P F c1 a2 q1 l3 q0 s1 s2 kx e1) : gMo γ Q i s1 s2.toInt e1 := by
  obtain ⟨k0, k1, k2, k3⟩ := md_kd hT hm
  obtain ⟨l, nn, p, s, v1, ⟨g1, g2, g3⟩, v3, v4, v5, -⟩ := show rk_2 γ (el (γ 14 q1) i) (F (el (γ 14 q1) i)) from RS_o hT hB
  have kl := (show rk_3 D I γ el F l from RS_o hT v3).2
  have m := qR_m hq hi
  obtain ⟨-, ⟨rl1, rl2⟩, -⟩ := qR hq hi
  subst hc1
  refine h (fun s1 s2 _ e1 => gMo γ Q i s1 s2.toInt e1) ?_ ?_ ?_ ?_ ?_ ?_ ?_ ?_ ?_ ?_ ?_
  · intro F_2 l5_2 h1 h2 h3 h4 h5 h6 h7
    intro hN hS
    exact ⟨fun _ _ _ => rfl, fun n k hn hk => ⟨Or.inl, fun z => z.elim id (fun ⟨j, w1, w2⟩ => absurd w1 (by have := h7; omega))⟩⟩
  · intro F_2 l5_2 x1 x2 x3 x4 x5 x6 x7 x8 x9 x10 k e1 h1 h2 h3 h4 h5 h6 h7 h8 h9 h10 h11 h12 h13 h14 h15 h16 h17 h18 h19 h20 h21 h22 h23 h24 h25 h26 h27 h28 h29 ih
    exact absurd ha h22
  · intro F_2 l5_2 x1 x2 x3 x4 x5 x6 x7 x8 x9 x10 x11 x12 x13 x14 x15 k e1 h1 h2 h3 h4 h5 h6 h7 h8 h9 h10 h11 h12 h13 h14 h15 h16 h17 h18 h19 h20 h21 h22 h23 h24 h25 h26 h27 h28 h29 h30 h31 h32 h33 h34 h35 h36 h37 ih
    exact absurd ha h22
  · intro F_2 l5_2 x1 x2 x3 x4 x5 x6 x7 x8 x9 x10 k e1 h1 h2 h3 h4 h5 h6 h7 h8 h9 h10 h11 h12 h13 h14 h15 h16 h17 h18 h19 h20 h21 h22 h23 h24 h25 h26 h27 h28 h29 h30 ih
    have hF2 := h3
    have ex1 : x1 = l := by rw [← h8, rs0 hF2 hB (by decide), v1]; rfl
    have eL : γ 14 (el (γ 14 q1) i) = l := g1
    have h50 := h7
    have hlt := h4
    have ex2 : x2 = el (γ 14 (el (γ 14 q1) i)) l5_2.toInt.toNat := by rw [h9, ex1, eL]
    have kx2 : γ 0 x2 = 1 := by rw [ex2, eL]; exact (kl _ (by rw [eL] at hlt; omega)).1
    have er2 : F_2 x2 = F x2 := rs0 hF2 kx2 (by decide)
    have hst := st2 h16
    have er4 : x4 x2 = F x2 := (hst _ (fun e => by rw [e, k3] at kx2; cases kx2)).trans er2
    have rw4 := rl2 l5_2.toInt.toNat (by omega)
    rw [← ex2] at rw4
    obtain ⟨w1, w2, w3, w4, w5, w6⟩ := rw4
    have wO := (qB hO hi).1 l5_2.toInt.toNat (by omega)
    obtain ⟨o1, o2, o3, o4, o5, o6, o7⟩ := wO
    have qs := sO_tr ha h21
    rw [← h17, ← h18, er4] at qs
    have ox : (fI (F x2) 0).toInt = x5.toInt := by rw [← er4, h17]
    unfold opdE at w1 w2 w4 w6
    refine g109_s hT hm hq hO hi h50 (by omega) ex2 er4 hst ⟨fun n k hn hnn hk => ⟨Or.inl, fun z => z.elim id (fun w => ?_)⟩, fun _ => rfl, fun _ _ _ => rfl⟩ (bk3 h12 hm kx2 ha h29) h30 ih
    have z1 := w.1
    unfold seR at z1
    rw [if_neg (by decide)] at z1
    exact absurd z1 (by omega)
  · intro F_2 l5_2 x1 x2 x3 x4 x5 x6 x7 x8 x9 x10 x11 x12 x13 x14 x15 k e1 h1 h2 h3 h4 h5 h6 h7 h8 h9 h10 h11 h12 h13 h14 h15 h16 h17 h18 h19 h20 h21 h22 h23 h24 h25 h26 h27 h28 h29 h30 h31 h32 h33 h34 h35 h36 h37 h38 ih
    have hF2 := h3
    have ex1 : x1 = l := by rw [← h8, rs0 hF2 hB (by decide), v1]; rfl
    have eL : γ 14 (el (γ 14 q1) i) = l := g1
    have h50 := h7
    have hlt := h4
    have ex2 : x2 = el (γ 14 (el (γ 14 q1) i)) l5_2.toInt.toNat := by rw [h9, ex1, eL]
    have kx2 : γ 0 x2 = 1 := by rw [ex2, eL]; exact (kl _ (by rw [eL] at hlt; omega)).1
    have er2 : F_2 x2 = F x2 := rs0 hF2 kx2 (by decide)
    have hst := st2 h16
    have er4 : x4 x2 = F x2 := (hst _ (fun e => by rw [e, k3] at kx2; cases kx2)).trans er2
    have rw4 := rl2 l5_2.toInt.toNat (by omega)
    rw [← ex2] at rw4
    obtain ⟨w1, w2, w3, w4, w5, w6⟩ := rw4
    have wO := (qB hO hi).1 l5_2.toInt.toNat (by omega)
    obtain ⟨o1, o2, o3, o4, o5, o6, o7⟩ := wO
    have qs := sO_tr ha h21
    rw [← h17, ← h18, er4] at qs
    have ox : (fI (F x2) 0).toInt = x5.toInt := by rw [← er4, h17]
    unfold opdE at w1 w2 w4 w6
    have hx8 : x8.toInt = (fI (F x2) 1).toInt ∧ (fI (F x2) 0).toInt ≤ 21 := by rcases qs with z | z; exact ⟨z.2, z.1⟩; exact absurd z.2 (by omega)
    have b8 : 0 ≤ x8.toInt ∧ x8.toInt < 2000 := by have z := h20; have z1 := z.2; omega
    obtain ⟨y1, y2⟩ := g210_2 hT hm b8 h25 (by decide)
    rw [show Int32.toInt 0 = 0 from by decide] at y2
    have ht1 : Q.2.2.1 i l5_2.toInt.toNat 1 = ((x8.toInt.toNat : Nat) : Int) := by omega
    have fr0 : ∀ b, b ∈ P → b ≠ γ 11 x8.toInt.toNat → x9 b = x4 b := fun b _ hb => y1 b hb
    have c0 : ∀ k : Nat, k < 2048 → (egS γ x9 x8.toInt.toNat k = true ↔ egS γ x4 x8.toInt.toNat k = true ∨ nwL γ x4 k = true) := fun k hk => by rw [y2 k hk]; exact or_congr_right ⟨fun z => z.2, fun z => ⟨by omega, z⟩⟩
    have fa1 := h30
    rw [h27] at fa1
    have pa1 := h28
    rw [h27] at pa1
    have pb1 := h31
    rw [h27] at pb1
    have fr1 : ∀ b, b ∈ P → b ≠ γ 11 x8.toInt.toNat → x13 b = x4 b := fun b hb hne => (fa1 b hb (nm_c hne nm_n)).trans (fr0 b hb hne)
    have c1 : ∀ k : Nat, k < 2048 → (egS γ x13 x8.toInt.toNat k = true ↔ egS γ x9 x8.toInt.toNat k = true ∧ (k : Int) ≠ x8.toInt) := fun k hk => by
      unfold egS
      rw [cL_of pb1, cL_of pa1, cl_tr h29 (by omega) k, Bool.and_eq_true, Bool.not_eq_true', decide_eq_false_iff_not]
    have hre : x13 x2 = F x2 := (fr1 _ (hT.1 _ (by omega)) (fun e => by have z := er_kd hT k1 (show x8.toInt.toNat < 2000 by omega); rw [← e, kx2] at z; exact absurd z.1 (by decide))).trans er4
    refine g109_s (Fe := x13) hT hm hq hO hi h50 (by omega) ex2 hre hst ?_ (bk3 h32 hm kx2 ha h37) h38 ih
    have hst1 := st_v hT hm hst
    have hin : ∀ n, n < 2000 → egS γ F_2 n n = false → ∀ k : Nat, k < 2048 → n = x8.toInt.toNat → (egS γ x13 n k = true ↔ egS γ x4 n k = true ∨ (nwL γ x4 k = true ∧ k ≠ n ∧ ¬ (Q.2.2.1 i l5_2.toInt.toNat 0 = 14 ∧ Q.2.2.1 i l5_2.toInt.toNat 2 = (k : Int)))) := fun n hn hnn k hk en => by
      have e00 : egS γ x4 x8.toInt.toNat x8.toInt.toNat = false := by rw [hst1.1 _ _ (by omega), ← en]; exact hnn
      rw [en, c1 k hk, c0 k hk]
      by_cases q1 : (k : Int) = x8.toInt
      · have q2 : k = x8.toInt.toNat := by omega
        rw [q2, e00]
        constructor
        · intro z
          exfalso
          omega
        · rintro (z | z)
          · cases z
          · exact absurd rfl z.2.1
      · constructor
        · rintro ⟨z | z, _⟩
          · exact Or.inl z
          · exact Or.inr ⟨z, by omega, fun w => by omega⟩
        · rintro (z | z)
          · exact ⟨Or.inl z, q1⟩
          · exact ⟨Or.inr z.1, q1⟩
    have hot := hed_ot hT hm (show x8.toInt.toNat < 2000 by omega) fr1
    refine ⟨fun n k hn hnn hk => ?_, hot.2.1, hot.2.2⟩
    by_cases en : n = x8.toInt.toNat
    · rw [hin n hn hnn k hk en]
      refine or_congr_right ⟨fun z => ⟨?_, z⟩, fun z => z.2⟩
      unfold seR
      rw [if_neg (by decide), en]
      exact ht1
    · rw [hot.1 n k hn en]
      refine ⟨Or.inl, fun z => z.elim id (fun w => ?_)⟩
      have w1 := w.1
      unfold seR at w1
      rw [if_neg (by decide)] at w1
      exact absurd (by omega) en
  · intro F_2 l5_2 x1 x2 x3 x4 x5 x6 x7 x8 x9 x10 x11 k e1 h1 h2 h3 h4 h5 h6 h7 h8 h9 h10 h11 h12 h13 h14 h15 h16 h17 h18 h19 h20 h21 h22 h23 h24 h25 h26 h27 h28 h29 h30 h31 h32 ih
    have hF2 := h3
    have ex1 : x1 = l := by rw [← h8, rs0 hF2 hB (by decide), v1]; rfl
    have eL : γ 14 (el (γ 14 q1) i) = l := g1
    have h50 := h7
    have hlt := h4
    have ex2 : x2 = el (γ 14 (el (γ 14 q1) i)) l5_2.toInt.toNat := by rw [h9, ex1, eL]
    have kx2 : γ 0 x2 = 1 := by rw [ex2, eL]; exact (kl _ (by rw [eL] at hlt; omega)).1
    have er2 : F_2 x2 = F x2 := rs0 hF2 kx2 (by decide)
    have hst := st2 h16
    have er4 : x4 x2 = F x2 := (hst _ (fun e => by rw [e, k3] at kx2; cases kx2)).trans er2
    have rw4 := rl2 l5_2.toInt.toNat (by omega)
    rw [← ex2] at rw4
    obtain ⟨w1, w2, w3, w4, w5, w6⟩ := rw4
    have wO := (qB hO hi).1 l5_2.toInt.toNat (by omega)
    obtain ⟨o1, o2, o3, o4, o5, o6, o7⟩ := wO
    have qs := sO_tr ha h21
    rw [← h17, ← h18, er4] at qs
    have ox : (fI (F x2) 0).toInt = x5.toInt := by rw [← er4, h17]
    unfold opdE at w1 w2 w4 w6
    have ox5 : (fI (F x2) 5).toInt = x9.toInt := by rw [← er4, h24]
    exfalso
    omega
  · intro F_2 l5_2 x1 x2 x3 x4 x5 x6 x7 x8 x9 x10 x11 x12 x13 x14 x15 x16 k e1 h1 h2 h3 h4 h5 h6 h7 h8 h9 h10 h11 h12 h13 h14 h15 h16 h17 h18 h19 h20 h21 h22 h23 h24 h25 h26 h27 h28 h29 h30 h31 h32 h33 h34 h35 h36 h37 h38 h39 h40 ih
    have hF2 := h3
    have ex1 : x1 = l := by rw [← h8, rs0 hF2 hB (by decide), v1]; rfl
    have eL : γ 14 (el (γ 14 q1) i) = l := g1
    have h50 := h7
    have hlt := h4
    have ex2 : x2 = el (γ 14 (el (γ 14 q1) i)) l5_2.toInt.toNat := by rw [h9, ex1, eL]
    have kx2 : γ 0 x2 = 1 := by rw [ex2, eL]; exact (kl _ (by rw [eL] at hlt; omega)).1
    have er2 : F_2 x2 = F x2 := rs0 hF2 kx2 (by decide)
    have hst := st2 h16
    have er4 : x4 x2 = F x2 := (hst _ (fun e => by rw [e, k3] at kx2; cases kx2)).trans er2
    have rw4 := rl2 l5_2.toInt.toNat (by omega)
    rw [← ex2] at rw4
    obtain ⟨w1, w2, w3, w4, w5, w6⟩ := rw4
    have wO := (qB hO hi).1 l5_2.toInt.toNat (by omega)
    obtain ⟨o1, o2, o3, o4, o5, o6, o7⟩ := wO
    have qs := sO_tr ha h21
    rw [← h17, ← h18, er4] at qs
    have ox : (fI (F x2) 0).toInt = x5.toInt := by rw [← er4, h17]
    unfold opdE at w1 w2 w4 w6
    have ox5 : (fI (F x2) 5).toInt = x9.toInt := by rw [← er4, h24]
    have hx8 : x8.toInt = (fI (F x2) 1).toInt ∧ (fI (F x2) 0).toInt ≤ 21 := by rcases qs with z | z; exact ⟨z.2, z.1⟩; exact absurd z.2 (by omega)
    have b8 : 0 ≤ x8.toInt ∧ x8.toInt < 2000 := by have z := h20; have z1 := z.2; omega
    obtain ⟨y1, y2⟩ := g210_3 hT hm b8 h27 (by decide)
    rw [show Int32.toInt 0 = 0 from by decide] at y2
    have ht1 : Q.2.2.1 i l5_2.toInt.toNat 1 = ((x8.toInt.toNat : Nat) : Int) := by omega
    have fr0 : ∀ b, b ∈ P → b ≠ γ 11 x8.toInt.toNat → x10 b = x4 b := fun b _ hb => y1 b hb
    have c0 : ∀ k : Nat, k < 2048 → (egS γ x10 x8.toInt.toNat k = true ↔ egS γ x4 x8.toInt.toNat k = true ∨ nwL γ x4 k = true) := fun k hk => by rw [y2 k hk]; exact or_congr_right ⟨fun z => z.2, fun z => ⟨by omega, z⟩⟩
    have fa1 := h32
    rw [h29] at fa1
    have pa1 := h30
    rw [h29] at pa1
    have pb1 := h33
    rw [h29] at pb1
    have fr1 : ∀ b, b ∈ P → b ≠ γ 11 x8.toInt.toNat → x14 b = x4 b := fun b hb hne => (fa1 b hb (nm_c hne nm_n)).trans (fr0 b hb hne)
    have c1 : ∀ k : Nat, k < 2048 → (egS γ x14 x8.toInt.toNat k = true ↔ egS γ x10 x8.toInt.toNat k = true ∧ (k : Int) ≠ x8.toInt) := fun k hk => by
      unfold egS
      rw [cL_of pb1, cL_of pa1, cl_tr h31 (by omega) k, Bool.and_eq_true, Bool.not_eq_true', decide_eq_false_iff_not]
    have hre : x14 x2 = F x2 := (fr1 _ (hT.1 _ (by omega)) (fun e => by have z := er_kd hT k1 (show x8.toInt.toNat < 2000 by omega); rw [← e, kx2] at z; exact absurd z.1 (by decide))).trans er4
    refine g109_s (Fe := x14) hT hm hq hO hi h50 (by omega) ex2 hre hst ?_ (bk3 h34 hm kx2 ha h39) h40 ih
    have hst1 := st_v hT hm hst
    have hin : ∀ n, n < 2000 → egS γ F_2 n n = false → ∀ k : Nat, k < 2048 → n = x8.toInt.toNat → (egS γ x14 n k = true ↔ egS γ x4 n k = true ∨ (nwL γ x4 k = true ∧ k ≠ n ∧ ¬ (Q.2.2.1 i l5_2.toInt.toNat 0 = 14 ∧ Q.2.2.1 i l5_2.toInt.toNat 2 = (k : Int)))) := fun n hn hnn k hk en => by
      have e00 : egS γ x4 x8.toInt.toNat x8.toInt.toNat = false := by rw [hst1.1 _ _ (by omega), ← en]; exact hnn
      rw [en, c1 k hk, c0 k hk]
      by_cases q1 : (k : Int) = x8.toInt
      · have q2 : k = x8.toInt.toNat := by omega
        rw [q2, e00]
        constructor
        · intro z
          exfalso
          omega
        · rintro (z | z)
          · cases z
          · exact absurd rfl z.2.1
      · constructor
        · rintro ⟨z | z, _⟩
          · exact Or.inl z
          · exact Or.inr ⟨z, by omega, fun w => by omega⟩
        · rintro (z | z)
          · exact ⟨Or.inl z, q1⟩
          · exact ⟨Or.inr z.1, q1⟩
    have hot := hed_ot hT hm (show x8.toInt.toNat < 2000 by omega) fr1
    refine ⟨fun n k hn hnn hk => ?_, hot.2.1, hot.2.2⟩
    by_cases en : n = x8.toInt.toNat
    · rw [hin n hn hnn k hk en]
      refine or_congr_right ⟨fun z => ⟨?_, z⟩, fun z => z.2⟩
      unfold seR
      rw [if_neg (by decide), en]
      exact ht1
    · rw [hot.1 n k hn en]
      refine ⟨Or.inl, fun z => z.elim id (fun w => ?_)⟩
      have w1 := w.1
      unfold seR at w1
      rw [if_neg (by decide)] at w1
      exact absurd (by omega) en
  · intro F_2 l5_2 x1 x2 x3 x4 x5 x6 x7 x8 x9 x10 x11 k e1 h1 h2 h3 h4 h5 h6 h7 h8 h9 h10 h11 h12 h13 h14 h15 h16 h17 h18 h19 h20 h21 h22 h23 h24 h25 h26 h27 h28 h29 h30 h31 h32 ih
    have hF2 := h3
    have ex1 : x1 = l := by rw [← h8, rs0 hF2 hB (by decide), v1]; rfl
    have eL : γ 14 (el (γ 14 q1) i) = l := g1
    have h50 := h7
    have hlt := h4
    have ex2 : x2 = el (γ 14 (el (γ 14 q1) i)) l5_2.toInt.toNat := by rw [h9, ex1, eL]
    have kx2 : γ 0 x2 = 1 := by rw [ex2, eL]; exact (kl _ (by rw [eL] at hlt; omega)).1
    have er2 : F_2 x2 = F x2 := rs0 hF2 kx2 (by decide)
    have hst := st2 h16
    have er4 : x4 x2 = F x2 := (hst _ (fun e => by rw [e, k3] at kx2; cases kx2)).trans er2
    have rw4 := rl2 l5_2.toInt.toNat (by omega)
    rw [← ex2] at rw4
    obtain ⟨w1, w2, w3, w4, w5, w6⟩ := rw4
    have wO := (qB hO hi).1 l5_2.toInt.toNat (by omega)
    obtain ⟨o1, o2, o3, o4, o5, o6, o7⟩ := wO
    have qs := sO_tr ha h21
    rw [← h17, ← h18, er4] at qs
    have ox : (fI (F x2) 0).toInt = x5.toInt := by rw [← er4, h17]
    unfold opdE at w1 w2 w4 w6
    have ox5 : (fI (F x2) 5).toInt = x9.toInt := by rw [← er4, h24]
    exfalso
    omega
  · intro F_2 l5_2 x1 x2 x3 x4 x5 x6 x7 x8 x9 x10 x11 x12 x13 x14 x15 x16 x17 k e1 h1 h2 h3 h4 h5 h6 h7 h8 h9 h10 h11 h12 h13 h14 h15 h16 h17 h18 h19 h20 h21 h22 h23 h24 h25 h26 h27 h28 h29 h30 h31 h32 h33 h34 h35 h36 h37 h38 h39 h40 h41 h42 ih
    have hF2 := h3
    have ex1 : x1 = l := by rw [← h8, rs0 hF2 hB (by decide), v1]; rfl
    have eL : γ 14 (el (γ 14 q1) i) = l := g1
    have h50 := h7
    have hlt := h4
    have ex2 : x2 = el (γ 14 (el (γ 14 q1) i)) l5_2.toInt.toNat := by rw [h9, ex1, eL]
    have kx2 : γ 0 x2 = 1 := by rw [ex2, eL]; exact (kl _ (by rw [eL] at hlt; omega)).1
    have er2 : F_2 x2 = F x2 := rs0 hF2 kx2 (by decide)
    have hst := st2 h16
    have er4 : x4 x2 = F x2 := (hst _ (fun e => by rw [e, k3] at kx2; cases kx2)).trans er2
    have rw4 := rl2 l5_2.toInt.toNat (by omega)
    rw [← ex2] at rw4
    obtain ⟨w1, w2, w3, w4, w5, w6⟩ := rw4
    have wO := (qB hO hi).1 l5_2.toInt.toNat (by omega)
    obtain ⟨o1, o2, o3, o4, o5, o6, o7⟩ := wO
    have qs := sO_tr ha h21
    rw [← h17, ← h18, er4] at qs
    have ox : (fI (F x2) 0).toInt = x5.toInt := by rw [← er4, h17]
    unfold opdE at w1 w2 w4 w6
    have ox5 : (fI (F x2) 5).toInt = x9.toInt := by rw [← er4, h24]
    have ox2 : (fI (F x2) 2).toInt = x10.toInt := by rw [← er4, h26]
    obtain ⟨op, t, a, b, s, ra, rb, he, r1, r2, r3, r4, r5, r6, r7, r8, r9, r10⟩ := show rk_1 γ x2 (F x2) from RS_o hT kx2
    rw [he] at ox2 ox5
    have y1 : a.toInt = x10.toInt := ox2
    have y2 : ra.toInt = x9.toInt := ox5
    exfalso
    omega
  · intro F_2 l5_2 x1 x2 x3 x4 x5 x6 x7 x8 x9 x10 x11 x12 x13 x14 x15 x16 x17 x18 x19 x20 x21 x22 x23 k e1 h1 h2 h3 h4 h5 h6 h7 h8 h9 h10 h11 h12 h13 h14 h15 h16 h17 h18 h19 h20 h21 h22 h23 h24 h25 h26 h27 h28 h29 h30 h31 h32 h33 h34 h35 h36 h37 h38 h39 h40 h41 h42 h43 h44 h45 h46 h47 h48 h49 h50 h51 h52 h53 ih
    have hF2 := h3
    have ex1 : x1 = l := by rw [← h8, rs0 hF2 hB (by decide), v1]; rfl
    have eL : γ 14 (el (γ 14 q1) i) = l := g1
    have h50 := h7
    have hlt := h4
    have ex2 : x2 = el (γ 14 (el (γ 14 q1) i)) l5_2.toInt.toNat := by rw [h9, ex1, eL]
    have kx2 : γ 0 x2 = 1 := by rw [ex2, eL]; exact (kl _ (by rw [eL] at hlt; omega)).1
    have er2 : F_2 x2 = F x2 := rs0 hF2 kx2 (by decide)
    have hst := st2 h16
    have er4 : x4 x2 = F x2 := (hst _ (fun e => by rw [e, k3] at kx2; cases kx2)).trans er2
    have rw4 := rl2 l5_2.toInt.toNat (by omega)
    rw [← ex2] at rw4
    obtain ⟨w1, w2, w3, w4, w5, w6⟩ := rw4
    have wO := (qB hO hi).1 l5_2.toInt.toNat (by omega)
    obtain ⟨o1, o2, o3, o4, o5, o6, o7⟩ := wO
    have qs := sO_tr ha h21
    rw [← h17, ← h18, er4] at qs
    have ox : (fI (F x2) 0).toInt = x5.toInt := by rw [← er4, h17]
    unfold opdE at w1 w2 w4 w6
    have ox5 : (fI (F x2) 5).toInt = x9.toInt := by rw [← er4, h24]
    have ox2 : (fI (F x2) 2).toInt = x10.toInt := by rw [← er4, h26]
    have hx8 : x8.toInt = (fI (F x2) 1).toInt ∧ (fI (F x2) 0).toInt ≤ 21 := by rcases qs with z | z; exact ⟨z.2, z.1⟩; exact absurd z.2 (by omega)
    have b8 : 0 ≤ x8.toInt ∧ x8.toInt < 2000 := by have z := h20; have z1 := z.2; omega
    obtain ⟨y1, y2⟩ := g210_5 hT hm b8 h33 (by decide)
    rw [show Int32.toInt 0 = 0 from by decide] at y2
    have ht1 : Q.2.2.1 i l5_2.toInt.toNat 1 = ((x8.toInt.toNat : Nat) : Int) := by omega
    have fr0 : ∀ b, b ∈ P → b ≠ γ 11 x8.toInt.toNat → x13 b = x4 b := fun b _ hb => y1 b hb
    have c0 : ∀ k : Nat, k < 2048 → (egS γ x13 x8.toInt.toNat k = true ↔ egS γ x4 x8.toInt.toNat k = true ∨ nwL γ x4 k = true) := fun k hk => by rw [y2 k hk]; exact or_congr_right ⟨fun z => z.2, fun z => ⟨by omega, z⟩⟩
    have fa1 := h38
    rw [h35] at fa1
    have pa1 := h36
    rw [h35] at pa1
    have pb1 := h39
    rw [h35] at pb1
    have fr1 : ∀ b, b ∈ P → b ≠ γ 11 x8.toInt.toNat → x17 b = x4 b := fun b hb hne => (fa1 b hb (nm_c hne nm_n)).trans (fr0 b hb hne)
    have c1 : ∀ k : Nat, k < 2048 → (egS γ x17 x8.toInt.toNat k = true ↔ egS γ x13 x8.toInt.toNat k = true ∧ (k : Int) ≠ x10.toInt) := fun k hk => by
      unfold egS
      rw [cL_of pb1, cL_of pa1, cl_tr h37 (by omega) k, Bool.and_eq_true, Bool.not_eq_true', decide_eq_false_iff_not]
    have fa2 := h45
    rw [h42] at fa2
    have pa2 := h43
    rw [h42] at pa2
    have pb2 := h46
    rw [h42] at pb2
    have fr2 : ∀ b, b ∈ P → b ≠ γ 11 x8.toInt.toNat → x21 b = x4 b := fun b hb hne => (fa2 b hb (nm_c hne nm_n)).trans (fr1 b hb hne)
    have c2 : ∀ k : Nat, k < 2048 → (egS γ x21 x8.toInt.toNat k = true ↔ egS γ x17 x8.toInt.toNat k = true ∧ (k : Int) ≠ x8.toInt) := fun k hk => by
      unfold egS
      rw [cL_of pb2, cL_of pa2, cl_tr h44 (by omega) k, Bool.and_eq_true, Bool.not_eq_true', decide_eq_false_iff_not]
    have hh1 := ha_tr (by omega) h32
    have hpb := h31
    rw [h30] at hpb
    have hh2 : (egS γ x4 x8.toInt.toNat x10.toInt.toNat = true ↔ False) := by
      unfold egS
      rw [cL_of hpb]
      rcases hh1 with z | z
      · rw [z.2]; exact ⟨fun w => (nomatch w), fun w => w.elim⟩
      · exact absurd z.1 (by decide)
    have hre : x21 x2 = F x2 := (fr2 _ (hT.1 _ (by omega)) (fun e => by have z := er_kd hT k1 (show x8.toInt.toNat < 2000 by omega); rw [← e, kx2] at z; exact absurd z.1 (by decide))).trans er4
    refine g109_s (Fe := x21) hT hm hq hO hi h50 (by omega) ex2 hre hst ?_ (bk3 h47 hm kx2 ha h52) h53 ih
    have hst1 := st_v hT hm hst
    have hin : ∀ n, n < 2000 → egS γ F_2 n n = false → ∀ k : Nat, k < 2048 → n = x8.toInt.toNat → (egS γ x21 n k = true ↔ egS γ x4 n k = true ∨ (nwL γ x4 k = true ∧ k ≠ n ∧ ¬ (Q.2.2.1 i l5_2.toInt.toNat 0 = 14 ∧ Q.2.2.1 i l5_2.toInt.toNat 2 = (k : Int)))) := fun n hn hnn k hk en => by
      have e00 : egS γ x4 x8.toInt.toNat x8.toInt.toNat = false := by rw [hst1.1 _ _ (by omega), ← en]; exact hnn
      rw [en, c2 k hk, c1 k hk, c0 k hk]
      by_cases q1 : (k : Int) = x8.toInt
      · have q2 : k = x8.toInt.toNat := by omega
        rw [q2, e00]
        constructor
        · intro z
          exfalso
          omega
        · rintro (z | z)
          · cases z
          · exact absurd rfl z.2.1
      · by_cases q3 : (k : Int) = x10.toInt
        · have q4 : k = x10.toInt.toNat := by omega
          rw [q4]
          constructor
          · intro z
            exfalso
            omega
          · rintro (z | z)
            · exact (hh2.mp z).elim
            · exact absurd ⟨by omega, by omega⟩ z.2.2
        · constructor
          · rintro ⟨⟨z | z, _⟩, _⟩
            · exact Or.inl z
            · exact Or.inr ⟨z, by omega, fun w => by omega⟩
          · rintro (z | z)
            · exact ⟨⟨Or.inl z, q3⟩, q1⟩
            · exact ⟨⟨Or.inr z.1, q3⟩, q1⟩
    have hot := hed_ot hT hm (show x8.toInt.toNat < 2000 by omega) fr2
    refine ⟨fun n k hn hnn hk => ?_, hot.2.1, hot.2.2⟩
    by_cases en : n = x8.toInt.toNat
    · rw [hin n hn hnn k hk en]
      refine or_congr_right ⟨fun z => ⟨?_, z⟩, fun z => z.2⟩
      unfold seR
      rw [if_neg (by decide), en]
      exact ht1
    · rw [hot.1 n k hn en]
      refine ⟨Or.inl, fun z => z.elim id (fun w => ?_)⟩
      have w1 := w.1
      unfold seR at w1
      rw [if_neg (by decide)] at w1
      exact absurd (by omega) en
  · intro F_2 l5_2 x1 x2 x3 x4 x5 x6 x7 x8 x9 x10 x11 x12 x13 x14 x15 x16 x17 x18 x19 k e1 h1 h2 h3 h4 h5 h6 h7 h8 h9 h10 h11 h12 h13 h14 h15 h16 h17 h18 h19 h20 h21 h22 h23 h24 h25 h26 h27 h28 h29 h30 h31 h32 h33 h34 h35 h36 h37 h38 h39 h40 h41 h42 h43 h44 h45 h46 ih
    have hF2 := h3
    have ex1 : x1 = l := by rw [← h8, rs0 hF2 hB (by decide), v1]; rfl
    have eL : γ 14 (el (γ 14 q1) i) = l := g1
    have h50 := h7
    have hlt := h4
    have ex2 : x2 = el (γ 14 (el (γ 14 q1) i)) l5_2.toInt.toNat := by rw [h9, ex1, eL]
    have kx2 : γ 0 x2 = 1 := by rw [ex2, eL]; exact (kl _ (by rw [eL] at hlt; omega)).1
    have er2 : F_2 x2 = F x2 := rs0 hF2 kx2 (by decide)
    have hst := st2 h16
    have er4 : x4 x2 = F x2 := (hst _ (fun e => by rw [e, k3] at kx2; cases kx2)).trans er2
    have rw4 := rl2 l5_2.toInt.toNat (by omega)
    rw [← ex2] at rw4
    obtain ⟨w1, w2, w3, w4, w5, w6⟩ := rw4
    have wO := (qB hO hi).1 l5_2.toInt.toNat (by omega)
    obtain ⟨o1, o2, o3, o4, o5, o6, o7⟩ := wO
    have qs := sO_tr ha h21
    rw [← h17, ← h18, er4] at qs
    have ox : (fI (F x2) 0).toInt = x5.toInt := by rw [← er4, h17]
    unfold opdE at w1 w2 w4 w6
    have ox5 : (fI (F x2) 5).toInt = x9.toInt := by rw [← er4, h24]
    have ox2 : (fI (F x2) 2).toInt = x10.toInt := by rw [← er4, h26]
    have hx8 : x8.toInt = (fI (F x2) 1).toInt ∧ (fI (F x2) 0).toInt ≤ 21 := by rcases qs with z | z; exact ⟨z.2, z.1⟩; exact absurd z.2 (by omega)
    have b8 : 0 ≤ x8.toInt ∧ x8.toInt < 2000 := by have z := h20; have z1 := z.2; omega
    obtain ⟨y1, y2⟩ := g210_6 hT hm b8 h33 (by decide)
    rw [show Int32.toInt 0 = 0 from by decide] at y2
    have ht1 : Q.2.2.1 i l5_2.toInt.toNat 1 = ((x8.toInt.toNat : Nat) : Int) := by omega
    have fr0 : ∀ b, b ∈ P → b ≠ γ 11 x8.toInt.toNat → x13 b = x4 b := fun b _ hb => y1 b hb
    have c0 : ∀ k : Nat, k < 2048 → (egS γ x13 x8.toInt.toNat k = true ↔ egS γ x4 x8.toInt.toNat k = true ∨ nwL γ x4 k = true) := fun k hk => by rw [y2 k hk]; exact or_congr_right ⟨fun z => z.2, fun z => ⟨by omega, z⟩⟩
    have fa1 := h38
    rw [h35] at fa1
    have pa1 := h36
    rw [h35] at pa1
    have pb1 := h39
    rw [h35] at pb1
    have fr1 : ∀ b, b ∈ P → b ≠ γ 11 x8.toInt.toNat → x17 b = x4 b := fun b hb hne => (fa1 b hb (nm_c hne nm_n)).trans (fr0 b hb hne)
    have c1 : ∀ k : Nat, k < 2048 → (egS γ x17 x8.toInt.toNat k = true ↔ egS γ x13 x8.toInt.toNat k = true ∧ (k : Int) ≠ x8.toInt) := fun k hk => by
      unfold egS
      rw [cL_of pb1, cL_of pa1, cl_tr h37 (by omega) k, Bool.and_eq_true, Bool.not_eq_true', decide_eq_false_iff_not]
    have hh1 := ha_tr (by omega) h32
    have hpb := h31
    rw [h30] at hpb
    have hh2 : (egS γ x4 x8.toInt.toNat x10.toInt.toNat = true ↔ True) := by
      unfold egS
      rw [cL_of hpb]
      rcases hh1 with z | z
      · exact absurd z.1 (by decide)
      · rw [z.2]; exact ⟨fun _ => trivial, fun _ => rfl⟩
    have hre : x17 x2 = F x2 := (fr1 _ (hT.1 _ (by omega)) (fun e => by have z := er_kd hT k1 (show x8.toInt.toNat < 2000 by omega); rw [← e, kx2] at z; exact absurd z.1 (by decide))).trans er4
    refine g109_s (Fe := x17) hT hm hq hO hi h50 (by omega) ex2 hre hst ?_ (bk3 h40 hm kx2 ha h45) h46 ih
    have hst1 := st_v hT hm hst
    have hin : ∀ n, n < 2000 → egS γ F_2 n n = false → ∀ k : Nat, k < 2048 → n = x8.toInt.toNat → (egS γ x17 n k = true ↔ egS γ x4 n k = true ∨ (nwL γ x4 k = true ∧ k ≠ n ∧ ¬ (Q.2.2.1 i l5_2.toInt.toNat 0 = 14 ∧ Q.2.2.1 i l5_2.toInt.toNat 2 = (k : Int)))) := fun n hn hnn k hk en => by
      have e00 : egS γ x4 x8.toInt.toNat x8.toInt.toNat = false := by rw [hst1.1 _ _ (by omega), ← en]; exact hnn
      rw [en, c1 k hk, c0 k hk]
      by_cases q1 : (k : Int) = x8.toInt
      · have q2 : k = x8.toInt.toNat := by omega
        rw [q2, e00]
        constructor
        · intro z
          exfalso
          omega
        · rintro (z | z)
          · cases z
          · exact absurd rfl z.2.1
      · by_cases q3 : (k : Int) = x10.toInt
        · have q4 : k = x10.toInt.toNat := by omega
          have q5 := hh2.mpr trivial
          rw [← q4] at q5
          exact ⟨fun _ => Or.inl q5, fun _ => ⟨Or.inl q5, q1⟩⟩
        · constructor
          · rintro ⟨z | z, _⟩
            · exact Or.inl z
            · exact Or.inr ⟨z, by omega, fun w => by omega⟩
          · rintro (z | z)
            · exact ⟨Or.inl z, q1⟩
            · exact ⟨Or.inr z.1, q1⟩
    have hot := hed_ot hT hm (show x8.toInt.toNat < 2000 by omega) fr1
    refine ⟨fun n k hn hnn hk => ?_, hot.2.1, hot.2.2⟩
    by_cases en : n = x8.toInt.toNat
    · rw [hin n hn hnn k hk en]
      refine or_congr_right ⟨fun z => ⟨?_, z⟩, fun z => z.2⟩
      unfold seR
      rw [if_neg (by decide), en]
      exact ht1
    · rw [hot.1 n k hn en]
      refine ⟨Or.inl, fun z => z.elim id (fun w => ?_)⟩
      have w1 := w.1
      unfold seR at w1
      rw [if_neg (by decide)] at w1
      exact absurd (by omega) en
end GGR
end
