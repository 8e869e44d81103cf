theorem dr_cX14_program_59 : decode cX14_program 59 = .ok (.iinc 2 1, 3) := by decide +kernel
theorem dr_cX14_program_62 : decode cX14_program 62 = .ok (.goto (-44), 3) := by decide +kernel
theorem dr_cX14_program_48 : decode cX14_program 48 = .ok (.aload_n 0, 1) := by decide +kernel
theorem dr_cX14_program_49 : decode cX14_program 49 = .ok (.iconst 3, 1) := by decide +kernel
theorem dr_cX14_program_50 : decode cX14_program 50 = .ok (.aload_n 0, 1) := by decide +kernel
theorem dr_cX14_program_51 : decode cX14_program 51 = .ok (.getfield 21, 3) := by decide +kernel
theorem dr_cX14_program_54 : decode cX14_program 54 = .ok (.iload_n 2, 1) := by decide +kernel
theorem dr_cX14_program_55 : decode cX14_program 55 = .ok (.iaload, 1) := by decide +kernel
theorem dr_cX14_program_56 : decode cX14_program 56 = .ok (.invokevirtual 167, 3) := by decide +kernel
theorem dr_cX14_program_18 : decode cX14_program 18 = .ok (.iload_n 2, 1) := by decide +kernel
theorem dr_cX14_program_19 : decode cX14_program 19 = .ok (.aload_n 0, 1) := by decide +kernel
theorem dr_cX14_program_20 : decode cX14_program 20 = .ok (.getfield 143, 3) := by decide +kernel
theorem dr_cX14_program_23 : decode cX14_program 23 = .ok (.if_icmp .ge 42, 3) := by decide +kernel
theorem dr_cX14_program_65 : decode cX14_program 65 = .ok (.return_, 1) := by decide +kernel
theorem dr_cX14_program_26 : decode cX14_program 26 = .ok (.aload_n 0, 1) := by decide +kernel
theorem dr_cX14_program_27 : decode cX14_program 27 = .ok (.getfield 25, 3) := by decide +kernel
theorem dr_cX14_program_30 : decode cX14_program 30 = .ok (.iload_n 2, 1) := by decide +kernel
theorem dr_cX14_program_31 : decode cX14_program 31 = .ok (.iaload, 1) := by decide +kernel
theorem dr_cX14_program_32 : decode cX14_program 32 = .ok (.ifCond .eq 16, 3) := by decide +kernel
theorem dr_cX14_program_35 : decode cX14_program 35 = .ok (.aload_n 0, 1) := by decide +kernel
theorem dr_cX14_program_36 : decode cX14_program 36 = .ok (.getfield 25, 3) := by decide +kernel
theorem dr_cX14_program_39 : decode cX14_program 39 = .ok (.iload_n 2, 1) := by decide +kernel
theorem dr_cX14_program_40 : decode cX14_program 40 = .ok (.iaload, 1) := by decide +kernel
theorem dr_cX14_program_41 : decode cX14_program 41 = .ok (.aload_n 1, 1) := by decide +kernel
theorem dr_cX14_program_42 : decode cX14_program 42 = .ok (.invokevirtual 164, 3) := by decide +kernel
theorem dr_cX14_program_45 : decode cX14_program 45 = .ok (.if_icmp .lt 14, 3) := by decide +kernel
theorem dr_cX14_program_4 : decode cX14_program 4 = .ok (.aload_n 0, 1) := by decide +kernel
theorem dr_cX14_program_5 : decode cX14_program 5 = .ok (.aload_n 1, 1) := by decide +kernel
theorem dr_cX14_program_6 : decode cX14_program 6 = .ok (.invokevirtual 160, 3) := by decide +kernel
theorem wr_9_89 : (Jvm.Cond.methodLink "SpillForgeModel$Reader" (160 : Nat) ({ cls := "SpillForgeModel$Reader", name := "block", desc := "(LSpillForgeModel$Code;)V" } : Jvm.MethodName)) ∈ gw := gw_9 89 rfl rfl
theorem wr_9_92 : (Jvm.Cond.code ({ cls := "SpillForgeModel$Reader", name := "block", desc := "(LSpillForgeModel$Code;)V" } : Jvm.MethodName) prog_17_method_15_code (6 : Nat) (Option.none : Option Jvm.ClassFile.FieldType)) ∈ gw := gw_9 92 rfl rfl
theorem wr_9_91 : (Jvm.Cond.instanceMethod ({ cls := "SpillForgeModel$Reader", name := "block", desc := "(LSpillForgeModel$Code;)V" } : Jvm.MethodName)) ∈ gw := gw_9 91 rfl rfl
theorem wr_p_79 : Cond.selects "SpillForgeModel$Reader" ⟨"SpillForgeModel$Reader", "block", "(LSpillForgeModel$Code;)V"⟩ ⟨"SpillForgeModel$Reader", "block", "(LSpillForgeModel$Code;)V"⟩ ∈ gw := gw_p _ 79 rfl rfl rfl
theorem dr_cX14_program_9 : decode cX14_program 9 = .ok (.aload_n 0, 1) := by decide +kernel
theorem dr_cX14_program_10 : decode cX14_program 10 = .ok (.getfield 38, 3) := by decide +kernel
theorem dr_cX14_program_13 : decode cX14_program 13 = .ok (.ifCond .ne (-9), 3) := by decide +kernel
theorem dr_cX14_program_16 : decode cX14_program 16 = .ok (.iconst 0, 1) := by decide +kernel
theorem dr_cX14_program_17 : decode cX14_program 17 = .ok (.istore_n 2, 1) := by decide +kernel
theorem dr_cX14_program_0 : decode cX14_program 0 = .ok (.aload_n 1, 1) := by decide +kernel
theorem dr_cX14_program_1 : decode cX14_program 1 = .ok (.invokevirtual 155, 3) := by decide +kernel
theorem wr_9_85 : (Jvm.Cond.methodLink "SpillForgeModel$Reader" (155 : Nat) ({ cls := "SpillForgeModel$Code", name := "begin", desc := "()V" } : Jvm.MethodName)) ∈ gw := gw_9 85 rfl rfl
abbrev ky_rdp : gKey := (cX14_program, 3, "SpillForgeModel$Reader", none, [], "program", fun _ _ => True)
set_option maxRecDepth 100000 in
set_option maxHeartbeats 4000000 in
theorem pg_loop2 {l : Launch} (hl0 : l.stackTraces = false) {D : va_G} {I : FieldType → ClassId} {P P0 : List Nat} {F0 : Nat → va_E} {γ el γ0 el0 : Nat → Nat → Nat} {f c R tp g gp : Nat} {tx : gTz} {n a0 a k pl v b rw gn : Int32} {N : Nat} {fg fp : Nat → Int32} {j cs sl mc ms : Nat} {ft : Nat → Int32} {mb : Bool} {Q : gPg} (t0 : γ0 0 tp = 99) (hf1 : F0 tp = .inl (I .byte, 8192, .inl ft)) (hf2 : gF ft (-128) 127) (hmE : mcE (bA ft n.toInt) n.toInt mb Q gn fg) (h7 : γ 7 f = 0) (hj : 0 < j) (hcs : cs ≤ mc) (hsl : sl ≤ ms)
    (h1 : 18 * (cs : Int) + (rPh γ0 el0 f : Int) ≤ (rPh γ el f : Int) + 360 * (n.toInt - a0.toInt) + 720) (h2 : (sl : Int) + (rPh γ0 el0 f : Int) ≤ (rPh γ el f : Int) + 192 * (n.toInt - a0.toInt) + 40 * n.toInt + 900) (h3 : (rM γ el f : Int) ≤ (rM γ0 el0 f : Int) + 41 * (n.toInt - a0.toInt) + 300) :
    ∀ (μ : Nat) (F : Nat → va_E) (rp ru kk : Int32), gn.toInt - kk.toInt < (μ : Int) → 0 ≤ kk.toInt → kk.toInt ≤ gn.toInt → rSk f pgK pgF D I P0 F0 γ0 el0 P F γ el → rdI I P F γ R tp g gp tx n a k pl v b rp ru rw gn N fg fp → prI γ el F f c j fg gn rp rw → (0 ≤ rp.toInt ∨ glR fg kk.toInt j) → bkG rp mb fg kk.toInt j → rfI γ el F c j Q →
    G (gV D I) l (gRm 12 300 mc ms) (gMA (gV D I) (pgP D I P0 F0 γ0 el0 f R n a0 c ft) (pgX D I P0 F0 γ0 el0 f n a0 ft) mc ms) ky_rdp 18 [(2, .int kk), (0, .ref R), (1, .ref c)] [] (va_pl P F) cs sl := by
  intro μ
  induction μ with
  | zero =>
    intro F rp ru kk hμ hk0 hk1 hk hd hp hg hbG hrf
    exact absurd hμ (by omega)
  | succ μ ih =>
  intro F rp ru kk hμ hk0 hk1 hk hd hp hg hbG hrf
  obtain ⟨⟨r1, r2, r3⟩, ⟨gm, gF', g03⟩, ⟨gpm, gpF, gp03⟩, ⟨t25, -⟩, ⟨bn, ba, bk, bpl, bbf, brp, bru, brw, bgn⟩, ⟨an, tp0, vp0, hglP⟩, ⟨-, gnN, -, -, -⟩⟩ := id hd
  obtain ⟨⟨c0, c1, c6, c19⟩, h16, hmd, hB2, hGI, hrp⟩ := id hp
  have hT := hk.1
  obtain ⟨lb, lr, rn, md, w1, -⟩ := show rk_9 γ el c (F c) from RS_o hT c0
  have emd : md.toInt = (j : Int) := by
    have h := hmd
    rw [w1] at h
    exact h
  have mc1 := hT.1 c (by omega)
  have f1 : F tp = .inl (I .byte, 8192, .inl ft) := (rSk_F hk (show rKd γ0 tp 99 from t0) (by decide) (by decide)).trans hf1
  have k59 : ∀ (F1 : Nat → va_E) (rp1 ru1 : Int32), kk.toInt < gn.toInt → rFr [R] P F F1 → RS D I P F1 γ el → rdI I P F1 γ R tp g gp tx n a k pl v b rp1 ru1 rw gn N fg fp → (0 ≤ rp1.toInt ∨ (rp1 = rp ∧ glR fg (kk.toInt + 1) j)) → bkG rp1 mb fg (kk.toInt + 1) j → G (gV D I) l (gRm 12 300 mc ms) (gMA (gV D I) (pgP D I P0 F0 γ0 el0 f R n a0 c ft) (pgX D I P0 F0 γ0 el0 f n a0 ft) mc ms) ky_rdp 59 [(2, .int kk), (0, .ref R), (1, .ref c)] [] (va_pl P F1) cs sl := fun F1 rp1 ru1 hlt hfr1 hT1 hd1 hg1 hbG1 => by
    obtain ⟨kk1, hkk1⟩ : ∃ z, z = kk + 1 := ⟨_, rfl⟩
    have ekk : kk1.toInt = kk.toInt + 1 := by rw [gI_add hkk1 (⟨hk0, by have := bgn.2; omega⟩ : gB kk 0 1000000) (gBl (show Int32.toInt 1 = 1 by decide)) (by decide) (by decide), show Int32.toInt 1 = 1 from by decide]
    refine G_iinc kk1 0 dr_cX14_program_59 rfl (by rw [hkk1]; rfl) (Nat.le_of_ble_eq_true rfl) rfl ?_
    refine G_goto 18 dr_cX14_program_62 (by decide +kernel) ?_
    exact ih F1 rp1 ru1 kk1 (by omega) (by omega) (by omega) (rSk_ow hk rSub_rf hfr1 (wm_c (Or.inl r3) wm_n) (wm_c (Or.inl r3) wm_n) pgKF) hd1 (prI_ow hT hp hfr1 (wm_c (by rw [r3]; decide) wm_n) (by rcases hg1 with q | q; exact Or.inl q; rw [q.1]; exact hrp)) (by rcases hg1 with q | q; exact Or.inl q; rw [ekk]; exact Or.inr q.2) (by rw [ekk]; exact hbG1) (rfI_ow hT hrf hB2 hfr1 (wm_c (by rw [r3]; decide) wm_n))
  have k48 : kk.toInt < gn.toInt → gbd fg (kk.toInt + 1) j → G (gV D I) l (gRm 12 300 mc ms) (gMA (gV D I) (pgP D I P0 F0 γ0 el0 f R n a0 c ft) (pgX D I P0 F0 γ0 el0 f n a0 ft) mc ms) ky_rdp 48 [(2, .int kk), (0, .ref R), (1, .ref c)] [] (va_pl P F) cs sl := fun hlt hbad => by
    refine G_aload_n 1 dr_cX14_program_48 rfl ?_
    refine G_iconst 3 dr_cX14_program_49 (by decide +kernel) ?_
    refine G_aload_n 1 dr_cX14_program_50 rfl ?_
    refine Gp_get 11 r1 r2 dr_cX14_program_51 (gk_X14 D I) (Nat.le_of_ble_eq_true rfl) wr_9_49 rfl ?_
    refine G_iload_n 0 dr_cX14_program_54 rfl ?_
    refine Gp_iald 0 gpm gpF dr_cX14_program_55 rfl (gB_inr (by omega) (by omega)) (G_nam fun z hz => ?_)
    exact Gr_brk hl0 dr_cX14_program_56 ⟨wr_9_132, wr_1_32, wr_9_135, by decide, rfl, (Nat.le_of_ble_eq_true rfl), (Nat.le_of_ble_eq_true rfl)⟩ wr_9_134 wr_p_82 hT hd f1 hf2 ⟨by decide, by decide⟩ (by rw [hz]; exact hglP _) (show _ ≤ mc by omega) (show _ ≤ ms by omega) (Nat.le_of_ble_eq_true rfl) (fun F1 rp1 ru1 hfr1 hT1 hd1 h0 => k59 F1 rp1 ru1 hlt hfr1 hT1 hd1 (Or.inl h0) ⟨fun _ => Or.inr hbad, fun _ => h0⟩)
  refine G_iload_n 0 dr_cX14_program_18 rfl ?_
  refine G_aload_n 1 dr_cX14_program_19 rfl ?_
  refine Gp_get 13 r1 r2 dr_cX14_program_20 (gk_X14 D I) (Nat.le_of_ble_eq_true rfl) wr_9_51 rfl ?_
  refine G_icmp_ge 65 dr_cX14_program_23 (by decide +kernel) (fun hc => ?_) (fun hc => ?_)
  · have hle : gn.toInt ≤ kk.toInt := gj_le hc rfl
    have hee : kk.toInt = gn.toInt := by omega
    exact G_vretA dr_cX14_program_65 rfl hcs hsl (pgP_of hk h7 hd hp hj (by rw [← hee]; exact hg) hmE (by rw [← hee]; exact hbG) hrf h1 h2 h3)
  · have hlt : kk.toInt < gn.toInt := gj_nle hc rfl
    refine G_aload_n 1 dr_cX14_program_26 rfl ?_
    refine Gp_get 12 r1 r2 dr_cX14_program_27 (gk_X14 D I) (Nat.le_of_ble_eq_true rfl) wr_9_50 rfl ?_
    refine G_iload_n 0 dr_cX14_program_30 rfl ?_
    refine Gp_iald 0 gm gF' dr_cX14_program_31 rfl (gB_inr (by omega) (by omega)) (G_nam fun z hz => ?_)
    refine G_if_eq 48 dr_cX14_program_32 (by decide +kernel) (fun hz0 => k48 hlt (gbd_s hk0 hz (Or.inl (by rw [hz0]; decide)))) (fun hc0 => ?_)
    refine G_aload_n 1 dr_cX14_program_35 rfl ?_
    refine Gp_get 12 r1 r2 dr_cX14_program_36 (gk_X14 D I) (Nat.le_of_ble_eq_true rfl) wr_9_50 rfl ?_
    refine G_iload_n 0 dr_cX14_program_39 rfl ?_
    refine Gp_iald 0 gm gF' dr_cX14_program_40 rfl (gB_inr (by omega) (by omega)) (G_nam fun z2 hz2 => ?_)
    refine G_aload_n 2 dr_cX14_program_41 rfl ?_
    refine Gw_callV (As := []) (gV_ok D I) (cp_12780_Code_size l hl0 D I P F c lb lr rn md mc1 w1) dr_cX14_program_42 ⟨wr_9_128, wr_1_15, wr_9_131, by decide, rfl, (Nat.le_of_ble_eq_true rfl), (Nat.le_of_ble_eq_true rfl)⟩ wr_9_129 wr_9_130 mc1 w1 rfl (show _ ≤ mc by omega) (show _ ≤ ms by omega) (Nat.le_of_ble_eq_true rfl) (fun r w dc ds hp' => ?_) (fun _ _ _ _ _ z => z.elim)
    obtain ⟨rfl, rfl, hdc, hds⟩ := hp'
    change G _ _ _ _ _ _ _ (.int md :: .int z2 :: []) _ _ _
    refine G_widen (cs' := cs) (sl' := sl) (by omega) (by omega) ?_
    refine G_icmp_lt 59 dr_cX14_program_45 (by decide +kernel) (fun hc1 => ?_) (fun hc1 => k48 hlt (gbd_s hk0 hz2 (Or.inr (by rw [← emd]; exact gj_nlt hc1 rfl))))
    have hl1 : z2.toInt < md.toInt := gj_lt hc1 rfl
    have ezz : z2 = z := hz2.trans hz.symm
    have hz0 : z2.toInt ≠ 0 := fun e => hc0 (by rw [← ezz]; exact Int32.toInt_inj.mp (e.trans (show (0 : Int) = Int32.toInt 0 by decide)))
    have hbG2 : bkG rp mb fg (kk.toInt + 1) j := by unfold bkG at hbG ⊢; rw [gbd_o hk0 hz2 hz0 (by omega)]; exact hbG
    refine k59 F rp ru hlt (fun _ _ _ => rfl) hT hd ?_ hbG2
    rcases hg with q | q
    · exact Or.inl q
    · by_cases q0 : 0 ≤ rp.toInt
      · exact Or.inl q0
      · exact Or.inr ⟨rfl, glR_s q hk0 hz2 (by omega)⟩
set_option maxRecDepth 100000 in
set_option maxHeartbeats 4000000 in
theorem pg_loop {l : Launch} (hl0 : l.stackTraces = false) {D : va_G} {I : FieldType → ClassId} {P0 : List Nat} {F0 : Nat → va_E} {γ0 el0 : Nat → Nat → Nat} {f c R tp : Nat} {n a0 : Int32} {N0 M mc ms : Nat} {ft : Nat → Int32} (t0 : γ0 0 tp = 99) (hf1 : F0 tp = .inl (I .byte, 8192, .inl ft)) (hf2 : gF ft (-128) 127) (ha0 : 0 ≤ a0.toInt)
    (hM : (rM γ0 el0 f : Int) + 41 * (n.toInt - a0.toInt) + 600 ≤ M) (hM9 : M ≤ 2000000) (hMC : (M : Int) + 360 * (n.toInt - a0.toInt) + 1000 ≤ 18 * (mc : Int) + (rPh γ0 el0 f : Int)) (hMS : (M : Int) + 192 * (n.toInt - a0.toInt) + 40 * n.toInt + 1200 ≤ (ms : Int) + (rPh γ0 el0 f : Int)) :
    ∀ (μ : Nat) (P : List Nat) (F : Nat → va_E) (γ el : Nat → Nat → Nat) (g gp : Nat) (tx : gTz) (a k pl v b rp ru rw gn : Int32) (N : Nat) (fg fp : Nat → Int32) (j cs sl mi : Nat) (du : Int) (mb : Bool) (Q : gPg), n.toInt - a.toInt < (μ : Int) → rSk f pgK pgF D I P0 F0 γ0 el0 P F γ el → γ 7 f = 0 → rdI I P F γ R tp g gp tx n a k pl v b rp ru rw gn N fg fp → prI γ el F f c j fg gn rp rw → mcI (bA ft n.toInt) n.toInt mi a k v tx.2 du rw.toInt mb Q gn fg rp → du ≤ 1 → ((tk (bA ft n.toInt) n.toInt mi).1 = 1 → du ≠ 1) → rfI γ el F c j Q →
    (0 ≤ rw.toInt ∧ 2 * rw.toInt + 3 * (j : Int) ≤ a.toInt - a0.toInt ∧ N0 ≤ N) →
    18 * (cs : Int) + (rPh γ0 el0 f : Int) ≤ (rPh γ el f : Int) + 18 * (16 * (a.toInt - a0.toInt) + 8 * rw.toInt + 4 * (j : Int)) → (sl : Int) + (rPh γ0 el0 f : Int) ≤ (rPh γ el f : Int) + 160 * (a.toInt - a0.toInt) + 64 * rw.toInt + 4 * ((N : Int) - N0) → (rM γ el f : Int) ≤ (rM γ0 el0 f : Int) + 123 * (j : Int) + 36 * rw.toInt →
    G (gV D I) l (gRm 12 300 mc ms) (gMA (gV D I) (pgP D I P0 F0 γ0 el0 f R n a0 c ft) (pgX D I P0 F0 γ0 el0 f n a0 ft) mc ms) ky_rdp 4 [(0, .ref R), (1, .ref c)] [] (va_pl P F) cs sl := by
  intro μ
  induction μ with
  | zero =>
    intro P F γ el g gp tx a k pl v b rp ru rw gn N fg fp j cs sl mi du mb Q hμ hk h7 hd hp hmc hdu hdE hrf hρ hcs hsl hrm
    exact absurd hμ (by have := hd.2.2.2.2.2.1.1; omega)
  | succ μ ih =>
  intro P F γ el g gp tx a k pl v b rp ru rw gn N fg fp j cs sl mi du mb Q hμ hk h7 hd hp hmc hdu hdE hrf hρ hcs hsl hrm
  obtain ⟨⟨r1, r2, r3⟩, -, -, ⟨t25, -⟩, ⟨bn, ba, -, -, -, -, -, brw, bgn⟩, ⟨an, -, -, -⟩, ⟨n1, n2, n3, n4, rwa⟩⟩ := id hd
  obtain ⟨⟨c0, c1, c6, c19⟩, -, -, -, -, -⟩ := id hp
  have hT := hk.1
  obtain ⟨sz1, -, -, -, -⟩ := rsz hT c0 c1
  obtain ⟨hρ0, hρ1, hρ2⟩ := hρ
  refine G_aload_n 0 dr_cX14_program_4 rfl ?_
  refine G_aload_n 1 dr_cX14_program_5 rfl ?_
  have f1 : F tp = .inl (I .byte, 8192, .inl ft) := (rSk_F hk (show rKd γ0 tp 99 from t0) (by decide) (by decide)).trans hf1
  have sz1' : (rPh γ el f : Int) + 100 ≤ (rM γ el f : Int) := by clear ih hd hp hcs hsl hrm hMC hMS hM; omega
  obtain ⟨A1, A2, A3, A4, A5⟩ := pgA hM hMC hMS hρ0 hρ1 (Int.natCast_nonneg j) hcs hsl hrm sz1' an n1 n4 (Int.natCast_nonneg N0) ha0
  have hcm : cs ≤ mc := Int.ofNat_le.mp A4
  have hsm : sl ≤ ms := Int.ofNat_le.mp A5
  have emc : ((mc - cs : Nat) : Int) = (mc : Int) - cs := Int.ofNat_sub hcm
  have ems : ((ms - sl : Nat) : Int) = (ms : Int) - sl := Int.ofNat_sub hsm
  refine Gw_callV (As := [.ref c]) (gV_ok D I) (cp_rdb l hl0 D I (M := M) (mc := mc - cs) (ms := ms - sl) f1 hf2 hmc hdu hdE hrf hT hd hp A1 hM9 (by rw [emc]; exact A2) (by rw [ems]; exact A3)) dr_cX14_program_6 ⟨wr_9_89, wr_1_32, wr_9_92, by decide, rfl, (Nat.le_of_ble_eq_true rfl), (Nat.le_of_ble_eq_true rfl)⟩ wr_9_91 wr_p_79 r1 r2 rfl (show cs + (mc - cs) ≤ mc from Nat.le_of_eq (Nat.add_sub_cancel' hcm)) (show sl + (ms - sl) ≤ ms from Nat.le_of_eq (Nat.add_sub_cancel' hsm)) (Nat.le_of_ble_eq_true rfl) (fun r w dc ds hq => ?_) (fun E q w dc ds hx => ?_)
  · obtain ⟨P1, F1, γ1, el1, g1, gp1, tx1, a1, k1, pl1, v1, b1, rp1, ru1, rw1, gn1, N1, fg1, fp1, i1, bk1, Q1, rfl, rfl, hk1, hnu1, hd1, hp1, ⟨m1, m2, m3, m4⟩, e1, e2, e3, hmc1, hrf1⟩ := hq
    have hkk := rSk_tr hk hk1 (by decide) (by decide) pgKF
    have h71 : γ1 7 f = 0 := hnu1.2.1.trans h7
    obtain ⟨sy1, -⟩ := rsz hkk.1 hp1.1.1 hp1.1.2.1
    obtain ⟨⟨r1', r2', -⟩, -, -, -, ⟨-, ba1, -, -, -, -, -, -, bgn1⟩, ⟨an1, -, -, -⟩, ⟨n1', n2', n3', n4', rwa1⟩⟩ := id hd1
    refine G_aload_n 0 dr_cX14_program_9 rfl ?_
    refine Gp_get 3 r1' r2' dr_cX14_program_10 (gk_X14 D I) (Nat.le_of_ble_eq_true rfl) wr_9_39 rfl ?_
    refine G_if_ne 4 dr_cX14_program_13 (by decide +kernel) (fun hc => ?_) (fun hc => ?_)
    · have hk1' : k1.toInt ≠ 0 := fun e => hc (Int32.toInt_inj.mp (e.trans (show (0 : Int) = Int32.toInt 0 by decide)))
      obtain ⟨B1, B2, B3, B4, B5⟩ := pgB9 hρ0 hρ1 hcs hsl hrm (m2.resolve_left hk1') m3 e1 e2 e3
      have hμ' : n.toInt - a1.toInt < (μ : Int) := by
        have q1 : n.toInt - a.toInt < (μ : Int) + 1 := hμ
        have q2 : 2 * (rw1.toInt - rw.toInt) + 2 ≤ a1.toInt - a.toInt := m1
        have q3 : rw.toInt ≤ rw1.toInt := m3
        clear ih hd hp hd1 hp1 hcs hsl hrm hMC hMS hM A1 A2 A3 A4 A5 B1 B2 B3 B4 B5 e1 e2 e3 m1 m2 m3 hρ1
        omega
      exact ih P1 F1 γ1 el1 g1 gp1 tx1 a1 k1 pl1 v1 b1 rp1 ru1 rw1 gn1 N1 fg1 fp1 (j + 1) (cs + dc) (sl + ds) i1 1 bk1 Q1 hμ' hkk h71 hd1 hp1 hmc1 (Int.le_refl _) (fun z => absurd (hmc1.1.1.1.mpr z) hk1') hrf1 ⟨B1, B2, Nat.le_trans hρ2 m4⟩ B3 B4 B5
    · have sy1' : (rPh γ1 el1 f : Int) + 100 ≤ (rM γ1 el1 f : Int) := by clear ih hd hp hd1 hp1 hcs hsl hrm hMC hMS hM A1 A2 A3 A4 A5 e1 e2 e3 m1 m2 m3 hρ1; omega
      obtain ⟨C1, C2, C3, C4, C5⟩ := pgC hM hMC hMS hρ0 hρ1 (Int.natCast_nonneg j) hcs hsl hrm (Int.natCast_nonneg N0) ha0 m1 m3 e1 e2 e3 sy1' an1 n1' n4'
      refine G_iconst 0 dr_cX14_program_16 (by decide +kernel) ?_
      refine G_istore_n (L' := [(2, .int 0), (0, .ref R), (1, .ref c)]) dr_cX14_program_17 (Nat.le_of_ble_eq_true rfl) rfl ?_
      have z0 : Int32.toInt 0 = 0 := by decide
      have hk0e : k1 = 0 := by first | exact hc | exact Classical.byContradiction fun z => hc z
      have b0 := bgn1.1
      have u6 : gn1.toInt - Int32.toInt 0 < ((gn1.toInt.toNat + 1 : Nat) : Int) := by rw [z0]; clear C1 C2 C3 C4 C5 hMC hMS hM hcs hsl hrm e1 e2 e3 hd1 hp1 hd hp ih A1 A2 A3 A4 A5 m1 m2 m3 hρ1; omega
      exact pg_loop2 hl0 (P := P1) (γ := γ1) (el := el1) (g := g1) (gp := gp1) (tx := tx1) (a := a1) (k := k1) (pl := pl1) (v := v1) (b := b1) (rw := rw1) (gn := gn1) (N := N1) (fg := fg1) (fp := fp1) (j := j + 1) (cs := cs + dc) (sl := sl + ds) (mb := bk1) (Q := Q1) t0 hf1 hf2 ⟨⟨i1, hmc1.2.1.choose, hmc1.2.1.choose_spec.choose, hmc1.2.1.choose_spec.choose_spec.choose, hmc1.2.1.choose_spec.choose_spec.choose_spec.choose, rw1.toInt, hmc1.2.1.choose_spec.choose_spec.choose_spec.choose_spec, hmc1.1.1.1.mp (by rw [hk0e]; decide)⟩, hmc1.2.2.1⟩ h71 (Nat.succ_pos j) (Int.ofNat_le.mp C1) (Int.ofNat_le.mp C2) C3 C4 C5 (gn1.toInt.toNat + 1) F1 rp1 ru1 0 u6 (Int.le_of_eq z0.symm) (by rw [z0]; exact b0) hkk hd1 hp1 (Or.inr (glR_0 z0)) ⟨fun z => Or.inl (hmc1.2.2.2.mp z), fun z => hmc1.2.2.2.mpr (z.resolve_right (gbd_n z0))⟩ hrf1
  · obtain ⟨P1, F1, γ1, el1, rfl, rfl, hk1, hnu1, hq, hwr, e1, e2, e3, hrj⟩ := hx
    obtain ⟨sy1, -⟩ := rsz hk1.1 (rSk_k hk1 (show rKd γ c 9 from c0) (by decide) (by decide)) (rSk_1 hk1 (show rKd γ c 9 from c0) (by decide) c1)
    have sy1' : (rPh γ1 el1 f : Int) + 100 ≤ (rM γ1 el1 f : Int) := by clear ih hd hp hcs hsl hrm hMC hMS hM A1 A2 A3 A4 A5 e1 e2 e3 hρ1; omega
    obtain ⟨C1, C2, C3, C4, C5⟩ := pgD hM hMC hMS hρ0 hρ1 (Int.natCast_nonneg j) hcs hsl hrm (Int.natCast_nonneg N0) ha0 an n1 n4 e1 e2 e3 sy1'
    exact GT_outA rfl (Int.ofNat_le.mp C1) (Int.ofNat_le.mp C2) ⟨P1, F1, γ1, el1, rfl, rfl, rSk_tr hk hk1 (by decide) (by decide) pgKF, hnu1.2.1.trans h7, hq, hwr, C3, C4, C5, hrj⟩
set_option maxRecDepth 100000 in
set_option maxHeartbeats 4000000 in
theorem cp_rdp (l : Launch) (hl0 : l.stackTraces = false) (D : va_G) (I : FieldType → ClassId) {P : List Nat} {F : Nat → va_E} {γ el : Nat → Nat → Nat} {f c R tp g gp : Nat} {tx : gTz} {n a k pl v b rp ru rw gn : Int32} {N : Nat} {fg fp : Nat → Int32} {M mc ms : Nat} {ft : Nat → Int32} (f1 : F tp = .inl (I .byte, 8192, .inl ft)) (f2 : gF ft (-128) 127) (hr0 : rdT (bA ft n.toInt) n.toInt 0 a k v tx.2) (hrp0 : rp.toInt < 0) (hT : RS D I P F γ el) (hd : rdI I P F γ R tp g gp tx n a k pl v b rp ru rw gn N fg fp) (c0 : γ 0 c = 9) (c1 : γ 1 c = f) (hrw : rw.toInt = 0) (hgn : gn.toInt = 0)
    (hM : (rM γ el f : Int) + 41 * (n.toInt - a.toInt) + 600 ≤ M) (hM9 : M ≤ 2000000) (hMC : (M : Int) + 360 * (n.toInt - a.toInt) + 1000 ≤ 18 * (mc : Int) + (rPh γ el f : Int)) (hMS : (M : Int) + 192 * (n.toInt - a.toInt) + 40 * n.toInt + 1200 ≤ (ms : Int) + (rPh γ el f : Int)) :
    CtA (gV D I) l yX14_program cX14_program 3 none 12 300 mc ms [.ref R, .ref c] (va_pl P F) (pgP D I P F γ el f R n a c ft) (pgX D I P F γ el f n a ft) := by
  refine CtA_of hl0 (by decide) (Nat.le_of_ble_eq_true rfl) ?_
  refine G_aload_n 1 dr_cX14_program_0 rfl ?_
  refine Gt_beg0 (c := c) (f := f) 40 hl0 dr_cX14_program_1 ⟨wr_9_85, wr_1_15, wr_9_88, by decide, rfl, (Nat.le_of_ble_eq_true rfl), (Nat.le_of_ble_eq_true rfl)⟩ wr_9_86 wr_9_87 hT c0 c1 (show _ ≤ mc by omega) (show _ ≤ ms by omega) (Nat.le_of_ble_eq_true rfl) (fun F1 γ1 el1 hq hz h0 h2 => ?_)
  obtain ⟨st, q6, q7, q16, q18, q19, q23, q2, qel, qmd, qph, qrm, -⟩ := hq
  have sk := rSk_of st
  have t1 : γ1 0 tp = 99 := rSk_k sk (show rKd γ tp 99 from hd.2.2.2.1.1) (by decide) (by decide)
  have c0' : γ1 0 c = 9 := rSk_k sk (show rKd γ c 9 from c0) (by decide) (by decide)
  have c1' : γ1 1 c = f := rSk_1 sk (show rKd γ c 9 from c0) (by decide) c1
  have hp1 : prI γ1 el1 F1 f c 0 fg gn rp rw := ⟨⟨c0', c1', q6, q19⟩, by rw [hrw, q16]; rfl, qmd, fun i hi => absurd hi (Nat.not_lt_zero _), fun x hx hf => absurd hf (h2 x hx), Or.inr ⟨by omega, by omega⟩⟩
  exact pg_loop hl0 (N0 := N) hd.2.2.2.1.1 f1 f2 hd.2.2.2.2.1.2.1.1 hM hM9 hMC hMS ((n.toInt - a.toInt).toNat + 1) P F1 γ1 el1 g gp tx a k pl v b rp ru rw gn N fg fp 0 0 0 0 0 false pgO (by have := hd.2.2.2.2.2.1.1; omega) (rSk_tr (rSk_rf hT) sk (by decide) (by decide) pgKF) q7 (rdI_z hd rSub_rf hz (fun x _ q => h0 x q) t1) hp1 ⟨hr0, ⟨-1, -1, 0, 0, by rw [hrw]; rfl⟩, gsR_0 hgn, ⟨fun z => by omega, fun z => nomatch z⟩⟩ (by decide) (fun _ => by decide) ⟨rfl, fun b hb => absurd hb (Nat.not_lt_zero b)⟩ ⟨by omega, by omega, Nat.le_refl _⟩ (by rw [qph]; omega) (by rw [qph]; omega) (by rw [qrm]; omega)
