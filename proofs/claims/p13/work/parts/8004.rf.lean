abbrev ky_409847_SpillForgeModel_load : gKey := (cX17_load, 6, "SpillForgeModel", (some FieldType.int), [], "load", fun _ _ => True)
def pg_409847_SpillForgeModel_load (D : va_G) (I : FieldType → ClassId) (γ0 el0 : Nat → Nat → Nat) (f : Nat) (B : Nat) (P409834 : List Nat) (F409835 : Nat → va_E) (q409836 : Nat) (q409837 : Nat) (q409838 : Nat) (p409839 : Int32) (p409840 : Int32) (jx409841 : Nat) : Option Value → va_W → Nat → Nat → Prop := fun r w dc ds => ∃ (P410208 : List Nat) (F410209 : Nat → va_E) (γ el : Nat → Nat → Nat) (o410207 : Int32), r = some (.int o410207) ∧ w = va_pl P410208 F410209 ∧ rSk f [101] ([3, 5, 6, 8, 9, 10, 101]) D I P409834 F409835 γ0 el0 P410208 F410209 γ el ∧ (18 * dc + rPh γ0 el0 f ≤ rPh γ el f ∧ ds + rPh γ0 el0 f ≤ rPh γ el f) ∧ rBd γ el f B ∧ gB o410207 (-1) 1999 ∧ γ 6 f = γ0 6 f ∧ γ 7 f = γ0 7 f ∧ γ 18 f = γ0 18 f ∧ (γ 14 q409838 = γ0 14 q409838 ∧ jx409841 < γ 2 (γ 14 q409837) ∧ el (γ 14 q409837) jx409841 = q409838) ∧ (o410207.toInt < 0 ∨ (o410207.toInt = (fI (F409835 q409836) 14).toInt ∧ o410207.toInt < 2000 ∧ (fI (F410209 q409836) 14).toInt = o410207.toInt + 1 ∧ γ 16 f = γ0 16 f + 1 ∧ γ 2 (γ 14 q409838) = γ0 2 (γ0 14 q409838) + 1)) ∧ (fI (F410209 q409836) 11).toInt = (fI (F409835 q409836) 11).toInt ∧ (o410207.toInt < 0 ∨ rInsP γ0 el0 F409835 γ el F410209 q409837 f jx409841 (p409839.toInt : Int).toNat (o410207.toInt : Int).toNat) ∧ (o410207.toInt < 0 ∨ ∀ j : Nat, (p409839.toInt : Int).toNat ≤ j → rAt γ el q409837 jx409841 (j + 1) = rAt γ0 el0 q409837 jx409841 j) ∧ mKp (F409835 q409836) (F410209 q409836) ∧ tr_RModel_load D I γ0 el0 f P409834 F409835 q409836 q409837 q409838 p409839 p409840 o410207 P410208 F410209 γ el
set_option maxRecDepth 100000 in
set_option maxHeartbeats 1500000 in
theorem cg_409847_SpillForgeModel_load (l : Launch) (hl0 : l.stackTraces = false) (D : va_G) (I : FieldType → ClassId) (γ0 el0 : Nat → Nat → Nat) (f : Nat) (B : Nat) (P409834 : List Nat) (F409835 : Nat → va_E) (q409836 : Nat) (q409837 : Nat) (q409838 : Nat) (p409839 : Int32) (p409840 : Int32) (jx409841 : Nat) (hT0 : RS D I P409834 F409835 γ0 el0) (hzq409836 : rKd γ0 q409836 10) (hzq409837 : rKd γ0 q409837 9) (hzq409838 : rKd γ0 q409838 2) (hf0 : γ0 1 q409837 = f) (hB0 : rBd γ0 el0 f B) (hBk : B ≤ 100000) (hqjjx409841 : jx409841 < γ0 2 (γ0 14 q409837)) (hqejx409841 : el0 (γ0 14 q409837) jx409841 = q409838) (hqfjx409841 : γ0 1 q409838 = f) (bp409839 : gB p409839 0 1000000) (bp409840 : gB p409840 0 1999) (x409842 : p409839.toInt ≤ γ0 2 (γ0 14 q409838)) (x409843 : p409840.toInt < γ0 7 f) (x409844 : γ0 16 f + 1 ≤ B) (x409845 : 0 < γ0 6 f) (x409846 : jx409841 < γ0 6 f) : CtA (gV D I) l yX17_load cX17_load 6 (some FieldType.int) 8 170 (((387 * B + 6000) - rPh γ0 el0 f) / 18) ((387 * B + 6000) - rPh γ0 el0 f) [.ref q409836, .ref q409837, .ref q409838, .int p409839, .int p409840] (va_pl P409834 F409835) (pg_409847_SpillForgeModel_load D I γ0 el0 f B P409834 F409835 q409836 q409837 q409838 p409839 p409840 jx409841) gNA := by
  refine CtA_of hl0 (by decide) (Nat.le_of_ble_eq_true rfl) ?_
  obtain ⟨gm_0, hγ0⟩ : ∃ z, z = γ0 := ⟨_, rfl⟩
  obtain ⟨el_0, hel0⟩ : ∃ z, z = el0 := ⟨_, rfl⟩
  have hT : RS D I P409834 F409835 gm_0 el_0 := by rw [hγ0, hel0]; exact hT0
  have hst : rSk f [101] ([3, 5, 6, 8, 9, 10, 101]) D I P409834 F409835 γ0 el0 P409834 F409835 gm_0 el_0 := by rw [hγ0, hel0]; exact rSk_rf hT0
  have hph : rPh γ0 el0 f ≤ rPh gm_0 el_0 f := by rw [hγ0, hel0]; exact Nat.le_refl _
  have hB : rBd gm_0 el_0 f B := by rw [hγ0, hel0]; exact hB0
  have htq409836 : rKd gm_0 q409836 10 := by rw [hγ0]; exact hzq409836
  have htq409837 : rKd gm_0 q409837 9 := by rw [hγ0]; exact hzq409837
  have htq409838 : rKd gm_0 q409838 2 := by rw [hγ0]; exact hzq409838
  have hf1 : gm_0 1 q409837 = f := by rw [hγ0]; exact hf0
  have hpjjx409841 : jx409841 < gm_0 2 (gm_0 14 q409837) := by rw [hγ0]; exact hqjjx409841
  have hpejx409841 : el_0 (gm_0 14 q409837) jx409841 = q409838 := by rw [hγ0, hel0]; exact hqejx409841
  have hpfjx409841 : gm_0 1 q409838 = f := by rw [hγ0]; exact hqfjx409841
  have x409842n : p409839.toInt ≤ gm_0 2 (gm_0 14 q409838) := by rw [hγ0]; exact x409842
  have x409843n : p409840.toInt < gm_0 7 f := by rw [hγ0]; exact x409843
  have x409844n : gm_0 16 f + 1 ≤ B := by rw [hγ0]; exact x409844
  have x409845n : 0 < gm_0 6 f := by rw [hγ0]; exact x409845
  have x409846n : jx409841 < gm_0 6 f := by rw [hγ0]; exact x409846
  have pk409848 : rPh gm_0 el_0 f ≤ 387 * B + 6000 := rm_pk (rM_ge hT htq409837 hf1).1 (rM_bd hB)
  refine G_widen (cs' := ((rPh gm_0 el_0 f - rPh γ0 el0 f) / 18)) (sl' := (rPh gm_0 el_0 f - rPh γ0 el0 f)) (Nat.zero_le _) (Nat.zero_le _) ?_
  have r409849 : 0 < gm_0 6 (gm_0 1 q409837) := by rw [hf1]; omega
  have lz0 : Int32.toInt 0 = 0 := by decide
  have r409850 : gm_0 6 f = γ0 6 f := by rw [hγ0]
  have r409851 : gm_0 7 f = γ0 7 f := by rw [hγ0]
  have r409852 : gm_0 16 f = γ0 16 f := by rw [hγ0]
  have r409853 : gm_0 18 f = γ0 18 f := by rw [hγ0]
  have r409854 : gm_0 19 f = γ0 19 f := by rw [hγ0]
  have sz409855 : gm_0 2 (gm_0 14 q409838) = γ0 2 (γ0 14 q409838) := by rw [hγ0]
  have hm409856 : q409836 ∈ P409834 := RS_m hT htq409836 (by decide)
  obtain ⟨q409858, q409859, p409860, p409861, p409862, p409863, p409864, p409865, p409866, p409867, p409868, p409869, p409870, p409871, p409872, p409873, p409874, he409857, hB409901, ht409875, ht409876, ht409877, ht409878, ht409879, ht409880, ht409881, ht409882, ht409883, ht409884, ht409885, ht409886, ht409887, ht409888, ht409889, ht409890, ht409891, ht409892, ht409893, ht409894, ht409895, ht409896, ht409897, ht409898, hB409902⟩ := show rk_10 gm_0 (F409835 q409836) from RS_o hT htq409836
  have ac0_11 : (fI (F409835 q409836) 11).toInt = p409862.toInt := by rw [he409857]; rfl
  have ac0_14 : (fI (F409835 q409836) 14).toInt = p409865.toInt := by rw [he409857]; rfl
  have bp409862 : gB p409862 0 100 := (hB409901.2.2.1)
  have bp409865 : gB p409865 0 2000 := (hB409901.2.2.2.1)
  refine G_aload_n 0 dr_cX17_load_0 rfl ?_
  have fq409903 : fI (F409835 q409836) 14 = p409865 := by rw [he409857]; rfl
  refine Gp_get 14 hm409856 he409857 dr_cX17_load_1 (gk_X17 D I) (Nat.le_of_ble_eq_true rfl) wr_7_88 rfl ?_
  refine G_sipush 2000 dr_cX17_load_4 (by decide +kernel) ?_
  refine G_icmp_ne 12 dr_cX17_load_7 (by decide +kernel) (fun hc409904 => ?_) (fun hc409904 => ?_)
  · have r409905 : p409865.toInt ≠ 2000 := gj_neq hc409904 (show Int32.toInt 2000 = 2000 by decide)
    have bp409865' : gB p409865 0 1999 := ⟨by omega, by omega⟩
    refine G_aload_n 1 dr_cX17_load_12 rfl ?_
    have rg409906 := rM_ge hT htq409837 hf1
    have rm409907 := rM_bd hB
    have bd409908 := rBd_c hT htq409837 hf1 hB
    have rc409909 := rc_at hT htq409837 hf1
    obtain ⟨q409916, hl409917⟩ : ∃ z, z = gm_0 14 q409838 := ⟨_, rfl⟩
    have hl409918 : gm_0 0 q409916 = 3 ∨ gm_0 0 q409916 = 103 := by rw [hl409917, ← hpejx409841]; exact (RS_lst hT rc409909.2.1 hpjjx409841).1
    refine Gt_row (c := q409837) (f := f) hl0 dr_cX17_load_13 ⟨wr_10_206, wr_1_15, wr_10_82, by decide, rfl, (Nat.le_of_ble_eq_true rfl), (Nat.le_of_ble_eq_true rfl)⟩ wr_10_80 wr_10_81 hT htq409837 hf1 (Nat.le_trans bd409908.2.2.1 (Nat.le_trans hBk (by decide))) (rm_cs hph rg409906.2.1 rm409907 (by decide)) (rm_sl hph rg409906.2.1 rm409907 rm_s18) (Nat.le_of_ble_eq_true rfl) (fun P409910 F409911 gm_F409911 el_F409911 q409912 dc409913 ds409914 hq409915 => ?_)
    have hq409919 := hq409915
    have ar409921 := fun j => rAt_row hT htq409837 hf1 hq409915 (show jx409841 < _ by omega) j
    rw [hγ0, hel0] at ar409921
    have pr409920 := fun (R : Nat → Nat → va_E → Prop) hN => rPl_row (R := R) hT htq409837 hf1 hq409915 hN
    rw [hγ0, hel0] at pr409920
    obtain ⟨hk409922, x0409923, x1409924, x22409925, x8409926, h16409927, h18409928, hnu409929, hot409930, h45409931, hf0409932, ⟨hr1409933, hr2409934⟩, hM409935, hBB409936⟩ := hq409915
    have hk409937 := rSk_of hk409922
    obtain ⟨nu409938, nu409939, nu409940, nu409941⟩ := hnu409929
    have hT409942 := hk409937.1
    have hs409943 := rSk_tr hst hk409937 (by decide) (by decide) (by decide)
    have r409944 := rSk_F hk409937 htq409836 (by decide) (by decide)
    have ht409945 : rKd gm_F409911 q409836 10 := rSk_k hk409937 htq409836 (by decide) (by decide)
    have ht409946 : rKd gm_F409911 q409837 9 := rSk_k hk409937 htq409837 (by decide) (by decide)
    have hf409947 : gm_F409911 1 q409837 = f := rSk_1 hk409937 htq409837 (by decide) hf1
    have ht409948 : rKd gm_F409911 q409838 2 := rSk_k hk409937 htq409838 (by decide) (by decide)
    have hf409949 : gm_F409911 1 q409838 = f := rSk_1 hk409937 htq409838 (by decide) hpfjx409841
    have mk409950 : mKp (F409835 q409836) (F409911 q409836) := mKp_tr mKp_rf (mKp_eq (rSk_F hk409937 htq409836 (by decide) (by decide)))
    have r409951 := (rSk_s hk409937 htq409837 (by decide)).2.1
    have r409952 := hot409930 _ (by rw [rc409909.2.1]; decide) (by rw [rc409909.2.1]; decide)
    have r409953 : jx409841 < gm_F409911 2 (gm_F409911 14 q409837) := by rw [r409951, r409952.1]; exact hpjjx409841
    have r409954 : el_F409911 (gm_F409911 14 q409837) jx409841 = q409838 := by rw [r409951, r409952.2]; exact hpejx409841
    clear rg409906 rm409907 bd409908 rc409909
    have r409955 : 0 < gm_F409911 6 (gm_F409911 1 q409837) := by rw [hf409947]; omega
    have hm409956 : q409836 ∈ P409910 := RS_m hT409942 ht409945 (by decide)
    obtain ⟨q409958, q409959, p409960, p409961, p409962, p409963, p409964, p409965, p409966, p409967, p409968, p409969, p409970, p409971, p409972, p409973, p409974, he409957, hB410001, ht409975, ht409976, ht409977, ht409978, ht409979, ht409980, ht409981, ht409982, ht409983, ht409984, ht409985, ht409986, ht409987, ht409988, ht409989, ht409990, ht409991, ht409992, ht409993, ht409994, ht409995, ht409996, ht409997, ht409998, hB410002⟩ := show rk_10 gm_F409911 (F409911 q409836) from RS_o hT409942 ht409945
    have r410003 : p409962.toInt = p409862.toInt := by have z : p409962 = p409862 := congrArg (fun e => fI e 11) (he409957.symm.trans (r409944.trans he409857)); rw [z]
    have bp409962 : gB p409962 0 100 := (hB410001.2.2.1)
    have r410004 : p409965.toInt = p409865.toInt := by have z : p409965 = p409865 := congrArg (fun e => fI e 14) (he409957.symm.trans (r409944.trans he409857)); rw [z]
    have bp409965 : gB p409965 0 2000 := (hB410001.2.2.2.1)
    have bp409965' : gB p409965 0 1999 := ⟨by omega, by omega⟩
    have sz410005 := (rSk_s hk409937 htq409838 (by decide)).2.1
    have sz410006 := congrArg (gm_F409911 2) sz410005
    have sz410007 := (hot409930 q409916 (by omega) (by omega)).1
    rw [hl409917] at sz410007
    clear hl409918
    have r410008 := hf0409932.2.2
    have hB410009 : rBd gm_F409911 el_F409911 f B := hBB409936 B (by omega) hB
    have ht410010 : rKd gm_F409911 q409912 101 := x0409923
    have r410011 : gm_F409911 8 q409912 < gm_F409911 16 f := rm_x8 x8409926 h16409927 rfl
    have hph410012 : rPh γ0 el0 f ≤ rPh gm_F409911 el_F409911 f := rm_ph hph hr2409934
    have pk410013 : rPh gm_F409911 el_F409911 f ≤ 387 * B + 6000 := rm_pk (rM_ge hT409942 ht409946 hf409947).1 (rM_bd hB410009)
    have hm410014 : q409912 ∈ P409910 := RS_m hT409942 ht410010 (by decide)
    obtain ⟨p410016, p410017, p410018, p410019, p410020, p410021, p410022, he410015, bp410016, bp410017, bp410020, bp410021, bp410022, r410023, r410024, r410025⟩ := show rkR (F409911 q409912) from RS_o hT409942 ht410010
    have bp410018 := gB_any p410018
    have bp410019 := gB_any p410019
    have r410026 : gm_F409911 7 (gm_F409911 1 q409912) = gm_F409911 7 f := by rw [x1409924]
    have r410027 : p410021.toInt = 0 := by have z := hf0409932.1; rw [he410015] at z; exact z
    have bp410021' : gB p410021 0 0 := ⟨by omega, by omega⟩
    have r410028 : p410022.toInt = 0 := by have z := hf0409932.2.1; rw [he410015] at z; exact z
    have bp410022' : gB p410022 0 0 := ⟨by omega, by omega⟩
    refine G_widen (cs' := ((rPh gm_F409911 el_F409911 f - rPh γ0 el0 f) / 18)) (sl' := (rPh gm_F409911 el_F409911 f - rPh γ0 el0 f)) (rm_wc hph hr1409933) (rm_ws hph hr2409934) ?_
    refine G_astore (L' := [(5, .ref q409912), (0, .ref q409836), (1, .ref q409837), (2, .ref q409838), (3, .int p409839), (4, .int p409840)]) dr_cX17_load_16 (Nat.le_of_ble_eq_true rfl) rfl ?_
    refine G_aload 0 dr_cX17_load_18 rfl ?_
    refine G_bipush 21 dr_cX17_load_20 (by decide +kernel) ?_
    refine Gp_put 0 hm410014 he410015 dr_cX17_load_22 (gk_X15 D I) (Nat.le_of_ble_eq_true rfl) wr_9_177 rfl rfl rfl (Nat.le_of_ble_eq_true rfl) (fun F410029 e410030 n410031 => ?_)
    have he410032 : F410029 q409836 = .inr (22, [.ref (gm_F409911 9 0), .ref (gm_F409911 9 1), .ref (gm_F409911 9 2), .ref (gm_F409911 9 3), .ref (gm_F409911 9 4), .ref (gm_F409911 9 5), .ref (gm_F409911 9 6), .ref (gm_F409911 9 7), .ref (gm_F409911 9 8), .int p409960, .int p409961, .int p409962, .int p409963, .int p409964, .int p409965, .ref (gm_F409911 9 15), .ref (gm_F409911 9 16), .ref (gm_F409911 9 17), .ref (gm_F409911 9 18), .ref (gm_F409911 9 19), .ref (gm_F409911 9 20), .ref (gm_F409911 9 21), .ref (gm_F409911 9 22), .int p409966, .int p409967, .int p409968, .int p409969, .int p409970, .ref q409958, .ref (gm_F409911 9 29), .int p409971, .ref (gm_F409911 9 31), .int p409972, .int p409973, .int p409974, .ref q409959]) := (n410031 q409836 (rn_oo he409957 he410015 (by decide))).trans he409957
    have he410033 : F410029 q409912 = .inr (20, [.int 21, .int p410017, .int p410018, .int p410019, .int p410020, .int p410021, .int p410022]) := e410030
    have mk410034 : mKp (F409835 q409836) (F410029 q409836) := mKp_tr mk409950 (mKp_eq (n410031 q409836 (rn_ty ht409945 ht410010 (by decide))))
    have fq410035 : F410029 q409912 = cF (F409911 q409912) 0 (.int 21) := by rw [he410033, he410015]; rfl
    refine G_aload 0 dr_cX17_load_25 rfl ?_
    refine G_aload_n 1 dr_cX17_load_27 rfl ?_
    have fq410036 : fI (F410029 q409836) 14 = p409965 := by rw [he410032]; rfl
    refine Gp_get 14 hm409956 he410032 dr_cX17_load_28 (gk_X17 D I) (Nat.le_of_ble_eq_true rfl) wr_7_88 rfl ?_
    refine Gp_put 1 hm410014 he410033 dr_cX17_load_31 (gk_X15 D I) (Nat.le_of_ble_eq_true rfl) wr_9_182 rfl rfl rfl (Nat.le_of_ble_eq_true rfl) (fun F410037 e410038 n410039 => ?_)
    have he410040 : F410037 q409836 = .inr (22, [.ref (gm_F409911 9 0), .ref (gm_F409911 9 1), .ref (gm_F409911 9 2), .ref (gm_F409911 9 3), .ref (gm_F409911 9 4), .ref (gm_F409911 9 5), .ref (gm_F409911 9 6), .ref (gm_F409911 9 7), .ref (gm_F409911 9 8), .int p409960, .int p409961, .int p409962, .int p409963, .int p409964, .int p409965, .ref (gm_F409911 9 15), .ref (gm_F409911 9 16), .ref (gm_F409911 9 17), .ref (gm_F409911 9 18), .ref (gm_F409911 9 19), .ref (gm_F409911 9 20), .ref (gm_F409911 9 21), .ref (gm_F409911 9 22), .int p409966, .int p409967, .int p409968, .int p409969, .int p409970, .ref q409958, .ref (gm_F409911 9 29), .int p409971, .ref (gm_F409911 9 31), .int p409972, .int p409973, .int p409974, .ref q409959]) := (n410039 q409836 (rn_oo he410032 he410033 (by decide))).trans he410032
    have he410041 : F410037 q409912 = .inr (20, [.int 21, .int p409965, .int p410018, .int p410019, .int p410020, .int p410021, .int p410022]) := e410038
    have mk410042 : mKp (F409835 q409836) (F410037 q409836) := mKp_tr mk410034 (mKp_eq (n410039 q409836 (rn_ty ht409945 ht410010 (by decide))))
    have n410043 : ∀ b, b ≠ q409912 → F410037 b = F409911 b := fun b hb => (n410039 b hb).trans (n410031 b hb)
    have fq410044 : F410037 q409912 = cF (F410029 q409912) 1 (.int p409965) := by rw [he410041, he410033]; rfl
    refine G_aload 0 dr_cX17_load_34 rfl ?_
    refine G_iload 5 dr_cX17_load_36 rfl ?_
    refine Gp_put 4 hm410014 he410041 dr_cX17_load_38 (gk_X15 D I) (Nat.le_of_ble_eq_true rfl) wr_9_193 rfl rfl rfl (Nat.le_of_ble_eq_true rfl) (fun F410045 e410046 n410047 => ?_)
    have he410048 : F410045 q409836 = .inr (22, [.ref (gm_F409911 9 0), .ref (gm_F409911 9 1), .ref (gm_F409911 9 2), .ref (gm_F409911 9 3), .ref (gm_F409911 9 4), .ref (gm_F409911 9 5), .ref (gm_F409911 9 6), .ref (gm_F409911 9 7), .ref (gm_F409911 9 8), .int p409960, .int p409961, .int p409962, .int p409963, .int p409964, .int p409965, .ref (gm_F409911 9 15), .ref (gm_F409911 9 16), .ref (gm_F409911 9 17), .ref (gm_F409911 9 18), .ref (gm_F409911 9 19), .ref (gm_F409911 9 20), .ref (gm_F409911 9 21), .ref (gm_F409911 9 22), .int p409966, .int p409967, .int p409968, .int p409969, .int p409970, .ref q409958, .ref (gm_F409911 9 29), .int p409971, .ref (gm_F409911 9 31), .int p409972, .int p409973, .int p409974, .ref q409959]) := (n410047 q409836 (rn_oo he410040 he410041 (by decide))).trans he410040
    have he410049 : F410045 q409912 = .inr (20, [.int 21, .int p409965, .int p410018, .int p410019, .int p409840, .int p410021, .int p410022]) := e410046
    have mk410050 : mKp (F409835 q409836) (F410045 q409836) := mKp_tr mk410042 (mKp_eq (n410047 q409836 (rn_ty ht409945 ht410010 (by decide))))
    have n410051 : ∀ b, b ≠ q409912 → F410045 b = F409911 b := fun b hb => (n410047 b hb).trans (n410043 b hb)
    have fq410052 : F410045 q409912 = cF (F410037 q409912) 4 (.int p409840) := by rw [he410049, he410041]; rfl
    refine G_aload_n 3 dr_cX17_load_41 rfl ?_
    have hT410053 : RS D I P409910 F410045 gm_F409911 el_F409911 := RS_set hT409942 n410051 ht410010 (by decide) ⟨21, p409965, p410018, p410019, p409840, p410021, p410022, he410049, (gB_w (gBl (show Int32.toInt 21 = 21 by decide)) (by decide) (by decide)), bp409965', bp409840, (gB_w bp410021' (by decide) (by decide)), (gB_w bp410022' (by decide) (by decide)), (Or.inr (by decide)), r410024, r410025⟩
    have hs410055 := rSk_put hs409943 hT410053 n410051 ht410010 (by decide) (by decide) (Or.inr (Or.inl x1409924))
    have hm410056 : q409838 ∈ P409910 := RS_m hT410053 ht409948 (by decide)
    obtain ⟨q410058, q410059, p410060, p410061, he410057, ht410068, ht410062, ht410063, ht410064, ht410065, ht410066, bp410060, bp410061, r410067, r410069, r410070⟩ := show rk_2 gm_F409911 q409838 (F410045 q409838) from RS_o hT410053 ht409948
    have hf410071 : gm_F409911 1 q410058 = f := (show gm_F409911 1 q410058 = gm_F409911 1 q409838 from ht410063).trans hf409949
    have hf410072 : gm_F409911 1 q410059 = f := (show gm_F409911 1 q410059 = gm_F409911 1 q409838 from ht410065).trans hf409949
    have r410073 : gm_F409911 6 (gm_F409911 1 q409838) = gm_F409911 6 f := by rw [hf409949]
    have r410074 : gm_F409911 7 (gm_F409911 1 q409838) = gm_F409911 7 f := by rw [hf409949]
    have r410075 : gm_F409911 19 (gm_F409911 1 q409838) = gm_F409911 19 f := by rw [hf409949]
    have r410076 := r410067.resolve_left (by omega)
    clear r410067
    have r410077 : gm_F409911 2 (gm_F409911 14 q409838) = gm_F409911 2 q410058 := by rw [ht410068.1]
    have fq410078 : fR (F410045 q409838) 0 = q410058 := by rw [he410057]; rfl
    refine Gp_get 0 hm410056 he410057 dr_cX17_load_42 (gk_X12 D I) (Nat.le_of_ble_eq_true rfl) wr_9_220 rfl ?_
    refine G_iload_n 4 dr_cX17_load_45 rfl ?_
    refine G_aload 0 dr_cX17_load_46 rfl ?_
    have pr410079 := fun (R : Nat → Nat → va_E → Prop) hN => rPl_fr (R := R) hT409942 ht409946 hf409947 (pr409920 R hN) (fun b hb _ => n410051 b (rn_ty (show rKd gm_F409911 b 1 from hb) ht410010 (by decide)))
    have rg410080 := rM_ge hT410053 ht409946 hf409947
    have rm410081 := rM_bd hB410009
    have bd410082 := rBd_c hT410053 ht409946 hf409947 hB410009
    have rc410083 := rc_at hT410053 ht409946 hf409947
    have r410085 : gm_F409911 14 (el_F409911 (gm_F409911 14 q409837) jx409841) = q410058 := by rw [r409954]; exact ht410068.1
    have r410086 := rg410080.2.2 _ r409953
    rw [r410085] at r410086
    have r410087 := bd410082.2.2.2 _ r409953
    rw [r410085] at r410087
    have r410088 : gm_F409911 7 (gm_F409911 1 q409912) = gm_F409911 7 f := by rw [x1409924]
    have hx410089 : rk_1 gm_F409911 q409912 (F410045 q409912) := ⟨21, p409965, p410018, p410019, p409840, p410021, p410022, he410049, (gB_w (gBl (show Int32.toInt 21 = 21 by decide)) (by decide) (by decide)), bp409965', bp409840, (gB_w bp410021' (by decide) (by decide)), (gB_w bp410022' (by decide) (by decide)), (Or.inr (by decide)), r410024, r410025, (Or.inr (by omega)), (Or.inl x22409925)⟩
    refine Gt_ins (c := q409837) (f := f) hl0 dr_cX17_load_48 ⟨wr_10_207, wr_1_18, wr_10_210, by decide, rfl, (Nat.le_of_ble_eq_true rfl), (Nat.le_of_ble_eq_true rfl)⟩ wr_10_208 wr_10_209 hT410053 ht410062 hf410071 ht410010 x1409924 x22409925 r410011 (by omega) ht409946 hf409947 r409953 r410085 hx410089 (by omega) (by omega) (Nat.le_trans r410087 (Nat.le_trans hBk (by decide))) (rm_cs hph410012 r410086 rm410081 (by decide)) (rm_sl hph410012 r410086 rm410081 rm_s11) (Nat.le_of_ble_eq_true rfl) (fun P410090 F410084 gm_F410084 el_F410084 dc410091 ds410092 hq410093 => ?_)
    have hq410094 := hq410093
    have ai410096 := fun (j : Nat) (hj : p409839.toInt.toNat ≤ j) => (rAt_ins hT410053 ht409946 hf409947 hq410093 r410085 (show jx409841 < _ by omega) (show p409839.toInt.toNat ≤ _ by omega) j hj).trans (ar409921 j)
    have pr410095 := fun (R R' : Nat → Nat → va_E → Prop) hN h1 h2 (h3 : ∀ e, (∀ n, nmS e n → n = p409965.toInt.toNat) → ((fI e 0).toInt = 21 → (fI e 1).toInt.toNat = p409965.toInt.toNat) → R' jx409841 p409839.toInt.toNat e) h4 => rPl_ins (R := R) (R' := R') hT410053 ht409946 hf409947 hq410093 r410085 (show jx409841 < _ by omega) (show p409839.toInt.toNat ≤ _ by omega) (pr410079 R hN) h1 h2 (h3 _ (nm_ld he410049 (by decide)).1 (nm_ld he410049 (by decide)).2) h4
    obtain ⟨hk410097, x0410098, h2410099, hel410100, hot410101, h16410102, h18410103, hnu410104, hFx410105, hr410106, hM410107, hBB410108⟩ := hq410093
    have hk410109 := rSk_of hk410097
    have r410110 : (fI (F410084 q409837) 3).toInt = (fI (F410045 q409837) 3).toInt := by rw [rSk_F hk410109 ht409946 (by decide) (by decide)]
    obtain ⟨nu410111, nu410112, nu410113, nu410114⟩ := hnu410104
    have hT410115 := hk410109.1
    have hs410116 := rSk_tr hs410055 hk410109 (by decide) (by decide) (by decide)
    have r410117 := rSk_F hk410109 ht409945 (by decide) (by decide)
    have ht410118 : rKd gm_F410084 q409836 10 := rSk_k hk410109 ht409945 (by decide) (by decide)
    have ht410119 : rKd gm_F410084 q409837 9 := rSk_k hk410109 ht409946 (by decide) (by decide)
    have hf410120 : gm_F410084 1 q409837 = f := rSk_1 hk410109 ht409946 (by decide) hf409947
    have ht410121 : rKd gm_F410084 q409838 2 := rSk_k hk410109 ht409948 (by decide) (by decide)
    have hf410122 : gm_F410084 1 q409838 = f := rSk_1 hk410109 ht409948 (by decide) hf409949
    have ht410123 : rKd gm_F410084 q410058 3 := rSk_k hk410109 ht410062 (by decide) (by decide)
    have hf410124 : gm_F410084 1 q410058 = f := rSk_1 hk410109 ht410062 (by decide) hf410071
    have mk410125 : mKp (F409835 q409836) (F410084 q409836) := mKp_tr mk410050 (mKp_eq (rSk_F hk410109 ht409945 (by decide) (by decide)))
    have r410126 := (rSk_s hk410109 ht409946 (by decide)).2.1
    have r410127 := hot410101 _ (by rw [rc410083.2.1]; decide) (fun q => by rw [q, show _ = 3 from ht410062] at rc410083; exact absurd rc410083.2.1 (by decide))
    have r410128 : jx409841 < gm_F410084 2 (gm_F410084 14 q409837) := by rw [r410126, r410127.1]; exact r409953
    have r410129 : el_F410084 (gm_F410084 14 q409837) jx409841 = q409838 := by rw [r410126, r410127.2]; exact r409954
    clear bp410016 bp410017 bp410020 bp410021 bp410022 bp410018 bp410019 bp410060 bp410061 r410069 r410070 rg410080 rm410081 bd410082 rc410083 r410086 r410087
    clear r410023 r410024 r410025
    have r410130 : 0 < gm_F410084 6 (gm_F410084 1 q409837) := by rw [hf410120]; omega
    have hm410131 : q409836 ∈ P410090 := RS_m hT410115 ht410118 (by decide)
    obtain ⟨q410133, q410134, p410135, p410136, p410137, p410138, p410139, p410140, p410141, p410142, p410143, p410144, p410145, p410146, p410147, p410148, p410149, he410132, hB410176, ht410150, ht410151, ht410152, ht410153, ht410154, ht410155, ht410156, ht410157, ht410158, ht410159, ht410160, ht410161, ht410162, ht410163, ht410164, ht410165, ht410166, ht410167, ht410168, ht410169, ht410170, ht410171, ht410172, ht410173, hB410177⟩ := show rk_10 gm_F410084 (F410084 q409836) from RS_o hT410115 ht410118
    have r410178 : p410137.toInt = p409962.toInt := by have z : p410137 = p409962 := congrArg (fun e => fI e 11) (he410132.symm.trans (r410117.trans he410048)); rw [z]
    have bp410137 : gB p410137 0 100 := (hB410176.2.2.1)
    have r410179 : p410140.toInt = p409965.toInt := by have z : p410140 = p409965 := congrArg (fun e => fI e 14) (he410132.symm.trans (r410117.trans he410048)); rw [z]
    have bp410140 : gB p410140 0 2000 := (hB410176.2.2.2.1)
    have bp410140' : gB p410140 0 1999 := ⟨by omega, by omega⟩
    have ht410180 : rKd gm_F410084 q409912 1 := x0410098
    have hB410181 : rBd gm_F410084 el_F410084 f B := hBB410108 B hB410009
    have hph410182 : rPh γ0 el0 f ≤ rPh gm_F410084 el_F410084 f := rm_ph hph410012 hr410106.2
    have pk410183 : rPh gm_F410084 el_F410084 f ≤ 387 * B + 6000 := rm_pk (rM_ge hT410115 ht410119 hf410120).1 (rM_bd hB410181)
    refine G_widen (cs' := ((rPh gm_F410084 el_F410084 f - rPh γ0 el0 f) / 18)) (sl' := (rPh gm_F410084 el_F410084 f - rPh γ0 el0 f)) (rm_wc hph410012 hr410106.1) (rm_ws hph410012 hr410106.2) ?_
    have he410184 : F410084 q409912 = .inr (20, [.int 21, .int p409965, .int p410018, .int p410019, .int p409840, .int p410021, .int p410022]) := hFx410105.trans he410049
    have hm410185 : q409912 ∈ P410090 := RS_m hT410115 ht410180 (by decide)
    have r410186 : gm_F410084 14 q409838 = q410058 := ((rSk_s (rSk_of hk410097) ht409948 (by decide)).2.1).trans ht410068.1
    have sz410187 : gm_F410084 2 (gm_F410084 14 q409838) = gm_F410084 2 q410058 := by rw [r410186]
    refine G_aload_n 1 dr_cX17_load_51 rfl ?_
    refine G_dup dr_cX17_load_52 rfl ?_
    have fq410188 : fI (F410084 q409836) 14 = p410140 := by rw [he410132]; rfl
    refine Gp_get 14 hm410131 he410132 dr_cX17_load_53 (gk_X17 D I) (Nat.le_of_ble_eq_true rfl) wr_7_88 rfl ?_
    refine G_iconst 1 dr_cX17_load_56 (by decide +kernel) ?_
    refine G_iadd dr_cX17_load_57 (G_nam fun z410189 hz410189 => ?_)
    have ez410189 : z410189.toInt = p410140.toInt + 1 := by rw [gI_add hz410189 bp410140' (gBl (show Int32.toInt 1 = 1 by decide)) (by decide) (by decide), show Int32.toInt 1 = 1 from by decide]
    have bz410189 : gB z410189 1 2000 := gB_add (gI_add hz410189 bp410140' (gBl (show Int32.toInt 1 = 1 by decide)) (by decide) (by decide)) bp410140' (gBl (show Int32.toInt 1 = 1 by decide)) (by decide) (by decide)
    refine Gp_put 14 hm410131 he410132 dr_cX17_load_58 (gk_X17 D I) (Nat.le_of_ble_eq_true rfl) wr_7_88 rfl rfl rfl (Nat.le_of_ble_eq_true rfl) (fun F410190 e410191 n410192 => ?_)
    have he410193 : F410190 q409912 = .inr (20, [.int 21, .int p409965, .int p410018, .int p410019, .int p409840, .int p410021, .int p410022]) := (n410192 q409912 (rn_oo he410184 he410132 (by decide))).trans he410184
    have he410194 : F410190 q409836 = .inr (22, [.ref (gm_F410084 9 0), .ref (gm_F410084 9 1), .ref (gm_F410084 9 2), .ref (gm_F410084 9 3), .ref (gm_F410084 9 4), .ref (gm_F410084 9 5), .ref (gm_F410084 9 6), .ref (gm_F410084 9 7), .ref (gm_F410084 9 8), .int p410135, .int p410136, .int p410137, .int p410138, .int p410139, .int z410189, .ref (gm_F410084 9 15), .ref (gm_F410084 9 16), .ref (gm_F410084 9 17), .ref (gm_F410084 9 18), .ref (gm_F410084 9 19), .ref (gm_F410084 9 20), .ref (gm_F410084 9 21), .ref (gm_F410084 9 22), .int p410141, .int p410142, .int p410143, .int p410144, .int p410145, .ref q410133, .ref (gm_F410084 9 29), .int p410146, .ref (gm_F410084 9 31), .int p410147, .int p410148, .int p410149, .ref q410134]) := e410191
    have mk410195 : mKp (F409835 q409836) (F410190 q409836) := mKp_tr mk410125 (by rw [he410132, he410194]; exact ⟨rfl, rfl⟩)
    have fq410196 : F410190 q409836 = cF (F410084 q409836) 14 (.int z410189) := by rw [he410194, he410132]; rfl
    have hT410197 : RS D I P410090 F410190 gm_F410084 el_F410084 := RS_set hT410115 n410192 ht410118 (by decide) ⟨q410133, q410134, p410135, p410136, p410137, p410138, p410139, z410189, p410141, p410142, p410143, p410144, p410145, p410146, p410147, p410148, p410149, he410194, ⟨(hB410176.1), (hB410176.2.1), bp410137, (gB_w bz410189 (by decide) (by decide)), (hB410176.2.2.2.2.1), (hB410176.2.2.2.2.2.1), (hB410176.2.2.2.2.2.2.1), (hB410176.2.2.2.2.2.2.2.1), (hB410176.2.2.2.2.2.2.2.2)⟩, ht410150, ht410151, ht410152, ht410153, ht410154, ht410155, ht410156, ht410157, ht410158, ht410159, ht410160, ht410161, ht410162, ht410163, ht410164, ht410165, ht410166, ht410167, ht410168, ht410169, ht410170, ht410171, ht410172, ht410173, hB410177⟩
    have hs410199 := rSk_put hs410116 hT410197 n410192 ht410118 (by decide) (by decide) (Or.inr (Or.inr (by decide)))
    have pr410200 := fun (R R' : Nat → Nat → va_E → Prop) hN h1 h2 h3 h4 => rPl_fr (R := R') hT410115 ht410119 hf410120 (pr410095 R R' hN h1 h2 h3 h4) (fun b hb _ => n410192 b (rn_ty (show rKd gm_F410084 b 1 from hb) ht410118 (by decide)))
    refine G_aload 0 dr_cX17_load_61 rfl ?_
    have fq410201 : fI (F410190 q409912) 1 = p409965 := by rw [he410193]; rfl
    refine Gp_get 1 hm410185 he410193 dr_cX17_load_63 (gk_X15 D I) (Nat.le_of_ble_eq_true rfl) wr_9_182 rfl ?_
    have ac410202 : (fI (F410190 q409836) 11).toInt = p410137.toInt := by rw [he410194]; rfl
    have ac410203 : (fI (F410190 q409836) 14).toInt = z410189.toInt := by rw [he410194]; rfl
    exact G_iretA dr_cX17_load_66 rfl (show ((rPh gm_F410084 el_F410084 f - rPh γ0 el0 f) / 18) ≤ (((387 * B + 6000) - rPh γ0 el0 f) / 18) by omega) (show (rPh gm_F410084 el_F410084 f - rPh γ0 el0 f) ≤ ((387 * B + 6000) - rPh γ0 el0 f) by omega) ⟨P410090, F410190, gm_F410084, el_F410084, p409965, rfl, rfl, hs410199, ⟨by omega, by omega⟩, hB410181, (gB_w bp409965' (by decide) (by decide)), (by omega), (by omega), (by omega), ⟨(rSk_s hs410199 hzq409838 (by decide)).2.1, r410128, r410129⟩, (Or.inr ⟨by omega, by omega, by omega, by omega, by omega⟩), (by omega), (Or.inr pr410200), (Or.inr ai410096), mk410195, (fun R c1 c2 => c1 gm_0 el_0 p409865 P409910 F409911 gm_F409911 el_F409911 q409912 dc409913 ds409914 F410029 p409965 F410037 F410045 q410058 P410090 F410084 gm_F410084 el_F410084 dc410091 ds410092 p410140 z410189 F410190 hγ0 hel0 fq409903 r409905 hq409919 n410031 fq410035 fq410036 n410039 fq410044 n410047 fq410052 fq410078 hq410094 fq410188 ez410189 n410192 fq410196 fq410201)⟩
  · have r410204 : p409865.toInt = 2000 := gj_eq hc409904 (show Int32.toInt 2000 = 2000 by decide)
    have bp409865' : gB p409865 2000 2000 := ⟨by omega, by omega⟩
    have ac410205 : (fI (F409835 q409836) 11).toInt = p409862.toInt := by rw [he409857]; rfl
    have ac410206 : (fI (F409835 q409836) 14).toInt = p409865.toInt := by rw [he409857]; rfl
    refine G_iconst (-1) dr_cX17_load_10 (by decide +kernel) ?_
    exact G_iretA dr_cX17_load_11 rfl (show ((rPh gm_0 el_0 f - rPh γ0 el0 f) / 18) ≤ (((387 * B + 6000) - rPh γ0 el0 f) / 18) by omega) (show (rPh gm_0 el_0 f - rPh γ0 el0 f) ≤ ((387 * B + 6000) - rPh γ0 el0 f) by omega) ⟨P409834, F409835, gm_0, el_0, (-1), rfl, rfl, hst, ⟨by omega, by omega⟩, hB, (gB_w (gBl (show Int32.toInt (-1) = (-1) by decide)) (by decide) (by decide)), (by have qa0 : Int32.toInt (-1) = (-1) := (by decide); omega), (by have qa0 : Int32.toInt (-1) = (-1) := (by decide); omega), (by have qa0 : Int32.toInt (-1) = (-1) := (by decide); omega), ⟨(rSk_s hst hzq409838 (by decide)).2.1, hpjjx409841, hpejx409841⟩, (Or.inl (by decide)), (by have qa0 : Int32.toInt (-1) = (-1) := (by decide); omega), (Or.inl (by decide)), (Or.inl (by decide)), mKp_rf, (fun R c1 c2 => c2 gm_0 el_0 p409865 hγ0 hel0 fq409903 r410204)⟩
/- tr_RRow_usesA3: result -/
def tr_RRow_usesA3 (a0_op : Int32) (a0_regA : Int32) (o1 : Int32) : Prop := ∀ R : (Int32) → Prop,
  (a0_op.toInt = 20 → R (0 : Int32)) →
  (a0_op.toInt ≠ 20 → a0_op.toInt = 21 → R (0 : Int32)) →
  (a0_op.toInt ≠ 20 → a0_op.toInt ≠ 21 → a0_op.toInt = 30 → R (0 : Int32)) →
  (a0_op.toInt ≠ 20 → a0_op.toInt ≠ 21 → a0_op.toInt ≠ 30 → a0_regA.toInt = 0 → R (0 : Int32)) →
  (a0_op.toInt ≠ 20 → a0_op.toInt ≠ 21 → a0_op.toInt ≠ 30 → a0_regA.toInt ≠ 0 → R (1 : Int32)) →
  R o1
abbrev ky_410220_Row_usesA : gKey := (cX15_usesA, 1, "SpillForgeModel$Row", (some FieldType.boolean), [], "usesA", fun _ _ => True)
def pp_410220_Row_usesA (D : va_G) (I : FieldType → ClassId) (P410210 : List Nat) (F410211 : Nat → va_E) (q410212 : Nat) (p410213 : Int32) (p410214 : Int32) (p410215 : Int32) (p410216 : Int32) (p410217 : Int32) (p410218 : Int32) (p410219 : Int32) : Option Value → va_W → Nat → Nat → Prop := fun r w dc ds => ∃ (o410233 : Int32), r = some (.int o410233) ∧ w = va_pl P410210 F410211 ∧ dc ≤ 0 ∧ ds ≤ 0 ∧ gB o410233 0 1 ∧ (uA o410233.toInt p410213.toInt p410218.toInt) ∧ tr_RRow_usesA3 p410213 p410218 o410233
set_option maxRecDepth 100000 in
set_option maxHeartbeats 4000000 in
theorem cp_410220_Row_usesA (l : Launch) (hl0 : l.stackTraces = false) (D : va_G) (I : FieldType → ClassId) (P410210 : List Nat) (F410211 : Nat → va_E) (q410212 : Nat) (p410213 : Int32) (p410214 : Int32) (p410215 : Int32) (p410216 : Int32) (p410217 : Int32) (p410218 : Int32) (p410219 : Int32) (hmq410212 : q410212 ∈ P410210) (heq410212 : F410211 q410212 = .inr (20, [.int p410213, .int p410214, .int p410215, .int p410216, .int p410217, .int p410218, .int p410219])) (bp410213 : gB p410213 0 32) (bp410214 : gB p410214 0 1999) (bp410217 : gB p410217 0 1999) (bp410218 : gB p410218 0 1) (bp410219 : gB p410219 0 1) : CtA (gV D I) l yX15_usesA cX15_usesA 1 (some FieldType.boolean) 0 0 0 0 [.ref q410212] (va_pl P410210 F410211) (pp_410220_Row_usesA D I P410210 F410211 q410212 p410213 p410214 p410215 p410216 p410217 p410218 p410219) gNA := by
  refine CtA_of hl0 (by decide) (Nat.le_of_ble_eq_true rfl) ?_
  have bp410215 := gB_any p410215
  have bp410216 := gB_any p410216
  refine G_aload_n 0 dr_cX15_usesA_0 rfl ?_
  refine Gp_get 0 hmq410212 heq410212 dr_cX15_usesA_1 (gk_X15 D I) (Nat.le_of_ble_eq_true rfl) wr_9_175 rfl ?_
  refine G_bipush 20 dr_cX15_usesA_4 (by decide +kernel) ?_
  refine G_icmp_eq 38 dr_cX15_usesA_6 (by decide +kernel) (fun hc410221 => ?_) (fun hc410221 => ?_)
  · have r410222 : p410213.toInt = 20 := gj_eq hc410221 (show Int32.toInt 20 = 20 by decide)
    have bp410213' : gB p410213 20 20 := ⟨by omega, by omega⟩
    refine G_iconst 0 dr_cX15_usesA_38 (by decide +kernel) ?_
    exact G_zretA FieldType.boolean dr_cX15_usesA_39 rfl rfl (Nat.le_of_ble_eq_true rfl) (Nat.le_of_ble_eq_true rfl) ⟨0, rfl, rfl, (Nat.le_of_ble_eq_true rfl), (Nat.le_of_ble_eq_true rfl), (gB_w (gBl (show Int32.toInt 0 = 0 by decide)) (by decide) (by decide)), (by unfold uA; first | omega | (have qa0 : Int32.toInt 0 = 0 := (by decide); have qa1 : Int32.toInt 1 = 1 := (by decide); omega)), (fun R c1 c2 c3 c4 c5 => c1 r410222)⟩
  · have r410223 : p410213.toInt ≠ 20 := gj_neq hc410221 (show Int32.toInt 20 = 20 by decide)
    refine G_aload_n 0 dr_cX15_usesA_9 rfl ?_
    refine Gp_get 0 hmq410212 heq410212 dr_cX15_usesA_10 (gk_X15 D I) (Nat.le_of_ble_eq_true rfl) wr_9_175 rfl ?_
    refine G_bipush 21 dr_cX15_usesA_13 (by decide +kernel) ?_
    refine G_icmp_eq 38 dr_cX15_usesA_15 (by decide +kernel) (fun hc410224 => ?_) (fun hc410224 => ?_)
    · have r410225 : p410213.toInt = 21 := gj_eq hc410224 (show Int32.toInt 21 = 21 by decide)
      have bp410213' : gB p410213 21 21 := ⟨by omega, by omega⟩
      refine G_iconst 0 dr_cX15_usesA_38 (by decide +kernel) ?_
      exact G_zretA FieldType.boolean dr_cX15_usesA_39 rfl rfl (Nat.le_of_ble_eq_true rfl) (Nat.le_of_ble_eq_true rfl) ⟨0, rfl, rfl, (Nat.le_of_ble_eq_true rfl), (Nat.le_of_ble_eq_true rfl), (gB_w (gBl (show Int32.toInt 0 = 0 by decide)) (by decide) (by decide)), (by unfold uA; first | omega | (have qa0 : Int32.toInt 0 = 0 := (by decide); have qa1 : Int32.toInt 1 = 1 := (by decide); omega)), (fun R c1 c2 c3 c4 c5 => c2 r410223 r410225)⟩
    · have r410226 : p410213.toInt ≠ 21 := gj_neq hc410224 (show Int32.toInt 21 = 21 by decide)
      refine G_aload_n 0 dr_cX15_usesA_18 rfl ?_
      refine Gp_get 0 hmq410212 heq410212 dr_cX15_usesA_19 (gk_X15 D I) (Nat.le_of_ble_eq_true rfl) wr_9_175 rfl ?_
      refine G_bipush 30 dr_cX15_usesA_22 (by decide +kernel) ?_
      refine G_icmp_eq 38 dr_cX15_usesA_24 (by decide +kernel) (fun hc410227 => ?_) (fun hc410227 => ?_)
      · have r410228 : p410213.toInt = 30 := gj_eq hc410227 (show Int32.toInt 30 = 30 by decide)
        have bp410213' : gB p410213 30 30 := ⟨by omega, by omega⟩
        refine G_iconst 0 dr_cX15_usesA_38 (by decide +kernel) ?_
        exact G_zretA FieldType.boolean dr_cX15_usesA_39 rfl rfl (Nat.le_of_ble_eq_true rfl) (Nat.le_of_ble_eq_true rfl) ⟨0, rfl, rfl, (Nat.le_of_ble_eq_true rfl), (Nat.le_of_ble_eq_true rfl), (gB_w (gBl (show Int32.toInt 0 = 0 by decide)) (by decide) (by decide)), (by unfold uA; first | omega | (have qa0 : Int32.toInt 0 = 0 := (by decide); have qa1 : Int32.toInt 1 = 1 := (by decide); omega)), (fun R c1 c2 c3 c4 c5 => c3 r410223 r410226 r410228)⟩
      · have r410229 : p410213.toInt ≠ 30 := gj_neq hc410227 (show Int32.toInt 30 = 30 by decide)
        refine G_aload_n 0 dr_cX15_usesA_27 rfl ?_
        refine Gp_get 5 hmq410212 heq410212 dr_cX15_usesA_28 (gk_X15 D I) (Nat.le_of_ble_eq_true rfl) wr_9_195 rfl ?_
        refine G_if_eq 38 dr_cX15_usesA_31 (by decide +kernel) (fun hc410230 => ?_) (fun hc410230 => ?_)
        · have r410231 : p410218.toInt = 0 := gj_eq hc410230 (show Int32.toInt 0 = 0 by decide)
          have bp410218' : gB p410218 0 0 := ⟨by omega, by omega⟩
          refine G_iconst 0 dr_cX15_usesA_38 (by decide +kernel) ?_
          exact G_zretA FieldType.boolean dr_cX15_usesA_39 rfl rfl (Nat.le_of_ble_eq_true rfl) (Nat.le_of_ble_eq_true rfl) ⟨0, rfl, rfl, (Nat.le_of_ble_eq_true rfl), (Nat.le_of_ble_eq_true rfl), (gB_w (gBl (show Int32.toInt 0 = 0 by decide)) (by decide) (by decide)), (by unfold uA; first | omega | (have qa0 : Int32.toInt 0 = 0 := (by decide); have qa1 : Int32.toInt 1 = 1 := (by decide); omega)), (fun R c1 c2 c3 c4 c5 => c4 r410223 r410226 r410229 r410231)⟩
        · have r410232 : p410218.toInt ≠ 0 := gj_neq hc410230 (show Int32.toInt 0 = 0 by decide)
          have bp410218' : gB p410218 1 1 := ⟨by omega, by omega⟩
          refine G_iconst 1 dr_cX15_usesA_34 (by decide +kernel) ?_
          refine G_goto 39 dr_cX15_usesA_35 (by decide +kernel) ?_
          exact G_zretA FieldType.boolean dr_cX15_usesA_39 rfl rfl (Nat.le_of_ble_eq_true rfl) (Nat.le_of_ble_eq_true rfl) ⟨1, rfl, rfl, (Nat.le_of_ble_eq_true rfl), (Nat.le_of_ble_eq_true rfl), (gB_w (gBl (show Int32.toInt 1 = 1 by decide)) (by decide) (by decide)), (by unfold uA; first | omega | (have qa0 : Int32.toInt 0 = 0 := (by decide); have qa1 : Int32.toInt 1 = 1 := (by decide); omega)), (fun R c1 c2 c3 c4 c5 => c5 r410223 r410226 r410229 r410232)⟩
/- tr_RRow_usesB3: result -/
def tr_RRow_usesB3 (a0_op : Int32) (a0_regB : Int32) (o1 : Int32) : Prop := ∀ R : (Int32) → Prop,
  (a0_op.toInt ≤ 0 → R (0 : Int32)) →
  (0 < a0_op.toInt → 20 ≤ a0_op.toInt → R (0 : Int32)) →
  (0 < a0_op.toInt → a0_op.toInt < 20 → a0_regB.toInt = 0 → R (0 : Int32)) →
  (0 < a0_op.toInt → a0_op.toInt < 20 → a0_regB.toInt ≠ 0 → R (1 : Int32)) →
  R o1
abbrev ky_410244_Row_usesB : gKey := (cX15_usesB, 1, "SpillForgeModel$Row", (some FieldType.boolean), [], "usesB", fun _ _ => True)
def pp_410244_Row_usesB (D : va_G) (I : FieldType → ClassId) (P410234 : List Nat) (F410235 : Nat → va_E) (q410236 : Nat) (p410237 : Int32) (p410238 : Int32) (p410239 : Int32) (p410240 : Int32) (p410241 : Int32) (p410242 : Int32) (p410243 : Int32) : Option Value → va_W → Nat → Nat → Prop := fun r w dc ds => ∃ (o410254 : Int32), r = some (.int o410254) ∧ w = va_pl P410234 F410235 ∧ dc ≤ 0 ∧ ds ≤ 0 ∧ gB o410254 0 1 ∧ (uB o410254.toInt p410237.toInt p410243.toInt) ∧ tr_RRow_usesB3 p410237 p410243 o410254
set_option maxRecDepth 100000 in
set_option maxHeartbeats 4000000 in
theorem cp_410244_Row_usesB (l : Launch) (hl0 : l.stackTraces = false) (D : va_G) (I : FieldType → ClassId) (P410234 : List Nat) (F410235 : Nat → va_E) (q410236 : Nat) (p410237 : Int32) (p410238 : Int32) (p410239 : Int32) (p410240 : Int32) (p410241 : Int32) (p410242 : Int32) (p410243 : Int32) (hmq410236 : q410236 ∈ P410234) (heq410236 : F410235 q410236 = .inr (20, [.int p410237, .int p410238, .int p410239, .int p410240, .int p410241, .int p410242, .int p410243])) (bp410237 : gB p410237 0 32) (bp410238 : gB p410238 0 1999) (bp410241 : gB p410241 0 1999) (bp410242 : gB p410242 0 1) (bp410243 : gB p410243 0 1) : CtA (gV D I) l yX15_usesB cX15_usesB 1 (some FieldType.boolean) 0 0 0 0 [.ref q410236] (va_pl P410234 F410235) (pp_410244_Row_usesB D I P410234 F410235 q410236 p410237 p410238 p410239 p410240 p410241 p410242 p410243) gNA := by
  refine CtA_of hl0 (by decide) (Nat.le_of_ble_eq_true rfl) ?_
  have bp410239 := gB_any p410239
  have bp410240 := gB_any p410240
  refine G_aload_n 0 dr_cX15_usesB_0 rfl ?_
  refine Gp_get 0 hmq410236 heq410236 dr_cX15_usesB_1 (gk_X15 D I) (Nat.le_of_ble_eq_true rfl) wr_9_175 rfl ?_
  refine G_if_le 27 dr_cX15_usesB_4 (by decide +kernel) (fun hc410245 => ?_) (fun hc410245 => ?_)
  · have r410246 : p410237.toInt ≤ 0 := gj_le hc410245 (show Int32.toInt 0 = 0 by decide)
    have bp410237' : gB p410237 0 0 := ⟨by omega, by omega⟩
    refine G_iconst 0 dr_cX15_usesB_27 (by decide +kernel) ?_
    exact G_zretA FieldType.boolean dr_cX15_usesB_28 rfl rfl (Nat.le_of_ble_eq_true rfl) (Nat.le_of_ble_eq_true rfl) ⟨0, rfl, rfl, (Nat.le_of_ble_eq_true rfl), (Nat.le_of_ble_eq_true rfl), (gB_w (gBl (show Int32.toInt 0 = 0 by decide)) (by decide) (by decide)), (by unfold uB; first | omega | (have qa0 : Int32.toInt 0 = 0 := (by decide); have qa1 : Int32.toInt 1 = 1 := (by decide); omega)), (fun R c1 c2 c3 c4 => c1 r410246)⟩
  · have r410247 : 0 < p410237.toInt := gj_nle hc410245 (show Int32.toInt 0 = 0 by decide)
    have bp410237' : gB p410237 1 32 := ⟨by omega, by omega⟩
    refine G_aload_n 0 dr_cX15_usesB_7 rfl ?_
    refine Gp_get 0 hmq410236 heq410236 dr_cX15_usesB_8 (gk_X15 D I) (Nat.le_of_ble_eq_true rfl) wr_9_175 rfl ?_
    refine G_bipush 20 dr_cX15_usesB_11 (by decide +kernel) ?_
    refine G_icmp_ge 27 dr_cX15_usesB_13 (by decide +kernel) (fun hc410248 => ?_) (fun hc410248 => ?_)
    · have r410249 : 20 ≤ p410237.toInt := gj_leL hc410248 (show Int32.toInt 20 = 20 by decide)
      have bp410237'' : gB p410237 20 32 := ⟨by omega, by omega⟩
      refine G_iconst 0 dr_cX15_usesB_27 (by decide +kernel) ?_
      exact G_zretA FieldType.boolean dr_cX15_usesB_28 rfl rfl (Nat.le_of_ble_eq_true rfl) (Nat.le_of_ble_eq_true rfl) ⟨0, rfl, rfl, (Nat.le_of_ble_eq_true rfl), (Nat.le_of_ble_eq_true rfl), (gB_w (gBl (show Int32.toInt 0 = 0 by decide)) (by decide) (by decide)), (by unfold uB; first | omega | (have qa0 : Int32.toInt 0 = 0 := (by decide); have qa1 : Int32.toInt 1 = 1 := (by decide); omega)), (fun R c1 c2 c3 c4 => c2 r410247 r410249)⟩
    · have r410250 : p410237.toInt < 20 := gj_nleL hc410248 (show Int32.toInt 20 = 20 by decide)
      have bp410237'' : gB p410237 1 19 := ⟨by omega, by omega⟩
      refine G_aload_n 0 dr_cX15_usesB_16 rfl ?_
      refine Gp_get 6 hmq410236 heq410236 dr_cX15_usesB_17 (gk_X15 D I) (Nat.le_of_ble_eq_true rfl) wr_9_199 rfl ?_
      refine G_if_eq 27 dr_cX15_usesB_20 (by decide +kernel) (fun hc410251 => ?_) (fun hc410251 => ?_)
      · have r410252 : p410243.toInt = 0 := gj_eq hc410251 (show Int32.toInt 0 = 0 by decide)
        have bp410243' : gB p410243 0 0 := ⟨by omega, by omega⟩
        refine G_iconst 0 dr_cX15_usesB_27 (by decide +kernel) ?_
        exact G_zretA FieldType.boolean dr_cX15_usesB_28 rfl rfl (Nat.le_of_ble_eq_true rfl) (Nat.le_of_ble_eq_true rfl) ⟨0, rfl, rfl, (Nat.le_of_ble_eq_true rfl), (Nat.le_of_ble_eq_true rfl), (gB_w (gBl (show Int32.toInt 0 = 0 by decide)) (by decide) (by decide)), (by unfold uB; first | omega | (have qa0 : Int32.toInt 0 = 0 := (by decide); have qa1 : Int32.toInt 1 = 1 := (by decide); omega)), (fun R c1 c2 c3 c4 => c3 r410247 r410250 r410252)⟩
      · have r410253 : p410243.toInt ≠ 0 := gj_neq hc410251 (show Int32.toInt 0 = 0 by decide)
        have bp410243' : gB p410243 1 1 := ⟨by omega, by omega⟩
        refine G_iconst 1 dr_cX15_usesB_23 (by decide +kernel) ?_
        refine G_goto 28 dr_cX15_usesB_24 (by decide +kernel) ?_
        exact G_zretA FieldType.boolean dr_cX15_usesB_28 rfl rfl (Nat.le_of_ble_eq_true rfl) (Nat.le_of_ble_eq_true rfl) ⟨1, rfl, rfl, (Nat.le_of_ble_eq_true rfl), (Nat.le_of_ble_eq_true rfl), (gB_w (gBl (show Int32.toInt 1 = 1 by decide)) (by decide) (by decide)), (by unfold uB; first | omega | (have qa0 : Int32.toInt 0 = 0 := (by decide); have qa1 : Int32.toInt 1 = 1 := (by decide); omega)), (fun R c1 c2 c3 c4 => c4 r410247 r410250 r410253)⟩
/- tr_RRow_sets3: result -/
def tr_RRow_sets3 (a0_op : Int32) (o1 : Int32) : Prop := ∀ R : (Int32) → Prop,
  (21 < a0_op.toInt → R (0 : Int32)) →
  (a0_op.toInt ≤ 21 → R (1 : Int32)) →
  R o1
abbrev ky_410265_Row_sets : gKey := (cX15_sets, 1, "SpillForgeModel$Row", (some FieldType.boolean), [], "sets", fun _ _ => True)
def pp_410265_Row_sets (D : va_G) (I : FieldType → ClassId) (P410255 : List Nat) (F410256 : Nat → va_E) (q410257 : Nat) (p410258 : Int32) (p410259 : Int32) (p410260 : Int32) (p410261 : Int32) (p410262 : Int32) (p410263 : Int32) (p410264 : Int32) : Option Value → va_W → Nat → Nat → Prop := fun r w dc ds => ∃ (o410269 : Int32), r = some (.int o410269) ∧ w = va_pl P410255 F410256 ∧ dc ≤ 0 ∧ ds ≤ 0 ∧ gB o410269 0 1 ∧ (uS o410269.toInt p410258.toInt) ∧ tr_RRow_sets3 p410258 o410269
set_option maxRecDepth 100000 in
set_option maxHeartbeats 4000000 in
theorem cp_410265_Row_sets (l : Launch) (hl0 : l.stackTraces = false) (D : va_G) (I : FieldType → ClassId) (P410255 : List Nat) (F410256 : Nat → va_E) (q410257 : Nat) (p410258 : Int32) (p410259 : Int32) (p410260 : Int32) (p410261 : Int32) (p410262 : Int32) (p410263 : Int32) (p410264 : Int32) (hmq410257 : q410257 ∈ P410255) (heq410257 : F410256 q410257 = .inr (20, [.int p410258, .int p410259, .int p410260, .int p410261, .int p410262, .int p410263, .int p410264])) (bp410258 : gB p410258 0 32) (bp410259 : gB p410259 0 1999) (bp410262 : gB p410262 0 1999) (bp410263 : gB p410263 0 1) (bp410264 : gB p410264 0 1) : CtA (gV D I) l yX15_sets cX15_sets 1 (some FieldType.boolean) 0 0 0 0 [.ref q410257] (va_pl P410255 F410256) (pp_410265_Row_sets D I P410255 F410256 q410257 p410258 p410259 p410260 p410261 p410262 p410263 p410264) gNA := by
  refine CtA_of hl0 (by decide) (Nat.le_of_ble_eq_true rfl) ?_
  have bp410260 := gB_any p410260
  have bp410261 := gB_any p410261
  refine G_aload_n 0 dr_cX15_sets_0 rfl ?_
  refine Gp_get 0 hmq410257 heq410257 dr_cX15_sets_1 (gk_X15 D I) (Nat.le_of_ble_eq_true rfl) wr_9_175 rfl ?_
  refine G_bipush 21 dr_cX15_sets_4 (by decide +kernel) ?_
  refine G_icmp_gt 13 dr_cX15_sets_6 (by decide +kernel) (fun hc410266 => ?_) (fun hc410266 => ?_)
  · have r410267 : 21 < p410258.toInt := gj_ltL hc410266 (show Int32.toInt 21 = 21 by decide)
    have bp410258' : gB p410258 22 32 := ⟨by omega, by omega⟩
    refine G_iconst 0 dr_cX15_sets_13 (by decide +kernel) ?_
    exact G_zretA FieldType.boolean dr_cX15_sets_14 rfl rfl (Nat.le_of_ble_eq_true rfl) (Nat.le_of_ble_eq_true rfl) ⟨0, rfl, rfl, (Nat.le_of_ble_eq_true rfl), (Nat.le_of_ble_eq_true rfl), (gB_w (gBl (show Int32.toInt 0 = 0 by decide)) (by decide) (by decide)), (by unfold uS; first | omega | (have qa0 : Int32.toInt 0 = 0 := (by decide); have qa1 : Int32.toInt 1 = 1 := (by decide); omega)), (fun R c1 c2 => c1 r410267)⟩
  · have r410268 : p410258.toInt ≤ 21 := gj_nltL hc410266 (show Int32.toInt 21 = 21 by decide)
    have bp410258' : gB p410258 0 21 := ⟨by omega, by omega⟩
    refine G_iconst 1 dr_cX15_sets_9 (by decide +kernel) ?_
    refine G_goto 14 dr_cX15_sets_10 (by decide +kernel) ?_
    exact G_zretA FieldType.boolean dr_cX15_sets_14 rfl rfl (Nat.le_of_ble_eq_true rfl) (Nat.le_of_ble_eq_true rfl) ⟨1, rfl, rfl, (Nat.le_of_ble_eq_true rfl), (Nat.le_of_ble_eq_true rfl), (gB_w (gBl (show Int32.toInt 1 = 1 by decide)) (by decide) (by decide)), (by unfold uS; first | omega | (have qa0 : Int32.toInt 0 = 0 := (by decide); have qa1 : Int32.toInt 1 = 1 := (by decide); omega)), (fun R c1 c2 => c2 r410268)⟩
/- tl_RModel_findDepth2_342: F, l4; out: F -/
def tl_RModel_findDepth2_342 (D : va_G) (I : FieldType → ClassId) (γ el : Nat → Nat → Nat) (P : List Nat) (F : Nat → va_E) (q0 : Nat) (q1 : Nat) (s1 : Nat → va_E) (s2 : Int32) (k : Nat) (e1 : Nat → va_E) : Prop := ∀ R : (Nat → va_E) → (Int32) → Nat → (Nat → va_E) → Prop,
  (∀ (F_1 : Nat → va_E) (l4_1 : Int32) (x1 : Int32), gB l4_1 0 1000000 → RS D I P F_1 γ el → rStr γ [] F F_1 → (F_1 q0 = F q0) → (F_1 (γ 9 3) = F (γ 9 3)) → fI (F_1 q1) 3 = x1 → x1.toInt ≤ l4_1.toInt → R F_1 l4_1 375 F_1) →
  (∀ (F_1 : Nat → va_E) (l4_1 : Int32) (x1 : Int32) (x2 : Nat → Int32) (x3 : Int32) (x4 : Int32) (x5 : Nat → Int32) (x6 : Nat → va_E) (x7 : Int32) (k : Nat) (e1 : Nat → va_E), gB l4_1 0 1000000 → RS D I P F_1 γ el → rStr γ [] F F_1 → (F_1 q0 = F q0) → (F_1 (γ 9 3) = F (γ 9 3)) → fI (F_1 q1) 3 = x1 → l4_1.toInt < x1.toInt → fR (F_1 q0) 4 = (γ 9 4) → F_1 (γ 9 4) = .inl (I .int, 40, .inl x2) → x3 = x2 l4_1.toNatClampNeg → (x3.toInt ≥ x4.toInt ∧ 4 ≥ x4.toInt ∧ (x4.toInt = x3.toInt ∨ x4.toInt = 4)) → x5 = upd x2 l4_1.toNatClampNeg x4 → (∀ b, b ≠ (γ 9 4) → x6 b = F_1 b) → x6 (γ 9 4) = .inl (I .int, 40, .inl x5) → x7.toInt = l4_1.toInt + 1 → R x6 x7 k e1 → R F_1 l4_1 k e1) →
  R s1 s2 k e1
/- tl_RModel_findDepth2_300: F, l10; out: F -/
def tl_RModel_findDepth2_300 (D : va_G) (I : FieldType → ClassId) (γ el : Nat → Nat → Nat) (P : List Nat) (F : Nat → va_E) (q0 : Nat) (q1 : Nat) (l7_2 : Int64) (s1 : Nat → va_E) (s2 : Int32) (k : Nat) (e1 : Nat → va_E) : Prop := ∀ R : (Nat → va_E) → (Int32) → Nat → (Nat → va_E) → Prop,
  (∀ (F_2 : Nat → va_E) (l10_2 : Int32) (x1 : Int32), gB l10_2 0 1000000 → RS D I P F_2 γ el → rStr γ [] F F_2 → (F_2 q0 = F q0) → (F_2 (γ 9 3) = F (γ 9 3)) → fI (F_2 q1) 3 = x1 → x1.toInt ≤ l10_2.toInt → R F_2 l10_2 333 F_2) →
  (∀ (F_2 : Nat → va_E) (l10_2 : Int32) (x1 : Int32) (x2 : Nat → Int32) (x3 : Int32) (x4 : Int64) (x5 : Int64) (x6 : Int32) (x7 : Int32) (x8 : Nat → Int32) (x9 : Nat → va_E) (x10 : Int32) (k : Nat) (e1 : Nat → va_E), gB l10_2 0 1000000 → RS D I P F_2 γ el → rStr γ [] F F_2 → (F_2 q0 = F q0) → (F_2 (γ 9 3) = F (γ 9 3)) → fI (F_2 q1) 3 = x1 → l10_2.toInt < x1.toInt → fR (F_2 q0) 4 = (γ 9 4) → F_2 (γ 9 4) = .inl (I .int, 40, .inl x2) → x3 = x2 l10_2.toNatClampNeg → x4 = (l7_2.toUInt64 >>> (l10_2.toInt64.toUInt64 &&& Int64.toUInt64 63)).toInt64 → x5 = x4 &&& (1 : Int64) → x6 = x5.toInt32 → x7 = x3 + x6 → x8 = upd x2 l10_2.toNatClampNeg x7 → (∀ b, b ≠ (γ 9 4) → x9 b = F_2 b) → x9 (γ 9 4) = .inl (I .int, 40, .inl x8) → x10.toInt = l10_2.toInt + 1 → R x9 x10 k e1 → R F_2 l10_2 k e1) →
  R s1 s2 k e1
/- tl_RModel_findDepth2_199: l12, l11; out: l11 -/
def tl_RModel_findDepth2_199 (D : va_G) (I : FieldType → ClassId) (γ el : Nat → Nat → Nat) (F_1 : Nat → va_E) (q1 : Nat) (l10_3 : Int32) (l4_1 : Int32) (l7_3 : Int64) (s1 : Int32) (s2 : Int32) (k : Nat) (e1 : Int32) : Prop := ∀ R : (Int32) → (Int32) → Nat → (Int32) → Prop,
  (∀ (l12_4 : Int32) (l11_4 : Int32) (x1 : Nat) (x2 : Nat) (x3 : Int32) (x4 : Int32) (x5 : Int32) (x6 : Nat) (x7 : Int32) (x8 : Int32), gB l12_4 0 2 → gB l11_4 0 1 → fR (F_1 q1) 0 = x1 → x2 = el x1 l10_3.toInt.toNat → fI (F_1 x1) 2 = x3 → tr_RCode_get l10_3 x3 → fI (F_1 x2) 2 = x4 → fI (F_1 x2) 3 = x5 → fR (F_1 x2) 1 = x6 → fI (F_1 x6) 0 = x7 → gB x8 0 2 → tr_RBlock_ways x4 x5 x7 x8 → x8.toInt ≤ l12_4.toInt → R l12_4 l11_4 268 l11_4) →
  (∀ (l12_4 : Int32) (l11_4 : Int32) (x1 : Nat) (x2 : Nat) (x3 : Int32) (x4 : Int32) (x5 : Int32) (x6 : Nat) (x7 : Int32) (x8 : Int32) (x9 : Int32) (k : Nat) (e1 : Int32), gB l12_4 0 2 → gB l11_4 0 1 → fR (F_1 q1) 0 = x1 → x2 = el x1 l10_3.toInt.toNat → fI (F_1 x1) 2 = x3 → tr_RCode_get l10_3 x3 → fI (F_1 x2) 2 = x4 → fI (F_1 x2) 3 = x5 → fR (F_1 x2) 1 = x6 → fI (F_1 x6) 0 = x7 → gB x8 0 2 → tr_RBlock_ways x4 x5 x7 x8 → l12_4.toInt < x8.toInt → l11_4.toInt ≠ 0 → x9.toInt = l12_4.toInt + 1 → R x9 (1 : Int32) k e1 → R l12_4 l11_4 k e1) →
  (∀ (l12_4 : Int32) (l11_4 : Int32) (x1 : Nat) (x2 : Nat) (x3 : Int32) (x4 : Int32) (x5 : Int32) (x6 : Nat) (x7 : Int32) (x8 : Int32) (x9 : Int32) (x10 : Int32) (k : Nat) (e1 : Int32), gB l12_4 0 2 → gB l11_4 0 1 → fR (F_1 q1) 0 = x1 → x2 = el x1 l10_3.toInt.toNat → fI (F_1 x1) 2 = x3 → tr_RCode_get l10_3 x3 → fI (F_1 x2) 2 = x4 → fI (F_1 x2) 3 = x5 → fR (F_1 x2) 1 = x6 → fI (F_1 x6) 0 = x7 → gB x8 0 2 → tr_RBlock_ways x4 x5 x7 x8 → l12_4.toInt < x8.toInt → l11_4.toInt = 0 → tr_RCode_get l10_3 x3 → gB x9 0 39 → tr_RBlock_way2 l12_4 x4 x5 x9 → x9.toInt = l4_1.toInt → x10.toInt = l12_4.toInt + 1 → R x10 (0 : Int32) k e1 → R l12_4 l11_4 k e1) →
  (∀ (l12_4 : Int32) (l11_4 : Int32) (x1 : Nat) (x2 : Nat) (x3 : Int32) (x4 : Int32) (x5 : Int32) (x6 : Nat) (x7 : Int32) (x8 : Int32) (x9 : Int32) (x10 : Int32) (x11 : Int64) (x12 : Int64) (x13 : Int32) (k : Nat) (e1 : Int32), gB l12_4 0 2 → gB l11_4 0 1 → fR (F_1 q1) 0 = x1 → x2 = el x1 l10_3.toInt.toNat → fI (F_1 x1) 2 = x3 → tr_RCode_get l10_3 x3 → fI (F_1 x2) 2 = x4 → fI (F_1 x2) 3 = x5 → fR (F_1 x2) 1 = x6 → fI (F_1 x6) 0 = x7 → gB x8 0 2 → tr_RBlock_ways x4 x5 x7 x8 → l12_4.toInt < x8.toInt → l11_4.toInt = 0 → tr_RCode_get l10_3 x3 → gB x9 0 39 → tr_RBlock_way2 l12_4 x4 x5 x9 → x9.toInt ≠ l4_1.toInt → tr_RCode_get l10_3 x3 → gB x10 0 39 → tr_RBlock_way2 l12_4 x4 x5 x10 → x11 = (l7_3.toUInt64 >>> (x10.toInt64.toUInt64 &&& Int64.toUInt64 63)).toInt64 → x12 = x11 &&& (1 : Int64) → x12 = (0 : Int64) → x13.toInt = l12_4.toInt + 1 → R x13 (0 : Int32) k e1 → R l12_4 l11_4 k e1) →
  (∀ (l12_4 : Int32) (l11_4 : Int32) (x1 : Nat) (x2 : Nat) (x3 : Int32) (x4 : Int32) (x5 : Int32) (x6 : Nat) (x7 : Int32) (x8 : Int32) (x9 : Int32) (x10 : Int32) (x11 : Int64) (x12 : Int64) (x13 : Int32) (k : Nat) (e1 : Int32), gB l12_4 0 2 → gB l11_4 0 1 → fR (F_1 q1) 0 = x1 → x2 = el x1 l10_3.toInt.toNat → fI (F_1 x1) 2 = x3 → tr_RCode_get l10_3 x3 → fI (F_1 x2) 2 = x4 → fI (F_1 x2) 3 = x5 → fR (F_1 x2) 1 = x6 → fI (F_1 x6) 0 = x7 → gB x8 0 2 → tr_RBlock_ways x4 x5 x7 x8 → l12_4.toInt < x8.toInt → l11_4.toInt = 0 → tr_RCode_get l10_3 x3 → gB x9 0 39 → tr_RBlock_way2 l12_4 x4 x5 x9 → x9.toInt ≠ l4_1.toInt → tr_RCode_get l10_3 x3 → gB x10 0 39 → tr_RBlock_way2 l12_4 x4 x5 x10 → x11 = (l7_3.toUInt64 >>> (x10.toInt64.toUInt64 &&& Int64.toUInt64 63)).toInt64 → x12 = x11 &&& (1 : Int64) → (¬ x12 = (0 : Int64)) → x13.toInt = l12_4.toInt + 1 → R x13 (1 : Int32) k e1 → R l12_4 l11_4 k e1) →
  R s1 s2 k e1
/- tl_RModel_findDepth2_158: l10, l9, l7; out: l9, l7 -/
def tl_RModel_findDepth2_158 (D : va_G) (I : FieldType → ClassId) (γ el : Nat → Nat → Nat) (l7_2 : Int64) (F_1 : Nat → va_E) (q1 : Nat) (c1 : Int64) (l4_1 : Int32) (s1 : Int32) (s2 : Int32) (s3 : Int64) (k : Nat) (e1 : Int32) (e2 : Int64) : Prop := ∀ R : (Int32) → (Int32) → (Int64) → Nat → (Int32) → (Int64) → Prop,
  (∀ (l10_3 : Int32) (l9_3 : Int32) (l7_3 : Int64) (x1 : Int32), gB l10_3 0 1000000 → gB l9_3 0 1 → rpop l7_3 ≤ 64 → rpop l7_2 + ((l9_3.toInt : Int)).toNat ≤ rpop l7_3 → fI (F_1 q1) 3 = x1 → x1.toInt ≤ l10_3.toInt → R l10_3 l9_3 l7_3 294 l9_3 l7_3) →
  (∀ (l10_3 : Int32) (l9_3 : Int32) (l7_3 : Int64) (x1 : Int32) (x2 : Int64) (x3 : Int64) (x4 : Int32) (k : Nat) (e1 : Int32) (e2 : Int64), gB l10_3 0 1000000 → gB l9_3 0 1 → rpop l7_3 ≤ 64 → rpop l7_2 + ((l9_3.toInt : Int)).toNat ≤ rpop l7_3 → fI (F_1 q1) 3 = x1 → l10_3.toInt < x1.toInt → x2 = (l7_3.toUInt64 >>> (l10_3.toInt64.toUInt64 &&& Int64.toUInt64 63)).toInt64 → x3 = x2 &&& (1 : Int64) → (¬ x3 = (0 : Int64)) → x4.toInt = l10_3.toInt + 1 → R x4 l9_3 l7_3 k e1 e2 → R l10_3 l9_3 l7_3 k e1 e2) →
  (∀ (l10_3 : Int32) (l9_3 : Int32) (l7_3 : Int64) (x1 : Int32) (x2 : Int64) (x3 : Int64) (x4 : Int64) (x5 : Int64) (x6 : Int32) (x7 : Int64) (x8 : Int64) (x9 : Int32) (k : Nat) (e1 : Int32) (e2 : Int64), gB l10_3 0 1000000 → gB l9_3 0 1 → rpop l7_3 ≤ 64 → rpop l7_2 + ((l9_3.toInt : Int)).toNat ≤ rpop l7_3 → fI (F_1 q1) 3 = x1 → l10_3.toInt < x1.toInt → x2 = (l7_3.toUInt64 >>> (l10_3.toInt64.toUInt64 &&& Int64.toUInt64 63)).toInt64 → x3 = x2 &&& (1 : Int64) → x3 = (0 : Int64) → x4 = (c1.toUInt64 >>> (l10_3.toInt64.toUInt64 &&& Int64.toUInt64 63)).toInt64 → x5 = x4 &&& (1 : Int64) → (¬ x5 = (0 : Int64)) → tl_RModel_findDepth2_199 D I γ el F_1 q1 l10_3 l4_1 l7_3 (0 : Int32) (0 : Int32) 268 x6 → x6.toInt ≠ 0 → x7 = (1 : Int64) <<< (l10_3.toInt64 &&& 63) → x8 = l7_3 ||| x7 → x9.toInt = l10_3.toInt + 1 → R x9 (1 : Int32) x8 k e1 e2 → R l10_3 l9_3 l7_3 k e1 e2) →
  (∀ (l10_3 : Int32) (l9_3 : Int32) (l7_3 : Int64) (x1 : Int32) (x2 : Int64) (x3 : Int64) (x4 : Int64) (x5 : Int64) (x6 : Int32) (x7 : Int32) (k : Nat) (e1 : Int32) (e2 : Int64), gB l10_3 0 1000000 → gB l9_3 0 1 → rpop l7_3 ≤ 64 → rpop l7_2 + ((l9_3.toInt : Int)).toNat ≤ rpop l7_3 → fI (F_1 q1) 3 = x1 → l10_3.toInt < x1.toInt → x2 = (l7_3.toUInt64 >>> (l10_3.toInt64.toUInt64 &&& Int64.toUInt64 63)).toInt64 → x3 = x2 &&& (1 : Int64) → x3 = (0 : Int64) → x4 = (c1.toUInt64 >>> (l10_3.toInt64.toUInt64 &&& Int64.toUInt64 63)).toInt64 → x5 = x4 &&& (1 : Int64) → (¬ x5 = (0 : Int64)) → tl_RModel_findDepth2_199 D I γ el F_1 q1 l10_3 l4_1 l7_3 (0 : Int32) (0 : Int32) 268 x6 → x6.toInt = 0 → x7.toInt = l10_3.toInt + 1 → R x7 l9_3 l7_3 k e1 e2 → R l10_3 l9_3 l7_3 k e1 e2) →
  (∀ (l10_3 : Int32) (l9_3 : Int32) (l7_3 : Int64) (x1 : Int32) (x2 : Int64) (x3 : Int64) (x4 : Int64) (x5 : Int64) (x6 : Int32) (k : Nat) (e1 : Int32) (e2 : Int64), gB l10_3 0 1000000 → gB l9_3 0 1 → rpop l7_3 ≤ 64 → rpop l7_2 + ((l9_3.toInt : Int)).toNat ≤ rpop l7_3 → fI (F_1 q1) 3 = x1 → l10_3.toInt < x1.toInt → x2 = (l7_3.toUInt64 >>> (l10_3.toInt64.toUInt64 &&& Int64.toUInt64 63)).toInt64 → x3 = x2 &&& (1 : Int64) → x3 = (0 : Int64) → x4 = (c1.toUInt64 >>> (l10_3.toInt64.toUInt64 &&& Int64.toUInt64 63)).toInt64 → x5 = x4 &&& (1 : Int64) → x5 = (0 : Int64) → x6.toInt = l10_3.toInt + 1 → R x6 l9_3 l7_3 k e1 e2 → R l10_3 l9_3 l7_3 k e1 e2) →
  R s1 s2 s3 k e1 e2
/- tl_RModel_findDepth2_147: l9, l7; out: l7 -/
def tl_RModel_findDepth2_147 (D : va_G) (I : FieldType → ClassId) (γ el : Nat → Nat → Nat) (F_1 : Nat → va_E) (q1 : Nat) (c1 : Int64) (l4_1 : Int32) (s1 : Int32) (s2 : Int64) (k : Nat) (e1 : Int64) : Prop := ∀ R : (Int32) → (Int64) → Nat → (Int64) → Prop,
  (∀ (l9_2 : Int32) (l7_2 : Int64), gB l9_2 0 1 → rpop l7_2 ≤ 64 → l9_2.toInt = 0 → R l9_2 l7_2 297 l7_2) →
  (∀ (l9_2 : Int32) (l7_2 : Int64) (x1 : Int32) (x2 : Int64) (k : Nat) (e1 : Int64), gB l9_2 0 1 → rpop l7_2 ≤ 64 → l9_2.toInt ≠ 0 → tl_RModel_findDepth2_158 D I γ el l7_2 F_1 q1 c1 l4_1 (0 : Int32) (0 : Int32) l7_2 294 x1 x2 → R x1 x2 k e1 → R l9_2 l7_2 k e1) →
  R s1 s2 k e1
/- tl_RModel_findDepth2_75: l9, l7; out: l7 -/
def tl_RModel_findDepth2_75 (D : va_G) (I : FieldType → ClassId) (γ el : Nat → Nat → Nat) (F_1 : Nat → va_E) (q1 : Nat) (c1 : Int64) (l4_1 : Int32) (s1 : Int32) (s2 : Int64) (k : Nat) (e1 : Int64) : Prop := ∀ R : (Int32) → (Int64) → Nat → (Int64) → Prop,
  (∀ (l9_2 : Int32) (l7_2 : Int64) (x1 : Int32), gB l9_2 0 1000000 → fI (F_1 q1) 3 = x1 → x1.toInt ≤ l9_2.toInt → R l9_2 l7_2 125 l7_2) →
  (∀ (l9_2 : Int32) (l7_2 : Int64) (x1 : Int32) (x2 : Int64) (x3 : Int64) (x4 : Int32) (k : Nat) (e1 : Int64), gB l9_2 0 1000000 → fI (F_1 q1) 3 = x1 → l9_2.toInt < x1.toInt → x2 = (c1.toUInt64 >>> (l9_2.toInt64.toUInt64 &&& Int64.toUInt64 63)).toInt64 → x3 = x2 &&& (1 : Int64) → x3 = (0 : Int64) → x4.toInt = l9_2.toInt + 1 → R x4 l7_2 k e1 → R l9_2 l7_2 k e1) →
  (∀ (l9_2 : Int32) (l7_2 : Int64) (x1 : Int32) (x2 : Int64) (x3 : Int64) (x4 : Nat) (x5 : Nat) (x6 : Int32) (x7 : Int32) (x8 : Int32) (k : Nat) (e1 : Int64), gB l9_2 0 1000000 → fI (F_1 q1) 3 = x1 → l9_2.toInt < x1.toInt → x2 = (c1.toUInt64 >>> (l9_2.toInt64.toUInt64 &&& Int64.toUInt64 63)).toInt64 → x3 = x2 &&& (1 : Int64) → (¬ x3 = (0 : Int64)) → fR (F_1 q1) 0 = x4 → x5 = el x4 l9_2.toInt.toNat → fI (F_1 x4) 2 = x6 → tr_RCode_get l9_2 x6 → gB x7 0 1 → tr_RModel_leads D I γ el F_1 x5 l4_1 x7 → x7.toInt = 0 → x8.toInt = l9_2.toInt + 1 → R x8 l7_2 k e1 → R l9_2 l7_2 k e1) →
  (∀ (l9_2 : Int32) (l7_2 : Int64) (x1 : Int32) (x2 : Int64) (x3 : Int64) (x4 : Nat) (x5 : Nat) (x6 : Int32) (x7 : Int32) (x8 : Int64) (x9 : Int64) (x10 : Int32) (k : Nat) (e1 : Int64), gB l9_2 0 1000000 → fI (F_1 q1) 3 = x1 → l9_2.toInt < x1.toInt → x2 = (c1.toUInt64 >>> (l9_2.toInt64.toUInt64 &&& Int64.toUInt64 63)).toInt64 → x3 = x2 &&& (1 : Int64) → (¬ x3 = (0 : Int64)) → fR (F_1 q1) 0 = x4 → x5 = el x4 l9_2.toInt.toNat → fI (F_1 x4) 2 = x6 → tr_RCode_get l9_2 x6 → gB x7 0 1 → tr_RModel_leads D I γ el F_1 x5 l4_1 x7 → x7.toInt ≠ 0 → x8 = (1 : Int64) <<< (l9_2.toInt64 &&& 63) → x9 = l7_2 ||| x8 → x10.toInt = l9_2.toInt + 1 → R x10 x9 k e1 → R l9_2 l7_2 k e1) →
  R s1 s2 k e1
/- tl_RModel_findDepth2_32: F, l4; out: F -/
def tl_RModel_findDepth2_32 (D : va_G) (I : FieldType → ClassId) (γ el : Nat → Nat → Nat) (P : List Nat) (F : Nat → va_E) (q0 : Nat) (q1 : Nat) (c1 : Int64) (s1 : Nat → va_E) (s2 : Int32) (k : Nat) (e1 : Nat → va_E) : Prop := ∀ R : (Nat → va_E) → (Int32) → Nat → (Nat → va_E) → Prop,
  (∀ (F_1 : Nat → va_E) (l4_1 : Int32) (x1 : Int32), gB l4_1 0 1000000 → RS D I P F_1 γ el → rStr γ [] F F_1 → (F_1 q0 = F q0) → (F_1 (γ 9 3) = F (γ 9 3)) → fI (F_1 q1) 3 = x1 → x1.toInt ≤ l4_1.toInt → R F_1 l4_1 339 F_1) →
  (∀ (F_1 : Nat → va_E) (l4_1 : Int32) (x1 : Int32) (x2 : Int64) (x3 : Int64) (x4 : Int64) (x5 : Int64) (x6 : Int64) (x7 : Int64) (x8 : Int64) (x9 : Int64) (x10 : Int64) (x11 : Nat → va_E) (x12 : Int32) (k : Nat) (e1 : Nat → va_E), gB l4_1 0 1000000 → RS D I P F_1 γ el → rStr γ [] F F_1 → (F_1 q0 = F q0) → (F_1 (γ 9 3) = F (γ 9 3)) → fI (F_1 q1) 3 = x1 → l4_1.toInt < x1.toInt → x2 = (c1.toUInt64 >>> (l4_1.toInt64.toUInt64 &&& Int64.toUInt64 63)).toInt64 → x3 = x2 &&& (1 : Int64) → (¬ x3 = (0 : Int64)) → tr_RModel_reached D I γ el F_1 q1 l4_1 x4 → x5 = x4 ^^^ (-1 : Int64) → x6 = c1 &&& x5 → tl_RModel_findDepth2_75 D I γ el F_1 q1 x6 l4_1 (0 : Int32) (0 : Int64) 125 x7 → (¬ x7 = (0 : Int64)) → x8 = (1 : Int64) <<< (l4_1.toInt64 &&& 63) → x9 = x7 ||| x8 → tl_RModel_findDepth2_147 D I γ el F_1 q1 c1 l4_1 (1 : Int32) x9 297 x10 → tl_RModel_findDepth2_300 D I γ el P F q0 q1 x10 F_1 (0 : Int32) 333 x11 → x12.toInt = l4_1.toInt + 1 → R x11 x12 k e1 → R F_1 l4_1 k e1) →
  (∀ (F_1 : Nat → va_E) (l4_1 : Int32) (x1 : Int32) (x2 : Int64) (x3 : Int64) (x4 : Int64) (x5 : Int64) (x6 : Int64) (x7 : Int64) (x8 : Int32) (k : Nat) (e1 : Nat → va_E), gB l4_1 0 1000000 → RS D I P F_1 γ el → rStr γ [] F F_1 → (F_1 q0 = F q0) → (F_1 (γ 9 3) = F (γ 9 3)) → fI (F_1 q1) 3 = x1 → l4_1.toInt < x1.toInt → x2 = (c1.toUInt64 >>> (l4_1.toInt64.toUInt64 &&& Int64.toUInt64 63)).toInt64 → x3 = x2 &&& (1 : Int64) → (¬ x3 = (0 : Int64)) → tr_RModel_reached D I γ el F_1 q1 l4_1 x4 → x5 = x4 ^^^ (-1 : Int64) → x6 = c1 &&& x5 → tl_RModel_findDepth2_75 D I γ el F_1 q1 x6 l4_1 (0 : Int32) (0 : Int64) 125 x7 → x7 = (0 : Int64) → x8.toInt = l4_1.toInt + 1 → R F_1 x8 k e1 → R F_1 l4_1 k e1) →
  (∀ (F_1 : Nat → va_E) (l4_1 : Int32) (x1 : Int32) (x2 : Int64) (x3 : Int64) (x4 : Int32) (k : Nat) (e1 : Nat → va_E), gB l4_1 0 1000000 → RS D I P F_1 γ el → rStr γ [] F F_1 → (F_1 q0 = F q0) → (F_1 (γ 9 3) = F (γ 9 3)) → fI (F_1 q1) 3 = x1 → l4_1.toInt < x1.toInt → x2 = (c1.toUInt64 >>> (l4_1.toInt64.toUInt64 &&& Int64.toUInt64 63)).toInt64 → x3 = x2 &&& (1 : Int64) → x3 = (0 : Int64) → x4.toInt = l4_1.toInt + 1 → R F_1 x4 k e1 → R F_1 l4_1 k e1) →
  R s1 s2 k e1
/- tl_RModel_findDepth2_2: F, l2; out: F -/
def tl_RModel_findDepth2_2 (D : va_G) (I : FieldType → ClassId) (γ el : Nat → Nat → Nat) (P : List Nat) (F : Nat → va_E) (q0 : Nat) (q1 : Nat) (s1 : Nat → va_E) (s2 : Int32) (k : Nat) (e1 : Nat → va_E) : Prop := ∀ R : (Nat → va_E) → (Int32) → Nat → (Nat → va_E) → Prop,
  (∀ (F_1 : Nat → va_E) (l2_1 : Int32) (x1 : Int32), gB l2_1 0 1000000 → RS D I P F_1 γ el → rStr γ [] F F_1 → (F_1 q0 = F q0) → (F_1 (γ 9 3) = F (γ 9 3)) → fI (F_1 q1) 3 = x1 → x1.toInt ≤ l2_1.toInt → R F_1 l2_1 23 F_1) →
  (∀ (F_1 : Nat → va_E) (l2_1 : Int32) (x1 : Int32) (x2 : Nat → Int32) (x3 : Nat → Int32) (x4 : Nat → va_E) (x5 : Int32) (k : Nat) (e1 : Nat → va_E), gB l2_1 0 1000000 → RS D I P F_1 γ el → rStr γ [] F F_1 → (F_1 q0 = F q0) → (F_1 (γ 9 3) = F (γ 9 3)) → fI (F_1 q1) 3 = x1 → l2_1.toInt < x1.toInt → fR (F_1 q0) 4 = (γ 9 4) → F_1 (γ 9 4) = .inl (I .int, 40, .inl x2) → x3 = upd x2 l2_1.toNatClampNeg 0 → (∀ b, b ≠ (γ 9 4) → x4 b = F_1 b) → x4 (γ 9 4) = .inl (I .int, 40, .inl x3) → x5.toInt = l2_1.toInt + 1 → R x4 x5 k e1 → R F_1 l2_1 k e1) →
  R s1 s2 k e1
/- tr_RModel_findDepth2: F -/
def tr_RModel_findDepth2 (D : va_G) (I : FieldType → ClassId) (γ el : Nat → Nat → Nat) (P : List Nat) (F : Nat → va_E) (q0 : Nat) (q1 : Nat) (o1 : Nat → va_E) : Prop := ∀ R : (Nat → va_E) → Prop,
  (∀ (x1 : Nat → va_E) (x2 : Int64) (x3 : Nat → va_E) (x4 : Nat → va_E), tl_RModel_findDepth2_2 D I γ el P F q0 q1 F (0 : Int32) 23 x1 → tr_RModel_reached D I γ el x1 q1 (-1 : Int32) x2 → tl_RModel_findDepth2_32 D I γ el P F q0 q1 x2 x1 (0 : Int32) 339 x3 → tl_RModel_findDepth2_342 D I γ el P F q0 q1 x3 (0 : Int32) 375 x4 → R x4) →
  R o1
