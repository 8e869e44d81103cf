theorem dr_cX17_zeros_0 : decode cX17_zeros 0 = .ok (.aload_n 0, 1) := by decide +kernel
theorem dr_cX17_zeros_1 : decode cX17_zeros 1 = .ok (.aload_n 1, 1) := by decide +kernel
theorem dr_cX17_zeros_2 : decode cX17_zeros 2 = .ok (.iconst 0, 1) := by decide +kernel
theorem dr_cX17_zeros_3 : decode cX17_zeros 3 = .ok (.invokevirtual 127, 3) := by decide +kernel
theorem dr_cX17_zeros_6 : decode cX17_zeros 6 = .ok (.iconst 0, 1) := by decide +kernel
theorem dr_cX17_zeros_7 : decode cX17_zeros 7 = .ok (.istore_n 2, 1) := by decide +kernel
theorem dr_cX17_zeros_8 : decode cX17_zeros 8 = .ok (.iconst 0, 1) := by decide +kernel
theorem dr_cX17_zeros_9 : decode cX17_zeros 9 = .ok (.istore_n 3, 1) := by decide +kernel
theorem dr_cX17_zeros_10 : decode cX17_zeros 10 = .ok (.iload_n 3, 1) := by decide +kernel
theorem dr_cX17_zeros_11 : decode cX17_zeros 11 = .ok (.sipush 2000, 3) := by decide +kernel
theorem dr_cX17_zeros_14 : decode cX17_zeros 14 = .ok (.if_icmp .ge 60, 3) := by decide +kernel
theorem dr_cX17_zeros_74 : decode cX17_zeros 74 = .ok (.return_, 1) := by decide +kernel
theorem dr_cX17_zeros_17 : decode cX17_zeros 17 = .ok (.aload_n 0, 1) := by decide +kernel
theorem dr_cX17_zeros_18 : decode cX17_zeros 18 = .ok (.getfield 88, 3) := by decide +kernel
theorem dr_cX17_zeros_21 : decode cX17_zeros 21 = .ok (.iconst 0, 1) := by decide +kernel
theorem dr_cX17_zeros_22 : decode cX17_zeros 22 = .ok (.aaload, 1) := by decide +kernel
theorem dr_cX17_zeros_23 : decode cX17_zeros 23 = .ok (.iload_n 3, 1) := by decide +kernel
theorem dr_cX17_zeros_24 : decode cX17_zeros 24 = .ok (.invokestatic 145, 3) := by decide +kernel
theorem dr_cX17_zeros_27 : decode cX17_zeros 27 = .ok (.ifCond .ne 6, 3) := by decide +kernel
theorem dr_cX17_zeros_30 : decode cX17_zeros 30 = .ok (.goto 38, 3) := by decide +kernel
theorem dr_cX17_zeros_68 : decode cX17_zeros 68 = .ok (.iinc 3 1, 3) := by decide +kernel
theorem dr_cX17_zeros_71 : decode cX17_zeros 71 = .ok (.goto (-61), 3) := by decide +kernel
theorem dr_cX17_zeros_33 : decode cX17_zeros 33 = .ok (.aload_n 1, 1) := by decide +kernel
theorem dr_cX17_zeros_34 : decode cX17_zeros 34 = .ok (.invokevirtual 177, 3) := by decide +kernel
theorem dr_cX17_zeros_37 : decode cX17_zeros 37 = .ok (.astore 4, 2) := by decide +kernel
theorem dr_cX17_zeros_39 : decode cX17_zeros 39 = .ok (.aload 4, 2) := by decide +kernel
theorem dr_cX17_zeros_41 : decode cX17_zeros 41 = .ok (.iconst 0, 1) := by decide +kernel
theorem dr_cX17_zeros_42 : decode cX17_zeros 42 = .ok (.putfield 39, 3) := by decide +kernel
theorem dr_cX17_zeros_45 : decode cX17_zeros 45 = .ok (.aload 4, 2) := by decide +kernel
theorem dr_cX17_zeros_47 : decode cX17_zeros 47 = .ok (.iload_n 3, 1) := by decide +kernel
theorem dr_cX17_zeros_48 : decode cX17_zeros 48 = .ok (.putfield 52, 3) := by decide +kernel
theorem dr_cX17_zeros_51 : decode cX17_zeros 51 = .ok (.aload_n 1, 1) := by decide +kernel
theorem dr_cX17_zeros_52 : decode cX17_zeros 52 = .ok (.iconst 0, 1) := by decide +kernel
theorem dr_cX17_zeros_53 : decode cX17_zeros 53 = .ok (.invokevirtual 101, 3) := by decide +kernel
theorem dr_cX17_zeros_56 : decode cX17_zeros 56 = .ok (.getfield 117, 3) := by decide +kernel
theorem dr_cX17_zeros_59 : decode cX17_zeros 59 = .ok (.iload_n 2, 1) := by decide +kernel
theorem dr_cX17_zeros_60 : decode cX17_zeros 60 = .ok (.aload 4, 2) := by decide +kernel
theorem dr_cX17_zeros_62 : decode cX17_zeros 62 = .ok (.invokevirtual 181, 3) := by decide +kernel
theorem dr_cX17_zeros_65 : decode cX17_zeros 65 = .ok (.iinc 2 1, 3) := by decide +kernel
abbrev ky_355897_SpillForgeModel_zeros : gKey := (cX17_zeros, 5, "SpillForgeModel", none, [], "zeros", fun _ _ => True)
def pg_355897_SpillForgeModel_zeros (D : va_G) (I : FieldType → ClassId) (γ0 el0 : Nat → Nat → Nat) (f : Nat) (B : Nat) (P355891 : List Nat) (F355892 : Nat → va_E) (q355893 : Nat) (q355894 : Nat) : Option Value → va_W → Nat → Nat → Prop := fun r w dc ds => ∃ (P359228 : List Nat) (F359229 : Nat → va_E) (γ el : Nat → Nat → Nat), r = none ∧ w = va_pl P359228 F359229 ∧ rSk f [101] ([1, 3, 5, 6, 8, 9, 101] ++ npk) D I P355891 F355892 γ0 el0 P359228 F359229 γ el ∧ (18 * dc + rPh γ0 el0 f ≤ rPh γ el f ∧ ds + rPh γ0 el0 f ≤ rPh γ el f) ∧ rBd γ el f B ∧ γ 6 f = γ0 6 f ∧ γ 7 f = γ0 7 f ∧ γ 16 f ≤ γ0 16 f + 2000 ∧ γ 18 f = γ0 18 f ∧ (F359229 q355893 = F355892 q355893)
set_option maxRecDepth 100000 in
set_option maxHeartbeats 1500000 in
theorem cg_355897_SpillForgeModel_zeros (l : Launch) (hl0 : l.stackTraces = false) (D : va_G) (I : FieldType → ClassId) (γ0 el0 : Nat → Nat → Nat) (f : Nat) (B : Nat) (P355891 : List Nat) (F355892 : Nat → va_E) (q355893 : Nat) (q355894 : Nat) (hT0 : RS D I P355891 F355892 γ0 el0) (hzq355893 : rKd γ0 q355893 10) (hzq355894 : rKd γ0 q355894 9) (hf0 : γ0 1 q355894 = f) (hB0 : rBd γ0 el0 f B) (hBk : B ≤ 100000) (x355895 : 0 < γ0 6 f) (x355896 : γ0 16 f + 2000 ≤ B) : CtA (gV D I) l yX17_zeros cX17_zeros 5 none 8 170 (((387 * B + 6000) - rPh γ0 el0 f) / 18) ((387 * B + 6000) - rPh γ0 el0 f) [.ref q355893, .ref q355894] (va_pl P355891 F355892) (pg_355897_SpillForgeModel_zeros D I γ0 el0 f B P355891 F355892 q355893 q355894) gNA := by
  refine CtA_of hl0 (by decide) (Nat.le_of_ble_eq_true rfl) ?_
  obtain ⟨γ, hγ0⟩ : ∃ z, z = γ0 := ⟨_, rfl⟩
  obtain ⟨el, hel0⟩ : ∃ z, z = el0 := ⟨_, rfl⟩
  have hT : RS D I P355891 F355892 γ el := by rw [hγ0, hel0]; exact hT0
  have hst : rSk f [101] ([1, 3, 5, 6, 8, 9, 101] ++ npk) D I P355891 F355892 γ0 el0 P355891 F355892 γ el := by rw [hγ0, hel0]; exact rSk_rf hT0
  have hph : rPh γ0 el0 f ≤ rPh γ el f := by rw [hγ0, hel0]; exact Nat.le_refl _
  have hB : rBd γ el f B := by rw [hγ0, hel0]; exact hB0
  have htq355893 : rKd γ q355893 10 := by rw [hγ0]; exact hzq355893
  have htq355894 : rKd γ q355894 9 := by rw [hγ0]; exact hzq355894
  have hf1 : γ 1 q355894 = f := by rw [hγ0]; exact hf0
  have x355895n : 0 < γ 6 f := by rw [hγ0]; exact x355895
  have x355896n : γ 16 f + 2000 ≤ B := by rw [hγ0]; exact x355896
  have pk355898 : rPh γ el f ≤ 387 * B + 6000 := rm_pk (rM_ge hT htq355894 hf1).1 (rM_bd hB)
  refine G_widen (cs' := ((rPh γ el f - rPh γ0 el0 f) / 18)) (sl' := (rPh γ el f - rPh γ0 el0 f)) (Nat.zero_le _) (Nat.zero_le _) ?_
  have r355899 : 0 < γ 6 (γ 1 q355894) := by rw [hf1]; omega
  have lz0 : Int32.toInt 0 = 0 := by decide
  have r355900 : γ 6 f = γ0 6 f := by rw [hγ0]
  have r355901 : γ 7 f = γ0 7 f := by rw [hγ0]
  have r355902 : γ 16 f = γ0 16 f := by rw [hγ0]
  have r355903 : γ 18 f = γ0 18 f := by rw [hγ0]
  have r355904 : γ 19 f = γ0 19 f := by rw [hγ0]
  refine G_aload_n 0 dr_cX17_zeros_0 rfl ?_
  refine G_aload_n 1 dr_cX17_zeros_1 rfl ?_
  refine G_iconst 0 dr_cX17_zeros_2 (by decide +kernel) ?_
  have hm355910 : q355893 ∈ P355891 := RS_m hT htq355893 (by decide)
  obtain ⟨q355912, q355913, p355914, p355915, p355916, p355917, p355918, p355919, p355920, p355921, p355922, p355923, p355924, p355925, p355926, p355927, p355928, he355911, hB355955, ht355929, ht355930, ht355931, ht355932, ht355933, ht355934, ht355935, ht355936, ht355937, ht355938, ht355939, ht355940, ht355941, ht355942, ht355943, ht355944, ht355945, ht355946, ht355947, ht355948, ht355949, ht355950, ht355951, ht355952, hB355956⟩ := show rk_10 γ (F355892 q355893) from RS_o hT htq355893
  refine Gw_callV (As := [.ref q355894, .int 0]) (gV_ok D I) (ct_217949_SpillForgeModel_findLive l hl0 D I γ el P355891 F355892 q355893 q355894 0 hT htq355893 htq355894 (gB_w (gBl (show Int32.toInt 0 = 0 by decide)) (by decide) (by decide)) (by omega)) dr_cX17_zeros_3 ⟨wr_10_156, wr_1_14, wr_10_159, by decide, rfl, (Nat.le_of_ble_eq_true rfl), (Nat.le_of_ble_eq_true rfl)⟩ wr_10_158 wr_p_94 hm355910 he355911 rfl (rm_zc pk355898) (rm_zs pk355898) (Nat.le_of_ble_eq_true rfl) (fun r355908 w355909 dc355905 ds355906 hp355907 => ?_) (fun _ _ _ _ _ z => z.elim)
  obtain ⟨F355958, rfl, rfl, hT355959, hs355960, hdc, hds, x355957⟩ := hp355907
  have hs355961 := rSk_str hst hT355959 hs355960 (by decide) (by decide) (by decide)
  have kp355962 : F355958 q355893 = F355892 q355893 := x355957
  have he355963 : F355958 q355893 = .inr (22, [.ref (γ 9 0), .ref (γ 9 1), .ref (γ 9 2), .ref (γ 9 3), .ref (γ 9 4), .ref (γ 9 5), .ref (γ 9 6), .ref (γ 9 7), .ref (γ 9 8), .int p355914, .int p355915, .int p355916, .int p355917, .int p355918, .int p355919, .ref (γ 9 15), .ref (γ 9 16), .ref (γ 9 17), .ref (γ 9 18), .ref (γ 9 19), .ref (γ 9 20), .ref (γ 9 21), .ref (γ 9 22), .int p355920, .int p355921, .int p355922, .int p355923, .int p355924, .ref q355912, .ref (γ 9 29), .int p355925, .ref (γ 9 31), .int p355926, .int p355927, .int p355928, .ref q355913]) := (x355957).trans he355911
  change G _ _ _ _ _ _ _ _ _ _ _
  refine G_widen (cs' := ((rPh γ el f - rPh γ0 el0 f) / 18)) (sl' := (rPh γ el f - rPh γ0 el0 f)) (rm_d0 hdc) (rm_d0 hds) ?_
  refine G_iconst 0 dr_cX17_zeros_6 (by decide +kernel) ?_
  refine G_istore_n (L' := [(2, .int 0), (0, .ref q355893), (1, .ref q355894)]) dr_cX17_zeros_7 (Nat.le_of_ble_eq_true rfl) rfl ?_
  refine G_iconst 0 dr_cX17_zeros_8 (by decide +kernel) ?_
  refine G_istore_n (L' := [(3, .int 0), (2, .int 0), (0, .ref q355893), (1, .ref q355894)]) dr_cX17_zeros_9 (Nat.le_of_ble_eq_true rfl) rfl ?_
  have hlp10_358825 : ∀ (n10_358825 : Nat) (P358813 : List Nat) (F358814 : Nat → va_E) (γ el : Nat → Nat → Nat) (g358811 : Int32) (g358812 : Int32), gB g358811 0 2000 → gB g358812 0 2000 → RS D I P358813 F358814 γ el → rSk f [101] ([1, 3, 5, 6, 8, 9, 101] ++ npk) D I P355891 F355892 γ0 el0 P358813 F358814 γ el → rPh γ0 el0 f ≤ rPh γ el f → rBd γ el f B → γ 6 f = γ0 6 f → γ 7 f = γ0 7 f → γ 18 f = γ0 18 f → γ 16 f ≤ γ0 16 f + (g358812.toInt : Int).toNat → g358812.toInt ≤ g358811.toInt → (g358812.toInt : Int) ≤ γ 2 (γ 14 (el (γ 14 q355894) (0 : Int32).toInt.toNat)) → (F358814 q355893 = F355892 q355893) → ((2001 : Int) - g358811.toInt).toNat < n10_358825 → G (gV D I) l (gRm 8 170 (((387 * B + 6000) - rPh γ0 el0 f) / 18) ((387 * B + 6000) - rPh γ0 el0 f)) (gMA (gV D I) (pg_355897_SpillForgeModel_zeros D I γ0 el0 f B P355891 F355892 q355893 q355894) gNA (((387 * B + 6000) - rPh γ0 el0 f) / 18) ((387 * B + 6000) - rPh γ0 el0 f)) ky_355897_SpillForgeModel_zeros 10 [(3, .int g358811), (2, .int g358812), (0, .ref q355893), (1, .ref q355894)] [] (va_pl P358813 F358814) ((rPh γ el f - rPh γ0 el0 f) / 18) (rPh γ el f - rPh γ0 el0 f) := by
    intro n10_358825
    induction n10_358825 with
    | zero => intro P358813 F358814 γ el g358811 g358812 bg358811 bg358812 hT358815 hs358816 hph358817 hB358818 x358819 x358820 x358821 x358822 x358823 x358824 x358825 hm10_358825; exact absurd hm10_358825 (Nat.not_lt_zero _)
    | succ n10_358825 ih10_358825 =>
      intro P358813 F358814 γ el g358811 g358812 bg358811 bg358812 hT358815 hs358816 hph358817 hB358818 x358819 x358820 x358821 x358822 x358823 x358824 x358825 hm10_358825
      clear r355900 r355901 r355902 r355903 r355904
      have ht358827 : rKd γ q355893 10 := rSk_k hs358816 hzq355893 (by decide) (by decide)
      have ht358828 : rKd γ q355894 9 := rSk_k hs358816 hzq355894 (by decide) (by decide)
      have hf358829 : γ 1 q355894 = f := rSk_1 hs358816 hzq355894 (by decide) hf0
      have pk358830 : rPh γ el f ≤ 387 * B + 6000 := rm_pk (rM_ge hT358815 ht358828 hf358829).1 (rM_bd hB358818)
      have r358831 : 0 < γ 6 (γ 1 q355894) := by rw [hf358829]; omega
      refine G_iload_n 0 dr_cX17_zeros_10 rfl ?_
      refine G_sipush 2000 dr_cX17_zeros_11 (by decide +kernel) ?_
      refine G_icmp_ge 74 dr_cX17_zeros_14 (by decide +kernel) (fun hc358832 => ?_) (fun hc358832 => ?_)
      · have r358833 : 2000 ≤ g358811.toInt := gj_leL hc358832 (show Int32.toInt 2000 = 2000 by decide)
        have bg358811' : gB g358811 2000 2000 := ⟨by omega, by omega⟩
        exact G_vretA dr_cX17_zeros_74 rfl (show ((rPh γ el f - rPh γ0 el0 f) / 18) ≤ (((387 * B + 6000) - rPh γ0 el0 f) / 18) by omega) (show (rPh γ el f - rPh γ0 el0 f) ≤ ((387 * B + 6000) - rPh γ0 el0 f) by omega) ⟨P358813, F358814, γ, el, rfl, rfl, hs358816, ⟨by omega, by omega⟩, hB358818, (by omega), (by omega), (by omega), (by omega), x358825⟩
      · have r358834 : g358811.toInt < 2000 := gj_nleL hc358832 (show Int32.toInt 2000 = 2000 by decide)
        have bg358811' : gB g358811 0 1999 := ⟨by omega, by omega⟩
        refine G_aload_n 2 dr_cX17_zeros_17 rfl ?_
        have hm358835 : q355893 ∈ P358813 := RS_m hT358815 ht358827 (by decide)
        obtain ⟨q358837, q358838, p358839, p358840, p358841, p358842, p358843, p358844, p358845, p358846, p358847, p358848, p358849, p358850, p358851, p358852, p358853, he358836, hB358880, ht358854, ht358855, ht358856, ht358857, ht358858, ht358859, ht358860, ht358861, ht358862, ht358863, ht358864, ht358865, ht358866, ht358867, ht358868, ht358869, ht358870, ht358871, ht358872, ht358873, ht358874, ht358875, ht358876, ht358877, hB358881⟩ := show rk_10 γ (F358814 q355893) from RS_o hT358815 ht358827
        refine Gp_get 0 hm358835 he358836 dr_cX17_zeros_18 (gk_X17 D I) (Nat.le_of_ble_eq_true rfl) wr_7_74 rfl ?_
        refine G_iconst 0 dr_cX17_zeros_21 (by decide +kernel) ?_
        have hm358882 : (γ 9 0) ∈ P358813 := RS_m hT358815 ht358856 (by decide)
        obtain ⟨f358884, he358883, hg358885⟩ := show rk_12 I γ (F358814 (γ 9 0)) from RS_o hT358815 ht358856
        obtain ⟨q358886, hx358888⟩ : ∃ x, x = γ 10 (0 : Int32).toInt.toNat := ⟨_, rfl⟩
        have ht358887 : rKd γ q358886 11 := by rw [hx358888]; exact (hg358885 _ (by decide)).2.1
        refine Gp_aald 5 hm358882 he358883 dr_cX17_zeros_22 rfl rfl (gB_in (gBl (show Int32.toInt 0 = 0 by decide)) (by decide) (by decide)) ?_
        rw [show f358884 (0 : Int32).toNatClampNeg = some q358886 from (hg358885 _ (by decide)).1.trans (congrArg some hx358888.symm)]
        change G _ _ _ _ _ _ _ (.ref q358886 :: _) _ _ _
        refine G_iload_n 0 dr_cX17_zeros_23 rfl ?_
        have hm358889 : q358886 ∈ P358813 := RS_m hT358815 ht358887 (by decide)
        obtain ⟨f358891, he358890, wf358891⟩ := show rk_11 I (F358814 q358886) from RS_o hT358815 ht358887
        refine Gw_callS (As := [.ref q358886, .int g358811]) (gV_ok D I) (cp_1838_SpillForgeModel_has l hl0 D I P358813 F358814 q358886 g358811 f358891 hm358889 he358890 (gB_w bg358811' (by decide) (by decide))) dr_cX17_zeros_24 ⟨wr_10_203, wr_1_14, wr_10_205, by decide, rfl, (Nat.le_of_ble_eq_true rfl), (Nat.le_of_ble_eq_true rfl)⟩ wr_10_204 (rm_zc pk358830) (rm_zs pk358830) (Nat.le_of_ble_eq_true rfl) (fun r358895 w358896 dc358892 ds358893 hp358894 => ?_) (fun _ _ _ _ _ z => z.elim)
        rcases hp358894 with ⟨z358897, z358898, rfl, rfl, hdc, hds, r358899, r358900, r358901, r358902⟩ | ⟨z358903, z358904, rfl, rfl, hdc, hds, r358905, r358906, r358907, r358908⟩
        · change G _ _ _ _ _ _ _ (.int 0 :: _) _ _ _
          refine G_widen (cs' := ((rPh γ el f - rPh γ0 el0 f) / 18)) (sl' := (rPh γ el f - rPh γ0 el0 f)) (rm_d0 hdc) (rm_d0 hds) ?_
          refine G_if_ne 33 dr_cX17_zeros_27 (by decide +kernel) (fun hc => absurd hc (by decide)) (fun _ => ?_)
          refine G_goto 68 dr_cX17_zeros_30 (by decide +kernel) ?_
          obtain ⟨z358910, hz358910⟩ : ∃ z : Int32, z = g358811 + Int32.ofInt 1 := ⟨_, rfl⟩
          have ez358910 : z358910.toInt = g358811.toInt + 1 := gI_inc hz358910 (by decide) bg358811' (by decide) (by decide)
          have bz358910 : gB z358910 1 2000 := ⟨by omega, by omega⟩
          refine G_iinc (L' := [(3, .int z358910), (2, .int g358812), (0, .ref q355893), (1, .ref q355894)]) z358910 0 dr_cX17_zeros_68 rfl hz358910.symm (Nat.le_of_ble_eq_true rfl) rfl ?_
          refine G_goto 10 dr_cX17_zeros_71 (by decide +kernel) ?_
          exact ih10_358825 P358813 F358814 γ el z358910 g358812 (gB_w bz358910 (by decide) (by decide)) bg358812 hT358815 hs358816 hph358817 hB358818 (by omega) (by omega) (by omega) (by omega) (by omega) (by omega) x358825 (by omega)
        · change G _ _ _ _ _ _ _ (.int 1 :: _) _ _ _
          refine G_widen (cs' := ((rPh γ el f - rPh γ0 el0 f) / 18)) (sl' := (rPh γ el f - rPh γ0 el0 f)) (rm_d0 hdc) (rm_d0 hds) ?_
          refine G_if_ne 33 dr_cX17_zeros_27 (by decide +kernel) (fun _ => ?_) (fun hc => absurd hc (by decide))
          have hm358911 : q355894 ∈ P358813 := RS_m hT358815 ht358828 (by decide)
          obtain ⟨q358913, q358914, p358915, p358916, he358912, ht358932, ht358917, ht358918, ht358919, ht358920, r358921, r358922, r358923, r358924, r358925, r358926, r358927, r358928, r358929, r358930, r358931⟩ := show rk_9 γ el q355894 (F358814 q355894) from RS_o hT358815 ht358828
          have bp358915 : gB p358915 0 1000000 := ⟨by omega, by omega⟩
          have bp358916 : gB p358916 0 1000000 := ⟨by omega, by omega⟩
          have hf358933 : γ 1 q358913 = f := (show γ 1 q358913 = γ 1 q355894 from ht358918).trans hf358829
          have hf358934 : γ 1 q358914 = f := (show γ 1 q358914 = γ 1 q355894 from ht358920).trans hf358829
          have r358935 : γ 6 (γ 1 q355894) = γ 6 f := by rw [hf358829]
          have r358936 : γ 16 (γ 1 q355894) = γ 16 f := by rw [hf358829]
          have r358937 : p358916.toInt = γ 6 f ∧ p358916.toInt ≤ 40 := by omega
          clear r358927
          have hm358938 : q358913 ∈ P358813 := RS_m hT358815 ht358917 (by decide)
          obtain ⟨⟨p358940, p358941, q358942, he358939, r358943, r358944, r358945, r358947⟩, r358946⟩ := show rk_4 D I γ el F358814 q358913 from RS_o hT358815 ht358917
          have bp358940 := gB_any p358940
          have bp358941 : gB p358941 0 1000000 := ⟨by omega, by omega⟩
          obtain ⟨r358948, r358949, n358956, f358957, r358950, r358951, r358952, r358953, r358954, r358955⟩ := rLC_n r358945 (by omega)
          have hm358958 : q358942 ∈ P358813 := RS_m hT358815 r358948 (by decide)
          obtain ⟨q358959, hx358960⟩ : ∃ x, x = el q358913 (0 : Int32).toInt.toNat := ⟨_, rfl⟩
          have hx358961 : f358957 (0 : Int32).toNatClampNeg = some q358959 := (r358954 _ (show (0 : Int32).toInt.toNat < γ 2 q358913 by first | assumption | omega)).trans (congrArg some hx358960.symm)
          have ht358964 : rKd γ q358959 2 := by rw [hx358960]; exact (r358928 _ (by omega)).resolve_right (fun z => absurd z.1 (by omega))
          have ht358965 : rFm γ q358959 q358913 := by rw [hx358960]; exact (r358946 _ (show (0 : Int32).toInt.toNat < γ 2 q358913 by omega)).2.1
          have hm358966 : q358959 ∈ P358813 := RS_m hT358815 ht358964 (by decide)
          obtain ⟨q358968, q358969, p358970, p358971, he358967, ht358978, ht358972, ht358973, ht358974, ht358975, ht358976, bp358970, bp358971, r358977, r358979, r358980⟩ := show rk_2 γ q358959 (F358814 q358959) from RS_o hT358815 ht358964
          have hf358981 : γ 1 q358959 = f := (show γ 1 q358959 = γ 1 q358913 from ht358965).trans ((show γ 1 q358913 = γ 1 q355894 from ht358918).trans hf358829)
          have hf358982 : γ 1 q358968 = f := (show γ 1 q358968 = γ 1 q358959 from ht358973).trans hf358981
          have hf358983 : γ 1 q358969 = f := (show γ 1 q358969 = γ 1 q358959 from ht358975).trans hf358981
          have r358984 : γ 6 (γ 1 q358959) = γ 6 f := by rw [hf358981]
          have r358985 : γ 7 (γ 1 q358959) = γ 7 f := by rw [hf358981]
          have r358986 : γ 19 (γ 1 q358959) = γ 19 f := by rw [hf358981]
          have r358987 := r358977.resolve_left (by omega)
          clear r358977
          have r358988 : γ 2 (γ 14 q358959) = γ 2 q358968 := by rw [ht358978.1]
          have r358989 : (0 : Int32).toInt.toNat < γ 2 (γ 14 q355894) := by rw [ht358932.1]; omega
          have r358990 : el (γ 14 q355894) (0 : Int32).toInt.toNat = q358959 := by rw [ht358932.1, hx358960]
          have sz358991 : γ 2 (γ 14 (el (γ 14 q355894) (0 : Int32).toInt.toNat)) = γ 2 (γ 14 q358959) := by rw [r358990]
          refine G_aload_n 3 dr_cX17_zeros_33 rfl ?_
          have rg358992 := rM_ge hT358815 ht358828 hf358829
          have rm358993 := rM_bd hB358818
          have bd358994 := rBd_c hT358815 ht358828 hf358829 hB358818
          have rc358995 := rc_at hT358815 ht358828 hf358829
          obtain ⟨q359002, hl359003⟩ : ∃ z, z = γ 14 q358959 := ⟨_, rfl⟩
          have hl359004 : γ 0 q359002 = 3 ∨ γ 0 q359002 = 103 := by rw [hl359003, ← r358990]; exact (RS_lst hT358815 rc358995.2.1 r358989).1
          refine Gt_row (c := q355894) (f := f) hl0 dr_cX17_zeros_34 ⟨wr_10_206, wr_1_15, wr_10_82, by decide, rfl, (Nat.le_of_ble_eq_true rfl), (Nat.le_of_ble_eq_true rfl)⟩ wr_10_80 wr_10_81 hT358815 ht358828 hf358829 (Nat.le_trans bd358994.2.2.1 (Nat.le_trans hBk (by decide))) (rm_cs hph358817 rg358992.2.1 rm358993 (by decide)) (rm_sl hph358817 rg358992.2.1 rm358993 rm_s18) (Nat.le_of_ble_eq_true rfl) (fun P358996 F358997 γ el q358998 dc358999 ds359000 hq359001 => ?_)
          obtain ⟨hk359005, x0359006, x1359007, x22359008, x8359009, h16359010, h18359011, hnu359012, hot359013, h45359014, hf0359015, ⟨hr1359016, hr2359017⟩, hM359018, hBB359019⟩ := hq359001
          have hk359020 := rSk_of hk359005
          obtain ⟨nu359021, nu359022, nu359023, nu359024⟩ := hnu359012
          have hT359025 := hk359020.1
          have hs359026 := rSk_tr hs358816 hk359020 (by decide) (by decide) (by decide)
          have kp359027 : F358997 q355893 = F355892 q355893 := (rSk_F hk359020 ht358827 (by decide) (by decide)).trans x358825
          have r359028 := rSk_F hk359020 ht358827 (by decide) (by decide)
          have ht359029 : rKd γ q355893 10 := rSk_k hk359020 ht358827 (by decide) (by decide)
          have ht359030 : rKd γ q355894 9 := rSk_k hk359020 ht358828 (by decide) (by decide)
          have hf359031 : γ 1 q355894 = f := rSk_1 hk359020 ht358828 (by decide) hf358829
          have ht359032 : rKd γ q358959 2 := rSk_k hk359020 ht358964 (by decide) (by decide)
          have hf359033 : γ 1 q358959 = f := rSk_1 hk359020 ht358964 (by decide) hf358981
          have ht359034 : rKd γ q358968 3 := rSk_k hk359020 ht358972 (by decide) (by decide)
          have hf359035 : γ 1 q358968 = f := rSk_1 hk359020 ht358972 (by decide) hf358982
          have r359036 := (rSk_s hk359020 ht358828 (by decide)).2.1
          have r359037 := hot359013 _ (by rw [rc358995.2.1]; decide) (by rw [rc358995.2.1]; decide)
          have r359038 : (0 : Int32).toInt.toNat < γ 2 (γ 14 q355894) := by rw [r359036, r359037.1]; exact r358989
          have r359039 : el (γ 14 q355894) (0 : Int32).toInt.toNat = q358959 := by rw [r359036, r359037.2]; exact r358990
          clear r358921 r358922 r358923 r358924 r358925 r358926 r358928 r358929 r358930 r358931 bp358915 bp358916 bp358970 bp358971 r358979 r358980 rg358992 rm358993 bd358994 rc358995
          have r359040 : 0 < γ 6 (γ 1 q355894) := by rw [hf359031]; omega
          have sz359041 := (rSk_s hk359020 ht358964 (by decide)).2.1
          have sz359042 := congrArg (γ 2) sz359041
          have sz359043 := (hot359013 q359002 (by omega) (by omega)).1
          rw [hl359003] at sz359043
          clear hl359004
          have sz359044 := (hot359013 q358968 (rT0 ht358972 (by decide)) (by rw [show _ = 3 from ht358972]; decide)).1
          have r359045 := hf0359015.2.2
          have hB359046 : rBd γ el f B := hBB359019 B (by omega) hB358818
          have ht359047 : rKd γ q358998 101 := x0359006
          have r359048 : γ 8 q358998 < γ 16 f := rm_x8 x8359009 h16359010 rfl
          have hph359049 : rPh γ0 el0 f ≤ rPh γ el f := rm_ph hph358817 hr2359017
          have pk359050 : rPh γ el f ≤ 387 * B + 6000 := rm_pk (rM_ge hT359025 ht359030 hf359031).1 (rM_bd hB359046)
          have hm359051 : q358998 ∈ P358996 := RS_m hT359025 ht359047 (by decide)
          obtain ⟨p359053, p359054, p359055, p359056, p359057, p359058, p359059, he359052, bp359053, bp359054, bp359057, bp359058, bp359059, r359060, r359061, r359062⟩ := show rkR (F358997 q358998) from RS_o hT359025 ht359047
          have bp359055 := gB_any p359055
          have bp359056 := gB_any p359056
          have r359063 : γ 7 (γ 1 q358998) = γ 7 f := by rw [x1359007]
          have r359064 : p359058.toInt = 0 := by have z := hf0359015.1; rw [he359052] at z; exact z
          have bp359058' : gB p359058 0 0 := ⟨by omega, by omega⟩
          have r359065 : p359059.toInt = 0 := by have z := hf0359015.2.1; rw [he359052] at z; exact z
          have bp359059' : gB p359059 0 0 := ⟨by omega, by omega⟩
          refine G_widen (cs' := ((rPh γ el f - rPh γ0 el0 f) / 18)) (sl' := (rPh γ el f - rPh γ0 el0 f)) (rm_wc hph358817 hr1359016) (rm_ws hph358817 hr2359017) ?_
          refine G_astore (L' := [(4, .ref q358998), (3, .int g358811), (2, .int g358812), (0, .ref q355893), (1, .ref q355894)]) dr_cX17_zeros_37 (Nat.le_of_ble_eq_true rfl) rfl ?_
          refine G_aload 0 dr_cX17_zeros_39 rfl ?_
          refine G_iconst 0 dr_cX17_zeros_41 (by decide +kernel) ?_
          refine Gp_put 0 hm359051 he359052 dr_cX17_zeros_42 (gk_X15 D I) (Nat.le_of_ble_eq_true rfl) wr_9_177 rfl rfl rfl (Nat.le_of_ble_eq_true rfl) (fun F359066 e359067 n359068 => ?_)
          have he359069 : F359066 q358998 = .inr (20, [.int 0, .int p359054, .int p359055, .int p359056, .int p359057, .int p359058, .int p359059]) := e359067
          have kp359070 : F359066 q355893 = F355892 q355893 := (n359068 q355893 (rn_ty ht359029 ht359047 (by decide))).trans kp359027
          refine G_aload 0 dr_cX17_zeros_45 rfl ?_
          refine G_iload_n 1 dr_cX17_zeros_47 rfl ?_
          refine Gp_put 1 hm359051 he359069 dr_cX17_zeros_48 (gk_X15 D I) (Nat.le_of_ble_eq_true rfl) wr_9_182 rfl rfl rfl (Nat.le_of_ble_eq_true rfl) (fun F359071 e359072 n359073 => ?_)
          have he359074 : F359071 q358998 = .inr (20, [.int 0, .int g358811, .int p359055, .int p359056, .int p359057, .int p359058, .int p359059]) := e359072
          have n359075 : ∀ b, b ≠ q358998 → F359071 b = F358997 b := fun b hb => (n359073 b hb).trans (n359068 b hb)
          have kp359076 : F359071 q355893 = F355892 q355893 := (n359073 q355893 (rn_ty ht359029 ht359047 (by decide))).trans kp359070
          refine G_aload_n 4 dr_cX17_zeros_51 rfl ?_
          refine G_iconst 0 dr_cX17_zeros_52 (by decide +kernel) ?_
          have hT359077 : RS D I P358996 F359071 γ el := RS_set hT359025 n359075 ht359047 (by decide) ⟨0, g358811, p359055, p359056, p359057, p359058, p359059, he359074, (gB_w (gBl (show Int32.toInt 0 = 0 by decide)) (by decide) (by decide)), bg358811', bp359057, (gB_w bp359058' (by decide) (by decide)), (gB_w bp359059' (by decide) (by decide)), (Or.inl (by decide)), r359061, r359062⟩
          have hs359078 := rSk_put hs359026 hT359077 n359075 ht359047 (by decide) (by decide)
          have hm359079 : q355894 ∈ P358996 := RS_m hT359077 ht359030 (by decide)
          obtain ⟨q359081, q359082, p359083, p359084, he359080, ht359100, ht359085, ht359086, ht359087, ht359088, r359089, r359090, r359091, r359092, r359093, r359094, r359095, r359096, r359097, r359098, r359099⟩ := show rk_9 γ el q355894 (F359071 q355894) from RS_o hT359077 ht359030
          have bp359083 : gB p359083 0 1000000 := ⟨by omega, by omega⟩
          have bp359084 : gB p359084 0 1000000 := ⟨by omega, by omega⟩
          have hf359101 : γ 1 q359081 = f := (show γ 1 q359081 = γ 1 q355894 from ht359086).trans hf359031
          have hf359102 : γ 1 q359082 = f := (show γ 1 q359082 = γ 1 q355894 from ht359088).trans hf359031
          have r359103 : γ 6 (γ 1 q355894) = γ 6 f := by rw [hf359031]
          have r359104 : γ 16 (γ 1 q355894) = γ 16 f := by rw [hf359031]
          have r359105 : p359084.toInt = γ 6 f ∧ p359084.toInt ≤ 40 := by omega
          clear r359095
          have hm359106 : q359081 ∈ P358996 := RS_m hT359077 ht359085 (by decide)
          obtain ⟨⟨p359108, p359109, q359110, he359107, r359111, r359112, r359113, r359115⟩, r359114⟩ := show rk_4 D I γ el F359071 q359081 from RS_o hT359077 ht359085
          have bp359108 := gB_any p359108
          have bp359109 : gB p359109 0 1000000 := ⟨by omega, by omega⟩
          obtain ⟨r359116, r359117, n359124, f359125, r359118, r359119, r359120, r359121, r359122, r359123⟩ := rLC_n r359113 (by omega)
          have hm359126 : q359110 ∈ P358996 := RS_m hT359077 r359116 (by decide)
          obtain ⟨q359127, hx359128⟩ : ∃ x, x = el q359081 (0 : Int32).toInt.toNat := ⟨_, rfl⟩
          have hx359129 : f359125 (0 : Int32).toNatClampNeg = some q359127 := (r359122 _ (show (0 : Int32).toInt.toNat < γ 2 q359081 by first | assumption | omega)).trans (congrArg some hx359128.symm)
          have ht359132 : rKd γ q359127 2 := by rw [hx359128]; exact (r359096 _ (by omega)).resolve_right (fun z => absurd z.1 (by omega))
          have ht359133 : rFm γ q359127 q359081 := by rw [hx359128]; exact (r359114 _ (show (0 : Int32).toInt.toNat < γ 2 q359081 by omega)).2.1
          have hm359134 : q359127 ∈ P358996 := RS_m hT359077 ht359132 (by decide)
          obtain ⟨q359136, q359137, p359138, p359139, he359135, ht359146, ht359140, ht359141, ht359142, ht359143, ht359144, bp359138, bp359139, r359145, r359147, r359148⟩ := show rk_2 γ q359127 (F359071 q359127) from RS_o hT359077 ht359132
          refine Gw_callV (As := [.int 0]) (gV_ok D I) (cp_7723_Code_get l hl0 D I P358996 F359071 q355894 q359081 q359110 0 q359082 p359083 p359084 p359108 p359109 f359125 n359124 q359127 q359136 q359137 p359138 p359139 hm359079 hm359106 hm359126 hm359134 he359080 he359107 r359118 he359135 (gB_w (gBl (show Int32.toInt 0 = 0 by decide)) (by decide) (by decide)) (gB_w bp359109 (by decide) (by decide)) (by have qa0 : Int32.toInt 0 = 0 := (by decide); omega) (by have qa0 : Int32.toInt 0 = 0 := (by decide); omega) (by assumption) (by have qa0 : Int32.toInt 0 = 0 := (by decide); omega)) dr_cX17_zeros_53 ⟨wr_10_161, wr_1_15, wr_10_141, by decide, rfl, (Nat.le_of_ble_eq_true rfl), (Nat.le_of_ble_eq_true rfl)⟩ wr_10_139 wr_10_140 hm359079 he359080 rfl (show ((rPh γ el f - rPh γ0 el0 f) / 18) + 0 + 0 ≤ (((387 * B + 6000) - rPh γ0 el0 f) / 18) by first | omega | decide) (show (rPh γ el f - rPh γ0 el0 f) + 0 + 0 ≤ ((387 * B + 6000) - rPh γ0 el0 f) by first | omega | decide) (Nat.le_of_ble_eq_true rfl) (fun r359152 w359153 dc359149 ds359150 hp359151 => ?_) (fun _ _ _ _ _ z => z.elim)
          obtain ⟨rfl, rfl, hdc, hds⟩ := hp359151
          change G _ _ _ _ _ _ _ (.ref q359127 :: _) _ _ _
          refine G_widen (cs' := ((rPh γ el f - rPh γ0 el0 f) / 18) + 0 + 0) (sl' := (rPh γ el f - rPh γ0 el0 f) + 0 + 0) (by omega) (by omega) ?_
          have hf359154 : γ 1 q359127 = f := (show γ 1 q359127 = γ 1 q359081 from ht359133).trans ((show γ 1 q359081 = γ 1 q355894 from ht359086).trans hf359031)
          have hf359155 : γ 1 q359136 = f := (show γ 1 q359136 = γ 1 q359127 from ht359141).trans hf359154
          have hf359156 : γ 1 q359137 = f := (show γ 1 q359137 = γ 1 q359127 from ht359143).trans hf359154
          have r359157 : γ 6 (γ 1 q359127) = γ 6 f := by rw [hf359154]
          have r359158 : γ 7 (γ 1 q359127) = γ 7 f := by rw [hf359154]
          have r359159 : γ 19 (γ 1 q359127) = γ 19 f := by rw [hf359154]
          have r359160 := r359145.resolve_left (by omega)
          clear r359145
          have r359161 : γ 2 (γ 14 q359127) = γ 2 q359136 := by rw [ht359146.1]
          have r359162 : (0 : Int32).toInt.toNat < γ 2 (γ 14 q355894) := by rw [ht359100.1]; omega
          have r359163 : el (γ 14 q355894) (0 : Int32).toInt.toNat = q359127 := by rw [ht359100.1, hx359128]
          have r359164 : q359127 = q358959 := r359163.symm.trans r359039
          have sz359165 : γ 2 (γ 14 q359127) = γ 2 (γ 14 q358959) := by rw [r359164]
          refine Gp_get 0 hm359134 he359135 dr_cX17_zeros_56 (gk_X12 D I) (Nat.le_of_ble_eq_true rfl) wr_9_220 rfl ?_
          refine G_iload_n 2 dr_cX17_zeros_59 rfl ?_
          refine G_aload 0 dr_cX17_zeros_60 rfl ?_
          have rg359166 := rM_ge hT359077 ht359030 hf359031
          have rm359167 := rM_bd hB359046
          have bd359168 := rBd_c hT359077 ht359030 hf359031 hB359046
          have rc359169 := rc_at hT359077 ht359030 hf359031
          have r359171 : γ 14 (el (γ 14 q355894) (0 : Int32).toInt.toNat) = q359136 := by rw [r359163]; exact ht359146.1
          have r359172 := rg359166.2.2 _ r359162
          rw [r359171] at r359172
          have r359173 := bd359168.2.2.2 _ r359162
          rw [r359171] at r359173
          have r359174 : γ 7 (γ 1 q358998) = γ 7 f := by rw [x1359007]
          have hx359175 : rk_1 γ q358998 (F359071 q358998) := ⟨0, g358811, p359055, p359056, p359057, p359058, p359059, he359074, (gB_w (gBl (show Int32.toInt 0 = 0 by decide)) (by decide) (by decide)), bg358811', bp359057, (gB_w bp359058' (by decide) (by decide)), (gB_w bp359059' (by decide) (by decide)), (Or.inl (by decide)), r359061, r359062, (Or.inl ⟨by decide, by decide⟩)⟩
          refine Gt_ins (c := q355894) (f := f) hl0 dr_cX17_zeros_62 ⟨wr_10_207, wr_1_18, wr_10_210, by decide, rfl, (Nat.le_of_ble_eq_true rfl), (Nat.le_of_ble_eq_true rfl)⟩ wr_10_208 wr_10_209 hT359077 ht359140 hf359155 ht359047 x1359007 x22359008 r359048 (by omega) ht359030 hf359031 r359162 r359171 hx359175 (by omega) (by omega) (Nat.le_trans r359173 (Nat.le_trans hBk (by decide))) (rm_cs hph359049 r359172 rm359167 (by decide)) (rm_sl hph359049 r359172 rm359167 rm_s11) (Nat.le_of_ble_eq_true rfl) (fun P359176 F359170 γ el dc359177 ds359178 hq359179 => ?_)
          obtain ⟨hk359180, x0359181, h2359182, hel359183, hot359184, h16359185, h18359186, hnu359187, hFx359188, hr359189, hM359190, hBB359191⟩ := hq359179
          have hk359192 := rSk_of hk359180
          have r359193 : (fI (F359170 q355894) 3).toInt = (fI (F359071 q355894) 3).toInt := by rw [rSk_F hk359192 ht359030 (by decide) (by decide)]
          obtain ⟨nu359194, nu359195, nu359196, nu359197⟩ := hnu359187
          have hT359198 := hk359192.1
          have hs359199 := rSk_tr hs359078 hk359192 (by decide) (by decide) (by decide)
          have kp359200 : F359170 q355893 = F355892 q355893 := (rSk_F hk359192 ht359029 (by decide) (by decide)).trans kp359076
          have ht359201 : rKd γ q355893 10 := rSk_k hk359192 ht359029 (by decide) (by decide)
          have ht359202 : rKd γ q355894 9 := rSk_k hk359192 ht359030 (by decide) (by decide)
          have hf359203 : γ 1 q355894 = f := rSk_1 hk359192 ht359030 (by decide) hf359031
          have ht359204 : rKd γ q358959 2 := rSk_k hk359192 ht359032 (by decide) (by decide)
          have hf359205 : γ 1 q358959 = f := rSk_1 hk359192 ht359032 (by decide) hf359033
          have ht359206 : rKd γ q358968 3 := rSk_k hk359192 ht359034 (by decide) (by decide)
          have hf359207 : γ 1 q358968 = f := rSk_1 hk359192 ht359034 (by decide) hf359035
          have ht359208 : rKd γ q359127 2 := rSk_k hk359192 ht359132 (by decide) (by decide)
          have hf359209 : γ 1 q359127 = f := rSk_1 hk359192 ht359132 (by decide) hf359154
          have ht359210 : rKd γ q359136 3 := rSk_k hk359192 ht359140 (by decide) (by decide)
          have hf359211 : γ 1 q359136 = f := rSk_1 hk359192 ht359140 (by decide) hf359155
          have r359212 := (rSk_s hk359192 ht359030 (by decide)).2.1
          have r359213 := hot359184 _ (by rw [rc359169.2.1]; decide) (fun q => by rw [q, show _ = 3 from ht359140] at rc359169; exact absurd rc359169.2.1 (by decide))
          have r359214 : (0 : Int32).toInt.toNat < γ 2 (γ 14 q355894) := by rw [r359212, r359213.1]; exact r359038
          have r359215 : el (γ 14 q355894) (0 : Int32).toInt.toNat = q358959 := by rw [r359212, r359213.2]; exact r359039
          have r359216 : (0 : Int32).toInt.toNat < γ 2 (γ 14 q355894) := by rw [r359212, r359213.1]; exact r359162
          have r359217 : el (γ 14 q355894) (0 : Int32).toInt.toNat = q359127 := by rw [r359212, r359213.2]; exact r359163
          clear bp359053 bp359054 bp359057 bp359058 bp359059 bp359055 bp359056 r359089 r359090 r359091 r359092 r359093 r359094 r359096 r359097 r359098 r359099 bp359083 bp359084 bp359138 bp359139 r359147 r359148 rg359166 rm359167 bd359168 rc359169 r359172 r359173
          clear r359060 r359061 r359062
          have r359218 : 0 < γ 6 (γ 1 q355894) := by rw [hf359203]; omega
          first | have sz359219 := (hot359184 q358968 (rT0 ht359034 (by decide)) (by assumption)).1 | skip
          have ht359220 : rKd γ q358998 1 := x0359181
          have hB359221 : rBd γ el f B := hBB359191 B hB359046
          have hph359222 : rPh γ0 el0 f ≤ rPh γ el f := rm_ph hph359049 hr359189.2
          have pk359223 : rPh γ el f ≤ 387 * B + 6000 := rm_pk (rM_ge hT359198 ht359202 hf359203).1 (rM_bd hB359221)
          refine G_widen (cs' := ((rPh γ el f - rPh γ0 el0 f) / 18)) (sl' := (rPh γ el f - rPh γ0 el0 f)) (rm_wc hph359049 hr359189.1) (rm_ws hph359049 hr359189.2) ?_
          have r359224 : γ 14 q359127 = q359136 := ((rSk_s (rSk_of hk359180) ht359132 (by decide)).2.1).trans ht359146.1
          have sz359225 : γ 2 (γ 14 q359127) = γ 2 q359136 := by rw [r359224]
          have bg358812' : gB g358812 0 1999 := ⟨by omega, by omega⟩
          obtain ⟨z359226, hz359226⟩ : ∃ z : Int32, z = g358812 + Int32.ofInt 1 := ⟨_, rfl⟩
          have ez359226 : z359226.toInt = g358812.toInt + 1 := gI_inc hz359226 (by decide) bg358812' (by decide) (by decide)
          have bz359226 : gB z359226 1 2000 := ⟨by omega, by omega⟩
          refine G_iinc (L' := [(2, .int z359226), (4, .ref q358998), (3, .int g358811), (0, .ref q355893), (1, .ref q355894)]) z359226 2 dr_cX17_zeros_65 rfl hz359226.symm (Nat.le_of_ble_eq_true rfl) rfl ?_
          obtain ⟨z359227, hz359227⟩ : ∃ z : Int32, z = g358811 + Int32.ofInt 1 := ⟨_, rfl⟩
          have ez359227 : z359227.toInt = g358811.toInt + 1 := gI_inc hz359227 (by decide) bg358811' (by decide) (by decide)
          have bz359227 : gB z359227 1 2000 := ⟨by omega, by omega⟩
          refine G_iinc (L' := [(3, .int z359227), (2, .int z359226), (4, .ref q358998), (0, .ref q355893), (1, .ref q355894)]) z359227 2 dr_cX17_zeros_68 rfl hz359227.symm (Nat.le_of_ble_eq_true rfl) rfl ?_
          refine G_goto 10 dr_cX17_zeros_71 (by decide +kernel) ?_
          refine G_lv (L' := [(3, .int z359227), (2, .int z359226), (0, .ref q355893), (1, .ref q355894)]) [0, 1, 3, 4] rfl ?_
          exact ih10_358825 P359176 F359170 γ el z359227 z359226 (gB_w bz359227 (by decide) (by decide)) (gB_w bz359226 (by decide) (by decide)) hT359198 hs359199 hph359222 hB359221 (by omega) (by omega) (by omega) (by omega) (by omega) (by rw [r359217]; omega) kp359200 (by omega)
  exact hlp10_358825 (((2001 : Int) - 0).toNat + 1) P355891 F355958 γ el 0 0 (gB_w (gBl (show Int32.toInt 0 = 0 by decide)) (by decide) (by decide)) (gB_w (gBl (show Int32.toInt 0 = 0 by decide)) (by decide) (by decide)) hT355959 hs355961 hph hB (by have qa0 : Int32.toInt 0 = 0 := (by decide); omega) (by have qa0 : Int32.toInt 0 = 0 := (by decide); omega) (by have qa0 : Int32.toInt 0 = 0 := (by decide); omega) (by have qa0 : Int32.toInt 0 = 0 := (by decide); omega) (by have qa0 : Int32.toInt 0 = 0 := (by decide); omega) (by have qa : Int32.toInt 0 = 0 := (by decide); omega) kp355962 (Nat.lt_succ_self _)
