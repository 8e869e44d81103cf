theorem dr_cX17_zeros_0 : decode cX17_zeros 0 = .ok (.aload_n 0, 1) := by decide +kernel
theorem dr_cX17_zeros_1 : decode cX17_zeros 1 = .ok (.aload_n 1, 1) := by decide +kernel
theorem dr_cX17_zeros_2 : decode cX17_zeros 2 = .ok (.iconst 0, 1) := by decide +kernel
theorem dr_cX17_zeros_3 : decode cX17_zeros 3 = .ok (.invokevirtual 127, 3) := by decide +kernel
theorem dr_cX17_zeros_6 : decode cX17_zeros 6 = .ok (.iconst 0, 1) := by decide +kernel
theorem dr_cX17_zeros_7 : decode cX17_zeros 7 = .ok (.istore_n 2, 1) := by decide +kernel
theorem dr_cX17_zeros_8 : decode cX17_zeros 8 = .ok (.iconst 0, 1) := by decide +kernel
theorem dr_cX17_zeros_9 : decode cX17_zeros 9 = .ok (.istore_n 3, 1) := by decide +kernel
theorem dr_cX17_zeros_10 : decode cX17_zeros 10 = .ok (.iload_n 3, 1) := by decide +kernel
theorem dr_cX17_zeros_11 : decode cX17_zeros 11 = .ok (.sipush 2000, 3) := by decide +kernel
theorem dr_cX17_zeros_14 : decode cX17_zeros 14 = .ok (.if_icmp .ge 60, 3) := by decide +kernel
theorem dr_cX17_zeros_74 : decode cX17_zeros 74 = .ok (.return_, 1) := by decide +kernel
theorem dr_cX17_zeros_17 : decode cX17_zeros 17 = .ok (.aload_n 0, 1) := by decide +kernel
theorem dr_cX17_zeros_18 : decode cX17_zeros 18 = .ok (.getfield 88, 3) := by decide +kernel
theorem dr_cX17_zeros_21 : decode cX17_zeros 21 = .ok (.iconst 0, 1) := by decide +kernel
theorem dr_cX17_zeros_22 : decode cX17_zeros 22 = .ok (.aaload, 1) := by decide +kernel
theorem dr_cX17_zeros_23 : decode cX17_zeros 23 = .ok (.iload_n 3, 1) := by decide +kernel
theorem dr_cX17_zeros_24 : decode cX17_zeros 24 = .ok (.invokestatic 145, 3) := by decide +kernel
theorem dr_cX17_zeros_27 : decode cX17_zeros 27 = .ok (.ifCond .ne 6, 3) := by decide +kernel
theorem dr_cX17_zeros_30 : decode cX17_zeros 30 = .ok (.goto 38, 3) := by decide +kernel
theorem dr_cX17_zeros_68 : decode cX17_zeros 68 = .ok (.iinc 3 1, 3) := by decide +kernel
theorem dr_cX17_zeros_71 : decode cX17_zeros 71 = .ok (.goto (-61), 3) := by decide +kernel
theorem dr_cX17_zeros_33 : decode cX17_zeros 33 = .ok (.aload_n 1, 1) := by decide +kernel
theorem dr_cX17_zeros_34 : decode cX17_zeros 34 = .ok (.invokevirtual 177, 3) := by decide +kernel
theorem dr_cX17_zeros_37 : decode cX17_zeros 37 = .ok (.astore 4, 2) := by decide +kernel
theorem dr_cX17_zeros_39 : decode cX17_zeros 39 = .ok (.aload 4, 2) := by decide +kernel
theorem dr_cX17_zeros_41 : decode cX17_zeros 41 = .ok (.iconst 0, 1) := by decide +kernel
theorem dr_cX17_zeros_42 : decode cX17_zeros 42 = .ok (.putfield 39, 3) := by decide +kernel
theorem dr_cX17_zeros_45 : decode cX17_zeros 45 = .ok (.aload 4, 2) := by decide +kernel
theorem dr_cX17_zeros_47 : decode cX17_zeros 47 = .ok (.iload_n 3, 1) := by decide +kernel
theorem dr_cX17_zeros_48 : decode cX17_zeros 48 = .ok (.putfield 52, 3) := by decide +kernel
theorem dr_cX17_zeros_51 : decode cX17_zeros 51 = .ok (.aload_n 1, 1) := by decide +kernel
theorem dr_cX17_zeros_52 : decode cX17_zeros 52 = .ok (.iconst 0, 1) := by decide +kernel
theorem dr_cX17_zeros_53 : decode cX17_zeros 53 = .ok (.invokevirtual 101, 3) := by decide +kernel
theorem dr_cX17_zeros_56 : decode cX17_zeros 56 = .ok (.getfield 117, 3) := by decide +kernel
theorem dr_cX17_zeros_59 : decode cX17_zeros 59 = .ok (.iload_n 2, 1) := by decide +kernel
theorem dr_cX17_zeros_60 : decode cX17_zeros 60 = .ok (.aload 4, 2) := by decide +kernel
theorem dr_cX17_zeros_62 : decode cX17_zeros 62 = .ok (.invokevirtual 181, 3) := by decide +kernel
theorem dr_cX17_zeros_65 : decode cX17_zeros 65 = .ok (.iinc 2 1, 3) := by decide +kernel
abbrev ky_357033_SpillForgeModel_zeros : gKey := (cX17_zeros, 5, "SpillForgeModel", none, [], "zeros", fun _ _ => True)
def pg_357033_SpillForgeModel_zeros (D : va_G) (I : FieldType → ClassId) (γ0 el0 : Nat → Nat → Nat) (f : Nat) (B : Nat) (P357027 : List Nat) (F357028 : Nat → va_E) (q357029 : Nat) (q357030 : Nat) : Option Value → va_W → Nat → Nat → Prop := fun r w dc ds => ∃ (P360364 : List Nat) (F360365 : Nat → va_E) (γ el : Nat → Nat → Nat), r = none ∧ w = va_pl P360364 F360365 ∧ rSk f [101] ([1, 3, 5, 6, 8, 9, 101] ++ npk) D I P357027 F357028 γ0 el0 P360364 F360365 γ el ∧ (18 * dc + rPh γ0 el0 f ≤ rPh γ el f ∧ ds + rPh γ0 el0 f ≤ rPh γ el f) ∧ rBd γ el f B ∧ γ 6 f = γ0 6 f ∧ γ 7 f = γ0 7 f ∧ γ 16 f ≤ γ0 16 f + 2000 ∧ γ 18 f = γ0 18 f ∧ (F360365 q357029 = F357028 q357029)
set_option maxRecDepth 100000 in
set_option maxHeartbeats 1500000 in
theorem cg_357033_SpillForgeModel_zeros (l : Launch) (hl0 : l.stackTraces = false) (D : va_G) (I : FieldType → ClassId) (γ0 el0 : Nat → Nat → Nat) (f : Nat) (B : Nat) (P357027 : List Nat) (F357028 : Nat → va_E) (q357029 : Nat) (q357030 : Nat) (hT0 : RS D I P357027 F357028 γ0 el0) (hzq357029 : rKd γ0 q357029 10) (hzq357030 : rKd γ0 q357030 9) (hf0 : γ0 1 q357030 = f) (hB0 : rBd γ0 el0 f B) (hBk : B ≤ 100000) (x357031 : 0 < γ0 6 f) (x357032 : γ0 16 f + 2000 ≤ B) : CtA (gV D I) l yX17_zeros cX17_zeros 5 none 8 170 (((387 * B + 6000) - rPh γ0 el0 f) / 18) ((387 * B + 6000) - rPh γ0 el0 f) [.ref q357029, .ref q357030] (va_pl P357027 F357028) (pg_357033_SpillForgeModel_zeros D I γ0 el0 f B P357027 F357028 q357029 q357030) gNA := by
  refine CtA_of hl0 (by decide) (Nat.le_of_ble_eq_true rfl) ?_
  obtain ⟨γ, hγ0⟩ : ∃ z, z = γ0 := ⟨_, rfl⟩
  obtain ⟨el, hel0⟩ : ∃ z, z = el0 := ⟨_, rfl⟩
  have hT : RS D I P357027 F357028 γ el := by rw [hγ0, hel0]; exact hT0
  have hst : rSk f [101] ([1, 3, 5, 6, 8, 9, 101] ++ npk) D I P357027 F357028 γ0 el0 P357027 F357028 γ el := by rw [hγ0, hel0]; exact rSk_rf hT0
  have hph : rPh γ0 el0 f ≤ rPh γ el f := by rw [hγ0, hel0]; exact Nat.le_refl _
  have hB : rBd γ el f B := by rw [hγ0, hel0]; exact hB0
  have htq357029 : rKd γ q357029 10 := by rw [hγ0]; exact hzq357029
  have htq357030 : rKd γ q357030 9 := by rw [hγ0]; exact hzq357030
  have hf1 : γ 1 q357030 = f := by rw [hγ0]; exact hf0
  have x357031n : 0 < γ 6 f := by rw [hγ0]; exact x357031
  have x357032n : γ 16 f + 2000 ≤ B := by rw [hγ0]; exact x357032
  have pk357034 : rPh γ el f ≤ 387 * B + 6000 := rm_pk (rM_ge hT htq357030 hf1).1 (rM_bd hB)
  refine G_widen (cs' := ((rPh γ el f - rPh γ0 el0 f) / 18)) (sl' := (rPh γ el f - rPh γ0 el0 f)) (Nat.zero_le _) (Nat.zero_le _) ?_
  have r357035 : 0 < γ 6 (γ 1 q357030) := by rw [hf1]; omega
  have lz0 : Int32.toInt 0 = 0 := by decide
  have r357036 : γ 6 f = γ0 6 f := by rw [hγ0]
  have r357037 : γ 7 f = γ0 7 f := by rw [hγ0]
  have r357038 : γ 16 f = γ0 16 f := by rw [hγ0]
  have r357039 : γ 18 f = γ0 18 f := by rw [hγ0]
  have r357040 : γ 19 f = γ0 19 f := by rw [hγ0]
  refine G_aload_n 0 dr_cX17_zeros_0 rfl ?_
  refine G_aload_n 1 dr_cX17_zeros_1 rfl ?_
  refine G_iconst 0 dr_cX17_zeros_2 (by decide +kernel) ?_
  have hm357046 : q357029 ∈ P357027 := RS_m hT htq357029 (by decide)
  obtain ⟨q357048, q357049, p357050, p357051, p357052, p357053, p357054, p357055, p357056, p357057, p357058, p357059, p357060, p357061, p357062, p357063, p357064, he357047, hB357091, ht357065, ht357066, ht357067, ht357068, ht357069, ht357070, ht357071, ht357072, ht357073, ht357074, ht357075, ht357076, ht357077, ht357078, ht357079, ht357080, ht357081, ht357082, ht357083, ht357084, ht357085, ht357086, ht357087, ht357088, hB357092⟩ := show rk_10 γ (F357028 q357029) from RS_o hT htq357029
  refine Gw_callV (As := [.ref q357030, .int 0]) (gV_ok D I) (ct_218914_SpillForgeModel_findLive l hl0 D I γ el P357027 F357028 q357029 q357030 0 hT htq357029 htq357030 (gB_w (gBl (show Int32.toInt 0 = 0 by decide)) (by decide) (by decide)) (by omega)) dr_cX17_zeros_3 ⟨wr_10_156, wr_1_14, wr_10_159, by decide, rfl, (Nat.le_of_ble_eq_true rfl), (Nat.le_of_ble_eq_true rfl)⟩ wr_10_158 wr_p_94 hm357046 he357047 rfl (rm_zc pk357034) (rm_zs pk357034) (Nat.le_of_ble_eq_true rfl) (fun r357044 w357045 dc357041 ds357042 hp357043 => ?_) (fun _ _ _ _ _ z => z.elim)
  obtain ⟨F357094, rfl, rfl, hT357095, hs357096, hdc, hds, x357093⟩ := hp357043
  have hs357097 := rSk_str hst hT357095 hs357096 (by decide) (by decide) (by decide)
  have kp357098 : F357094 q357029 = F357028 q357029 := x357093
  have he357099 : F357094 q357029 = .inr (22, [.ref (γ 9 0), .ref (γ 9 1), .ref (γ 9 2), .ref (γ 9 3), .ref (γ 9 4), .ref (γ 9 5), .ref (γ 9 6), .ref (γ 9 7), .ref (γ 9 8), .int p357050, .int p357051, .int p357052, .int p357053, .int p357054, .int p357055, .ref (γ 9 15), .ref (γ 9 16), .ref (γ 9 17), .ref (γ 9 18), .ref (γ 9 19), .ref (γ 9 20), .ref (γ 9 21), .ref (γ 9 22), .int p357056, .int p357057, .int p357058, .int p357059, .int p357060, .ref q357048, .ref (γ 9 29), .int p357061, .ref (γ 9 31), .int p357062, .int p357063, .int p357064, .ref q357049]) := (x357093).trans he357047
  change G _ _ _ _ _ _ _ _ _ _ _
  refine G_widen (cs' := ((rPh γ el f - rPh γ0 el0 f) / 18)) (sl' := (rPh γ el f - rPh γ0 el0 f)) (rm_d0 hdc) (rm_d0 hds) ?_
  refine G_iconst 0 dr_cX17_zeros_6 (by decide +kernel) ?_
  refine G_istore_n (L' := [(2, .int 0), (0, .ref q357029), (1, .ref q357030)]) dr_cX17_zeros_7 (Nat.le_of_ble_eq_true rfl) rfl ?_
  refine G_iconst 0 dr_cX17_zeros_8 (by decide +kernel) ?_
  refine G_istore_n (L' := [(3, .int 0), (2, .int 0), (0, .ref q357029), (1, .ref q357030)]) dr_cX17_zeros_9 (Nat.le_of_ble_eq_true rfl) rfl ?_
  have hlp10_359961 : ∀ (n10_359961 : Nat) (P359949 : List Nat) (F359950 : Nat → va_E) (γ el : Nat → Nat → Nat) (g359947 : Int32) (g359948 : Int32), gB g359947 0 2000 → gB g359948 0 2000 → RS D I P359949 F359950 γ el → rSk f [101] ([1, 3, 5, 6, 8, 9, 101] ++ npk) D I P357027 F357028 γ0 el0 P359949 F359950 γ el → rPh γ0 el0 f ≤ rPh γ el f → rBd γ el f B → γ 6 f = γ0 6 f → γ 7 f = γ0 7 f → γ 18 f = γ0 18 f → γ 16 f ≤ γ0 16 f + (g359948.toInt : Int).toNat → g359948.toInt ≤ g359947.toInt → (g359948.toInt : Int) ≤ γ 2 (γ 14 (el (γ 14 q357030) (0 : Int32).toInt.toNat)) → (F359950 q357029 = F357028 q357029) → ((2001 : Int) - g359947.toInt).toNat < n10_359961 → G (gV D I) l (gRm 8 170 (((387 * B + 6000) - rPh γ0 el0 f) / 18) ((387 * B + 6000) - rPh γ0 el0 f)) (gMA (gV D I) (pg_357033_SpillForgeModel_zeros D I γ0 el0 f B P357027 F357028 q357029 q357030) gNA (((387 * B + 6000) - rPh γ0 el0 f) / 18) ((387 * B + 6000) - rPh γ0 el0 f)) ky_357033_SpillForgeModel_zeros 10 [(3, .int g359947), (2, .int g359948), (0, .ref q357029), (1, .ref q357030)] [] (va_pl P359949 F359950) ((rPh γ el f - rPh γ0 el0 f) / 18) (rPh γ el f - rPh γ0 el0 f) := by
    intro n10_359961
    induction n10_359961 with
    | zero => intro P359949 F359950 γ el g359947 g359948 bg359947 bg359948 hT359951 hs359952 hph359953 hB359954 x359955 x359956 x359957 x359958 x359959 x359960 x359961 hm10_359961; exact absurd hm10_359961 (Nat.not_lt_zero _)
    | succ n10_359961 ih10_359961 =>
      intro P359949 F359950 γ el g359947 g359948 bg359947 bg359948 hT359951 hs359952 hph359953 hB359954 x359955 x359956 x359957 x359958 x359959 x359960 x359961 hm10_359961
      clear r357036 r357037 r357038 r357039 r357040
      have ht359963 : rKd γ q357029 10 := rSk_k hs359952 hzq357029 (by decide) (by decide)
      have ht359964 : rKd γ q357030 9 := rSk_k hs359952 hzq357030 (by decide) (by decide)
      have hf359965 : γ 1 q357030 = f := rSk_1 hs359952 hzq357030 (by decide) hf0
      have pk359966 : rPh γ el f ≤ 387 * B + 6000 := rm_pk (rM_ge hT359951 ht359964 hf359965).1 (rM_bd hB359954)
      have r359967 : 0 < γ 6 (γ 1 q357030) := by rw [hf359965]; omega
      refine G_iload_n 0 dr_cX17_zeros_10 rfl ?_
      refine G_sipush 2000 dr_cX17_zeros_11 (by decide +kernel) ?_
      refine G_icmp_ge 74 dr_cX17_zeros_14 (by decide +kernel) (fun hc359968 => ?_) (fun hc359968 => ?_)
      · have r359969 : 2000 ≤ g359947.toInt := gj_leL hc359968 (show Int32.toInt 2000 = 2000 by decide)
        have bg359947' : gB g359947 2000 2000 := ⟨by omega, by omega⟩
        exact G_vretA dr_cX17_zeros_74 rfl (show ((rPh γ el f - rPh γ0 el0 f) / 18) ≤ (((387 * B + 6000) - rPh γ0 el0 f) / 18) by omega) (show (rPh γ el f - rPh γ0 el0 f) ≤ ((387 * B + 6000) - rPh γ0 el0 f) by omega) ⟨P359949, F359950, γ, el, rfl, rfl, hs359952, ⟨by omega, by omega⟩, hB359954, (by omega), (by omega), (by omega), (by omega), x359961⟩
      · have r359970 : g359947.toInt < 2000 := gj_nleL hc359968 (show Int32.toInt 2000 = 2000 by decide)
        have bg359947' : gB g359947 0 1999 := ⟨by omega, by omega⟩
        refine G_aload_n 2 dr_cX17_zeros_17 rfl ?_
        have hm359971 : q357029 ∈ P359949 := RS_m hT359951 ht359963 (by decide)
        obtain ⟨q359973, q359974, p359975, p359976, p359977, p359978, p359979, p359980, p359981, p359982, p359983, p359984, p359985, p359986, p359987, p359988, p359989, he359972, hB360016, ht359990, ht359991, ht359992, ht359993, ht359994, ht359995, ht359996, ht359997, ht359998, ht359999, ht360000, ht360001, ht360002, ht360003, ht360004, ht360005, ht360006, ht360007, ht360008, ht360009, ht360010, ht360011, ht360012, ht360013, hB360017⟩ := show rk_10 γ (F359950 q357029) from RS_o hT359951 ht359963
        refine Gp_get 0 hm359971 he359972 dr_cX17_zeros_18 (gk_X17 D I) (Nat.le_of_ble_eq_true rfl) wr_7_74 rfl ?_
        refine G_iconst 0 dr_cX17_zeros_21 (by decide +kernel) ?_
        have hm360018 : (γ 9 0) ∈ P359949 := RS_m hT359951 ht359992 (by decide)
        obtain ⟨f360020, he360019, hg360021⟩ := show rk_12 I γ (F359950 (γ 9 0)) from RS_o hT359951 ht359992
        obtain ⟨q360022, hx360024⟩ : ∃ x, x = γ 10 (0 : Int32).toInt.toNat := ⟨_, rfl⟩
        have ht360023 : rKd γ q360022 11 := by rw [hx360024]; exact (hg360021 _ (by decide)).2.1
        refine Gp_aald 5 hm360018 he360019 dr_cX17_zeros_22 rfl rfl (gB_in (gBl (show Int32.toInt 0 = 0 by decide)) (by decide) (by decide)) ?_
        rw [show f360020 (0 : Int32).toNatClampNeg = some q360022 from (hg360021 _ (by decide)).1.trans (congrArg some hx360024.symm)]
        change G _ _ _ _ _ _ _ (.ref q360022 :: _) _ _ _
        refine G_iload_n 0 dr_cX17_zeros_23 rfl ?_
        have hm360025 : q360022 ∈ P359949 := RS_m hT359951 ht360023 (by decide)
        obtain ⟨f360027, he360026, wf360027⟩ := show rk_11 I (F359950 q360022) from RS_o hT359951 ht360023
        refine Gw_callS (As := [.ref q360022, .int g359947]) (gV_ok D I) (cp_1838_SpillForgeModel_has l hl0 D I P359949 F359950 q360022 g359947 f360027 hm360025 he360026 (gB_w bg359947' (by decide) (by decide))) dr_cX17_zeros_24 ⟨wr_10_203, wr_1_14, wr_10_205, by decide, rfl, (Nat.le_of_ble_eq_true rfl), (Nat.le_of_ble_eq_true rfl)⟩ wr_10_204 (rm_zc pk359966) (rm_zs pk359966) (Nat.le_of_ble_eq_true rfl) (fun r360031 w360032 dc360028 ds360029 hp360030 => ?_) (fun _ _ _ _ _ z => z.elim)
        rcases hp360030 with ⟨z360033, z360034, rfl, rfl, hdc, hds, r360035, r360036, r360037, r360038⟩ | ⟨z360039, z360040, rfl, rfl, hdc, hds, r360041, r360042, r360043, r360044⟩
        · change G _ _ _ _ _ _ _ (.int 0 :: _) _ _ _
          refine G_widen (cs' := ((rPh γ el f - rPh γ0 el0 f) / 18)) (sl' := (rPh γ el f - rPh γ0 el0 f)) (rm_d0 hdc) (rm_d0 hds) ?_
          refine G_if_ne 33 dr_cX17_zeros_27 (by decide +kernel) (fun hc => absurd hc (by decide)) (fun _ => ?_)
          refine G_goto 68 dr_cX17_zeros_30 (by decide +kernel) ?_
          obtain ⟨z360046, hz360046⟩ : ∃ z : Int32, z = g359947 + Int32.ofInt 1 := ⟨_, rfl⟩
          have ez360046 : z360046.toInt = g359947.toInt + 1 := gI_inc hz360046 (by decide) bg359947' (by decide) (by decide)
          have bz360046 : gB z360046 1 2000 := ⟨by omega, by omega⟩
          refine G_iinc (L' := [(3, .int z360046), (2, .int g359948), (0, .ref q357029), (1, .ref q357030)]) z360046 0 dr_cX17_zeros_68 rfl hz360046.symm (Nat.le_of_ble_eq_true rfl) rfl ?_
          refine G_goto 10 dr_cX17_zeros_71 (by decide +kernel) ?_
          exact ih10_359961 P359949 F359950 γ el z360046 g359948 (gB_w bz360046 (by decide) (by decide)) bg359948 hT359951 hs359952 hph359953 hB359954 (by omega) (by omega) (by omega) (by omega) (by omega) (by omega) x359961 (by omega)
        · change G _ _ _ _ _ _ _ (.int 1 :: _) _ _ _
          refine G_widen (cs' := ((rPh γ el f - rPh γ0 el0 f) / 18)) (sl' := (rPh γ el f - rPh γ0 el0 f)) (rm_d0 hdc) (rm_d0 hds) ?_
          refine G_if_ne 33 dr_cX17_zeros_27 (by decide +kernel) (fun _ => ?_) (fun hc => absurd hc (by decide))
          have hm360047 : q357030 ∈ P359949 := RS_m hT359951 ht359964 (by decide)
          obtain ⟨q360049, q360050, p360051, p360052, he360048, ht360068, ht360053, ht360054, ht360055, ht360056, r360057, r360058, r360059, r360060, r360061, r360062, r360063, r360064, r360065, r360066, r360067⟩ := show rk_9 γ el q357030 (F359950 q357030) from RS_o hT359951 ht359964
          have bp360051 : gB p360051 0 1000000 := ⟨by omega, by omega⟩
          have bp360052 : gB p360052 0 1000000 := ⟨by omega, by omega⟩
          have hf360069 : γ 1 q360049 = f := (show γ 1 q360049 = γ 1 q357030 from ht360054).trans hf359965
          have hf360070 : γ 1 q360050 = f := (show γ 1 q360050 = γ 1 q357030 from ht360056).trans hf359965
          have r360071 : γ 6 (γ 1 q357030) = γ 6 f := by rw [hf359965]
          have r360072 : γ 16 (γ 1 q357030) = γ 16 f := by rw [hf359965]
          have r360073 : p360052.toInt = γ 6 f ∧ p360052.toInt ≤ 40 := by omega
          clear r360063
          have hm360074 : q360049 ∈ P359949 := RS_m hT359951 ht360053 (by decide)
          obtain ⟨⟨p360076, p360077, q360078, he360075, r360079, r360080, r360081, r360083⟩, r360082⟩ := show rk_4 D I γ el F359950 q360049 from RS_o hT359951 ht360053
          have bp360076 := gB_any p360076
          have bp360077 : gB p360077 0 1000000 := ⟨by omega, by omega⟩
          obtain ⟨r360084, r360085, n360092, f360093, r360086, r360087, r360088, r360089, r360090, r360091⟩ := rLC_n r360081 (by omega)
          have hm360094 : q360078 ∈ P359949 := RS_m hT359951 r360084 (by decide)
          obtain ⟨q360095, hx360096⟩ : ∃ x, x = el q360049 (0 : Int32).toInt.toNat := ⟨_, rfl⟩
          have hx360097 : f360093 (0 : Int32).toNatClampNeg = some q360095 := (r360090 _ (show (0 : Int32).toInt.toNat < γ 2 q360049 by first | assumption | omega)).trans (congrArg some hx360096.symm)
          have ht360100 : rKd γ q360095 2 := by rw [hx360096]; exact (r360064 _ (by omega)).resolve_right (fun z => absurd z.1 (by omega))
          have ht360101 : rFm γ q360095 q360049 := by rw [hx360096]; exact (r360082 _ (show (0 : Int32).toInt.toNat < γ 2 q360049 by omega)).2.1
          have hm360102 : q360095 ∈ P359949 := RS_m hT359951 ht360100 (by decide)
          obtain ⟨q360104, q360105, p360106, p360107, he360103, ht360114, ht360108, ht360109, ht360110, ht360111, ht360112, bp360106, bp360107, r360113, r360115, r360116⟩ := show rk_2 γ q360095 (F359950 q360095) from RS_o hT359951 ht360100
          have hf360117 : γ 1 q360095 = f := (show γ 1 q360095 = γ 1 q360049 from ht360101).trans ((show γ 1 q360049 = γ 1 q357030 from ht360054).trans hf359965)
          have hf360118 : γ 1 q360104 = f := (show γ 1 q360104 = γ 1 q360095 from ht360109).trans hf360117
          have hf360119 : γ 1 q360105 = f := (show γ 1 q360105 = γ 1 q360095 from ht360111).trans hf360117
          have r360120 : γ 6 (γ 1 q360095) = γ 6 f := by rw [hf360117]
          have r360121 : γ 7 (γ 1 q360095) = γ 7 f := by rw [hf360117]
          have r360122 : γ 19 (γ 1 q360095) = γ 19 f := by rw [hf360117]
          have r360123 := r360113.resolve_left (by omega)
          clear r360113
          have r360124 : γ 2 (γ 14 q360095) = γ 2 q360104 := by rw [ht360114.1]
          have r360125 : (0 : Int32).toInt.toNat < γ 2 (γ 14 q357030) := by rw [ht360068.1]; omega
          have r360126 : el (γ 14 q357030) (0 : Int32).toInt.toNat = q360095 := by rw [ht360068.1, hx360096]
          have sz360127 : γ 2 (γ 14 (el (γ 14 q357030) (0 : Int32).toInt.toNat)) = γ 2 (γ 14 q360095) := by rw [r360126]
          refine G_aload_n 3 dr_cX17_zeros_33 rfl ?_
          have rg360128 := rM_ge hT359951 ht359964 hf359965
          have rm360129 := rM_bd hB359954
          have bd360130 := rBd_c hT359951 ht359964 hf359965 hB359954
          have rc360131 := rc_at hT359951 ht359964 hf359965
          obtain ⟨q360138, hl360139⟩ : ∃ z, z = γ 14 q360095 := ⟨_, rfl⟩
          have hl360140 : γ 0 q360138 = 3 ∨ γ 0 q360138 = 103 := by rw [hl360139, ← r360126]; exact (RS_lst hT359951 rc360131.2.1 r360125).1
          refine Gt_row (c := q357030) (f := f) hl0 dr_cX17_zeros_34 ⟨wr_10_206, wr_1_15, wr_10_82, by decide, rfl, (Nat.le_of_ble_eq_true rfl), (Nat.le_of_ble_eq_true rfl)⟩ wr_10_80 wr_10_81 hT359951 ht359964 hf359965 (Nat.le_trans bd360130.2.2.1 (Nat.le_trans hBk (by decide))) (rm_cs hph359953 rg360128.2.1 rm360129 (by decide)) (rm_sl hph359953 rg360128.2.1 rm360129 rm_s18) (Nat.le_of_ble_eq_true rfl) (fun P360132 F360133 γ el q360134 dc360135 ds360136 hq360137 => ?_)
          obtain ⟨hk360141, x0360142, x1360143, x22360144, x8360145, h16360146, h18360147, hnu360148, hot360149, h45360150, hf0360151, ⟨hr1360152, hr2360153⟩, hM360154, hBB360155⟩ := hq360137
          have hk360156 := rSk_of hk360141
          obtain ⟨nu360157, nu360158, nu360159, nu360160⟩ := hnu360148
          have hT360161 := hk360156.1
          have hs360162 := rSk_tr hs359952 hk360156 (by decide) (by decide) (by decide)
          have kp360163 : F360133 q357029 = F357028 q357029 := (rSk_F hk360156 ht359963 (by decide) (by decide)).trans x359961
          have r360164 := rSk_F hk360156 ht359963 (by decide) (by decide)
          have ht360165 : rKd γ q357029 10 := rSk_k hk360156 ht359963 (by decide) (by decide)
          have ht360166 : rKd γ q357030 9 := rSk_k hk360156 ht359964 (by decide) (by decide)
          have hf360167 : γ 1 q357030 = f := rSk_1 hk360156 ht359964 (by decide) hf359965
          have ht360168 : rKd γ q360095 2 := rSk_k hk360156 ht360100 (by decide) (by decide)
          have hf360169 : γ 1 q360095 = f := rSk_1 hk360156 ht360100 (by decide) hf360117
          have ht360170 : rKd γ q360104 3 := rSk_k hk360156 ht360108 (by decide) (by decide)
          have hf360171 : γ 1 q360104 = f := rSk_1 hk360156 ht360108 (by decide) hf360118
          have r360172 := (rSk_s hk360156 ht359964 (by decide)).2.1
          have r360173 := hot360149 _ (by rw [rc360131.2.1]; decide) (by rw [rc360131.2.1]; decide)
          have r360174 : (0 : Int32).toInt.toNat < γ 2 (γ 14 q357030) := by rw [r360172, r360173.1]; exact r360125
          have r360175 : el (γ 14 q357030) (0 : Int32).toInt.toNat = q360095 := by rw [r360172, r360173.2]; exact r360126
          clear r360057 r360058 r360059 r360060 r360061 r360062 r360064 r360065 r360066 r360067 bp360051 bp360052 bp360106 bp360107 r360115 r360116 rg360128 rm360129 bd360130 rc360131
          have r360176 : 0 < γ 6 (γ 1 q357030) := by rw [hf360167]; omega
          have sz360177 := (rSk_s hk360156 ht360100 (by decide)).2.1
          have sz360178 := congrArg (γ 2) sz360177
          have sz360179 := (hot360149 q360138 (by omega) (by omega)).1
          rw [hl360139] at sz360179
          clear hl360140
          have sz360180 := (hot360149 q360104 (rT0 ht360108 (by decide)) (by rw [show _ = 3 from ht360108]; decide)).1
          have r360181 := hf0360151.2.2
          have hB360182 : rBd γ el f B := hBB360155 B (by omega) hB359954
          have ht360183 : rKd γ q360134 101 := x0360142
          have r360184 : γ 8 q360134 < γ 16 f := rm_x8 x8360145 h16360146 rfl
          have hph360185 : rPh γ0 el0 f ≤ rPh γ el f := rm_ph hph359953 hr2360153
          have pk360186 : rPh γ el f ≤ 387 * B + 6000 := rm_pk (rM_ge hT360161 ht360166 hf360167).1 (rM_bd hB360182)
          have hm360187 : q360134 ∈ P360132 := RS_m hT360161 ht360183 (by decide)
          obtain ⟨p360189, p360190, p360191, p360192, p360193, p360194, p360195, he360188, bp360189, bp360190, bp360193, bp360194, bp360195, r360196, r360197, r360198⟩ := show rkR (F360133 q360134) from RS_o hT360161 ht360183
          have bp360191 := gB_any p360191
          have bp360192 := gB_any p360192
          have r360199 : γ 7 (γ 1 q360134) = γ 7 f := by rw [x1360143]
          have r360200 : p360194.toInt = 0 := by have z := hf0360151.1; rw [he360188] at z; exact z
          have bp360194' : gB p360194 0 0 := ⟨by omega, by omega⟩
          have r360201 : p360195.toInt = 0 := by have z := hf0360151.2.1; rw [he360188] at z; exact z
          have bp360195' : gB p360195 0 0 := ⟨by omega, by omega⟩
          refine G_widen (cs' := ((rPh γ el f - rPh γ0 el0 f) / 18)) (sl' := (rPh γ el f - rPh γ0 el0 f)) (rm_wc hph359953 hr1360152) (rm_ws hph359953 hr2360153) ?_
          refine G_astore (L' := [(4, .ref q360134), (3, .int g359947), (2, .int g359948), (0, .ref q357029), (1, .ref q357030)]) dr_cX17_zeros_37 (Nat.le_of_ble_eq_true rfl) rfl ?_
          refine G_aload 0 dr_cX17_zeros_39 rfl ?_
          refine G_iconst 0 dr_cX17_zeros_41 (by decide +kernel) ?_
          refine Gp_put 0 hm360187 he360188 dr_cX17_zeros_42 (gk_X15 D I) (Nat.le_of_ble_eq_true rfl) wr_9_177 rfl rfl rfl (Nat.le_of_ble_eq_true rfl) (fun F360202 e360203 n360204 => ?_)
          have he360205 : F360202 q360134 = .inr (20, [.int 0, .int p360190, .int p360191, .int p360192, .int p360193, .int p360194, .int p360195]) := e360203
          have kp360206 : F360202 q357029 = F357028 q357029 := (n360204 q357029 (rn_ty ht360165 ht360183 (by decide))).trans kp360163
          refine G_aload 0 dr_cX17_zeros_45 rfl ?_
          refine G_iload_n 1 dr_cX17_zeros_47 rfl ?_
          refine Gp_put 1 hm360187 he360205 dr_cX17_zeros_48 (gk_X15 D I) (Nat.le_of_ble_eq_true rfl) wr_9_182 rfl rfl rfl (Nat.le_of_ble_eq_true rfl) (fun F360207 e360208 n360209 => ?_)
          have he360210 : F360207 q360134 = .inr (20, [.int 0, .int g359947, .int p360191, .int p360192, .int p360193, .int p360194, .int p360195]) := e360208
          have n360211 : ∀ b, b ≠ q360134 → F360207 b = F360133 b := fun b hb => (n360209 b hb).trans (n360204 b hb)
          have kp360212 : F360207 q357029 = F357028 q357029 := (n360209 q357029 (rn_ty ht360165 ht360183 (by decide))).trans kp360206
          refine G_aload_n 4 dr_cX17_zeros_51 rfl ?_
          refine G_iconst 0 dr_cX17_zeros_52 (by decide +kernel) ?_
          have hT360213 : RS D I P360132 F360207 γ el := RS_set hT360161 n360211 ht360183 (by decide) ⟨0, g359947, p360191, p360192, p360193, p360194, p360195, he360210, (gB_w (gBl (show Int32.toInt 0 = 0 by decide)) (by decide) (by decide)), bg359947', bp360193, (gB_w bp360194' (by decide) (by decide)), (gB_w bp360195' (by decide) (by decide)), (Or.inl (by decide)), r360197, r360198⟩
          have hs360214 := rSk_put hs360162 hT360213 n360211 ht360183 (by decide) (by decide)
          have hm360215 : q357030 ∈ P360132 := RS_m hT360213 ht360166 (by decide)
          obtain ⟨q360217, q360218, p360219, p360220, he360216, ht360236, ht360221, ht360222, ht360223, ht360224, r360225, r360226, r360227, r360228, r360229, r360230, r360231, r360232, r360233, r360234, r360235⟩ := show rk_9 γ el q357030 (F360207 q357030) from RS_o hT360213 ht360166
          have bp360219 : gB p360219 0 1000000 := ⟨by omega, by omega⟩
          have bp360220 : gB p360220 0 1000000 := ⟨by omega, by omega⟩
          have hf360237 : γ 1 q360217 = f := (show γ 1 q360217 = γ 1 q357030 from ht360222).trans hf360167
          have hf360238 : γ 1 q360218 = f := (show γ 1 q360218 = γ 1 q357030 from ht360224).trans hf360167
          have r360239 : γ 6 (γ 1 q357030) = γ 6 f := by rw [hf360167]
          have r360240 : γ 16 (γ 1 q357030) = γ 16 f := by rw [hf360167]
          have r360241 : p360220.toInt = γ 6 f ∧ p360220.toInt ≤ 40 := by omega
          clear r360231
          have hm360242 : q360217 ∈ P360132 := RS_m hT360213 ht360221 (by decide)
          obtain ⟨⟨p360244, p360245, q360246, he360243, r360247, r360248, r360249, r360251⟩, r360250⟩ := show rk_4 D I γ el F360207 q360217 from RS_o hT360213 ht360221
          have bp360244 := gB_any p360244
          have bp360245 : gB p360245 0 1000000 := ⟨by omega, by omega⟩
          obtain ⟨r360252, r360253, n360260, f360261, r360254, r360255, r360256, r360257, r360258, r360259⟩ := rLC_n r360249 (by omega)
          have hm360262 : q360246 ∈ P360132 := RS_m hT360213 r360252 (by decide)
          obtain ⟨q360263, hx360264⟩ : ∃ x, x = el q360217 (0 : Int32).toInt.toNat := ⟨_, rfl⟩
          have hx360265 : f360261 (0 : Int32).toNatClampNeg = some q360263 := (r360258 _ (show (0 : Int32).toInt.toNat < γ 2 q360217 by first | assumption | omega)).trans (congrArg some hx360264.symm)
          have ht360268 : rKd γ q360263 2 := by rw [hx360264]; exact (r360232 _ (by omega)).resolve_right (fun z => absurd z.1 (by omega))
          have ht360269 : rFm γ q360263 q360217 := by rw [hx360264]; exact (r360250 _ (show (0 : Int32).toInt.toNat < γ 2 q360217 by omega)).2.1
          have hm360270 : q360263 ∈ P360132 := RS_m hT360213 ht360268 (by decide)
          obtain ⟨q360272, q360273, p360274, p360275, he360271, ht360282, ht360276, ht360277, ht360278, ht360279, ht360280, bp360274, bp360275, r360281, r360283, r360284⟩ := show rk_2 γ q360263 (F360207 q360263) from RS_o hT360213 ht360268
          refine Gw_callV (As := [.int 0]) (gV_ok D I) (cp_7737_Code_get l hl0 D I P360132 F360207 q357030 q360217 q360246 0 q360218 p360219 p360220 p360244 p360245 f360261 n360260 q360263 q360272 q360273 p360274 p360275 hm360215 hm360242 hm360262 hm360270 he360216 he360243 r360254 he360271 (gB_w (gBl (show Int32.toInt 0 = 0 by decide)) (by decide) (by decide)) (gB_w bp360245 (by decide) (by decide)) (by have qa0 : Int32.toInt 0 = 0 := (by decide); omega) (by have qa0 : Int32.toInt 0 = 0 := (by decide); omega) (by assumption) (by have qa0 : Int32.toInt 0 = 0 := (by decide); omega)) dr_cX17_zeros_53 ⟨wr_10_161, wr_1_15, wr_10_141, by decide, rfl, (Nat.le_of_ble_eq_true rfl), (Nat.le_of_ble_eq_true rfl)⟩ wr_10_139 wr_10_140 hm360215 he360216 rfl (show ((rPh γ el f - rPh γ0 el0 f) / 18) + 0 + 0 ≤ (((387 * B + 6000) - rPh γ0 el0 f) / 18) by first | omega | decide) (show (rPh γ el f - rPh γ0 el0 f) + 0 + 0 ≤ ((387 * B + 6000) - rPh γ0 el0 f) by first | omega | decide) (Nat.le_of_ble_eq_true rfl) (fun r360288 w360289 dc360285 ds360286 hp360287 => ?_) (fun _ _ _ _ _ z => z.elim)
          obtain ⟨rfl, rfl, hdc, hds⟩ := hp360287
          change G _ _ _ _ _ _ _ (.ref q360263 :: _) _ _ _
          refine G_widen (cs' := ((rPh γ el f - rPh γ0 el0 f) / 18) + 0 + 0) (sl' := (rPh γ el f - rPh γ0 el0 f) + 0 + 0) (by omega) (by omega) ?_
          have hf360290 : γ 1 q360263 = f := (show γ 1 q360263 = γ 1 q360217 from ht360269).trans ((show γ 1 q360217 = γ 1 q357030 from ht360222).trans hf360167)
          have hf360291 : γ 1 q360272 = f := (show γ 1 q360272 = γ 1 q360263 from ht360277).trans hf360290
          have hf360292 : γ 1 q360273 = f := (show γ 1 q360273 = γ 1 q360263 from ht360279).trans hf360290
          have r360293 : γ 6 (γ 1 q360263) = γ 6 f := by rw [hf360290]
          have r360294 : γ 7 (γ 1 q360263) = γ 7 f := by rw [hf360290]
          have r360295 : γ 19 (γ 1 q360263) = γ 19 f := by rw [hf360290]
          have r360296 := r360281.resolve_left (by omega)
          clear r360281
          have r360297 : γ 2 (γ 14 q360263) = γ 2 q360272 := by rw [ht360282.1]
          have r360298 : (0 : Int32).toInt.toNat < γ 2 (γ 14 q357030) := by rw [ht360236.1]; omega
          have r360299 : el (γ 14 q357030) (0 : Int32).toInt.toNat = q360263 := by rw [ht360236.1, hx360264]
          have r360300 : q360263 = q360095 := r360299.symm.trans r360175
          have sz360301 : γ 2 (γ 14 q360263) = γ 2 (γ 14 q360095) := by rw [r360300]
          refine Gp_get 0 hm360270 he360271 dr_cX17_zeros_56 (gk_X12 D I) (Nat.le_of_ble_eq_true rfl) wr_9_220 rfl ?_
          refine G_iload_n 2 dr_cX17_zeros_59 rfl ?_
          refine G_aload 0 dr_cX17_zeros_60 rfl ?_
          have rg360302 := rM_ge hT360213 ht360166 hf360167
          have rm360303 := rM_bd hB360182
          have bd360304 := rBd_c hT360213 ht360166 hf360167 hB360182
          have rc360305 := rc_at hT360213 ht360166 hf360167
          have r360307 : γ 14 (el (γ 14 q357030) (0 : Int32).toInt.toNat) = q360272 := by rw [r360299]; exact ht360282.1
          have r360308 := rg360302.2.2 _ r360298
          rw [r360307] at r360308
          have r360309 := bd360304.2.2.2 _ r360298
          rw [r360307] at r360309
          have r360310 : γ 7 (γ 1 q360134) = γ 7 f := by rw [x1360143]
          have hx360311 : rk_1 γ q360134 (F360207 q360134) := ⟨0, g359947, p360191, p360192, p360193, p360194, p360195, he360210, (gB_w (gBl (show Int32.toInt 0 = 0 by decide)) (by decide) (by decide)), bg359947', bp360193, (gB_w bp360194' (by decide) (by decide)), (gB_w bp360195' (by decide) (by decide)), (Or.inl (by decide)), r360197, r360198, (Or.inl ⟨by decide, by decide⟩), (Or.inl x22360144)⟩
          refine Gt_ins (c := q357030) (f := f) hl0 dr_cX17_zeros_62 ⟨wr_10_207, wr_1_18, wr_10_210, by decide, rfl, (Nat.le_of_ble_eq_true rfl), (Nat.le_of_ble_eq_true rfl)⟩ wr_10_208 wr_10_209 hT360213 ht360276 hf360291 ht360183 x1360143 x22360144 r360184 (by omega) ht360166 hf360167 r360298 r360307 hx360311 (by omega) (by omega) (Nat.le_trans r360309 (Nat.le_trans hBk (by decide))) (rm_cs hph360185 r360308 rm360303 (by decide)) (rm_sl hph360185 r360308 rm360303 rm_s11) (Nat.le_of_ble_eq_true rfl) (fun P360312 F360306 γ el dc360313 ds360314 hq360315 => ?_)
          obtain ⟨hk360316, x0360317, h2360318, hel360319, hot360320, h16360321, h18360322, hnu360323, hFx360324, hr360325, hM360326, hBB360327⟩ := hq360315
          have hk360328 := rSk_of hk360316
          have r360329 : (fI (F360306 q357030) 3).toInt = (fI (F360207 q357030) 3).toInt := by rw [rSk_F hk360328 ht360166 (by decide) (by decide)]
          obtain ⟨nu360330, nu360331, nu360332, nu360333⟩ := hnu360323
          have hT360334 := hk360328.1
          have hs360335 := rSk_tr hs360214 hk360328 (by decide) (by decide) (by decide)
          have kp360336 : F360306 q357029 = F357028 q357029 := (rSk_F hk360328 ht360165 (by decide) (by decide)).trans kp360212
          have ht360337 : rKd γ q357029 10 := rSk_k hk360328 ht360165 (by decide) (by decide)
          have ht360338 : rKd γ q357030 9 := rSk_k hk360328 ht360166 (by decide) (by decide)
          have hf360339 : γ 1 q357030 = f := rSk_1 hk360328 ht360166 (by decide) hf360167
          have ht360340 : rKd γ q360095 2 := rSk_k hk360328 ht360168 (by decide) (by decide)
          have hf360341 : γ 1 q360095 = f := rSk_1 hk360328 ht360168 (by decide) hf360169
          have ht360342 : rKd γ q360104 3 := rSk_k hk360328 ht360170 (by decide) (by decide)
          have hf360343 : γ 1 q360104 = f := rSk_1 hk360328 ht360170 (by decide) hf360171
          have ht360344 : rKd γ q360263 2 := rSk_k hk360328 ht360268 (by decide) (by decide)
          have hf360345 : γ 1 q360263 = f := rSk_1 hk360328 ht360268 (by decide) hf360290
          have ht360346 : rKd γ q360272 3 := rSk_k hk360328 ht360276 (by decide) (by decide)
          have hf360347 : γ 1 q360272 = f := rSk_1 hk360328 ht360276 (by decide) hf360291
          have r360348 := (rSk_s hk360328 ht360166 (by decide)).2.1
          have r360349 := hot360320 _ (by rw [rc360305.2.1]; decide) (fun q => by rw [q, show _ = 3 from ht360276] at rc360305; exact absurd rc360305.2.1 (by decide))
          have r360350 : (0 : Int32).toInt.toNat < γ 2 (γ 14 q357030) := by rw [r360348, r360349.1]; exact r360174
          have r360351 : el (γ 14 q357030) (0 : Int32).toInt.toNat = q360095 := by rw [r360348, r360349.2]; exact r360175
          have r360352 : (0 : Int32).toInt.toNat < γ 2 (γ 14 q357030) := by rw [r360348, r360349.1]; exact r360298
          have r360353 : el (γ 14 q357030) (0 : Int32).toInt.toNat = q360263 := by rw [r360348, r360349.2]; exact r360299
          clear bp360189 bp360190 bp360193 bp360194 bp360195 bp360191 bp360192 r360225 r360226 r360227 r360228 r360229 r360230 r360232 r360233 r360234 r360235 bp360219 bp360220 bp360274 bp360275 r360283 r360284 rg360302 rm360303 bd360304 rc360305 r360308 r360309
          clear r360196 r360197 r360198
          have r360354 : 0 < γ 6 (γ 1 q357030) := by rw [hf360339]; omega
          first | have sz360355 := (hot360320 q360104 (rT0 ht360170 (by decide)) (by assumption)).1 | skip
          have ht360356 : rKd γ q360134 1 := x0360317
          have hB360357 : rBd γ el f B := hBB360327 B hB360182
          have hph360358 : rPh γ0 el0 f ≤ rPh γ el f := rm_ph hph360185 hr360325.2
          have pk360359 : rPh γ el f ≤ 387 * B + 6000 := rm_pk (rM_ge hT360334 ht360338 hf360339).1 (rM_bd hB360357)
          refine G_widen (cs' := ((rPh γ el f - rPh γ0 el0 f) / 18)) (sl' := (rPh γ el f - rPh γ0 el0 f)) (rm_wc hph360185 hr360325.1) (rm_ws hph360185 hr360325.2) ?_
          have r360360 : γ 14 q360263 = q360272 := ((rSk_s (rSk_of hk360316) ht360268 (by decide)).2.1).trans ht360282.1
          have sz360361 : γ 2 (γ 14 q360263) = γ 2 q360272 := by rw [r360360]
          have bg359948' : gB g359948 0 1999 := ⟨by omega, by omega⟩
          obtain ⟨z360362, hz360362⟩ : ∃ z : Int32, z = g359948 + Int32.ofInt 1 := ⟨_, rfl⟩
          have ez360362 : z360362.toInt = g359948.toInt + 1 := gI_inc hz360362 (by decide) bg359948' (by decide) (by decide)
          have bz360362 : gB z360362 1 2000 := ⟨by omega, by omega⟩
          refine G_iinc (L' := [(2, .int z360362), (4, .ref q360134), (3, .int g359947), (0, .ref q357029), (1, .ref q357030)]) z360362 2 dr_cX17_zeros_65 rfl hz360362.symm (Nat.le_of_ble_eq_true rfl) rfl ?_
          obtain ⟨z360363, hz360363⟩ : ∃ z : Int32, z = g359947 + Int32.ofInt 1 := ⟨_, rfl⟩
          have ez360363 : z360363.toInt = g359947.toInt + 1 := gI_inc hz360363 (by decide) bg359947' (by decide) (by decide)
          have bz360363 : gB z360363 1 2000 := ⟨by omega, by omega⟩
          refine G_iinc (L' := [(3, .int z360363), (2, .int z360362), (4, .ref q360134), (0, .ref q357029), (1, .ref q357030)]) z360363 2 dr_cX17_zeros_68 rfl hz360363.symm (Nat.le_of_ble_eq_true rfl) rfl ?_
          refine G_goto 10 dr_cX17_zeros_71 (by decide +kernel) ?_
          refine G_lv (L' := [(3, .int z360363), (2, .int z360362), (0, .ref q357029), (1, .ref q357030)]) [0, 1, 3, 4] rfl ?_
          exact ih10_359961 P360312 F360306 γ el z360363 z360362 (gB_w bz360363 (by decide) (by decide)) (gB_w bz360362 (by decide) (by decide)) hT360334 hs360335 hph360358 hB360357 (by omega) (by omega) (by omega) (by omega) (by omega) (by rw [r360353]; omega) kp360336 (by omega)
  exact hlp10_359961 (((2001 : Int) - 0).toNat + 1) P357027 F357094 γ el 0 0 (gB_w (gBl (show Int32.toInt 0 = 0 by decide)) (by decide) (by decide)) (gB_w (gBl (show Int32.toInt 0 = 0 by decide)) (by decide) (by decide)) hT357095 hs357097 hph hB (by have qa0 : Int32.toInt 0 = 0 := (by decide); omega) (by have qa0 : Int32.toInt 0 = 0 := (by decide); omega) (by have qa0 : Int32.toInt 0 = 0 := (by decide); omega) (by have qa0 : Int32.toInt 0 = 0 := (by decide); omega) (by have qa0 : Int32.toInt 0 = 0 := (by decide); omega) (by have qa : Int32.toInt 0 = 0 := (by decide); omega) kp357098 (Nat.lt_succ_self _)
