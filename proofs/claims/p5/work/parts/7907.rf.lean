theorem dr_cX17_zeros_0 : decode cX17_zeros 0 = .ok (.aload_n 0, 1) := by decide +kernel
theorem dr_cX17_zeros_1 : decode cX17_zeros 1 = .ok (.aload_n 1, 1) := by decide +kernel
theorem dr_cX17_zeros_2 : decode cX17_zeros 2 = .ok (.iconst 0, 1) := by decide +kernel
theorem dr_cX17_zeros_3 : decode cX17_zeros 3 = .ok (.invokevirtual 127, 3) := by decide +kernel
theorem dr_cX17_zeros_6 : decode cX17_zeros 6 = .ok (.iconst 0, 1) := by decide +kernel
theorem dr_cX17_zeros_7 : decode cX17_zeros 7 = .ok (.istore_n 2, 1) := by decide +kernel
theorem dr_cX17_zeros_8 : decode cX17_zeros 8 = .ok (.iconst 0, 1) := by decide +kernel
theorem dr_cX17_zeros_9 : decode cX17_zeros 9 = .ok (.istore_n 3, 1) := by decide +kernel
theorem dr_cX17_zeros_10 : decode cX17_zeros 10 = .ok (.iload_n 3, 1) := by decide +kernel
theorem dr_cX17_zeros_11 : decode cX17_zeros 11 = .ok (.sipush 2000, 3) := by decide +kernel
theorem dr_cX17_zeros_14 : decode cX17_zeros 14 = .ok (.if_icmp .ge 60, 3) := by decide +kernel
theorem dr_cX17_zeros_74 : decode cX17_zeros 74 = .ok (.return_, 1) := by decide +kernel
theorem dr_cX17_zeros_17 : decode cX17_zeros 17 = .ok (.aload_n 0, 1) := by decide +kernel
theorem dr_cX17_zeros_18 : decode cX17_zeros 18 = .ok (.getfield 88, 3) := by decide +kernel
theorem dr_cX17_zeros_21 : decode cX17_zeros 21 = .ok (.iconst 0, 1) := by decide +kernel
theorem dr_cX17_zeros_22 : decode cX17_zeros 22 = .ok (.aaload, 1) := by decide +kernel
theorem dr_cX17_zeros_23 : decode cX17_zeros 23 = .ok (.iload_n 3, 1) := by decide +kernel
theorem dr_cX17_zeros_24 : decode cX17_zeros 24 = .ok (.invokestatic 145, 3) := by decide +kernel
theorem dr_cX17_zeros_27 : decode cX17_zeros 27 = .ok (.ifCond .ne 6, 3) := by decide +kernel
theorem dr_cX17_zeros_30 : decode cX17_zeros 30 = .ok (.goto 38, 3) := by decide +kernel
theorem dr_cX17_zeros_68 : decode cX17_zeros 68 = .ok (.iinc 3 1, 3) := by decide +kernel
theorem dr_cX17_zeros_71 : decode cX17_zeros 71 = .ok (.goto (-61), 3) := by decide +kernel
theorem dr_cX17_zeros_33 : decode cX17_zeros 33 = .ok (.aload_n 1, 1) := by decide +kernel
theorem dr_cX17_zeros_34 : decode cX17_zeros 34 = .ok (.invokevirtual 177, 3) := by decide +kernel
theorem dr_cX17_zeros_37 : decode cX17_zeros 37 = .ok (.astore 4, 2) := by decide +kernel
theorem dr_cX17_zeros_39 : decode cX17_zeros 39 = .ok (.aload 4, 2) := by decide +kernel
theorem dr_cX17_zeros_41 : decode cX17_zeros 41 = .ok (.iconst 0, 1) := by decide +kernel
theorem dr_cX17_zeros_42 : decode cX17_zeros 42 = .ok (.putfield 39, 3) := by decide +kernel
theorem dr_cX17_zeros_45 : decode cX17_zeros 45 = .ok (.aload 4, 2) := by decide +kernel
theorem dr_cX17_zeros_47 : decode cX17_zeros 47 = .ok (.iload_n 3, 1) := by decide +kernel
theorem dr_cX17_zeros_48 : decode cX17_zeros 48 = .ok (.putfield 52, 3) := by decide +kernel
theorem dr_cX17_zeros_51 : decode cX17_zeros 51 = .ok (.aload_n 1, 1) := by decide +kernel
theorem dr_cX17_zeros_52 : decode cX17_zeros 52 = .ok (.iconst 0, 1) := by decide +kernel
theorem dr_cX17_zeros_53 : decode cX17_zeros 53 = .ok (.invokevirtual 101, 3) := by decide +kernel
theorem dr_cX17_zeros_56 : decode cX17_zeros 56 = .ok (.getfield 117, 3) := by decide +kernel
theorem dr_cX17_zeros_59 : decode cX17_zeros 59 = .ok (.iload_n 2, 1) := by decide +kernel
theorem dr_cX17_zeros_60 : decode cX17_zeros 60 = .ok (.aload 4, 2) := by decide +kernel
theorem dr_cX17_zeros_62 : decode cX17_zeros 62 = .ok (.invokevirtual 181, 3) := by decide +kernel
theorem dr_cX17_zeros_65 : decode cX17_zeros 65 = .ok (.iinc 2 1, 3) := by decide +kernel
abbrev ky_356980_SpillForgeModel_zeros : gKey := (cX17_zeros, 5, "SpillForgeModel", none, [], "zeros", fun _ _ => True)
def pg_356980_SpillForgeModel_zeros (D : va_G) (I : FieldType → ClassId) (γ0 el0 : Nat → Nat → Nat) (f : Nat) (B : Nat) (P356974 : List Nat) (F356975 : Nat → va_E) (q356976 : Nat) (q356977 : Nat) : Option Value → va_W → Nat → Nat → Prop := fun r w dc ds => ∃ (P360311 : List Nat) (F360312 : Nat → va_E) (γ el : Nat → Nat → Nat), r = none ∧ w = va_pl P360311 F360312 ∧ rSk f [101] ([1, 3, 5, 6, 8, 9, 101] ++ npk) D I P356974 F356975 γ0 el0 P360311 F360312 γ el ∧ (18 * dc + rPh γ0 el0 f ≤ rPh γ el f ∧ ds + rPh γ0 el0 f ≤ rPh γ el f) ∧ rBd γ el f B ∧ γ 6 f = γ0 6 f ∧ γ 7 f = γ0 7 f ∧ γ 16 f ≤ γ0 16 f + 2000 ∧ γ 18 f = γ0 18 f ∧ (F360312 q356976 = F356975 q356976)
set_option maxRecDepth 100000 in
set_option maxHeartbeats 1500000 in
theorem cg_356980_SpillForgeModel_zeros (l : Launch) (hl0 : l.stackTraces = false) (D : va_G) (I : FieldType → ClassId) (γ0 el0 : Nat → Nat → Nat) (f : Nat) (B : Nat) (P356974 : List Nat) (F356975 : Nat → va_E) (q356976 : Nat) (q356977 : Nat) (hT0 : RS D I P356974 F356975 γ0 el0) (hzq356976 : rKd γ0 q356976 10) (hzq356977 : rKd γ0 q356977 9) (hf0 : γ0 1 q356977 = f) (hB0 : rBd γ0 el0 f B) (hBk : B ≤ 100000) (x356978 : 0 < γ0 6 f) (x356979 : γ0 16 f + 2000 ≤ B) : CtA (gV D I) l yX17_zeros cX17_zeros 5 none 8 170 (((387 * B + 6000) - rPh γ0 el0 f) / 18) ((387 * B + 6000) - rPh γ0 el0 f) [.ref q356976, .ref q356977] (va_pl P356974 F356975) (pg_356980_SpillForgeModel_zeros D I γ0 el0 f B P356974 F356975 q356976 q356977) gNA := by
  refine CtA_of hl0 (by decide) (Nat.le_of_ble_eq_true rfl) ?_
  obtain ⟨γ, hγ0⟩ : ∃ z, z = γ0 := ⟨_, rfl⟩
  obtain ⟨el, hel0⟩ : ∃ z, z = el0 := ⟨_, rfl⟩
  have hT : RS D I P356974 F356975 γ el := by rw [hγ0, hel0]; exact hT0
  have hst : rSk f [101] ([1, 3, 5, 6, 8, 9, 101] ++ npk) D I P356974 F356975 γ0 el0 P356974 F356975 γ el := by rw [hγ0, hel0]; exact rSk_rf hT0
  have hph : rPh γ0 el0 f ≤ rPh γ el f := by rw [hγ0, hel0]; exact Nat.le_refl _
  have hB : rBd γ el f B := by rw [hγ0, hel0]; exact hB0
  have htq356976 : rKd γ q356976 10 := by rw [hγ0]; exact hzq356976
  have htq356977 : rKd γ q356977 9 := by rw [hγ0]; exact hzq356977
  have hf1 : γ 1 q356977 = f := by rw [hγ0]; exact hf0
  have x356978n : 0 < γ 6 f := by rw [hγ0]; exact x356978
  have x356979n : γ 16 f + 2000 ≤ B := by rw [hγ0]; exact x356979
  have pk356981 : rPh γ el f ≤ 387 * B + 6000 := rm_pk (rM_ge hT htq356977 hf1).1 (rM_bd hB)
  refine G_widen (cs' := ((rPh γ el f - rPh γ0 el0 f) / 18)) (sl' := (rPh γ el f - rPh γ0 el0 f)) (Nat.zero_le _) (Nat.zero_le _) ?_
  have r356982 : 0 < γ 6 (γ 1 q356977) := by rw [hf1]; omega
  have lz0 : Int32.toInt 0 = 0 := by decide
  have r356983 : γ 6 f = γ0 6 f := by rw [hγ0]
  have r356984 : γ 7 f = γ0 7 f := by rw [hγ0]
  have r356985 : γ 16 f = γ0 16 f := by rw [hγ0]
  have r356986 : γ 18 f = γ0 18 f := by rw [hγ0]
  have r356987 : γ 19 f = γ0 19 f := by rw [hγ0]
  refine G_aload_n 0 dr_cX17_zeros_0 rfl ?_
  refine G_aload_n 1 dr_cX17_zeros_1 rfl ?_
  refine G_iconst 0 dr_cX17_zeros_2 (by decide +kernel) ?_
  have hm356993 : q356976 ∈ P356974 := RS_m hT htq356976 (by decide)
  obtain ⟨q356995, q356996, p356997, p356998, p356999, p357000, p357001, p357002, p357003, p357004, p357005, p357006, p357007, p357008, p357009, p357010, p357011, he356994, hB357038, ht357012, ht357013, ht357014, ht357015, ht357016, ht357017, ht357018, ht357019, ht357020, ht357021, ht357022, ht357023, ht357024, ht357025, ht357026, ht357027, ht357028, ht357029, ht357030, ht357031, ht357032, ht357033, ht357034, ht357035, hB357039⟩ := show rk_10 γ (F356975 q356976) from RS_o hT htq356976
  refine Gw_callV (As := [.ref q356977, .int 0]) (gV_ok D I) (ct_218861_SpillForgeModel_findLive l hl0 D I γ el P356974 F356975 q356976 q356977 0 hT htq356976 htq356977 (gB_w (gBl (show Int32.toInt 0 = 0 by decide)) (by decide) (by decide)) (by omega)) dr_cX17_zeros_3 ⟨wr_10_152, wr_1_14, wr_10_155, by decide, rfl, (Nat.le_of_ble_eq_true rfl), (Nat.le_of_ble_eq_true rfl)⟩ wr_10_154 wr_p_94 hm356993 he356994 rfl (rm_zc pk356981) (rm_zs pk356981) (Nat.le_of_ble_eq_true rfl) (fun r356991 w356992 dc356988 ds356989 hp356990 => ?_) (fun _ _ _ _ _ z => z.elim)
  obtain ⟨F357041, rfl, rfl, hT357042, hs357043, hdc, hds, x357040⟩ := hp356990
  have hs357044 := rSk_str hst hT357042 hs357043 (by decide) (by decide) (by decide)
  have kp357045 : F357041 q356976 = F356975 q356976 := x357040
  have he357046 : F357041 q356976 = .inr (22, [.ref (γ 9 0), .ref (γ 9 1), .ref (γ 9 2), .ref (γ 9 3), .ref (γ 9 4), .ref (γ 9 5), .ref (γ 9 6), .ref (γ 9 7), .ref (γ 9 8), .int p356997, .int p356998, .int p356999, .int p357000, .int p357001, .int p357002, .ref (γ 9 15), .ref (γ 9 16), .ref (γ 9 17), .ref (γ 9 18), .ref (γ 9 19), .ref (γ 9 20), .ref (γ 9 21), .ref (γ 9 22), .int p357003, .int p357004, .int p357005, .int p357006, .int p357007, .ref q356995, .ref (γ 9 29), .int p357008, .ref (γ 9 31), .int p357009, .int p357010, .int p357011, .ref q356996]) := (x357040).trans he356994
  change G _ _ _ _ _ _ _ _ _ _ _
  refine G_widen (cs' := ((rPh γ el f - rPh γ0 el0 f) / 18)) (sl' := (rPh γ el f - rPh γ0 el0 f)) (rm_d0 hdc) (rm_d0 hds) ?_
  refine G_iconst 0 dr_cX17_zeros_6 (by decide +kernel) ?_
  refine G_istore_n (L' := [(2, .int 0), (0, .ref q356976), (1, .ref q356977)]) dr_cX17_zeros_7 (Nat.le_of_ble_eq_true rfl) rfl ?_
  refine G_iconst 0 dr_cX17_zeros_8 (by decide +kernel) ?_
  refine G_istore_n (L' := [(3, .int 0), (2, .int 0), (0, .ref q356976), (1, .ref q356977)]) dr_cX17_zeros_9 (Nat.le_of_ble_eq_true rfl) rfl ?_
  have hlp10_359908 : ∀ (n10_359908 : Nat) (P359896 : List Nat) (F359897 : Nat → va_E) (γ el : Nat → Nat → Nat) (g359894 : Int32) (g359895 : Int32), gB g359894 0 2000 → gB g359895 0 2000 → RS D I P359896 F359897 γ el → rSk f [101] ([1, 3, 5, 6, 8, 9, 101] ++ npk) D I P356974 F356975 γ0 el0 P359896 F359897 γ el → rPh γ0 el0 f ≤ rPh γ el f → rBd γ el f B → γ 6 f = γ0 6 f → γ 7 f = γ0 7 f → γ 18 f = γ0 18 f → γ 16 f ≤ γ0 16 f + (g359895.toInt : Int).toNat → g359895.toInt ≤ g359894.toInt → (g359895.toInt : Int) ≤ γ 2 (γ 14 (el (γ 14 q356977) (0 : Int32).toInt.toNat)) → (F359897 q356976 = F356975 q356976) → ((2001 : Int) - g359894.toInt).toNat < n10_359908 → G (gV D I) l (gRm 8 170 (((387 * B + 6000) - rPh γ0 el0 f) / 18) ((387 * B + 6000) - rPh γ0 el0 f)) (gMA (gV D I) (pg_356980_SpillForgeModel_zeros D I γ0 el0 f B P356974 F356975 q356976 q356977) gNA (((387 * B + 6000) - rPh γ0 el0 f) / 18) ((387 * B + 6000) - rPh γ0 el0 f)) ky_356980_SpillForgeModel_zeros 10 [(3, .int g359894), (2, .int g359895), (0, .ref q356976), (1, .ref q356977)] [] (va_pl P359896 F359897) ((rPh γ el f - rPh γ0 el0 f) / 18) (rPh γ el f - rPh γ0 el0 f) := by
    intro n10_359908
    induction n10_359908 with
    | zero => intro P359896 F359897 γ el g359894 g359895 bg359894 bg359895 hT359898 hs359899 hph359900 hB359901 x359902 x359903 x359904 x359905 x359906 x359907 x359908 hm10_359908; exact absurd hm10_359908 (Nat.not_lt_zero _)
    | succ n10_359908 ih10_359908 =>
      intro P359896 F359897 γ el g359894 g359895 bg359894 bg359895 hT359898 hs359899 hph359900 hB359901 x359902 x359903 x359904 x359905 x359906 x359907 x359908 hm10_359908
      clear r356983 r356984 r356985 r356986 r356987
      have ht359910 : rKd γ q356976 10 := rSk_k hs359899 hzq356976 (by decide) (by decide)
      have ht359911 : rKd γ q356977 9 := rSk_k hs359899 hzq356977 (by decide) (by decide)
      have hf359912 : γ 1 q356977 = f := rSk_1 hs359899 hzq356977 (by decide) hf0
      have pk359913 : rPh γ el f ≤ 387 * B + 6000 := rm_pk (rM_ge hT359898 ht359911 hf359912).1 (rM_bd hB359901)
      have r359914 : 0 < γ 6 (γ 1 q356977) := by rw [hf359912]; omega
      refine G_iload_n 0 dr_cX17_zeros_10 rfl ?_
      refine G_sipush 2000 dr_cX17_zeros_11 (by decide +kernel) ?_
      refine G_icmp_ge 74 dr_cX17_zeros_14 (by decide +kernel) (fun hc359915 => ?_) (fun hc359915 => ?_)
      · have r359916 : 2000 ≤ g359894.toInt := gj_leL hc359915 (show Int32.toInt 2000 = 2000 by decide)
        have bg359894' : gB g359894 2000 2000 := ⟨by omega, by omega⟩
        exact G_vretA dr_cX17_zeros_74 rfl (show ((rPh γ el f - rPh γ0 el0 f) / 18) ≤ (((387 * B + 6000) - rPh γ0 el0 f) / 18) by omega) (show (rPh γ el f - rPh γ0 el0 f) ≤ ((387 * B + 6000) - rPh γ0 el0 f) by omega) ⟨P359896, F359897, γ, el, rfl, rfl, hs359899, ⟨by omega, by omega⟩, hB359901, (by omega), (by omega), (by omega), (by omega), x359908⟩
      · have r359917 : g359894.toInt < 2000 := gj_nleL hc359915 (show Int32.toInt 2000 = 2000 by decide)
        have bg359894' : gB g359894 0 1999 := ⟨by omega, by omega⟩
        refine G_aload_n 2 dr_cX17_zeros_17 rfl ?_
        have hm359918 : q356976 ∈ P359896 := RS_m hT359898 ht359910 (by decide)
        obtain ⟨q359920, q359921, p359922, p359923, p359924, p359925, p359926, p359927, p359928, p359929, p359930, p359931, p359932, p359933, p359934, p359935, p359936, he359919, hB359963, ht359937, ht359938, ht359939, ht359940, ht359941, ht359942, ht359943, ht359944, ht359945, ht359946, ht359947, ht359948, ht359949, ht359950, ht359951, ht359952, ht359953, ht359954, ht359955, ht359956, ht359957, ht359958, ht359959, ht359960, hB359964⟩ := show rk_10 γ (F359897 q356976) from RS_o hT359898 ht359910
        refine Gp_get 0 hm359918 he359919 dr_cX17_zeros_18 (gk_X17 D I) (Nat.le_of_ble_eq_true rfl) wr_7_74 rfl ?_
        refine G_iconst 0 dr_cX17_zeros_21 (by decide +kernel) ?_
        have hm359965 : (γ 9 0) ∈ P359896 := RS_m hT359898 ht359939 (by decide)
        obtain ⟨f359967, he359966, hg359968⟩ := show rk_12 I γ (F359897 (γ 9 0)) from RS_o hT359898 ht359939
        obtain ⟨q359969, hx359971⟩ : ∃ x, x = γ 10 (0 : Int32).toInt.toNat := ⟨_, rfl⟩
        have ht359970 : rKd γ q359969 11 := by rw [hx359971]; exact (hg359968 _ (by decide)).2.1
        refine Gp_aald 5 hm359965 he359966 dr_cX17_zeros_22 rfl rfl (gB_in (gBl (show Int32.toInt 0 = 0 by decide)) (by decide) (by decide)) ?_
        rw [show f359967 (0 : Int32).toNatClampNeg = some q359969 from (hg359968 _ (by decide)).1.trans (congrArg some hx359971.symm)]
        change G _ _ _ _ _ _ _ (.ref q359969 :: _) _ _ _
        refine G_iload_n 0 dr_cX17_zeros_23 rfl ?_
        have hm359972 : q359969 ∈ P359896 := RS_m hT359898 ht359970 (by decide)
        obtain ⟨f359974, he359973, wf359974⟩ := show rk_11 I (F359897 q359969) from RS_o hT359898 ht359970
        refine Gw_callS (As := [.ref q359969, .int g359894]) (gV_ok D I) (cp_1838_SpillForgeModel_has l hl0 D I P359896 F359897 q359969 g359894 f359974 hm359972 he359973 (gB_w bg359894' (by decide) (by decide))) dr_cX17_zeros_24 ⟨wr_10_199, wr_1_14, wr_10_201, by decide, rfl, (Nat.le_of_ble_eq_true rfl), (Nat.le_of_ble_eq_true rfl)⟩ wr_10_200 (rm_zc pk359913) (rm_zs pk359913) (Nat.le_of_ble_eq_true rfl) (fun r359978 w359979 dc359975 ds359976 hp359977 => ?_) (fun _ _ _ _ _ z => z.elim)
        rcases hp359977 with ⟨z359980, z359981, rfl, rfl, hdc, hds, r359982, r359983, r359984, r359985⟩ | ⟨z359986, z359987, rfl, rfl, hdc, hds, r359988, r359989, r359990, r359991⟩
        · change G _ _ _ _ _ _ _ (.int 0 :: _) _ _ _
          refine G_widen (cs' := ((rPh γ el f - rPh γ0 el0 f) / 18)) (sl' := (rPh γ el f - rPh γ0 el0 f)) (rm_d0 hdc) (rm_d0 hds) ?_
          refine G_if_ne 33 dr_cX17_zeros_27 (by decide +kernel) (fun hc => absurd hc (by decide)) (fun _ => ?_)
          refine G_goto 68 dr_cX17_zeros_30 (by decide +kernel) ?_
          obtain ⟨z359993, hz359993⟩ : ∃ z : Int32, z = g359894 + Int32.ofInt 1 := ⟨_, rfl⟩
          have ez359993 : z359993.toInt = g359894.toInt + 1 := gI_inc hz359993 (by decide) bg359894' (by decide) (by decide)
          have bz359993 : gB z359993 1 2000 := ⟨by omega, by omega⟩
          refine G_iinc (L' := [(3, .int z359993), (2, .int g359895), (0, .ref q356976), (1, .ref q356977)]) z359993 0 dr_cX17_zeros_68 rfl hz359993.symm (Nat.le_of_ble_eq_true rfl) rfl ?_
          refine G_goto 10 dr_cX17_zeros_71 (by decide +kernel) ?_
          exact ih10_359908 P359896 F359897 γ el z359993 g359895 (gB_w bz359993 (by decide) (by decide)) bg359895 hT359898 hs359899 hph359900 hB359901 (by omega) (by omega) (by omega) (by omega) (by omega) (by omega) x359908 (by omega)
        · change G _ _ _ _ _ _ _ (.int 1 :: _) _ _ _
          refine G_widen (cs' := ((rPh γ el f - rPh γ0 el0 f) / 18)) (sl' := (rPh γ el f - rPh γ0 el0 f)) (rm_d0 hdc) (rm_d0 hds) ?_
          refine G_if_ne 33 dr_cX17_zeros_27 (by decide +kernel) (fun _ => ?_) (fun hc => absurd hc (by decide))
          have hm359994 : q356977 ∈ P359896 := RS_m hT359898 ht359911 (by decide)
          obtain ⟨q359996, q359997, p359998, p359999, he359995, ht360015, ht360000, ht360001, ht360002, ht360003, r360004, r360005, r360006, r360007, r360008, r360009, r360010, r360011, r360012, r360013, r360014⟩ := show rk_9 γ el q356977 (F359897 q356977) from RS_o hT359898 ht359911
          have bp359998 : gB p359998 0 1000000 := ⟨by omega, by omega⟩
          have bp359999 : gB p359999 0 1000000 := ⟨by omega, by omega⟩
          have hf360016 : γ 1 q359996 = f := (show γ 1 q359996 = γ 1 q356977 from ht360001).trans hf359912
          have hf360017 : γ 1 q359997 = f := (show γ 1 q359997 = γ 1 q356977 from ht360003).trans hf359912
          have r360018 : γ 6 (γ 1 q356977) = γ 6 f := by rw [hf359912]
          have r360019 : γ 16 (γ 1 q356977) = γ 16 f := by rw [hf359912]
          have r360020 : p359999.toInt = γ 6 f ∧ p359999.toInt ≤ 40 := by omega
          clear r360010
          have hm360021 : q359996 ∈ P359896 := RS_m hT359898 ht360000 (by decide)
          obtain ⟨⟨p360023, p360024, q360025, he360022, r360026, r360027, r360028, r360030⟩, r360029⟩ := show rk_4 D I γ el F359897 q359996 from RS_o hT359898 ht360000
          have bp360023 := gB_any p360023
          have bp360024 : gB p360024 0 1000000 := ⟨by omega, by omega⟩
          obtain ⟨r360031, r360032, n360039, f360040, r360033, r360034, r360035, r360036, r360037, r360038⟩ := rLC_n r360028 (by omega)
          have hm360041 : q360025 ∈ P359896 := RS_m hT359898 r360031 (by decide)
          obtain ⟨q360042, hx360043⟩ : ∃ x, x = el q359996 (0 : Int32).toInt.toNat := ⟨_, rfl⟩
          have hx360044 : f360040 (0 : Int32).toNatClampNeg = some q360042 := (r360037 _ (show (0 : Int32).toInt.toNat < γ 2 q359996 by first | assumption | omega)).trans (congrArg some hx360043.symm)
          have ht360047 : rKd γ q360042 2 := by rw [hx360043]; exact (r360011 _ (by omega)).resolve_right (fun z => absurd z.1 (by omega))
          have ht360048 : rFm γ q360042 q359996 := by rw [hx360043]; exact (r360029 _ (show (0 : Int32).toInt.toNat < γ 2 q359996 by omega)).2.1
          have hm360049 : q360042 ∈ P359896 := RS_m hT359898 ht360047 (by decide)
          obtain ⟨q360051, q360052, p360053, p360054, he360050, ht360061, ht360055, ht360056, ht360057, ht360058, ht360059, bp360053, bp360054, r360060, r360062, r360063⟩ := show rk_2 γ q360042 (F359897 q360042) from RS_o hT359898 ht360047
          have hf360064 : γ 1 q360042 = f := (show γ 1 q360042 = γ 1 q359996 from ht360048).trans ((show γ 1 q359996 = γ 1 q356977 from ht360001).trans hf359912)
          have hf360065 : γ 1 q360051 = f := (show γ 1 q360051 = γ 1 q360042 from ht360056).trans hf360064
          have hf360066 : γ 1 q360052 = f := (show γ 1 q360052 = γ 1 q360042 from ht360058).trans hf360064
          have r360067 : γ 6 (γ 1 q360042) = γ 6 f := by rw [hf360064]
          have r360068 : γ 7 (γ 1 q360042) = γ 7 f := by rw [hf360064]
          have r360069 : γ 19 (γ 1 q360042) = γ 19 f := by rw [hf360064]
          have r360070 := r360060.resolve_left (by omega)
          clear r360060
          have r360071 : γ 2 (γ 14 q360042) = γ 2 q360051 := by rw [ht360061.1]
          have r360072 : (0 : Int32).toInt.toNat < γ 2 (γ 14 q356977) := by rw [ht360015.1]; omega
          have r360073 : el (γ 14 q356977) (0 : Int32).toInt.toNat = q360042 := by rw [ht360015.1, hx360043]
          have sz360074 : γ 2 (γ 14 (el (γ 14 q356977) (0 : Int32).toInt.toNat)) = γ 2 (γ 14 q360042) := by rw [r360073]
          refine G_aload_n 3 dr_cX17_zeros_33 rfl ?_
          have rg360075 := rM_ge hT359898 ht359911 hf359912
          have rm360076 := rM_bd hB359901
          have bd360077 := rBd_c hT359898 ht359911 hf359912 hB359901
          have rc360078 := rc_at hT359898 ht359911 hf359912
          obtain ⟨q360085, hl360086⟩ : ∃ z, z = γ 14 q360042 := ⟨_, rfl⟩
          have hl360087 : γ 0 q360085 = 3 ∨ γ 0 q360085 = 103 := by rw [hl360086, ← r360073]; exact (RS_lst hT359898 rc360078.2.1 r360072).1
          refine Gt_row (c := q356977) (f := f) hl0 dr_cX17_zeros_34 ⟨wr_10_202, wr_1_15, wr_10_78, by decide, rfl, (Nat.le_of_ble_eq_true rfl), (Nat.le_of_ble_eq_true rfl)⟩ wr_10_76 wr_10_77 hT359898 ht359911 hf359912 (Nat.le_trans bd360077.2.2.1 (Nat.le_trans hBk (by decide))) (rm_cs hph359900 rg360075.2.1 rm360076 (by decide)) (rm_sl hph359900 rg360075.2.1 rm360076 rm_s18) (Nat.le_of_ble_eq_true rfl) (fun P360079 F360080 γ el q360081 dc360082 ds360083 hq360084 => ?_)
          obtain ⟨hk360088, x0360089, x1360090, x22360091, x8360092, h16360093, h18360094, hnu360095, hot360096, h45360097, hf0360098, ⟨hr1360099, hr2360100⟩, hM360101, hBB360102⟩ := hq360084
          have hk360103 := rSk_of hk360088
          obtain ⟨nu360104, nu360105, nu360106, nu360107⟩ := hnu360095
          have hT360108 := hk360103.1
          have hs360109 := rSk_tr hs359899 hk360103 (by decide) (by decide) (by decide)
          have kp360110 : F360080 q356976 = F356975 q356976 := (rSk_F hk360103 ht359910 (by decide) (by decide)).trans x359908
          have r360111 := rSk_F hk360103 ht359910 (by decide) (by decide)
          have ht360112 : rKd γ q356976 10 := rSk_k hk360103 ht359910 (by decide) (by decide)
          have ht360113 : rKd γ q356977 9 := rSk_k hk360103 ht359911 (by decide) (by decide)
          have hf360114 : γ 1 q356977 = f := rSk_1 hk360103 ht359911 (by decide) hf359912
          have ht360115 : rKd γ q360042 2 := rSk_k hk360103 ht360047 (by decide) (by decide)
          have hf360116 : γ 1 q360042 = f := rSk_1 hk360103 ht360047 (by decide) hf360064
          have ht360117 : rKd γ q360051 3 := rSk_k hk360103 ht360055 (by decide) (by decide)
          have hf360118 : γ 1 q360051 = f := rSk_1 hk360103 ht360055 (by decide) hf360065
          have r360119 := (rSk_s hk360103 ht359911 (by decide)).2.1
          have r360120 := hot360096 _ (by rw [rc360078.2.1]; decide) (by rw [rc360078.2.1]; decide)
          have r360121 : (0 : Int32).toInt.toNat < γ 2 (γ 14 q356977) := by rw [r360119, r360120.1]; exact r360072
          have r360122 : el (γ 14 q356977) (0 : Int32).toInt.toNat = q360042 := by rw [r360119, r360120.2]; exact r360073
          clear r360004 r360005 r360006 r360007 r360008 r360009 r360011 r360012 r360013 r360014 bp359998 bp359999 bp360053 bp360054 r360062 r360063 rg360075 rm360076 bd360077 rc360078
          have r360123 : 0 < γ 6 (γ 1 q356977) := by rw [hf360114]; omega
          have sz360124 := (rSk_s hk360103 ht360047 (by decide)).2.1
          have sz360125 := congrArg (γ 2) sz360124
          have sz360126 := (hot360096 q360085 (by omega) (by omega)).1
          rw [hl360086] at sz360126
          clear hl360087
          have sz360127 := (hot360096 q360051 (rT0 ht360055 (by decide)) (by rw [show _ = 3 from ht360055]; decide)).1
          have r360128 := hf0360098.2.2
          have hB360129 : rBd γ el f B := hBB360102 B (by omega) hB359901
          have ht360130 : rKd γ q360081 101 := x0360089
          have r360131 : γ 8 q360081 < γ 16 f := rm_x8 x8360092 h16360093 rfl
          have hph360132 : rPh γ0 el0 f ≤ rPh γ el f := rm_ph hph359900 hr2360100
          have pk360133 : rPh γ el f ≤ 387 * B + 6000 := rm_pk (rM_ge hT360108 ht360113 hf360114).1 (rM_bd hB360129)
          have hm360134 : q360081 ∈ P360079 := RS_m hT360108 ht360130 (by decide)
          obtain ⟨p360136, p360137, p360138, p360139, p360140, p360141, p360142, he360135, bp360136, bp360137, bp360140, bp360141, bp360142, r360143, r360144, r360145⟩ := show rkR (F360080 q360081) from RS_o hT360108 ht360130
          have bp360138 := gB_any p360138
          have bp360139 := gB_any p360139
          have r360146 : γ 7 (γ 1 q360081) = γ 7 f := by rw [x1360090]
          have r360147 : p360141.toInt = 0 := by have z := hf0360098.1; rw [he360135] at z; exact z
          have bp360141' : gB p360141 0 0 := ⟨by omega, by omega⟩
          have r360148 : p360142.toInt = 0 := by have z := hf0360098.2.1; rw [he360135] at z; exact z
          have bp360142' : gB p360142 0 0 := ⟨by omega, by omega⟩
          refine G_widen (cs' := ((rPh γ el f - rPh γ0 el0 f) / 18)) (sl' := (rPh γ el f - rPh γ0 el0 f)) (rm_wc hph359900 hr1360099) (rm_ws hph359900 hr2360100) ?_
          refine G_astore (L' := [(4, .ref q360081), (3, .int g359894), (2, .int g359895), (0, .ref q356976), (1, .ref q356977)]) dr_cX17_zeros_37 (Nat.le_of_ble_eq_true rfl) rfl ?_
          refine G_aload 0 dr_cX17_zeros_39 rfl ?_
          refine G_iconst 0 dr_cX17_zeros_41 (by decide +kernel) ?_
          refine Gp_put 0 hm360134 he360135 dr_cX17_zeros_42 (gk_X15 D I) (Nat.le_of_ble_eq_true rfl) wr_9_173 rfl rfl rfl (Nat.le_of_ble_eq_true rfl) (fun F360149 e360150 n360151 => ?_)
          have he360152 : F360149 q360081 = .inr (20, [.int 0, .int p360137, .int p360138, .int p360139, .int p360140, .int p360141, .int p360142]) := e360150
          have kp360153 : F360149 q356976 = F356975 q356976 := (n360151 q356976 (rn_ty ht360112 ht360130 (by decide))).trans kp360110
          refine G_aload 0 dr_cX17_zeros_45 rfl ?_
          refine G_iload_n 1 dr_cX17_zeros_47 rfl ?_
          refine Gp_put 1 hm360134 he360152 dr_cX17_zeros_48 (gk_X15 D I) (Nat.le_of_ble_eq_true rfl) wr_9_178 rfl rfl rfl (Nat.le_of_ble_eq_true rfl) (fun F360154 e360155 n360156 => ?_)
          have he360157 : F360154 q360081 = .inr (20, [.int 0, .int g359894, .int p360138, .int p360139, .int p360140, .int p360141, .int p360142]) := e360155
          have n360158 : ∀ b, b ≠ q360081 → F360154 b = F360080 b := fun b hb => (n360156 b hb).trans (n360151 b hb)
          have kp360159 : F360154 q356976 = F356975 q356976 := (n360156 q356976 (rn_ty ht360112 ht360130 (by decide))).trans kp360153
          refine G_aload_n 4 dr_cX17_zeros_51 rfl ?_
          refine G_iconst 0 dr_cX17_zeros_52 (by decide +kernel) ?_
          have hT360160 : RS D I P360079 F360154 γ el := RS_set hT360108 n360158 ht360130 (by decide) ⟨0, g359894, p360138, p360139, p360140, p360141, p360142, he360157, (gB_w (gBl (show Int32.toInt 0 = 0 by decide)) (by decide) (by decide)), bg359894', bp360140, (gB_w bp360141' (by decide) (by decide)), (gB_w bp360142' (by decide) (by decide)), (Or.inl (by decide)), r360144, r360145⟩
          have hs360161 := rSk_put hs360109 hT360160 n360158 ht360130 (by decide) (by decide)
          have hm360162 : q356977 ∈ P360079 := RS_m hT360160 ht360113 (by decide)
          obtain ⟨q360164, q360165, p360166, p360167, he360163, ht360183, ht360168, ht360169, ht360170, ht360171, r360172, r360173, r360174, r360175, r360176, r360177, r360178, r360179, r360180, r360181, r360182⟩ := show rk_9 γ el q356977 (F360154 q356977) from RS_o hT360160 ht360113
          have bp360166 : gB p360166 0 1000000 := ⟨by omega, by omega⟩
          have bp360167 : gB p360167 0 1000000 := ⟨by omega, by omega⟩
          have hf360184 : γ 1 q360164 = f := (show γ 1 q360164 = γ 1 q356977 from ht360169).trans hf360114
          have hf360185 : γ 1 q360165 = f := (show γ 1 q360165 = γ 1 q356977 from ht360171).trans hf360114
          have r360186 : γ 6 (γ 1 q356977) = γ 6 f := by rw [hf360114]
          have r360187 : γ 16 (γ 1 q356977) = γ 16 f := by rw [hf360114]
          have r360188 : p360167.toInt = γ 6 f ∧ p360167.toInt ≤ 40 := by omega
          clear r360178
          have hm360189 : q360164 ∈ P360079 := RS_m hT360160 ht360168 (by decide)
          obtain ⟨⟨p360191, p360192, q360193, he360190, r360194, r360195, r360196, r360198⟩, r360197⟩ := show rk_4 D I γ el F360154 q360164 from RS_o hT360160 ht360168
          have bp360191 := gB_any p360191
          have bp360192 : gB p360192 0 1000000 := ⟨by omega, by omega⟩
          obtain ⟨r360199, r360200, n360207, f360208, r360201, r360202, r360203, r360204, r360205, r360206⟩ := rLC_n r360196 (by omega)
          have hm360209 : q360193 ∈ P360079 := RS_m hT360160 r360199 (by decide)
          obtain ⟨q360210, hx360211⟩ : ∃ x, x = el q360164 (0 : Int32).toInt.toNat := ⟨_, rfl⟩
          have hx360212 : f360208 (0 : Int32).toNatClampNeg = some q360210 := (r360205 _ (show (0 : Int32).toInt.toNat < γ 2 q360164 by first | assumption | omega)).trans (congrArg some hx360211.symm)
          have ht360215 : rKd γ q360210 2 := by rw [hx360211]; exact (r360179 _ (by omega)).resolve_right (fun z => absurd z.1 (by omega))
          have ht360216 : rFm γ q360210 q360164 := by rw [hx360211]; exact (r360197 _ (show (0 : Int32).toInt.toNat < γ 2 q360164 by omega)).2.1
          have hm360217 : q360210 ∈ P360079 := RS_m hT360160 ht360215 (by decide)
          obtain ⟨q360219, q360220, p360221, p360222, he360218, ht360229, ht360223, ht360224, ht360225, ht360226, ht360227, bp360221, bp360222, r360228, r360230, r360231⟩ := show rk_2 γ q360210 (F360154 q360210) from RS_o hT360160 ht360215
          refine Gw_callV (As := [.int 0]) (gV_ok D I) (cp_7737_Code_get l hl0 D I P360079 F360154 q356977 q360164 q360193 0 q360165 p360166 p360167 p360191 p360192 f360208 n360207 q360210 q360219 q360220 p360221 p360222 hm360162 hm360189 hm360209 hm360217 he360163 he360190 r360201 he360218 (gB_w (gBl (show Int32.toInt 0 = 0 by decide)) (by decide) (by decide)) (gB_w bp360192 (by decide) (by decide)) (by have qa0 : Int32.toInt 0 = 0 := (by decide); omega) (by have qa0 : Int32.toInt 0 = 0 := (by decide); omega) (by assumption) (by have qa0 : Int32.toInt 0 = 0 := (by decide); omega)) dr_cX17_zeros_53 ⟨wr_10_157, wr_1_15, wr_10_137, by decide, rfl, (Nat.le_of_ble_eq_true rfl), (Nat.le_of_ble_eq_true rfl)⟩ wr_10_135 wr_10_136 hm360162 he360163 rfl (show ((rPh γ el f - rPh γ0 el0 f) / 18) + 0 + 0 ≤ (((387 * B + 6000) - rPh γ0 el0 f) / 18) by first | omega | decide) (show (rPh γ el f - rPh γ0 el0 f) + 0 + 0 ≤ ((387 * B + 6000) - rPh γ0 el0 f) by first | omega | decide) (Nat.le_of_ble_eq_true rfl) (fun r360235 w360236 dc360232 ds360233 hp360234 => ?_) (fun _ _ _ _ _ z => z.elim)
          obtain ⟨rfl, rfl, hdc, hds⟩ := hp360234
          change G _ _ _ _ _ _ _ (.ref q360210 :: _) _ _ _
          refine G_widen (cs' := ((rPh γ el f - rPh γ0 el0 f) / 18) + 0 + 0) (sl' := (rPh γ el f - rPh γ0 el0 f) + 0 + 0) (by omega) (by omega) ?_
          have hf360237 : γ 1 q360210 = f := (show γ 1 q360210 = γ 1 q360164 from ht360216).trans ((show γ 1 q360164 = γ 1 q356977 from ht360169).trans hf360114)
          have hf360238 : γ 1 q360219 = f := (show γ 1 q360219 = γ 1 q360210 from ht360224).trans hf360237
          have hf360239 : γ 1 q360220 = f := (show γ 1 q360220 = γ 1 q360210 from ht360226).trans hf360237
          have r360240 : γ 6 (γ 1 q360210) = γ 6 f := by rw [hf360237]
          have r360241 : γ 7 (γ 1 q360210) = γ 7 f := by rw [hf360237]
          have r360242 : γ 19 (γ 1 q360210) = γ 19 f := by rw [hf360237]
          have r360243 := r360228.resolve_left (by omega)
          clear r360228
          have r360244 : γ 2 (γ 14 q360210) = γ 2 q360219 := by rw [ht360229.1]
          have r360245 : (0 : Int32).toInt.toNat < γ 2 (γ 14 q356977) := by rw [ht360183.1]; omega
          have r360246 : el (γ 14 q356977) (0 : Int32).toInt.toNat = q360210 := by rw [ht360183.1, hx360211]
          have r360247 : q360210 = q360042 := r360246.symm.trans r360122
          have sz360248 : γ 2 (γ 14 q360210) = γ 2 (γ 14 q360042) := by rw [r360247]
          refine Gp_get 0 hm360217 he360218 dr_cX17_zeros_56 (gk_X12 D I) (Nat.le_of_ble_eq_true rfl) wr_9_216 rfl ?_
          refine G_iload_n 2 dr_cX17_zeros_59 rfl ?_
          refine G_aload 0 dr_cX17_zeros_60 rfl ?_
          have rg360249 := rM_ge hT360160 ht360113 hf360114
          have rm360250 := rM_bd hB360129
          have bd360251 := rBd_c hT360160 ht360113 hf360114 hB360129
          have rc360252 := rc_at hT360160 ht360113 hf360114
          have r360254 : γ 14 (el (γ 14 q356977) (0 : Int32).toInt.toNat) = q360219 := by rw [r360246]; exact ht360229.1
          have r360255 := rg360249.2.2 _ r360245
          rw [r360254] at r360255
          have r360256 := bd360251.2.2.2 _ r360245
          rw [r360254] at r360256
          have r360257 : γ 7 (γ 1 q360081) = γ 7 f := by rw [x1360090]
          have hx360258 : rk_1 γ q360081 (F360154 q360081) := ⟨0, g359894, p360138, p360139, p360140, p360141, p360142, he360157, (gB_w (gBl (show Int32.toInt 0 = 0 by decide)) (by decide) (by decide)), bg359894', bp360140, (gB_w bp360141' (by decide) (by decide)), (gB_w bp360142' (by decide) (by decide)), (Or.inl (by decide)), r360144, r360145, (Or.inl ⟨by decide, by decide⟩), (Or.inl x22360091)⟩
          refine Gt_ins (c := q356977) (f := f) hl0 dr_cX17_zeros_62 ⟨wr_10_203, wr_1_18, wr_10_206, by decide, rfl, (Nat.le_of_ble_eq_true rfl), (Nat.le_of_ble_eq_true rfl)⟩ wr_10_204 wr_10_205 hT360160 ht360223 hf360238 ht360130 x1360090 x22360091 r360131 (by omega) ht360113 hf360114 r360245 r360254 hx360258 (by omega) (by omega) (Nat.le_trans r360256 (Nat.le_trans hBk (by decide))) (rm_cs hph360132 r360255 rm360250 (by decide)) (rm_sl hph360132 r360255 rm360250 rm_s11) (Nat.le_of_ble_eq_true rfl) (fun P360259 F360253 γ el dc360260 ds360261 hq360262 => ?_)
          obtain ⟨hk360263, x0360264, h2360265, hel360266, hot360267, h16360268, h18360269, hnu360270, hFx360271, hr360272, hM360273, hBB360274⟩ := hq360262
          have hk360275 := rSk_of hk360263
          have r360276 : (fI (F360253 q356977) 3).toInt = (fI (F360154 q356977) 3).toInt := by rw [rSk_F hk360275 ht360113 (by decide) (by decide)]
          obtain ⟨nu360277, nu360278, nu360279, nu360280⟩ := hnu360270
          have hT360281 := hk360275.1
          have hs360282 := rSk_tr hs360161 hk360275 (by decide) (by decide) (by decide)
          have kp360283 : F360253 q356976 = F356975 q356976 := (rSk_F hk360275 ht360112 (by decide) (by decide)).trans kp360159
          have ht360284 : rKd γ q356976 10 := rSk_k hk360275 ht360112 (by decide) (by decide)
          have ht360285 : rKd γ q356977 9 := rSk_k hk360275 ht360113 (by decide) (by decide)
          have hf360286 : γ 1 q356977 = f := rSk_1 hk360275 ht360113 (by decide) hf360114
          have ht360287 : rKd γ q360042 2 := rSk_k hk360275 ht360115 (by decide) (by decide)
          have hf360288 : γ 1 q360042 = f := rSk_1 hk360275 ht360115 (by decide) hf360116
          have ht360289 : rKd γ q360051 3 := rSk_k hk360275 ht360117 (by decide) (by decide)
          have hf360290 : γ 1 q360051 = f := rSk_1 hk360275 ht360117 (by decide) hf360118
          have ht360291 : rKd γ q360210 2 := rSk_k hk360275 ht360215 (by decide) (by decide)
          have hf360292 : γ 1 q360210 = f := rSk_1 hk360275 ht360215 (by decide) hf360237
          have ht360293 : rKd γ q360219 3 := rSk_k hk360275 ht360223 (by decide) (by decide)
          have hf360294 : γ 1 q360219 = f := rSk_1 hk360275 ht360223 (by decide) hf360238
          have r360295 := (rSk_s hk360275 ht360113 (by decide)).2.1
          have r360296 := hot360267 _ (by rw [rc360252.2.1]; decide) (fun q => by rw [q, show _ = 3 from ht360223] at rc360252; exact absurd rc360252.2.1 (by decide))
          have r360297 : (0 : Int32).toInt.toNat < γ 2 (γ 14 q356977) := by rw [r360295, r360296.1]; exact r360121
          have r360298 : el (γ 14 q356977) (0 : Int32).toInt.toNat = q360042 := by rw [r360295, r360296.2]; exact r360122
          have r360299 : (0 : Int32).toInt.toNat < γ 2 (γ 14 q356977) := by rw [r360295, r360296.1]; exact r360245
          have r360300 : el (γ 14 q356977) (0 : Int32).toInt.toNat = q360210 := by rw [r360295, r360296.2]; exact r360246
          clear bp360136 bp360137 bp360140 bp360141 bp360142 bp360138 bp360139 r360172 r360173 r360174 r360175 r360176 r360177 r360179 r360180 r360181 r360182 bp360166 bp360167 bp360221 bp360222 r360230 r360231 rg360249 rm360250 bd360251 rc360252 r360255 r360256
          clear r360143 r360144 r360145
          have r360301 : 0 < γ 6 (γ 1 q356977) := by rw [hf360286]; omega
          first | have sz360302 := (hot360267 q360051 (rT0 ht360117 (by decide)) (by assumption)).1 | skip
          have ht360303 : rKd γ q360081 1 := x0360264
          have hB360304 : rBd γ el f B := hBB360274 B hB360129
          have hph360305 : rPh γ0 el0 f ≤ rPh γ el f := rm_ph hph360132 hr360272.2
          have pk360306 : rPh γ el f ≤ 387 * B + 6000 := rm_pk (rM_ge hT360281 ht360285 hf360286).1 (rM_bd hB360304)
          refine G_widen (cs' := ((rPh γ el f - rPh γ0 el0 f) / 18)) (sl' := (rPh γ el f - rPh γ0 el0 f)) (rm_wc hph360132 hr360272.1) (rm_ws hph360132 hr360272.2) ?_
          have r360307 : γ 14 q360210 = q360219 := ((rSk_s (rSk_of hk360263) ht360215 (by decide)).2.1).trans ht360229.1
          have sz360308 : γ 2 (γ 14 q360210) = γ 2 q360219 := by rw [r360307]
          have bg359895' : gB g359895 0 1999 := ⟨by omega, by omega⟩
          obtain ⟨z360309, hz360309⟩ : ∃ z : Int32, z = g359895 + Int32.ofInt 1 := ⟨_, rfl⟩
          have ez360309 : z360309.toInt = g359895.toInt + 1 := gI_inc hz360309 (by decide) bg359895' (by decide) (by decide)
          have bz360309 : gB z360309 1 2000 := ⟨by omega, by omega⟩
          refine G_iinc (L' := [(2, .int z360309), (4, .ref q360081), (3, .int g359894), (0, .ref q356976), (1, .ref q356977)]) z360309 2 dr_cX17_zeros_65 rfl hz360309.symm (Nat.le_of_ble_eq_true rfl) rfl ?_
          obtain ⟨z360310, hz360310⟩ : ∃ z : Int32, z = g359894 + Int32.ofInt 1 := ⟨_, rfl⟩
          have ez360310 : z360310.toInt = g359894.toInt + 1 := gI_inc hz360310 (by decide) bg359894' (by decide) (by decide)
          have bz360310 : gB z360310 1 2000 := ⟨by omega, by omega⟩
          refine G_iinc (L' := [(3, .int z360310), (2, .int z360309), (4, .ref q360081), (0, .ref q356976), (1, .ref q356977)]) z360310 2 dr_cX17_zeros_68 rfl hz360310.symm (Nat.le_of_ble_eq_true rfl) rfl ?_
          refine G_goto 10 dr_cX17_zeros_71 (by decide +kernel) ?_
          refine G_lv (L' := [(3, .int z360310), (2, .int z360309), (0, .ref q356976), (1, .ref q356977)]) [0, 1, 3, 4] rfl ?_
          exact ih10_359908 P360259 F360253 γ el z360310 z360309 (gB_w bz360310 (by decide) (by decide)) (gB_w bz360309 (by decide) (by decide)) hT360281 hs360282 hph360305 hB360304 (by omega) (by omega) (by omega) (by omega) (by omega) (by rw [r360300]; omega) kp360283 (by omega)
  exact hlp10_359908 (((2001 : Int) - 0).toNat + 1) P356974 F357041 γ el 0 0 (gB_w (gBl (show Int32.toInt 0 = 0 by decide)) (by decide) (by decide)) (gB_w (gBl (show Int32.toInt 0 = 0 by decide)) (by decide) (by decide)) hT357042 hs357044 hph hB (by have qa0 : Int32.toInt 0 = 0 := (by decide); omega) (by have qa0 : Int32.toInt 0 = 0 := (by decide); omega) (by have qa0 : Int32.toInt 0 = 0 := (by decide); omega) (by have qa0 : Int32.toInt 0 = 0 := (by decide); omega) (by have qa0 : Int32.toInt 0 = 0 := (by decide); omega) (by have qa : Int32.toInt 0 = 0 := (by decide); omega) kp357045 (Nat.lt_succ_self _)
