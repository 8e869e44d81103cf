theorem dr_cX17_zeros_0 : decode cX17_zeros 0 = .ok (.aload_n 0, 1) := by decide +kernel
theorem dr_cX17_zeros_1 : decode cX17_zeros 1 = .ok (.aload_n 1, 1) := by decide +kernel
theorem dr_cX17_zeros_2 : decode cX17_zeros 2 = .ok (.iconst 0, 1) := by decide +kernel
theorem dr_cX17_zeros_3 : decode cX17_zeros 3 = .ok (.invokevirtual 127, 3) := by decide +kernel
theorem dr_cX17_zeros_6 : decode cX17_zeros 6 = .ok (.iconst 0, 1) := by decide +kernel
theorem dr_cX17_zeros_7 : decode cX17_zeros 7 = .ok (.istore_n 2, 1) := by decide +kernel
theorem dr_cX17_zeros_8 : decode cX17_zeros 8 = .ok (.iconst 0, 1) := by decide +kernel
theorem dr_cX17_zeros_9 : decode cX17_zeros 9 = .ok (.istore_n 3, 1) := by decide +kernel
theorem dr_cX17_zeros_10 : decode cX17_zeros 10 = .ok (.iload_n 3, 1) := by decide +kernel
theorem dr_cX17_zeros_11 : decode cX17_zeros 11 = .ok (.sipush 2000, 3) := by decide +kernel
theorem dr_cX17_zeros_14 : decode cX17_zeros 14 = .ok (.if_icmp .ge 60, 3) := by decide +kernel
theorem dr_cX17_zeros_74 : decode cX17_zeros 74 = .ok (.return_, 1) := by decide +kernel
theorem dr_cX17_zeros_17 : decode cX17_zeros 17 = .ok (.aload_n 0, 1) := by decide +kernel
theorem dr_cX17_zeros_18 : decode cX17_zeros 18 = .ok (.getfield 88, 3) := by decide +kernel
theorem dr_cX17_zeros_21 : decode cX17_zeros 21 = .ok (.iconst 0, 1) := by decide +kernel
theorem dr_cX17_zeros_22 : decode cX17_zeros 22 = .ok (.aaload, 1) := by decide +kernel
theorem dr_cX17_zeros_23 : decode cX17_zeros 23 = .ok (.iload_n 3, 1) := by decide +kernel
theorem dr_cX17_zeros_24 : decode cX17_zeros 24 = .ok (.invokestatic 145, 3) := by decide +kernel
theorem dr_cX17_zeros_27 : decode cX17_zeros 27 = .ok (.ifCond .ne 6, 3) := by decide +kernel
theorem dr_cX17_zeros_30 : decode cX17_zeros 30 = .ok (.goto 38, 3) := by decide +kernel
theorem dr_cX17_zeros_68 : decode cX17_zeros 68 = .ok (.iinc 3 1, 3) := by decide +kernel
theorem dr_cX17_zeros_71 : decode cX17_zeros 71 = .ok (.goto (-61), 3) := by decide +kernel
theorem dr_cX17_zeros_33 : decode cX17_zeros 33 = .ok (.aload_n 1, 1) := by decide +kernel
theorem dr_cX17_zeros_34 : decode cX17_zeros 34 = .ok (.invokevirtual 177, 3) := by decide +kernel
theorem dr_cX17_zeros_37 : decode cX17_zeros 37 = .ok (.astore 4, 2) := by decide +kernel
theorem dr_cX17_zeros_39 : decode cX17_zeros 39 = .ok (.aload 4, 2) := by decide +kernel
theorem dr_cX17_zeros_41 : decode cX17_zeros 41 = .ok (.iconst 0, 1) := by decide +kernel
theorem dr_cX17_zeros_42 : decode cX17_zeros 42 = .ok (.putfield 39, 3) := by decide +kernel
theorem dr_cX17_zeros_45 : decode cX17_zeros 45 = .ok (.aload 4, 2) := by decide +kernel
theorem dr_cX17_zeros_47 : decode cX17_zeros 47 = .ok (.iload_n 3, 1) := by decide +kernel
theorem dr_cX17_zeros_48 : decode cX17_zeros 48 = .ok (.putfield 52, 3) := by decide +kernel
theorem dr_cX17_zeros_51 : decode cX17_zeros 51 = .ok (.aload_n 1, 1) := by decide +kernel
theorem dr_cX17_zeros_52 : decode cX17_zeros 52 = .ok (.iconst 0, 1) := by decide +kernel
theorem dr_cX17_zeros_53 : decode cX17_zeros 53 = .ok (.invokevirtual 101, 3) := by decide +kernel
theorem dr_cX17_zeros_56 : decode cX17_zeros 56 = .ok (.getfield 117, 3) := by decide +kernel
theorem dr_cX17_zeros_59 : decode cX17_zeros 59 = .ok (.iload_n 2, 1) := by decide +kernel
theorem dr_cX17_zeros_60 : decode cX17_zeros 60 = .ok (.aload 4, 2) := by decide +kernel
theorem dr_cX17_zeros_62 : decode cX17_zeros 62 = .ok (.invokevirtual 181, 3) := by decide +kernel
theorem dr_cX17_zeros_65 : decode cX17_zeros 65 = .ok (.iinc 2 1, 3) := by decide +kernel
abbrev ky_417088_SpillForgeModel_zeros : gKey := (cX17_zeros, 5, "SpillForgeModel", none, [], "zeros", fun _ _ => True)
def pg_417088_SpillForgeModel_zeros (D : va_G) (I : FieldType → ClassId) (γ0 el0 : Nat → Nat → Nat) (f : Nat) (B : Nat) (P417082 : List Nat) (F417083 : Nat → va_E) (q417084 : Nat) (q417085 : Nat) : Option Value → va_W → Nat → Nat → Prop := fun r w dc ds => ∃ (P422468 : List Nat) (F422469 : Nat → va_E) (γ el : Nat → Nat → Nat), r = none ∧ w = va_pl P422468 F422469 ∧ rSk f [101] ([1, 3, 5, 6, 8, 9, 101] ++ npk) D I P417082 F417083 γ0 el0 P422468 F422469 γ el ∧ (18 * dc + rPh γ0 el0 f ≤ rPh γ el f ∧ ds + rPh γ0 el0 f ≤ rPh γ el f) ∧ rBd γ el f B ∧ γ 6 f = γ0 6 f ∧ γ 7 f = γ0 7 f ∧ γ 16 f ≤ γ0 16 f + 2000 ∧ γ 18 f = γ0 18 f ∧ (F422469 q417084 = F417083 q417084)
set_option maxRecDepth 100000 in
set_option maxHeartbeats 1500000 in
theorem cg_417088_SpillForgeModel_zeros (l : Launch) (hl0 : l.stackTraces = false) (D : va_G) (I : FieldType → ClassId) (γ0 el0 : Nat → Nat → Nat) (f : Nat) (B : Nat) (P417082 : List Nat) (F417083 : Nat → va_E) (q417084 : Nat) (q417085 : Nat) (hT0 : RS D I P417082 F417083 γ0 el0) (hzq417084 : rKd γ0 q417084 10) (hzq417085 : rKd γ0 q417085 9) (hf0 : γ0 1 q417085 = f) (hB0 : rBd γ0 el0 f B) (hBk : B ≤ 100000) (x417086 : 0 < γ0 6 f) (x417087 : γ0 16 f + 2000 ≤ B) : CtA (gV D I) l yX17_zeros cX17_zeros 5 none 8 170 (((387 * B + 6000) - rPh γ0 el0 f) / 18) ((387 * B + 6000) - rPh γ0 el0 f) [.ref q417084, .ref q417085] (va_pl P417082 F417083) (pg_417088_SpillForgeModel_zeros D I γ0 el0 f B P417082 F417083 q417084 q417085) gNA := by
  refine CtA_of hl0 (by decide) (Nat.le_of_ble_eq_true rfl) ?_
  obtain ⟨γ, hγ0⟩ : ∃ z, z = γ0 := ⟨_, rfl⟩
  obtain ⟨el, hel0⟩ : ∃ z, z = el0 := ⟨_, rfl⟩
  have hT : RS D I P417082 F417083 γ el := by rw [hγ0, hel0]; exact hT0
  have hst : rSk f [101] ([1, 3, 5, 6, 8, 9, 101] ++ npk) D I P417082 F417083 γ0 el0 P417082 F417083 γ el := by rw [hγ0, hel0]; exact rSk_rf hT0
  have hph : rPh γ0 el0 f ≤ rPh γ el f := by rw [hγ0, hel0]; exact Nat.le_refl _
  have hB : rBd γ el f B := by rw [hγ0, hel0]; exact hB0
  have htq417084 : rKd γ q417084 10 := by rw [hγ0]; exact hzq417084
  have htq417085 : rKd γ q417085 9 := by rw [hγ0]; exact hzq417085
  have hf1 : γ 1 q417085 = f := by rw [hγ0]; exact hf0
  have x417086n : 0 < γ 6 f := by rw [hγ0]; exact x417086
  have x417087n : γ 16 f + 2000 ≤ B := by rw [hγ0]; exact x417087
  have pk417089 : rPh γ el f ≤ 387 * B + 6000 := rm_pk (rM_ge hT htq417085 hf1).1 (rM_bd hB)
  refine G_widen (cs' := ((rPh γ el f - rPh γ0 el0 f) / 18)) (sl' := (rPh γ el f - rPh γ0 el0 f)) (Nat.zero_le _) (Nat.zero_le _) ?_
  have r417090 : 0 < γ 6 (γ 1 q417085) := by rw [hf1]; omega
  have r417091 : γ 6 f = γ0 6 f := by rw [hγ0]
  have r417092 : γ 7 f = γ0 7 f := by rw [hγ0]
  have r417093 : γ 16 f = γ0 16 f := by rw [hγ0]
  have r417094 : γ 18 f = γ0 18 f := by rw [hγ0]
  have r417095 : γ 19 f = γ0 19 f := by rw [hγ0]
  refine G_aload_n 0 dr_cX17_zeros_0 rfl ?_
  refine G_aload_n 1 dr_cX17_zeros_1 rfl ?_
  refine G_iconst 0 dr_cX17_zeros_2 (by decide +kernel) ?_
  have hm417101 : q417084 ∈ P417082 := RS_m hT htq417084 (by decide)
  obtain ⟨q417103, q417104, p417105, p417106, p417107, p417108, p417109, p417110, p417111, p417112, p417113, p417114, p417115, p417116, p417117, p417118, p417119, he417102, hB417146, ht417120, ht417121, ht417122, ht417123, ht417124, ht417125, ht417126, ht417127, ht417128, ht417129, ht417130, ht417131, ht417132, ht417133, ht417134, ht417135, ht417136, ht417137, ht417138, ht417139, ht417140, ht417141, ht417142, ht417143, hB417147⟩ := show rk_10 γ (F417083 q417084) from RS_o hT htq417084
  refine Gw_callV (As := [.ref q417085, .int 0]) (gV_ok D I) (ct_217949_SpillForgeModel_findLive l hl0 D I γ el P417082 F417083 q417084 q417085 0 hT htq417084 htq417085 (gB_w (gBl (show Int32.toInt 0 = 0 by decide)) (by decide) (by decide)) (by omega)) dr_cX17_zeros_3 ⟨wr_10_156, wr_1_14, wr_10_159, by decide, rfl, (Nat.le_of_ble_eq_true rfl), (Nat.le_of_ble_eq_true rfl)⟩ wr_10_158 wr_p_94 hm417101 he417102 rfl (rm_zc pk417089) (rm_zs pk417089) (Nat.le_of_ble_eq_true rfl) (fun r417099 w417100 dc417096 ds417097 hp417098 => ?_) (fun _ _ _ _ _ z => z.elim)
  obtain ⟨F417149, rfl, rfl, hT417150, hs417151, hdc, hds, x417148⟩ := hp417098
  have hs417152 := rSk_str hst hT417150 hs417151 (by decide) (by decide) (by decide)
  have kp417153 : F417149 q417084 = F417083 q417084 := x417148
  change G _ _ _ _ _ _ _ _ _ _ _
  refine G_widen (cs' := ((rPh γ el f - rPh γ0 el0 f) / 18)) (sl' := (rPh γ el f - rPh γ0 el0 f)) (rm_d0 hdc) (rm_d0 hds) ?_
  refine G_iconst 0 dr_cX17_zeros_6 (by decide +kernel) ?_
  refine G_istore_n (L' := [(2, .int 0), (0, .ref q417084), (1, .ref q417085)]) dr_cX17_zeros_7 (Nat.le_of_ble_eq_true rfl) rfl ?_
  refine G_iconst 0 dr_cX17_zeros_8 (by decide +kernel) ?_
  refine G_istore_n (L' := [(3, .int 0), (2, .int 0), (0, .ref q417084), (1, .ref q417085)]) dr_cX17_zeros_9 (Nat.le_of_ble_eq_true rfl) rfl ?_
  have hlp10_422065 : ∀ (n10_422065 : Nat) (P422053 : List Nat) (F422054 : Nat → va_E) (γ el : Nat → Nat → Nat) (g422051 : Int32) (g422052 : Int32), gB g422051 0 2000 → RS D I P422053 F422054 γ el → rSk f [101] ([1, 3, 5, 6, 8, 9, 101] ++ npk) D I P417082 F417083 γ0 el0 P422053 F422054 γ el → rPh γ0 el0 f ≤ rPh γ el f → rBd γ el f B → γ 6 f = γ0 6 f → γ 7 f = γ0 7 f → γ 18 f = γ0 18 f → γ 16 f ≤ γ0 16 f + (g422052.toInt : Int).toNat → g422052.toInt ≤ g422051.toInt → (g422052.toInt : Int) ≤ γ 2 (γ 14 (el (γ 14 q417085) (0 : Int32).toInt.toNat)) → (F422054 q417084 = F417083 q417084) → ((2001 : Int) - g422051.toInt).toNat < n10_422065 → G (gV D I) l (gRm 8 170 (((387 * B + 6000) - rPh γ0 el0 f) / 18) ((387 * B + 6000) - rPh γ0 el0 f)) (gMA (gV D I) (pg_417088_SpillForgeModel_zeros D I γ0 el0 f B P417082 F417083 q417084 q417085) gNA (((387 * B + 6000) - rPh γ0 el0 f) / 18) ((387 * B + 6000) - rPh γ0 el0 f)) ky_417088_SpillForgeModel_zeros 10 [(3, .int g422051), (2, .int g422052), (0, .ref q417084), (1, .ref q417085)] [] (va_pl P422053 F422054) ((rPh γ el f - rPh γ0 el0 f) / 18) (rPh γ el f - rPh γ0 el0 f) := by
    intro n10_422065
    induction n10_422065 with
    | zero => intro P422053 F422054 γ el g422051 g422052 bg422051 hT422055 hs422056 hph422057 hB422058 x422059 x422060 x422061 x422062 x422063 x422064 x422065 hm10_422065; exact absurd hm10_422065 (Nat.not_lt_zero _)
    | succ n10_422065 ih10_422065 =>
      intro P422053 F422054 γ el g422051 g422052 bg422051 hT422055 hs422056 hph422057 hB422058 x422059 x422060 x422061 x422062 x422063 x422064 x422065 hm10_422065
      have bg422052 := gB_any g422052
      clear r417091 r417092 r417093 r417094 r417095
      have ht422067 : rKd γ q417084 10 := rSk_k hs422056 hzq417084 (by decide) (by decide)
      have ht422068 : rKd γ q417085 9 := rSk_k hs422056 hzq417085 (by decide) (by decide)
      have hf422069 : γ 1 q417085 = f := rSk_1 hs422056 hzq417085 (by decide) hf0
      have pk422070 : rPh γ el f ≤ 387 * B + 6000 := rm_pk (rM_ge hT422055 ht422068 hf422069).1 (rM_bd hB422058)
      have r422071 : 0 < γ 6 (γ 1 q417085) := by rw [hf422069]; omega
      refine G_iload_n 0 dr_cX17_zeros_10 rfl ?_
      refine G_sipush 2000 dr_cX17_zeros_11 (by decide +kernel) ?_
      refine G_icmp_ge 74 dr_cX17_zeros_14 (by decide +kernel) (fun hc422072 => ?_) (fun hc422072 => ?_)
      · have r422073 : 2000 ≤ g422051.toInt := gj_leL hc422072 (show Int32.toInt 2000 = 2000 by decide)
        have bg422051' : gB g422051 2000 2000 := ⟨by omega, by omega⟩
        exact G_vretA dr_cX17_zeros_74 rfl (show ((rPh γ el f - rPh γ0 el0 f) / 18) ≤ (((387 * B + 6000) - rPh γ0 el0 f) / 18) by omega) (show (rPh γ el f - rPh γ0 el0 f) ≤ ((387 * B + 6000) - rPh γ0 el0 f) by omega) ⟨P422053, F422054, γ, el, rfl, rfl, hs422056, ⟨by omega, by omega⟩, hB422058, (by omega), (by omega), (by omega), (by omega), x422065⟩
      · have r422074 : g422051.toInt < 2000 := gj_nleL hc422072 (show Int32.toInt 2000 = 2000 by decide)
        have bg422051' : gB g422051 0 1999 := ⟨by omega, by omega⟩
        refine G_aload_n 2 dr_cX17_zeros_17 rfl ?_
        have hm422075 : q417084 ∈ P422053 := RS_m hT422055 ht422067 (by decide)
        obtain ⟨q422077, q422078, p422079, p422080, p422081, p422082, p422083, p422084, p422085, p422086, p422087, p422088, p422089, p422090, p422091, p422092, p422093, he422076, hB422120, ht422094, ht422095, ht422096, ht422097, ht422098, ht422099, ht422100, ht422101, ht422102, ht422103, ht422104, ht422105, ht422106, ht422107, ht422108, ht422109, ht422110, ht422111, ht422112, ht422113, ht422114, ht422115, ht422116, ht422117, hB422121⟩ := show rk_10 γ (F422054 q417084) from RS_o hT422055 ht422067
        refine Gp_get 0 hm422075 he422076 dr_cX17_zeros_18 (gk_X17 D I) (Nat.le_of_ble_eq_true rfl) wr_7_74 rfl ?_
        refine G_iconst 0 dr_cX17_zeros_21 (by decide +kernel) ?_
        have hm422122 : (γ 9 0) ∈ P422053 := RS_m hT422055 ht422096 (by decide)
        obtain ⟨f422124, he422123, hg422125⟩ := show rk_12 I γ (F422054 (γ 9 0)) from RS_o hT422055 ht422096
        obtain ⟨q422126, hx422128⟩ : ∃ x, x = γ 10 (0 : Int32).toInt.toNat := ⟨_, rfl⟩
        have ht422127 : rKd γ q422126 11 := by rw [hx422128]; exact (hg422125 _ (by decide)).2.1
        refine Gp_aald 5 hm422122 he422123 dr_cX17_zeros_22 rfl rfl (gB_in (gBl (show Int32.toInt 0 = 0 by decide)) (by decide) (by decide)) ?_
        rw [show f422124 (0 : Int32).toNatClampNeg = some q422126 from (hg422125 _ (by decide)).1.trans (by rw [hx422128])]
        change G _ _ _ _ _ _ _ (.ref q422126 :: _) _ _ _
        refine G_iload_n 0 dr_cX17_zeros_23 rfl ?_
        have hm422129 : q422126 ∈ P422053 := RS_m hT422055 ht422127 (by decide)
        obtain ⟨f422131, he422130, wf422131⟩ := show rk_11 I (F422054 q422126) from RS_o hT422055 ht422127
        refine Gw_callS (As := [.ref q422126, .int g422051]) (gV_ok D I) (cp_1838_SpillForgeModel_has l hl0 D I P422053 F422054 q422126 g422051 f422131 hm422129 he422130 (gB_w bg422051' (by decide) (by decide))) dr_cX17_zeros_24 ⟨wr_10_203, wr_1_14, wr_10_205, by decide, rfl, (Nat.le_of_ble_eq_true rfl), (Nat.le_of_ble_eq_true rfl)⟩ wr_10_204 (rm_zc pk422070) (rm_zs pk422070) (Nat.le_of_ble_eq_true rfl) (fun r422135 w422136 dc422132 ds422133 hp422134 => ?_) (fun _ _ _ _ _ z => z.elim)
        rcases hp422134 with ⟨z422137, z422138, rfl, rfl, hdc, hds, r422139, r422140, r422141, r422142⟩ | ⟨z422143, z422144, rfl, rfl, hdc, hds, r422145, r422146, r422147, r422148⟩
        · change G _ _ _ _ _ _ _ (.int 0 :: _) _ _ _
          refine G_widen (cs' := ((rPh γ el f - rPh γ0 el0 f) / 18)) (sl' := (rPh γ el f - rPh γ0 el0 f)) (rm_d0 hdc) (rm_d0 hds) ?_
          refine G_if_ne 33 dr_cX17_zeros_27 (by decide +kernel) (fun hc => absurd hc (by decide)) (fun _ => ?_)
          refine G_goto 68 dr_cX17_zeros_30 (by decide +kernel) ?_
          obtain ⟨z422150, hz422150⟩ : ∃ z : Int32, z = g422051 + Int32.ofInt 1 := ⟨_, rfl⟩
          have ez422150 : z422150.toInt = g422051.toInt + 1 := gI_inc hz422150 (by decide) bg422051' (by decide) (by decide)
          have bz422150 : gB z422150 1 2000 := ⟨by omega, by omega⟩
          refine G_iinc (L' := [(3, .int z422150), (2, .int g422052), (0, .ref q417084), (1, .ref q417085)]) z422150 0 dr_cX17_zeros_68 rfl hz422150.symm (Nat.le_of_ble_eq_true rfl) rfl ?_
          refine G_goto 10 dr_cX17_zeros_71 (by decide +kernel) ?_
          exact ih10_422065 P422053 F422054 γ el z422150 g422052 (gB_w bz422150 (by decide) (by decide)) hT422055 hs422056 hph422057 hB422058 (by omega) (by omega) (by omega) (by omega) (by omega) (by omega) x422065 (by omega)
        · change G _ _ _ _ _ _ _ (.int 1 :: _) _ _ _
          refine G_widen (cs' := ((rPh γ el f - rPh γ0 el0 f) / 18)) (sl' := (rPh γ el f - rPh γ0 el0 f)) (rm_d0 hdc) (rm_d0 hds) ?_
          refine G_if_ne 33 dr_cX17_zeros_27 (by decide +kernel) (fun _ => ?_) (fun hc => absurd hc (by decide))
          have hm422151 : q417085 ∈ P422053 := RS_m hT422055 ht422068 (by decide)
          obtain ⟨q422153, q422154, p422155, p422156, he422152, ht422172, ht422157, ht422158, ht422159, ht422160, r422161, r422162, r422163, r422164, r422165, r422166, r422167, r422168, r422169, r422170, r422171⟩ := show rk_9 γ el q417085 (F422054 q417085) from RS_o hT422055 ht422068
          have bp422155 : gB p422155 0 1000000 := ⟨by omega, by omega⟩
          have bp422156 : gB p422156 0 1000000 := ⟨by omega, by omega⟩
          have hf422173 : γ 1 q422153 = f := (show γ 1 q422153 = γ 1 q417085 from ht422158).trans hf422069
          have hf422174 : γ 1 q422154 = f := (show γ 1 q422154 = γ 1 q417085 from ht422160).trans hf422069
          have r422175 : γ 6 (γ 1 q417085) = γ 6 f := by rw [hf422069]
          have r422176 : γ 16 (γ 1 q417085) = γ 16 f := by rw [hf422069]
          have r422177 : p422156.toInt = γ 6 f ∧ p422156.toInt ≤ 40 := by omega
          clear r422167
          have hm422178 : q422153 ∈ P422053 := RS_m hT422055 ht422157 (by decide)
          obtain ⟨⟨p422180, p422181, q422182, he422179, r422183, r422184, r422185, r422187⟩, r422186⟩ := show rk_4 D I γ el F422054 q422153 from RS_o hT422055 ht422157
          have bp422180 := gB_any p422180
          have bp422181 : gB p422181 0 1000000 := ⟨by omega, by omega⟩
          obtain ⟨r422188, r422189, n422196, f422197, r422190, r422191, r422192, r422193, r422194, r422195⟩ := rLC_n r422185 (by omega)
          have hm422198 : q422182 ∈ P422053 := RS_m hT422055 r422188 (by decide)
          obtain ⟨q422199, hx422200⟩ : ∃ x, x = el q422153 (0 : Int32).toInt.toNat := ⟨_, rfl⟩
          have hx422201 : f422197 (0 : Int32).toNatClampNeg = some q422199 := (r422194 _ (show (0 : Int32).toInt.toNat < γ 2 q422153 by first | assumption | omega)).trans (by rw [hx422200])
          have ht422204 : rKd γ q422199 2 := by rw [hx422200]; exact (r422168 _ (by omega)).resolve_right (fun z => absurd z.1 (by omega))
          have ht422205 : rFm γ q422199 q422153 := by rw [hx422200]; exact (r422186 _ (show (0 : Int32).toInt.toNat < γ 2 q422153 by omega)).2.1
          have hm422206 : q422199 ∈ P422053 := RS_m hT422055 ht422204 (by decide)
          obtain ⟨q422208, q422209, p422210, p422211, he422207, ht422218, ht422212, ht422213, ht422214, ht422215, ht422216, bp422210, bp422211, r422217, r422219, r422220⟩ := show rk_2 γ q422199 (F422054 q422199) from RS_o hT422055 ht422204
          have hf422221 : γ 1 q422199 = f := (show γ 1 q422199 = γ 1 q422153 from ht422205).trans ((show γ 1 q422153 = γ 1 q417085 from ht422158).trans hf422069)
          have hf422222 : γ 1 q422208 = f := (show γ 1 q422208 = γ 1 q422199 from ht422213).trans hf422221
          have hf422223 : γ 1 q422209 = f := (show γ 1 q422209 = γ 1 q422199 from ht422215).trans hf422221
          have r422224 : γ 6 (γ 1 q422199) = γ 6 f := by rw [hf422221]
          have r422225 : γ 7 (γ 1 q422199) = γ 7 f := by rw [hf422221]
          have r422226 : γ 19 (γ 1 q422199) = γ 19 f := by rw [hf422221]
          have r422227 := r422217.resolve_left (by omega)
          clear r422217
          have r422228 : γ 2 (γ 14 q422199) = γ 2 q422208 := by rw [ht422218.1]
          have r422229 : (0 : Int32).toInt.toNat < γ 2 (γ 14 q417085) := by rw [ht422172.1]; omega
          have r422230 : el (γ 14 q417085) (0 : Int32).toInt.toNat = q422199 := by rw [ht422172.1, hx422200]
          have sz422231 : γ 2 (γ 14 (el (γ 14 q417085) (0 : Int32).toInt.toNat)) = γ 2 (γ 14 q422199) := by rw [r422230]
          refine G_aload_n 3 dr_cX17_zeros_33 rfl ?_
          have rg422232 := rM_ge hT422055 ht422068 hf422069
          have rm422233 := rM_bd hB422058
          have bd422234 := rBd_c hT422055 ht422068 hf422069 hB422058
          have rc422235 := rc_at hT422055 ht422068 hf422069
          obtain ⟨q422242, hl422243⟩ : ∃ z, z = γ 14 q422199 := ⟨_, rfl⟩
          have hl422244 : γ 0 q422242 = 3 ∨ γ 0 q422242 = 103 := by rw [hl422243, ← r422230]; exact (RS_lst hT422055 rc422235.2.1 r422229).1
          refine Gt_row (c := q417085) (f := f) hl0 dr_cX17_zeros_34 ⟨wr_10_206, wr_1_15, wr_10_82, by decide, rfl, (Nat.le_of_ble_eq_true rfl), (Nat.le_of_ble_eq_true rfl)⟩ wr_10_80 wr_10_81 hT422055 ht422068 hf422069 (Nat.le_trans bd422234.2.2.1 (Nat.le_trans hBk (by decide))) (rm_cs hph422057 rg422232.2.1 rm422233 (by decide)) (rm_sl hph422057 rg422232.2.1 rm422233 rm_s18) (Nat.le_of_ble_eq_true rfl) (fun P422236 F422237 γ el q422238 dc422239 ds422240 hq422241 => ?_)
          obtain ⟨hk422245, x0422246, x1422247, x22422248, x8422249, h16422250, h18422251, hnu422252, hot422253, h45422254, hf0422255, ⟨hr1422256, hr2422257⟩, hM422258, hBB422259⟩ := hq422241
          have hk422260 := rSk_of hk422245
          have hT422261 := hk422260.1
          have hs422262 := rSk_tr hs422056 hk422260 (by decide) (by decide) (by decide)
          have kp422263 : F422237 q417084 = F417083 q417084 := (rSk_F hk422260 ht422067 (by decide) (by decide)).trans x422065
          have r422264 := rSk_F hk422260 ht422067 (by decide) (by decide)
          have ht422265 : rKd γ q417084 10 := rSk_k hk422260 ht422067 (by decide) (by decide)
          have ht422266 : rKd γ q417085 9 := rSk_k hk422260 ht422068 (by decide) (by decide)
          have hf422267 : γ 1 q417085 = f := rSk_1 hk422260 ht422068 (by decide) hf422069
          have ht422268 : rKd γ q422199 2 := rSk_k hk422260 ht422204 (by decide) (by decide)
          have hf422269 : γ 1 q422199 = f := rSk_1 hk422260 ht422204 (by decide) hf422221
          have ht422270 : rKd γ q422208 3 := rSk_k hk422260 ht422212 (by decide) (by decide)
          have hf422271 : γ 1 q422208 = f := rSk_1 hk422260 ht422212 (by decide) hf422222
          have r422272 := (rSk_s hk422260 ht422068 (by decide)).2.1
          have r422273 := hot422253 _ (by rw [rc422235.2.1]; decide) (by rw [rc422235.2.1]; decide)
          have r422274 : (0 : Int32).toInt.toNat < γ 2 (γ 14 q417085) := by rw [r422272, r422273.1]; exact r422229
          have r422275 : el (γ 14 q417085) (0 : Int32).toInt.toNat = q422199 := by rw [r422272, r422273.2]; exact r422230
          clear r422161 r422162 r422163 r422164 r422165 r422166 r422168 r422169 r422170 r422171 bp422155 bp422156 bp422210 bp422211 r422219 r422220 rg422232 rm422233 bd422234 rc422235
          have r422276 : 0 < γ 6 (γ 1 q417085) := by rw [hf422267]; omega
          have sz422277 := (rSk_s hk422260 ht422204 (by decide)).2.1
          have sz422278 := congrArg (γ 2) sz422277
          have sz422279 := (hot422253 q422242 (by omega) (by omega)).1
          rw [hl422243] at sz422279
          clear hl422244
          have sz422280 := (hot422253 q422208 (rT0 ht422212 (by decide)) (by rw [show _ = 3 from ht422212]; decide)).1
          obtain ⟨nu422281, nu422282, nu422283, nu422284⟩ := hnu422252
          have r422285 := hf0422255.2.2
          have hB422286 : rBd γ el f B := hBB422259 B (by omega) hB422058
          have ht422287 : rKd γ q422238 101 := x0422246
          have r422288 : γ 8 q422238 < γ 16 f := rm_x8 x8422249 h16422250 rfl
          have hph422289 : rPh γ0 el0 f ≤ rPh γ el f := rm_ph hph422057 hr2422257
          have pk422290 : rPh γ el f ≤ 387 * B + 6000 := rm_pk (rM_ge hT422261 ht422266 hf422267).1 (rM_bd hB422286)
          have hm422291 : q422238 ∈ P422236 := RS_m hT422261 ht422287 (by decide)
          obtain ⟨p422293, p422294, p422295, p422296, p422297, p422298, p422299, he422292, bp422293, bp422294, bp422297, bp422298, bp422299, r422300, r422301, r422302⟩ := show rkR (F422237 q422238) from RS_o hT422261 ht422287
          have bp422295 := gB_any p422295
          have bp422296 := gB_any p422296
          have r422303 : γ 7 (γ 1 q422238) = γ 7 f := by rw [x1422247]
          have r422304 : p422298.toInt = 0 := by have z := hf0422255.1; rw [he422292] at z; exact z
          have bp422298' : gB p422298 0 0 := ⟨by omega, by omega⟩
          have r422305 : p422299.toInt = 0 := by have z := hf0422255.2.1; rw [he422292] at z; exact z
          have bp422299' : gB p422299 0 0 := ⟨by omega, by omega⟩
          refine G_widen (cs' := ((rPh γ el f - rPh γ0 el0 f) / 18)) (sl' := (rPh γ el f - rPh γ0 el0 f)) (rm_wc hph422057 hr1422256) (rm_ws hph422057 hr2422257) ?_
          refine G_astore (L' := [(4, .ref q422238), (3, .int g422051), (2, .int g422052), (0, .ref q417084), (1, .ref q417085)]) dr_cX17_zeros_37 (Nat.le_of_ble_eq_true rfl) rfl ?_
          refine G_aload 0 dr_cX17_zeros_39 rfl ?_
          refine G_iconst 0 dr_cX17_zeros_41 (by decide +kernel) ?_
          refine Gp_put 0 hm422291 he422292 dr_cX17_zeros_42 (gk_X15 D I) (Nat.le_of_ble_eq_true rfl) wr_9_177 rfl rfl rfl (Nat.le_of_ble_eq_true rfl) (fun F422306 e422307 n422308 => ?_)
          have he422309 : F422306 q422238 = .inr (20, [.int 0, .int p422294, .int p422295, .int p422296, .int p422297, .int p422298, .int p422299]) := e422307
          have kp422310 : F422306 q417084 = F417083 q417084 := (n422308 q417084 (rn_ty ht422265 ht422287 (by decide))).trans kp422263
          refine G_aload 0 dr_cX17_zeros_45 rfl ?_
          refine G_iload_n 1 dr_cX17_zeros_47 rfl ?_
          refine Gp_put 1 hm422291 he422309 dr_cX17_zeros_48 (gk_X15 D I) (Nat.le_of_ble_eq_true rfl) wr_9_182 rfl rfl rfl (Nat.le_of_ble_eq_true rfl) (fun F422311 e422312 n422313 => ?_)
          have he422314 : F422311 q422238 = .inr (20, [.int 0, .int g422051, .int p422295, .int p422296, .int p422297, .int p422298, .int p422299]) := e422312
          have n422315 : ∀ b, b ≠ q422238 → F422311 b = F422237 b := fun b hb => (n422313 b hb).trans (n422308 b hb)
          have kp422316 : F422311 q417084 = F417083 q417084 := (n422313 q417084 (rn_ty ht422265 ht422287 (by decide))).trans kp422310
          refine G_aload_n 4 dr_cX17_zeros_51 rfl ?_
          refine G_iconst 0 dr_cX17_zeros_52 (by decide +kernel) ?_
          have hT422317 : RS D I P422236 F422311 γ el := RS_set hT422261 n422315 ht422287 (by decide) ⟨0, g422051, p422295, p422296, p422297, p422298, p422299, he422314, (gB_w (gBl (show Int32.toInt 0 = 0 by decide)) (by decide) (by decide)), bg422051', bp422297, (gB_w bp422298' (by decide) (by decide)), (gB_w bp422299' (by decide) (by decide)), (Or.inl (by decide)), r422301, r422302⟩
          have hs422318 := rSk_put hs422262 hT422317 n422315 ht422287 (by decide) (by decide)
          have hm422319 : q417085 ∈ P422236 := RS_m hT422317 ht422266 (by decide)
          obtain ⟨q422321, q422322, p422323, p422324, he422320, ht422340, ht422325, ht422326, ht422327, ht422328, r422329, r422330, r422331, r422332, r422333, r422334, r422335, r422336, r422337, r422338, r422339⟩ := show rk_9 γ el q417085 (F422311 q417085) from RS_o hT422317 ht422266
          have bp422323 : gB p422323 0 1000000 := ⟨by omega, by omega⟩
          have bp422324 : gB p422324 0 1000000 := ⟨by omega, by omega⟩
          have hf422341 : γ 1 q422321 = f := (show γ 1 q422321 = γ 1 q417085 from ht422326).trans hf422267
          have hf422342 : γ 1 q422322 = f := (show γ 1 q422322 = γ 1 q417085 from ht422328).trans hf422267
          have r422343 : γ 6 (γ 1 q417085) = γ 6 f := by rw [hf422267]
          have r422344 : γ 16 (γ 1 q417085) = γ 16 f := by rw [hf422267]
          have r422345 : p422324.toInt = γ 6 f ∧ p422324.toInt ≤ 40 := by omega
          clear r422335
          have hm422346 : q422321 ∈ P422236 := RS_m hT422317 ht422325 (by decide)
          obtain ⟨⟨p422348, p422349, q422350, he422347, r422351, r422352, r422353, r422355⟩, r422354⟩ := show rk_4 D I γ el F422311 q422321 from RS_o hT422317 ht422325
          have bp422348 := gB_any p422348
          have bp422349 : gB p422349 0 1000000 := ⟨by omega, by omega⟩
          obtain ⟨r422356, r422357, n422364, f422365, r422358, r422359, r422360, r422361, r422362, r422363⟩ := rLC_n r422353 (by omega)
          have hm422366 : q422350 ∈ P422236 := RS_m hT422317 r422356 (by decide)
          obtain ⟨q422367, hx422368⟩ : ∃ x, x = el q422321 (0 : Int32).toInt.toNat := ⟨_, rfl⟩
          have hx422369 : f422365 (0 : Int32).toNatClampNeg = some q422367 := (r422362 _ (show (0 : Int32).toInt.toNat < γ 2 q422321 by first | assumption | omega)).trans (by rw [hx422368])
          have ht422372 : rKd γ q422367 2 := by rw [hx422368]; exact (r422336 _ (by omega)).resolve_right (fun z => absurd z.1 (by omega))
          have ht422373 : rFm γ q422367 q422321 := by rw [hx422368]; exact (r422354 _ (show (0 : Int32).toInt.toNat < γ 2 q422321 by omega)).2.1
          have hm422374 : q422367 ∈ P422236 := RS_m hT422317 ht422372 (by decide)
          obtain ⟨q422376, q422377, p422378, p422379, he422375, ht422386, ht422380, ht422381, ht422382, ht422383, ht422384, bp422378, bp422379, r422385, r422387, r422388⟩ := show rk_2 γ q422367 (F422311 q422367) from RS_o hT422317 ht422372
          refine Gw_callV (As := [.int 0]) (gV_ok D I) (cp_7723_Code_get l hl0 D I P422236 F422311 q417085 q422321 q422350 0 q422322 p422323 p422324 p422348 p422349 f422365 n422364 q422367 q422376 q422377 p422378 p422379 hm422319 hm422346 hm422366 hm422374 he422320 he422347 r422358 he422375 (gB_w (gBl (show Int32.toInt 0 = 0 by decide)) (by decide) (by decide)) (gB_w bp422349 (by decide) (by decide)) (by have qa0 : Int32.toInt 0 = 0 := (by decide); omega) (by have qa0 : Int32.toInt 0 = 0 := (by decide); omega) (by assumption) (by have qa0 : Int32.toInt 0 = 0 := (by decide); omega)) dr_cX17_zeros_53 ⟨wr_10_161, wr_1_15, wr_10_141, by decide, rfl, (Nat.le_of_ble_eq_true rfl), (Nat.le_of_ble_eq_true rfl)⟩ wr_10_139 wr_10_140 hm422319 he422320 rfl (show ((rPh γ el f - rPh γ0 el0 f) / 18) + 0 + 0 ≤ (((387 * B + 6000) - rPh γ0 el0 f) / 18) by first | omega | decide) (show (rPh γ el f - rPh γ0 el0 f) + 0 + 0 ≤ ((387 * B + 6000) - rPh γ0 el0 f) by first | omega | decide) (Nat.le_of_ble_eq_true rfl) (fun r422392 w422393 dc422389 ds422390 hp422391 => ?_) (fun _ _ _ _ _ z => z.elim)
          obtain ⟨rfl, rfl, hdc, hds⟩ := hp422391
          change G _ _ _ _ _ _ _ (.ref q422367 :: _) _ _ _
          refine G_widen (cs' := ((rPh γ el f - rPh γ0 el0 f) / 18) + 0 + 0) (sl' := (rPh γ el f - rPh γ0 el0 f) + 0 + 0) (by omega) (by omega) ?_
          have hf422394 : γ 1 q422367 = f := (show γ 1 q422367 = γ 1 q422321 from ht422373).trans ((show γ 1 q422321 = γ 1 q417085 from ht422326).trans hf422267)
          have hf422395 : γ 1 q422376 = f := (show γ 1 q422376 = γ 1 q422367 from ht422381).trans hf422394
          have hf422396 : γ 1 q422377 = f := (show γ 1 q422377 = γ 1 q422367 from ht422383).trans hf422394
          have r422397 : γ 6 (γ 1 q422367) = γ 6 f := by rw [hf422394]
          have r422398 : γ 7 (γ 1 q422367) = γ 7 f := by rw [hf422394]
          have r422399 : γ 19 (γ 1 q422367) = γ 19 f := by rw [hf422394]
          have r422400 := r422385.resolve_left (by omega)
          clear r422385
          have r422401 : γ 2 (γ 14 q422367) = γ 2 q422376 := by rw [ht422386.1]
          have r422402 : (0 : Int32).toInt.toNat < γ 2 (γ 14 q417085) := by rw [ht422340.1]; omega
          have r422403 : el (γ 14 q417085) (0 : Int32).toInt.toNat = q422367 := by rw [ht422340.1, hx422368]
          have r422404 : q422367 = q422199 := r422403.symm.trans r422275
          have sz422405 : γ 2 (γ 14 q422367) = γ 2 (γ 14 q422199) := by rw [r422404]
          refine Gp_get 0 hm422374 he422375 dr_cX17_zeros_56 (gk_X12 D I) (Nat.le_of_ble_eq_true rfl) wr_9_220 rfl ?_
          refine G_iload_n 2 dr_cX17_zeros_59 rfl ?_
          refine G_aload 0 dr_cX17_zeros_60 rfl ?_
          have rg422406 := rM_ge hT422317 ht422266 hf422267
          have rm422407 := rM_bd hB422286
          have bd422408 := rBd_c hT422317 ht422266 hf422267 hB422286
          have rc422409 := rc_at hT422317 ht422266 hf422267
          have r422411 : γ 14 (el (γ 14 q417085) (0 : Int32).toInt.toNat) = q422376 := by rw [r422403]; exact ht422386.1
          have r422412 := rg422406.2.2 _ r422402
          rw [r422411] at r422412
          have r422413 := bd422408.2.2.2 _ r422402
          rw [r422411] at r422413
          have r422414 : γ 7 (γ 1 q422238) = γ 7 f := by rw [x1422247]
          have hx422415 : rk_1 γ q422238 (F422311 q422238) := ⟨0, g422051, p422295, p422296, p422297, p422298, p422299, he422314, (gB_w (gBl (show Int32.toInt 0 = 0 by decide)) (by decide) (by decide)), bg422051', bp422297, (gB_w bp422298' (by decide) (by decide)), (gB_w bp422299' (by decide) (by decide)), (Or.inl (by decide)), r422301, r422302, (Or.inl ⟨by decide, by decide⟩)⟩
          refine Gt_ins (c := q417085) (f := f) hl0 dr_cX17_zeros_62 ⟨wr_10_207, wr_1_18, wr_10_210, by decide, rfl, (Nat.le_of_ble_eq_true rfl), (Nat.le_of_ble_eq_true rfl)⟩ wr_10_208 wr_10_209 hT422317 ht422380 hf422395 ht422287 x1422247 x22422248 r422288 (by omega) ht422266 hf422267 r422402 r422411 hx422415 (by omega) (by omega) (Nat.le_trans r422413 (Nat.le_trans hBk (by decide))) (rm_cs hph422289 r422412 rm422407 (by decide)) (rm_sl hph422289 r422412 rm422407 rm_s11) (Nat.le_of_ble_eq_true rfl) (fun P422416 F422410 γ el dc422417 ds422418 hq422419 => ?_)
          obtain ⟨hk422420, x0422421, h2422422, hel422423, hot422424, h16422425, h18422426, hnu422427, hFx422428, hr422429, hM422430, hBB422431⟩ := hq422419
          have hk422432 := rSk_of hk422420
          have r422433 : (fI (F422410 q417085) 3).toInt = (fI (F422311 q417085) 3).toInt := by rw [rSk_F hk422432 ht422266 (by decide) (by decide)]
          have hT422434 := hk422432.1
          have hs422435 := rSk_tr hs422318 hk422432 (by decide) (by decide) (by decide)
          have kp422436 : F422410 q417084 = F417083 q417084 := (rSk_F hk422432 ht422265 (by decide) (by decide)).trans kp422316
          have ht422437 : rKd γ q417084 10 := rSk_k hk422432 ht422265 (by decide) (by decide)
          have ht422438 : rKd γ q417085 9 := rSk_k hk422432 ht422266 (by decide) (by decide)
          have hf422439 : γ 1 q417085 = f := rSk_1 hk422432 ht422266 (by decide) hf422267
          have ht422440 : rKd γ q422199 2 := rSk_k hk422432 ht422268 (by decide) (by decide)
          have hf422441 : γ 1 q422199 = f := rSk_1 hk422432 ht422268 (by decide) hf422269
          have ht422442 : rKd γ q422208 3 := rSk_k hk422432 ht422270 (by decide) (by decide)
          have hf422443 : γ 1 q422208 = f := rSk_1 hk422432 ht422270 (by decide) hf422271
          have ht422444 : rKd γ q422367 2 := rSk_k hk422432 ht422372 (by decide) (by decide)
          have hf422445 : γ 1 q422367 = f := rSk_1 hk422432 ht422372 (by decide) hf422394
          have ht422446 : rKd γ q422376 3 := rSk_k hk422432 ht422380 (by decide) (by decide)
          have hf422447 : γ 1 q422376 = f := rSk_1 hk422432 ht422380 (by decide) hf422395
          have r422448 := (rSk_s hk422432 ht422266 (by decide)).2.1
          have r422449 := hot422424 _ (by rw [rc422409.2.1]; decide) (fun q => by rw [q, show _ = 3 from ht422380] at rc422409; exact absurd rc422409.2.1 (by decide))
          have r422450 : (0 : Int32).toInt.toNat < γ 2 (γ 14 q417085) := by rw [r422448, r422449.1]; exact r422274
          have r422451 : el (γ 14 q417085) (0 : Int32).toInt.toNat = q422199 := by rw [r422448, r422449.2]; exact r422275
          have r422452 : (0 : Int32).toInt.toNat < γ 2 (γ 14 q417085) := by rw [r422448, r422449.1]; exact r422402
          have r422453 : el (γ 14 q417085) (0 : Int32).toInt.toNat = q422367 := by rw [r422448, r422449.2]; exact r422403
          clear bp422293 bp422294 bp422297 bp422298 bp422299 bp422295 bp422296 r422329 r422330 r422331 r422332 r422333 r422334 r422336 r422337 r422338 r422339 bp422323 bp422324 bp422378 bp422379 r422387 r422388 rg422406 rm422407 bd422408 rc422409 r422412 r422413
          clear r422300 r422301 r422302
          have r422454 : 0 < γ 6 (γ 1 q417085) := by rw [hf422439]; omega
          first | have sz422455 := (hot422424 q422208 (rT0 ht422270 (by decide)) (by assumption)).1 | skip
          obtain ⟨nu422456, nu422457, nu422458, nu422459⟩ := hnu422427
          have ht422460 : rKd γ q422238 1 := x0422421
          have hB422461 : rBd γ el f B := hBB422431 B hB422286
          have hph422462 : rPh γ0 el0 f ≤ rPh γ el f := rm_ph hph422289 hr422429.2
          have pk422463 : rPh γ el f ≤ 387 * B + 6000 := rm_pk (rM_ge hT422434 ht422438 hf422439).1 (rM_bd hB422461)
          refine G_widen (cs' := ((rPh γ el f - rPh γ0 el0 f) / 18)) (sl' := (rPh γ el f - rPh γ0 el0 f)) (rm_wc hph422289 hr422429.1) (rm_ws hph422289 hr422429.2) ?_
          have r422464 : γ 14 q422367 = q422376 := ((rSk_s (rSk_of hk422420) ht422372 (by decide)).2.1).trans ht422386.1
          have sz422465 : γ 2 (γ 14 q422367) = γ 2 q422376 := by rw [r422464]
          obtain ⟨z422466, hz422466⟩ : ∃ z : Int32, z = g422052 + Int32.ofInt 1 := ⟨_, rfl⟩
          have bz422466 : gB z422466 (-2147483648) 2147483647 := gB_any z422466
          refine G_iinc (L' := [(2, .int z422466), (4, .ref q422238), (3, .int g422051), (0, .ref q417084), (1, .ref q417085)]) z422466 2 dr_cX17_zeros_65 rfl hz422466.symm (Nat.le_of_ble_eq_true rfl) rfl ?_
          obtain ⟨z422467, hz422467⟩ : ∃ z : Int32, z = g422051 + Int32.ofInt 1 := ⟨_, rfl⟩
          have ez422467 : z422467.toInt = g422051.toInt + 1 := gI_inc hz422467 (by decide) bg422051' (by decide) (by decide)
          have bz422467 : gB z422467 1 2000 := ⟨by omega, by omega⟩
          refine G_iinc (L' := [(3, .int z422467), (2, .int z422466), (4, .ref q422238), (0, .ref q417084), (1, .ref q417085)]) z422467 2 dr_cX17_zeros_68 rfl hz422467.symm (Nat.le_of_ble_eq_true rfl) rfl ?_
          refine G_goto 10 dr_cX17_zeros_71 (by decide +kernel) ?_
          refine G_lv (L' := [(3, .int z422467), (2, .int z422466), (0, .ref q417084), (1, .ref q417085)]) [0, 1, 3, 4] rfl ?_
          exact ih10_422065 P422416 F422410 γ el z422467 z422466 (gB_w bz422467 (by decide) (by decide)) hT422434 hs422435 hph422462 hB422461 (by omega) (by omega) (by omega) (by omega) (by omega) (by rw [r422453]; omega) kp422436 (by omega)
  exact hlp10_422065 (((2001 : Int) - 0).toNat + 1) P417082 F417149 γ el 0 0 (gB_w (gBl (show Int32.toInt 0 = 0 by decide)) (by decide) (by decide)) hT417150 hs417152 hph hB (by have qa0 : Int32.toInt 0 = 0 := (by decide); omega) (by have qa0 : Int32.toInt 0 = 0 := (by decide); omega) (by have qa0 : Int32.toInt 0 = 0 := (by decide); omega) (by have qa0 : Int32.toInt 0 = 0 := (by decide); omega) (by have qa0 : Int32.toInt 0 = 0 := (by decide); omega) (by have qa : Int32.toInt 0 = 0 := (by decide); omega) kp417153 (Nat.lt_succ_self _)
