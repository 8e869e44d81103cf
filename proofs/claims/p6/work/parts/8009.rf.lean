theorem dr_cX17_run__0 : decode cX17_run_ 0 = .ok (.aload_n 0, 1) := by decide +kernel
theorem dr_cX17_run__1 : decode cX17_run_ 1 = .ok (.iconst 0, 1) := by decide +kernel
theorem dr_cX17_run__2 : decode cX17_run_ 2 = .ok (.putfield 380, 3) := by decide +kernel
theorem dr_cX17_run__5 : decode cX17_run_ 5 = .ok (.iload_n 2, 1) := by decide +kernel
theorem dr_cX17_run__6 : decode cX17_run_ 6 = .ok (.iconst 1, 1) := by decide +kernel
theorem dr_cX17_run__7 : decode cX17_run_ 7 = .ok (.if_icmp .lt 10, 3) := by decide +kernel
theorem dr_cX17_run__17 : decode cX17_run_ 17 = .ok (.aload_n 0, 1) := by decide +kernel
theorem dr_cX17_run__18 : decode cX17_run_ 18 = .ok (.iconst 1, 1) := by decide +kernel
theorem dr_cX17_run__19 : decode cX17_run_ 19 = .ok (.invokevirtual 385, 3) := by decide +kernel
theorem dr_cX17_run__22 : decode cX17_run_ 22 = .ok (.ireturn, 1) := by decide +kernel
theorem dr_cX17_run__10 : decode cX17_run_ 10 = .ok (.iload_n 2, 1) := by decide +kernel
theorem dr_cX17_run__11 : decode cX17_run_ 11 = .ok (.ldc_w 434, 3) := by decide +kernel
theorem wr_11_91 : (Jvm.Cond.constant "SpillForgeModel" (434 : Nat) (100000 : Int32)) ∈ gw := gw_11 91 rfl rfl
theorem dr_cX17_run__14 : decode cX17_run_ 14 = .ok (.if_icmp .le 9, 3) := by decide +kernel
theorem dr_cX17_run__23 : decode cX17_run_ 23 = .ok (.iload_n 1, 1) := by decide +kernel
theorem dr_cX17_run__24 : decode cX17_run_ 24 = .ok (.ifCond .eq 13, 3) := by decide +kernel
theorem dr_cX17_run__37 : decode cX17_run_ 37 = .ok (.aload_n 0, 1) := by decide +kernel
theorem dr_cX17_run__38 : decode cX17_run_ 38 = .ok (.getfield 414, 3) := by decide +kernel
theorem wr_7_83 : (Jvm.Cond.fieldLink "SpillForgeModel" (414 : Nat) "SpillForgeModel" "program" "Z") ∈ gw := gw_7 83 rfl rfl
theorem dr_cX17_run__41 : decode cX17_run_ 41 = .ok (.ifCond .ne 9, 3) := by decide +kernel
theorem dr_cX17_run__50 : decode cX17_run_ 50 = .ok (.aload_n 0, 1) := by decide +kernel
theorem dr_cX17_run__51 : decode cX17_run_ 51 = .ok (.aload_n 0, 1) := by decide +kernel
theorem dr_cX17_run__52 : decode cX17_run_ 52 = .ok (.iload_n 1, 1) := by decide +kernel
theorem dr_cX17_run__53 : decode cX17_run_ 53 = .ok (.ifCond .eq 10, 3) := by decide +kernel
theorem dr_cX17_run__63 : decode cX17_run_ 63 = .ok (.aload_n 0, 1) := by decide +kernel
theorem dr_cX17_run__64 : decode cX17_run_ 64 = .ok (.getfield 361, 3) := by decide +kernel
theorem wr_7_80 : (Jvm.Cond.fieldLink "SpillForgeModel" (361 : Nat) "SpillForgeModel" "code" "LSpillForgeModel$Code;") ∈ gw := gw_7 80 rfl rfl
theorem dr_cX17_run__67 : decode cX17_run_ 67 = .ok (.iload_n 2, 1) := by decide +kernel
theorem dr_cX17_run__68 : decode cX17_run_ 68 = .ok (.invokevirtual 435, 3) := by decide +kernel
theorem wr_11_92 : (Jvm.Cond.methodLink "SpillForgeModel" (435 : Nat) ({ cls := "SpillForgeModel", name := "run", desc := "(LSpillForgeModel$Code;I)I" } : Jvm.MethodName)) ∈ gw := gw_11 92 rfl rfl
theorem wr_11_95 : (Jvm.Cond.code ({ cls := "SpillForgeModel", name := "run", desc := "(LSpillForgeModel$Code;I)I" } : Jvm.MethodName) prog_14_method_29_code (7 : Nat) (Option.some Jvm.ClassFile.FieldType.int)) ∈ gw := gw_11 95 rfl rfl
theorem wr_11_94 : (Jvm.Cond.instanceMethod ({ cls := "SpillForgeModel", name := "run", desc := "(LSpillForgeModel$Code;I)I" } : Jvm.MethodName)) ∈ gw := gw_11 94 rfl rfl
theorem wr_p_113 : Cond.selects "SpillForgeModel" ⟨"SpillForgeModel", "run", "(LSpillForgeModel$Code;I)I"⟩ ⟨"SpillForgeModel", "run", "(LSpillForgeModel$Code;I)I"⟩ ∈ gw := gw_p _ 113 rfl rfl rfl
theorem dr_cX17_run__71 : decode cX17_run_ 71 = .ok (.putfield 371, 3) := by decide +kernel
theorem dr_cX17_run__74 : decode cX17_run_ 74 = .ok (.aload_n 0, 1) := by decide +kernel
theorem dr_cX17_run__75 : decode cX17_run_ 75 = .ok (.getfield 371, 3) := by decide +kernel
theorem dr_cX17_run__78 : decode cX17_run_ 78 = .ok (.ireturn, 1) := by decide +kernel
theorem dr_cX17_run__44 : decode cX17_run_ 44 = .ok (.aload_n 0, 1) := by decide +kernel
theorem dr_cX17_run__45 : decode cX17_run_ 45 = .ok (.iconst 2, 1) := by decide +kernel
theorem dr_cX17_run__46 : decode cX17_run_ 46 = .ok (.invokevirtual 385, 3) := by decide +kernel
theorem dr_cX17_run__49 : decode cX17_run_ 49 = .ok (.ireturn, 1) := by decide +kernel
theorem dr_cX17_run__27 : decode cX17_run_ 27 = .ok (.aload_n 0, 1) := by decide +kernel
theorem dr_cX17_run__28 : decode cX17_run_ 28 = .ok (.getfield 416, 3) := by decide +kernel
theorem wr_7_84 : (Jvm.Cond.fieldLink "SpillForgeModel" (416 : Nat) "SpillForgeModel" "isGiven" "Z") ∈ gw := gw_7 84 rfl rfl
theorem dr_cX17_run__31 : decode cX17_run_ 31 = .ok (.ifCond .ne 19, 3) := by decide +kernel
theorem dr_cX17_run__56 : decode cX17_run_ 56 = .ok (.aload_n 0, 1) := by decide +kernel
theorem dr_cX17_run__57 : decode cX17_run_ 57 = .ok (.getfield 365, 3) := by decide +kernel
theorem wr_7_81 : (Jvm.Cond.fieldLink "SpillForgeModel" (365 : Nat) "SpillForgeModel" "given" "LSpillForgeModel$Code;") ∈ gw := gw_7 81 rfl rfl
theorem dr_cX17_run__60 : decode cX17_run_ 60 = .ok (.goto 7, 3) := by decide +kernel
theorem dr_cX17_run__34 : decode cX17_run_ 34 = .ok (.goto 10, 3) := by decide +kernel
abbrev ky_582643_SpillForgeModel_run : gKey := (cX17_run, 7, "SpillForgeModel", (some FieldType.int), [], "run", fun _ _ => True)
def pt_582643_SpillForgeModel_run (D : va_G) (I : FieldType → ClassId) (γ el : Nat → Nat → Nat) (P582637 : List Nat) (F582638 : Nat → va_E) (q582639 : Nat) (q582640 : Nat) (p582641 : Int32) : Option Value → va_W → Nat → Nat → Prop := fun r w dc ds => ∃ (F587875 : Nat → va_E) (o587874 : Int32), r = some (.int o587874) ∧ w = va_pl P582637 F587875 ∧ RS D I P582637 F587875 γ el ∧ rStr γ [] F582638 F587875 ∧ dc ≤ 0 ∧ ds ≤ 0 ∧ gB o587874 0 5 ∧ (fI (F587875 q582639) 9).toInt = (fI (F582638 q582639) 9).toInt ∧ (fI (F587875 q582639) 10).toInt = (fI (F582638 q582639) 10).toInt ∧ (fI (F587875 q582639) 32).toInt = (fI (F582638 q582639) 32).toInt
set_option maxRecDepth 100000 in
set_option maxHeartbeats 4000000 in
theorem ct_582643_SpillForgeModel_run (l : Launch) (hl0 : l.stackTraces = false) (D : va_G) (I : FieldType → ClassId) (γ el : Nat → Nat → Nat) (P582637 : List Nat) (F582638 : Nat → va_E) (q582639 : Nat) (q582640 : Nat) (p582641 : Int32) (hT : RS D I P582637 F582638 γ el) (htq582639 : rKd γ q582639 10) (htq582640 : rKd γ q582640 9) (bp582641 : gB p582641 1 100000) (x582642 : 0 < γ 6 (γ 1 q582640)) : CtA (gV D I) l yX17_run cX17_run 7 (some FieldType.int) 4 85 0 0 [.ref q582639, .ref q582640, .int p582641] (va_pl P582637 F582638) (pt_582643_SpillForgeModel_run D I γ el P582637 F582638 q582639 q582640 p582641) gNA := by
  refine CtA_of hl0 (by decide) (Nat.le_of_ble_eq_true rfl) ?_
  have hm582644 : q582639 ∈ P582637 := RS_m hT htq582639 (by decide)
  refine rk10_e (show rk_10 γ (F582638 q582639) from RS_o hT htq582639) (fun q582646 q582647 p582648 p582649 p582650 p582651 p582652 p582653 p582654 p582655 p582656 p582657 p582658 p582659 p582660 p582661 p582662 he582645 hB582689 ht582663 ht582664 ht582665 ht582666 ht582667 ht582668 ht582669 ht582670 ht582671 ht582672 ht582673 ht582674 ht582675 ht582676 ht582677 ht582678 ht582679 ht582680 ht582681 ht582682 ht582683 ht582684 ht582685 ht582686 hB582690 => ?_)
  have ac582691 : (fI (F582638 q582639) 26).toInt = p582657.toInt := by rw [he582645]; rfl
  have bp582657 : gB p582657 0 100000 := (hB582689.2.2.2.2.2.1)
  have ac582692 : (fI (F582638 q582639) 9).toInt = p582648.toInt := by rw [he582645]; rfl
  have bp582648 : gB p582648 0 1 := (hB582689.1)
  have ac582693 : (fI (F582638 q582639) 10).toInt = p582649.toInt := by rw [he582645]; rfl
  have bp582649 : gB p582649 0 1 := (hB582689.2.1)
  have ac582694 : (fI (F582638 q582639) 32).toInt = p582660.toInt := by rw [he582645]; rfl
  have bp582660 : gB p582660 0 8192 := (hB582689.2.2.2.2.2.2.2.1)
  refine G_iconst 0 dr_cX17_run_0 (by decide +kernel) ?_
  refine G_istore_n (L' := [(3, .int 0), (0, .ref q582639), (1, .ref q582640), (2, .int p582641)]) dr_cX17_run_1 (Nat.le_of_ble_eq_true rfl) rfl ?_
  have hlp2_586993 : ∀ (n2_586993 : Nat) (F586988 : Nat → va_E) (g586987 : Int32), gB g586987 0 2000 → RS D I P582637 F586988 γ el → rStr γ [] F582638 F586988 → (fI (F586988 q582639) 9).toInt = (fI (F582638 q582639) 9).toInt → (fI (F586988 q582639) 10).toInt = (fI (F582638 q582639) 10).toInt → (fI (F586988 q582639) 32).toInt = (fI (F582638 q582639) 32).toInt → ((2001 : Int) - g586987.toInt).toNat < n2_586993 → G (gV D I) l (gRm 4 85 0 0) (gMA (gV D I) (pt_582643_SpillForgeModel_run D I γ el P582637 F582638 q582639 q582640 p582641) gNA 0 0) ky_582643_SpillForgeModel_run 2 [(3, .int g586987), (0, .ref q582639), (1, .ref q582640), (2, .int p582641)] [] (va_pl P582637 F586988) 0 0 := by
    intro n2_586993
    induction n2_586993 with
    | zero => intro F586988 g586987 bg586987 hT586989 hs586990 x586991 x586992 x586993 hm2_586993; exact absurd hm2_586993 (Nat.not_lt_zero _)
    | succ n2_586993 ih2_586993 =>
      intro F586988 g586987 bg586987 hT586989 hs586990 x586991 x586992 x586993 hm2_586993
      have hs586995 : rStr γ [] F582638 F586988 := fun b h0 hb hw => (hs586990 b h0 hb hw).trans ((rStr_rf (γ := γ) (W := []) (F := F582638)) b h0 hb hw).symm
      have hs586996 : rStr γ [] F582638 F586988 := rStr_tr (rStr_rf (γ := γ) (W := []) (F := F582638)) hs586995
      have hm586997 : q582639 ∈ P582637 := RS_m hT586989 htq582639 (by decide)
      refine rk10_e (show rk_10 γ (F586988 q582639) from RS_o hT586989 htq582639) (fun q586999 q587000 p587001 p587002 p587003 p587004 p587005 p587006 p587007 p587008 p587009 p587010 p587011 p587012 p587013 p587014 p587015 he586998 hB587042 ht587016 ht587017 ht587018 ht587019 ht587020 ht587021 ht587022 ht587023 ht587024 ht587025 ht587026 ht587027 ht587028 ht587029 ht587030 ht587031 ht587032 ht587033 ht587034 ht587035 ht587036 ht587037 ht587038 ht587039 hB587043 => ?_)
      have ac587044 : (fI (F586988 q582639) 26).toInt = p587010.toInt := by rw [he586998]; rfl
      have bp587010 : gB p587010 0 100000 := (hB587042.2.2.2.2.2.1)
      have ac587045 : (fI (F586988 q582639) 9).toInt = p587001.toInt := by rw [he586998]; rfl
      have bp587001 : gB p587001 0 1 := (hB587042.1)
      have ac587046 : (fI (F586988 q582639) 10).toInt = p587002.toInt := by rw [he586998]; rfl
      have bp587002 : gB p587002 0 1 := (hB587042.2.1)
      have ac587047 : (fI (F586988 q582639) 32).toInt = p587013.toInt := by rw [he586998]; rfl
      have bp587013 : gB p587013 0 8192 := (hB587042.2.2.2.2.2.2.2.1)
      have ac587048 : (fI (F586988 q582639) 26).toInt = p587010.toInt := by rw [he586998]; rfl
      have ac587049 : (fI (F586988 q582639) 9).toInt = p587001.toInt := by rw [he586998]; rfl
      have ac587050 : (fI (F586988 q582639) 10).toInt = p587002.toInt := by rw [he586998]; rfl
      have ac587051 : (fI (F586988 q582639) 32).toInt = p587013.toInt := by rw [he586998]; rfl
      refine G_iload_n 0 dr_cX17_run_2 rfl ?_
      refine G_sipush 2000 dr_cX17_run_3 (by decide +kernel) ?_
      refine G_icmp_ge 29 dr_cX17_run_6 (by decide +kernel) (fun hc587052 => ?_) (fun hc587052 => ?_)
      · have r587053 : 2000 ≤ g586987.toInt := gj_leL hc587052 (show Int32.toInt 2000 = 2000 by decide)
        have bg586987' : gB g586987 2000 2000 := ⟨by omega, by omega⟩
        refine G_aload_n 1 dr_cX17_run_29 rfl ?_
        refine G_iconst 0 dr_cX17_run_30 (by decide +kernel) ?_
        refine Gp_put 24 hm586997 he586998 dr_cX17_run_31 (gk_X17 D I) (Nat.le_of_ble_eq_true rfl) wr_7_98 rfl rfl rfl (Nat.le_of_ble_eq_true rfl) (fun F587054 e587055 n587056 => ?_)
        have he587057 : F587054 q582639 = .inr (22, [.ref (γ 9 0), .ref (γ 9 1), .ref (γ 9 2), .ref (γ 9 3), .ref (γ 9 4), .ref (γ 9 5), .ref (γ 9 6), .ref (γ 9 7), .ref (γ 9 8), .int p587001, .int p587002, .int p587003, .int p587004, .int p587005, .int p587006, .ref (γ 9 15), .ref (γ 9 16), .ref (γ 9 17), .ref (γ 9 18), .ref (γ 9 19), .ref (γ 9 20), .ref (γ 9 21), .ref (γ 9 22), .int p587007, .int 0, .int p587009, .int p587010, .int p587011, .ref q586999, .ref (γ 9 29), .int p587012, .ref (γ 9 31), .int p587013, .int p587014, .int p587015, .ref q587000]) := e587055
        have hs587058 : rStr γ [] F582638 F587054 := rStr_put hs586990 n587056 htq582639 (by decide)
        refine G_aload_n 1 dr_cX17_run_34 rfl ?_
        refine G_iconst 0 dr_cX17_run_35 (by decide +kernel) ?_
        refine Gp_put 25 hm586997 he587057 dr_cX17_run_36 (gk_X17 D I) (Nat.le_of_ble_eq_true rfl) wr_7_99 rfl rfl rfl (Nat.le_of_ble_eq_true rfl) (fun F587059 e587060 n587061 => ?_)
        have he587062 : F587059 q582639 = .inr (22, [.ref (γ 9 0), .ref (γ 9 1), .ref (γ 9 2), .ref (γ 9 3), .ref (γ 9 4), .ref (γ 9 5), .ref (γ 9 6), .ref (γ 9 7), .ref (γ 9 8), .int p587001, .int p587002, .int p587003, .int p587004, .int p587005, .int p587006, .ref (γ 9 15), .ref (γ 9 16), .ref (γ 9 17), .ref (γ 9 18), .ref (γ 9 19), .ref (γ 9 20), .ref (γ 9 21), .ref (γ 9 22), .int p587007, .int 0, .int 0, .int p587010, .int p587011, .ref q586999, .ref (γ 9 29), .int p587012, .ref (γ 9 31), .int p587013, .int p587014, .int p587015, .ref q587000]) := e587060
        have hs587063 : rStr γ [] F582638 F587059 := rStr_put hs587058 n587061 htq582639 (by decide)
        have n587064 : ∀ b, b ≠ q582639 → F587059 b = F586988 b := fun b hb => (n587061 b hb).trans (n587056 b hb)
        refine G_aload_n 1 dr_cX17_run_39 rfl ?_
        refine G_iconst 0 dr_cX17_run_40 (by decide +kernel) ?_
        refine Gp_put 26 hm586997 he587062 dr_cX17_run_41 (gk_X17 D I) (Nat.le_of_ble_eq_true rfl) wr_7_100 rfl rfl rfl (Nat.le_of_ble_eq_true rfl) (fun F587065 e587066 n587067 => ?_)
        have he587068 : F587065 q582639 = .inr (22, [.ref (γ 9 0), .ref (γ 9 1), .ref (γ 9 2), .ref (γ 9 3), .ref (γ 9 4), .ref (γ 9 5), .ref (γ 9 6), .ref (γ 9 7), .ref (γ 9 8), .int p587001, .int p587002, .int p587003, .int p587004, .int p587005, .int p587006, .ref (γ 9 15), .ref (γ 9 16), .ref (γ 9 17), .ref (γ 9 18), .ref (γ 9 19), .ref (γ 9 20), .ref (γ 9 21), .ref (γ 9 22), .int p587007, .int 0, .int 0, .int 0, .int p587011, .ref q586999, .ref (γ 9 29), .int p587012, .ref (γ 9 31), .int p587013, .int p587014, .int p587015, .ref q587000]) := e587066
        have hs587069 : rStr γ [] F582638 F587065 := rStr_put hs587063 n587067 htq582639 (by decide)
        have n587070 : ∀ b, b ≠ q582639 → F587065 b = F586988 b := fun b hb => (n587067 b hb).trans (n587064 b hb)
        refine G_aload_n 1 dr_cX17_run_44 rfl ?_
        refine G_iconst 0 dr_cX17_run_45 (by decide +kernel) ?_
        refine Gp_put 27 hm586997 he587068 dr_cX17_run_46 (gk_X17 D I) (Nat.le_of_ble_eq_true rfl) wr_7_101 rfl rfl rfl (Nat.le_of_ble_eq_true rfl) (fun F587071 e587072 n587073 => ?_)
        have he587074 : F587071 q582639 = .inr (22, [.ref (γ 9 0), .ref (γ 9 1), .ref (γ 9 2), .ref (γ 9 3), .ref (γ 9 4), .ref (γ 9 5), .ref (γ 9 6), .ref (γ 9 7), .ref (γ 9 8), .int p587001, .int p587002, .int p587003, .int p587004, .int p587005, .int p587006, .ref (γ 9 15), .ref (γ 9 16), .ref (γ 9 17), .ref (γ 9 18), .ref (γ 9 19), .ref (γ 9 20), .ref (γ 9 21), .ref (γ 9 22), .int p587007, .int 0, .int 0, .int 0, .int 0, .ref q586999, .ref (γ 9 29), .int p587012, .ref (γ 9 31), .int p587013, .int p587014, .int p587015, .ref q587000]) := e587072
        have hs587075 : rStr γ [] F582638 F587071 := rStr_put hs587069 n587073 htq582639 (by decide)
        have n587076 : ∀ b, b ≠ q582639 → F587071 b = F586988 b := fun b hb => (n587073 b hb).trans (n587070 b hb)
        refine G_iconst 0 dr_cX17_run_49 (by decide +kernel) ?_
        refine G_istore_n (L' := [(3, .int 0), (0, .ref q582639), (1, .ref q582640), (2, .int p582641)]) dr_cX17_run_50 (Nat.le_of_ble_eq_true rfl) rfl ?_
        refine G_iconst 0 dr_cX17_run_51 (by decide +kernel) ?_
        refine G_istore (L' := [(4, .int 0), (3, .int 0), (0, .ref q582639), (1, .ref q582640), (2, .int p582641)]) dr_cX17_run_52 (Nat.le_of_ble_eq_true rfl) rfl ?_
        have hT587077 : RS D I P582637 F587071 γ el := RS_set hT586989 n587076 htq582639 (by decide) ⟨q586999, q587000, p587001, p587002, p587003, p587004, p587005, p587006, p587007, 0, 0, 0, 0, p587012, p587013, p587014, p587015, he587074, ⟨bp587001, bp587002, (hB587042.2.2.1), (hB587042.2.2.2.1), (gB_w (gBl (show Int32.toInt 0 = 0 by decide)) (by decide) (by decide)), (gB_w (gBl (show Int32.toInt 0 = 0 by decide)) (by decide) (by decide)), (gB_w (gBl (show Int32.toInt 0 = 0 by decide)) (by decide) (by decide)), bp587013, (hB587042.2.2.2.2.2.2.2.2)⟩, ht587016, ht587017, ht587018, ht587019, ht587020, ht587021, ht587022, ht587023, ht587024, ht587025, ht587026, ht587027, ht587028, ht587029, ht587030, ht587031, ht587032, ht587033, ht587034, ht587035, ht587036, ht587037, ht587038, ht587039, hB587043⟩
        have hlp54_587430 : ∀ (n54_587430 : Nat) (F587423 : Nat → va_E) (g587421 : Int32) (g587422 : Int32), gB g587421 0 39 → gB g587422 0 1000000 → RS D I P582637 F587423 γ el → rStr γ [] F582638 F587423 → g587421.toInt < γ 6 (γ 1 q582640) → (fI (F587423 q582639) 26).toInt ≤ p582641.toInt → (fI (F587423 q582639) 9).toInt = (fI (F582638 q582639) 9).toInt → (fI (F587423 q582639) 10).toInt = (fI (F582638 q582639) 10).toInt → (fI (F587423 q582639) 32).toInt = (fI (F582638 q582639) 32).toInt → (p582641.toInt - (fI (F587423 q582639) 26).toInt).toNat < n54_587430 → G (gV D I) l (gRm 4 85 0 0) (gMA (gV D I) (pt_582643_SpillForgeModel_run D I γ el P582637 F582638 q582639 q582640 p582641) gNA 0 0) ky_582643_SpillForgeModel_run 54 [(4, .int g587422), (3, .int g587421), (0, .ref q582639), (1, .ref q582640), (2, .int p582641)] [] (va_pl P582637 F587423) 0 0 := by
          intro n54_587430
          induction n54_587430 with
          | zero => intro F587423 g587421 g587422 bg587421 bg587422 hT587424 hs587425 x587426 x587427 x587428 x587429 x587430 hm54_587430; exact absurd hm54_587430 (Nat.not_lt_zero _)
          | succ n54_587430 ih54_587430 =>
            intro F587423 g587421 g587422 bg587421 bg587422 hT587424 hs587425 x587426 x587427 x587428 x587429 x587430 hm54_587430
            have hs587432 : rStr γ [] F587071 F587423 := fun b h0 hb hw => (hs587425 b h0 hb hw).trans (hs587075 b h0 hb hw).symm
            have hs587433 : rStr γ [] F582638 F587423 := rStr_tr hs587075 hs587432
            have hm587434 : q582639 ∈ P582637 := RS_m hT587424 htq582639 (by decide)
            refine rk10_e (show rk_10 γ (F587423 q582639) from RS_o hT587424 htq582639) (fun q587436 q587437 p587438 p587439 p587440 p587441 p587442 p587443 p587444 p587445 p587446 p587447 p587448 p587449 p587450 p587451 p587452 he587435 hB587479 ht587453 ht587454 ht587455 ht587456 ht587457 ht587458 ht587459 ht587460 ht587461 ht587462 ht587463 ht587464 ht587465 ht587466 ht587467 ht587468 ht587469 ht587470 ht587471 ht587472 ht587473 ht587474 ht587475 ht587476 hB587480 => ?_)
            have ac587481 : (fI (F587423 q582639) 26).toInt = p587447.toInt := by rw [he587435]; rfl
            have bp587447 : gB p587447 0 100000 := (hB587479.2.2.2.2.2.1)
            have ac587482 : (fI (F587423 q582639) 9).toInt = p587438.toInt := by rw [he587435]; rfl
            have bp587438 : gB p587438 0 1 := (hB587479.1)
            have ac587483 : (fI (F587423 q582639) 10).toInt = p587439.toInt := by rw [he587435]; rfl
            have bp587439 : gB p587439 0 1 := (hB587479.2.1)
            have ac587484 : (fI (F587423 q582639) 32).toInt = p587450.toInt := by rw [he587435]; rfl
            have bp587450 : gB p587450 0 8192 := (hB587479.2.2.2.2.2.2.2.1)
            have ac587485 : (fI (F587423 q582639) 26).toInt = p587447.toInt := by rw [he587435]; rfl
            have ac587486 : (fI (F587423 q582639) 9).toInt = p587438.toInt := by rw [he587435]; rfl
            have ac587487 : (fI (F587423 q582639) 10).toInt = p587439.toInt := by rw [he587435]; rfl
            have ac587488 : (fI (F587423 q582639) 32).toInt = p587450.toInt := by rw [he587435]; rfl
            refine G_aload_n 3 dr_cX17_run_54 rfl ?_
            refine G_iload_n 1 dr_cX17_run_55 rfl ?_
            have hm587489 : q582640 ∈ P582637 := RS_m hT587424 htq582640 (by decide)
            obtain ⟨q587491, q587492, p587493, p587494, he587490, ht587510, ht587495, ht587496, ht587497, ht587498, r587499, r587500, r587501, r587502, r587503, r587504, r587505, r587506, r587507, r587508, r587509⟩ := show rk_9 γ el q582640 (F587423 q582640) from RS_o hT587424 htq582640
            have bp587493 : gB p587493 0 1000000 := ⟨by omega, by omega⟩
            have bp587494 : gB p587494 0 1000000 := ⟨by omega, by omega⟩
            have hm587511 : q587491 ∈ P582637 := RS_m hT587424 ht587495 (by decide)
            obtain ⟨⟨p587513, p587514, q587515, he587512, r587516, r587517, r587518, r587520⟩, r587519⟩ := show rk_4 D I γ el F587423 q587491 from RS_o hT587424 ht587495
            have bp587513 := gB_any p587513
            have bp587514 : gB p587514 0 1000000 := ⟨by omega, by omega⟩
            obtain ⟨r587521, r587522, n587529, f587530, r587523, r587524, r587525, r587526, r587527, r587528⟩ := rLC_n r587518 (by omega)
            have hm587531 : q587515 ∈ P582637 := RS_m hT587424 r587521 (by decide)
            obtain ⟨q587532, hx587533⟩ : ∃ x, x = el q587491 g587421.toInt.toNat := ⟨_, rfl⟩
            have hx587534 : f587530 g587421.toNatClampNeg = some q587532 := (r587527 _ (show g587421.toInt.toNat < γ 2 q587491 by omega)).trans (by rw [hx587533])
            have ht587537 : rKd γ q587532 2 := by rw [hx587533]; exact (r587506 _ (by omega)).resolve_right (fun z => absurd z.1 (by omega))
            have ht587538 : rFm γ q587532 q587491 := by rw [hx587533]; exact (r587519 _ (show g587421.toInt.toNat < γ 2 q587491 by omega)).2.1
            have hm587539 : q587532 ∈ P582637 := RS_m hT587424 ht587537 (by decide)
            obtain ⟨q587541, q587542, p587543, p587544, he587540, ht587551, ht587545, ht587546, ht587547, ht587548, ht587549, bp587543, bp587544, r587550, r587552, r587553⟩ := show rk_2 γ q587532 (F587423 q587532) from RS_o hT587424 ht587537
            have fm587554 : γ 6 (γ 1 q587532) = γ 6 (γ 1 q582640) := by rw [show γ 1 q587532 = γ 1 q587491 from ht587538, show γ 1 q587491 = γ 1 q582640 from ht587496]
            refine Gw_callV (As := [.int g587421]) (gV_ok D I) (cp_7901_Code_get l hl0 D I P582637 F587423 q582640 q587491 q587515 g587421 q587492 p587493 p587494 p587513 p587514 f587530 n587529 q587532 q587541 q587542 p587543 p587544 hm587489 hm587511 hm587531 hm587539 he587490 he587512 r587523 he587540 (gB_w bg587421 (by decide) (by decide)) (gB_w bp587514 (by decide) (by decide)) (by omega) (by omega) (by assumption) (by omega)) dr_cX17_run_56 ⟨wr_10_161, wr_1_15, wr_10_141, by decide, rfl, (Nat.le_of_ble_eq_true rfl), (Nat.le_of_ble_eq_true rfl)⟩ wr_10_139 wr_10_140 hm587489 he587490 rfl (show 0 + 0 ≤ 0 by first | omega | decide) (show 0 + 0 ≤ 0 by first | omega | decide) (Nat.le_of_ble_eq_true rfl) (fun r587558 w587559 dc587555 ds587556 hp587557 => ?_) (fun _ _ _ _ _ z => z.elim)
            obtain ⟨rfl, rfl, hdc, hds, ht587560⟩ := hp587557
            change G _ _ _ _ _ _ _ (.ref q587532 :: _) _ _ _
            refine G_widen (cs' := 0) (sl' := 0) (by omega) (by omega) ?_
            refine G_astore (L' := [(5, .ref q587532), (4, .int g587422), (3, .int g587421), (0, .ref q582639), (1, .ref q582640), (2, .int p582641)]) dr_cX17_run_59 (Nat.le_of_ble_eq_true rfl) rfl ?_
            refine G_aload_n 3 dr_cX17_run_61 rfl ?_
            refine Gp_get 26 hm587434 he587435 dr_cX17_run_62 (gk_X17 D I) (Nat.le_of_ble_eq_true rfl) wr_7_100 rfl ?_
            refine G_iload_n 5 dr_cX17_run_65 rfl ?_
            refine G_icmp_ne 71 dr_cX17_run_66 (by decide +kernel) (fun hc587561 => ?_) (fun hc587561 => ?_)
            · have r587562 : p587447.toInt ≠ p582641.toInt := gC_ne hc587561
              refine G_aload_n 3 dr_cX17_run_71 rfl ?_
              refine G_dup dr_cX17_run_72 rfl ?_
              refine Gp_get 26 hm587434 he587435 dr_cX17_run_73 (gk_X17 D I) (Nat.le_of_ble_eq_true rfl) wr_7_100 rfl ?_
              refine G_iconst 1 dr_cX17_run_76 (by decide +kernel) ?_
              refine G_iadd dr_cX17_run_77 (G_nam fun z587563 hz587563 => ?_)
              have ez587563 : z587563.toInt = p587447.toInt + 1 := by rw [gI_add hz587563 bp587447 (gBl (show Int32.toInt 1 = 1 by decide)) (by decide) (by decide), show Int32.toInt 1 = 1 from by decide]
              have bz587563 : gB z587563 1 100001 := gB_add (gI_add hz587563 bp587447 (gBl (show Int32.toInt 1 = 1 by decide)) (by decide) (by decide)) bp587447 (gBl (show Int32.toInt 1 = 1 by decide)) (by decide) (by decide)
              refine Gp_put 26 hm587434 he587435 dr_cX17_run_78 (gk_X17 D I) (Nat.le_of_ble_eq_true rfl) wr_7_100 rfl rfl rfl (Nat.le_of_ble_eq_true rfl) (fun F587564 e587565 n587566 => ?_)
              have he587567 : F587564 q582640 = .inr (18, [.ref q587491, .ref q587492, .int p587493, .int p587494]) := (n587566 q582640 (rn_oo he587490 he587435 (by decide))).trans he587490
              have he587568 : F587564 q587491 = .inr (4, [.int p587513, .ref q587515, .int p587514]) := (n587566 q587491 (rn_oo he587512 he587435 (by decide))).trans he587512
              have he587569 : F587564 q587515 = .inl (I (.object "java/lang/Object"), n587529, .inr (.inr (.inr (.inr f587530)))) := (n587566 q587515 (rn_ao r587523 he587435)).trans r587523
              have he587570 : F587564 q587532 = .inr (17, [.ref q587541, .ref q587542, .int p587543, .int p587544]) := (n587566 q587532 (rn_oo he587540 he587435 (by decide))).trans he587540
              have he587571 : F587564 q582639 = .inr (22, [.ref (γ 9 0), .ref (γ 9 1), .ref (γ 9 2), .ref (γ 9 3), .ref (γ 9 4), .ref (γ 9 5), .ref (γ 9 6), .ref (γ 9 7), .ref (γ 9 8), .int p587438, .int p587439, .int p587440, .int p587441, .int p587442, .int p587443, .ref (γ 9 15), .ref (γ 9 16), .ref (γ 9 17), .ref (γ 9 18), .ref (γ 9 19), .ref (γ 9 20), .ref (γ 9 21), .ref (γ 9 22), .int p587444, .int p587445, .int p587446, .int z587563, .int p587448, .ref q587436, .ref (γ 9 29), .int p587449, .ref (γ 9 31), .int p587450, .int p587451, .int p587452, .ref q587437]) := e587565
              have hs587572 : rStr γ [] F582638 F587564 := rStr_put hs587425 n587566 htq582639 (by decide)
              refine G_iload 1 dr_cX17_run_81 rfl ?_
              refine G_aload 0 dr_cX17_run_83 rfl ?_
              refine Gp_get 0 hm587539 he587570 dr_cX17_run_85 (gk_X12 D I) (Nat.le_of_ble_eq_true rfl) wr_9_220 rfl ?_
              have hT587573 : RS D I P582637 F587564 γ el := RS_set hT587424 n587566 htq582639 (by decide) ⟨q587436, q587437, p587438, p587439, p587440, p587441, p587442, p587443, p587444, p587445, p587446, z587563, p587448, p587449, p587450, p587451, p587452, he587571, ⟨bp587438, bp587439, (hB587479.2.2.1), (hB587479.2.2.2.1), (hB587479.2.2.2.2.1), ⟨by omega, by omega⟩, (hB587479.2.2.2.2.2.2.1), bp587450, (hB587479.2.2.2.2.2.2.2.2)⟩, ht587453, ht587454, ht587455, ht587456, ht587457, ht587458, ht587459, ht587460, ht587461, ht587462, ht587463, ht587464, ht587465, ht587466, ht587467, ht587468, ht587469, ht587470, ht587471, ht587472, ht587473, ht587474, ht587475, ht587476, hB587480⟩
              have hm587574 : q587541 ∈ P582637 := RS_m hT587573 ht587545 (by decide)
              obtain ⟨⟨p587576, p587577, q587578, he587575, r587579, r587580, r587581, r587583⟩, r587582⟩ := show rk_3 D I γ el F587564 q587541 from RS_o hT587573 ht587545
              have bp587576 := gB_any p587576
              have bp587577 : gB p587577 0 1000000 := ⟨by omega, by omega⟩
              refine Gw_callV (As := []) (gV_ok D I) (cp_7_ArrayList_size l hl0 D I P582637 F587564 q587541 p587576 q587578 p587577 hm587574 he587575 (gB_w bp587577 (by decide) (by decide))) dr_cX17_run_88 ⟨wr_10_200, wr_1_18, wr_9_160, by decide, rfl, (Nat.le_of_ble_eq_true rfl), (Nat.le_of_ble_eq_true rfl)⟩ wr_9_158 wr_9_159 hm587574 he587575 rfl (show 0 + 0 ≤ 0 by first | omega | decide) (show 0 + 0 ≤ 0 by first | omega | decide) (Nat.le_of_ble_eq_true rfl) (fun r587587 w587588 dc587584 ds587585 hp587586 => ?_) (fun _ _ _ _ _ z => z.elim)
              obtain ⟨rfl, rfl, hdc, hds⟩ := hp587586
              change G _ _ _ _ _ _ _ (.int p587577 :: _) _ _ _
              refine G_widen (cs' := 0) (sl' := 0) (by omega) (by omega) ?_
              refine G_icmp_ge 127 dr_cX17_run_91 (by decide +kernel) (fun hc587589 => ?_) (fun hc587589 => ?_)
              · have r587590 : p587577.toInt ≤ g587422.toInt := gC_le hc587589
                refine G_aload 0 dr_cX17_run_127 rfl ?_
                refine Gp_get 1 hm587539 he587570 dr_cX17_run_129 (gk_X12 D I) (Nat.le_of_ble_eq_true rfl) wr_9_223 rfl ?_
                refine G_astore (L' := [(6, .ref q587542), (5, .ref q587532), (4, .int g587422), (3, .int g587421), (0, .ref q582639), (1, .ref q582640), (2, .int p582641)]) dr_cX17_run_132 (Nat.le_of_ble_eq_true rfl) rfl ?_
                refine G_aload 0 dr_cX17_run_134 rfl ?_
                have hm587591 : q587542 ∈ P582637 := RS_m hT587573 ht587547 (by decide)
                obtain ⟨p587593, p587594, p587595, p587596, p587597, p587598, p587599, he587592, bp587593, bp587594, bp587597, bp587598, bp587599, r587600, r587601, r587602, r587603, r587604⟩ := show rk_1 γ q587542 (F587564 q587542) from RS_o hT587573 ht587547
                have bp587595 := gB_any p587595
                have bp587596 := gB_any p587596
                refine Gp_get 0 hm587591 he587592 dr_cX17_run_136 (gk_X15 D I) (Nat.le_of_ble_eq_true rfl) wr_9_177 rfl ?_
                refine G_bipush 32 dr_cX17_run_139 (by decide +kernel) ?_
                refine G_icmp_ne 164 dr_cX17_run_141 (by decide +kernel) (fun hc587605 => ?_) (fun hc587605 => ?_)
                · have r587606 : p587593.toInt ≠ 32 := gj_neq hc587605 (show Int32.toInt 32 = 32 by decide)
                  have bp587593' : gB p587593 0 31 := ⟨by omega, by omega⟩
                  refine G_aload 0 dr_cX17_run_164 rfl ?_
                  refine Gp_get 0 hm587591 he587592 dr_cX17_run_166 (gk_X15 D I) (Nat.le_of_ble_eq_true rfl) wr_9_177 rfl ?_
                  refine G_bipush 30 dr_cX17_run_169 (by decide +kernel) ?_
                  refine G_icmp_eq 191 dr_cX17_run_171 (by decide +kernel) (fun hc587607 => ?_) (fun hc587607 => ?_)
                  · have r587608 : p587593.toInt = 30 := gj_eq hc587607 (show Int32.toInt 30 = 30 by decide)
                    have bp587593'' : gB p587593 30 30 := ⟨by omega, by omega⟩
                    refine G_aload 1 dr_cX17_run_191 rfl ?_
                    refine Gp_get 2 hm587539 he587570 dr_cX17_run_193 (gk_X12 D I) (Nat.le_of_ble_eq_true rfl) wr_9_229 rfl ?_
                    refine G_goto 204 dr_cX17_run_196 (by decide +kernel) ?_
                    refine G_istore_n (L' := [(3, .int p587543), (6, .ref q587542), (5, .ref q587532), (4, .int g587422), (0, .ref q582639), (1, .ref q582640), (2, .int p582641)]) dr_cX17_run_204 (Nat.le_of_ble_eq_true rfl) rfl ?_
                    refine G_iconst 0 dr_cX17_run_205 (by decide +kernel) ?_
                    refine G_istore (L' := [(4, .int 0), (3, .int p587543), (6, .ref q587542), (5, .ref q587532), (0, .ref q582639), (1, .ref q582640), (2, .int p582641)]) dr_cX17_run_206 (Nat.le_of_ble_eq_true rfl) rfl ?_
                    refine G_goto 54 dr_cX17_run_208 (by decide +kernel) ?_
                    refine G_lv (L' := [(4, .int 0), (3, .int p587543), (0, .ref q582639), (1, .ref q582640), (2, .int p582641)]) [0, 1, 4, 5, 6] rfl ?_
                    have ac587609 : (fI (F587564 q582639) 26).toInt = z587563.toInt := by rw [he587571]; rfl
                    have ac587610 : (fI (F587564 q582639) 9).toInt = p587438.toInt := by rw [he587571]; rfl
                    have ac587611 : (fI (F587564 q582639) 10).toInt = p587439.toInt := by rw [he587571]; rfl
                    have ac587612 : (fI (F587564 q582639) 32).toInt = p587450.toInt := by rw [he587571]; rfl
                    exact ih54_587430 F587564 p587543 0 bp587543 (gB_w (gBl (show Int32.toInt 0 = 0 by decide)) (by decide) (by decide)) hT587573 hs587572 (by have qa0 : Int32.toInt 0 = 0 := (by decide); omega) (by omega) (by omega) (by omega) (by omega) (by have qa0 : Int32.toInt 0 = 0 := (by decide); omega)
                  · have r587613 : p587593.toInt ≠ 30 := gj_neq hc587607 (show Int32.toInt 30 = 30 by decide)
                    refine G_aload_n 4 dr_cX17_run_174 rfl ?_
                    refine G_aload 0 dr_cX17_run_175 rfl ?_
                    refine Gp_get 5 hm587591 he587592 dr_cX17_run_177 (gk_X15 D I) (Nat.le_of_ble_eq_true rfl) wr_9_197 rfl ?_
                    refine G_aload 0 dr_cX17_run_180 rfl ?_
                    refine Gp_get 2 hm587591 he587592 dr_cX17_run_182 (gk_X15 D I) (Nat.le_of_ble_eq_true rfl) wr_9_186 rfl ?_
                    refine Gw_callV (As := [.int p587598, .int p587595]) (gV_ok D I) (ct_7532_SpillForgeModel_value l hl0 D I γ el P582637 F587564 q582639 p587598 p587595 hT587573 htq582639 bp587598 (by omega)) dr_cX17_run_185 ⟨wr_11_100, wr_1_14, wr_11_103, by decide, rfl, (Nat.le_of_ble_eq_true rfl), (Nat.le_of_ble_eq_true rfl)⟩ wr_11_102 wr_p_115 hm587434 he587571 rfl (show 0 + 0 ≤ 0 by first | omega | decide) (show 0 + 0 ≤ 0 by first | omega | decide) (Nat.le_of_ble_eq_true rfl) (fun r587617 w587618 dc587614 ds587615 hp587616 => ?_) (fun _ _ _ _ _ z => z.elim)
                    obtain ⟨o587619, rfl, rfl, hdc, hds, ht587620⟩ := hp587616
                    have bo587619 := gB_any o587619
                    change G _ _ _ _ _ _ _ (.int o587619 :: _) _ _ _
                    refine G_widen (cs' := 0) (sl' := 0) (by omega) (by omega) ?_
                    refine G_if_eq 199 dr_cX17_run_188 (by decide +kernel) (fun hc587621 => ?_) (fun hc587621 => ?_)
                    · have r587622 : o587619.toInt = 0 := gj_eq hc587621 (show Int32.toInt 0 = 0 by decide)
                      have bo587619' : gB o587619 0 0 := ⟨by omega, by omega⟩
                      refine G_aload 1 dr_cX17_run_199 rfl ?_
                      refine Gp_get 3 hm587539 he587570 dr_cX17_run_201 (gk_X12 D I) (Nat.le_of_ble_eq_true rfl) wr_9_233 rfl ?_
                      refine G_istore_n (L' := [(3, .int p587544), (6, .ref q587542), (5, .ref q587532), (4, .int g587422), (0, .ref q582639), (1, .ref q582640), (2, .int p582641)]) dr_cX17_run_204 (Nat.le_of_ble_eq_true rfl) rfl ?_
                      refine G_iconst 0 dr_cX17_run_205 (by decide +kernel) ?_
                      refine G_istore (L' := [(4, .int 0), (3, .int p587544), (6, .ref q587542), (5, .ref q587532), (0, .ref q582639), (1, .ref q582640), (2, .int p582641)]) dr_cX17_run_206 (Nat.le_of_ble_eq_true rfl) rfl ?_
                      refine G_goto 54 dr_cX17_run_208 (by decide +kernel) ?_
                      refine G_lv (L' := [(4, .int 0), (3, .int p587544), (0, .ref q582639), (1, .ref q582640), (2, .int p582641)]) [0, 1, 4, 5, 6] rfl ?_
                      have ac587623 : (fI (F587564 q582639) 26).toInt = z587563.toInt := by rw [he587571]; rfl
                      have ac587624 : (fI (F587564 q582639) 9).toInt = p587438.toInt := by rw [he587571]; rfl
                      have ac587625 : (fI (F587564 q582639) 10).toInt = p587439.toInt := by rw [he587571]; rfl
                      have ac587626 : (fI (F587564 q582639) 32).toInt = p587450.toInt := by rw [he587571]; rfl
                      exact ih54_587430 F587564 p587544 0 bp587544 (gB_w (gBl (show Int32.toInt 0 = 0 by decide)) (by decide) (by decide)) hT587573 hs587572 (by have qa0 : Int32.toInt 0 = 0 := (by decide); omega) (by omega) (by omega) (by omega) (by omega) (by have qa0 : Int32.toInt 0 = 0 := (by decide); omega)
                    · have r587627 : o587619.toInt ≠ 0 := gj_neq hc587621 (show Int32.toInt 0 = 0 by decide)
                      refine G_aload 1 dr_cX17_run_191 rfl ?_
                      refine Gp_get 2 hm587539 he587570 dr_cX17_run_193 (gk_X12 D I) (Nat.le_of_ble_eq_true rfl) wr_9_229 rfl ?_
                      refine G_goto 204 dr_cX17_run_196 (by decide +kernel) ?_
                      refine G_istore_n (L' := [(3, .int p587543), (6, .ref q587542), (5, .ref q587532), (4, .int g587422), (0, .ref q582639), (1, .ref q582640), (2, .int p582641)]) dr_cX17_run_204 (Nat.le_of_ble_eq_true rfl) rfl ?_
                      refine G_iconst 0 dr_cX17_run_205 (by decide +kernel) ?_
                      refine G_istore (L' := [(4, .int 0), (3, .int p587543), (6, .ref q587542), (5, .ref q587532), (0, .ref q582639), (1, .ref q582640), (2, .int p582641)]) dr_cX17_run_206 (Nat.le_of_ble_eq_true rfl) rfl ?_
                      refine G_goto 54 dr_cX17_run_208 (by decide +kernel) ?_
                      refine G_lv (L' := [(4, .int 0), (3, .int p587543), (0, .ref q582639), (1, .ref q582640), (2, .int p582641)]) [0, 1, 4, 5, 6] rfl ?_
                      have ac587628 : (fI (F587564 q582639) 26).toInt = z587563.toInt := by rw [he587571]; rfl
                      have ac587629 : (fI (F587564 q582639) 9).toInt = p587438.toInt := by rw [he587571]; rfl
                      have ac587630 : (fI (F587564 q582639) 10).toInt = p587439.toInt := by rw [he587571]; rfl
                      have ac587631 : (fI (F587564 q582639) 32).toInt = p587450.toInt := by rw [he587571]; rfl
                      exact ih54_587430 F587564 p587543 0 bp587543 (gB_w (gBl (show Int32.toInt 0 = 0 by decide)) (by decide) (by decide)) hT587573 hs587572 (by have qa0 : Int32.toInt 0 = 0 := (by decide); omega) (by omega) (by omega) (by omega) (by omega) (by have qa0 : Int32.toInt 0 = 0 := (by decide); omega)
                · have r587632 : p587593.toInt = 32 := gj_eq hc587605 (show Int32.toInt 32 = 32 by decide)
                  have bp587593' : gB p587593 32 32 := ⟨by omega, by omega⟩
                  refine G_aload_n 4 dr_cX17_run_144 rfl ?_
                  refine G_aload_n 4 dr_cX17_run_145 rfl ?_
                  refine G_aload 0 dr_cX17_run_146 rfl ?_
                  refine Gp_get 5 hm587591 he587592 dr_cX17_run_148 (gk_X15 D I) (Nat.le_of_ble_eq_true rfl) wr_9_197 rfl ?_
                  refine G_aload 0 dr_cX17_run_151 rfl ?_
                  refine Gp_get 2 hm587591 he587592 dr_cX17_run_153 (gk_X15 D I) (Nat.le_of_ble_eq_true rfl) wr_9_186 rfl ?_
                  refine Gw_callV (As := [.int p587598, .int p587595]) (gV_ok D I) (ct_7532_SpillForgeModel_value l hl0 D I γ el P582637 F587564 q582639 p587598 p587595 hT587573 htq582639 bp587598 (by omega)) dr_cX17_run_156 ⟨wr_11_100, wr_1_14, wr_11_103, by decide, rfl, (Nat.le_of_ble_eq_true rfl), (Nat.le_of_ble_eq_true rfl)⟩ wr_11_102 wr_p_115 hm587434 he587571 rfl (show 0 + 0 ≤ 0 by first | omega | decide) (show 0 + 0 ≤ 0 by first | omega | decide) (Nat.le_of_ble_eq_true rfl) (fun r587636 w587637 dc587633 ds587634 hp587635 => ?_) (fun _ _ _ _ _ z => z.elim)
                  obtain ⟨o587638, rfl, rfl, hdc, hds, ht587639⟩ := hp587635
                  have bo587638 := gB_any o587638
                  change G _ _ _ _ _ _ _ (.int o587638 :: _) _ _ _
                  refine G_widen (cs' := 0) (sl' := 0) (by omega) (by omega) ?_
                  refine Gp_put 24 hm587434 he587571 dr_cX17_run_159 (gk_X17 D I) (Nat.le_of_ble_eq_true rfl) wr_7_98 rfl rfl rfl (Nat.le_of_ble_eq_true rfl) (fun F587640 e587641 n587642 => ?_)
                  have he587643 : F587640 q582640 = .inr (18, [.ref q587491, .ref q587492, .int p587493, .int p587494]) := (n587642 q582640 (rn_oo he587567 he587571 (by decide))).trans he587567
                  have he587644 : F587640 q587491 = .inr (4, [.int p587513, .ref q587515, .int p587514]) := (n587642 q587491 (rn_oo he587568 he587571 (by decide))).trans he587568
                  have he587645 : F587640 q587515 = .inl (I (.object "java/lang/Object"), n587529, .inr (.inr (.inr (.inr f587530)))) := (n587642 q587515 (rn_ao he587569 he587571)).trans he587569
                  have he587646 : F587640 q587532 = .inr (17, [.ref q587541, .ref q587542, .int p587543, .int p587544]) := (n587642 q587532 (rn_oo he587570 he587571 (by decide))).trans he587570
                  have he587647 : F587640 q587541 = .inr (4, [.int p587576, .ref q587578, .int p587577]) := (n587642 q587541 (rn_oo he587575 he587571 (by decide))).trans he587575
                  have he587648 : F587640 q587542 = .inr (20, [.int p587593, .int p587594, .int p587595, .int p587596, .int p587597, .int p587598, .int p587599]) := (n587642 q587542 (rn_oo he587592 he587571 (by decide))).trans he587592
                  have he587649 : F587640 q582639 = .inr (22, [.ref (γ 9 0), .ref (γ 9 1), .ref (γ 9 2), .ref (γ 9 3), .ref (γ 9 4), .ref (γ 9 5), .ref (γ 9 6), .ref (γ 9 7), .ref (γ 9 8), .int p587438, .int p587439, .int p587440, .int p587441, .int p587442, .int p587443, .ref (γ 9 15), .ref (γ 9 16), .ref (γ 9 17), .ref (γ 9 18), .ref (γ 9 19), .ref (γ 9 20), .ref (γ 9 21), .ref (γ 9 22), .int p587444, .int o587638, .int p587446, .int z587563, .int p587448, .ref q587436, .ref (γ 9 29), .int p587449, .ref (γ 9 31), .int p587450, .int p587451, .int p587452, .ref q587437]) := e587641
                  have hs587650 : rStr γ [] F582638 F587640 := rStr_put hs587572 n587642 htq582639 (by decide)
                  refine G_iconst 0 dr_cX17_run_162 (by decide +kernel) ?_
                  have hT587651 : RS D I P582637 F587640 γ el := RS_set hT587573 n587642 htq582639 (by decide) ⟨q587436, q587437, p587438, p587439, p587440, p587441, p587442, p587443, p587444, o587638, p587446, z587563, p587448, p587449, p587450, p587451, p587452, he587649, ⟨bp587438, bp587439, (hB587479.2.2.1), (hB587479.2.2.2.1), (hB587479.2.2.2.2.1), ⟨by omega, by omega⟩, (hB587479.2.2.2.2.2.2.1), bp587450, (hB587479.2.2.2.2.2.2.2.2)⟩, ht587453, ht587454, ht587455, ht587456, ht587457, ht587458, ht587459, ht587460, ht587461, ht587462, ht587463, ht587464, ht587465, ht587466, ht587467, ht587468, ht587469, ht587470, ht587471, ht587472, ht587473, ht587474, ht587475, ht587476, hB587480⟩
                  have ac587652 : (fI (F587640 q582639) 26).toInt = z587563.toInt := by rw [he587649]; rfl
                  have ac587653 : (fI (F587640 q582639) 9).toInt = p587438.toInt := by rw [he587649]; rfl
                  have ac587654 : (fI (F587640 q582639) 10).toInt = p587439.toInt := by rw [he587649]; rfl
                  have ac587655 : (fI (F587640 q582639) 32).toInt = p587450.toInt := by rw [he587649]; rfl
                  exact G_iretA dr_cX17_run_163 rfl (Nat.le_of_ble_eq_true rfl) (Nat.le_of_ble_eq_true rfl) ⟨F587640, 0, rfl, rfl, hT587651, hs587650, (Nat.le_of_ble_eq_true rfl), (Nat.le_of_ble_eq_true rfl), (gB_w (gBl (show Int32.toInt 0 = 0 by decide)) (by decide) (by decide)), (by have qa0 : Int32.toInt 0 = 0 := (by decide); omega), (by have qa0 : Int32.toInt 0 = 0 := (by decide); omega), (by have qa0 : Int32.toInt 0 = 0 := (by decide); omega)⟩
              · have r587656 : g587422.toInt < p587577.toInt := gC_nle hc587589
                have bg587422' : gB g587422 0 999999 := ⟨by omega, by omega⟩
                have bp587577' : gB p587577 1 1000000 := ⟨by omega, by omega⟩
                refine G_aload_n 3 dr_cX17_run_94 rfl ?_
                refine G_aload 0 dr_cX17_run_95 rfl ?_
                refine Gp_get 0 hm587539 he587570 dr_cX17_run_97 (gk_X12 D I) (Nat.le_of_ble_eq_true rfl) wr_9_220 rfl ?_
                refine G_iload 1 dr_cX17_run_100 rfl ?_
                obtain ⟨r587657, r587658, n587665, f587666, r587659, r587660, r587661, r587662, r587663, r587664⟩ := rLC_n r587581 (by omega)
                have hm587667 : q587578 ∈ P582637 := RS_m hT587573 r587657 (by decide)
                obtain ⟨q587668, hx587669⟩ : ∃ x, x = el q587541 g587422.toInt.toNat := ⟨_, rfl⟩
                have hx587670 : f587666 g587422.toNatClampNeg = some q587668 := (r587663 _ (show g587422.toInt.toNat < γ 2 q587541 by omega)).trans (by rw [hx587669])
                have ht587671 : rKd γ q587668 1 := by rw [hx587669]; exact (r587582 _ (show g587422.toInt.toNat < γ 2 q587541 by omega)).1
                have ht587672 : rFm γ q587668 q587541 := by rw [hx587669]; exact (r587582 _ (show g587422.toInt.toNat < γ 2 q587541 by omega)).2.1
                refine Gw_callV (As := [.int g587422]) (gV_ok D I) (cp_22_ArrayList_get l hl0 D I P582637 F587564 q587541 q587578 g587422 p587576 p587577 f587666 n587665 q587668 hm587574 hm587667 he587575 r587659 (gB_w bg587422' (by decide) (by decide)) (gB_w bp587577' (by decide) (by decide)) (by omega) (by omega) (by assumption) (by omega)) dr_cX17_run_102 ⟨wr_10_201, wr_1_18, wr_10_65, by decide, rfl, (Nat.le_of_ble_eq_true rfl), (Nat.le_of_ble_eq_true rfl)⟩ wr_10_63 wr_10_64 hm587574 he587575 rfl (show 0 + 0 ≤ 0 by first | omega | decide) (show 0 + 0 ≤ 0 by first | omega | decide) (Nat.le_of_ble_eq_true rfl) (fun r587676 w587677 dc587673 ds587674 hp587675 => ?_) (fun _ _ _ _ _ z => z.elim)
                obtain ⟨rfl, rfl, hdc, hds, ht587678⟩ := hp587675
                change G _ _ _ _ _ _ _ (.ref q587668 :: _) _ _ _
                refine G_widen (cs' := 0) (sl' := 0) (by omega) (by omega) ?_
                have hm587679 : q587668 ∈ P582637 := RS_m hT587573 ht587671 (by decide)
                obtain ⟨p587681, p587682, p587683, p587684, p587685, p587686, p587687, he587680, bp587681, bp587682, bp587685, bp587686, bp587687, r587688, r587689, r587690, r587691, r587692⟩ := show rk_1 γ q587668 (F587564 q587668) from RS_o hT587573 ht587671
                have bp587683 := gB_any p587683
                have bp587684 := gB_any p587684
                refine Gp_cast hm587679 he587680 rfl dr_cX17_run_105 wr_10_202 (gr_cast 1 rfl) ?_
                have ac587693 : (fI (F587564 q582639) 26).toInt = z587563.toInt := by rw [he587571]; rfl
                have ac587694 : (fI (F587564 q582639) 9).toInt = p587438.toInt := by rw [he587571]; rfl
                have ac587695 : (fI (F587564 q582639) 10).toInt = p587439.toInt := by rw [he587571]; rfl
                have ac587696 : (fI (F587564 q582639) 32).toInt = p587450.toInt := by rw [he587571]; rfl
                refine Gw_callV (As := [.ref q587668]) (gV_ok D I) (ct_583423_SpillForgeModel_step l hl0 D I γ el P582637 F587564 q582639 q587668 hT587573 htq582639 ht587671) dr_cX17_run_108 ⟨wr_11_96, wr_1_14, wr_11_99, by decide, rfl, (Nat.le_of_ble_eq_true rfl), (Nat.le_of_ble_eq_true rfl)⟩ wr_11_98 wr_p_114 hm587434 he587571 rfl (show 0 + 0 ≤ 0 by first | omega | decide) (show 0 + 0 ≤ 0 by first | omega | decide) (Nat.le_of_ble_eq_true rfl) (fun r587700 w587701 dc587697 ds587698 hp587699 => ?_) (fun _ _ _ _ _ z => z.elim)
                obtain ⟨F587707, o587702, rfl, rfl, hT587708, hs587709, hdc, hds, bo587702, x587703, x587704, x587705, x587706⟩ := hp587699
                have he587710 : F587707 q582640 = .inr (18, [.ref q587491, .ref q587492, .int p587493, .int p587494]) := (hs587709 q582640 (rT0 htq582640 (by decide)) (rT1 htq582640 (by decide)) (rT2 htq582640 (by decide))).trans he587567
                have he587711 : F587707 q587491 = .inr (4, [.int p587513, .ref q587515, .int p587514]) := (hs587709 q587491 (rT0 ht587495 (by decide)) (rT1 ht587495 (by decide)) (rT2 ht587495 (by decide))).trans he587568
                have he587712 : F587707 q587515 = .inl (I (.object "java/lang/Object"), n587529, .inr (.inr (.inr (.inr f587530)))) := (hs587709 q587515 (rT0 r587521 (by decide)) (rT1 r587521 (by decide)) (rT2 r587521 (by decide))).trans he587569
                have he587713 : F587707 q587532 = .inr (17, [.ref q587541, .ref q587542, .int p587543, .int p587544]) := (hs587709 q587532 (rT0 ht587537 (by decide)) (rT1 ht587537 (by decide)) (rT2 ht587537 (by decide))).trans he587570
                have he587714 : F587707 q587541 = .inr (4, [.int p587576, .ref q587578, .int p587577]) := (hs587709 q587541 (rT0 ht587545 (by decide)) (rT1 ht587545 (by decide)) (rT2 ht587545 (by decide))).trans he587575
                have he587715 : F587707 q587578 = .inl (I (.object "java/lang/Object"), n587665, .inr (.inr (.inr (.inr f587666)))) := (hs587709 q587578 (rT0 r587657 (by decide)) (rT1 r587657 (by decide)) (rT2 r587657 (by decide))).trans r587659
                have he587716 : F587707 q587668 = .inr (20, [.int p587681, .int p587682, .int p587683, .int p587684, .int p587685, .int p587686, .int p587687]) := (hs587709 q587668 (rT0 ht587671 (by decide)) (rT1 ht587671 (by decide)) (rT2 ht587671 (by decide))).trans he587680
                have hs587717 : rStr γ [] F582638 F587707 := rStr_tr hs587572 hs587709
                change G _ _ _ _ _ _ _ (.int o587702 :: _) _ _ _
                refine G_widen (cs' := 0) (sl' := 0) (by omega) (by omega) ?_
                refine G_istore (L' := [(6, .int o587702), (5, .ref q587532), (4, .int g587422), (3, .int g587421), (0, .ref q582639), (1, .ref q582640), (2, .int p582641)]) dr_cX17_run_111 (Nat.le_of_ble_eq_true rfl) rfl ?_
                refine G_iload 0 dr_cX17_run_113 rfl ?_
                refine G_if_lt 121 dr_cX17_run_115 (by decide +kernel) (fun hc587718 => ?_) (fun hc587718 => ?_)
                · have r587719 : o587702.toInt < 0 := gj_lt hc587718 (show Int32.toInt 0 = 0 by decide)
                  have bo587702' : gB o587702 (-1) (-1) := ⟨by omega, by omega⟩
                  obtain ⟨z587720, hz587720⟩ : ∃ z : Int32, z = g587422 + Int32.ofInt 1 := ⟨_, rfl⟩
                  have ez587720 : z587720.toInt = g587422.toInt + 1 := gI_inc hz587720 (by decide) bg587422' (by decide) (by decide)
                  have bz587720 : gB z587720 1 1000000 := ⟨by omega, by omega⟩
                  refine G_iinc (L' := [(4, .int z587720), (6, .int o587702), (5, .ref q587532), (3, .int g587421), (0, .ref q582639), (1, .ref q582640), (2, .int p582641)]) z587720 2 dr_cX17_run_121 rfl hz587720.symm (Nat.le_of_ble_eq_true rfl) rfl ?_
                  refine G_goto 54 dr_cX17_run_124 (by decide +kernel) ?_
                  refine G_lv (L' := [(4, .int z587720), (3, .int g587421), (0, .ref q582639), (1, .ref q582640), (2, .int p582641)]) [0, 3, 4, 5, 6] rfl ?_
                  have hm587721 : q582639 ∈ P582637 := RS_m hT587708 htq582639 (by decide)
                  refine rk10_e (show rk_10 γ (F587707 q582639) from RS_o hT587708 htq582639) (fun q587723 q587724 p587725 p587726 p587727 p587728 p587729 p587730 p587731 p587732 p587733 p587734 p587735 p587736 p587737 p587738 p587739 he587722 hB587766 ht587740 ht587741 ht587742 ht587743 ht587744 ht587745 ht587746 ht587747 ht587748 ht587749 ht587750 ht587751 ht587752 ht587753 ht587754 ht587755 ht587756 ht587757 ht587758 ht587759 ht587760 ht587761 ht587762 ht587763 hB587767 => ?_)
                  have ac587768 : (fI (F587707 q582639) 26).toInt = p587734.toInt := by rw [he587722]; rfl
                  have bp587734 : gB p587734 0 100000 := (hB587766.2.2.2.2.2.1)
                  have ac587769 : (fI (F587707 q582639) 9).toInt = p587725.toInt := by rw [he587722]; rfl
                  have bp587725 : gB p587725 0 1 := (hB587766.1)
                  have ac587770 : (fI (F587707 q582639) 10).toInt = p587726.toInt := by rw [he587722]; rfl
                  have bp587726 : gB p587726 0 1 := (hB587766.2.1)
                  have ac587771 : (fI (F587707 q582639) 32).toInt = p587737.toInt := by rw [he587722]; rfl
                  have bp587737 : gB p587737 0 8192 := (hB587766.2.2.2.2.2.2.2.1)
                  have ac587772 : (fI (F587707 q582639) 26).toInt = p587734.toInt := by rw [he587722]; rfl
                  have ac587773 : (fI (F587707 q582639) 9).toInt = p587725.toInt := by rw [he587722]; rfl
                  have ac587774 : (fI (F587707 q582639) 10).toInt = p587726.toInt := by rw [he587722]; rfl
                  have ac587775 : (fI (F587707 q582639) 32).toInt = p587737.toInt := by rw [he587722]; rfl
                  exact ih54_587430 F587707 g587421 z587720 bg587421 (gB_w bz587720 (by decide) (by decide)) hT587708 hs587717 (by omega) (by omega) (by omega) (by omega) (by omega) (by omega)
                · have r587776 : 0 ≤ o587702.toInt := gj_nlt hc587718 (show Int32.toInt 0 = 0 by decide)
                  have bo587702' : gB o587702 0 5 := ⟨by omega, by omega⟩
                  refine G_iload 0 dr_cX17_run_118 rfl ?_
                  have hm587777 : q582639 ∈ P582637 := RS_m hT587708 htq582639 (by decide)
                  refine rk10_e (show rk_10 γ (F587707 q582639) from RS_o hT587708 htq582639) (fun q587779 q587780 p587781 p587782 p587783 p587784 p587785 p587786 p587787 p587788 p587789 p587790 p587791 p587792 p587793 p587794 p587795 he587778 hB587822 ht587796 ht587797 ht587798 ht587799 ht587800 ht587801 ht587802 ht587803 ht587804 ht587805 ht587806 ht587807 ht587808 ht587809 ht587810 ht587811 ht587812 ht587813 ht587814 ht587815 ht587816 ht587817 ht587818 ht587819 hB587823 => ?_)
                  have ac587824 : (fI (F587707 q582639) 26).toInt = p587790.toInt := by rw [he587778]; rfl
                  have bp587790 : gB p587790 0 100000 := (hB587822.2.2.2.2.2.1)
                  have ac587825 : (fI (F587707 q582639) 9).toInt = p587781.toInt := by rw [he587778]; rfl
                  have bp587781 : gB p587781 0 1 := (hB587822.1)
                  have ac587826 : (fI (F587707 q582639) 10).toInt = p587782.toInt := by rw [he587778]; rfl
                  have bp587782 : gB p587782 0 1 := (hB587822.2.1)
                  have ac587827 : (fI (F587707 q582639) 32).toInt = p587793.toInt := by rw [he587778]; rfl
                  have bp587793 : gB p587793 0 8192 := (hB587822.2.2.2.2.2.2.2.1)
                  have ac587828 : (fI (F587707 q582639) 26).toInt = p587790.toInt := by rw [he587778]; rfl
                  have ac587829 : (fI (F587707 q582639) 9).toInt = p587781.toInt := by rw [he587778]; rfl
                  have ac587830 : (fI (F587707 q582639) 10).toInt = p587782.toInt := by rw [he587778]; rfl
                  have ac587831 : (fI (F587707 q582639) 32).toInt = p587793.toInt := by rw [he587778]; rfl
                  exact G_iretA dr_cX17_run_120 rfl (Nat.le_of_ble_eq_true rfl) (Nat.le_of_ble_eq_true rfl) ⟨F587707, o587702, rfl, rfl, hT587708, hs587717, (Nat.le_of_ble_eq_true rfl), (Nat.le_of_ble_eq_true rfl), bo587702', (by omega), (by omega), (by omega)⟩
            · have r587832 : p587447.toInt = p582641.toInt := gC_eq hc587561
              have bp587447' : gB p587447 1 100000 := ⟨by omega, by omega⟩
              refine G_iconst 4 dr_cX17_run_69 (by decide +kernel) ?_
              have ac587833 : (fI (F587423 q582639) 26).toInt = p587447.toInt := by rw [he587435]; rfl
              have ac587834 : (fI (F587423 q582639) 9).toInt = p587438.toInt := by rw [he587435]; rfl
              have ac587835 : (fI (F587423 q582639) 10).toInt = p587439.toInt := by rw [he587435]; rfl
              have ac587836 : (fI (F587423 q582639) 32).toInt = p587450.toInt := by rw [he587435]; rfl
              exact G_iretA dr_cX17_run_70 rfl (Nat.le_of_ble_eq_true rfl) (Nat.le_of_ble_eq_true rfl) ⟨F587423, 4, rfl, rfl, hT587424, hs587425, (Nat.le_of_ble_eq_true rfl), (Nat.le_of_ble_eq_true rfl), (gB_w (gBl (show Int32.toInt 4 = 4 by decide)) (by decide) (by decide)), (by have qa0 : Int32.toInt 4 = 4 := (by decide); omega), (by have qa0 : Int32.toInt 4 = 4 := (by decide); omega), (by have qa0 : Int32.toInt 4 = 4 := (by decide); omega)⟩
        have ac587837 : (fI (F587071 q582639) 26).toInt = 0 := by rw [he587074]; show Int32.toInt 0 = 0; decide
        have ac587838 : (fI (F587071 q582639) 9).toInt = p587001.toInt := by rw [he587074]; rfl
        have ac587839 : (fI (F587071 q582639) 10).toInt = p587002.toInt := by rw [he587074]; rfl
        have ac587840 : (fI (F587071 q582639) 32).toInt = p587013.toInt := by rw [he587074]; rfl
        exact hlp54_587430 ((p582641.toInt - (fI (F587071 q582639) 26).toInt).toNat + 1) F587071 0 0 (gB_w (gBl (show Int32.toInt 0 = 0 by decide)) (by decide) (by decide)) (gB_w (gBl (show Int32.toInt 0 = 0 by decide)) (by decide) (by decide)) hT587077 hs587075 (by have qa0 : Int32.toInt 0 = 0 := (by decide); omega) (by omega) (by omega) (by omega) (by omega) (Nat.lt_succ_self _)
      · have r587841 : g586987.toInt < 2000 := gj_nleL hc587052 (show Int32.toInt 2000 = 2000 by decide)
        have bg586987' : gB g586987 0 1999 := ⟨by omega, by omega⟩
        refine G_aload_n 1 dr_cX17_run_9 rfl ?_
        refine Gp_get 20 hm586997 he586998 dr_cX17_run_10 (gk_X17 D I) (Nat.le_of_ble_eq_true rfl) wr_7_94 rfl ?_
        refine G_iload_n 0 dr_cX17_run_13 rfl ?_
        refine G_iconst 0 dr_cX17_run_14 (by decide +kernel) ?_
        have hm587842 : (γ 9 20) ∈ P582637 := RS_m hT586989 ht587032 (by decide)
        obtain ⟨f587844, he587843⟩ := show rk_22 I (F586988 (γ 9 20)) from RS_o hT586989 ht587032
        refine Gp_iast 0 hm587842 he587843 dr_cX17_run_15 rfl (gB_in bg586987' (by decide) (by decide)) (fun F587845 e587846 n587847 => ?_)
        obtain ⟨f587848, hf587848⟩ : ∃ z, z = upd f587844 g586987.toNatClampNeg 0 := ⟨_, rfl⟩
        rw [← hf587848] at e587846
        have he587849 : F587845 q582639 = .inr (22, [.ref (γ 9 0), .ref (γ 9 1), .ref (γ 9 2), .ref (γ 9 3), .ref (γ 9 4), .ref (γ 9 5), .ref (γ 9 6), .ref (γ 9 7), .ref (γ 9 8), .int p587001, .int p587002, .int p587003, .int p587004, .int p587005, .int p587006, .ref (γ 9 15), .ref (γ 9 16), .ref (γ 9 17), .ref (γ 9 18), .ref (γ 9 19), .ref (γ 9 20), .ref (γ 9 21), .ref (γ 9 22), .int p587007, .int p587008, .int p587009, .int p587010, .int p587011, .ref q586999, .ref (γ 9 29), .int p587012, .ref (γ 9 31), .int p587013, .int p587014, .int p587015, .ref q587000]) := (n587847 q582639 (rn_oa he586998 he587843)).trans he586998
        have he587850 : F587845 (γ 9 20) = .inl (I .int, 2000, .inl f587848) := e587846
        have hs587851 : rStr γ [] F582638 F587845 := rStr_put hs586990 n587847 ht587032 (by decide)
        refine G_aload_n 1 dr_cX17_run_16 rfl ?_
        refine Gp_get 21 hm586997 he587849 dr_cX17_run_17 (gk_X17 D I) (Nat.le_of_ble_eq_true rfl) wr_7_95 rfl ?_
        refine G_iload_n 0 dr_cX17_run_20 rfl ?_
        refine G_iconst 0 dr_cX17_run_21 (by decide +kernel) ?_
        have hT587852 : RS D I P582637 F587845 γ el := RS_set hT586989 n587847 ht587032 (by decide) ⟨f587848, he587850⟩
        have hm587853 : (γ 9 21) ∈ P582637 := RS_m hT587852 ht587033 (by decide)
        obtain ⟨f587855, he587854⟩ := show rk_23 I (F587845 (γ 9 21)) from RS_o hT587852 ht587033
        refine Gp_iast 0 hm587853 he587854 dr_cX17_run_22 rfl (gB_in bg586987' (by decide) (by decide)) (fun F587856 e587857 n587858 => ?_)
        obtain ⟨f587859, hf587859⟩ : ∃ z, z = upd f587855 g586987.toNatClampNeg 0 := ⟨_, rfl⟩
        rw [← hf587859] at e587857
        have he587860 : F587856 q582639 = .inr (22, [.ref (γ 9 0), .ref (γ 9 1), .ref (γ 9 2), .ref (γ 9 3), .ref (γ 9 4), .ref (γ 9 5), .ref (γ 9 6), .ref (γ 9 7), .ref (γ 9 8), .int p587001, .int p587002, .int p587003, .int p587004, .int p587005, .int p587006, .ref (γ 9 15), .ref (γ 9 16), .ref (γ 9 17), .ref (γ 9 18), .ref (γ 9 19), .ref (γ 9 20), .ref (γ 9 21), .ref (γ 9 22), .int p587007, .int p587008, .int p587009, .int p587010, .int p587011, .ref q586999, .ref (γ 9 29), .int p587012, .ref (γ 9 31), .int p587013, .int p587014, .int p587015, .ref q587000]) := (n587858 q582639 (rn_oa he587849 he587854)).trans he587849
        have he587861 : F587856 (γ 9 20) = .inl (I .int, 2000, .inl f587848) := (n587858 (γ 9 20) (rn_ty ht587032 ht587033 (by decide))).trans he587850
        have he587862 : F587856 (γ 9 21) = .inl (I .int, 2000, .inl f587859) := e587857
        have hs587863 : rStr γ [] F582638 F587856 := rStr_put hs587851 n587858 ht587033 (by decide)
        obtain ⟨z587864, hz587864⟩ : ∃ z : Int32, z = g586987 + Int32.ofInt 1 := ⟨_, rfl⟩
        have ez587864 : z587864.toInt = g586987.toInt + 1 := gI_inc hz587864 (by decide) bg586987' (by decide) (by decide)
        have bz587864 : gB z587864 1 2000 := ⟨by omega, by omega⟩
        refine G_iinc (L' := [(3, .int z587864), (0, .ref q582639), (1, .ref q582640), (2, .int p582641)]) z587864 0 dr_cX17_run_23 rfl hz587864.symm (Nat.le_of_ble_eq_true rfl) rfl ?_
        refine G_goto 2 dr_cX17_run_26 (by decide +kernel) ?_
        have hT587865 : RS D I P582637 F587856 γ el := RS_set hT587852 n587858 ht587033 (by decide) ⟨f587859, he587862⟩
        have ac587866 : (fI (F587856 q582639) 26).toInt = p587010.toInt := by rw [he587860]; rfl
        have ac587867 : (fI (F587856 q582639) 9).toInt = p587001.toInt := by rw [he587860]; rfl
        have ac587868 : (fI (F587856 q582639) 10).toInt = p587002.toInt := by rw [he587860]; rfl
        have ac587869 : (fI (F587856 q582639) 32).toInt = p587013.toInt := by rw [he587860]; rfl
        exact ih2_586993 F587856 z587864 (gB_w bz587864 (by decide) (by decide)) hT587865 hs587863 (by omega) (by omega) (by omega) (mz_up ez587864 (Int.le_trans bg586987'.2 (by decide)) hm2_586993)
  have ac587870 : (fI (F582638 q582639) 26).toInt = p582657.toInt := by rw [he582645]; rfl
  have ac587871 : (fI (F582638 q582639) 9).toInt = p582648.toInt := by rw [he582645]; rfl
  have ac587872 : (fI (F582638 q582639) 10).toInt = p582649.toInt := by rw [he582645]; rfl
  have ac587873 : (fI (F582638 q582639) 32).toInt = p582660.toInt := by rw [he582645]; rfl
  exact hlp2_586993 (((2001 : Int) - 0).toNat + 1) F582638 0 (gB_w (gBl (show Int32.toInt 0 = 0 by decide)) (by decide) (by decide)) hT (rStr_rf (γ := γ) (W := []) (F := F582638)) (by omega) (by omega) (by omega) (Nat.lt_succ_self _)
abbrev ky_587883_SpillForgeModel_run : gKey := (cX17_run_, 3, "SpillForgeModel", (some FieldType.int), [], "run", fun _ _ => True)
def pt_587883_SpillForgeModel_run (D : va_G) (I : FieldType → ClassId) (γ el : Nat → Nat → Nat) (P587876 : List Nat) (F587877 : Nat → va_E) (q587878 : Nat) (p587879 : Int32) (p587880 : Int32) : Option Value → va_W → Nat → Nat → Prop := fun r w dc ds => ∃ (F588395 : Nat → va_E) (o588394 : Int32), r = some (.int o588394) ∧ w = va_pl P587876 F588395 ∧ RS D I P587876 F588395 γ el ∧ rStr γ [] F587877 F588395 ∧ dc ≤ 0 ∧ ds ≤ 0 ∧ gB o588394 0 5 ∧ (fI (F588395 q587878) 9).toInt = (fI (F587877 q587878) 9).toInt ∧ (fI (F588395 q587878) 10).toInt = (fI (F587877 q587878) 10).toInt ∧ (fI (F588395 q587878) 32).toInt = (fI (F587877 q587878) 32).toInt
set_option maxRecDepth 100000 in
set_option maxHeartbeats 4000000 in
theorem ct_587883_SpillForgeModel_run (l : Launch) (hl0 : l.stackTraces = false) (D : va_G) (I : FieldType → ClassId) (γ el : Nat → Nat → Nat) (P587876 : List Nat) (F587877 : Nat → va_E) (q587878 : Nat) (p587879 : Int32) (p587880 : Int32) (hT : RS D I P587876 F587877 γ el) (htq587878 : rKd γ q587878 10) (bp587879 : gB p587879 0 1) (x587881 : ((fI (F587877 q587878) 9).toInt = 0 ∨ 0 < γ 6 0)) (x587882 : ((fI (F587877 q587878) 10).toInt = 0 ∨ 0 < γ 6 1)) : CtA (gV D I) l yX17_run_ cX17_run_ 3 (some FieldType.int) 5 111 0 0 [.ref q587878, .int p587879, .int p587880] (va_pl P587876 F587877) (pt_587883_SpillForgeModel_run D I γ el P587876 F587877 q587878 p587879 p587880) gNA := by
  refine CtA_of hl0 (by decide) (Nat.le_of_ble_eq_true rfl) ?_
  have bp587880 := gB_any p587880
  have hm587884 : q587878 ∈ P587876 := RS_m hT htq587878 (by decide)
  refine rk10_e (show rk_10 γ (F587877 q587878) from RS_o hT htq587878) (fun q587886 q587887 p587888 p587889 p587890 p587891 p587892 p587893 p587894 p587895 p587896 p587897 p587898 p587899 p587900 p587901 p587902 he587885 hB587929 ht587903 ht587904 ht587905 ht587906 ht587907 ht587908 ht587909 ht587910 ht587911 ht587912 ht587913 ht587914 ht587915 ht587916 ht587917 ht587918 ht587919 ht587920 ht587921 ht587922 ht587923 ht587924 ht587925 ht587926 hB587930 => ?_)
  have ac587931 : (fI (F587877 q587878) 9).toInt = p587888.toInt := by rw [he587885]; rfl
  have bp587888 : gB p587888 0 1 := (hB587929.1)
  have ac587932 : (fI (F587877 q587878) 10).toInt = p587889.toInt := by rw [he587885]; rfl
  have bp587889 : gB p587889 0 1 := (hB587929.2.1)
  have ac587933 : (fI (F587877 q587878) 32).toInt = p587900.toInt := by rw [he587885]; rfl
  have bp587900 : gB p587900 0 8192 := (hB587929.2.2.2.2.2.2.2.1)
  have fq587934 : γ 6 (γ 1 (γ 9 6)) = γ 6 0 := by rw [show γ 1 (γ 9 6) = 0 from ht587924]
  have fq587935 : γ 6 (γ 1 (γ 9 7)) = γ 6 1 := by rw [show γ 1 (γ 9 7) = 1 from ht587925]
  have fq587936 : γ 6 (γ 1 (γ 9 8)) = γ 6 2 := by rw [show γ 1 (γ 9 8) = 2 from ht587926]
  have r587937 : p587902.toInt ≤ γ 12 q587887 := by have z := hB587930; unfold rM2 at z; exact z.2.2
  refine G_aload_n 0 dr_cX17_run__0 rfl ?_
  refine G_iconst 0 dr_cX17_run__1 (by decide +kernel) ?_
  refine Gp_put 30 hm587884 he587885 dr_cX17_run__2 (gk_X17 D I) (Nat.le_of_ble_eq_true rfl) wr_7_104 rfl rfl rfl (Nat.le_of_ble_eq_true rfl) (fun F587938 e587939 n587940 => ?_)
  have he587941 : F587938 q587878 = .inr (22, [.ref (γ 9 0), .ref (γ 9 1), .ref (γ 9 2), .ref (γ 9 3), .ref (γ 9 4), .ref (γ 9 5), .ref (γ 9 6), .ref (γ 9 7), .ref (γ 9 8), .int p587888, .int p587889, .int p587890, .int p587891, .int p587892, .int p587893, .ref (γ 9 15), .ref (γ 9 16), .ref (γ 9 17), .ref (γ 9 18), .ref (γ 9 19), .ref (γ 9 20), .ref (γ 9 21), .ref (γ 9 22), .int p587894, .int p587895, .int p587896, .int p587897, .int p587898, .ref q587886, .ref (γ 9 29), .int 0, .ref (γ 9 31), .int p587900, .int p587901, .int p587902, .ref q587887]) := e587939
  have hs587942 : rStr γ [] F587877 F587938 := rStr_put (rStr_rf (γ := γ) (W := []) (F := F587877)) n587940 htq587878 (by decide)
  refine G_iload_n 2 dr_cX17_run__5 rfl ?_
  refine G_iconst 1 dr_cX17_run__6 (by decide +kernel) ?_
  refine G_icmp_lt 17 dr_cX17_run__7 (by decide +kernel) (fun hc587943 => ?_) (fun hc587943 => ?_)
  · have r587944 : p587880.toInt < 1 := gj_lt hc587943 (show Int32.toInt 1 = 1 by decide)
    have bp587880' : gB p587880 (-2147483648) 0 := ⟨by omega, by omega⟩
    refine G_aload_n 0 dr_cX17_run__17 rfl ?_
    refine G_iconst 1 dr_cX17_run__18 (by decide +kernel) ?_
    have hT587945 : RS D I P587876 F587938 γ el := RS_set hT n587940 htq587878 (by decide) ⟨q587886, q587887, p587888, p587889, p587890, p587891, p587892, p587893, p587894, p587895, p587896, p587897, p587898, 0, p587900, p587901, p587902, he587941, ⟨bp587888, bp587889, (hB587929.2.2.1), (hB587929.2.2.2.1), (hB587929.2.2.2.2.1), (hB587929.2.2.2.2.2.1), (hB587929.2.2.2.2.2.2.1), bp587900, (hB587929.2.2.2.2.2.2.2.2)⟩, ht587903, ht587904, ht587905, ht587906, ht587907, ht587908, ht587909, ht587910, ht587911, ht587912, ht587913, ht587914, ht587915, ht587916, ht587917, ht587918, ht587919, ht587920, ht587921, ht587922, ht587923, ht587924, ht587925, ht587926, hB587930⟩
    have ac587946 : (fI (F587938 q587878) 9).toInt = p587888.toInt := by rw [he587941]; rfl
    have ac587947 : (fI (F587938 q587878) 10).toInt = p587889.toInt := by rw [he587941]; rfl
    have ac587948 : (fI (F587938 q587878) 32).toInt = p587900.toInt := by rw [he587941]; rfl
    refine Gw_callV (As := [.int 1]) (gV_ok D I) (ct_580980_SpillForgeModel_no l hl0 D I γ el P587876 F587938 q587878 1 hT587945 htq587878) dr_cX17_run__19 ⟨wr_7_191, wr_1_14, wr_7_194, by decide, rfl, (Nat.le_of_ble_eq_true rfl), (Nat.le_of_ble_eq_true rfl)⟩ wr_7_193 wr_p_73 hm587884 he587941 rfl (show 0 + 0 ≤ 0 by first | omega | decide) (show 0 + 0 ≤ 0 by first | omega | decide) (Nat.le_of_ble_eq_true rfl) (fun r587952 w587953 dc587949 ds587950 hp587951 => ?_) (fun _ _ _ _ _ z => z.elim)
    obtain ⟨F587959, rfl, rfl, hT587960, hs587961, hdc, hds, x587954, x587955, x587956, x587957, ht587958⟩ := hp587951
    have hs587962 : rStr γ [] F587877 F587959 := rStr_tr hs587942 hs587961
    rw [show Int32.toInt 1 = 1 from by decide] at x587957
    change G _ _ _ _ _ _ _ (.int 0 :: _) _ _ _
    refine G_widen (cs' := 0) (sl' := 0) (by omega) (by omega) ?_
    have hm587963 : q587878 ∈ P587876 := RS_m hT587960 htq587878 (by decide)
    refine rk10_e (show rk_10 γ (F587959 q587878) from RS_o hT587960 htq587878) (fun q587965 q587966 p587967 p587968 p587969 p587970 p587971 p587972 p587973 p587974 p587975 p587976 p587977 p587978 p587979 p587980 p587981 he587964 hB588008 ht587982 ht587983 ht587984 ht587985 ht587986 ht587987 ht587988 ht587989 ht587990 ht587991 ht587992 ht587993 ht587994 ht587995 ht587996 ht587997 ht587998 ht587999 ht588000 ht588001 ht588002 ht588003 ht588004 ht588005 hB588009 => ?_)
    have ac588010 : (fI (F587959 q587878) 9).toInt = p587967.toInt := by rw [he587964]; rfl
    have bp587967 : gB p587967 0 1 := (hB588008.1)
    have ac588011 : (fI (F587959 q587878) 10).toInt = p587968.toInt := by rw [he587964]; rfl
    have bp587968 : gB p587968 0 1 := (hB588008.2.1)
    have ac588012 : (fI (F587959 q587878) 32).toInt = p587979.toInt := by rw [he587964]; rfl
    have bp587979 : gB p587979 0 8192 := (hB588008.2.2.2.2.2.2.2.1)
    have ac588013 : (fI (F587959 q587878) 9).toInt = p587967.toInt := by rw [he587964]; rfl
    have ac588014 : (fI (F587959 q587878) 10).toInt = p587968.toInt := by rw [he587964]; rfl
    have ac588015 : (fI (F587959 q587878) 32).toInt = p587979.toInt := by rw [he587964]; rfl
    exact G_iretA dr_cX17_run__22 rfl (Nat.le_of_ble_eq_true rfl) (Nat.le_of_ble_eq_true rfl) ⟨F587959, 0, rfl, rfl, hT587960, hs587962, (Nat.le_of_ble_eq_true rfl), (Nat.le_of_ble_eq_true rfl), (gB_w (gBl (show Int32.toInt 0 = 0 by decide)) (by decide) (by decide)), (by have qa0 : Int32.toInt 0 = 0 := (by decide); omega), (by have qa0 : Int32.toInt 0 = 0 := (by decide); omega), (by have qa0 : Int32.toInt 0 = 0 := (by decide); omega)⟩
  · have r588016 : 1 ≤ p587880.toInt := gj_nlt hc587943 (show Int32.toInt 1 = 1 by decide)
    have bp587880' : gB p587880 1 2147483647 := ⟨by omega, by omega⟩
    refine G_iload_n 2 dr_cX17_run__10 rfl ?_
    refine G_ldcw 100000 dr_cX17_run__11 wr_11_91 ?_
    refine G_icmp_le 23 dr_cX17_run__14 (by decide +kernel) (fun hc588017 => ?_) (fun hc588017 => ?_)
    · have r588018 : p587880.toInt ≤ 100000 := gj_le hc588017 (show Int32.toInt 100000 = 100000 by decide)
      have bp587880'' : gB p587880 1 100000 := ⟨by omega, by omega⟩
      refine G_iload_n 1 dr_cX17_run__23 rfl ?_
      refine G_if_eq 37 dr_cX17_run__24 (by decide +kernel) (fun hc588019 => ?_) (fun hc588019 => ?_)
      · have r588020 : p587879.toInt = 0 := gj_eq hc588019 (show Int32.toInt 0 = 0 by decide)
        have bp587879' : gB p587879 0 0 := gB_t0 r588020
        refine G_aload_n 0 dr_cX17_run__37 rfl ?_
        refine Gp_get 9 hm587884 he587941 dr_cX17_run__38 (gk_X17 D I) (Nat.le_of_ble_eq_true rfl) wr_7_83 rfl ?_
        refine G_if_ne 50 dr_cX17_run__41 (by decide +kernel) (fun hc588021 => ?_) (fun hc588021 => ?_)
        · have r588022 : p587888.toInt ≠ 0 := gj_neq hc588021 (show Int32.toInt 0 = 0 by decide)
          have bp587888' : gB p587888 1 1 := gB_t1 bp587888 r588022
          refine G_aload_n 0 dr_cX17_run__50 rfl ?_
          refine G_aload_n 0 dr_cX17_run__51 rfl ?_
          refine G_iload_n 1 dr_cX17_run__52 rfl ?_
          refine G_if_eq 63 dr_cX17_run__53 (by decide +kernel) (fun _ => ?_) (fun hc => absurd (show False by have := gj_neq hc (show Int32.toInt 0 = 0 by decide); omega) not_false)
          refine G_aload_n 0 dr_cX17_run__63 rfl ?_
          refine Gp_get 6 hm587884 he587941 dr_cX17_run__64 (gk_X17 D I) (Nat.le_of_ble_eq_true rfl) wr_7_80 rfl ?_
          refine G_iload_n 2 dr_cX17_run__67 rfl ?_
          have hT588023 : RS D I P587876 F587938 γ el := RS_set hT n587940 htq587878 (by decide) ⟨q587886, q587887, p587888, p587889, p587890, p587891, p587892, p587893, p587894, p587895, p587896, p587897, p587898, 0, p587900, p587901, p587902, he587941, ⟨(gB_w bp587888' (by decide) (by decide)), bp587889, (hB587929.2.2.1), (hB587929.2.2.2.1), (hB587929.2.2.2.2.1), (hB587929.2.2.2.2.2.1), (hB587929.2.2.2.2.2.2.1), bp587900, (hB587929.2.2.2.2.2.2.2.2)⟩, ht587903, ht587904, ht587905, ht587906, ht587907, ht587908, ht587909, ht587910, ht587911, ht587912, ht587913, ht587914, ht587915, ht587916, ht587917, ht587918, ht587919, ht587920, ht587921, ht587922, ht587923, ht587924, ht587925, ht587926, hB587930⟩
          have ac588024 : (fI (F587938 q587878) 9).toInt = p587888.toInt := by rw [he587941]; rfl
          have ac588025 : (fI (F587938 q587878) 10).toInt = p587889.toInt := by rw [he587941]; rfl
          have ac588026 : (fI (F587938 q587878) 32).toInt = p587900.toInt := by rw [he587941]; rfl
          refine Gw_callV (As := [.ref (γ 9 6), .int p587880]) (gV_ok D I) (ct_582643_SpillForgeModel_run l hl0 D I γ el P587876 F587938 q587878 (γ 9 6) p587880 hT588023 htq587878 ht587911 bp587880'' (by have qa0 : Int32.toInt 0 = 0 := (by decide); omega)) dr_cX17_run__68 ⟨wr_11_92, wr_1_14, wr_11_95, by decide, rfl, (Nat.le_of_ble_eq_true rfl), (Nat.le_of_ble_eq_true rfl)⟩ wr_11_94 wr_p_113 hm587884 he587941 rfl (show 0 + 0 ≤ 0 by first | omega | decide) (show 0 + 0 ≤ 0 by first | omega | decide) (Nat.le_of_ble_eq_true rfl) (fun r588030 w588031 dc588027 ds588028 hp588029 => ?_) (fun _ _ _ _ _ z => z.elim)
          obtain ⟨F588036, o588032, rfl, rfl, hT588037, hs588038, hdc, hds, bo588032, x588033, x588034, x588035⟩ := hp588029
          have hs588039 : rStr γ [] F587877 F588036 := rStr_tr hs587942 hs588038
          change G _ _ _ _ _ _ _ (.int o588032 :: _) _ _ _
          refine G_widen (cs' := 0) (sl' := 0) (by omega) (by omega) ?_
          have hm588040 : q587878 ∈ P587876 := RS_m hT588037 htq587878 (by decide)
          refine rk10_e (show rk_10 γ (F588036 q587878) from RS_o hT588037 htq587878) (fun q588042 q588043 p588044 p588045 p588046 p588047 p588048 p588049 p588050 p588051 p588052 p588053 p588054 p588055 p588056 p588057 p588058 he588041 hB588085 ht588059 ht588060 ht588061 ht588062 ht588063 ht588064 ht588065 ht588066 ht588067 ht588068 ht588069 ht588070 ht588071 ht588072 ht588073 ht588074 ht588075 ht588076 ht588077 ht588078 ht588079 ht588080 ht588081 ht588082 hB588086 => ?_)
          have ac588087 : (fI (F588036 q587878) 9).toInt = p588044.toInt := by rw [he588041]; rfl
          have bp588044 : gB p588044 0 1 := (hB588085.1)
          have ac588088 : (fI (F588036 q587878) 10).toInt = p588045.toInt := by rw [he588041]; rfl
          have bp588045 : gB p588045 0 1 := (hB588085.2.1)
          have ac588089 : (fI (F588036 q587878) 32).toInt = p588056.toInt := by rw [he588041]; rfl
          have bp588056 : gB p588056 0 8192 := (hB588085.2.2.2.2.2.2.2.1)
          refine Gp_put 23 hm588040 he588041 dr_cX17_run__71 (gk_X17 D I) (Nat.le_of_ble_eq_true rfl) wr_7_97 rfl rfl rfl (Nat.le_of_ble_eq_true rfl) (fun F588090 e588091 n588092 => ?_)
          have he588093 : F588090 q587878 = .inr (22, [.ref (γ 9 0), .ref (γ 9 1), .ref (γ 9 2), .ref (γ 9 3), .ref (γ 9 4), .ref (γ 9 5), .ref (γ 9 6), .ref (γ 9 7), .ref (γ 9 8), .int p588044, .int p588045, .int p588046, .int p588047, .int p588048, .int p588049, .ref (γ 9 15), .ref (γ 9 16), .ref (γ 9 17), .ref (γ 9 18), .ref (γ 9 19), .ref (γ 9 20), .ref (γ 9 21), .ref (γ 9 22), .int o588032, .int p588051, .int p588052, .int p588053, .int p588054, .ref q588042, .ref (γ 9 29), .int p588055, .ref (γ 9 31), .int p588056, .int p588057, .int p588058, .ref q588043]) := e588091
          have hs588094 : rStr γ [] F587877 F588090 := rStr_put hs588039 n588092 htq587878 (by decide)
          refine G_aload_n 0 dr_cX17_run__74 rfl ?_
          refine Gp_get 23 hm588040 he588093 dr_cX17_run__75 (gk_X17 D I) (Nat.le_of_ble_eq_true rfl) wr_7_97 rfl ?_
          have hT588095 : RS D I P587876 F588090 γ el := RS_set hT588037 n588092 htq587878 (by decide) ⟨q588042, q588043, p588044, p588045, p588046, p588047, p588048, p588049, o588032, p588051, p588052, p588053, p588054, p588055, p588056, p588057, p588058, he588093, ⟨bp588044, bp588045, (hB588085.2.2.1), (hB588085.2.2.2.1), (hB588085.2.2.2.2.1), (hB588085.2.2.2.2.2.1), (hB588085.2.2.2.2.2.2.1), bp588056, (hB588085.2.2.2.2.2.2.2.2)⟩, ht588059, ht588060, ht588061, ht588062, ht588063, ht588064, ht588065, ht588066, ht588067, ht588068, ht588069, ht588070, ht588071, ht588072, ht588073, ht588074, ht588075, ht588076, ht588077, ht588078, ht588079, ht588080, ht588081, ht588082, hB588086⟩
          have ac588096 : (fI (F588090 q587878) 9).toInt = p588044.toInt := by rw [he588093]; rfl
          have ac588097 : (fI (F588090 q587878) 10).toInt = p588045.toInt := by rw [he588093]; rfl
          have ac588098 : (fI (F588090 q587878) 32).toInt = p588056.toInt := by rw [he588093]; rfl
          exact G_iretA dr_cX17_run__78 rfl (Nat.le_of_ble_eq_true rfl) (Nat.le_of_ble_eq_true rfl) ⟨F588090, o588032, rfl, rfl, hT588095, hs588094, (Nat.le_of_ble_eq_true rfl), (Nat.le_of_ble_eq_true rfl), bo588032, (by omega), (by omega), (by omega)⟩
        · have r588099 : p587888.toInt = 0 := gj_eq hc588021 (show Int32.toInt 0 = 0 by decide)
          have bp587888' : gB p587888 0 0 := gB_t0 r588099
          refine G_aload_n 0 dr_cX17_run__44 rfl ?_
          refine G_iconst 2 dr_cX17_run__45 (by decide +kernel) ?_
          have hT588100 : RS D I P587876 F587938 γ el := RS_set hT n587940 htq587878 (by decide) ⟨q587886, q587887, p587888, p587889, p587890, p587891, p587892, p587893, p587894, p587895, p587896, p587897, p587898, 0, p587900, p587901, p587902, he587941, ⟨(gB_w bp587888' (by decide) (by decide)), bp587889, (hB587929.2.2.1), (hB587929.2.2.2.1), (hB587929.2.2.2.2.1), (hB587929.2.2.2.2.2.1), (hB587929.2.2.2.2.2.2.1), bp587900, (hB587929.2.2.2.2.2.2.2.2)⟩, ht587903, ht587904, ht587905, ht587906, ht587907, ht587908, ht587909, ht587910, ht587911, ht587912, ht587913, ht587914, ht587915, ht587916, ht587917, ht587918, ht587919, ht587920, ht587921, ht587922, ht587923, ht587924, ht587925, ht587926, hB587930⟩
          have ac588101 : (fI (F587938 q587878) 9).toInt = p587888.toInt := by rw [he587941]; rfl
          have ac588102 : (fI (F587938 q587878) 10).toInt = p587889.toInt := by rw [he587941]; rfl
          have ac588103 : (fI (F587938 q587878) 32).toInt = p587900.toInt := by rw [he587941]; rfl
          refine Gw_callV (As := [.int 2]) (gV_ok D I) (ct_580980_SpillForgeModel_no l hl0 D I γ el P587876 F587938 q587878 2 hT588100 htq587878) dr_cX17_run__46 ⟨wr_7_191, wr_1_14, wr_7_194, by decide, rfl, (Nat.le_of_ble_eq_true rfl), (Nat.le_of_ble_eq_true rfl)⟩ wr_7_193 wr_p_73 hm587884 he587941 rfl (show 0 + 0 ≤ 0 by first | omega | decide) (show 0 + 0 ≤ 0 by first | omega | decide) (Nat.le_of_ble_eq_true rfl) (fun r588107 w588108 dc588104 ds588105 hp588106 => ?_) (fun _ _ _ _ _ z => z.elim)
          obtain ⟨F588114, rfl, rfl, hT588115, hs588116, hdc, hds, x588109, x588110, x588111, x588112, ht588113⟩ := hp588106
          have hs588117 : rStr γ [] F587877 F588114 := rStr_tr hs587942 hs588116
          rw [show Int32.toInt 2 = 2 from by decide] at x588112
          change G _ _ _ _ _ _ _ (.int 0 :: _) _ _ _
          refine G_widen (cs' := 0) (sl' := 0) (by omega) (by omega) ?_
          have hm588118 : q587878 ∈ P587876 := RS_m hT588115 htq587878 (by decide)
          refine rk10_e (show rk_10 γ (F588114 q587878) from RS_o hT588115 htq587878) (fun q588120 q588121 p588122 p588123 p588124 p588125 p588126 p588127 p588128 p588129 p588130 p588131 p588132 p588133 p588134 p588135 p588136 he588119 hB588163 ht588137 ht588138 ht588139 ht588140 ht588141 ht588142 ht588143 ht588144 ht588145 ht588146 ht588147 ht588148 ht588149 ht588150 ht588151 ht588152 ht588153 ht588154 ht588155 ht588156 ht588157 ht588158 ht588159 ht588160 hB588164 => ?_)
          have ac588165 : (fI (F588114 q587878) 9).toInt = p588122.toInt := by rw [he588119]; rfl
          have bp588122 : gB p588122 0 1 := (hB588163.1)
          have ac588166 : (fI (F588114 q587878) 10).toInt = p588123.toInt := by rw [he588119]; rfl
          have bp588123 : gB p588123 0 1 := (hB588163.2.1)
          have ac588167 : (fI (F588114 q587878) 32).toInt = p588134.toInt := by rw [he588119]; rfl
          have bp588134 : gB p588134 0 8192 := (hB588163.2.2.2.2.2.2.2.1)
          have ac588168 : (fI (F588114 q587878) 9).toInt = p588122.toInt := by rw [he588119]; rfl
          have ac588169 : (fI (F588114 q587878) 10).toInt = p588123.toInt := by rw [he588119]; rfl
          have ac588170 : (fI (F588114 q587878) 32).toInt = p588134.toInt := by rw [he588119]; rfl
          exact G_iretA dr_cX17_run__49 rfl (Nat.le_of_ble_eq_true rfl) (Nat.le_of_ble_eq_true rfl) ⟨F588114, 0, rfl, rfl, hT588115, hs588117, (Nat.le_of_ble_eq_true rfl), (Nat.le_of_ble_eq_true rfl), (gB_w (gBl (show Int32.toInt 0 = 0 by decide)) (by decide) (by decide)), (by have qa0 : Int32.toInt 0 = 0 := (by decide); omega), (by have qa0 : Int32.toInt 0 = 0 := (by decide); omega), (by have qa0 : Int32.toInt 0 = 0 := (by decide); omega)⟩
      · have r588171 : p587879.toInt ≠ 0 := gj_neq hc588019 (show Int32.toInt 0 = 0 by decide)
        have bp587879' : gB p587879 1 1 := gB_t1 bp587879 r588171
        refine G_aload_n 0 dr_cX17_run__27 rfl ?_
        refine Gp_get 10 hm587884 he587941 dr_cX17_run__28 (gk_X17 D I) (Nat.le_of_ble_eq_true rfl) wr_7_84 rfl ?_
        refine G_if_ne 50 dr_cX17_run__31 (by decide +kernel) (fun hc588172 => ?_) (fun hc588172 => ?_)
        · have r588173 : p587889.toInt ≠ 0 := gj_neq hc588172 (show Int32.toInt 0 = 0 by decide)
          have bp587889' : gB p587889 1 1 := gB_t1 bp587889 r588173
          refine G_aload_n 0 dr_cX17_run__50 rfl ?_
          refine G_aload_n 0 dr_cX17_run__51 rfl ?_
          refine G_iload_n 1 dr_cX17_run__52 rfl ?_
          refine G_if_eq 63 dr_cX17_run__53 (by decide +kernel) (fun hc => absurd (show False by have := gj_eq hc (show Int32.toInt 0 = 0 by decide); omega) not_false) (fun _ => ?_)
          refine G_aload_n 0 dr_cX17_run__56 rfl ?_
          refine Gp_get 7 hm587884 he587941 dr_cX17_run__57 (gk_X17 D I) (Nat.le_of_ble_eq_true rfl) wr_7_81 rfl ?_
          refine G_goto 67 dr_cX17_run__60 (by decide +kernel) ?_
          refine G_iload_n 2 dr_cX17_run__67 rfl ?_
          have hT588174 : RS D I P587876 F587938 γ el := RS_set hT n587940 htq587878 (by decide) ⟨q587886, q587887, p587888, p587889, p587890, p587891, p587892, p587893, p587894, p587895, p587896, p587897, p587898, 0, p587900, p587901, p587902, he587941, ⟨bp587888, (gB_w bp587889' (by decide) (by decide)), (hB587929.2.2.1), (hB587929.2.2.2.1), (hB587929.2.2.2.2.1), (hB587929.2.2.2.2.2.1), (hB587929.2.2.2.2.2.2.1), bp587900, (hB587929.2.2.2.2.2.2.2.2)⟩, ht587903, ht587904, ht587905, ht587906, ht587907, ht587908, ht587909, ht587910, ht587911, ht587912, ht587913, ht587914, ht587915, ht587916, ht587917, ht587918, ht587919, ht587920, ht587921, ht587922, ht587923, ht587924, ht587925, ht587926, hB587930⟩
          have ac588175 : (fI (F587938 q587878) 9).toInt = p587888.toInt := by rw [he587941]; rfl
          have ac588176 : (fI (F587938 q587878) 10).toInt = p587889.toInt := by rw [he587941]; rfl
          have ac588177 : (fI (F587938 q587878) 32).toInt = p587900.toInt := by rw [he587941]; rfl
          refine Gw_callV (As := [.ref (γ 9 7), .int p587880]) (gV_ok D I) (ct_582643_SpillForgeModel_run l hl0 D I γ el P587876 F587938 q587878 (γ 9 7) p587880 hT588174 htq587878 ht587912 bp587880'' (by have qa0 : Int32.toInt 0 = 0 := (by decide); omega)) dr_cX17_run__68 ⟨wr_11_92, wr_1_14, wr_11_95, by decide, rfl, (Nat.le_of_ble_eq_true rfl), (Nat.le_of_ble_eq_true rfl)⟩ wr_11_94 wr_p_113 hm587884 he587941 rfl (show 0 + 0 ≤ 0 by first | omega | decide) (show 0 + 0 ≤ 0 by first | omega | decide) (Nat.le_of_ble_eq_true rfl) (fun r588181 w588182 dc588178 ds588179 hp588180 => ?_) (fun _ _ _ _ _ z => z.elim)
          obtain ⟨F588187, o588183, rfl, rfl, hT588188, hs588189, hdc, hds, bo588183, x588184, x588185, x588186⟩ := hp588180
          have hs588190 : rStr γ [] F587877 F588187 := rStr_tr hs587942 hs588189
          change G _ _ _ _ _ _ _ (.int o588183 :: _) _ _ _
          refine G_widen (cs' := 0) (sl' := 0) (by omega) (by omega) ?_
          have hm588191 : q587878 ∈ P587876 := RS_m hT588188 htq587878 (by decide)
          refine rk10_e (show rk_10 γ (F588187 q587878) from RS_o hT588188 htq587878) (fun q588193 q588194 p588195 p588196 p588197 p588198 p588199 p588200 p588201 p588202 p588203 p588204 p588205 p588206 p588207 p588208 p588209 he588192 hB588236 ht588210 ht588211 ht588212 ht588213 ht588214 ht588215 ht588216 ht588217 ht588218 ht588219 ht588220 ht588221 ht588222 ht588223 ht588224 ht588225 ht588226 ht588227 ht588228 ht588229 ht588230 ht588231 ht588232 ht588233 hB588237 => ?_)
          have ac588238 : (fI (F588187 q587878) 9).toInt = p588195.toInt := by rw [he588192]; rfl
          have bp588195 : gB p588195 0 1 := (hB588236.1)
          have ac588239 : (fI (F588187 q587878) 10).toInt = p588196.toInt := by rw [he588192]; rfl
          have bp588196 : gB p588196 0 1 := (hB588236.2.1)
          have ac588240 : (fI (F588187 q587878) 32).toInt = p588207.toInt := by rw [he588192]; rfl
          have bp588207 : gB p588207 0 8192 := (hB588236.2.2.2.2.2.2.2.1)
          refine Gp_put 23 hm588191 he588192 dr_cX17_run__71 (gk_X17 D I) (Nat.le_of_ble_eq_true rfl) wr_7_97 rfl rfl rfl (Nat.le_of_ble_eq_true rfl) (fun F588241 e588242 n588243 => ?_)
          have he588244 : F588241 q587878 = .inr (22, [.ref (γ 9 0), .ref (γ 9 1), .ref (γ 9 2), .ref (γ 9 3), .ref (γ 9 4), .ref (γ 9 5), .ref (γ 9 6), .ref (γ 9 7), .ref (γ 9 8), .int p588195, .int p588196, .int p588197, .int p588198, .int p588199, .int p588200, .ref (γ 9 15), .ref (γ 9 16), .ref (γ 9 17), .ref (γ 9 18), .ref (γ 9 19), .ref (γ 9 20), .ref (γ 9 21), .ref (γ 9 22), .int o588183, .int p588202, .int p588203, .int p588204, .int p588205, .ref q588193, .ref (γ 9 29), .int p588206, .ref (γ 9 31), .int p588207, .int p588208, .int p588209, .ref q588194]) := e588242
          have hs588245 : rStr γ [] F587877 F588241 := rStr_put hs588190 n588243 htq587878 (by decide)
          refine G_aload_n 0 dr_cX17_run__74 rfl ?_
          refine Gp_get 23 hm588191 he588244 dr_cX17_run__75 (gk_X17 D I) (Nat.le_of_ble_eq_true rfl) wr_7_97 rfl ?_
          have hT588246 : RS D I P587876 F588241 γ el := RS_set hT588188 n588243 htq587878 (by decide) ⟨q588193, q588194, p588195, p588196, p588197, p588198, p588199, p588200, o588183, p588202, p588203, p588204, p588205, p588206, p588207, p588208, p588209, he588244, ⟨bp588195, bp588196, (hB588236.2.2.1), (hB588236.2.2.2.1), (hB588236.2.2.2.2.1), (hB588236.2.2.2.2.2.1), (hB588236.2.2.2.2.2.2.1), bp588207, (hB588236.2.2.2.2.2.2.2.2)⟩, ht588210, ht588211, ht588212, ht588213, ht588214, ht588215, ht588216, ht588217, ht588218, ht588219, ht588220, ht588221, ht588222, ht588223, ht588224, ht588225, ht588226, ht588227, ht588228, ht588229, ht588230, ht588231, ht588232, ht588233, hB588237⟩
          have ac588247 : (fI (F588241 q587878) 9).toInt = p588195.toInt := by rw [he588244]; rfl
          have ac588248 : (fI (F588241 q587878) 10).toInt = p588196.toInt := by rw [he588244]; rfl
          have ac588249 : (fI (F588241 q587878) 32).toInt = p588207.toInt := by rw [he588244]; rfl
          exact G_iretA dr_cX17_run__78 rfl (Nat.le_of_ble_eq_true rfl) (Nat.le_of_ble_eq_true rfl) ⟨F588241, o588183, rfl, rfl, hT588246, hs588245, (Nat.le_of_ble_eq_true rfl), (Nat.le_of_ble_eq_true rfl), bo588183, (by omega), (by omega), (by omega)⟩
        · have r588250 : p587889.toInt = 0 := gj_eq hc588172 (show Int32.toInt 0 = 0 by decide)
          have bp587889' : gB p587889 0 0 := gB_t0 r588250
          refine G_goto 44 dr_cX17_run__34 (by decide +kernel) ?_
          refine G_aload_n 0 dr_cX17_run__44 rfl ?_
          refine G_iconst 2 dr_cX17_run__45 (by decide +kernel) ?_
          have hT588251 : RS D I P587876 F587938 γ el := RS_set hT n587940 htq587878 (by decide) ⟨q587886, q587887, p587888, p587889, p587890, p587891, p587892, p587893, p587894, p587895, p587896, p587897, p587898, 0, p587900, p587901, p587902, he587941, ⟨bp587888, (gB_w bp587889' (by decide) (by decide)), (hB587929.2.2.1), (hB587929.2.2.2.1), (hB587929.2.2.2.2.1), (hB587929.2.2.2.2.2.1), (hB587929.2.2.2.2.2.2.1), bp587900, (hB587929.2.2.2.2.2.2.2.2)⟩, ht587903, ht587904, ht587905, ht587906, ht587907, ht587908, ht587909, ht587910, ht587911, ht587912, ht587913, ht587914, ht587915, ht587916, ht587917, ht587918, ht587919, ht587920, ht587921, ht587922, ht587923, ht587924, ht587925, ht587926, hB587930⟩
          have ac588252 : (fI (F587938 q587878) 9).toInt = p587888.toInt := by rw [he587941]; rfl
          have ac588253 : (fI (F587938 q587878) 10).toInt = p587889.toInt := by rw [he587941]; rfl
          have ac588254 : (fI (F587938 q587878) 32).toInt = p587900.toInt := by rw [he587941]; rfl
          refine Gw_callV (As := [.int 2]) (gV_ok D I) (ct_580980_SpillForgeModel_no l hl0 D I γ el P587876 F587938 q587878 2 hT588251 htq587878) dr_cX17_run__46 ⟨wr_7_191, wr_1_14, wr_7_194, by decide, rfl, (Nat.le_of_ble_eq_true rfl), (Nat.le_of_ble_eq_true rfl)⟩ wr_7_193 wr_p_73 hm587884 he587941 rfl (show 0 + 0 ≤ 0 by first | omega | decide) (show 0 + 0 ≤ 0 by first | omega | decide) (Nat.le_of_ble_eq_true rfl) (fun r588258 w588259 dc588255 ds588256 hp588257 => ?_) (fun _ _ _ _ _ z => z.elim)
          obtain ⟨F588265, rfl, rfl, hT588266, hs588267, hdc, hds, x588260, x588261, x588262, x588263, ht588264⟩ := hp588257
          have hs588268 : rStr γ [] F587877 F588265 := rStr_tr hs587942 hs588267
          rw [show Int32.toInt 2 = 2 from by decide] at x588263
          change G _ _ _ _ _ _ _ (.int 0 :: _) _ _ _
          refine G_widen (cs' := 0) (sl' := 0) (by omega) (by omega) ?_
          have hm588269 : q587878 ∈ P587876 := RS_m hT588266 htq587878 (by decide)
          refine rk10_e (show rk_10 γ (F588265 q587878) from RS_o hT588266 htq587878) (fun q588271 q588272 p588273 p588274 p588275 p588276 p588277 p588278 p588279 p588280 p588281 p588282 p588283 p588284 p588285 p588286 p588287 he588270 hB588314 ht588288 ht588289 ht588290 ht588291 ht588292 ht588293 ht588294 ht588295 ht588296 ht588297 ht588298 ht588299 ht588300 ht588301 ht588302 ht588303 ht588304 ht588305 ht588306 ht588307 ht588308 ht588309 ht588310 ht588311 hB588315 => ?_)
          have ac588316 : (fI (F588265 q587878) 9).toInt = p588273.toInt := by rw [he588270]; rfl
          have bp588273 : gB p588273 0 1 := (hB588314.1)
          have ac588317 : (fI (F588265 q587878) 10).toInt = p588274.toInt := by rw [he588270]; rfl
          have bp588274 : gB p588274 0 1 := (hB588314.2.1)
          have ac588318 : (fI (F588265 q587878) 32).toInt = p588285.toInt := by rw [he588270]; rfl
          have bp588285 : gB p588285 0 8192 := (hB588314.2.2.2.2.2.2.2.1)
          have ac588319 : (fI (F588265 q587878) 9).toInt = p588273.toInt := by rw [he588270]; rfl
          have ac588320 : (fI (F588265 q587878) 10).toInt = p588274.toInt := by rw [he588270]; rfl
          have ac588321 : (fI (F588265 q587878) 32).toInt = p588285.toInt := by rw [he588270]; rfl
          exact G_iretA dr_cX17_run__49 rfl (Nat.le_of_ble_eq_true rfl) (Nat.le_of_ble_eq_true rfl) ⟨F588265, 0, rfl, rfl, hT588266, hs588268, (Nat.le_of_ble_eq_true rfl), (Nat.le_of_ble_eq_true rfl), (gB_w (gBl (show Int32.toInt 0 = 0 by decide)) (by decide) (by decide)), (by have qa0 : Int32.toInt 0 = 0 := (by decide); omega), (by have qa0 : Int32.toInt 0 = 0 := (by decide); omega), (by have qa0 : Int32.toInt 0 = 0 := (by decide); omega)⟩
    · have r588322 : 100000 < p587880.toInt := gj_nle hc588017 (show Int32.toInt 100000 = 100000 by decide)
      have bp587880'' : gB p587880 100001 2147483647 := ⟨by omega, by omega⟩
      refine G_aload_n 0 dr_cX17_run__17 rfl ?_
      refine G_iconst 1 dr_cX17_run__18 (by decide +kernel) ?_
      have hT588323 : RS D I P587876 F587938 γ el := RS_set hT n587940 htq587878 (by decide) ⟨q587886, q587887, p587888, p587889, p587890, p587891, p587892, p587893, p587894, p587895, p587896, p587897, p587898, 0, p587900, p587901, p587902, he587941, ⟨bp587888, bp587889, (hB587929.2.2.1), (hB587929.2.2.2.1), (hB587929.2.2.2.2.1), (hB587929.2.2.2.2.2.1), (hB587929.2.2.2.2.2.2.1), bp587900, (hB587929.2.2.2.2.2.2.2.2)⟩, ht587903, ht587904, ht587905, ht587906, ht587907, ht587908, ht587909, ht587910, ht587911, ht587912, ht587913, ht587914, ht587915, ht587916, ht587917, ht587918, ht587919, ht587920, ht587921, ht587922, ht587923, ht587924, ht587925, ht587926, hB587930⟩
      have ac588324 : (fI (F587938 q587878) 9).toInt = p587888.toInt := by rw [he587941]; rfl
      have ac588325 : (fI (F587938 q587878) 10).toInt = p587889.toInt := by rw [he587941]; rfl
      have ac588326 : (fI (F587938 q587878) 32).toInt = p587900.toInt := by rw [he587941]; rfl
      refine Gw_callV (As := [.int 1]) (gV_ok D I) (ct_580980_SpillForgeModel_no l hl0 D I γ el P587876 F587938 q587878 1 hT588323 htq587878) dr_cX17_run__19 ⟨wr_7_191, wr_1_14, wr_7_194, by decide, rfl, (Nat.le_of_ble_eq_true rfl), (Nat.le_of_ble_eq_true rfl)⟩ wr_7_193 wr_p_73 hm587884 he587941 rfl (show 0 + 0 ≤ 0 by first | omega | decide) (show 0 + 0 ≤ 0 by first | omega | decide) (Nat.le_of_ble_eq_true rfl) (fun r588330 w588331 dc588327 ds588328 hp588329 => ?_) (fun _ _ _ _ _ z => z.elim)
      obtain ⟨F588337, rfl, rfl, hT588338, hs588339, hdc, hds, x588332, x588333, x588334, x588335, ht588336⟩ := hp588329
      have hs588340 : rStr γ [] F587877 F588337 := rStr_tr hs587942 hs588339
      rw [show Int32.toInt 1 = 1 from by decide] at x588335
      change G _ _ _ _ _ _ _ (.int 0 :: _) _ _ _
      refine G_widen (cs' := 0) (sl' := 0) (by omega) (by omega) ?_
      have hm588341 : q587878 ∈ P587876 := RS_m hT588338 htq587878 (by decide)
      refine rk10_e (show rk_10 γ (F588337 q587878) from RS_o hT588338 htq587878) (fun q588343 q588344 p588345 p588346 p588347 p588348 p588349 p588350 p588351 p588352 p588353 p588354 p588355 p588356 p588357 p588358 p588359 he588342 hB588386 ht588360 ht588361 ht588362 ht588363 ht588364 ht588365 ht588366 ht588367 ht588368 ht588369 ht588370 ht588371 ht588372 ht588373 ht588374 ht588375 ht588376 ht588377 ht588378 ht588379 ht588380 ht588381 ht588382 ht588383 hB588387 => ?_)
      have ac588388 : (fI (F588337 q587878) 9).toInt = p588345.toInt := by rw [he588342]; rfl
      have bp588345 : gB p588345 0 1 := (hB588386.1)
      have ac588389 : (fI (F588337 q587878) 10).toInt = p588346.toInt := by rw [he588342]; rfl
      have bp588346 : gB p588346 0 1 := (hB588386.2.1)
      have ac588390 : (fI (F588337 q587878) 32).toInt = p588357.toInt := by rw [he588342]; rfl
      have bp588357 : gB p588357 0 8192 := (hB588386.2.2.2.2.2.2.2.1)
      have ac588391 : (fI (F588337 q587878) 9).toInt = p588345.toInt := by rw [he588342]; rfl
      have ac588392 : (fI (F588337 q587878) 10).toInt = p588346.toInt := by rw [he588342]; rfl
      have ac588393 : (fI (F588337 q587878) 32).toInt = p588357.toInt := by rw [he588342]; rfl
      exact G_iretA dr_cX17_run__22 rfl (Nat.le_of_ble_eq_true rfl) (Nat.le_of_ble_eq_true rfl) ⟨F588337, 0, rfl, rfl, hT588338, hs588340, (Nat.le_of_ble_eq_true rfl), (Nat.le_of_ble_eq_true rfl), (gB_w (gBl (show Int32.toInt 0 = 0 by decide)) (by decide) (by decide)), (by have qa0 : Int32.toInt 0 = 0 := (by decide); omega), (by have qa0 : Int32.toInt 0 = 0 := (by decide); omega), (by have qa0 : Int32.toInt 0 = 0 := (by decide); omega)⟩
