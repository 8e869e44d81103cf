theorem dr_cX17_weigh_0 : decode cX17_weigh 0 = .ok (.aload_n 0, 1) := by decide +kernel
theorem dr_cX17_weigh_1 : decode cX17_weigh 1 = .ok (.aload_n 1, 1) := by decide +kernel
theorem dr_cX17_weigh_2 : decode cX17_weigh 2 = .ok (.invokevirtual 170, 3) := by decide +kernel
theorem wr_11_37 : (Jvm.Cond.methodLink "SpillForgeModel" (170 : Nat) ({ cls := "SpillForgeModel", name := "findDepth", desc := "(LSpillForgeModel$Code;)V" } : Jvm.MethodName)) ∈ gw := gw_11 37 rfl rfl
theorem wr_11_40 : (Jvm.Cond.code ({ cls := "SpillForgeModel", name := "findDepth", desc := "(LSpillForgeModel$Code;)V" } : Jvm.MethodName) prog_14_method_14_code (13 : Nat) (Option.none : Option Jvm.ClassFile.FieldType)) ∈ gw := gw_11 40 rfl rfl
theorem wr_11_39 : (Jvm.Cond.instanceMethod ({ cls := "SpillForgeModel", name := "findDepth", desc := "(LSpillForgeModel$Code;)V" } : Jvm.MethodName)) ∈ gw := gw_11 39 rfl rfl
theorem wr_p_105 : Cond.selects "SpillForgeModel" ⟨"SpillForgeModel", "findDepth", "(LSpillForgeModel$Code;)V"⟩ ⟨"SpillForgeModel", "findDepth", "(LSpillForgeModel$Code;)V"⟩ ∈ gw := gw_p _ 105 rfl rfl rfl
theorem dr_cX17_weigh_5 : decode cX17_weigh 5 = .ok (.iconst 0, 1) := by decide +kernel
theorem dr_cX17_weigh_6 : decode cX17_weigh 6 = .ok (.istore_n 2, 1) := by decide +kernel
theorem dr_cX17_weigh_7 : decode cX17_weigh 7 = .ok (.iload_n 2, 1) := by decide +kernel
theorem dr_cX17_weigh_8 : decode cX17_weigh 8 = .ok (.sipush 2000, 3) := by decide +kernel
theorem dr_cX17_weigh_11 : decode cX17_weigh 11 = .ok (.if_icmp .ge 16, 3) := by decide +kernel
theorem dr_cX17_weigh_27 : decode cX17_weigh 27 = .ok (.iconst 0, 1) := by decide +kernel
theorem dr_cX17_weigh_28 : decode cX17_weigh 28 = .ok (.istore_n 2, 1) := by decide +kernel
theorem dr_cX17_weigh_29 : decode cX17_weigh 29 = .ok (.iload_n 2, 1) := by decide +kernel
theorem dr_cX17_weigh_30 : decode cX17_weigh 30 = .ok (.aload_n 1, 1) := by decide +kernel
theorem dr_cX17_weigh_31 : decode cX17_weigh 31 = .ok (.invokevirtual 96, 3) := by decide +kernel
theorem dr_cX17_weigh_34 : decode cX17_weigh 34 = .ok (.if_icmp .ge 167, 3) := by decide +kernel
theorem dr_cX17_weigh_201 : decode cX17_weigh 201 = .ok (.return_, 1) := by decide +kernel
theorem dr_cX17_weigh_37 : decode cX17_weigh 37 = .ok (.iconst 1, 1) := by decide +kernel
theorem dr_cX17_weigh_38 : decode cX17_weigh 38 = .ok (.istore_n 3, 1) := by decide +kernel
theorem dr_cX17_weigh_39 : decode cX17_weigh 39 = .ok (.iconst 0, 1) := by decide +kernel
theorem dr_cX17_weigh_40 : decode cX17_weigh 40 = .ok (.istore 4, 2) := by decide +kernel
theorem dr_cX17_weigh_42 : decode cX17_weigh 42 = .ok (.iload 4, 2) := by decide +kernel
theorem dr_cX17_weigh_44 : decode cX17_weigh 44 = .ok (.aload_n 0, 1) := by decide +kernel
theorem dr_cX17_weigh_45 : decode cX17_weigh 45 = .ok (.getfield 152, 3) := by decide +kernel
theorem dr_cX17_weigh_48 : decode cX17_weigh 48 = .ok (.iload_n 2, 1) := by decide +kernel
theorem dr_cX17_weigh_49 : decode cX17_weigh 49 = .ok (.iaload, 1) := by decide +kernel
theorem dr_cX17_weigh_50 : decode cX17_weigh 50 = .ok (.if_icmp .ge 14, 3) := by decide +kernel
theorem dr_cX17_weigh_64 : decode cX17_weigh 64 = .ok (.aload_n 1, 1) := by decide +kernel
theorem dr_cX17_weigh_65 : decode cX17_weigh 65 = .ok (.iload_n 2, 1) := by decide +kernel
theorem dr_cX17_weigh_66 : decode cX17_weigh 66 = .ok (.invokevirtual 101, 3) := by decide +kernel
theorem dr_cX17_weigh_69 : decode cX17_weigh 69 = .ok (.astore 4, 2) := by decide +kernel
theorem dr_cX17_weigh_71 : decode cX17_weigh 71 = .ok (.iconst 0, 1) := by decide +kernel
theorem dr_cX17_weigh_72 : decode cX17_weigh 72 = .ok (.istore 5, 2) := by decide +kernel
theorem dr_cX17_weigh_74 : decode cX17_weigh 74 = .ok (.iload 5, 2) := by decide +kernel
theorem dr_cX17_weigh_76 : decode cX17_weigh 76 = .ok (.aload 4, 2) := by decide +kernel
theorem dr_cX17_weigh_78 : decode cX17_weigh 78 = .ok (.getfield 117, 3) := by decide +kernel
theorem dr_cX17_weigh_81 : decode cX17_weigh 81 = .ok (.invokevirtual 121, 3) := by decide +kernel
theorem dr_cX17_weigh_84 : decode cX17_weigh 84 = .ok (.if_icmp .gt 111, 3) := by decide +kernel
theorem dr_cX17_weigh_195 : decode cX17_weigh 195 = .ok (.iinc 2 1, 3) := by decide +kernel
theorem dr_cX17_weigh_198 : decode cX17_weigh 198 = .ok (.goto (-169), 3) := by decide +kernel
theorem dr_cX17_weigh_87 : decode cX17_weigh 87 = .ok (.iload 5, 2) := by decide +kernel
theorem dr_cX17_weigh_89 : decode cX17_weigh 89 = .ok (.aload 4, 2) := by decide +kernel
theorem dr_cX17_weigh_91 : decode cX17_weigh 91 = .ok (.getfield 117, 3) := by decide +kernel
theorem dr_cX17_weigh_94 : decode cX17_weigh 94 = .ok (.invokevirtual 121, 3) := by decide +kernel
theorem dr_cX17_weigh_97 : decode cX17_weigh 97 = .ok (.if_icmp .ge 19, 3) := by decide +kernel
theorem dr_cX17_weigh_116 : decode cX17_weigh 116 = .ok (.aload 4, 2) := by decide +kernel
theorem dr_cX17_weigh_118 : decode cX17_weigh 118 = .ok (.getfield 109, 3) := by decide +kernel
theorem dr_cX17_weigh_121 : decode cX17_weigh 121 = .ok (.astore 6, 2) := by decide +kernel
theorem dr_cX17_weigh_123 : decode cX17_weigh 123 = .ok (.aload 6, 2) := by decide +kernel
theorem dr_cX17_weigh_125 : decode cX17_weigh 125 = .ok (.invokevirtual 48, 3) := by decide +kernel
theorem dr_cX17_weigh_128 : decode cX17_weigh 128 = .ok (.ifCond .eq 17, 3) := by decide +kernel
theorem dr_cX17_weigh_145 : decode cX17_weigh 145 = .ok (.aload 6, 2) := by decide +kernel
theorem dr_cX17_weigh_147 : decode cX17_weigh 147 = .ok (.invokevirtual 70, 3) := by decide +kernel
theorem dr_cX17_weigh_150 : decode cX17_weigh 150 = .ok (.ifCond .eq 17, 3) := by decide +kernel
theorem dr_cX17_weigh_167 : decode cX17_weigh 167 = .ok (.aload 6, 2) := by decide +kernel
theorem dr_cX17_weigh_169 : decode cX17_weigh 169 = .ok (.invokevirtual 76, 3) := by decide +kernel
theorem dr_cX17_weigh_172 : decode cX17_weigh 172 = .ok (.ifCond .eq 17, 3) := by decide +kernel
theorem dr_cX17_weigh_189 : decode cX17_weigh 189 = .ok (.iinc 5 1, 3) := by decide +kernel
theorem dr_cX17_weigh_192 : decode cX17_weigh 192 = .ok (.goto (-118), 3) := by decide +kernel
theorem dr_cX17_weigh_175 : decode cX17_weigh 175 = .ok (.aload_n 0, 1) := by decide +kernel
theorem dr_cX17_weigh_176 : decode cX17_weigh 176 = .ok (.getfield 174, 3) := by decide +kernel
theorem dr_cX17_weigh_179 : decode cX17_weigh 179 = .ok (.aload 6, 2) := by decide +kernel
theorem dr_cX17_weigh_181 : decode cX17_weigh 181 = .ok (.getfield 79, 3) := by decide +kernel
theorem dr_cX17_weigh_184 : decode cX17_weigh 184 = .ok (.dup2, 1) := by decide +kernel
theorem dr_cX17_weigh_185 : decode cX17_weigh 185 = .ok (.iaload, 1) := by decide +kernel
theorem dr_cX17_weigh_186 : decode cX17_weigh 186 = .ok (.iload_n 3, 1) := by decide +kernel
theorem dr_cX17_weigh_187 : decode cX17_weigh 187 = .ok (.iadd, 1) := by decide +kernel
theorem dr_cX17_weigh_188 : decode cX17_weigh 188 = .ok (.iastore, 1) := by decide +kernel
theorem dr_cX17_weigh_153 : decode cX17_weigh 153 = .ok (.aload_n 0, 1) := by decide +kernel
theorem dr_cX17_weigh_154 : decode cX17_weigh 154 = .ok (.getfield 174, 3) := by decide +kernel
theorem dr_cX17_weigh_157 : decode cX17_weigh 157 = .ok (.aload 6, 2) := by decide +kernel
theorem dr_cX17_weigh_159 : decode cX17_weigh 159 = .ok (.getfield 73, 3) := by decide +kernel
theorem dr_cX17_weigh_162 : decode cX17_weigh 162 = .ok (.dup2, 1) := by decide +kernel
theorem dr_cX17_weigh_163 : decode cX17_weigh 163 = .ok (.iaload, 1) := by decide +kernel
theorem dr_cX17_weigh_164 : decode cX17_weigh 164 = .ok (.iload_n 3, 1) := by decide +kernel
theorem dr_cX17_weigh_165 : decode cX17_weigh 165 = .ok (.iadd, 1) := by decide +kernel
theorem dr_cX17_weigh_166 : decode cX17_weigh 166 = .ok (.iastore, 1) := by decide +kernel
theorem dr_cX17_weigh_131 : decode cX17_weigh 131 = .ok (.aload_n 0, 1) := by decide +kernel
theorem dr_cX17_weigh_132 : decode cX17_weigh 132 = .ok (.getfield 174, 3) := by decide +kernel
theorem dr_cX17_weigh_135 : decode cX17_weigh 135 = .ok (.aload 6, 2) := by decide +kernel
theorem dr_cX17_weigh_137 : decode cX17_weigh 137 = .ok (.getfield 52, 3) := by decide +kernel
theorem dr_cX17_weigh_140 : decode cX17_weigh 140 = .ok (.dup2, 1) := by decide +kernel
theorem dr_cX17_weigh_141 : decode cX17_weigh 141 = .ok (.iaload, 1) := by decide +kernel
theorem dr_cX17_weigh_142 : decode cX17_weigh 142 = .ok (.iload_n 3, 1) := by decide +kernel
theorem dr_cX17_weigh_143 : decode cX17_weigh 143 = .ok (.iadd, 1) := by decide +kernel
theorem dr_cX17_weigh_144 : decode cX17_weigh 144 = .ok (.iastore, 1) := by decide +kernel
theorem dr_cX17_weigh_100 : decode cX17_weigh 100 = .ok (.aload 4, 2) := by decide +kernel
theorem dr_cX17_weigh_102 : decode cX17_weigh 102 = .ok (.getfield 117, 3) := by decide +kernel
theorem dr_cX17_weigh_105 : decode cX17_weigh 105 = .ok (.iload 5, 2) := by decide +kernel
theorem dr_cX17_weigh_107 : decode cX17_weigh 107 = .ok (.invokevirtual 124, 3) := by decide +kernel
theorem dr_cX17_weigh_110 : decode cX17_weigh 110 = .ok (.checkcast 40, 3) := by decide +kernel
theorem dr_cX17_weigh_113 : decode cX17_weigh 113 = .ok (.goto 8, 3) := by decide +kernel
theorem dr_cX17_weigh_53 : decode cX17_weigh 53 = .ok (.iload_n 3, 1) := by decide +kernel
theorem dr_cX17_weigh_54 : decode cX17_weigh 54 = .ok (.bipush 10, 2) := by decide +kernel
theorem dr_cX17_weigh_56 : decode cX17_weigh 56 = .ok (.imul, 1) := by decide +kernel
theorem dr_cX17_weigh_57 : decode cX17_weigh 57 = .ok (.istore_n 3, 1) := by decide +kernel
theorem dr_cX17_weigh_58 : decode cX17_weigh 58 = .ok (.iinc 4 1, 3) := by decide +kernel
theorem dr_cX17_weigh_61 : decode cX17_weigh 61 = .ok (.goto (-19), 3) := by decide +kernel
theorem dr_cX17_weigh_14 : decode cX17_weigh 14 = .ok (.aload_n 0, 1) := by decide +kernel
theorem dr_cX17_weigh_15 : decode cX17_weigh 15 = .ok (.getfield 174, 3) := by decide +kernel
theorem dr_cX17_weigh_18 : decode cX17_weigh 18 = .ok (.iload_n 2, 1) := by decide +kernel
theorem dr_cX17_weigh_19 : decode cX17_weigh 19 = .ok (.iconst 0, 1) := by decide +kernel
theorem dr_cX17_weigh_20 : decode cX17_weigh 20 = .ok (.iastore, 1) := by decide +kernel
theorem dr_cX17_weigh_21 : decode cX17_weigh 21 = .ok (.iinc 2 1, 3) := by decide +kernel
theorem dr_cX17_weigh_24 : decode cX17_weigh 24 = .ok (.goto (-17), 3) := by decide +kernel
abbrev ky_410275_SpillForgeModel_weigh : gKey := (cX17_weigh, 7, "SpillForgeModel", none, [], "weigh", fun _ _ => True)
def pt_410275_SpillForgeModel_weigh (D : va_G) (I : FieldType → ClassId) (γ el : Nat → Nat → Nat) (P410270 : List Nat) (F410271 : Nat → va_E) (q410272 : Nat) (q410273 : Nat) : Option Value → va_W → Nat → Nat → Prop := fun r w dc ds => ∃ (F580922 : Nat → va_E), r = none ∧ w = va_pl P410270 F580922 ∧ RS D I P410270 F580922 γ el ∧ rStr γ [] F410271 F580922 ∧ dc ≤ 0 ∧ ds ≤ 0 ∧ (F580922 q410272 = F410271 q410272) ∧ (F580922 (γ 9 3) = F410271 (γ 9 3)) ∧ tr_RModel_weigh D I γ el P410270 F410271 q410272 q410273 F580922
set_option maxRecDepth 100000 in
set_option maxHeartbeats 4000000 in
theorem ct_410275_SpillForgeModel_weigh (l : Launch) (hl0 : l.stackTraces = false) (D : va_G) (I : FieldType → ClassId) (γ el : Nat → Nat → Nat) (P410270 : List Nat) (F410271 : Nat → va_E) (q410272 : Nat) (q410273 : Nat) (hT : RS D I P410270 F410271 γ el) (htq410272 : rKd γ q410272 10) (htq410273 : rKd γ q410273 9) (x410274 : 0 < γ 6 (γ 1 q410273)) : CtA (gV D I) l yX17_weigh cX17_weigh 7 none 6 144 0 0 [.ref q410272, .ref q410273] (va_pl P410270 F410271) (pt_410275_SpillForgeModel_weigh D I γ el P410270 F410271 q410272 q410273) gNA := by
  refine CtA_of hl0 (by decide) (Nat.le_of_ble_eq_true rfl) ?_
  have hm410276 : q410272 ∈ P410270 := RS_m hT htq410272 (by decide)
  refine rk10_e (show rk_10 γ (F410271 q410272) from RS_o hT htq410272) (fun q410278 q410279 p410280 p410281 p410282 p410283 p410284 p410285 p410286 p410287 p410288 p410289 p410290 p410291 p410292 p410293 p410294 he410277 hB410321 ht410295 ht410296 ht410297 ht410298 ht410299 ht410300 ht410301 ht410302 ht410303 ht410304 ht410305 ht410306 ht410307 ht410308 ht410309 ht410310 ht410311 ht410312 ht410313 ht410314 ht410315 ht410316 ht410317 ht410318 hB410322 => ?_)
  refine G_aload_n 0 dr_cX17_weigh_0 rfl ?_
  refine G_aload_n 1 dr_cX17_weigh_1 rfl ?_
  refine Gw_callV (As := [.ref q410273]) (gV_ok D I) (ct_410328_SpillForgeModel_findDepth l hl0 D I γ el P410270 F410271 q410272 q410273 hT htq410272 htq410273 (by omega)) dr_cX17_weigh_2 ⟨wr_11_37, wr_1_14, wr_11_40, by decide, rfl, (Nat.le_of_ble_eq_true rfl), (Nat.le_of_ble_eq_true rfl)⟩ wr_11_39 wr_p_105 hm410276 he410277 rfl (show 0 + 0 ≤ 0 by first | omega | decide) (show 0 + 0 ≤ 0 by first | omega | decide) (Nat.le_of_ble_eq_true rfl) (fun r536467 w536468 dc536464 ds536465 hp536466 => ?_) (fun _ _ _ _ _ z => z.elim)
  obtain ⟨F536472, rfl, rfl, hT536473, hs536474, hdc, hds, x536469, x536470, ht536471⟩ := hp536466
  have hs536475 : rStr γ [] F410271 F536472 := rStr_tr (rStr_rf (γ := γ) (W := []) (F := F410271)) hs536474
  have kp536476 : F536472 q410272 = F410271 q410272 := x536469
  have kp536477 : F536472 (γ 9 3) = F410271 (γ 9 3) := x536470
  have he536478 : F536472 q410272 = .inr (22, [.ref (γ 9 0), .ref (γ 9 1), .ref (γ 9 2), .ref (γ 9 3), .ref (γ 9 4), .ref (γ 9 5), .ref (γ 9 6), .ref (γ 9 7), .ref (γ 9 8), .int p410280, .int p410281, .int p410282, .int p410283, .int p410284, .int p410285, .ref (γ 9 15), .ref (γ 9 16), .ref (γ 9 17), .ref (γ 9 18), .ref (γ 9 19), .ref (γ 9 20), .ref (γ 9 21), .ref (γ 9 22), .int p410286, .int p410287, .int p410288, .int p410289, .int p410290, .ref q410278, .ref (γ 9 29), .int p410291, .ref (γ 9 31), .int p410292, .int p410293, .int p410294, .ref q410279]) := (x536469).trans he410277
  change G _ _ _ _ _ _ _ _ _ _ _
  refine G_widen (cs' := 0) (sl' := 0) (by omega) (by omega) ?_
  refine G_iconst 0 dr_cX17_weigh_5 (by decide +kernel) ?_
  refine G_istore_n (L' := [(2, .int 0), (0, .ref q410272), (1, .ref q410273)]) dr_cX17_weigh_6 (Nat.le_of_ble_eq_true rfl) rfl ?_
  have hlp7_576232 : ∀ (n7_576232 : Nat) (F576228 : Nat → va_E) (g576227 : Int32), gB g576227 0 2000 → RS D I P410270 F576228 γ el → rStr γ [] F410271 F576228 → (F576228 q410272 = F410271 q410272) → (F576228 (γ 9 3) = F410271 (γ 9 3)) → (∀ (k : Nat) (e1 : Nat → va_E), tl_RModel_weigh_7 D I γ el P410270 F410271 q410272 F576228 g576227 k e1 → tl_RModel_weigh_7 D I γ el P410270 F410271 q410272 F536472 (0 : Int32) k e1) → ((2001 : Int) - g576227.toInt).toNat < n7_576232 → G (gV D I) l (gRm 6 144 0 0) (gMA (gV D I) (pt_410275_SpillForgeModel_weigh D I γ el P410270 F410271 q410272 q410273) gNA 0 0) ky_410275_SpillForgeModel_weigh 7 [(2, .int g576227), (0, .ref q410272), (1, .ref q410273)] [] (va_pl P410270 F576228) 0 0 := by
    intro n7_576232
    induction n7_576232 with
    | zero => intro F576228 g576227 bg576227 hT576229 hs576230 x576231 x576232 kt7_576233 hm7_576232; exact absurd hm7_576232 (Nat.not_lt_zero _)
    | succ n7_576232 ih7_576232 =>
      intro F576228 g576227 bg576227 hT576229 hs576230 x576231 x576232 kt7_576233 hm7_576232
      have hs576234 : rStr γ [] F536472 F576228 := fun b h0 hb hw => (hs576230 b h0 hb hw).trans (hs536475 b h0 hb hw).symm
      have hs576235 : rStr γ [] F410271 F576228 := rStr_tr hs536475 hs576234
      have he576236 : F576228 q410272 = .inr (22, [.ref (γ 9 0), .ref (γ 9 1), .ref (γ 9 2), .ref (γ 9 3), .ref (γ 9 4), .ref (γ 9 5), .ref (γ 9 6), .ref (γ 9 7), .ref (γ 9 8), .int p410280, .int p410281, .int p410282, .int p410283, .int p410284, .int p410285, .ref (γ 9 15), .ref (γ 9 16), .ref (γ 9 17), .ref (γ 9 18), .ref (γ 9 19), .ref (γ 9 20), .ref (γ 9 21), .ref (γ 9 22), .int p410286, .int p410287, .int p410288, .int p410289, .int p410290, .ref q410278, .ref (γ 9 29), .int p410291, .ref (γ 9 31), .int p410292, .int p410293, .int p410294, .ref q410279]) := x576231.trans he410277
      have hm576237 : q410272 ∈ P410270 := RS_m hT576229 htq410272 (by decide)
      refine G_iload_n 0 dr_cX17_weigh_7 rfl ?_
      refine G_sipush 2000 dr_cX17_weigh_8 (by decide +kernel) ?_
      refine G_icmp_ge 27 dr_cX17_weigh_11 (by decide +kernel) (fun hc576238 => ?_) (fun hc576238 => ?_)
      · have r576239 : 2000 ≤ g576227.toInt := gj_leL hc576238 (show Int32.toInt 2000 = 2000 by decide)
        have bg576227' : gB g576227 2000 2000 := ⟨by omega, by omega⟩
        have hx576240 : tl_RModel_weigh_7 D I γ el P410270 F410271 q410272 F536472 (0 : Int32) 27 F576228 := kt7_576233 27 F576228 (fun R c1 c2 => c1 F576228 g576227 bg576227 hT576229 hs576230 x576231 x576232 r576239)
        refine G_iconst 0 dr_cX17_weigh_27 (by decide +kernel) ?_
        refine G_istore_n (L' := [(2, .int 0), (0, .ref q410272), (1, .ref q410273)]) dr_cX17_weigh_28 (Nat.le_of_ble_eq_true rfl) rfl ?_
        have hlp29_578547 : ∀ (n29_578547 : Nat) (F578543 : Nat → va_E) (g578542 : Int32), gB g578542 0 1000000 → RS D I P410270 F578543 γ el → rStr γ [] F410271 F578543 → (F578543 q410272 = F410271 q410272) → (F578543 (γ 9 3) = F410271 (γ 9 3)) → (∀ (k : Nat) (e1 : Nat → va_E), tl_RModel_weigh_29 D I γ el P410270 F410271 q410272 q410273 F578543 g578542 k e1 → tl_RModel_weigh_29 D I γ el P410270 F410271 q410272 q410273 F576228 (0 : Int32) k e1) → ((1000001 : Int) - g578542.toInt).toNat < n29_578547 → G (gV D I) l (gRm 6 144 0 0) (gMA (gV D I) (pt_410275_SpillForgeModel_weigh D I γ el P410270 F410271 q410272 q410273) gNA 0 0) ky_410275_SpillForgeModel_weigh 29 [(2, .int g578542), (0, .ref q410272), (1, .ref q410273)] [] (va_pl P410270 F578543) 0 0 := by
          intro n29_578547
          induction n29_578547 with
          | zero => intro F578543 g578542 bg578542 hT578544 hs578545 x578546 x578547 kt29_578548 hm29_578547; exact absurd hm29_578547 (Nat.not_lt_zero _)
          | succ n29_578547 ih29_578547 =>
            intro F578543 g578542 bg578542 hT578544 hs578545 x578546 x578547 kt29_578548 hm29_578547
            have hs578549 : rStr γ [] F576228 F578543 := fun b h0 hb hw => (hs578545 b h0 hb hw).trans (hs576230 b h0 hb hw).symm
            have hs578550 : rStr γ [] F410271 F578543 := rStr_tr hs576230 hs578549
            have he578551 : F578543 q410272 = .inr (22, [.ref (γ 9 0), .ref (γ 9 1), .ref (γ 9 2), .ref (γ 9 3), .ref (γ 9 4), .ref (γ 9 5), .ref (γ 9 6), .ref (γ 9 7), .ref (γ 9 8), .int p410280, .int p410281, .int p410282, .int p410283, .int p410284, .int p410285, .ref (γ 9 15), .ref (γ 9 16), .ref (γ 9 17), .ref (γ 9 18), .ref (γ 9 19), .ref (γ 9 20), .ref (γ 9 21), .ref (γ 9 22), .int p410286, .int p410287, .int p410288, .int p410289, .int p410290, .ref q410278, .ref (γ 9 29), .int p410291, .ref (γ 9 31), .int p410292, .int p410293, .int p410294, .ref q410279]) := x578546.trans he410277
            have hm578552 : q410272 ∈ P410270 := RS_m hT578544 htq410272 (by decide)
            refine G_iload_n 0 dr_cX17_weigh_29 rfl ?_
            refine G_aload_n 2 dr_cX17_weigh_30 rfl ?_
            have hm578553 : q410273 ∈ P410270 := RS_m hT578544 htq410273 (by decide)
            obtain ⟨q578555, q578556, p578557, p578558, he578554, ht578574, ht578559, ht578560, ht578561, ht578562, r578563, r578564, r578565, r578566, r578567, r578568, r578569, r578570, r578571, r578572, r578573⟩ := show rk_9 γ el q410273 (F578543 q410273) from RS_o hT578544 htq410273
            have bp578557 : gB p578557 0 1000000 := ⟨by omega, by omega⟩
            have bp578558 : gB p578558 0 1000000 := ⟨by omega, by omega⟩
            have fq578575 : fI (F578543 q410273) 3 = p578558 := by rw [he578554]; rfl
            refine Gw_callV (As := []) (gV_ok D I) (cp_12780_Code_size l hl0 D I P410270 F578543 q410273 q578555 q578556 p578557 p578558 hm578553 he578554) dr_cX17_weigh_31 ⟨wr_10_160, wr_1_15, wr_9_131, by decide, rfl, (Nat.le_of_ble_eq_true rfl), (Nat.le_of_ble_eq_true rfl)⟩ wr_9_129 wr_9_130 hm578553 he578554 rfl (show 0 + 0 ≤ 0 by first | omega | decide) (show 0 + 0 ≤ 0 by first | omega | decide) (Nat.le_of_ble_eq_true rfl) (fun r578579 w578580 dc578576 ds578577 hp578578 => ?_) (fun _ _ _ _ _ z => z.elim)
            obtain ⟨rfl, rfl, hdc, hds⟩ := hp578578
            change G _ _ _ _ _ _ _ (.int p578558 :: _) _ _ _
            refine G_widen (cs' := 0) (sl' := 0) (by omega) (by omega) ?_
            refine G_icmp_ge 201 dr_cX17_weigh_34 (by decide +kernel) (fun hc578581 => ?_) (fun hc578581 => ?_)
            · have r578582 : p578558.toInt ≤ g578542.toInt := gC_le hc578581
              have hx578583 : tl_RModel_weigh_29 D I γ el P410270 F410271 q410272 q410273 F576228 (0 : Int32) 201 F578543 := kt29_578548 201 F578543 (fun R c1 c2 => c1 F578543 g578542 p578558 bg578542 hT578544 hs578545 x578546 x578547 fq578575 r578582)
              exact G_vretA dr_cX17_weigh_201 rfl (Nat.le_of_ble_eq_true rfl) (Nat.le_of_ble_eq_true rfl) ⟨F578543, rfl, rfl, hT578544, hs578545, (Nat.le_of_ble_eq_true rfl), (Nat.le_of_ble_eq_true rfl), x578546, x578547, (fun R c1 => c1 F536472 F576228 F578543 hT536473 hs536474 x536469 x536470 ht536471 hx576240 hx578583)⟩
            · have r578584 : g578542.toInt < p578558.toInt := gC_nle hc578581
              have bg578542' : gB g578542 0 999999 := ⟨by omega, by omega⟩
              have bp578558' : gB p578558 1 1000000 := ⟨by omega, by omega⟩
              refine G_iconst 1 dr_cX17_weigh_37 (by decide +kernel) ?_
              refine G_istore_n (L' := [(3, .int 1), (2, .int g578542), (0, .ref q410272), (1, .ref q410273)]) dr_cX17_weigh_38 (Nat.le_of_ble_eq_true rfl) rfl ?_
              refine G_iconst 0 dr_cX17_weigh_39 (by decide +kernel) ?_
              refine G_istore (L' := [(4, .int 0), (3, .int 1), (2, .int g578542), (0, .ref q410272), (1, .ref q410273)]) dr_cX17_weigh_40 (Nat.le_of_ble_eq_true rfl) rfl ?_
              have hlp42_579717 : ∀ (n42_579717 : Nat) (g579716 : Int32) (g579717 : Int32), gB g579716 0 2147483647 → (∀ (k : Nat) (e1 : Int32), tl_RModel_weigh_42 D I γ el F578543 q410272 g578542 g579716 g579717 k e1 → tl_RModel_weigh_42 D I γ el F578543 q410272 g578542 (0 : Int32) (1 : Int32) k e1) → ((2147483648 : Int) - g579716.toInt).toNat < n42_579717 → G (gV D I) l (gRm 6 144 0 0) (gMA (gV D I) (pt_410275_SpillForgeModel_weigh D I γ el P410270 F410271 q410272 q410273) gNA 0 0) ky_410275_SpillForgeModel_weigh 42 [(4, .int g579716), (3, .int g579717), (2, .int g578542), (0, .ref q410272), (1, .ref q410273)] [] (va_pl P410270 F578543) 0 0 := by
                intro n42_579717
                induction n42_579717 with
                | zero => intro g579716 g579717 bg579716 kt42_579718 hm42_579717; exact absurd hm42_579717 (Nat.not_lt_zero _)
                | succ n42_579717 ih42_579717 =>
                  intro g579716 g579717 bg579716 kt42_579718 hm42_579717
                  have bg579717 := gB_any g579717
                  refine G_iload 0 dr_cX17_weigh_42 rfl ?_
                  refine G_aload_n 3 dr_cX17_weigh_44 rfl ?_
                  have fq579719 : fR (F578543 q410272) 4 = (γ 9 4) := by rw [he578551]; rfl
                  refine Gp_get 4 hm578552 he578551 dr_cX17_weigh_45 (gk_X17 D I) (Nat.le_of_ble_eq_true rfl) wr_7_78 rfl ?_
                  refine G_iload_n 2 dr_cX17_weigh_48 rfl ?_
                  have hm579720 : (γ 9 4) ∈ P410270 := RS_m hT578544 ht410301 (by decide)
                  obtain ⟨f579722, he579721⟩ := show rk_16 I (F578543 (γ 9 4)) from RS_o hT578544 ht410301
                  refine Gp_iald 0 hm579720 he579721 dr_cX17_weigh_49 rfl (gB_inr (by omega) (by omega)) (G_nam fun z579723 hz579723 => ?_)
                  have bz579723 : gB z579723 (-2147483648) 2147483647 := gB_any z579723
                  refine G_icmp_ge 64 dr_cX17_weigh_50 (by decide +kernel) (fun hc579724 => ?_) (fun hc579724 => ?_)
                  · have r579725 : z579723.toInt ≤ g579716.toInt := gC_le hc579724
                    have hx579726 : tl_RModel_weigh_42 D I γ el F578543 q410272 g578542 (0 : Int32) (1 : Int32) 64 g579717 := kt42_579718 64 g579717 (fun R c1 c2 => c1 g579716 g579717 f579722 z579723 bg579716 fq579719 he579721 hz579723 r579725)
                    refine G_aload_n 4 dr_cX17_weigh_64 rfl ?_
                    refine G_iload_n 2 dr_cX17_weigh_65 rfl ?_
                    have hm579727 : q578555 ∈ P410270 := RS_m hT578544 ht578559 (by decide)
                    obtain ⟨⟨p579729, p579730, q579731, he579728, r579732, r579733, r579734, r579736⟩, r579735⟩ := show rk_4 D I γ el F578543 q578555 from RS_o hT578544 ht578559
                    have bp579729 := gB_any p579729
                    have bp579730 : gB p579730 0 1000000 := ⟨by omega, by omega⟩
                    obtain ⟨r579737, r579738, n579745, f579746, r579739, r579740, r579741, r579742, r579743, r579744⟩ := rLC_n r579734 (by omega)
                    have hm579747 : q579731 ∈ P410270 := RS_m hT578544 r579737 (by decide)
                    obtain ⟨q579748, hx579749⟩ : ∃ x, x = el q578555 g578542.toInt.toNat := ⟨_, rfl⟩
                    have fq579753 : fR (F578543 q410273) 0 = q578555 := by rw [he578554]; rfl
                    have hx579750 : f579746 g578542.toNatClampNeg = some q579748 := (r579743 _ (show g578542.toInt.toNat < γ 2 q578555 by omega)).trans (by rw [hx579749])
                    have ht579754 : rKd γ q579748 2 := by rw [hx579749]; exact (r578570 _ (by omega)).resolve_right (fun z => absurd z.1 (by omega))
                    have ht579755 : rFm γ q579748 q578555 := by rw [hx579749]; exact (r579735 _ (show g578542.toInt.toNat < γ 2 q578555 by omega)).2.1
                    have hm579756 : q579748 ∈ P410270 := RS_m hT578544 ht579754 (by decide)
                    obtain ⟨q579758, q579759, p579760, p579761, he579757, ht579768, ht579762, ht579763, ht579764, ht579765, ht579766, bp579760, bp579761, r579767, r579769, r579770⟩ := show rk_2 γ q579748 (F578543 q579748) from RS_o hT578544 ht579754
                    have fq579771 : fI (F578543 q578555) 2 = p579730 := by rw [he579728]; rfl
                    refine Gw_callV (As := [.int g578542]) (gV_ok D I) (cp_7901_Code_get l hl0 D I P410270 F578543 q410273 q578555 q579731 g578542 q578556 p578557 p578558 p579729 p579730 f579746 n579745 q579748 q579758 q579759 p579760 p579761 hm578553 hm579727 hm579747 hm579756 he578554 he579728 r579739 he579757 (gB_w bg578542' (by decide) (by decide)) (gB_w bp579730 (by decide) (by decide)) (by omega) (by omega) (by assumption) (by omega)) dr_cX17_weigh_66 ⟨wr_10_161, wr_1_15, wr_10_141, by decide, rfl, (Nat.le_of_ble_eq_true rfl), (Nat.le_of_ble_eq_true rfl)⟩ wr_10_139 wr_10_140 hm578553 he578554 rfl (show 0 + 0 ≤ 0 by first | omega | decide) (show 0 + 0 ≤ 0 by first | omega | decide) (Nat.le_of_ble_eq_true rfl) (fun r579775 w579776 dc579772 ds579773 hp579774 => ?_) (fun _ _ _ _ _ z => z.elim)
                    obtain ⟨rfl, rfl, hdc, hds, ht579777⟩ := hp579774
                    change G _ _ _ _ _ _ _ (.ref q579748 :: _) _ _ _
                    refine G_widen (cs' := 0) (sl' := 0) (by omega) (by omega) ?_
                    refine G_astore (L' := [(4, .ref q579748), (3, .int g579717), (2, .int g578542), (0, .ref q410272), (1, .ref q410273)]) dr_cX17_weigh_69 (Nat.le_of_ble_eq_true rfl) rfl ?_
                    refine G_iconst 0 dr_cX17_weigh_71 (by decide +kernel) ?_
                    refine G_istore (L' := [(5, .int 0), (4, .ref q579748), (3, .int g579717), (2, .int g578542), (0, .ref q410272), (1, .ref q410273)]) dr_cX17_weigh_72 (Nat.le_of_ble_eq_true rfl) rfl ?_
                    have hlp74_580317 : ∀ (n74_580317 : Nat) (F580313 : Nat → va_E) (g580312 : Int32), gB g580312 0 1000001 → RS D I P410270 F580313 γ el → rStr γ [] F410271 F580313 → (F580313 q410272 = F410271 q410272) → (F580313 (γ 9 3) = F410271 (γ 9 3)) → (∀ (k : Nat) (e1 : Nat → va_E), tl_RModel_weigh_74 D I γ el P410270 F410271 q410272 q579748 g579717 F580313 g580312 k e1 → tl_RModel_weigh_74 D I γ el P410270 F410271 q410272 q579748 g579717 F578543 (0 : Int32) k e1) → ((1000002 : Int) - g580312.toInt).toNat < n74_580317 → G (gV D I) l (gRm 6 144 0 0) (gMA (gV D I) (pt_410275_SpillForgeModel_weigh D I γ el P410270 F410271 q410272 q410273) gNA 0 0) ky_410275_SpillForgeModel_weigh 74 [(5, .int g580312), (4, .ref q579748), (3, .int g579717), (2, .int g578542), (0, .ref q410272), (1, .ref q410273)] [] (va_pl P410270 F580313) 0 0 := by
                      intro n74_580317
                      induction n74_580317 with
                      | zero => intro F580313 g580312 bg580312 hT580314 hs580315 x580316 x580317 kt74_580318 hm74_580317; exact absurd hm74_580317 (Nat.not_lt_zero _)
                      | succ n74_580317 ih74_580317 =>
                        intro F580313 g580312 bg580312 hT580314 hs580315 x580316 x580317 kt74_580318 hm74_580317
                        have hs580319 : rStr γ [] F578543 F580313 := fun b h0 hb hw => (hs580315 b h0 hb hw).trans (hs578545 b h0 hb hw).symm
                        have he580320 : F580313 q410273 = .inr (18, [.ref q578555, .ref q578556, .int p578557, .int p578558]) := (hs580319 q410273 (rT0 htq410273 (by decide)) (rT1 htq410273 (by decide)) (rT2 htq410273 (by decide))).trans he578554
                        have he580321 : F580313 q578555 = .inr (4, [.int p579729, .ref q579731, .int p579730]) := (hs580319 q578555 (rT0 ht578559 (by decide)) (rT1 ht578559 (by decide)) (rT2 ht578559 (by decide))).trans he579728
                        have he580322 : F580313 q579731 = .inl (I (.object "java/lang/Object"), n579745, .inr (.inr (.inr (.inr f579746)))) := (hs580319 q579731 (rT0 r579737 (by decide)) (rT1 r579737 (by decide)) (rT2 r579737 (by decide))).trans r579739
                        have he580323 : F580313 q579748 = .inr (17, [.ref q579758, .ref q579759, .int p579760, .int p579761]) := (hs580319 q579748 (rT0 ht579754 (by decide)) (rT1 ht579754 (by decide)) (rT2 ht579754 (by decide))).trans he579757
                        have hs580324 : rStr γ [] F410271 F580313 := rStr_tr hs578545 hs580319
                        have he580325 : F580313 q410272 = .inr (22, [.ref (γ 9 0), .ref (γ 9 1), .ref (γ 9 2), .ref (γ 9 3), .ref (γ 9 4), .ref (γ 9 5), .ref (γ 9 6), .ref (γ 9 7), .ref (γ 9 8), .int p410280, .int p410281, .int p410282, .int p410283, .int p410284, .int p410285, .ref (γ 9 15), .ref (γ 9 16), .ref (γ 9 17), .ref (γ 9 18), .ref (γ 9 19), .ref (γ 9 20), .ref (γ 9 21), .ref (γ 9 22), .int p410286, .int p410287, .int p410288, .int p410289, .int p410290, .ref q410278, .ref (γ 9 29), .int p410291, .ref (γ 9 31), .int p410292, .int p410293, .int p410294, .ref q410279]) := x580316.trans he410277
                        have hm580326 : q410272 ∈ P410270 := RS_m hT580314 htq410272 (by decide)
                        refine G_iload 0 dr_cX17_weigh_74 rfl ?_
                        refine G_aload 1 dr_cX17_weigh_76 rfl ?_
                        have fq580327 : fR (F580313 q579748) 0 = q579758 := by rw [he580323]; rfl
                        refine Gp_get 0 hm579756 he580323 dr_cX17_weigh_78 (gk_X12 D I) (Nat.le_of_ble_eq_true rfl) wr_9_220 rfl ?_
                        have hm580328 : q579758 ∈ P410270 := RS_m hT580314 ht579762 (by decide)
                        obtain ⟨⟨p580330, p580331, q580332, he580329, r580333, r580334, r580335, r580337⟩, r580336⟩ := show rk_3 D I γ el F580313 q579758 from RS_o hT580314 ht579762
                        have bp580330 := gB_any p580330
                        have bp580331 : gB p580331 0 1000000 := ⟨by omega, by omega⟩
                        have fq580338 : p580331.toInt = (γ 2 q579758 : Int) := by omega
                        have fq580339 : fI (F580313 q579758) 2 = p580331 := by rw [he580329]; rfl
                        refine Gw_callV (As := []) (gV_ok D I) (cp_7_ArrayList_size l hl0 D I P410270 F580313 q579758 p580330 q580332 p580331 hm580328 he580329 (gB_w bp580331 (by decide) (by decide))) dr_cX17_weigh_81 ⟨wr_10_200, wr_1_18, wr_9_160, by decide, rfl, (Nat.le_of_ble_eq_true rfl), (Nat.le_of_ble_eq_true rfl)⟩ wr_9_158 wr_9_159 hm580328 he580329 rfl (show 0 + 0 ≤ 0 by first | omega | decide) (show 0 + 0 ≤ 0 by first | omega | decide) (Nat.le_of_ble_eq_true rfl) (fun r580343 w580344 dc580340 ds580341 hp580342 => ?_) (fun _ _ _ _ _ z => z.elim)
                        obtain ⟨rfl, rfl, hdc, hds⟩ := hp580342
                        change G _ _ _ _ _ _ _ (.int p580331 :: _) _ _ _
                        refine G_widen (cs' := 0) (sl' := 0) (by omega) (by omega) ?_
                        refine G_icmp_gt 195 dr_cX17_weigh_84 (by decide +kernel) (fun hc580345 => ?_) (fun hc580345 => ?_)
                        · have r580346 : p580331.toInt < g580312.toInt := gC_lt hc580345
                          have bg580312' : gB g580312 1 1000001 := ⟨by omega, by omega⟩
                          have hx580347 : tl_RModel_weigh_74 D I γ el P410270 F410271 q410272 q579748 g579717 F578543 (0 : Int32) 195 F580313 := kt74_580318 195 F580313 (fun R c1 c2 c3 c4 c5 c6 c7 c8 c9 c10 c11 c12 c13 c14 c15 c16 c17 => c1 F580313 g580312 q579758 p580331 bg580312 hT580314 hs580315 x580316 x580317 fq580327 fq580338 fq580339 r580346)
                          obtain ⟨z580348, hz580348⟩ : ∃ z : Int32, z = g578542 + Int32.ofInt 1 := ⟨_, rfl⟩
                          have ez580348 : z580348.toInt = g578542.toInt + 1 := gI_inc hz580348 (by decide) bg578542' (by decide) (by decide)
                          have bz580348 : gB z580348 1 1000000 := ⟨by omega, by omega⟩
                          refine G_iinc (L' := [(2, .int z580348), (5, .int g580312), (4, .ref q579748), (3, .int g579717), (0, .ref q410272), (1, .ref q410273)]) z580348 3 dr_cX17_weigh_195 rfl hz580348.symm (Nat.le_of_ble_eq_true rfl) rfl ?_
                          refine G_goto 29 dr_cX17_weigh_198 (by decide +kernel) ?_
                          refine G_lv (L' := [(2, .int z580348), (0, .ref q410272), (1, .ref q410273)]) [0, 4, 5] rfl ?_
                          exact ih29_578547 F580313 z580348 (gB_w bz580348 (by decide) (by decide)) hT580314 hs580315 x580316 x580317 (fun k e1 ht => kt29_578548 k e1 (fun R c1 c2 => c2 F578543 g578542 p578558 g579717 q578555 q579748 p579730 F580313 z580348 k e1 bg578542 hT578544 hs578545 x578546 x578547 fq578575 r578584 hx579726 fq579753 hx579749 fq579771 ht579777 hx580347 ez580348 (ht R c1 c2))) (mz_up ez580348 (Int.le_trans bg578542'.2 (by decide)) hm29_578547)
                        · have r580349 : g580312.toInt ≤ p580331.toInt := gC_nlt hc580345
                          have bg580312' : gB g580312 0 1000000 := ⟨by omega, by omega⟩
                          refine G_iload 0 dr_cX17_weigh_87 rfl ?_
                          refine G_aload 1 dr_cX17_weigh_89 rfl ?_
                          refine Gp_get 0 hm579756 he580323 dr_cX17_weigh_91 (gk_X12 D I) (Nat.le_of_ble_eq_true rfl) wr_9_220 rfl ?_
                          have fq580350 : p580331.toInt = (γ 2 q579758 : Int) := by omega
                          refine Gw_callV (As := []) (gV_ok D I) (cp_7_ArrayList_size l hl0 D I P410270 F580313 q579758 p580330 q580332 p580331 hm580328 he580329 (gB_w bp580331 (by decide) (by decide))) dr_cX17_weigh_94 ⟨wr_10_200, wr_1_18, wr_9_160, by decide, rfl, (Nat.le_of_ble_eq_true rfl), (Nat.le_of_ble_eq_true rfl)⟩ wr_9_158 wr_9_159 hm580328 he580329 rfl (show 0 + 0 ≤ 0 by first | omega | decide) (show 0 + 0 ≤ 0 by first | omega | decide) (Nat.le_of_ble_eq_true rfl) (fun r580354 w580355 dc580351 ds580352 hp580353 => ?_) (fun _ _ _ _ _ z => z.elim)
                          obtain ⟨rfl, rfl, hdc, hds⟩ := hp580353
                          change G _ _ _ _ _ _ _ (.int p580331 :: _) _ _ _
                          refine G_widen (cs' := 0) (sl' := 0) (by omega) (by omega) ?_
                          refine G_icmp_ge 116 dr_cX17_weigh_97 (by decide +kernel) (fun hc580356 => ?_) (fun hc580356 => ?_)
                          · have r580357 : p580331.toInt ≤ g580312.toInt := gC_le hc580356
                            refine G_aload 1 dr_cX17_weigh_116 rfl ?_
                            have fq580358 : fR (F580313 q579748) 1 = q579759 := by rw [he580323]; rfl
                            refine Gp_get 1 hm579756 he580323 dr_cX17_weigh_118 (gk_X12 D I) (Nat.le_of_ble_eq_true rfl) wr_9_223 rfl ?_
                            refine G_astore (L' := [(6, .ref q579759), (5, .int g580312), (4, .ref q579748), (3, .int g579717), (2, .int g578542), (0, .ref q410272), (1, .ref q410273)]) dr_cX17_weigh_121 (Nat.le_of_ble_eq_true rfl) rfl ?_
                            refine G_aload 0 dr_cX17_weigh_123 rfl ?_
                            have hm580359 : q579759 ∈ P410270 := RS_m hT580314 ht579764 (by decide)
                            obtain ⟨p580361, p580362, p580363, p580364, p580365, p580366, p580367, he580360, bp580361, bp580362, bp580365, bp580366, bp580367, r580368, r580369, r580370, r580371, r580372⟩ := show rk_1 γ q579759 (F580313 q579759) from RS_o hT580314 ht579764
                            have bp580363 := gB_any p580363
                            have bp580364 := gB_any p580364
                            have fq580373 : fI (F580313 q579759) 0 = p580361 := by rw [he580360]; rfl
                            refine Gw_callV (As := []) (gV_ok D I) (cp_1660_Row_sets l hl0 D I P410270 F580313 q579759 p580361 p580362 p580363 p580364 p580365 p580366 p580367 hm580359 he580360 bp580361 bp580362 bp580365 bp580366 bp580367) dr_cX17_weigh_125 ⟨wr_10_181, wr_1_39, wr_10_184, by decide, rfl, (Nat.le_of_ble_eq_true rfl), (Nat.le_of_ble_eq_true rfl)⟩ wr_10_182 wr_10_183 hm580359 he580360 rfl (show 0 + 0 ≤ 0 by first | omega | decide) (show 0 + 0 ≤ 0 by first | omega | decide) (Nat.le_of_ble_eq_true rfl) (fun r580377 w580378 dc580374 ds580375 hp580376 => ?_) (fun _ _ _ _ _ z => z.elim)
                            obtain ⟨o580379, rfl, rfl, hdc, hds, bo580379, ht580380⟩ := hp580376
                            change G _ _ _ _ _ _ _ (.int o580379 :: _) _ _ _
                            refine G_widen (cs' := 0) (sl' := 0) (by omega) (by omega) ?_
                            refine G_if_eq 145 dr_cX17_weigh_128 (by decide +kernel) (fun hc580381 => ?_) (fun hc580381 => ?_)
                            · have r580382 : o580379.toInt = 0 := gj_eq hc580381 (show Int32.toInt 0 = 0 by decide)
                              have bo580379' : gB o580379 0 0 := gB_t0 r580382
                              refine G_aload 0 dr_cX17_weigh_145 rfl ?_
                              have fq580383 : fI (F580313 q579759) 5 = p580366 := by rw [he580360]; rfl
                              refine Gw_callV (As := []) (gV_ok D I) (cp_1675_Row_usesA l hl0 D I P410270 F580313 q579759 p580361 p580362 p580363 p580364 p580365 p580366 p580367 hm580359 he580360 bp580361 bp580362 bp580365 bp580366 bp580367) dr_cX17_weigh_147 ⟨wr_10_192, wr_1_39, wr_10_195, by decide, rfl, (Nat.le_of_ble_eq_true rfl), (Nat.le_of_ble_eq_true rfl)⟩ wr_10_193 wr_10_194 hm580359 he580360 rfl (show 0 + 0 ≤ 0 by first | omega | decide) (show 0 + 0 ≤ 0 by first | omega | decide) (Nat.le_of_ble_eq_true rfl) (fun r580387 w580388 dc580384 ds580385 hp580386 => ?_) (fun _ _ _ _ _ z => z.elim)
                              obtain ⟨o580389, rfl, rfl, hdc, hds, bo580389, x580390, ht580391⟩ := hp580386
                              change G _ _ _ _ _ _ _ (.int o580389 :: _) _ _ _
                              refine G_widen (cs' := 0) (sl' := 0) (by omega) (by omega) ?_
                              refine G_if_eq 167 dr_cX17_weigh_150 (by decide +kernel) (fun hc580392 => ?_) (fun hc580392 => ?_)
                              · have r580393 : o580389.toInt = 0 := gj_eq hc580392 (show Int32.toInt 0 = 0 by decide)
                                have bo580389' : gB o580389 0 0 := gB_t0 r580393
                                refine G_aload 0 dr_cX17_weigh_167 rfl ?_
                                have fq580394 : fI (F580313 q579759) 6 = p580367 := by rw [he580360]; rfl
                                refine Gw_callV (As := []) (gV_ok D I) (cp_1699_Row_usesB l hl0 D I P410270 F580313 q579759 p580361 p580362 p580363 p580364 p580365 p580366 p580367 hm580359 he580360 bp580361 bp580362 bp580365 bp580366 bp580367) dr_cX17_weigh_169 ⟨wr_10_196, wr_1_39, wr_10_199, by decide, rfl, (Nat.le_of_ble_eq_true rfl), (Nat.le_of_ble_eq_true rfl)⟩ wr_10_197 wr_10_198 hm580359 he580360 rfl (show 0 + 0 ≤ 0 by first | omega | decide) (show 0 + 0 ≤ 0 by first | omega | decide) (Nat.le_of_ble_eq_true rfl) (fun r580398 w580399 dc580395 ds580396 hp580397 => ?_) (fun _ _ _ _ _ z => z.elim)
                                obtain ⟨o580400, rfl, rfl, hdc, hds, bo580400, x580401, ht580402⟩ := hp580397
                                change G _ _ _ _ _ _ _ (.int o580400 :: _) _ _ _
                                refine G_widen (cs' := 0) (sl' := 0) (by omega) (by omega) ?_
                                refine G_if_eq 189 dr_cX17_weigh_172 (by decide +kernel) (fun hc580403 => ?_) (fun hc580403 => ?_)
                                · have r580404 : o580400.toInt = 0 := gj_eq hc580403 (show Int32.toInt 0 = 0 by decide)
                                  have bo580400' : gB o580400 0 0 := gB_t0 r580404
                                  obtain ⟨z580405, hz580405⟩ : ∃ z : Int32, z = g580312 + Int32.ofInt 1 := ⟨_, rfl⟩
                                  have ez580405 : z580405.toInt = g580312.toInt + 1 := gI_inc hz580405 (by decide) bg580312' (by decide) (by decide)
                                  have bz580405 : gB z580405 1 1000001 := ⟨by omega, by omega⟩
                                  refine G_iinc (L' := [(5, .int z580405), (6, .ref q579759), (4, .ref q579748), (3, .int g579717), (2, .int g578542), (0, .ref q410272), (1, .ref q410273)]) z580405 1 dr_cX17_weigh_189 rfl hz580405.symm (Nat.le_of_ble_eq_true rfl) rfl ?_
                                  refine G_goto 74 dr_cX17_weigh_192 (by decide +kernel) ?_
                                  refine G_lv (L' := [(5, .int z580405), (4, .ref q579748), (3, .int g579717), (2, .int g578542), (0, .ref q410272), (1, .ref q410273)]) [0, 2, 3, 4, 5, 6] rfl ?_
                                  exact ih74_580317 F580313 z580405 (gB_w bz580405 (by decide) (by decide)) hT580314 hs580315 x580316 x580317 (fun k e1 ht => kt74_580318 k e1 (fun R c1 c2 c3 c4 c5 c6 c7 c8 c9 c10 c11 c12 c13 c14 c15 c16 c17 => c2 F580313 g580312 q579758 p580331 q579759 p580361 o580379 p580366 o580389 p580367 o580400 z580405 k e1 bg580312 hT580314 hs580315 x580316 x580317 fq580327 fq580338 fq580339 r580349 fq580350 r580357 fq580358 fq580373 bo580379 ht580380 r580382 fq580383 bo580389 ht580391 r580393 fq580394 bo580400 ht580402 r580404 ez580405 (ht R c1 c2 c3 c4 c5 c6 c7 c8 c9 c10 c11 c12 c13 c14 c15 c16 c17))) (mz_up ez580405 (Int.le_trans bg580312'.2 (by decide)) hm74_580317)
                                · have r580406 : o580400.toInt ≠ 0 := gj_neq hc580403 (show Int32.toInt 0 = 0 by decide)
                                  have bo580400' : gB o580400 1 1 := gB_t1 bo580400 r580406
                                  refine G_aload_n 5 dr_cX17_weigh_175 rfl ?_
                                  have fq580407 : fR (F580313 q410272) 5 = (γ 9 5) := by rw [he580325]; rfl
                                  refine Gp_get 5 hm580326 he580325 dr_cX17_weigh_176 (gk_X17 D I) (Nat.le_of_ble_eq_true rfl) wr_7_79 rfl ?_
                                  refine G_aload 0 dr_cX17_weigh_179 rfl ?_
                                  have fq580408 : fI (F580313 q579759) 3 = p580364 := by rw [he580360]; rfl
                                  refine Gp_get 3 hm580359 he580360 dr_cX17_weigh_181 (gk_X15 D I) (Nat.le_of_ble_eq_true rfl) wr_9_190 rfl ?_
                                  refine G_dup2_11 dr_cX17_weigh_184 rfl rfl ?_
                                  have hm580409 : (γ 9 5) ∈ P410270 := RS_m hT580314 ht410302 (by decide)
                                  obtain ⟨f580411, he580410⟩ := show rk_17 I (F580313 (γ 9 5)) from RS_o hT580314 ht410302
                                  refine Gp_iald 0 hm580409 he580410 dr_cX17_weigh_185 rfl (gB_inr (by omega) (by omega)) (G_nam fun z580412 hz580412 => ?_)
                                  have bz580412 : gB z580412 (-2147483648) 2147483647 := gB_any z580412
                                  refine G_iload_n 3 dr_cX17_weigh_186 rfl ?_
                                  refine G_iadd dr_cX17_weigh_187 (G_nam fun z580413 hz580413 => ?_)
                                  have bz580413 : gB z580413 (-2147483648) 2147483647 := gB_any z580413
                                  refine Gp_iast 0 hm580409 he580410 dr_cX17_weigh_188 rfl (gB_inr (by omega) (by omega)) (fun F580414 e580415 n580416 => ?_)
                                  obtain ⟨f580417, hf580417⟩ : ∃ z, z = upd f580411 p580364.toNatClampNeg z580413 := ⟨_, rfl⟩
                                  rw [← hf580417] at e580415
                                  have he580418 : F580414 q410273 = .inr (18, [.ref q578555, .ref q578556, .int p578557, .int p578558]) := (n580416 q410273 (rn_oa he580320 he580410)).trans he580320
                                  have he580419 : F580414 q578555 = .inr (4, [.int p579729, .ref q579731, .int p579730]) := (n580416 q578555 (rn_oa he580321 he580410)).trans he580321
                                  have he580420 : F580414 q579731 = .inl (I (.object "java/lang/Object"), n579745, .inr (.inr (.inr (.inr f579746)))) := (n580416 q579731 (rn_ref_num he580322 he580410)).trans he580322
                                  have he580421 : F580414 q579748 = .inr (17, [.ref q579758, .ref q579759, .int p579760, .int p579761]) := (n580416 q579748 (rn_oa he580323 he580410)).trans he580323
                                  have he580422 : F580414 q410272 = .inr (22, [.ref (γ 9 0), .ref (γ 9 1), .ref (γ 9 2), .ref (γ 9 3), .ref (γ 9 4), .ref (γ 9 5), .ref (γ 9 6), .ref (γ 9 7), .ref (γ 9 8), .int p410280, .int p410281, .int p410282, .int p410283, .int p410284, .int p410285, .ref (γ 9 15), .ref (γ 9 16), .ref (γ 9 17), .ref (γ 9 18), .ref (γ 9 19), .ref (γ 9 20), .ref (γ 9 21), .ref (γ 9 22), .int p410286, .int p410287, .int p410288, .int p410289, .int p410290, .ref q410278, .ref (γ 9 29), .int p410291, .ref (γ 9 31), .int p410292, .int p410293, .int p410294, .ref q410279]) := (n580416 q410272 (rn_oa he580325 he580410)).trans he580325
                                  have he580423 : F580414 q579758 = .inr (4, [.int p580330, .ref q580332, .int p580331]) := (n580416 q579758 (rn_oa he580329 he580410)).trans he580329
                                  have he580424 : F580414 q579759 = .inr (20, [.int p580361, .int p580362, .int p580363, .int p580364, .int p580365, .int p580366, .int p580367]) := (n580416 q579759 (rn_oa he580360 he580410)).trans he580360
                                  have he580425 : F580414 (γ 9 5) = .inl (I .int, 2000, .inl f580417) := e580415
                                  have hs580426 : rStr γ [] F410271 F580414 := rStr_put hs580315 n580416 ht410302 (by decide)
                                  have kp580427 : F580414 q410272 = F410271 q410272 := (n580416 q410272 (rn_ty htq410272 ht410302 (by decide))).trans x580316
                                  have kp580428 : F580414 (γ 9 3) = F410271 (γ 9 3) := (n580416 (γ 9 3) (rn_ty ht410300 ht410302 (by decide))).trans x580317
                                  obtain ⟨z580429, hz580429⟩ : ∃ z : Int32, z = g580312 + Int32.ofInt 1 := ⟨_, rfl⟩
                                  have ez580429 : z580429.toInt = g580312.toInt + 1 := gI_inc hz580429 (by decide) bg580312' (by decide) (by decide)
                                  have bz580429 : gB z580429 1 1000001 := ⟨by omega, by omega⟩
                                  refine G_iinc (L' := [(5, .int z580429), (6, .ref q579759), (4, .ref q579748), (3, .int g579717), (2, .int g578542), (0, .ref q410272), (1, .ref q410273)]) z580429 1 dr_cX17_weigh_189 rfl hz580429.symm (Nat.le_of_ble_eq_true rfl) rfl ?_
                                  refine G_goto 74 dr_cX17_weigh_192 (by decide +kernel) ?_
                                  have hT580430 : RS D I P410270 F580414 γ el := RS_set hT580314 n580416 ht410302 (by decide) ⟨f580417, he580425⟩
                                  refine G_lv (L' := [(5, .int z580429), (4, .ref q579748), (3, .int g579717), (2, .int g578542), (0, .ref q410272), (1, .ref q410273)]) [0, 2, 3, 4, 5, 6] rfl ?_
                                  exact ih74_580317 F580414 z580429 (gB_w bz580429 (by decide) (by decide)) hT580430 hs580426 kp580427 kp580428 (fun k e1 ht => kt74_580318 k e1 (fun R c1 c2 c3 c4 c5 c6 c7 c8 c9 c10 c11 c12 c13 c14 c15 c16 c17 => c3 F580313 g580312 q579758 p580331 q579759 p580361 o580379 p580366 o580389 p580367 o580400 p580364 f580411 z580412 z580413 f580417 F580414 z580429 k e1 bg580312 hT580314 hs580315 x580316 x580317 fq580327 fq580338 fq580339 r580349 fq580350 r580357 fq580358 fq580373 bo580379 ht580380 r580382 fq580383 bo580389 ht580391 r580393 fq580394 bo580400 ht580402 r580406 fq580407 fq580408 he580410 hz580412 hz580413 hf580417 n580416 he580425 ez580429 (ht R c1 c2 c3 c4 c5 c6 c7 c8 c9 c10 c11 c12 c13 c14 c15 c16 c17))) (mz_up ez580429 (Int.le_trans bg580312'.2 (by decide)) hm74_580317)
                              · have r580431 : o580389.toInt ≠ 0 := gj_neq hc580392 (show Int32.toInt 0 = 0 by decide)
                                have bo580389' : gB o580389 1 1 := gB_t1 bo580389 r580431
                                refine G_aload_n 5 dr_cX17_weigh_153 rfl ?_
                                have fq580432 : fR (F580313 q410272) 5 = (γ 9 5) := by rw [he580325]; rfl
                                refine Gp_get 5 hm580326 he580325 dr_cX17_weigh_154 (gk_X17 D I) (Nat.le_of_ble_eq_true rfl) wr_7_79 rfl ?_
                                refine G_aload 0 dr_cX17_weigh_157 rfl ?_
                                have fq580433 : fI (F580313 q579759) 2 = p580363 := by rw [he580360]; rfl
                                refine Gp_get 2 hm580359 he580360 dr_cX17_weigh_159 (gk_X15 D I) (Nat.le_of_ble_eq_true rfl) wr_9_186 rfl ?_
                                refine G_dup2_11 dr_cX17_weigh_162 rfl rfl ?_
                                have hm580434 : (γ 9 5) ∈ P410270 := RS_m hT580314 ht410302 (by decide)
                                obtain ⟨f580436, he580435⟩ := show rk_17 I (F580313 (γ 9 5)) from RS_o hT580314 ht410302
                                refine Gp_iald 0 hm580434 he580435 dr_cX17_weigh_163 rfl (gB_inr (by omega) (by omega)) (G_nam fun z580437 hz580437 => ?_)
                                have bz580437 : gB z580437 (-2147483648) 2147483647 := gB_any z580437
                                refine G_iload_n 3 dr_cX17_weigh_164 rfl ?_
                                refine G_iadd dr_cX17_weigh_165 (G_nam fun z580438 hz580438 => ?_)
                                have bz580438 : gB z580438 (-2147483648) 2147483647 := gB_any z580438
                                refine Gp_iast 0 hm580434 he580435 dr_cX17_weigh_166 rfl (gB_inr (by omega) (by omega)) (fun F580439 e580440 n580441 => ?_)
                                obtain ⟨f580442, hf580442⟩ : ∃ z, z = upd f580436 p580363.toNatClampNeg z580438 := ⟨_, rfl⟩
                                rw [← hf580442] at e580440
                                have he580443 : F580439 q410273 = .inr (18, [.ref q578555, .ref q578556, .int p578557, .int p578558]) := (n580441 q410273 (rn_oa he580320 he580435)).trans he580320
                                have he580444 : F580439 q578555 = .inr (4, [.int p579729, .ref q579731, .int p579730]) := (n580441 q578555 (rn_oa he580321 he580435)).trans he580321
                                have he580445 : F580439 q579731 = .inl (I (.object "java/lang/Object"), n579745, .inr (.inr (.inr (.inr f579746)))) := (n580441 q579731 (rn_ref_num he580322 he580435)).trans he580322
                                have he580446 : F580439 q579748 = .inr (17, [.ref q579758, .ref q579759, .int p579760, .int p579761]) := (n580441 q579748 (rn_oa he580323 he580435)).trans he580323
                                have he580447 : F580439 q410272 = .inr (22, [.ref (γ 9 0), .ref (γ 9 1), .ref (γ 9 2), .ref (γ 9 3), .ref (γ 9 4), .ref (γ 9 5), .ref (γ 9 6), .ref (γ 9 7), .ref (γ 9 8), .int p410280, .int p410281, .int p410282, .int p410283, .int p410284, .int p410285, .ref (γ 9 15), .ref (γ 9 16), .ref (γ 9 17), .ref (γ 9 18), .ref (γ 9 19), .ref (γ 9 20), .ref (γ 9 21), .ref (γ 9 22), .int p410286, .int p410287, .int p410288, .int p410289, .int p410290, .ref q410278, .ref (γ 9 29), .int p410291, .ref (γ 9 31), .int p410292, .int p410293, .int p410294, .ref q410279]) := (n580441 q410272 (rn_oa he580325 he580435)).trans he580325
                                have he580448 : F580439 q579758 = .inr (4, [.int p580330, .ref q580332, .int p580331]) := (n580441 q579758 (rn_oa he580329 he580435)).trans he580329
                                have he580449 : F580439 q579759 = .inr (20, [.int p580361, .int p580362, .int p580363, .int p580364, .int p580365, .int p580366, .int p580367]) := (n580441 q579759 (rn_oa he580360 he580435)).trans he580360
                                have he580450 : F580439 (γ 9 5) = .inl (I .int, 2000, .inl f580442) := e580440
                                have hs580451 : rStr γ [] F410271 F580439 := rStr_put hs580315 n580441 ht410302 (by decide)
                                have kp580452 : F580439 q410272 = F410271 q410272 := (n580441 q410272 (rn_ty htq410272 ht410302 (by decide))).trans x580316
                                have kp580453 : F580439 (γ 9 3) = F410271 (γ 9 3) := (n580441 (γ 9 3) (rn_ty ht410300 ht410302 (by decide))).trans x580317
                                refine G_aload 0 dr_cX17_weigh_167 rfl ?_
                                have hT580454 : RS D I P410270 F580439 γ el := RS_set hT580314 n580441 ht410302 (by decide) ⟨f580442, he580450⟩
                                have fq580455 : fI (F580439 q579759) 0 = p580361 := by rw [he580449]; rfl
                                have fq580456 : fI (F580439 q579759) 6 = p580367 := by rw [he580449]; rfl
                                refine Gw_callV (As := []) (gV_ok D I) (cp_1699_Row_usesB l hl0 D I P410270 F580439 q579759 p580361 p580362 p580363 p580364 p580365 p580366 p580367 hm580359 he580449 bp580361 bp580362 bp580365 bp580366 bp580367) dr_cX17_weigh_169 ⟨wr_10_196, wr_1_39, wr_10_199, by decide, rfl, (Nat.le_of_ble_eq_true rfl), (Nat.le_of_ble_eq_true rfl)⟩ wr_10_197 wr_10_198 hm580359 he580449 rfl (show 0 + 0 ≤ 0 by first | omega | decide) (show 0 + 0 ≤ 0 by first | omega | decide) (Nat.le_of_ble_eq_true rfl) (fun r580460 w580461 dc580457 ds580458 hp580459 => ?_) (fun _ _ _ _ _ z => z.elim)
                                obtain ⟨o580462, rfl, rfl, hdc, hds, bo580462, x580463, ht580464⟩ := hp580459
                                change G _ _ _ _ _ _ _ (.int o580462 :: _) _ _ _
                                refine G_widen (cs' := 0) (sl' := 0) (by omega) (by omega) ?_
                                refine G_if_eq 189 dr_cX17_weigh_172 (by decide +kernel) (fun hc580465 => ?_) (fun hc580465 => ?_)
                                · have r580466 : o580462.toInt = 0 := gj_eq hc580465 (show Int32.toInt 0 = 0 by decide)
                                  have bo580462' : gB o580462 0 0 := gB_t0 r580466
                                  obtain ⟨z580467, hz580467⟩ : ∃ z : Int32, z = g580312 + Int32.ofInt 1 := ⟨_, rfl⟩
                                  have ez580467 : z580467.toInt = g580312.toInt + 1 := gI_inc hz580467 (by decide) bg580312' (by decide) (by decide)
                                  have bz580467 : gB z580467 1 1000001 := ⟨by omega, by omega⟩
                                  refine G_iinc (L' := [(5, .int z580467), (6, .ref q579759), (4, .ref q579748), (3, .int g579717), (2, .int g578542), (0, .ref q410272), (1, .ref q410273)]) z580467 1 dr_cX17_weigh_189 rfl hz580467.symm (Nat.le_of_ble_eq_true rfl) rfl ?_
                                  refine G_goto 74 dr_cX17_weigh_192 (by decide +kernel) ?_
                                  refine G_lv (L' := [(5, .int z580467), (4, .ref q579748), (3, .int g579717), (2, .int g578542), (0, .ref q410272), (1, .ref q410273)]) [0, 2, 3, 4, 5, 6] rfl ?_
                                  exact ih74_580317 F580439 z580467 (gB_w bz580467 (by decide) (by decide)) hT580454 hs580451 kp580452 kp580453 (fun k e1 ht => kt74_580318 k e1 (fun R c1 c2 c3 c4 c5 c6 c7 c8 c9 c10 c11 c12 c13 c14 c15 c16 c17 => c4 F580313 g580312 q579758 p580331 q579759 p580361 o580379 p580366 o580389 p580363 f580436 z580437 z580438 f580442 F580439 p580367 o580462 z580467 k e1 bg580312 hT580314 hs580315 x580316 x580317 fq580327 fq580338 fq580339 r580349 fq580350 r580357 fq580358 fq580373 bo580379 ht580380 r580382 fq580383 bo580389 ht580391 r580431 fq580432 fq580433 he580435 hz580437 hz580438 hf580442 n580441 he580450 fq580455 fq580456 bo580462 ht580464 r580466 ez580467 (ht R c1 c2 c3 c4 c5 c6 c7 c8 c9 c10 c11 c12 c13 c14 c15 c16 c17))) (mz_up ez580467 (Int.le_trans bg580312'.2 (by decide)) hm74_580317)
                                · have r580468 : o580462.toInt ≠ 0 := gj_neq hc580465 (show Int32.toInt 0 = 0 by decide)
                                  have bo580462' : gB o580462 1 1 := gB_t1 bo580462 r580468
                                  refine G_aload_n 5 dr_cX17_weigh_175 rfl ?_
                                  have fq580469 : fR (F580439 q410272) 5 = (γ 9 5) := by rw [he580447]; rfl
                                  refine Gp_get 5 hm580326 he580447 dr_cX17_weigh_176 (gk_X17 D I) (Nat.le_of_ble_eq_true rfl) wr_7_79 rfl ?_
                                  refine G_aload 0 dr_cX17_weigh_179 rfl ?_
                                  have fq580470 : fI (F580439 q579759) 3 = p580364 := by rw [he580449]; rfl
                                  refine Gp_get 3 hm580359 he580449 dr_cX17_weigh_181 (gk_X15 D I) (Nat.le_of_ble_eq_true rfl) wr_9_190 rfl ?_
                                  refine G_dup2_11 dr_cX17_weigh_184 rfl rfl ?_
                                  refine Gp_iald 0 hm580434 he580450 dr_cX17_weigh_185 rfl (gB_inr (by omega) (by omega)) (G_nam fun z580471 hz580471 => ?_)
                                  have bz580471 : gB z580471 (-2147483648) 2147483647 := gB_any z580471
                                  refine G_iload_n 3 dr_cX17_weigh_186 rfl ?_
                                  refine G_iadd dr_cX17_weigh_187 (G_nam fun z580472 hz580472 => ?_)
                                  have bz580472 : gB z580472 (-2147483648) 2147483647 := gB_any z580472
                                  refine Gp_iast 0 hm580434 he580450 dr_cX17_weigh_188 rfl (gB_inr (by omega) (by omega)) (fun F580473 e580474 n580475 => ?_)
                                  obtain ⟨f580476, hf580476⟩ : ∃ z, z = upd f580442 p580364.toNatClampNeg z580472 := ⟨_, rfl⟩
                                  rw [← hf580476] at e580474
                                  have he580477 : F580473 q410273 = .inr (18, [.ref q578555, .ref q578556, .int p578557, .int p578558]) := (n580475 q410273 (rn_oa he580443 he580450)).trans he580443
                                  have he580478 : F580473 q578555 = .inr (4, [.int p579729, .ref q579731, .int p579730]) := (n580475 q578555 (rn_oa he580444 he580450)).trans he580444
                                  have he580479 : F580473 q579731 = .inl (I (.object "java/lang/Object"), n579745, .inr (.inr (.inr (.inr f579746)))) := (n580475 q579731 (rn_ref_num he580445 he580450)).trans he580445
                                  have he580480 : F580473 q579748 = .inr (17, [.ref q579758, .ref q579759, .int p579760, .int p579761]) := (n580475 q579748 (rn_oa he580446 he580450)).trans he580446
                                  have he580481 : F580473 q410272 = .inr (22, [.ref (γ 9 0), .ref (γ 9 1), .ref (γ 9 2), .ref (γ 9 3), .ref (γ 9 4), .ref (γ 9 5), .ref (γ 9 6), .ref (γ 9 7), .ref (γ 9 8), .int p410280, .int p410281, .int p410282, .int p410283, .int p410284, .int p410285, .ref (γ 9 15), .ref (γ 9 16), .ref (γ 9 17), .ref (γ 9 18), .ref (γ 9 19), .ref (γ 9 20), .ref (γ 9 21), .ref (γ 9 22), .int p410286, .int p410287, .int p410288, .int p410289, .int p410290, .ref q410278, .ref (γ 9 29), .int p410291, .ref (γ 9 31), .int p410292, .int p410293, .int p410294, .ref q410279]) := (n580475 q410272 (rn_oa he580447 he580450)).trans he580447
                                  have he580482 : F580473 q579758 = .inr (4, [.int p580330, .ref q580332, .int p580331]) := (n580475 q579758 (rn_oa he580448 he580450)).trans he580448
                                  have he580483 : F580473 q579759 = .inr (20, [.int p580361, .int p580362, .int p580363, .int p580364, .int p580365, .int p580366, .int p580367]) := (n580475 q579759 (rn_oa he580449 he580450)).trans he580449
                                  have he580484 : F580473 (γ 9 5) = .inl (I .int, 2000, .inl f580476) := e580474
                                  have hs580485 : rStr γ [] F410271 F580473 := rStr_put hs580451 n580475 ht410302 (by decide)
                                  have kp580486 : F580473 q410272 = F410271 q410272 := (n580475 q410272 (rn_ty htq410272 ht410302 (by decide))).trans kp580452
                                  have kp580487 : F580473 (γ 9 3) = F410271 (γ 9 3) := (n580475 (γ 9 3) (rn_ty ht410300 ht410302 (by decide))).trans kp580453
                                  obtain ⟨z580488, hz580488⟩ : ∃ z : Int32, z = g580312 + Int32.ofInt 1 := ⟨_, rfl⟩
                                  have ez580488 : z580488.toInt = g580312.toInt + 1 := gI_inc hz580488 (by decide) bg580312' (by decide) (by decide)
                                  have bz580488 : gB z580488 1 1000001 := ⟨by omega, by omega⟩
                                  refine G_iinc (L' := [(5, .int z580488), (6, .ref q579759), (4, .ref q579748), (3, .int g579717), (2, .int g578542), (0, .ref q410272), (1, .ref q410273)]) z580488 1 dr_cX17_weigh_189 rfl hz580488.symm (Nat.le_of_ble_eq_true rfl) rfl ?_
                                  refine G_goto 74 dr_cX17_weigh_192 (by decide +kernel) ?_
                                  have hT580489 : RS D I P410270 F580473 γ el := RS_set hT580454 n580475 ht410302 (by decide) ⟨f580476, he580484⟩
                                  refine G_lv (L' := [(5, .int z580488), (4, .ref q579748), (3, .int g579717), (2, .int g578542), (0, .ref q410272), (1, .ref q410273)]) [0, 2, 3, 4, 5, 6] rfl ?_
                                  exact ih74_580317 F580473 z580488 (gB_w bz580488 (by decide) (by decide)) hT580489 hs580485 kp580486 kp580487 (fun k e1 ht => kt74_580318 k e1 (fun R c1 c2 c3 c4 c5 c6 c7 c8 c9 c10 c11 c12 c13 c14 c15 c16 c17 => c5 F580313 g580312 q579758 p580331 q579759 p580361 o580379 p580366 o580389 p580363 f580436 z580437 z580438 f580442 F580439 p580367 o580462 p580364 z580471 z580472 f580476 F580473 z580488 k e1 bg580312 hT580314 hs580315 x580316 x580317 fq580327 fq580338 fq580339 r580349 fq580350 r580357 fq580358 fq580373 bo580379 ht580380 r580382 fq580383 bo580389 ht580391 r580431 fq580432 fq580433 he580435 hz580437 hz580438 hf580442 n580441 he580450 fq580455 fq580456 bo580462 ht580464 r580468 fq580469 fq580470 he580450 hz580471 hz580472 hf580476 n580475 he580484 ez580488 (ht R c1 c2 c3 c4 c5 c6 c7 c8 c9 c10 c11 c12 c13 c14 c15 c16 c17))) (mz_up ez580488 (Int.le_trans bg580312'.2 (by decide)) hm74_580317)
                            · have r580490 : o580379.toInt ≠ 0 := gj_neq hc580381 (show Int32.toInt 0 = 0 by decide)
                              have bo580379' : gB o580379 1 1 := gB_t1 bo580379 r580490
                              refine G_aload_n 5 dr_cX17_weigh_131 rfl ?_
                              have fq580491 : fR (F580313 q410272) 5 = (γ 9 5) := by rw [he580325]; rfl
                              refine Gp_get 5 hm580326 he580325 dr_cX17_weigh_132 (gk_X17 D I) (Nat.le_of_ble_eq_true rfl) wr_7_79 rfl ?_
                              refine G_aload 0 dr_cX17_weigh_135 rfl ?_
                              have fq580492 : fI (F580313 q579759) 1 = p580362 := by rw [he580360]; rfl
                              refine Gp_get 1 hm580359 he580360 dr_cX17_weigh_137 (gk_X15 D I) (Nat.le_of_ble_eq_true rfl) wr_9_182 rfl ?_
                              refine G_dup2_11 dr_cX17_weigh_140 rfl rfl ?_
                              have hm580493 : (γ 9 5) ∈ P410270 := RS_m hT580314 ht410302 (by decide)
                              obtain ⟨f580495, he580494⟩ := show rk_17 I (F580313 (γ 9 5)) from RS_o hT580314 ht410302
                              refine Gp_iald 0 hm580493 he580494 dr_cX17_weigh_141 rfl (gB_in bp580362 (by decide) (by decide)) (G_nam fun z580496 hz580496 => ?_)
                              have bz580496 : gB z580496 (-2147483648) 2147483647 := gB_any z580496
                              refine G_iload_n 3 dr_cX17_weigh_142 rfl ?_
                              refine G_iadd dr_cX17_weigh_143 (G_nam fun z580497 hz580497 => ?_)
                              have bz580497 : gB z580497 (-2147483648) 2147483647 := gB_any z580497
                              refine Gp_iast 0 hm580493 he580494 dr_cX17_weigh_144 rfl (gB_in bp580362 (by decide) (by decide)) (fun F580498 e580499 n580500 => ?_)
                              obtain ⟨f580501, hf580501⟩ : ∃ z, z = upd f580495 p580362.toNatClampNeg z580497 := ⟨_, rfl⟩
                              rw [← hf580501] at e580499
                              have he580502 : F580498 q410273 = .inr (18, [.ref q578555, .ref q578556, .int p578557, .int p578558]) := (n580500 q410273 (rn_oa he580320 he580494)).trans he580320
                              have he580503 : F580498 q578555 = .inr (4, [.int p579729, .ref q579731, .int p579730]) := (n580500 q578555 (rn_oa he580321 he580494)).trans he580321
                              have he580504 : F580498 q579731 = .inl (I (.object "java/lang/Object"), n579745, .inr (.inr (.inr (.inr f579746)))) := (n580500 q579731 (rn_ref_num he580322 he580494)).trans he580322
                              have he580505 : F580498 q579748 = .inr (17, [.ref q579758, .ref q579759, .int p579760, .int p579761]) := (n580500 q579748 (rn_oa he580323 he580494)).trans he580323
                              have he580506 : F580498 q410272 = .inr (22, [.ref (γ 9 0), .ref (γ 9 1), .ref (γ 9 2), .ref (γ 9 3), .ref (γ 9 4), .ref (γ 9 5), .ref (γ 9 6), .ref (γ 9 7), .ref (γ 9 8), .int p410280, .int p410281, .int p410282, .int p410283, .int p410284, .int p410285, .ref (γ 9 15), .ref (γ 9 16), .ref (γ 9 17), .ref (γ 9 18), .ref (γ 9 19), .ref (γ 9 20), .ref (γ 9 21), .ref (γ 9 22), .int p410286, .int p410287, .int p410288, .int p410289, .int p410290, .ref q410278, .ref (γ 9 29), .int p410291, .ref (γ 9 31), .int p410292, .int p410293, .int p410294, .ref q410279]) := (n580500 q410272 (rn_oa he580325 he580494)).trans he580325
                              have he580507 : F580498 q579758 = .inr (4, [.int p580330, .ref q580332, .int p580331]) := (n580500 q579758 (rn_oa he580329 he580494)).trans he580329
                              have he580508 : F580498 q579759 = .inr (20, [.int p580361, .int p580362, .int p580363, .int p580364, .int p580365, .int p580366, .int p580367]) := (n580500 q579759 (rn_oa he580360 he580494)).trans he580360
                              have he580509 : F580498 (γ 9 5) = .inl (I .int, 2000, .inl f580501) := e580499
                              have hs580510 : rStr γ [] F410271 F580498 := rStr_put hs580315 n580500 ht410302 (by decide)
                              have kp580511 : F580498 q410272 = F410271 q410272 := (n580500 q410272 (rn_ty htq410272 ht410302 (by decide))).trans x580316
                              have kp580512 : F580498 (γ 9 3) = F410271 (γ 9 3) := (n580500 (γ 9 3) (rn_ty ht410300 ht410302 (by decide))).trans x580317
                              refine G_aload 0 dr_cX17_weigh_145 rfl ?_
                              have hT580513 : RS D I P410270 F580498 γ el := RS_set hT580314 n580500 ht410302 (by decide) ⟨f580501, he580509⟩
                              have fq580514 : fI (F580498 q579759) 0 = p580361 := by rw [he580508]; rfl
                              have fq580515 : fI (F580498 q579759) 5 = p580366 := by rw [he580508]; rfl
                              refine Gw_callV (As := []) (gV_ok D I) (cp_1675_Row_usesA l hl0 D I P410270 F580498 q579759 p580361 p580362 p580363 p580364 p580365 p580366 p580367 hm580359 he580508 bp580361 bp580362 bp580365 bp580366 bp580367) dr_cX17_weigh_147 ⟨wr_10_192, wr_1_39, wr_10_195, by decide, rfl, (Nat.le_of_ble_eq_true rfl), (Nat.le_of_ble_eq_true rfl)⟩ wr_10_193 wr_10_194 hm580359 he580508 rfl (show 0 + 0 ≤ 0 by first | omega | decide) (show 0 + 0 ≤ 0 by first | omega | decide) (Nat.le_of_ble_eq_true rfl) (fun r580519 w580520 dc580516 ds580517 hp580518 => ?_) (fun _ _ _ _ _ z => z.elim)
                              obtain ⟨o580521, rfl, rfl, hdc, hds, bo580521, x580522, ht580523⟩ := hp580518
                              change G _ _ _ _ _ _ _ (.int o580521 :: _) _ _ _
                              refine G_widen (cs' := 0) (sl' := 0) (by omega) (by omega) ?_
                              refine G_if_eq 167 dr_cX17_weigh_150 (by decide +kernel) (fun hc580524 => ?_) (fun hc580524 => ?_)
                              · have r580525 : o580521.toInt = 0 := gj_eq hc580524 (show Int32.toInt 0 = 0 by decide)
                                have bo580521' : gB o580521 0 0 := gB_t0 r580525
                                refine G_aload 0 dr_cX17_weigh_167 rfl ?_
                                have fq580526 : fI (F580498 q579759) 6 = p580367 := by rw [he580508]; rfl
                                refine Gw_callV (As := []) (gV_ok D I) (cp_1699_Row_usesB l hl0 D I P410270 F580498 q579759 p580361 p580362 p580363 p580364 p580365 p580366 p580367 hm580359 he580508 bp580361 bp580362 bp580365 bp580366 bp580367) dr_cX17_weigh_169 ⟨wr_10_196, wr_1_39, wr_10_199, by decide, rfl, (Nat.le_of_ble_eq_true rfl), (Nat.le_of_ble_eq_true rfl)⟩ wr_10_197 wr_10_198 hm580359 he580508 rfl (show 0 + 0 ≤ 0 by first | omega | decide) (show 0 + 0 ≤ 0 by first | omega | decide) (Nat.le_of_ble_eq_true rfl) (fun r580530 w580531 dc580527 ds580528 hp580529 => ?_) (fun _ _ _ _ _ z => z.elim)
                                obtain ⟨o580532, rfl, rfl, hdc, hds, bo580532, x580533, ht580534⟩ := hp580529
                                change G _ _ _ _ _ _ _ (.int o580532 :: _) _ _ _
                                refine G_widen (cs' := 0) (sl' := 0) (by omega) (by omega) ?_
                                refine G_if_eq 189 dr_cX17_weigh_172 (by decide +kernel) (fun hc580535 => ?_) (fun hc580535 => ?_)
                                · have r580536 : o580532.toInt = 0 := gj_eq hc580535 (show Int32.toInt 0 = 0 by decide)
                                  have bo580532' : gB o580532 0 0 := gB_t0 r580536
                                  obtain ⟨z580537, hz580537⟩ : ∃ z : Int32, z = g580312 + Int32.ofInt 1 := ⟨_, rfl⟩
                                  have ez580537 : z580537.toInt = g580312.toInt + 1 := gI_inc hz580537 (by decide) bg580312' (by decide) (by decide)
                                  have bz580537 : gB z580537 1 1000001 := ⟨by omega, by omega⟩
                                  refine G_iinc (L' := [(5, .int z580537), (6, .ref q579759), (4, .ref q579748), (3, .int g579717), (2, .int g578542), (0, .ref q410272), (1, .ref q410273)]) z580537 1 dr_cX17_weigh_189 rfl hz580537.symm (Nat.le_of_ble_eq_true rfl) rfl ?_
                                  refine G_goto 74 dr_cX17_weigh_192 (by decide +kernel) ?_
                                  refine G_lv (L' := [(5, .int z580537), (4, .ref q579748), (3, .int g579717), (2, .int g578542), (0, .ref q410272), (1, .ref q410273)]) [0, 2, 3, 4, 5, 6] rfl ?_
                                  exact ih74_580317 F580498 z580537 (gB_w bz580537 (by decide) (by decide)) hT580513 hs580510 kp580511 kp580512 (fun k e1 ht => kt74_580318 k e1 (fun R c1 c2 c3 c4 c5 c6 c7 c8 c9 c10 c11 c12 c13 c14 c15 c16 c17 => c6 F580313 g580312 q579758 p580331 q579759 p580361 o580379 p580362 f580495 z580496 z580497 f580501 F580498 p580366 o580521 p580367 o580532 z580537 k e1 bg580312 hT580314 hs580315 x580316 x580317 fq580327 fq580338 fq580339 r580349 fq580350 r580357 fq580358 fq580373 bo580379 ht580380 r580490 fq580491 fq580492 he580494 hz580496 hz580497 hf580501 n580500 he580509 fq580514 fq580515 bo580521 ht580523 r580525 fq580526 bo580532 ht580534 r580536 ez580537 (ht R c1 c2 c3 c4 c5 c6 c7 c8 c9 c10 c11 c12 c13 c14 c15 c16 c17))) (mz_up ez580537 (Int.le_trans bg580312'.2 (by decide)) hm74_580317)
                                · have r580538 : o580532.toInt ≠ 0 := gj_neq hc580535 (show Int32.toInt 0 = 0 by decide)
                                  have bo580532' : gB o580532 1 1 := gB_t1 bo580532 r580538
                                  refine G_aload_n 5 dr_cX17_weigh_175 rfl ?_
                                  have fq580539 : fR (F580498 q410272) 5 = (γ 9 5) := by rw [he580506]; rfl
                                  refine Gp_get 5 hm580326 he580506 dr_cX17_weigh_176 (gk_X17 D I) (Nat.le_of_ble_eq_true rfl) wr_7_79 rfl ?_
                                  refine G_aload 0 dr_cX17_weigh_179 rfl ?_
                                  have fq580540 : fI (F580498 q579759) 3 = p580364 := by rw [he580508]; rfl
                                  refine Gp_get 3 hm580359 he580508 dr_cX17_weigh_181 (gk_X15 D I) (Nat.le_of_ble_eq_true rfl) wr_9_190 rfl ?_
                                  refine G_dup2_11 dr_cX17_weigh_184 rfl rfl ?_
                                  refine Gp_iald 0 hm580493 he580509 dr_cX17_weigh_185 rfl (gB_inr (by omega) (by omega)) (G_nam fun z580541 hz580541 => ?_)
                                  have bz580541 : gB z580541 (-2147483648) 2147483647 := gB_any z580541
                                  refine G_iload_n 3 dr_cX17_weigh_186 rfl ?_
                                  refine G_iadd dr_cX17_weigh_187 (G_nam fun z580542 hz580542 => ?_)
                                  have bz580542 : gB z580542 (-2147483648) 2147483647 := gB_any z580542
                                  refine Gp_iast 0 hm580493 he580509 dr_cX17_weigh_188 rfl (gB_inr (by omega) (by omega)) (fun F580543 e580544 n580545 => ?_)
                                  obtain ⟨f580546, hf580546⟩ : ∃ z, z = upd f580501 p580364.toNatClampNeg z580542 := ⟨_, rfl⟩
                                  rw [← hf580546] at e580544
                                  have he580547 : F580543 q410273 = .inr (18, [.ref q578555, .ref q578556, .int p578557, .int p578558]) := (n580545 q410273 (rn_oa he580502 he580509)).trans he580502
                                  have he580548 : F580543 q578555 = .inr (4, [.int p579729, .ref q579731, .int p579730]) := (n580545 q578555 (rn_oa he580503 he580509)).trans he580503
                                  have he580549 : F580543 q579731 = .inl (I (.object "java/lang/Object"), n579745, .inr (.inr (.inr (.inr f579746)))) := (n580545 q579731 (rn_ref_num he580504 he580509)).trans he580504
                                  have he580550 : F580543 q579748 = .inr (17, [.ref q579758, .ref q579759, .int p579760, .int p579761]) := (n580545 q579748 (rn_oa he580505 he580509)).trans he580505
                                  have he580551 : F580543 q410272 = .inr (22, [.ref (γ 9 0), .ref (γ 9 1), .ref (γ 9 2), .ref (γ 9 3), .ref (γ 9 4), .ref (γ 9 5), .ref (γ 9 6), .ref (γ 9 7), .ref (γ 9 8), .int p410280, .int p410281, .int p410282, .int p410283, .int p410284, .int p410285, .ref (γ 9 15), .ref (γ 9 16), .ref (γ 9 17), .ref (γ 9 18), .ref (γ 9 19), .ref (γ 9 20), .ref (γ 9 21), .ref (γ 9 22), .int p410286, .int p410287, .int p410288, .int p410289, .int p410290, .ref q410278, .ref (γ 9 29), .int p410291, .ref (γ 9 31), .int p410292, .int p410293, .int p410294, .ref q410279]) := (n580545 q410272 (rn_oa he580506 he580509)).trans he580506
                                  have he580552 : F580543 q579758 = .inr (4, [.int p580330, .ref q580332, .int p580331]) := (n580545 q579758 (rn_oa he580507 he580509)).trans he580507
                                  have he580553 : F580543 q579759 = .inr (20, [.int p580361, .int p580362, .int p580363, .int p580364, .int p580365, .int p580366, .int p580367]) := (n580545 q579759 (rn_oa he580508 he580509)).trans he580508
                                  have he580554 : F580543 (γ 9 5) = .inl (I .int, 2000, .inl f580546) := e580544
                                  have hs580555 : rStr γ [] F410271 F580543 := rStr_put hs580510 n580545 ht410302 (by decide)
                                  have kp580556 : F580543 q410272 = F410271 q410272 := (n580545 q410272 (rn_ty htq410272 ht410302 (by decide))).trans kp580511
                                  have kp580557 : F580543 (γ 9 3) = F410271 (γ 9 3) := (n580545 (γ 9 3) (rn_ty ht410300 ht410302 (by decide))).trans kp580512
                                  obtain ⟨z580558, hz580558⟩ : ∃ z : Int32, z = g580312 + Int32.ofInt 1 := ⟨_, rfl⟩
                                  have ez580558 : z580558.toInt = g580312.toInt + 1 := gI_inc hz580558 (by decide) bg580312' (by decide) (by decide)
                                  have bz580558 : gB z580558 1 1000001 := ⟨by omega, by omega⟩
                                  refine G_iinc (L' := [(5, .int z580558), (6, .ref q579759), (4, .ref q579748), (3, .int g579717), (2, .int g578542), (0, .ref q410272), (1, .ref q410273)]) z580558 1 dr_cX17_weigh_189 rfl hz580558.symm (Nat.le_of_ble_eq_true rfl) rfl ?_
                                  refine G_goto 74 dr_cX17_weigh_192 (by decide +kernel) ?_
                                  have hT580559 : RS D I P410270 F580543 γ el := RS_set hT580513 n580545 ht410302 (by decide) ⟨f580546, he580554⟩
                                  refine G_lv (L' := [(5, .int z580558), (4, .ref q579748), (3, .int g579717), (2, .int g578542), (0, .ref q410272), (1, .ref q410273)]) [0, 2, 3, 4, 5, 6] rfl ?_
                                  exact ih74_580317 F580543 z580558 (gB_w bz580558 (by decide) (by decide)) hT580559 hs580555 kp580556 kp580557 (fun k e1 ht => kt74_580318 k e1 (fun R c1 c2 c3 c4 c5 c6 c7 c8 c9 c10 c11 c12 c13 c14 c15 c16 c17 => c7 F580313 g580312 q579758 p580331 q579759 p580361 o580379 p580362 f580495 z580496 z580497 f580501 F580498 p580366 o580521 p580367 o580532 p580364 z580541 z580542 f580546 F580543 z580558 k e1 bg580312 hT580314 hs580315 x580316 x580317 fq580327 fq580338 fq580339 r580349 fq580350 r580357 fq580358 fq580373 bo580379 ht580380 r580490 fq580491 fq580492 he580494 hz580496 hz580497 hf580501 n580500 he580509 fq580514 fq580515 bo580521 ht580523 r580525 fq580526 bo580532 ht580534 r580538 fq580539 fq580540 he580509 hz580541 hz580542 hf580546 n580545 he580554 ez580558 (ht R c1 c2 c3 c4 c5 c6 c7 c8 c9 c10 c11 c12 c13 c14 c15 c16 c17))) (mz_up ez580558 (Int.le_trans bg580312'.2 (by decide)) hm74_580317)
                              · have r580560 : o580521.toInt ≠ 0 := gj_neq hc580524 (show Int32.toInt 0 = 0 by decide)
                                have bo580521' : gB o580521 1 1 := gB_t1 bo580521 r580560
                                refine G_aload_n 5 dr_cX17_weigh_153 rfl ?_
                                have fq580561 : fR (F580498 q410272) 5 = (γ 9 5) := by rw [he580506]; rfl
                                refine Gp_get 5 hm580326 he580506 dr_cX17_weigh_154 (gk_X17 D I) (Nat.le_of_ble_eq_true rfl) wr_7_79 rfl ?_
                                refine G_aload 0 dr_cX17_weigh_157 rfl ?_
                                have fq580562 : fI (F580498 q579759) 2 = p580363 := by rw [he580508]; rfl
                                refine Gp_get 2 hm580359 he580508 dr_cX17_weigh_159 (gk_X15 D I) (Nat.le_of_ble_eq_true rfl) wr_9_186 rfl ?_
                                refine G_dup2_11 dr_cX17_weigh_162 rfl rfl ?_
                                refine Gp_iald 0 hm580493 he580509 dr_cX17_weigh_163 rfl (gB_inr (by omega) (by omega)) (G_nam fun z580563 hz580563 => ?_)
                                have bz580563 : gB z580563 (-2147483648) 2147483647 := gB_any z580563
                                refine G_iload_n 3 dr_cX17_weigh_164 rfl ?_
                                refine G_iadd dr_cX17_weigh_165 (G_nam fun z580564 hz580564 => ?_)
                                have bz580564 : gB z580564 (-2147483648) 2147483647 := gB_any z580564
                                refine Gp_iast 0 hm580493 he580509 dr_cX17_weigh_166 rfl (gB_inr (by omega) (by omega)) (fun F580565 e580566 n580567 => ?_)
                                obtain ⟨f580568, hf580568⟩ : ∃ z, z = upd f580501 p580363.toNatClampNeg z580564 := ⟨_, rfl⟩
                                rw [← hf580568] at e580566
                                have he580569 : F580565 q410273 = .inr (18, [.ref q578555, .ref q578556, .int p578557, .int p578558]) := (n580567 q410273 (rn_oa he580502 he580509)).trans he580502
                                have he580570 : F580565 q578555 = .inr (4, [.int p579729, .ref q579731, .int p579730]) := (n580567 q578555 (rn_oa he580503 he580509)).trans he580503
                                have he580571 : F580565 q579731 = .inl (I (.object "java/lang/Object"), n579745, .inr (.inr (.inr (.inr f579746)))) := (n580567 q579731 (rn_ref_num he580504 he580509)).trans he580504
                                have he580572 : F580565 q579748 = .inr (17, [.ref q579758, .ref q579759, .int p579760, .int p579761]) := (n580567 q579748 (rn_oa he580505 he580509)).trans he580505
                                have he580573 : F580565 q410272 = .inr (22, [.ref (γ 9 0), .ref (γ 9 1), .ref (γ 9 2), .ref (γ 9 3), .ref (γ 9 4), .ref (γ 9 5), .ref (γ 9 6), .ref (γ 9 7), .ref (γ 9 8), .int p410280, .int p410281, .int p410282, .int p410283, .int p410284, .int p410285, .ref (γ 9 15), .ref (γ 9 16), .ref (γ 9 17), .ref (γ 9 18), .ref (γ 9 19), .ref (γ 9 20), .ref (γ 9 21), .ref (γ 9 22), .int p410286, .int p410287, .int p410288, .int p410289, .int p410290, .ref q410278, .ref (γ 9 29), .int p410291, .ref (γ 9 31), .int p410292, .int p410293, .int p410294, .ref q410279]) := (n580567 q410272 (rn_oa he580506 he580509)).trans he580506
                                have he580574 : F580565 q579758 = .inr (4, [.int p580330, .ref q580332, .int p580331]) := (n580567 q579758 (rn_oa he580507 he580509)).trans he580507
                                have he580575 : F580565 q579759 = .inr (20, [.int p580361, .int p580362, .int p580363, .int p580364, .int p580365, .int p580366, .int p580367]) := (n580567 q579759 (rn_oa he580508 he580509)).trans he580508
                                have he580576 : F580565 (γ 9 5) = .inl (I .int, 2000, .inl f580568) := e580566
                                have hs580577 : rStr γ [] F410271 F580565 := rStr_put hs580510 n580567 ht410302 (by decide)
                                have kp580578 : F580565 q410272 = F410271 q410272 := (n580567 q410272 (rn_ty htq410272 ht410302 (by decide))).trans kp580511
                                have kp580579 : F580565 (γ 9 3) = F410271 (γ 9 3) := (n580567 (γ 9 3) (rn_ty ht410300 ht410302 (by decide))).trans kp580512
                                refine G_aload 0 dr_cX17_weigh_167 rfl ?_
                                have hT580580 : RS D I P410270 F580565 γ el := RS_set hT580513 n580567 ht410302 (by decide) ⟨f580568, he580576⟩
                                have fq580581 : fI (F580565 q579759) 0 = p580361 := by rw [he580575]; rfl
                                have fq580582 : fI (F580565 q579759) 6 = p580367 := by rw [he580575]; rfl
                                refine Gw_callV (As := []) (gV_ok D I) (cp_1699_Row_usesB l hl0 D I P410270 F580565 q579759 p580361 p580362 p580363 p580364 p580365 p580366 p580367 hm580359 he580575 bp580361 bp580362 bp580365 bp580366 bp580367) dr_cX17_weigh_169 ⟨wr_10_196, wr_1_39, wr_10_199, by decide, rfl, (Nat.le_of_ble_eq_true rfl), (Nat.le_of_ble_eq_true rfl)⟩ wr_10_197 wr_10_198 hm580359 he580575 rfl (show 0 + 0 ≤ 0 by first | omega | decide) (show 0 + 0 ≤ 0 by first | omega | decide) (Nat.le_of_ble_eq_true rfl) (fun r580586 w580587 dc580583 ds580584 hp580585 => ?_) (fun _ _ _ _ _ z => z.elim)
                                obtain ⟨o580588, rfl, rfl, hdc, hds, bo580588, x580589, ht580590⟩ := hp580585
                                change G _ _ _ _ _ _ _ (.int o580588 :: _) _ _ _
                                refine G_widen (cs' := 0) (sl' := 0) (by omega) (by omega) ?_
                                refine G_if_eq 189 dr_cX17_weigh_172 (by decide +kernel) (fun hc580591 => ?_) (fun hc580591 => ?_)
                                · have r580592 : o580588.toInt = 0 := gj_eq hc580591 (show Int32.toInt 0 = 0 by decide)
                                  have bo580588' : gB o580588 0 0 := gB_t0 r580592
                                  obtain ⟨z580593, hz580593⟩ : ∃ z : Int32, z = g580312 + Int32.ofInt 1 := ⟨_, rfl⟩
                                  have ez580593 : z580593.toInt = g580312.toInt + 1 := gI_inc hz580593 (by decide) bg580312' (by decide) (by decide)
                                  have bz580593 : gB z580593 1 1000001 := ⟨by omega, by omega⟩
                                  refine G_iinc (L' := [(5, .int z580593), (6, .ref q579759), (4, .ref q579748), (3, .int g579717), (2, .int g578542), (0, .ref q410272), (1, .ref q410273)]) z580593 1 dr_cX17_weigh_189 rfl hz580593.symm (Nat.le_of_ble_eq_true rfl) rfl ?_
                                  refine G_goto 74 dr_cX17_weigh_192 (by decide +kernel) ?_
                                  refine G_lv (L' := [(5, .int z580593), (4, .ref q579748), (3, .int g579717), (2, .int g578542), (0, .ref q410272), (1, .ref q410273)]) [0, 2, 3, 4, 5, 6] rfl ?_
                                  exact ih74_580317 F580565 z580593 (gB_w bz580593 (by decide) (by decide)) hT580580 hs580577 kp580578 kp580579 (fun k e1 ht => kt74_580318 k e1 (fun R c1 c2 c3 c4 c5 c6 c7 c8 c9 c10 c11 c12 c13 c14 c15 c16 c17 => c8 F580313 g580312 q579758 p580331 q579759 p580361 o580379 p580362 f580495 z580496 z580497 f580501 F580498 p580366 o580521 p580363 z580563 z580564 f580568 F580565 p580367 o580588 z580593 k e1 bg580312 hT580314 hs580315 x580316 x580317 fq580327 fq580338 fq580339 r580349 fq580350 r580357 fq580358 fq580373 bo580379 ht580380 r580490 fq580491 fq580492 he580494 hz580496 hz580497 hf580501 n580500 he580509 fq580514 fq580515 bo580521 ht580523 r580560 fq580561 fq580562 he580509 hz580563 hz580564 hf580568 n580567 he580576 fq580581 fq580582 bo580588 ht580590 r580592 ez580593 (ht R c1 c2 c3 c4 c5 c6 c7 c8 c9 c10 c11 c12 c13 c14 c15 c16 c17))) (mz_up ez580593 (Int.le_trans bg580312'.2 (by decide)) hm74_580317)
                                · have r580594 : o580588.toInt ≠ 0 := gj_neq hc580591 (show Int32.toInt 0 = 0 by decide)
                                  have bo580588' : gB o580588 1 1 := gB_t1 bo580588 r580594
                                  refine G_aload_n 5 dr_cX17_weigh_175 rfl ?_
                                  have fq580595 : fR (F580565 q410272) 5 = (γ 9 5) := by rw [he580573]; rfl
                                  refine Gp_get 5 hm580326 he580573 dr_cX17_weigh_176 (gk_X17 D I) (Nat.le_of_ble_eq_true rfl) wr_7_79 rfl ?_
                                  refine G_aload 0 dr_cX17_weigh_179 rfl ?_
                                  have fq580596 : fI (F580565 q579759) 3 = p580364 := by rw [he580575]; rfl
                                  refine Gp_get 3 hm580359 he580575 dr_cX17_weigh_181 (gk_X15 D I) (Nat.le_of_ble_eq_true rfl) wr_9_190 rfl ?_
                                  refine G_dup2_11 dr_cX17_weigh_184 rfl rfl ?_
                                  refine Gp_iald 0 hm580493 he580576 dr_cX17_weigh_185 rfl (gB_inr (by omega) (by omega)) (G_nam fun z580597 hz580597 => ?_)
                                  have bz580597 : gB z580597 (-2147483648) 2147483647 := gB_any z580597
                                  refine G_iload_n 3 dr_cX17_weigh_186 rfl ?_
                                  refine G_iadd dr_cX17_weigh_187 (G_nam fun z580598 hz580598 => ?_)
                                  have bz580598 : gB z580598 (-2147483648) 2147483647 := gB_any z580598
                                  refine Gp_iast 0 hm580493 he580576 dr_cX17_weigh_188 rfl (gB_inr (by omega) (by omega)) (fun F580599 e580600 n580601 => ?_)
                                  obtain ⟨f580602, hf580602⟩ : ∃ z, z = upd f580568 p580364.toNatClampNeg z580598 := ⟨_, rfl⟩
                                  rw [← hf580602] at e580600
                                  have he580603 : F580599 q410273 = .inr (18, [.ref q578555, .ref q578556, .int p578557, .int p578558]) := (n580601 q410273 (rn_oa he580569 he580576)).trans he580569
                                  have he580604 : F580599 q578555 = .inr (4, [.int p579729, .ref q579731, .int p579730]) := (n580601 q578555 (rn_oa he580570 he580576)).trans he580570
                                  have he580605 : F580599 q579731 = .inl (I (.object "java/lang/Object"), n579745, .inr (.inr (.inr (.inr f579746)))) := (n580601 q579731 (rn_ref_num he580571 he580576)).trans he580571
                                  have he580606 : F580599 q579748 = .inr (17, [.ref q579758, .ref q579759, .int p579760, .int p579761]) := (n580601 q579748 (rn_oa he580572 he580576)).trans he580572
                                  have he580607 : F580599 q410272 = .inr (22, [.ref (γ 9 0), .ref (γ 9 1), .ref (γ 9 2), .ref (γ 9 3), .ref (γ 9 4), .ref (γ 9 5), .ref (γ 9 6), .ref (γ 9 7), .ref (γ 9 8), .int p410280, .int p410281, .int p410282, .int p410283, .int p410284, .int p410285, .ref (γ 9 15), .ref (γ 9 16), .ref (γ 9 17), .ref (γ 9 18), .ref (γ 9 19), .ref (γ 9 20), .ref (γ 9 21), .ref (γ 9 22), .int p410286, .int p410287, .int p410288, .int p410289, .int p410290, .ref q410278, .ref (γ 9 29), .int p410291, .ref (γ 9 31), .int p410292, .int p410293, .int p410294, .ref q410279]) := (n580601 q410272 (rn_oa he580573 he580576)).trans he580573
                                  have he580608 : F580599 q579758 = .inr (4, [.int p580330, .ref q580332, .int p580331]) := (n580601 q579758 (rn_oa he580574 he580576)).trans he580574
                                  have he580609 : F580599 q579759 = .inr (20, [.int p580361, .int p580362, .int p580363, .int p580364, .int p580365, .int p580366, .int p580367]) := (n580601 q579759 (rn_oa he580575 he580576)).trans he580575
                                  have he580610 : F580599 (γ 9 5) = .inl (I .int, 2000, .inl f580602) := e580600
                                  have hs580611 : rStr γ [] F410271 F580599 := rStr_put hs580577 n580601 ht410302 (by decide)
                                  have kp580612 : F580599 q410272 = F410271 q410272 := (n580601 q410272 (rn_ty htq410272 ht410302 (by decide))).trans kp580578
                                  have kp580613 : F580599 (γ 9 3) = F410271 (γ 9 3) := (n580601 (γ 9 3) (rn_ty ht410300 ht410302 (by decide))).trans kp580579
                                  obtain ⟨z580614, hz580614⟩ : ∃ z : Int32, z = g580312 + Int32.ofInt 1 := ⟨_, rfl⟩
                                  have ez580614 : z580614.toInt = g580312.toInt + 1 := gI_inc hz580614 (by decide) bg580312' (by decide) (by decide)
                                  have bz580614 : gB z580614 1 1000001 := ⟨by omega, by omega⟩
                                  refine G_iinc (L' := [(5, .int z580614), (6, .ref q579759), (4, .ref q579748), (3, .int g579717), (2, .int g578542), (0, .ref q410272), (1, .ref q410273)]) z580614 1 dr_cX17_weigh_189 rfl hz580614.symm (Nat.le_of_ble_eq_true rfl) rfl ?_
                                  refine G_goto 74 dr_cX17_weigh_192 (by decide +kernel) ?_
                                  have hT580615 : RS D I P410270 F580599 γ el := RS_set hT580580 n580601 ht410302 (by decide) ⟨f580602, he580610⟩
                                  refine G_lv (L' := [(5, .int z580614), (4, .ref q579748), (3, .int g579717), (2, .int g578542), (0, .ref q410272), (1, .ref q410273)]) [0, 2, 3, 4, 5, 6] rfl ?_
                                  exact ih74_580317 F580599 z580614 (gB_w bz580614 (by decide) (by decide)) hT580615 hs580611 kp580612 kp580613 (fun k e1 ht => kt74_580318 k e1 (fun R c1 c2 c3 c4 c5 c6 c7 c8 c9 c10 c11 c12 c13 c14 c15 c16 c17 => c9 F580313 g580312 q579758 p580331 q579759 p580361 o580379 p580362 f580495 z580496 z580497 f580501 F580498 p580366 o580521 p580363 z580563 z580564 f580568 F580565 p580367 o580588 p580364 z580597 z580598 f580602 F580599 z580614 k e1 bg580312 hT580314 hs580315 x580316 x580317 fq580327 fq580338 fq580339 r580349 fq580350 r580357 fq580358 fq580373 bo580379 ht580380 r580490 fq580491 fq580492 he580494 hz580496 hz580497 hf580501 n580500 he580509 fq580514 fq580515 bo580521 ht580523 r580560 fq580561 fq580562 he580509 hz580563 hz580564 hf580568 n580567 he580576 fq580581 fq580582 bo580588 ht580590 r580594 fq580595 fq580596 he580576 hz580597 hz580598 hf580602 n580601 he580610 ez580614 (ht R c1 c2 c3 c4 c5 c6 c7 c8 c9 c10 c11 c12 c13 c14 c15 c16 c17))) (mz_up ez580614 (Int.le_trans bg580312'.2 (by decide)) hm74_580317)
                          · have r580616 : g580312.toInt < p580331.toInt := gC_nle hc580356
                            have bg580312'' : gB g580312 0 999999 := ⟨by omega, by omega⟩
                            have bp580331' : gB p580331 1 1000000 := ⟨by omega, by omega⟩
                            refine G_aload 1 dr_cX17_weigh_100 rfl ?_
                            refine Gp_get 0 hm579756 he580323 dr_cX17_weigh_102 (gk_X12 D I) (Nat.le_of_ble_eq_true rfl) wr_9_220 rfl ?_
                            refine G_iload 0 dr_cX17_weigh_105 rfl ?_
                            obtain ⟨r580617, r580618, n580625, f580626, r580619, r580620, r580621, r580622, r580623, r580624⟩ := rLC_n r580335 (by omega)
                            have hm580627 : q580332 ∈ P410270 := RS_m hT580314 r580617 (by decide)
                            obtain ⟨q580628, hx580629⟩ : ∃ x, x = el q579758 g580312.toInt.toNat := ⟨_, rfl⟩
                            have hx580630 : f580626 g580312.toNatClampNeg = some q580628 := (r580623 _ (show g580312.toInt.toNat < γ 2 q579758 by omega)).trans (by rw [hx580629])
                            have ht580631 : rKd γ q580628 1 := by rw [hx580629]; exact (r580336 _ (show g580312.toInt.toNat < γ 2 q579758 by omega)).1
                            have ht580632 : rFm γ q580628 q579758 := by rw [hx580629]; exact (r580336 _ (show g580312.toInt.toNat < γ 2 q579758 by omega)).2.1
                            refine Gw_callV (As := [.int g580312]) (gV_ok D I) (cp_22_ArrayList_get l hl0 D I P410270 F580313 q579758 q580332 g580312 p580330 p580331 f580626 n580625 q580628 hm580328 hm580627 he580329 r580619 (gB_w bg580312'' (by decide) (by decide)) (gB_w bp580331' (by decide) (by decide)) (by omega) (by omega) (by assumption) (by omega)) dr_cX17_weigh_107 ⟨wr_10_201, wr_1_18, wr_10_65, by decide, rfl, (Nat.le_of_ble_eq_true rfl), (Nat.le_of_ble_eq_true rfl)⟩ wr_10_63 wr_10_64 hm580328 he580329 rfl (show 0 + 0 ≤ 0 by first | omega | decide) (show 0 + 0 ≤ 0 by first | omega | decide) (Nat.le_of_ble_eq_true rfl) (fun r580636 w580637 dc580633 ds580634 hp580635 => ?_) (fun _ _ _ _ _ z => z.elim)
                            obtain ⟨rfl, rfl, hdc, hds, ht580638⟩ := hp580635
                            change G _ _ _ _ _ _ _ (.ref q580628 :: _) _ _ _
                            refine G_widen (cs' := 0) (sl' := 0) (by omega) (by omega) ?_
                            have hm580639 : q580628 ∈ P410270 := RS_m hT580314 ht580631 (by decide)
                            obtain ⟨p580641, p580642, p580643, p580644, p580645, p580646, p580647, he580640, bp580641, bp580642, bp580645, bp580646, bp580647, r580648, r580649, r580650, r580651, r580652⟩ := show rk_1 γ q580628 (F580313 q580628) from RS_o hT580314 ht580631
                            have bp580643 := gB_any p580643
                            have bp580644 := gB_any p580644
                            refine Gp_cast hm580639 he580640 rfl dr_cX17_weigh_110 wr_10_202 (gr_cast 1 rfl) ?_
                            refine G_goto 121 dr_cX17_weigh_113 (by decide +kernel) ?_
                            refine G_astore (L' := [(6, .ref q580628), (5, .int g580312), (4, .ref q579748), (3, .int g579717), (2, .int g578542), (0, .ref q410272), (1, .ref q410273)]) dr_cX17_weigh_121 (Nat.le_of_ble_eq_true rfl) rfl ?_
                            refine G_aload 0 dr_cX17_weigh_123 rfl ?_
                            have fq580653 : fI (F580313 q580628) 0 = p580641 := by rw [he580640]; rfl
                            refine Gw_callV (As := []) (gV_ok D I) (cp_1660_Row_sets l hl0 D I P410270 F580313 q580628 p580641 p580642 p580643 p580644 p580645 p580646 p580647 hm580639 he580640 bp580641 bp580642 bp580645 bp580646 bp580647) dr_cX17_weigh_125 ⟨wr_10_181, wr_1_39, wr_10_184, by decide, rfl, (Nat.le_of_ble_eq_true rfl), (Nat.le_of_ble_eq_true rfl)⟩ wr_10_182 wr_10_183 hm580639 he580640 rfl (show 0 + 0 ≤ 0 by first | omega | decide) (show 0 + 0 ≤ 0 by first | omega | decide) (Nat.le_of_ble_eq_true rfl) (fun r580657 w580658 dc580654 ds580655 hp580656 => ?_) (fun _ _ _ _ _ z => z.elim)
                            obtain ⟨o580659, rfl, rfl, hdc, hds, bo580659, ht580660⟩ := hp580656
                            change G _ _ _ _ _ _ _ (.int o580659 :: _) _ _ _
                            refine G_widen (cs' := 0) (sl' := 0) (by omega) (by omega) ?_
                            refine G_if_eq 145 dr_cX17_weigh_128 (by decide +kernel) (fun hc580661 => ?_) (fun hc580661 => ?_)
                            · have r580662 : o580659.toInt = 0 := gj_eq hc580661 (show Int32.toInt 0 = 0 by decide)
                              have bo580659' : gB o580659 0 0 := gB_t0 r580662
                              refine G_aload 0 dr_cX17_weigh_145 rfl ?_
                              have fq580663 : fI (F580313 q580628) 5 = p580646 := by rw [he580640]; rfl
                              refine Gw_callV (As := []) (gV_ok D I) (cp_1675_Row_usesA l hl0 D I P410270 F580313 q580628 p580641 p580642 p580643 p580644 p580645 p580646 p580647 hm580639 he580640 bp580641 bp580642 bp580645 bp580646 bp580647) dr_cX17_weigh_147 ⟨wr_10_192, wr_1_39, wr_10_195, by decide, rfl, (Nat.le_of_ble_eq_true rfl), (Nat.le_of_ble_eq_true rfl)⟩ wr_10_193 wr_10_194 hm580639 he580640 rfl (show 0 + 0 ≤ 0 by first | omega | decide) (show 0 + 0 ≤ 0 by first | omega | decide) (Nat.le_of_ble_eq_true rfl) (fun r580667 w580668 dc580664 ds580665 hp580666 => ?_) (fun _ _ _ _ _ z => z.elim)
                              obtain ⟨o580669, rfl, rfl, hdc, hds, bo580669, x580670, ht580671⟩ := hp580666
                              change G _ _ _ _ _ _ _ (.int o580669 :: _) _ _ _
                              refine G_widen (cs' := 0) (sl' := 0) (by omega) (by omega) ?_
                              refine G_if_eq 167 dr_cX17_weigh_150 (by decide +kernel) (fun hc580672 => ?_) (fun hc580672 => ?_)
                              · have r580673 : o580669.toInt = 0 := gj_eq hc580672 (show Int32.toInt 0 = 0 by decide)
                                have bo580669' : gB o580669 0 0 := gB_t0 r580673
                                refine G_aload 0 dr_cX17_weigh_167 rfl ?_
                                have fq580674 : fI (F580313 q580628) 6 = p580647 := by rw [he580640]; rfl
                                refine Gw_callV (As := []) (gV_ok D I) (cp_1699_Row_usesB l hl0 D I P410270 F580313 q580628 p580641 p580642 p580643 p580644 p580645 p580646 p580647 hm580639 he580640 bp580641 bp580642 bp580645 bp580646 bp580647) dr_cX17_weigh_169 ⟨wr_10_196, wr_1_39, wr_10_199, by decide, rfl, (Nat.le_of_ble_eq_true rfl), (Nat.le_of_ble_eq_true rfl)⟩ wr_10_197 wr_10_198 hm580639 he580640 rfl (show 0 + 0 ≤ 0 by first | omega | decide) (show 0 + 0 ≤ 0 by first | omega | decide) (Nat.le_of_ble_eq_true rfl) (fun r580678 w580679 dc580675 ds580676 hp580677 => ?_) (fun _ _ _ _ _ z => z.elim)
                                obtain ⟨o580680, rfl, rfl, hdc, hds, bo580680, x580681, ht580682⟩ := hp580677
                                change G _ _ _ _ _ _ _ (.int o580680 :: _) _ _ _
                                refine G_widen (cs' := 0) (sl' := 0) (by omega) (by omega) ?_
                                refine G_if_eq 189 dr_cX17_weigh_172 (by decide +kernel) (fun hc580683 => ?_) (fun hc580683 => ?_)
                                · have r580684 : o580680.toInt = 0 := gj_eq hc580683 (show Int32.toInt 0 = 0 by decide)
                                  have bo580680' : gB o580680 0 0 := gB_t0 r580684
                                  obtain ⟨z580685, hz580685⟩ : ∃ z : Int32, z = g580312 + Int32.ofInt 1 := ⟨_, rfl⟩
                                  have ez580685 : z580685.toInt = g580312.toInt + 1 := gI_inc hz580685 (by decide) bg580312'' (by decide) (by decide)
                                  have bz580685 : gB z580685 1 1000000 := ⟨by omega, by omega⟩
                                  refine G_iinc (L' := [(5, .int z580685), (6, .ref q580628), (4, .ref q579748), (3, .int g579717), (2, .int g578542), (0, .ref q410272), (1, .ref q410273)]) z580685 1 dr_cX17_weigh_189 rfl hz580685.symm (Nat.le_of_ble_eq_true rfl) rfl ?_
                                  refine G_goto 74 dr_cX17_weigh_192 (by decide +kernel) ?_
                                  refine G_lv (L' := [(5, .int z580685), (4, .ref q579748), (3, .int g579717), (2, .int g578542), (0, .ref q410272), (1, .ref q410273)]) [0, 2, 3, 4, 5, 6] rfl ?_
                                  exact ih74_580317 F580313 z580685 (gB_w bz580685 (by decide) (by decide)) hT580314 hs580315 x580316 x580317 (fun k e1 ht => kt74_580318 k e1 (fun R c1 c2 c3 c4 c5 c6 c7 c8 c9 c10 c11 c12 c13 c14 c15 c16 c17 => c10 F580313 g580312 q579758 p580331 q580628 p580641 o580659 p580646 o580669 p580647 o580680 z580685 k e1 bg580312 hT580314 hs580315 x580316 x580317 fq580327 fq580338 fq580339 r580349 fq580350 r580616 hx580629 ht580638 fq580653 bo580659 ht580660 r580662 fq580663 bo580669 ht580671 r580673 fq580674 bo580680 ht580682 r580684 ez580685 (ht R c1 c2 c3 c4 c5 c6 c7 c8 c9 c10 c11 c12 c13 c14 c15 c16 c17))) (mz_up ez580685 (Int.le_trans bg580312''.2 (by decide)) hm74_580317)
                                · have r580686 : o580680.toInt ≠ 0 := gj_neq hc580683 (show Int32.toInt 0 = 0 by decide)
                                  have bo580680' : gB o580680 1 1 := gB_t1 bo580680 r580686
                                  refine G_aload_n 5 dr_cX17_weigh_175 rfl ?_
                                  have fq580687 : fR (F580313 q410272) 5 = (γ 9 5) := by rw [he580325]; rfl
                                  refine Gp_get 5 hm580326 he580325 dr_cX17_weigh_176 (gk_X17 D I) (Nat.le_of_ble_eq_true rfl) wr_7_79 rfl ?_
                                  refine G_aload 0 dr_cX17_weigh_179 rfl ?_
                                  have fq580688 : fI (F580313 q580628) 3 = p580644 := by rw [he580640]; rfl
                                  refine Gp_get 3 hm580639 he580640 dr_cX17_weigh_181 (gk_X15 D I) (Nat.le_of_ble_eq_true rfl) wr_9_190 rfl ?_
                                  refine G_dup2_11 dr_cX17_weigh_184 rfl rfl ?_
                                  have hm580689 : (γ 9 5) ∈ P410270 := RS_m hT580314 ht410302 (by decide)
                                  obtain ⟨f580691, he580690⟩ := show rk_17 I (F580313 (γ 9 5)) from RS_o hT580314 ht410302
                                  refine Gp_iald 0 hm580689 he580690 dr_cX17_weigh_185 rfl (gB_inr (by omega) (by omega)) (G_nam fun z580692 hz580692 => ?_)
                                  have bz580692 : gB z580692 (-2147483648) 2147483647 := gB_any z580692
                                  refine G_iload_n 3 dr_cX17_weigh_186 rfl ?_
                                  refine G_iadd dr_cX17_weigh_187 (G_nam fun z580693 hz580693 => ?_)
                                  have bz580693 : gB z580693 (-2147483648) 2147483647 := gB_any z580693
                                  refine Gp_iast 0 hm580689 he580690 dr_cX17_weigh_188 rfl (gB_inr (by omega) (by omega)) (fun F580694 e580695 n580696 => ?_)
                                  obtain ⟨f580697, hf580697⟩ : ∃ z, z = upd f580691 p580644.toNatClampNeg z580693 := ⟨_, rfl⟩
                                  rw [← hf580697] at e580695
                                  have he580698 : F580694 q410273 = .inr (18, [.ref q578555, .ref q578556, .int p578557, .int p578558]) := (n580696 q410273 (rn_oa he580320 he580690)).trans he580320
                                  have he580699 : F580694 q578555 = .inr (4, [.int p579729, .ref q579731, .int p579730]) := (n580696 q578555 (rn_oa he580321 he580690)).trans he580321
                                  have he580700 : F580694 q579731 = .inl (I (.object "java/lang/Object"), n579745, .inr (.inr (.inr (.inr f579746)))) := (n580696 q579731 (rn_ref_num he580322 he580690)).trans he580322
                                  have he580701 : F580694 q579748 = .inr (17, [.ref q579758, .ref q579759, .int p579760, .int p579761]) := (n580696 q579748 (rn_oa he580323 he580690)).trans he580323
                                  have he580702 : F580694 q410272 = .inr (22, [.ref (γ 9 0), .ref (γ 9 1), .ref (γ 9 2), .ref (γ 9 3), .ref (γ 9 4), .ref (γ 9 5), .ref (γ 9 6), .ref (γ 9 7), .ref (γ 9 8), .int p410280, .int p410281, .int p410282, .int p410283, .int p410284, .int p410285, .ref (γ 9 15), .ref (γ 9 16), .ref (γ 9 17), .ref (γ 9 18), .ref (γ 9 19), .ref (γ 9 20), .ref (γ 9 21), .ref (γ 9 22), .int p410286, .int p410287, .int p410288, .int p410289, .int p410290, .ref q410278, .ref (γ 9 29), .int p410291, .ref (γ 9 31), .int p410292, .int p410293, .int p410294, .ref q410279]) := (n580696 q410272 (rn_oa he580325 he580690)).trans he580325
                                  have he580703 : F580694 q579758 = .inr (4, [.int p580330, .ref q580332, .int p580331]) := (n580696 q579758 (rn_oa he580329 he580690)).trans he580329
                                  have he580704 : F580694 q580332 = .inl (I (.object "java/lang/Object"), n580625, .inr (.inr (.inr (.inr f580626)))) := (n580696 q580332 (rn_ref_num r580619 he580690)).trans r580619
                                  have he580705 : F580694 q580628 = .inr (20, [.int p580641, .int p580642, .int p580643, .int p580644, .int p580645, .int p580646, .int p580647]) := (n580696 q580628 (rn_oa he580640 he580690)).trans he580640
                                  have he580706 : F580694 (γ 9 5) = .inl (I .int, 2000, .inl f580697) := e580695
                                  have hs580707 : rStr γ [] F410271 F580694 := rStr_put hs580315 n580696 ht410302 (by decide)
                                  have kp580708 : F580694 q410272 = F410271 q410272 := (n580696 q410272 (rn_ty htq410272 ht410302 (by decide))).trans x580316
                                  have kp580709 : F580694 (γ 9 3) = F410271 (γ 9 3) := (n580696 (γ 9 3) (rn_ty ht410300 ht410302 (by decide))).trans x580317
                                  obtain ⟨z580710, hz580710⟩ : ∃ z : Int32, z = g580312 + Int32.ofInt 1 := ⟨_, rfl⟩
                                  have ez580710 : z580710.toInt = g580312.toInt + 1 := gI_inc hz580710 (by decide) bg580312'' (by decide) (by decide)
                                  have bz580710 : gB z580710 1 1000000 := ⟨by omega, by omega⟩
                                  refine G_iinc (L' := [(5, .int z580710), (6, .ref q580628), (4, .ref q579748), (3, .int g579717), (2, .int g578542), (0, .ref q410272), (1, .ref q410273)]) z580710 1 dr_cX17_weigh_189 rfl hz580710.symm (Nat.le_of_ble_eq_true rfl) rfl ?_
                                  refine G_goto 74 dr_cX17_weigh_192 (by decide +kernel) ?_
                                  have hT580711 : RS D I P410270 F580694 γ el := RS_set hT580314 n580696 ht410302 (by decide) ⟨f580697, he580706⟩
                                  refine G_lv (L' := [(5, .int z580710), (4, .ref q579748), (3, .int g579717), (2, .int g578542), (0, .ref q410272), (1, .ref q410273)]) [0, 2, 3, 4, 5, 6] rfl ?_
                                  exact ih74_580317 F580694 z580710 (gB_w bz580710 (by decide) (by decide)) hT580711 hs580707 kp580708 kp580709 (fun k e1 ht => kt74_580318 k e1 (fun R c1 c2 c3 c4 c5 c6 c7 c8 c9 c10 c11 c12 c13 c14 c15 c16 c17 => c11 F580313 g580312 q579758 p580331 q580628 p580641 o580659 p580646 o580669 p580647 o580680 p580644 f580691 z580692 z580693 f580697 F580694 z580710 k e1 bg580312 hT580314 hs580315 x580316 x580317 fq580327 fq580338 fq580339 r580349 fq580350 r580616 hx580629 ht580638 fq580653 bo580659 ht580660 r580662 fq580663 bo580669 ht580671 r580673 fq580674 bo580680 ht580682 r580686 fq580687 fq580688 he580690 hz580692 hz580693 hf580697 n580696 he580706 ez580710 (ht R c1 c2 c3 c4 c5 c6 c7 c8 c9 c10 c11 c12 c13 c14 c15 c16 c17))) (mz_up ez580710 (Int.le_trans bg580312''.2 (by decide)) hm74_580317)
                              · have r580712 : o580669.toInt ≠ 0 := gj_neq hc580672 (show Int32.toInt 0 = 0 by decide)
                                have bo580669' : gB o580669 1 1 := gB_t1 bo580669 r580712
                                refine G_aload_n 5 dr_cX17_weigh_153 rfl ?_
                                have fq580713 : fR (F580313 q410272) 5 = (γ 9 5) := by rw [he580325]; rfl
                                refine Gp_get 5 hm580326 he580325 dr_cX17_weigh_154 (gk_X17 D I) (Nat.le_of_ble_eq_true rfl) wr_7_79 rfl ?_
                                refine G_aload 0 dr_cX17_weigh_157 rfl ?_
                                have fq580714 : fI (F580313 q580628) 2 = p580643 := by rw [he580640]; rfl
                                refine Gp_get 2 hm580639 he580640 dr_cX17_weigh_159 (gk_X15 D I) (Nat.le_of_ble_eq_true rfl) wr_9_186 rfl ?_
                                refine G_dup2_11 dr_cX17_weigh_162 rfl rfl ?_
                                have hm580715 : (γ 9 5) ∈ P410270 := RS_m hT580314 ht410302 (by decide)
                                obtain ⟨f580717, he580716⟩ := show rk_17 I (F580313 (γ 9 5)) from RS_o hT580314 ht410302
                                refine Gp_iald 0 hm580715 he580716 dr_cX17_weigh_163 rfl (gB_inr (by omega) (by omega)) (G_nam fun z580718 hz580718 => ?_)
                                have bz580718 : gB z580718 (-2147483648) 2147483647 := gB_any z580718
                                refine G_iload_n 3 dr_cX17_weigh_164 rfl ?_
                                refine G_iadd dr_cX17_weigh_165 (G_nam fun z580719 hz580719 => ?_)
                                have bz580719 : gB z580719 (-2147483648) 2147483647 := gB_any z580719
                                refine Gp_iast 0 hm580715 he580716 dr_cX17_weigh_166 rfl (gB_inr (by omega) (by omega)) (fun F580720 e580721 n580722 => ?_)
                                obtain ⟨f580723, hf580723⟩ : ∃ z, z = upd f580717 p580643.toNatClampNeg z580719 := ⟨_, rfl⟩
                                rw [← hf580723] at e580721
                                have he580724 : F580720 q410273 = .inr (18, [.ref q578555, .ref q578556, .int p578557, .int p578558]) := (n580722 q410273 (rn_oa he580320 he580716)).trans he580320
                                have he580725 : F580720 q578555 = .inr (4, [.int p579729, .ref q579731, .int p579730]) := (n580722 q578555 (rn_oa he580321 he580716)).trans he580321
                                have he580726 : F580720 q579731 = .inl (I (.object "java/lang/Object"), n579745, .inr (.inr (.inr (.inr f579746)))) := (n580722 q579731 (rn_ref_num he580322 he580716)).trans he580322
                                have he580727 : F580720 q579748 = .inr (17, [.ref q579758, .ref q579759, .int p579760, .int p579761]) := (n580722 q579748 (rn_oa he580323 he580716)).trans he580323
                                have he580728 : F580720 q410272 = .inr (22, [.ref (γ 9 0), .ref (γ 9 1), .ref (γ 9 2), .ref (γ 9 3), .ref (γ 9 4), .ref (γ 9 5), .ref (γ 9 6), .ref (γ 9 7), .ref (γ 9 8), .int p410280, .int p410281, .int p410282, .int p410283, .int p410284, .int p410285, .ref (γ 9 15), .ref (γ 9 16), .ref (γ 9 17), .ref (γ 9 18), .ref (γ 9 19), .ref (γ 9 20), .ref (γ 9 21), .ref (γ 9 22), .int p410286, .int p410287, .int p410288, .int p410289, .int p410290, .ref q410278, .ref (γ 9 29), .int p410291, .ref (γ 9 31), .int p410292, .int p410293, .int p410294, .ref q410279]) := (n580722 q410272 (rn_oa he580325 he580716)).trans he580325
                                have he580729 : F580720 q579758 = .inr (4, [.int p580330, .ref q580332, .int p580331]) := (n580722 q579758 (rn_oa he580329 he580716)).trans he580329
                                have he580730 : F580720 q580332 = .inl (I (.object "java/lang/Object"), n580625, .inr (.inr (.inr (.inr f580626)))) := (n580722 q580332 (rn_ref_num r580619 he580716)).trans r580619
                                have he580731 : F580720 q580628 = .inr (20, [.int p580641, .int p580642, .int p580643, .int p580644, .int p580645, .int p580646, .int p580647]) := (n580722 q580628 (rn_oa he580640 he580716)).trans he580640
                                have he580732 : F580720 (γ 9 5) = .inl (I .int, 2000, .inl f580723) := e580721
                                have hs580733 : rStr γ [] F410271 F580720 := rStr_put hs580315 n580722 ht410302 (by decide)
                                have kp580734 : F580720 q410272 = F410271 q410272 := (n580722 q410272 (rn_ty htq410272 ht410302 (by decide))).trans x580316
                                have kp580735 : F580720 (γ 9 3) = F410271 (γ 9 3) := (n580722 (γ 9 3) (rn_ty ht410300 ht410302 (by decide))).trans x580317
                                refine G_aload 0 dr_cX17_weigh_167 rfl ?_
                                have hT580736 : RS D I P410270 F580720 γ el := RS_set hT580314 n580722 ht410302 (by decide) ⟨f580723, he580732⟩
                                have fq580737 : fI (F580720 q580628) 0 = p580641 := by rw [he580731]; rfl
                                have fq580738 : fI (F580720 q580628) 6 = p580647 := by rw [he580731]; rfl
                                refine Gw_callV (As := []) (gV_ok D I) (cp_1699_Row_usesB l hl0 D I P410270 F580720 q580628 p580641 p580642 p580643 p580644 p580645 p580646 p580647 hm580639 he580731 bp580641 bp580642 bp580645 bp580646 bp580647) dr_cX17_weigh_169 ⟨wr_10_196, wr_1_39, wr_10_199, by decide, rfl, (Nat.le_of_ble_eq_true rfl), (Nat.le_of_ble_eq_true rfl)⟩ wr_10_197 wr_10_198 hm580639 he580731 rfl (show 0 + 0 ≤ 0 by first | omega | decide) (show 0 + 0 ≤ 0 by first | omega | decide) (Nat.le_of_ble_eq_true rfl) (fun r580742 w580743 dc580739 ds580740 hp580741 => ?_) (fun _ _ _ _ _ z => z.elim)
                                obtain ⟨o580744, rfl, rfl, hdc, hds, bo580744, x580745, ht580746⟩ := hp580741
                                change G _ _ _ _ _ _ _ (.int o580744 :: _) _ _ _
                                refine G_widen (cs' := 0) (sl' := 0) (by omega) (by omega) ?_
                                refine G_if_eq 189 dr_cX17_weigh_172 (by decide +kernel) (fun hc580747 => ?_) (fun hc580747 => ?_)
                                · have r580748 : o580744.toInt = 0 := gj_eq hc580747 (show Int32.toInt 0 = 0 by decide)
                                  have bo580744' : gB o580744 0 0 := gB_t0 r580748
                                  obtain ⟨z580749, hz580749⟩ : ∃ z : Int32, z = g580312 + Int32.ofInt 1 := ⟨_, rfl⟩
                                  have ez580749 : z580749.toInt = g580312.toInt + 1 := gI_inc hz580749 (by decide) bg580312'' (by decide) (by decide)
                                  have bz580749 : gB z580749 1 1000000 := ⟨by omega, by omega⟩
                                  refine G_iinc (L' := [(5, .int z580749), (6, .ref q580628), (4, .ref q579748), (3, .int g579717), (2, .int g578542), (0, .ref q410272), (1, .ref q410273)]) z580749 1 dr_cX17_weigh_189 rfl hz580749.symm (Nat.le_of_ble_eq_true rfl) rfl ?_
                                  refine G_goto 74 dr_cX17_weigh_192 (by decide +kernel) ?_
                                  refine G_lv (L' := [(5, .int z580749), (4, .ref q579748), (3, .int g579717), (2, .int g578542), (0, .ref q410272), (1, .ref q410273)]) [0, 2, 3, 4, 5, 6] rfl ?_
                                  exact ih74_580317 F580720 z580749 (gB_w bz580749 (by decide) (by decide)) hT580736 hs580733 kp580734 kp580735 (fun k e1 ht => kt74_580318 k e1 (fun R c1 c2 c3 c4 c5 c6 c7 c8 c9 c10 c11 c12 c13 c14 c15 c16 c17 => c12 F580313 g580312 q579758 p580331 q580628 p580641 o580659 p580646 o580669 p580643 f580717 z580718 z580719 f580723 F580720 p580647 o580744 z580749 k e1 bg580312 hT580314 hs580315 x580316 x580317 fq580327 fq580338 fq580339 r580349 fq580350 r580616 hx580629 ht580638 fq580653 bo580659 ht580660 r580662 fq580663 bo580669 ht580671 r580712 fq580713 fq580714 he580716 hz580718 hz580719 hf580723 n580722 he580732 fq580737 fq580738 bo580744 ht580746 r580748 ez580749 (ht R c1 c2 c3 c4 c5 c6 c7 c8 c9 c10 c11 c12 c13 c14 c15 c16 c17))) (mz_up ez580749 (Int.le_trans bg580312''.2 (by decide)) hm74_580317)
                                · have r580750 : o580744.toInt ≠ 0 := gj_neq hc580747 (show Int32.toInt 0 = 0 by decide)
                                  have bo580744' : gB o580744 1 1 := gB_t1 bo580744 r580750
                                  refine G_aload_n 5 dr_cX17_weigh_175 rfl ?_
                                  have fq580751 : fR (F580720 q410272) 5 = (γ 9 5) := by rw [he580728]; rfl
                                  refine Gp_get 5 hm580326 he580728 dr_cX17_weigh_176 (gk_X17 D I) (Nat.le_of_ble_eq_true rfl) wr_7_79 rfl ?_
                                  refine G_aload 0 dr_cX17_weigh_179 rfl ?_
                                  have fq580752 : fI (F580720 q580628) 3 = p580644 := by rw [he580731]; rfl
                                  refine Gp_get 3 hm580639 he580731 dr_cX17_weigh_181 (gk_X15 D I) (Nat.le_of_ble_eq_true rfl) wr_9_190 rfl ?_
                                  refine G_dup2_11 dr_cX17_weigh_184 rfl rfl ?_
                                  refine Gp_iald 0 hm580715 he580732 dr_cX17_weigh_185 rfl (gB_inr (by omega) (by omega)) (G_nam fun z580753 hz580753 => ?_)
                                  have bz580753 : gB z580753 (-2147483648) 2147483647 := gB_any z580753
                                  refine G_iload_n 3 dr_cX17_weigh_186 rfl ?_
                                  refine G_iadd dr_cX17_weigh_187 (G_nam fun z580754 hz580754 => ?_)
                                  have bz580754 : gB z580754 (-2147483648) 2147483647 := gB_any z580754
                                  refine Gp_iast 0 hm580715 he580732 dr_cX17_weigh_188 rfl (gB_inr (by omega) (by omega)) (fun F580755 e580756 n580757 => ?_)
                                  obtain ⟨f580758, hf580758⟩ : ∃ z, z = upd f580723 p580644.toNatClampNeg z580754 := ⟨_, rfl⟩
                                  rw [← hf580758] at e580756
                                  have he580759 : F580755 q410273 = .inr (18, [.ref q578555, .ref q578556, .int p578557, .int p578558]) := (n580757 q410273 (rn_oa he580724 he580732)).trans he580724
                                  have he580760 : F580755 q578555 = .inr (4, [.int p579729, .ref q579731, .int p579730]) := (n580757 q578555 (rn_oa he580725 he580732)).trans he580725
                                  have he580761 : F580755 q579731 = .inl (I (.object "java/lang/Object"), n579745, .inr (.inr (.inr (.inr f579746)))) := (n580757 q579731 (rn_ref_num he580726 he580732)).trans he580726
                                  have he580762 : F580755 q579748 = .inr (17, [.ref q579758, .ref q579759, .int p579760, .int p579761]) := (n580757 q579748 (rn_oa he580727 he580732)).trans he580727
                                  have he580763 : F580755 q410272 = .inr (22, [.ref (γ 9 0), .ref (γ 9 1), .ref (γ 9 2), .ref (γ 9 3), .ref (γ 9 4), .ref (γ 9 5), .ref (γ 9 6), .ref (γ 9 7), .ref (γ 9 8), .int p410280, .int p410281, .int p410282, .int p410283, .int p410284, .int p410285, .ref (γ 9 15), .ref (γ 9 16), .ref (γ 9 17), .ref (γ 9 18), .ref (γ 9 19), .ref (γ 9 20), .ref (γ 9 21), .ref (γ 9 22), .int p410286, .int p410287, .int p410288, .int p410289, .int p410290, .ref q410278, .ref (γ 9 29), .int p410291, .ref (γ 9 31), .int p410292, .int p410293, .int p410294, .ref q410279]) := (n580757 q410272 (rn_oa he580728 he580732)).trans he580728
                                  have he580764 : F580755 q579758 = .inr (4, [.int p580330, .ref q580332, .int p580331]) := (n580757 q579758 (rn_oa he580729 he580732)).trans he580729
                                  have he580765 : F580755 q580332 = .inl (I (.object "java/lang/Object"), n580625, .inr (.inr (.inr (.inr f580626)))) := (n580757 q580332 (rn_ref_num he580730 he580732)).trans he580730
                                  have he580766 : F580755 q580628 = .inr (20, [.int p580641, .int p580642, .int p580643, .int p580644, .int p580645, .int p580646, .int p580647]) := (n580757 q580628 (rn_oa he580731 he580732)).trans he580731
                                  have he580767 : F580755 (γ 9 5) = .inl (I .int, 2000, .inl f580758) := e580756
                                  have hs580768 : rStr γ [] F410271 F580755 := rStr_put hs580733 n580757 ht410302 (by decide)
                                  have kp580769 : F580755 q410272 = F410271 q410272 := (n580757 q410272 (rn_ty htq410272 ht410302 (by decide))).trans kp580734
                                  have kp580770 : F580755 (γ 9 3) = F410271 (γ 9 3) := (n580757 (γ 9 3) (rn_ty ht410300 ht410302 (by decide))).trans kp580735
                                  obtain ⟨z580771, hz580771⟩ : ∃ z : Int32, z = g580312 + Int32.ofInt 1 := ⟨_, rfl⟩
                                  have ez580771 : z580771.toInt = g580312.toInt + 1 := gI_inc hz580771 (by decide) bg580312'' (by decide) (by decide)
                                  have bz580771 : gB z580771 1 1000000 := ⟨by omega, by omega⟩
                                  refine G_iinc (L' := [(5, .int z580771), (6, .ref q580628), (4, .ref q579748), (3, .int g579717), (2, .int g578542), (0, .ref q410272), (1, .ref q410273)]) z580771 1 dr_cX17_weigh_189 rfl hz580771.symm (Nat.le_of_ble_eq_true rfl) rfl ?_
                                  refine G_goto 74 dr_cX17_weigh_192 (by decide +kernel) ?_
                                  have hT580772 : RS D I P410270 F580755 γ el := RS_set hT580736 n580757 ht410302 (by decide) ⟨f580758, he580767⟩
                                  refine G_lv (L' := [(5, .int z580771), (4, .ref q579748), (3, .int g579717), (2, .int g578542), (0, .ref q410272), (1, .ref q410273)]) [0, 2, 3, 4, 5, 6] rfl ?_
                                  exact ih74_580317 F580755 z580771 (gB_w bz580771 (by decide) (by decide)) hT580772 hs580768 kp580769 kp580770 (fun k e1 ht => kt74_580318 k e1 (fun R c1 c2 c3 c4 c5 c6 c7 c8 c9 c10 c11 c12 c13 c14 c15 c16 c17 => c13 F580313 g580312 q579758 p580331 q580628 p580641 o580659 p580646 o580669 p580643 f580717 z580718 z580719 f580723 F580720 p580647 o580744 p580644 z580753 z580754 f580758 F580755 z580771 k e1 bg580312 hT580314 hs580315 x580316 x580317 fq580327 fq580338 fq580339 r580349 fq580350 r580616 hx580629 ht580638 fq580653 bo580659 ht580660 r580662 fq580663 bo580669 ht580671 r580712 fq580713 fq580714 he580716 hz580718 hz580719 hf580723 n580722 he580732 fq580737 fq580738 bo580744 ht580746 r580750 fq580751 fq580752 he580732 hz580753 hz580754 hf580758 n580757 he580767 ez580771 (ht R c1 c2 c3 c4 c5 c6 c7 c8 c9 c10 c11 c12 c13 c14 c15 c16 c17))) (mz_up ez580771 (Int.le_trans bg580312''.2 (by decide)) hm74_580317)
                            · have r580773 : o580659.toInt ≠ 0 := gj_neq hc580661 (show Int32.toInt 0 = 0 by decide)
                              have bo580659' : gB o580659 1 1 := gB_t1 bo580659 r580773
                              refine G_aload_n 5 dr_cX17_weigh_131 rfl ?_
                              have fq580774 : fR (F580313 q410272) 5 = (γ 9 5) := by rw [he580325]; rfl
                              refine Gp_get 5 hm580326 he580325 dr_cX17_weigh_132 (gk_X17 D I) (Nat.le_of_ble_eq_true rfl) wr_7_79 rfl ?_
                              refine G_aload 0 dr_cX17_weigh_135 rfl ?_
                              have fq580775 : fI (F580313 q580628) 1 = p580642 := by rw [he580640]; rfl
                              refine Gp_get 1 hm580639 he580640 dr_cX17_weigh_137 (gk_X15 D I) (Nat.le_of_ble_eq_true rfl) wr_9_182 rfl ?_
                              refine G_dup2_11 dr_cX17_weigh_140 rfl rfl ?_
                              have hm580776 : (γ 9 5) ∈ P410270 := RS_m hT580314 ht410302 (by decide)
                              obtain ⟨f580778, he580777⟩ := show rk_17 I (F580313 (γ 9 5)) from RS_o hT580314 ht410302
                              refine Gp_iald 0 hm580776 he580777 dr_cX17_weigh_141 rfl (gB_in bp580642 (by decide) (by decide)) (G_nam fun z580779 hz580779 => ?_)
                              have bz580779 : gB z580779 (-2147483648) 2147483647 := gB_any z580779
                              refine G_iload_n 3 dr_cX17_weigh_142 rfl ?_
                              refine G_iadd dr_cX17_weigh_143 (G_nam fun z580780 hz580780 => ?_)
                              have bz580780 : gB z580780 (-2147483648) 2147483647 := gB_any z580780
                              refine Gp_iast 0 hm580776 he580777 dr_cX17_weigh_144 rfl (gB_in bp580642 (by decide) (by decide)) (fun F580781 e580782 n580783 => ?_)
                              obtain ⟨f580784, hf580784⟩ : ∃ z, z = upd f580778 p580642.toNatClampNeg z580780 := ⟨_, rfl⟩
                              rw [← hf580784] at e580782
                              have he580785 : F580781 q410273 = .inr (18, [.ref q578555, .ref q578556, .int p578557, .int p578558]) := (n580783 q410273 (rn_oa he580320 he580777)).trans he580320
                              have he580786 : F580781 q578555 = .inr (4, [.int p579729, .ref q579731, .int p579730]) := (n580783 q578555 (rn_oa he580321 he580777)).trans he580321
                              have he580787 : F580781 q579731 = .inl (I (.object "java/lang/Object"), n579745, .inr (.inr (.inr (.inr f579746)))) := (n580783 q579731 (rn_ref_num he580322 he580777)).trans he580322
                              have he580788 : F580781 q579748 = .inr (17, [.ref q579758, .ref q579759, .int p579760, .int p579761]) := (n580783 q579748 (rn_oa he580323 he580777)).trans he580323
                              have he580789 : F580781 q410272 = .inr (22, [.ref (γ 9 0), .ref (γ 9 1), .ref (γ 9 2), .ref (γ 9 3), .ref (γ 9 4), .ref (γ 9 5), .ref (γ 9 6), .ref (γ 9 7), .ref (γ 9 8), .int p410280, .int p410281, .int p410282, .int p410283, .int p410284, .int p410285, .ref (γ 9 15), .ref (γ 9 16), .ref (γ 9 17), .ref (γ 9 18), .ref (γ 9 19), .ref (γ 9 20), .ref (γ 9 21), .ref (γ 9 22), .int p410286, .int p410287, .int p410288, .int p410289, .int p410290, .ref q410278, .ref (γ 9 29), .int p410291, .ref (γ 9 31), .int p410292, .int p410293, .int p410294, .ref q410279]) := (n580783 q410272 (rn_oa he580325 he580777)).trans he580325
                              have he580790 : F580781 q579758 = .inr (4, [.int p580330, .ref q580332, .int p580331]) := (n580783 q579758 (rn_oa he580329 he580777)).trans he580329
                              have he580791 : F580781 q580332 = .inl (I (.object "java/lang/Object"), n580625, .inr (.inr (.inr (.inr f580626)))) := (n580783 q580332 (rn_ref_num r580619 he580777)).trans r580619
                              have he580792 : F580781 q580628 = .inr (20, [.int p580641, .int p580642, .int p580643, .int p580644, .int p580645, .int p580646, .int p580647]) := (n580783 q580628 (rn_oa he580640 he580777)).trans he580640
                              have he580793 : F580781 (γ 9 5) = .inl (I .int, 2000, .inl f580784) := e580782
                              have hs580794 : rStr γ [] F410271 F580781 := rStr_put hs580315 n580783 ht410302 (by decide)
                              have kp580795 : F580781 q410272 = F410271 q410272 := (n580783 q410272 (rn_ty htq410272 ht410302 (by decide))).trans x580316
                              have kp580796 : F580781 (γ 9 3) = F410271 (γ 9 3) := (n580783 (γ 9 3) (rn_ty ht410300 ht410302 (by decide))).trans x580317
                              refine G_aload 0 dr_cX17_weigh_145 rfl ?_
                              have hT580797 : RS D I P410270 F580781 γ el := RS_set hT580314 n580783 ht410302 (by decide) ⟨f580784, he580793⟩
                              have fq580798 : fI (F580781 q580628) 0 = p580641 := by rw [he580792]; rfl
                              have fq580799 : fI (F580781 q580628) 5 = p580646 := by rw [he580792]; rfl
                              refine Gw_callV (As := []) (gV_ok D I) (cp_1675_Row_usesA l hl0 D I P410270 F580781 q580628 p580641 p580642 p580643 p580644 p580645 p580646 p580647 hm580639 he580792 bp580641 bp580642 bp580645 bp580646 bp580647) dr_cX17_weigh_147 ⟨wr_10_192, wr_1_39, wr_10_195, by decide, rfl, (Nat.le_of_ble_eq_true rfl), (Nat.le_of_ble_eq_true rfl)⟩ wr_10_193 wr_10_194 hm580639 he580792 rfl (show 0 + 0 ≤ 0 by first | omega | decide) (show 0 + 0 ≤ 0 by first | omega | decide) (Nat.le_of_ble_eq_true rfl) (fun r580803 w580804 dc580800 ds580801 hp580802 => ?_) (fun _ _ _ _ _ z => z.elim)
                              obtain ⟨o580805, rfl, rfl, hdc, hds, bo580805, x580806, ht580807⟩ := hp580802
                              change G _ _ _ _ _ _ _ (.int o580805 :: _) _ _ _
                              refine G_widen (cs' := 0) (sl' := 0) (by omega) (by omega) ?_
                              refine G_if_eq 167 dr_cX17_weigh_150 (by decide +kernel) (fun hc580808 => ?_) (fun hc580808 => ?_)
                              · have r580809 : o580805.toInt = 0 := gj_eq hc580808 (show Int32.toInt 0 = 0 by decide)
                                have bo580805' : gB o580805 0 0 := gB_t0 r580809
                                refine G_aload 0 dr_cX17_weigh_167 rfl ?_
                                have fq580810 : fI (F580781 q580628) 6 = p580647 := by rw [he580792]; rfl
                                refine Gw_callV (As := []) (gV_ok D I) (cp_1699_Row_usesB l hl0 D I P410270 F580781 q580628 p580641 p580642 p580643 p580644 p580645 p580646 p580647 hm580639 he580792 bp580641 bp580642 bp580645 bp580646 bp580647) dr_cX17_weigh_169 ⟨wr_10_196, wr_1_39, wr_10_199, by decide, rfl, (Nat.le_of_ble_eq_true rfl), (Nat.le_of_ble_eq_true rfl)⟩ wr_10_197 wr_10_198 hm580639 he580792 rfl (show 0 + 0 ≤ 0 by first | omega | decide) (show 0 + 0 ≤ 0 by first | omega | decide) (Nat.le_of_ble_eq_true rfl) (fun r580814 w580815 dc580811 ds580812 hp580813 => ?_) (fun _ _ _ _ _ z => z.elim)
                                obtain ⟨o580816, rfl, rfl, hdc, hds, bo580816, x580817, ht580818⟩ := hp580813
                                change G _ _ _ _ _ _ _ (.int o580816 :: _) _ _ _
                                refine G_widen (cs' := 0) (sl' := 0) (by omega) (by omega) ?_
                                refine G_if_eq 189 dr_cX17_weigh_172 (by decide +kernel) (fun hc580819 => ?_) (fun hc580819 => ?_)
                                · have r580820 : o580816.toInt = 0 := gj_eq hc580819 (show Int32.toInt 0 = 0 by decide)
                                  have bo580816' : gB o580816 0 0 := gB_t0 r580820
                                  obtain ⟨z580821, hz580821⟩ : ∃ z : Int32, z = g580312 + Int32.ofInt 1 := ⟨_, rfl⟩
                                  have ez580821 : z580821.toInt = g580312.toInt + 1 := gI_inc hz580821 (by decide) bg580312'' (by decide) (by decide)
                                  have bz580821 : gB z580821 1 1000000 := ⟨by omega, by omega⟩
                                  refine G_iinc (L' := [(5, .int z580821), (6, .ref q580628), (4, .ref q579748), (3, .int g579717), (2, .int g578542), (0, .ref q410272), (1, .ref q410273)]) z580821 1 dr_cX17_weigh_189 rfl hz580821.symm (Nat.le_of_ble_eq_true rfl) rfl ?_
                                  refine G_goto 74 dr_cX17_weigh_192 (by decide +kernel) ?_
                                  refine G_lv (L' := [(5, .int z580821), (4, .ref q579748), (3, .int g579717), (2, .int g578542), (0, .ref q410272), (1, .ref q410273)]) [0, 2, 3, 4, 5, 6] rfl ?_
                                  exact ih74_580317 F580781 z580821 (gB_w bz580821 (by decide) (by decide)) hT580797 hs580794 kp580795 kp580796 (fun k e1 ht => kt74_580318 k e1 (fun R c1 c2 c3 c4 c5 c6 c7 c8 c9 c10 c11 c12 c13 c14 c15 c16 c17 => c14 F580313 g580312 q579758 p580331 q580628 p580641 o580659 p580642 f580778 z580779 z580780 f580784 F580781 p580646 o580805 p580647 o580816 z580821 k e1 bg580312 hT580314 hs580315 x580316 x580317 fq580327 fq580338 fq580339 r580349 fq580350 r580616 hx580629 ht580638 fq580653 bo580659 ht580660 r580773 fq580774 fq580775 he580777 hz580779 hz580780 hf580784 n580783 he580793 fq580798 fq580799 bo580805 ht580807 r580809 fq580810 bo580816 ht580818 r580820 ez580821 (ht R c1 c2 c3 c4 c5 c6 c7 c8 c9 c10 c11 c12 c13 c14 c15 c16 c17))) (mz_up ez580821 (Int.le_trans bg580312''.2 (by decide)) hm74_580317)
                                · have r580822 : o580816.toInt ≠ 0 := gj_neq hc580819 (show Int32.toInt 0 = 0 by decide)
                                  have bo580816' : gB o580816 1 1 := gB_t1 bo580816 r580822
                                  refine G_aload_n 5 dr_cX17_weigh_175 rfl ?_
                                  have fq580823 : fR (F580781 q410272) 5 = (γ 9 5) := by rw [he580789]; rfl
                                  refine Gp_get 5 hm580326 he580789 dr_cX17_weigh_176 (gk_X17 D I) (Nat.le_of_ble_eq_true rfl) wr_7_79 rfl ?_
                                  refine G_aload 0 dr_cX17_weigh_179 rfl ?_
                                  have fq580824 : fI (F580781 q580628) 3 = p580644 := by rw [he580792]; rfl
                                  refine Gp_get 3 hm580639 he580792 dr_cX17_weigh_181 (gk_X15 D I) (Nat.le_of_ble_eq_true rfl) wr_9_190 rfl ?_
                                  refine G_dup2_11 dr_cX17_weigh_184 rfl rfl ?_
                                  refine Gp_iald 0 hm580776 he580793 dr_cX17_weigh_185 rfl (gB_inr (by omega) (by omega)) (G_nam fun z580825 hz580825 => ?_)
                                  have bz580825 : gB z580825 (-2147483648) 2147483647 := gB_any z580825
                                  refine G_iload_n 3 dr_cX17_weigh_186 rfl ?_
                                  refine G_iadd dr_cX17_weigh_187 (G_nam fun z580826 hz580826 => ?_)
                                  have bz580826 : gB z580826 (-2147483648) 2147483647 := gB_any z580826
                                  refine Gp_iast 0 hm580776 he580793 dr_cX17_weigh_188 rfl (gB_inr (by omega) (by omega)) (fun F580827 e580828 n580829 => ?_)
                                  obtain ⟨f580830, hf580830⟩ : ∃ z, z = upd f580784 p580644.toNatClampNeg z580826 := ⟨_, rfl⟩
                                  rw [← hf580830] at e580828
                                  have he580831 : F580827 q410273 = .inr (18, [.ref q578555, .ref q578556, .int p578557, .int p578558]) := (n580829 q410273 (rn_oa he580785 he580793)).trans he580785
                                  have he580832 : F580827 q578555 = .inr (4, [.int p579729, .ref q579731, .int p579730]) := (n580829 q578555 (rn_oa he580786 he580793)).trans he580786
                                  have he580833 : F580827 q579731 = .inl (I (.object "java/lang/Object"), n579745, .inr (.inr (.inr (.inr f579746)))) := (n580829 q579731 (rn_ref_num he580787 he580793)).trans he580787
                                  have he580834 : F580827 q579748 = .inr (17, [.ref q579758, .ref q579759, .int p579760, .int p579761]) := (n580829 q579748 (rn_oa he580788 he580793)).trans he580788
                                  have he580835 : F580827 q410272 = .inr (22, [.ref (γ 9 0), .ref (γ 9 1), .ref (γ 9 2), .ref (γ 9 3), .ref (γ 9 4), .ref (γ 9 5), .ref (γ 9 6), .ref (γ 9 7), .ref (γ 9 8), .int p410280, .int p410281, .int p410282, .int p410283, .int p410284, .int p410285, .ref (γ 9 15), .ref (γ 9 16), .ref (γ 9 17), .ref (γ 9 18), .ref (γ 9 19), .ref (γ 9 20), .ref (γ 9 21), .ref (γ 9 22), .int p410286, .int p410287, .int p410288, .int p410289, .int p410290, .ref q410278, .ref (γ 9 29), .int p410291, .ref (γ 9 31), .int p410292, .int p410293, .int p410294, .ref q410279]) := (n580829 q410272 (rn_oa he580789 he580793)).trans he580789
                                  have he580836 : F580827 q579758 = .inr (4, [.int p580330, .ref q580332, .int p580331]) := (n580829 q579758 (rn_oa he580790 he580793)).trans he580790
                                  have he580837 : F580827 q580332 = .inl (I (.object "java/lang/Object"), n580625, .inr (.inr (.inr (.inr f580626)))) := (n580829 q580332 (rn_ref_num he580791 he580793)).trans he580791
                                  have he580838 : F580827 q580628 = .inr (20, [.int p580641, .int p580642, .int p580643, .int p580644, .int p580645, .int p580646, .int p580647]) := (n580829 q580628 (rn_oa he580792 he580793)).trans he580792
                                  have he580839 : F580827 (γ 9 5) = .inl (I .int, 2000, .inl f580830) := e580828
                                  have hs580840 : rStr γ [] F410271 F580827 := rStr_put hs580794 n580829 ht410302 (by decide)
                                  have kp580841 : F580827 q410272 = F410271 q410272 := (n580829 q410272 (rn_ty htq410272 ht410302 (by decide))).trans kp580795
                                  have kp580842 : F580827 (γ 9 3) = F410271 (γ 9 3) := (n580829 (γ 9 3) (rn_ty ht410300 ht410302 (by decide))).trans kp580796
                                  obtain ⟨z580843, hz580843⟩ : ∃ z : Int32, z = g580312 + Int32.ofInt 1 := ⟨_, rfl⟩
                                  have ez580843 : z580843.toInt = g580312.toInt + 1 := gI_inc hz580843 (by decide) bg580312'' (by decide) (by decide)
                                  have bz580843 : gB z580843 1 1000000 := ⟨by omega, by omega⟩
                                  refine G_iinc (L' := [(5, .int z580843), (6, .ref q580628), (4, .ref q579748), (3, .int g579717), (2, .int g578542), (0, .ref q410272), (1, .ref q410273)]) z580843 1 dr_cX17_weigh_189 rfl hz580843.symm (Nat.le_of_ble_eq_true rfl) rfl ?_
                                  refine G_goto 74 dr_cX17_weigh_192 (by decide +kernel) ?_
                                  have hT580844 : RS D I P410270 F580827 γ el := RS_set hT580797 n580829 ht410302 (by decide) ⟨f580830, he580839⟩
                                  refine G_lv (L' := [(5, .int z580843), (4, .ref q579748), (3, .int g579717), (2, .int g578542), (0, .ref q410272), (1, .ref q410273)]) [0, 2, 3, 4, 5, 6] rfl ?_
                                  exact ih74_580317 F580827 z580843 (gB_w bz580843 (by decide) (by decide)) hT580844 hs580840 kp580841 kp580842 (fun k e1 ht => kt74_580318 k e1 (fun R c1 c2 c3 c4 c5 c6 c7 c8 c9 c10 c11 c12 c13 c14 c15 c16 c17 => c15 F580313 g580312 q579758 p580331 q580628 p580641 o580659 p580642 f580778 z580779 z580780 f580784 F580781 p580646 o580805 p580647 o580816 p580644 z580825 z580826 f580830 F580827 z580843 k e1 bg580312 hT580314 hs580315 x580316 x580317 fq580327 fq580338 fq580339 r580349 fq580350 r580616 hx580629 ht580638 fq580653 bo580659 ht580660 r580773 fq580774 fq580775 he580777 hz580779 hz580780 hf580784 n580783 he580793 fq580798 fq580799 bo580805 ht580807 r580809 fq580810 bo580816 ht580818 r580822 fq580823 fq580824 he580793 hz580825 hz580826 hf580830 n580829 he580839 ez580843 (ht R c1 c2 c3 c4 c5 c6 c7 c8 c9 c10 c11 c12 c13 c14 c15 c16 c17))) (mz_up ez580843 (Int.le_trans bg580312''.2 (by decide)) hm74_580317)
                              · have r580845 : o580805.toInt ≠ 0 := gj_neq hc580808 (show Int32.toInt 0 = 0 by decide)
                                have bo580805' : gB o580805 1 1 := gB_t1 bo580805 r580845
                                refine G_aload_n 5 dr_cX17_weigh_153 rfl ?_
                                have fq580846 : fR (F580781 q410272) 5 = (γ 9 5) := by rw [he580789]; rfl
                                refine Gp_get 5 hm580326 he580789 dr_cX17_weigh_154 (gk_X17 D I) (Nat.le_of_ble_eq_true rfl) wr_7_79 rfl ?_
                                refine G_aload 0 dr_cX17_weigh_157 rfl ?_
                                have fq580847 : fI (F580781 q580628) 2 = p580643 := by rw [he580792]; rfl
                                refine Gp_get 2 hm580639 he580792 dr_cX17_weigh_159 (gk_X15 D I) (Nat.le_of_ble_eq_true rfl) wr_9_186 rfl ?_
                                refine G_dup2_11 dr_cX17_weigh_162 rfl rfl ?_
                                refine Gp_iald 0 hm580776 he580793 dr_cX17_weigh_163 rfl (gB_inr (by omega) (by omega)) (G_nam fun z580848 hz580848 => ?_)
                                have bz580848 : gB z580848 (-2147483648) 2147483647 := gB_any z580848
                                refine G_iload_n 3 dr_cX17_weigh_164 rfl ?_
                                refine G_iadd dr_cX17_weigh_165 (G_nam fun z580849 hz580849 => ?_)
                                have bz580849 : gB z580849 (-2147483648) 2147483647 := gB_any z580849
                                refine Gp_iast 0 hm580776 he580793 dr_cX17_weigh_166 rfl (gB_inr (by omega) (by omega)) (fun F580850 e580851 n580852 => ?_)
                                obtain ⟨f580853, hf580853⟩ : ∃ z, z = upd f580784 p580643.toNatClampNeg z580849 := ⟨_, rfl⟩
                                rw [← hf580853] at e580851
                                have he580854 : F580850 q410273 = .inr (18, [.ref q578555, .ref q578556, .int p578557, .int p578558]) := (n580852 q410273 (rn_oa he580785 he580793)).trans he580785
                                have he580855 : F580850 q578555 = .inr (4, [.int p579729, .ref q579731, .int p579730]) := (n580852 q578555 (rn_oa he580786 he580793)).trans he580786
                                have he580856 : F580850 q579731 = .inl (I (.object "java/lang/Object"), n579745, .inr (.inr (.inr (.inr f579746)))) := (n580852 q579731 (rn_ref_num he580787 he580793)).trans he580787
                                have he580857 : F580850 q579748 = .inr (17, [.ref q579758, .ref q579759, .int p579760, .int p579761]) := (n580852 q579748 (rn_oa he580788 he580793)).trans he580788
                                have he580858 : F580850 q410272 = .inr (22, [.ref (γ 9 0), .ref (γ 9 1), .ref (γ 9 2), .ref (γ 9 3), .ref (γ 9 4), .ref (γ 9 5), .ref (γ 9 6), .ref (γ 9 7), .ref (γ 9 8), .int p410280, .int p410281, .int p410282, .int p410283, .int p410284, .int p410285, .ref (γ 9 15), .ref (γ 9 16), .ref (γ 9 17), .ref (γ 9 18), .ref (γ 9 19), .ref (γ 9 20), .ref (γ 9 21), .ref (γ 9 22), .int p410286, .int p410287, .int p410288, .int p410289, .int p410290, .ref q410278, .ref (γ 9 29), .int p410291, .ref (γ 9 31), .int p410292, .int p410293, .int p410294, .ref q410279]) := (n580852 q410272 (rn_oa he580789 he580793)).trans he580789
                                have he580859 : F580850 q579758 = .inr (4, [.int p580330, .ref q580332, .int p580331]) := (n580852 q579758 (rn_oa he580790 he580793)).trans he580790
                                have he580860 : F580850 q580332 = .inl (I (.object "java/lang/Object"), n580625, .inr (.inr (.inr (.inr f580626)))) := (n580852 q580332 (rn_ref_num he580791 he580793)).trans he580791
                                have he580861 : F580850 q580628 = .inr (20, [.int p580641, .int p580642, .int p580643, .int p580644, .int p580645, .int p580646, .int p580647]) := (n580852 q580628 (rn_oa he580792 he580793)).trans he580792
                                have he580862 : F580850 (γ 9 5) = .inl (I .int, 2000, .inl f580853) := e580851
                                have hs580863 : rStr γ [] F410271 F580850 := rStr_put hs580794 n580852 ht410302 (by decide)
                                have kp580864 : F580850 q410272 = F410271 q410272 := (n580852 q410272 (rn_ty htq410272 ht410302 (by decide))).trans kp580795
                                have kp580865 : F580850 (γ 9 3) = F410271 (γ 9 3) := (n580852 (γ 9 3) (rn_ty ht410300 ht410302 (by decide))).trans kp580796
                                refine G_aload 0 dr_cX17_weigh_167 rfl ?_
                                have hT580866 : RS D I P410270 F580850 γ el := RS_set hT580797 n580852 ht410302 (by decide) ⟨f580853, he580862⟩
                                have fq580867 : fI (F580850 q580628) 0 = p580641 := by rw [he580861]; rfl
                                have fq580868 : fI (F580850 q580628) 6 = p580647 := by rw [he580861]; rfl
                                refine Gw_callV (As := []) (gV_ok D I) (cp_1699_Row_usesB l hl0 D I P410270 F580850 q580628 p580641 p580642 p580643 p580644 p580645 p580646 p580647 hm580639 he580861 bp580641 bp580642 bp580645 bp580646 bp580647) dr_cX17_weigh_169 ⟨wr_10_196, wr_1_39, wr_10_199, by decide, rfl, (Nat.le_of_ble_eq_true rfl), (Nat.le_of_ble_eq_true rfl)⟩ wr_10_197 wr_10_198 hm580639 he580861 rfl (show 0 + 0 ≤ 0 by first | omega | decide) (show 0 + 0 ≤ 0 by first | omega | decide) (Nat.le_of_ble_eq_true rfl) (fun r580872 w580873 dc580869 ds580870 hp580871 => ?_) (fun _ _ _ _ _ z => z.elim)
                                obtain ⟨o580874, rfl, rfl, hdc, hds, bo580874, x580875, ht580876⟩ := hp580871
                                change G _ _ _ _ _ _ _ (.int o580874 :: _) _ _ _
                                refine G_widen (cs' := 0) (sl' := 0) (by omega) (by omega) ?_
                                refine G_if_eq 189 dr_cX17_weigh_172 (by decide +kernel) (fun hc580877 => ?_) (fun hc580877 => ?_)
                                · have r580878 : o580874.toInt = 0 := gj_eq hc580877 (show Int32.toInt 0 = 0 by decide)
                                  have bo580874' : gB o580874 0 0 := gB_t0 r580878
                                  obtain ⟨z580879, hz580879⟩ : ∃ z : Int32, z = g580312 + Int32.ofInt 1 := ⟨_, rfl⟩
                                  have ez580879 : z580879.toInt = g580312.toInt + 1 := gI_inc hz580879 (by decide) bg580312'' (by decide) (by decide)
                                  have bz580879 : gB z580879 1 1000000 := ⟨by omega, by omega⟩
                                  refine G_iinc (L' := [(5, .int z580879), (6, .ref q580628), (4, .ref q579748), (3, .int g579717), (2, .int g578542), (0, .ref q410272), (1, .ref q410273)]) z580879 1 dr_cX17_weigh_189 rfl hz580879.symm (Nat.le_of_ble_eq_true rfl) rfl ?_
                                  refine G_goto 74 dr_cX17_weigh_192 (by decide +kernel) ?_
                                  refine G_lv (L' := [(5, .int z580879), (4, .ref q579748), (3, .int g579717), (2, .int g578542), (0, .ref q410272), (1, .ref q410273)]) [0, 2, 3, 4, 5, 6] rfl ?_
                                  exact ih74_580317 F580850 z580879 (gB_w bz580879 (by decide) (by decide)) hT580866 hs580863 kp580864 kp580865 (fun k e1 ht => kt74_580318 k e1 (fun R c1 c2 c3 c4 c5 c6 c7 c8 c9 c10 c11 c12 c13 c14 c15 c16 c17 => c16 F580313 g580312 q579758 p580331 q580628 p580641 o580659 p580642 f580778 z580779 z580780 f580784 F580781 p580646 o580805 p580643 z580848 z580849 f580853 F580850 p580647 o580874 z580879 k e1 bg580312 hT580314 hs580315 x580316 x580317 fq580327 fq580338 fq580339 r580349 fq580350 r580616 hx580629 ht580638 fq580653 bo580659 ht580660 r580773 fq580774 fq580775 he580777 hz580779 hz580780 hf580784 n580783 he580793 fq580798 fq580799 bo580805 ht580807 r580845 fq580846 fq580847 he580793 hz580848 hz580849 hf580853 n580852 he580862 fq580867 fq580868 bo580874 ht580876 r580878 ez580879 (ht R c1 c2 c3 c4 c5 c6 c7 c8 c9 c10 c11 c12 c13 c14 c15 c16 c17))) (mz_up ez580879 (Int.le_trans bg580312''.2 (by decide)) hm74_580317)
                                · have r580880 : o580874.toInt ≠ 0 := gj_neq hc580877 (show Int32.toInt 0 = 0 by decide)
                                  have bo580874' : gB o580874 1 1 := gB_t1 bo580874 r580880
                                  refine G_aload_n 5 dr_cX17_weigh_175 rfl ?_
                                  have fq580881 : fR (F580850 q410272) 5 = (γ 9 5) := by rw [he580858]; rfl
                                  refine Gp_get 5 hm580326 he580858 dr_cX17_weigh_176 (gk_X17 D I) (Nat.le_of_ble_eq_true rfl) wr_7_79 rfl ?_
                                  refine G_aload 0 dr_cX17_weigh_179 rfl ?_
                                  have fq580882 : fI (F580850 q580628) 3 = p580644 := by rw [he580861]; rfl
                                  refine Gp_get 3 hm580639 he580861 dr_cX17_weigh_181 (gk_X15 D I) (Nat.le_of_ble_eq_true rfl) wr_9_190 rfl ?_
                                  refine G_dup2_11 dr_cX17_weigh_184 rfl rfl ?_
                                  refine Gp_iald 0 hm580776 he580862 dr_cX17_weigh_185 rfl (gB_inr (by omega) (by omega)) (G_nam fun z580883 hz580883 => ?_)
                                  have bz580883 : gB z580883 (-2147483648) 2147483647 := gB_any z580883
                                  refine G_iload_n 3 dr_cX17_weigh_186 rfl ?_
                                  refine G_iadd dr_cX17_weigh_187 (G_nam fun z580884 hz580884 => ?_)
                                  have bz580884 : gB z580884 (-2147483648) 2147483647 := gB_any z580884
                                  refine Gp_iast 0 hm580776 he580862 dr_cX17_weigh_188 rfl (gB_inr (by omega) (by omega)) (fun F580885 e580886 n580887 => ?_)
                                  obtain ⟨f580888, hf580888⟩ : ∃ z, z = upd f580853 p580644.toNatClampNeg z580884 := ⟨_, rfl⟩
                                  rw [← hf580888] at e580886
                                  have he580889 : F580885 q410273 = .inr (18, [.ref q578555, .ref q578556, .int p578557, .int p578558]) := (n580887 q410273 (rn_oa he580854 he580862)).trans he580854
                                  have he580890 : F580885 q578555 = .inr (4, [.int p579729, .ref q579731, .int p579730]) := (n580887 q578555 (rn_oa he580855 he580862)).trans he580855
                                  have he580891 : F580885 q579731 = .inl (I (.object "java/lang/Object"), n579745, .inr (.inr (.inr (.inr f579746)))) := (n580887 q579731 (rn_ref_num he580856 he580862)).trans he580856
                                  have he580892 : F580885 q579748 = .inr (17, [.ref q579758, .ref q579759, .int p579760, .int p579761]) := (n580887 q579748 (rn_oa he580857 he580862)).trans he580857
                                  have he580893 : F580885 q410272 = .inr (22, [.ref (γ 9 0), .ref (γ 9 1), .ref (γ 9 2), .ref (γ 9 3), .ref (γ 9 4), .ref (γ 9 5), .ref (γ 9 6), .ref (γ 9 7), .ref (γ 9 8), .int p410280, .int p410281, .int p410282, .int p410283, .int p410284, .int p410285, .ref (γ 9 15), .ref (γ 9 16), .ref (γ 9 17), .ref (γ 9 18), .ref (γ 9 19), .ref (γ 9 20), .ref (γ 9 21), .ref (γ 9 22), .int p410286, .int p410287, .int p410288, .int p410289, .int p410290, .ref q410278, .ref (γ 9 29), .int p410291, .ref (γ 9 31), .int p410292, .int p410293, .int p410294, .ref q410279]) := (n580887 q410272 (rn_oa he580858 he580862)).trans he580858
                                  have he580894 : F580885 q579758 = .inr (4, [.int p580330, .ref q580332, .int p580331]) := (n580887 q579758 (rn_oa he580859 he580862)).trans he580859
                                  have he580895 : F580885 q580332 = .inl (I (.object "java/lang/Object"), n580625, .inr (.inr (.inr (.inr f580626)))) := (n580887 q580332 (rn_ref_num he580860 he580862)).trans he580860
                                  have he580896 : F580885 q580628 = .inr (20, [.int p580641, .int p580642, .int p580643, .int p580644, .int p580645, .int p580646, .int p580647]) := (n580887 q580628 (rn_oa he580861 he580862)).trans he580861
                                  have he580897 : F580885 (γ 9 5) = .inl (I .int, 2000, .inl f580888) := e580886
                                  have hs580898 : rStr γ [] F410271 F580885 := rStr_put hs580863 n580887 ht410302 (by decide)
                                  have kp580899 : F580885 q410272 = F410271 q410272 := (n580887 q410272 (rn_ty htq410272 ht410302 (by decide))).trans kp580864
                                  have kp580900 : F580885 (γ 9 3) = F410271 (γ 9 3) := (n580887 (γ 9 3) (rn_ty ht410300 ht410302 (by decide))).trans kp580865
                                  obtain ⟨z580901, hz580901⟩ : ∃ z : Int32, z = g580312 + Int32.ofInt 1 := ⟨_, rfl⟩
                                  have ez580901 : z580901.toInt = g580312.toInt + 1 := gI_inc hz580901 (by decide) bg580312'' (by decide) (by decide)
                                  have bz580901 : gB z580901 1 1000000 := ⟨by omega, by omega⟩
                                  refine G_iinc (L' := [(5, .int z580901), (6, .ref q580628), (4, .ref q579748), (3, .int g579717), (2, .int g578542), (0, .ref q410272), (1, .ref q410273)]) z580901 1 dr_cX17_weigh_189 rfl hz580901.symm (Nat.le_of_ble_eq_true rfl) rfl ?_
                                  refine G_goto 74 dr_cX17_weigh_192 (by decide +kernel) ?_
                                  have hT580902 : RS D I P410270 F580885 γ el := RS_set hT580866 n580887 ht410302 (by decide) ⟨f580888, he580897⟩
                                  refine G_lv (L' := [(5, .int z580901), (4, .ref q579748), (3, .int g579717), (2, .int g578542), (0, .ref q410272), (1, .ref q410273)]) [0, 2, 3, 4, 5, 6] rfl ?_
                                  exact ih74_580317 F580885 z580901 (gB_w bz580901 (by decide) (by decide)) hT580902 hs580898 kp580899 kp580900 (fun k e1 ht => kt74_580318 k e1 (fun R c1 c2 c3 c4 c5 c6 c7 c8 c9 c10 c11 c12 c13 c14 c15 c16 c17 => c17 F580313 g580312 q579758 p580331 q580628 p580641 o580659 p580642 f580778 z580779 z580780 f580784 F580781 p580646 o580805 p580643 z580848 z580849 f580853 F580850 p580647 o580874 p580644 z580883 z580884 f580888 F580885 z580901 k e1 bg580312 hT580314 hs580315 x580316 x580317 fq580327 fq580338 fq580339 r580349 fq580350 r580616 hx580629 ht580638 fq580653 bo580659 ht580660 r580773 fq580774 fq580775 he580777 hz580779 hz580780 hf580784 n580783 he580793 fq580798 fq580799 bo580805 ht580807 r580845 fq580846 fq580847 he580793 hz580848 hz580849 hf580853 n580852 he580862 fq580867 fq580868 bo580874 ht580876 r580880 fq580881 fq580882 he580862 hz580883 hz580884 hf580888 n580887 he580897 ez580901 (ht R c1 c2 c3 c4 c5 c6 c7 c8 c9 c10 c11 c12 c13 c14 c15 c16 c17))) (mz_up ez580901 (Int.le_trans bg580312''.2 (by decide)) hm74_580317)
                    exact hlp74_580317 (((1000002 : Int) - 0).toNat + 1) F578543 0 (gB_w (gBl (show Int32.toInt 0 = 0 by decide)) (by decide) (by decide)) hT578544 hs578545 x578546 x578547 (fun k e1 ht => ht) (Nat.lt_succ_self _)
                  · have r580903 : g579716.toInt < z579723.toInt := gC_nle hc579724
                    have bg579716' : gB g579716 0 2147483646 := ⟨by omega, by omega⟩
                    have bz579723' : gB z579723 1 2147483647 := ⟨by omega, by omega⟩
                    refine G_iload_n 1 dr_cX17_weigh_53 rfl ?_
                    refine G_bipush 10 dr_cX17_weigh_54 (by decide +kernel) ?_
                    refine G_imul dr_cX17_weigh_56 (G_nam fun z580904 hz580904 => ?_)
                    have bz580904 : gB z580904 (-2147483648) 2147483647 := gB_any z580904
                    refine G_istore_n (L' := [(3, .int z580904), (4, .int g579716), (2, .int g578542), (0, .ref q410272), (1, .ref q410273)]) dr_cX17_weigh_57 (Nat.le_of_ble_eq_true rfl) rfl ?_
                    obtain ⟨z580905, hz580905⟩ : ∃ z : Int32, z = g579716 + Int32.ofInt 1 := ⟨_, rfl⟩
                    have ez580905 : z580905.toInt = g579716.toInt + 1 := gI_inc hz580905 (by decide) bg579716' (by decide) (by decide)
                    have bz580905 : gB z580905 1 2147483647 := ⟨by omega, by omega⟩
                    refine G_iinc (L' := [(4, .int z580905), (3, .int z580904), (2, .int g578542), (0, .ref q410272), (1, .ref q410273)]) z580905 1 dr_cX17_weigh_58 rfl hz580905.symm (Nat.le_of_ble_eq_true rfl) rfl ?_
                    refine G_goto 42 dr_cX17_weigh_61 (by decide +kernel) ?_
                    exact ih42_579717 z580905 z580904 (gB_w bz580905 (by decide) (by decide)) (fun k e1 ht => kt42_579718 k e1 (fun R c1 c2 => c2 g579716 g579717 f579722 z579723 z580904 z580905 k e1 bg579716 fq579719 he579721 hz579723 r580903 hz580904 ez580905 (ht R c1 c2))) (mz_up ez580905 (Int.le_trans bg579716'.2 (by decide)) hm42_579717)
              exact hlp42_579717 (((2147483648 : Int) - 0).toNat + 1) 0 1 (gB_w (gBl (show Int32.toInt 0 = 0 by decide)) (by decide) (by decide)) (fun k e1 ht => ht) (Nat.lt_succ_self _)
        exact hlp29_578547 (((1000001 : Int) - 0).toNat + 1) F576228 0 (gB_w (gBl (show Int32.toInt 0 = 0 by decide)) (by decide) (by decide)) hT576229 hs576230 x576231 x576232 (fun k e1 ht => ht) (Nat.lt_succ_self _)
      · have r580906 : g576227.toInt < 2000 := gj_nleL hc576238 (show Int32.toInt 2000 = 2000 by decide)
        have bg576227' : gB g576227 0 1999 := ⟨by omega, by omega⟩
        refine G_aload_n 1 dr_cX17_weigh_14 rfl ?_
        have fq580907 : fR (F576228 q410272) 5 = (γ 9 5) := by rw [he576236]; rfl
        refine Gp_get 5 hm576237 he576236 dr_cX17_weigh_15 (gk_X17 D I) (Nat.le_of_ble_eq_true rfl) wr_7_79 rfl ?_
        refine G_iload_n 0 dr_cX17_weigh_18 rfl ?_
        refine G_iconst 0 dr_cX17_weigh_19 (by decide +kernel) ?_
        have hm580908 : (γ 9 5) ∈ P410270 := RS_m hT576229 ht410302 (by decide)
        obtain ⟨f580910, he580909⟩ := show rk_17 I (F576228 (γ 9 5)) from RS_o hT576229 ht410302
        refine Gp_iast 0 hm580908 he580909 dr_cX17_weigh_20 rfl (gB_in bg576227' (by decide) (by decide)) (fun F580911 e580912 n580913 => ?_)
        obtain ⟨f580914, hf580914⟩ : ∃ z, z = upd f580910 g576227.toNatClampNeg 0 := ⟨_, rfl⟩
        rw [← hf580914] at e580912
        have he580915 : F580911 q410272 = .inr (22, [.ref (γ 9 0), .ref (γ 9 1), .ref (γ 9 2), .ref (γ 9 3), .ref (γ 9 4), .ref (γ 9 5), .ref (γ 9 6), .ref (γ 9 7), .ref (γ 9 8), .int p410280, .int p410281, .int p410282, .int p410283, .int p410284, .int p410285, .ref (γ 9 15), .ref (γ 9 16), .ref (γ 9 17), .ref (γ 9 18), .ref (γ 9 19), .ref (γ 9 20), .ref (γ 9 21), .ref (γ 9 22), .int p410286, .int p410287, .int p410288, .int p410289, .int p410290, .ref q410278, .ref (γ 9 29), .int p410291, .ref (γ 9 31), .int p410292, .int p410293, .int p410294, .ref q410279]) := (n580913 q410272 (rn_oa he576236 he580909)).trans he576236
        have he580916 : F580911 (γ 9 5) = .inl (I .int, 2000, .inl f580914) := e580912
        have hs580917 : rStr γ [] F410271 F580911 := rStr_put hs576230 n580913 ht410302 (by decide)
        have kp580918 : F580911 q410272 = F410271 q410272 := (n580913 q410272 (rn_ty htq410272 ht410302 (by decide))).trans x576231
        have kp580919 : F580911 (γ 9 3) = F410271 (γ 9 3) := (n580913 (γ 9 3) (rn_ty ht410300 ht410302 (by decide))).trans x576232
        obtain ⟨z580920, hz580920⟩ : ∃ z : Int32, z = g576227 + Int32.ofInt 1 := ⟨_, rfl⟩
        have ez580920 : z580920.toInt = g576227.toInt + 1 := gI_inc hz580920 (by decide) bg576227' (by decide) (by decide)
        have bz580920 : gB z580920 1 2000 := ⟨by omega, by omega⟩
        refine G_iinc (L' := [(2, .int z580920), (0, .ref q410272), (1, .ref q410273)]) z580920 0 dr_cX17_weigh_21 rfl hz580920.symm (Nat.le_of_ble_eq_true rfl) rfl ?_
        refine G_goto 7 dr_cX17_weigh_24 (by decide +kernel) ?_
        have hT580921 : RS D I P410270 F580911 γ el := RS_set hT576229 n580913 ht410302 (by decide) ⟨f580914, he580916⟩
        exact ih7_576232 F580911 z580920 (gB_w bz580920 (by decide) (by decide)) hT580921 hs580917 kp580918 kp580919 (fun k e1 ht => kt7_576233 k e1 (fun R c1 c2 => c2 F576228 g576227 f580910 f580914 F580911 z580920 k e1 bg576227 hT576229 hs576230 x576231 x576232 r580906 fq580907 he580909 hf580914 n580913 he580916 ez580920 (ht R c1 c2))) (mz_up ez580920 (Int.le_trans bg576227'.2 (by decide)) hm7_576232)
  exact hlp7_576232 (((2001 : Int) - 0).toNat + 1) F536472 0 (gB_w (gBl (show Int32.toInt 0 = 0 by decide)) (by decide) (by decide)) hT536473 hs536475 kp536476 kp536477 (fun k e1 ht => ht) (Nat.lt_succ_self _)
/- tr_RModel_no: F -/
def tr_RModel_no (D : va_G) (I : FieldType → ClassId) (γ el : Nat → Nat → Nat) (F : Nat → va_E) (q0 : Nat) (a1 : Int32) (o1 : Nat → va_E) : Prop := ∀ R : (Nat → va_E) → Prop,
  (∀ (x1 : Nat → va_E), (∀ b, b ≠ q0 → x1 b = F b) → x1 q0 = cF (F q0) 30 (.int a1) → R x1) →
  R o1
