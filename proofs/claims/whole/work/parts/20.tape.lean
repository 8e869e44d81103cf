theorem tp1_1_60 : (Jvm.Cond.fieldLink "SpillForge$Tape" (15 : Nat) "SpillForge$Tape" "size" "I") ∈ gw := gw_1 60 rfl rfl
set_option maxRecDepth 100000 in
theorem c_Tape_size (l : Launch) (hl0 : l.stackTraces = false) (D : va_G) (I : FieldType → ClassId) (t : Nat) (b : Nat) (f : Nat → Int32) (n : Int32)  : Ct (gV D I) l yX10_size cX10_size 1 (some FieldType.int) 0 0 0 0 [.ref t] [(t, .inr (15, [.ref b, .int n])), (b, .inl (I .byte, 8192, .inl f))] (fun r w => r = some (.int n) ∧ w = [(t, .inr (15, [.ref b, .int n])), (b, .inl (I .byte, 8192, .inl f))]) gN := by
  refine Ct_of hl0 (by decide) (Nat.le_of_ble_eq_true rfl) ?_
  refine G_aload_n 0 (show decode cX10_size 0 = .ok (.aload_n 0, 1) by decide +kernel) rfl ?_
  refine G_getf 0 1 (show decode cX10_size 1 = .ok (.getfield 15, 3) by decide +kernel) rfl (gk_X10 D I) (Nat.le_of_ble_eq_true rfl) tp1_1_60 rfl ?_
  exact G_iret (show decode cX10_size 4 = .ok (.ireturn, 1) by decide +kernel) rfl (Nat.le_of_ble_eq_true rfl) (Nat.le_of_ble_eq_true rfl) (by first | exact ⟨rfl, rfl⟩ | exact ⟨rfl, rfl, by first | rfl | assumption | omega⟩)
theorem tp2_1_60 : (Jvm.Cond.fieldLink "SpillForge$Tape" (15 : Nat) "SpillForge$Tape" "size" "I") ∈ gw := gw_1 60 rfl rfl
theorem tp2_1_59 : (Jvm.Cond.fieldLink "SpillForge$Tape" (9 : Nat) "SpillForge$Tape" "bytes" "[B") ∈ gw := gw_1 59 rfl rfl
set_option maxRecDepth 100000 in
theorem c_Tape_hasRoom (l : Launch) (hl0 : l.stackTraces = false) (D : va_G) (I : FieldType → ClassId) (t : Nat) (b : Nat) (f : Nat → Int32) (n : Int32) (m : Int32)  : Ct (gV D I) l yX10_hasRoom cX10_hasRoom 2 (some FieldType.boolean) 0 0 0 0 [.ref t, .int m] [(t, .inr (15, [.ref b, .int n])), (b, .inl (I .byte, 8192, .inl f))] (fun r w => ∃ (r0 : Int32), r = some (.int r0) ∧ w = [(t, .inr (15, [.ref b, .int n])), (b, .inl (I .byte, 8192, .inl f))] ∧ r0 = if n + m ≤ 8192 then 1 else 0) gN := by
  refine Ct_of hl0 (by decide) (Nat.le_of_ble_eq_true rfl) ?_
  refine G_aload_n 0 (show decode cX10_hasRoom 0 = .ok (.aload_n 0, 1) by decide +kernel) rfl ?_
  refine G_getf 0 1 (show decode cX10_hasRoom 1 = .ok (.getfield 15, 3) by decide +kernel) rfl (gk_X10 D I) (Nat.le_of_ble_eq_true rfl) tp2_1_60 rfl ?_
  refine G_iload_n 1 (show decode cX10_hasRoom 4 = .ok (.iload_n 1, 1) by decide +kernel) rfl ?_
  refine G_iadd (show decode cX10_hasRoom 5 = .ok (.iadd, 1) by decide +kernel) ?_
  refine G_aload_n 0 (show decode cX10_hasRoom 6 = .ok (.aload_n 0, 1) by decide +kernel) rfl ?_
  refine G_getf 0 0 (show decode cX10_hasRoom 7 = .ok (.getfield 9, 3) by decide +kernel) rfl (gk_X10 D I) (Nat.le_of_ble_eq_true rfl) tp2_1_59 rfl ?_
  refine G_alen 8192 1 1 (show decode cX10_hasRoom 10 = .ok (.arraylength, 1) by decide +kernel) rfl rfl rfl ?_
  refine G_icmp_gt 18 (show decode cX10_hasRoom 11 = .ok (.if_icmp .gt 7, 3) by decide +kernel) (by decide +kernel) (fun hc_11 => ?_) (fun hc_11 => ?_)
  · refine G_iconst 0 (show decode cX10_hasRoom 18 = .ok (.iconst 0, 1) by decide +kernel) (by decide +kernel) ?_
    exact G_zret FieldType.boolean (show decode cX10_hasRoom 19 = .ok (.ireturn, 1) by decide +kernel) rfl rfl (Nat.le_of_ble_eq_true rfl) (Nat.le_of_ble_eq_true rfl) ⟨_, rfl, rfl, by simp [if_neg, *]⟩
  · refine G_iconst 1 (show decode cX10_hasRoom 14 = .ok (.iconst 1, 1) by decide +kernel) (by decide +kernel) ?_
    refine G_goto 19 (show decode cX10_hasRoom 15 = .ok (.goto 4, 3) by decide +kernel) (by decide +kernel) ?_
    exact G_zret FieldType.boolean (show decode cX10_hasRoom 19 = .ok (.ireturn, 1) by decide +kernel) rfl rfl (Nat.le_of_ble_eq_true rfl) (Nat.le_of_ble_eq_true rfl) ⟨_, rfl, rfl, by simp [if_pos, *]⟩
theorem tp3_1_60 : (Jvm.Cond.fieldLink "SpillForge$Tape" (15 : Nat) "SpillForge$Tape" "size" "I") ∈ gw := gw_1 60 rfl rfl
theorem tp3_3_226 : (Jvm.Cond.methodLink "SpillForge$Tape" (19 : Nat) ({ cls := "java/lang/Math", name := "min", desc := "(II)I" } : Jvm.MethodName)) ∈ gw := gw_3 226 rfl rfl
theorem tp3_3_227 : (Jvm.Cond.static ({ cls := "java/lang/Math", name := "min", desc := "(II)I" } : Jvm.MethodName)) ∈ gw := gw_3 227 rfl rfl
theorem tp3_1_6 : (Jvm.Cond.initialized "java/lang/Math") ∈ gw := gw_1 6 rfl rfl
theorem tp3_3_228 : (Jvm.Cond.code ({ cls := "java/lang/Math", name := "min", desc := "(II)I" } : Jvm.MethodName) prog_32_method_69_code (2 : Nat) (Option.some Jvm.ClassFile.FieldType.int)) ∈ gw := gw_3 228 rfl rfl
theorem tp3_3_229 : (Jvm.Cond.methodLink "SpillForge$Tape" (25 : Nat) ({ cls := "java/lang/Math", name := "max", desc := "(II)I" } : Jvm.MethodName)) ∈ gw := gw_3 229 rfl rfl
theorem tp3_1_140 : (Jvm.Cond.static ({ cls := "java/lang/Math", name := "max", desc := "(II)I" } : Jvm.MethodName)) ∈ gw := gw_1 140 rfl rfl
theorem tp3_1_141 : (Jvm.Cond.code ({ cls := "java/lang/Math", name := "max", desc := "(II)I" } : Jvm.MethodName) prog_32_method_65_code (2 : Nat) (Option.some Jvm.ClassFile.FieldType.int)) ∈ gw := gw_1 141 rfl rfl
set_option maxRecDepth 100000 in
theorem c_Tape_cutTo (l : Launch) (hl0 : l.stackTraces = false) (D : va_G) (I : FieldType → ClassId) (t : Nat) (b : Nat) (f : Nat → Int32) (n : Int32) (m : Int32)  : Ct (gV D I) l yX10_cutTo cX10_cutTo 2 none 1 15 0 0 [.ref t, .int m] [(t, .inr (15, [.ref b, .int n])), (b, .inl (I .byte, 8192, .inl f))] (fun r w => r = none ∧ w = [(t, .inr (15, [.ref b, .int (if 0 < (if n < m then n else m) then (if n < m then n else m) else 0)])), (b, .inl (I .byte, 8192, .inl f))]) gN := by
  refine Ct_of hl0 (by decide) (Nat.le_of_ble_eq_true rfl) ?_
  refine G_aload_n 0 (show decode cX10_cutTo 0 = .ok (.aload_n 0, 1) by decide +kernel) rfl ?_
  refine G_iconst 0 (show decode cX10_cutTo 1 = .ok (.iconst 0, 1) by decide +kernel) (by decide +kernel) ?_
  refine G_iload_n 1 (show decode cX10_cutTo 2 = .ok (.iload_n 1, 1) by decide +kernel) rfl ?_
  refine G_aload_n 0 (show decode cX10_cutTo 3 = .ok (.aload_n 0, 1) by decide +kernel) rfl ?_
  refine G_getf 0 1 (show decode cX10_cutTo 4 = .ok (.getfield 15, 3) by decide +kernel) rfl (gk_X10 D I) (Nat.le_of_ble_eq_true rfl) tp3_1_60 rfl ?_
  refine G_mmin (show decode cX10_cutTo 7 = .ok (.invokestatic 19, 3) by decide +kernel) tp3_3_226 tp3_3_227 tp3_1_6 tp3_3_228 (Nat.le_of_ble_eq_true rfl) (Nat.le_of_ble_eq_true rfl) (Nat.le_of_ble_eq_true rfl) (Nat.le_of_ble_eq_true rfl) ?_
  refine G_mmax (show decode cX10_cutTo 10 = .ok (.invokestatic 25, 3) by decide +kernel) tp3_3_229 tp3_1_140 tp3_1_6 tp3_1_141 (Nat.le_of_ble_eq_true rfl) (Nat.le_of_ble_eq_true rfl) (Nat.le_of_ble_eq_true rfl) (Nat.le_of_ble_eq_true rfl) ?_
  refine G_putf 0 1 (show decode cX10_cutTo 13 = .ok (.putfield 15, 3) by decide +kernel) rfl (gk_X10 D I) (Nat.le_of_ble_eq_true rfl) tp3_1_60 rfl rfl rfl (Nat.le_of_ble_eq_true rfl) rfl ?_
  exact G_vret (show decode cX10_cutTo 16 = .ok (.return_, 1) by decide +kernel) rfl (Nat.le_of_ble_eq_true rfl) (Nat.le_of_ble_eq_true rfl) ⟨rfl, rfl⟩
