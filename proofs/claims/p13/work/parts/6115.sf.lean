theorem d_cX5_solve_0 : decode cX5_solve 0 = .ok (.aload_n 0, 1) := by decide +kernel
theorem d_cX5_solve_1 : decode cX5_solve 1 = .ok (.iconst 0, 1) := by decide +kernel
theorem d_cX5_solve_2 : decode cX5_solve 2 = .ok (.iload_n 2, 1) := by decide +kernel
theorem d_cX5_solve_3 : decode cX5_solve 3 = .ok (.sipush 720, 3) := by decide +kernel
theorem d_cX5_solve_6 : decode cX5_solve 6 = .ok (.invokestatic 24, 3) := by decide +kernel
theorem w_4_29 : (Jvm.Cond.methodLink "SpillForge$Live" (24 : Nat) ({ cls := "java/lang/Math", name := "min", desc := "(II)I" } : Jvm.MethodName)) ∈ gw := gw_4 29 rfl rfl
theorem d_cX5_solve_9 : decode cX5_solve 9 = .ok (.invokestatic 30, 3) := by decide +kernel
theorem w_4_30 : (Jvm.Cond.methodLink "SpillForge$Live" (30 : Nat) ({ cls := "java/lang/Math", name := "max", desc := "(II)I" } : Jvm.MethodName)) ∈ gw := gw_4 30 rfl rfl
theorem d_cX5_solve_12 : decode cX5_solve 12 = .ok (.putfield 33, 3) := by decide +kernel
theorem d_cX5_solve_15 : decode cX5_solve 15 = .ok (.aload_n 0, 1) := by decide +kernel
theorem d_cX5_solve_16 : decode cX5_solve 16 = .ok (.aload_n 0, 1) := by decide +kernel
theorem d_cX5_solve_17 : decode cX5_solve 17 = .ok (.getfield 33, 3) := by decide +kernel
theorem d_cX5_solve_20 : decode cX5_solve 20 = .ok (.bipush 63, 2) := by decide +kernel
theorem d_cX5_solve_22 : decode cX5_solve 22 = .ok (.iadd, 1) := by decide +kernel
theorem d_cX5_solve_23 : decode cX5_solve 23 = .ok (.bipush 6, 2) := by decide +kernel
theorem d_cX5_solve_25 : decode cX5_solve 25 = .ok (.ishr, 1) := by decide +kernel
theorem d_cX5_solve_26 : decode cX5_solve 26 = .ok (.putfield 37, 3) := by decide +kernel
theorem d_cX5_solve_29 : decode cX5_solve 29 = .ok (.aload_n 0, 1) := by decide +kernel
theorem d_cX5_solve_30 : decode cX5_solve 30 = .ok (.iload_n 3, 1) := by decide +kernel
theorem d_cX5_solve_31 : decode cX5_solve 31 = .ok (.putfield 40, 3) := by decide +kernel
theorem d_cX5_solve_34 : decode cX5_solve 34 = .ok (.iconst 0, 1) := by decide +kernel
theorem d_cX5_solve_35 : decode cX5_solve 35 = .ok (.istore 4, 2) := by decide +kernel
theorem d_cX5_solve_37 : decode cX5_solve 37 = .ok (.iload 4, 2) := by decide +kernel
theorem d_cX5_solve_39 : decode cX5_solve 39 = .ok (.aload_n 1, 1) := by decide +kernel
theorem d_cX5_solve_40 : decode cX5_solve 40 = .ok (.getfield 44, 3) := by decide +kernel
theorem d_cX5_solve_43 : decode cX5_solve 43 = .ok (.aload_n 0, 1) := by decide +kernel
theorem d_cX5_solve_44 : decode cX5_solve 44 = .ok (.getfield 37, 3) := by decide +kernel
theorem d_cX5_solve_47 : decode cX5_solve 47 = .ok (.imul, 1) := by decide +kernel
theorem d_cX5_solve_48 : decode cX5_solve 48 = .ok (.if_icmp .ge 33, 3) := by decide +kernel
theorem d_cX5_solve_81 : decode cX5_solve 81 = .ok (.iconst 0, 1) := by decide +kernel
theorem d_cX5_solve_82 : decode cX5_solve 82 = .ok (.istore 4, 2) := by decide +kernel
theorem d_cX5_solve_84 : decode cX5_solve 84 = .ok (.iload 4, 2) := by decide +kernel
theorem d_cX5_solve_86 : decode cX5_solve 86 = .ok (.aload_n 1, 1) := by decide +kernel
theorem d_cX5_solve_87 : decode cX5_solve 87 = .ok (.getfield 44, 3) := by decide +kernel
theorem d_cX5_solve_90 : decode cX5_solve 90 = .ok (.if_icmp .ge 16, 3) := by decide +kernel
theorem d_cX5_solve_106 : decode cX5_solve 106 = .ok (.iconst 1, 1) := by decide +kernel
theorem d_cX5_solve_107 : decode cX5_solve 107 = .ok (.istore 4, 2) := by decide +kernel
theorem d_cX5_solve_109 : decode cX5_solve 109 = .ok (.iconst 0, 1) := by decide +kernel
theorem d_cX5_solve_110 : decode cX5_solve 110 = .ok (.istore 5, 2) := by decide +kernel
theorem d_cX5_solve_112 : decode cX5_solve 112 = .ok (.iload 5, 2) := by decide +kernel
theorem d_cX5_solve_114 : decode cX5_solve 114 = .ok (.aload_n 1, 1) := by decide +kernel
theorem d_cX5_solve_115 : decode cX5_solve 115 = .ok (.getfield 44, 3) := by decide +kernel
theorem d_cX5_solve_118 : decode cX5_solve 118 = .ok (.if_icmp .gt 21, 3) := by decide +kernel
theorem d_cX5_solve_139 : decode cX5_solve 139 = .ok (.return_, 1) := by decide +kernel
theorem d_cX5_solve_121 : decode cX5_solve 121 = .ok (.iload 4, 2) := by decide +kernel
theorem d_cX5_solve_123 : decode cX5_solve 123 = .ok (.ifCond .eq 16, 3) := by decide +kernel
theorem d_cX5_solve_126 : decode cX5_solve 126 = .ok (.aload_n 0, 1) := by decide +kernel
theorem d_cX5_solve_127 : decode cX5_solve 127 = .ok (.aload_n 1, 1) := by decide +kernel
theorem d_cX5_solve_128 : decode cX5_solve 128 = .ok (.invokevirtual 53, 3) := by decide +kernel
theorem w_4_60 : (Jvm.Cond.methodLink "SpillForge$Live" (53 : Nat) ({ cls := "SpillForge$Live", name := "sweep", desc := "(LSpillForge$Code;)Z" } : Jvm.MethodName)) ∈ gw := gw_4 60 rfl rfl
theorem w_4_63 : (Jvm.Cond.code ({ cls := "SpillForge$Live", name := "sweep", desc := "(LSpillForge$Code;)Z" } : Jvm.MethodName) prog_7_method_6_code (8 : Nat) (Option.some Jvm.ClassFile.FieldType.boolean)) ∈ gw := gw_4 63 rfl rfl
theorem w_4_62 : (Jvm.Cond.instanceMethod ({ cls := "SpillForge$Live", name := "sweep", desc := "(LSpillForge$Code;)Z" } : Jvm.MethodName)) ∈ gw := gw_4 62 rfl rfl
theorem w_p_32 : Cond.selects "SpillForge$Live" ⟨"SpillForge$Live", "sweep", "(LSpillForge$Code;)Z"⟩ ⟨"SpillForge$Live", "sweep", "(LSpillForge$Code;)Z"⟩ ∈ gw := gw_p _ 32 rfl rfl rfl
theorem d_cX5_solve_131 : decode cX5_solve 131 = .ok (.istore 4, 2) := by decide +kernel
theorem d_cX5_solve_133 : decode cX5_solve 133 = .ok (.iinc 5 1, 3) := by decide +kernel
theorem d_cX5_solve_136 : decode cX5_solve 136 = .ok (.goto (-24), 3) := by decide +kernel
theorem d_cX5_solve_93 : decode cX5_solve 93 = .ok (.aload_n 0, 1) := by decide +kernel
theorem d_cX5_solve_94 : decode cX5_solve 94 = .ok (.aload_n 1, 1) := by decide +kernel
theorem d_cX5_solve_95 : decode cX5_solve 95 = .ok (.iload 4, 2) := by decide +kernel
theorem d_cX5_solve_97 : decode cX5_solve 97 = .ok (.invokevirtual 49, 3) := by decide +kernel
theorem w_4_31 : (Jvm.Cond.methodLink "SpillForge$Live" (49 : Nat) ({ cls := "SpillForge$Live", name := "gather", desc := "(LSpillForge$Code;I)V" } : Jvm.MethodName)) ∈ gw := gw_4 31 rfl rfl
theorem w_4_34 : (Jvm.Cond.code ({ cls := "SpillForge$Live", name := "gather", desc := "(LSpillForge$Code;I)V" } : Jvm.MethodName) prog_7_method_4_code (6 : Nat) (Option.none : Option Jvm.ClassFile.FieldType)) ∈ gw := gw_4 34 rfl rfl
theorem w_4_33 : (Jvm.Cond.instanceMethod ({ cls := "SpillForge$Live", name := "gather", desc := "(LSpillForge$Code;I)V" } : Jvm.MethodName)) ∈ gw := gw_4 33 rfl rfl
theorem w_p_30 : Cond.selects "SpillForge$Live" ⟨"SpillForge$Live", "gather", "(LSpillForge$Code;I)V"⟩ ⟨"SpillForge$Live", "gather", "(LSpillForge$Code;I)V"⟩ ∈ gw := gw_p _ 30 rfl rfl rfl
theorem d_cX5_solve_100 : decode cX5_solve 100 = .ok (.iinc 4 1, 3) := by decide +kernel
theorem d_cX5_solve_103 : decode cX5_solve 103 = .ok (.goto (-19), 3) := by decide +kernel
theorem d_cX5_solve_51 : decode cX5_solve 51 = .ok (.aload_n 0, 1) := by decide +kernel
theorem d_cX5_solve_52 : decode cX5_solve 52 = .ok (.getfield 9, 3) := by decide +kernel
theorem d_cX5_solve_55 : decode cX5_solve 55 = .ok (.iload 4, 2) := by decide +kernel
theorem d_cX5_solve_57 : decode cX5_solve 57 = .ok (.lconst 0, 1) := by decide +kernel
theorem d_cX5_solve_58 : decode cX5_solve 58 = .ok (.lastore, 1) := by decide +kernel
theorem d_cX5_solve_59 : decode cX5_solve 59 = .ok (.aload_n 0, 1) := by decide +kernel
theorem d_cX5_solve_60 : decode cX5_solve 60 = .ok (.getfield 15, 3) := by decide +kernel
theorem d_cX5_solve_63 : decode cX5_solve 63 = .ok (.iload 4, 2) := by decide +kernel
theorem d_cX5_solve_65 : decode cX5_solve 65 = .ok (.lconst 0, 1) := by decide +kernel
theorem d_cX5_solve_66 : decode cX5_solve 66 = .ok (.lastore, 1) := by decide +kernel
theorem d_cX5_solve_67 : decode cX5_solve 67 = .ok (.aload_n 0, 1) := by decide +kernel
theorem d_cX5_solve_68 : decode cX5_solve 68 = .ok (.getfield 18, 3) := by decide +kernel
theorem d_cX5_solve_71 : decode cX5_solve 71 = .ok (.iload 4, 2) := by decide +kernel
theorem d_cX5_solve_73 : decode cX5_solve 73 = .ok (.lconst 0, 1) := by decide +kernel
theorem d_cX5_solve_74 : decode cX5_solve 74 = .ok (.lastore, 1) := by decide +kernel
theorem d_cX5_solve_75 : decode cX5_solve 75 = .ok (.iinc 4 1, 3) := by decide +kernel
theorem d_cX5_solve_78 : decode cX5_solve 78 = .ok (.goto (-41), 3) := by decide +kernel
theorem d_cX0_openLike_13 : decode cX0_openLike 13 = .ok (.aload_n 0, 1) := by decide +kernel
theorem d_cX0_openLike_14 : decode cX0_openLike 14 = .ok (.invokevirtual 56, 3) := by decide +kernel
theorem w_4_73 : (Jvm.Cond.methodLink "SpillForge$Code" (56 : Nat) ({ cls := "SpillForge$Code", name := "openBlock", desc := "()Z" } : Jvm.MethodName)) ∈ gw := gw_4 73 rfl rfl
theorem d_cX0_openLike_17 : decode cX0_openLike 17 = .ok (.ifCond .eq 27, 3) := by decide +kernel
theorem d_cX0_openLike_20 : decode cX0_openLike 20 = .ok (.aload_n 0, 1) := by decide +kernel
theorem d_cX0_openLike_21 : decode cX0_openLike 21 = .ok (.getfield 15, 3) := by decide +kernel
theorem d_cX0_openLike_24 : decode cX0_openLike 24 = .ok (.iload_n 2, 1) := by decide +kernel
theorem d_cX0_openLike_25 : decode cX0_openLike 25 = .ok (.aload_n 1, 1) := by decide +kernel
theorem d_cX0_openLike_26 : decode cX0_openLike 26 = .ok (.getfield 15, 3) := by decide +kernel
theorem d_cX0_openLike_29 : decode cX0_openLike 29 = .ok (.iload_n 2, 1) := by decide +kernel
theorem d_cX0_openLike_30 : decode cX0_openLike 30 = .ok (.iaload, 1) := by decide +kernel
theorem d_cX0_openLike_31 : decode cX0_openLike 31 = .ok (.iastore, 1) := by decide +kernel
theorem d_cX0_openLike_32 : decode cX0_openLike 32 = .ok (.aload_n 0, 1) := by decide +kernel
theorem d_cX0_openLike_33 : decode cX0_openLike 33 = .ok (.getfield 18, 3) := by decide +kernel
theorem d_cX0_openLike_36 : decode cX0_openLike 36 = .ok (.iload_n 2, 1) := by decide +kernel
theorem d_cX0_openLike_37 : decode cX0_openLike 37 = .ok (.aload_n 1, 1) := by decide +kernel
theorem d_cX0_openLike_38 : decode cX0_openLike 38 = .ok (.getfield 18, 3) := by decide +kernel
theorem d_cX0_openLike_41 : decode cX0_openLike 41 = .ok (.iload_n 2, 1) := by decide +kernel
theorem d_cX0_openLike_42 : decode cX0_openLike 42 = .ok (.iaload, 1) := by decide +kernel
theorem d_cX0_openLike_43 : decode cX0_openLike 43 = .ok (.iastore, 1) := by decide +kernel
theorem d_cX5_isLiveBefore_0 : decode cX5_isLiveBefore 0 = .ok (.aload_n 0, 1) := by decide +kernel
theorem d_cX5_isLiveBefore_1 : decode cX5_isLiveBefore 1 = .ok (.iload_n 2, 1) := by decide +kernel
theorem d_cX5_isLiveBefore_2 : decode cX5_isLiveBefore 2 = .ok (.invokevirtual 79, 3) := by decide +kernel
theorem d_cX5_isLiveBefore_5 : decode cX5_isLiveBefore 5 = .ok (.ifCond .eq 42, 3) := by decide +kernel
theorem d_cX5_isLiveBefore_47 : decode cX5_isLiveBefore 47 = .ok (.iconst 0, 1) := by decide +kernel
theorem d_cX5_isLiveBefore_48 : decode cX5_isLiveBefore 48 = .ok (.ireturn, 1) := by decide +kernel
theorem d_cX5_isLiveBefore_8 : decode cX5_isLiveBefore 8 = .ok (.iload_n 1, 1) := by decide +kernel
theorem d_cX5_isLiveBefore_9 : decode cX5_isLiveBefore 9 = .ok (.ifCond .lt 38, 3) := by decide +kernel
theorem d_cX5_isLiveBefore_12 : decode cX5_isLiveBefore 12 = .ok (.iload_n 1, 1) := by decide +kernel
theorem d_cX5_isLiveBefore_13 : decode cX5_isLiveBefore 13 = .ok (.bipush 40, 2) := by decide +kernel
theorem d_cX5_isLiveBefore_15 : decode cX5_isLiveBefore 15 = .ok (.if_icmp .ge 32, 3) := by decide +kernel
theorem d_cX5_isLiveBefore_18 : decode cX5_isLiveBefore 18 = .ok (.aload_n 0, 1) := by decide +kernel
theorem d_cX5_isLiveBefore_19 : decode cX5_isLiveBefore 19 = .ok (.getfield 9, 3) := by decide +kernel
theorem d_cX5_isLiveBefore_22 : decode cX5_isLiveBefore 22 = .ok (.iload_n 1, 1) := by decide +kernel
theorem d_cX5_isLiveBefore_23 : decode cX5_isLiveBefore 23 = .ok (.aload_n 0, 1) := by decide +kernel
theorem d_cX5_isLiveBefore_24 : decode cX5_isLiveBefore 24 = .ok (.getfield 37, 3) := by decide +kernel
theorem d_cX5_isLiveBefore_27 : decode cX5_isLiveBefore 27 = .ok (.imul, 1) := by decide +kernel
theorem d_cX5_isLiveBefore_28 : decode cX5_isLiveBefore 28 = .ok (.iload_n 2, 1) := by decide +kernel
theorem d_cX5_isLiveBefore_29 : decode cX5_isLiveBefore 29 = .ok (.bipush 6, 2) := by decide +kernel
theorem d_cX5_isLiveBefore_31 : decode cX5_isLiveBefore 31 = .ok (.ishr, 1) := by decide +kernel
theorem d_cX5_isLiveBefore_32 : decode cX5_isLiveBefore 32 = .ok (.iadd, 1) := by decide +kernel
theorem d_cX5_isLiveBefore_33 : decode cX5_isLiveBefore 33 = .ok (.laload, 1) := by decide +kernel
theorem d_cX5_isLiveBefore_34 : decode cX5_isLiveBefore 34 = .ok (.iload_n 2, 1) := by decide +kernel
theorem d_cX5_isLiveBefore_35 : decode cX5_isLiveBefore 35 = .ok (.lshr, 1) := by decide +kernel
theorem d_cX5_isLiveBefore_36 : decode cX5_isLiveBefore 36 = .ok (.lconst 1, 1) := by decide +kernel
theorem d_cX5_isLiveBefore_37 : decode cX5_isLiveBefore 37 = .ok (.land, 1) := by decide +kernel
theorem d_cX5_isLiveBefore_38 : decode cX5_isLiveBefore 38 = .ok (.lconst 0, 1) := by decide +kernel
theorem d_cX5_isLiveBefore_39 : decode cX5_isLiveBefore 39 = .ok (.lcmp, 1) := by decide +kernel
theorem d_cX5_isLiveBefore_40 : decode cX5_isLiveBefore 40 = .ok (.ifCond .eq 7, 3) := by decide +kernel
theorem d_cX5_isLiveBefore_43 : decode cX5_isLiveBefore 43 = .ok (.iconst 1, 1) := by decide +kernel
theorem d_cX5_isLiveBefore_44 : decode cX5_isLiveBefore 44 = .ok (.goto 4, 3) := by decide +kernel
abbrev ky_12072_Live_solve : gKey := (cX5_solve, 6, yX5_solve.cls, none, [], yX5_solve.name, fun _ _ => True)
abbrev po_12072_Live_solve (I : FieldType → ClassId) (q12035 : Nat) (q12036 : Nat) (q12037 : Nat) (q12038 : Nat) (q12039 : Nat) (q12040 : Nat) (q12041 : Nat) (q12042 : Nat) (q12043 : Nat) (q12044 : Nat) (q12045 : Nat) (q12046 : Nat) (q12047 : Nat) (q12048 : Nat) (q12049 : Nat) (p12050 : Int32) (p12051 : Int32) (p12052 : Int32) (p12053 : Int32) (p12054 : Int32) (p12055 : Int32) (p12056 : Int32) (p12057 : Int32) (f12058 : Nat → Int64) (f12059 : Nat → Int64) (f12060 : Nat → Int64) (f12061 : Nat → Int64) (f12062 : Nat → Int32) (f12063 : Nat → Int32) (f12064 : Nat → Int32) (f12065 : Nat → Int32) (f12066 : Nat → Int32) (f12067 : Nat → Int32) (f12068 : Nat → Int32) (f12069 : Nat → Int32) (f12070 : Nat → Int32) : Option Value → va_W → Prop := fun r w => ∃ (o19469 : Int32) (o19470 : Int32) (o19471 : Int32) (f19472 : Nat → Int64) (f19473 : Nat → Int64) (f19474 : Nat → Int64) (f19475 : Nat → Int64), r = none ∧ w = [(q12035, .inr (10, [.ref q12037, .ref q12038, .ref q12039, .ref q12040, .int o19469, .int o19470, .int o19471])), (q12036, .inr (5, [.ref q12041, .ref q12042, .ref q12043, .ref q12044, .ref q12045, .ref q12046, .ref q12047, .ref q12048, .ref q12049, .int p12055, .int p12056, .int p12057])), (q12037, .inl (I .long, 480, .inr (.inl f19472))), (q12038, .inl (I .long, 480, .inr (.inl f19473))), (q12039, .inl (I .long, 480, .inr (.inl f19474))), (q12040, .inl (I .long, 12, .inr (.inl f19475))), (q12041, .inl (I .int, 40, .inl f12062)), (q12042, .inl (I .int, 40, .inl f12063)), (q12043, .inl (I .int, 40, .inl f12064)), (q12044, .inl (I .int, 200, .inl f12065)), (q12045, .inl (I .int, 200, .inl f12066)), (q12046, .inl (I .int, 200, .inl f12067)), (q12047, .inl (I .int, 200, .inl f12068)), (q12048, .inl (I .int, 200, .inl f12069)), (q12049, .inl (I .int, 200, .inl f12070))] ∧ gB o19469 0 720 ∧ gB o19470 0 12 ∧ gB o19471 0 1 ∧ lb_W f19472 (p12055.toInt * o19470.toInt) (o19470.toInt) (o19469.toInt) ∧ lb_W f19473 (p12055.toInt * o19470.toInt) (o19470.toInt) (o19469.toInt) ∧ lb_W f19474 (p12055.toInt * o19470.toInt) (o19470.toInt) (o19469.toInt) ∧ (o19469.toInt = p12050.toInt ∨ p12050.toInt < 0 ∨ 720 < p12050.toInt) ∧ o19470.toInt = (o19469.toInt + 63) / 64 ∧ tr_Live_solve p12050 p12051 p12055 p12056 f12058 f12059 f12060 f12061 f12062 f12063 f12064 f12065 f12066 f12067 f12069 f12070 o19469 o19470 o19471 f19472 f19473 f19474 f19475
set_option maxRecDepth 100000 in
set_option maxHeartbeats 4000000 in
theorem ct_12072_Live_solve (l : Launch) (hl0 : l.stackTraces = false) (D : va_G) (I : FieldType → ClassId) (q12035 : Nat) (q12036 : Nat) (q12037 : Nat) (q12038 : Nat) (q12039 : Nat) (q12040 : Nat) (q12041 : Nat) (q12042 : Nat) (q12043 : Nat) (q12044 : Nat) (q12045 : Nat) (q12046 : Nat) (q12047 : Nat) (q12048 : Nat) (q12049 : Nat) (p12050 : Int32) (p12051 : Int32) (p12052 : Int32) (p12053 : Int32) (p12054 : Int32) (p12055 : Int32) (p12056 : Int32) (p12057 : Int32) (f12058 : Nat → Int64) (f12059 : Nat → Int64) (f12060 : Nat → Int64) (f12061 : Nat → Int64) (f12062 : Nat → Int32) (f12063 : Nat → Int32) (f12064 : Nat → Int32) (f12065 : Nat → Int32) (f12066 : Nat → Int32) (f12067 : Nat → Int32) (f12068 : Nat → Int32) (f12069 : Nat → Int32) (f12070 : Nat → Int32) (bp12051 : gB p12051 0 1) (bp12052 : gB p12052 0 720) (bp12053 : gB p12053 0 12) (bp12054 : gB p12054 0 1) (bp12055 : gB p12055 0 40) (bp12056 : gB p12056 0 200) (bp12057 : gB p12057 0 1) (bf12062 : gF f12062 0 200) (bf12065 : gF f12065 0 21) (x12071 : p12053.toInt = (p12052.toInt + 63) / 64) : Ct (gV D I) l yX5_solve cX5_solve 6 none 2 54 0 0 [.ref q12035, .ref q12036, .int p12050, .int p12051] [(q12035, .inr (10, [.ref q12037, .ref q12038, .ref q12039, .ref q12040, .int p12052, .int p12053, .int p12054])), (q12036, .inr (5, [.ref q12041, .ref q12042, .ref q12043, .ref q12044, .ref q12045, .ref q12046, .ref q12047, .ref q12048, .ref q12049, .int p12055, .int p12056, .int p12057])), (q12037, .inl (I .long, 480, .inr (.inl f12058))), (q12038, .inl (I .long, 480, .inr (.inl f12059))), (q12039, .inl (I .long, 480, .inr (.inl f12060))), (q12040, .inl (I .long, 12, .inr (.inl f12061))), (q12041, .inl (I .int, 40, .inl f12062)), (q12042, .inl (I .int, 40, .inl f12063)), (q12043, .inl (I .int, 40, .inl f12064)), (q12044, .inl (I .int, 200, .inl f12065)), (q12045, .inl (I .int, 200, .inl f12066)), (q12046, .inl (I .int, 200, .inl f12067)), (q12047, .inl (I .int, 200, .inl f12068)), (q12048, .inl (I .int, 200, .inl f12069)), (q12049, .inl (I .int, 200, .inl f12070))] (po_12072_Live_solve I q12035 q12036 q12037 q12038 q12039 q12040 q12041 q12042 q12043 q12044 q12045 q12046 q12047 q12048 q12049 p12050 p12051 p12052 p12053 p12054 p12055 p12056 p12057 f12058 f12059 f12060 f12061 f12062 f12063 f12064 f12065 f12066 f12067 f12068 f12069 f12070) gN := by
  refine Ct_of hl0 (by decide) (Nat.le_of_ble_eq_true rfl) ?_
  have bp12050 := gB_any p12050
  refine G_aload_n 0 d_cX5_solve_0 rfl ?_
  refine G_iconst 0 d_cX5_solve_1 (by decide +kernel) ?_
  refine G_iload_n 2 d_cX5_solve_2 rfl ?_
  refine G_sipush 720 d_cX5_solve_3 (by decide +kernel) ?_
  refine G_mmin d_cX5_solve_6 w_4_29 w_3_227 w_1_6 w_3_228 (Nat.le_of_ble_eq_true rfl) (Nat.le_of_ble_eq_true rfl) (Nat.le_of_ble_eq_true rfl) (Nat.le_of_ble_eq_true rfl) (G_nam fun z12073 hz12073 => ?_)
  have ez12073 : p12050.toInt ≥ z12073.toInt ∧ 720 ≥ z12073.toInt ∧ (z12073.toInt = p12050.toInt ∨ z12073.toInt = 720) := by have := gI_min hz12073; rw [show Int32.toInt 720 = 720 from by decide] at this; omega
  have bz12073 : gB z12073 (-2147483648) 720 := ⟨by omega, by omega⟩
  refine G_mmax d_cX5_solve_9 w_4_30 w_1_140 w_1_6 w_1_141 (Nat.le_of_ble_eq_true rfl) (Nat.le_of_ble_eq_true rfl) (Nat.le_of_ble_eq_true rfl) (Nat.le_of_ble_eq_true rfl) (G_nam fun z12074 hz12074 => ?_)
  have ez12074 : 0 ≤ z12074.toInt ∧ z12073.toInt ≤ z12074.toInt ∧ (z12074.toInt = 0 ∨ z12074.toInt = z12073.toInt) := by have := gI_max hz12074; rw [show Int32.toInt 0 = 0 from by decide] at this; omega
  have bz12074 : gB z12074 0 720 := ⟨by omega, by omega⟩
  refine G_putf (ws' := [(q12035, .inr (10, [.ref q12037, .ref q12038, .ref q12039, .ref q12040, .int z12074, .int p12053, .int p12054])), (q12036, .inr (5, [.ref q12041, .ref q12042, .ref q12043, .ref q12044, .ref q12045, .ref q12046, .ref q12047, .ref q12048, .ref q12049, .int p12055, .int p12056, .int p12057])), (q12037, .inl (I .long, 480, .inr (.inl f12058))), (q12038, .inl (I .long, 480, .inr (.inl f12059))), (q12039, .inl (I .long, 480, .inr (.inl f12060))), (q12040, .inl (I .long, 12, .inr (.inl f12061))), (q12041, .inl (I .int, 40, .inl f12062)), (q12042, .inl (I .int, 40, .inl f12063)), (q12043, .inl (I .int, 40, .inl f12064)), (q12044, .inl (I .int, 200, .inl f12065)), (q12045, .inl (I .int, 200, .inl f12066)), (q12046, .inl (I .int, 200, .inl f12067)), (q12047, .inl (I .int, 200, .inl f12068)), (q12048, .inl (I .int, 200, .inl f12069)), (q12049, .inl (I .int, 200, .inl f12070))]) 0 4 d_cX5_solve_12 rfl (gk_X5 D I) (Nat.le_of_ble_eq_true rfl) w_2_27 rfl rfl rfl (Nat.le_of_ble_eq_true rfl) rfl ?_
  refine G_aload_n 0 d_cX5_solve_15 rfl ?_
  refine G_aload_n 0 d_cX5_solve_16 rfl ?_
  refine G_getf 0 4 d_cX5_solve_17 rfl (gk_X5 D I) (Nat.le_of_ble_eq_true rfl) w_2_27 rfl ?_
  refine G_bipush 63 d_cX5_solve_20 (by decide +kernel) ?_
  refine G_iadd d_cX5_solve_22 (G_nam fun z12075 hz12075 => ?_)
  have ez12075 : z12075.toInt = z12074.toInt + 63 := by rw [gI_add hz12075 bz12074 (gBl (show Int32.toInt 63 = 63 by decide)) (by decide) (by decide), show Int32.toInt 63 = 63 from by decide]
  have bz12075 : gB z12075 63 783 := gB_add (gI_add hz12075 bz12074 (gBl (show Int32.toInt 63 = 63 by decide)) (by decide) (by decide)) bz12074 (gBl (show Int32.toInt 63 = 63 by decide)) (by decide) (by decide)
  refine G_bipush 6 d_cX5_solve_23 (by decide +kernel) ?_
  refine G_ishr d_cX5_solve_25 (G_nam fun z12076 hz12076 => ?_)
  have ez12076 : z12076.toInt = z12075.toInt / 64 := gI_shr (k := 6) hz12076 (by decide)
  have bz12076 : gB z12076 0 12 := ⟨by omega, by omega⟩
  refine G_putf (ws' := [(q12035, .inr (10, [.ref q12037, .ref q12038, .ref q12039, .ref q12040, .int z12074, .int z12076, .int p12054])), (q12036, .inr (5, [.ref q12041, .ref q12042, .ref q12043, .ref q12044, .ref q12045, .ref q12046, .ref q12047, .ref q12048, .ref q12049, .int p12055, .int p12056, .int p12057])), (q12037, .inl (I .long, 480, .inr (.inl f12058))), (q12038, .inl (I .long, 480, .inr (.inl f12059))), (q12039, .inl (I .long, 480, .inr (.inl f12060))), (q12040, .inl (I .long, 12, .inr (.inl f12061))), (q12041, .inl (I .int, 40, .inl f12062)), (q12042, .inl (I .int, 40, .inl f12063)), (q12043, .inl (I .int, 40, .inl f12064)), (q12044, .inl (I .int, 200, .inl f12065)), (q12045, .inl (I .int, 200, .inl f12066)), (q12046, .inl (I .int, 200, .inl f12067)), (q12047, .inl (I .int, 200, .inl f12068)), (q12048, .inl (I .int, 200, .inl f12069)), (q12049, .inl (I .int, 200, .inl f12070))]) 0 5 d_cX5_solve_26 rfl (gk_X5 D I) (Nat.le_of_ble_eq_true rfl) w_2_29 rfl rfl rfl (Nat.le_of_ble_eq_true rfl) rfl ?_
  refine G_aload_n 0 d_cX5_solve_29 rfl ?_
  refine G_iload_n 3 d_cX5_solve_30 rfl ?_
  refine G_putf (ws' := [(q12035, .inr (10, [.ref q12037, .ref q12038, .ref q12039, .ref q12040, .int z12074, .int z12076, .int p12051])), (q12036, .inr (5, [.ref q12041, .ref q12042, .ref q12043, .ref q12044, .ref q12045, .ref q12046, .ref q12047, .ref q12048, .ref q12049, .int p12055, .int p12056, .int p12057])), (q12037, .inl (I .long, 480, .inr (.inl f12058))), (q12038, .inl (I .long, 480, .inr (.inl f12059))), (q12039, .inl (I .long, 480, .inr (.inl f12060))), (q12040, .inl (I .long, 12, .inr (.inl f12061))), (q12041, .inl (I .int, 40, .inl f12062)), (q12042, .inl (I .int, 40, .inl f12063)), (q12043, .inl (I .int, 40, .inl f12064)), (q12044, .inl (I .int, 200, .inl f12065)), (q12045, .inl (I .int, 200, .inl f12066)), (q12046, .inl (I .int, 200, .inl f12067)), (q12047, .inl (I .int, 200, .inl f12068)), (q12048, .inl (I .int, 200, .inl f12069)), (q12049, .inl (I .int, 200, .inl f12070))]) 0 6 d_cX5_solve_31 rfl (gk_X5 D I) (Nat.le_of_ble_eq_true rfl) w_2_31 rfl (gN_bool bp12051) (gT_bool bp12051) (Nat.le_of_ble_eq_true rfl) rfl ?_
  refine G_iconst 0 d_cX5_solve_34 (by decide +kernel) ?_
  refine G_istore (L' := [(4, .int 0), (0, .ref q12035), (1, .ref q12036), (2, .int p12050), (3, .int p12051)]) d_cX5_solve_35 (Nat.le_of_ble_eq_true rfl) rfl ?_
  have hlp37_18804 : ∀ (n37_18804 : Nat) (g18798 : Int32) (f18799 : Nat → Int64) (f18800 : Nat → Int64) (f18801 : Nat → Int64), gB g18798 0 480 → lb_Z f18799 (g18798.toInt) → lb_Z f18800 (g18798.toInt) → lb_Z f18801 (g18798.toInt) → (∀ (k : Nat) (e1 : Nat → Int64) (e2 : Nat → Int64) (e3 : Nat → Int64), tl_Live_solve_37 p12055 z12076 g18798 f18799 f18800 f18801 k e1 e2 e3 → tl_Live_solve_37 p12055 z12076 (0 : Int32) f12058 f12059 f12060 k e1 e2 e3) → ((481 : Int) - g18798.toInt).toNat < n37_18804 → G (gV D I) l (gRm 2 54 0 0) (gM (gV D I) (po_12072_Live_solve I q12035 q12036 q12037 q12038 q12039 q12040 q12041 q12042 q12043 q12044 q12045 q12046 q12047 q12048 q12049 p12050 p12051 p12052 p12053 p12054 p12055 p12056 p12057 f12058 f12059 f12060 f12061 f12062 f12063 f12064 f12065 f12066 f12067 f12068 f12069 f12070) gN 0 0) ky_12072_Live_solve 37 [(4, .int g18798), (0, .ref q12035), (1, .ref q12036), (2, .int p12050), (3, .int p12051)] [] [(q12035, .inr (10, [.ref q12037, .ref q12038, .ref q12039, .ref q12040, .int z12074, .int z12076, .int p12051])), (q12036, .inr (5, [.ref q12041, .ref q12042, .ref q12043, .ref q12044, .ref q12045, .ref q12046, .ref q12047, .ref q12048, .ref q12049, .int p12055, .int p12056, .int p12057])), (q12037, .inl (I .long, 480, .inr (.inl f18799))), (q12038, .inl (I .long, 480, .inr (.inl f18800))), (q12039, .inl (I .long, 480, .inr (.inl f18801))), (q12040, .inl (I .long, 12, .inr (.inl f12061))), (q12041, .inl (I .int, 40, .inl f12062)), (q12042, .inl (I .int, 40, .inl f12063)), (q12043, .inl (I .int, 40, .inl f12064)), (q12044, .inl (I .int, 200, .inl f12065)), (q12045, .inl (I .int, 200, .inl f12066)), (q12046, .inl (I .int, 200, .inl f12067)), (q12047, .inl (I .int, 200, .inl f12068)), (q12048, .inl (I .int, 200, .inl f12069)), (q12049, .inl (I .int, 200, .inl f12070))] 0 0 := by
    intro n37_18804
    induction n37_18804 with
    | zero => intro g18798 f18799 f18800 f18801 bg18798 x18802 x18803 x18804 kt37_18804 hm37_18804; exact absurd hm37_18804 (Nat.not_lt_zero _)
    | succ n37_18804 ih37_18804 =>
      intro g18798 f18799 f18800 f18801 bg18798 x18802 x18803 x18804 kt37_18804 hm37_18804
      refine G_iload 0 d_cX5_solve_37 rfl ?_
      refine G_aload_n 2 d_cX5_solve_39 rfl ?_
      refine G_getfN 1 9 d_cX5_solve_40 rfl (gk_X0 D I) (Nat.le_of_ble_eq_true rfl) (fun _ _ _ h => gn_w 37 rfl h) rfl ?_
      refine G_aload_n 1 d_cX5_solve_43 rfl ?_
      refine G_getf 0 5 d_cX5_solve_44 rfl (gk_X5 D I) (Nat.le_of_ble_eq_true rfl) w_2_29 rfl ?_
      refine G_imul d_cX5_solve_47 (G_nam fun z18805 hz18805 => ?_)
      have ez18805 : z18805.toInt = p12055.toInt * z12076.toInt := by rw [gI_mul hz18805 bp12055 bz12076 (by decide) (by decide) (by decide)]
      have bz18805 : gB z18805 0 480 := gB_mul hz18805 bp12055 bz12076 (by decide) (by decide) (by decide) (by decide)
      refine G_icmp_ge 81 d_cX5_solve_48 (by decide +kernel) (fun hc18806 => ?_) (fun hc18806 => ?_)
      · have r18807 : z18805.toInt ≤ g18798.toInt := gC_le hc18806
        have hx18808 : tl_Live_solve_37 p12055 z12076 (0 : Int32) f12058 f12059 f12060 81 f18799 f18800 f18801 := kt37_18804 81 f18799 f18800 f18801 (fun R c1 c2 => c1 g18798 f18799 f18800 f18801 z18805 bg18798 ez18805 r18807)
        refine G_iconst 0 d_cX5_solve_81 (by decide +kernel) ?_
        refine G_istore (L' := [(4, .int 0), (0, .ref q12035), (1, .ref q12036), (2, .int p12050), (3, .int p12051)]) d_cX5_solve_82 (Nat.le_of_ble_eq_true rfl) rfl ?_
        have hlp84_19349 : ∀ (n84_19349 : Nat) (g19345 : Int32) (f19346 : Nat → Int64) (f19347 : Nat → Int64), gB g19345 0 40 → lb_W f19346 (p12055.toInt * z12076.toInt) (z12076.toInt) (z12074.toInt) → lb_W f19347 (p12055.toInt * z12076.toInt) (z12076.toInt) (z12074.toInt) → (∀ (k : Nat) (e1 : Nat → Int64) (e2 : Nat → Int64), tl_Live_solve_84 p12055 z12074 z12076 p12051 p12056 f12062 f12065 f12066 f12067 f12069 f12070 g19345 f19346 f19347 k e1 e2 → tl_Live_solve_84 p12055 z12074 z12076 p12051 p12056 f12062 f12065 f12066 f12067 f12069 f12070 (0 : Int32) f18800 f18801 k e1 e2) → ((41 : Int) - g19345.toInt).toNat < n84_19349 → G (gV D I) l (gRm 2 54 0 0) (gM (gV D I) (po_12072_Live_solve I q12035 q12036 q12037 q12038 q12039 q12040 q12041 q12042 q12043 q12044 q12045 q12046 q12047 q12048 q12049 p12050 p12051 p12052 p12053 p12054 p12055 p12056 p12057 f12058 f12059 f12060 f12061 f12062 f12063 f12064 f12065 f12066 f12067 f12068 f12069 f12070) gN 0 0) ky_12072_Live_solve 84 [(4, .int g19345), (0, .ref q12035), (1, .ref q12036), (2, .int p12050), (3, .int p12051)] [] [(q12035, .inr (10, [.ref q12037, .ref q12038, .ref q12039, .ref q12040, .int z12074, .int z12076, .int p12051])), (q12036, .inr (5, [.ref q12041, .ref q12042, .ref q12043, .ref q12044, .ref q12045, .ref q12046, .ref q12047, .ref q12048, .ref q12049, .int p12055, .int p12056, .int p12057])), (q12037, .inl (I .long, 480, .inr (.inl f18799))), (q12038, .inl (I .long, 480, .inr (.inl f19346))), (q12039, .inl (I .long, 480, .inr (.inl f19347))), (q12040, .inl (I .long, 12, .inr (.inl f12061))), (q12041, .inl (I .int, 40, .inl f12062)), (q12042, .inl (I .int, 40, .inl f12063)), (q12043, .inl (I .int, 40, .inl f12064)), (q12044, .inl (I .int, 200, .inl f12065)), (q12045, .inl (I .int, 200, .inl f12066)), (q12046, .inl (I .int, 200, .inl f12067)), (q12047, .inl (I .int, 200, .inl f12068)), (q12048, .inl (I .int, 200, .inl f12069)), (q12049, .inl (I .int, 200, .inl f12070))] 0 0 := by
          intro n84_19349
          induction n84_19349 with
          | zero => intro g19345 f19346 f19347 bg19345 x19348 x19349 kt84_19349 hm84_19349; exact absurd hm84_19349 (Nat.not_lt_zero _)
          | succ n84_19349 ih84_19349 =>
            intro g19345 f19346 f19347 bg19345 x19348 x19349 kt84_19349 hm84_19349
            refine G_iload 0 d_cX5_solve_84 rfl ?_
            refine G_aload_n 2 d_cX5_solve_86 rfl ?_
            refine G_getfN 1 9 d_cX5_solve_87 rfl (gk_X0 D I) (Nat.le_of_ble_eq_true rfl) (fun _ _ _ h => gn_w 37 rfl h) rfl ?_
            refine G_icmp_ge 106 d_cX5_solve_90 (by decide +kernel) (fun hc19350 => ?_) (fun hc19350 => ?_)
            · have r19351 : p12055.toInt ≤ g19345.toInt := gC_le hc19350
              have hx19352 : tl_Live_solve_84 p12055 z12074 z12076 p12051 p12056 f12062 f12065 f12066 f12067 f12069 f12070 (0 : Int32) f18800 f18801 106 f19346 f19347 := kt84_19349 106 f19346 f19347 (fun R c1 c2 => c1 g19345 f19346 f19347 bg19345 r19351)
              refine G_iconst 1 d_cX5_solve_106 (by decide +kernel) ?_
              refine G_istore (L' := [(4, .int 1), (0, .ref q12035), (1, .ref q12036), (2, .int p12050), (3, .int p12051)]) d_cX5_solve_107 (Nat.le_of_ble_eq_true rfl) rfl ?_
              refine G_iconst 0 d_cX5_solve_109 (by decide +kernel) ?_
              refine G_istore (L' := [(5, .int 0), (4, .int 1), (0, .ref q12035), (1, .ref q12036), (2, .int p12050), (3, .int p12051)]) d_cX5_solve_110 (Nat.le_of_ble_eq_true rfl) rfl ?_
              have hlp112_19442 : ∀ (n112_19442 : Nat) (g19438 : Int32) (g19439 : Int32) (f19440 : Nat → Int64) (f19441 : Nat → Int64), gB g19438 0 41 → gB g19439 0 1 → lb_W f19440 (p12055.toInt * z12076.toInt) (z12076.toInt) (z12074.toInt) → (∀ (k : Nat) (e1 : Nat → Int64) (e2 : Nat → Int64), tl_Live_solve_112 p12055 z12076 f19346 f19347 f12063 f12064 g19438 g19439 f19440 f19441 k e1 e2 → tl_Live_solve_112 p12055 z12076 f19346 f19347 f12063 f12064 (0 : Int32) (1 : Int32) f18799 f12061 k e1 e2) → ((42 : Int) - g19438.toInt).toNat < n112_19442 → G (gV D I) l (gRm 2 54 0 0) (gM (gV D I) (po_12072_Live_solve I q12035 q12036 q12037 q12038 q12039 q12040 q12041 q12042 q12043 q12044 q12045 q12046 q12047 q12048 q12049 p12050 p12051 p12052 p12053 p12054 p12055 p12056 p12057 f12058 f12059 f12060 f12061 f12062 f12063 f12064 f12065 f12066 f12067 f12068 f12069 f12070) gN 0 0) ky_12072_Live_solve 112 [(5, .int g19438), (4, .int g19439), (0, .ref q12035), (1, .ref q12036), (2, .int p12050), (3, .int p12051)] [] [(q12035, .inr (10, [.ref q12037, .ref q12038, .ref q12039, .ref q12040, .int z12074, .int z12076, .int p12051])), (q12036, .inr (5, [.ref q12041, .ref q12042, .ref q12043, .ref q12044, .ref q12045, .ref q12046, .ref q12047, .ref q12048, .ref q12049, .int p12055, .int p12056, .int p12057])), (q12037, .inl (I .long, 480, .inr (.inl f19440))), (q12038, .inl (I .long, 480, .inr (.inl f19346))), (q12039, .inl (I .long, 480, .inr (.inl f19347))), (q12040, .inl (I .long, 12, .inr (.inl f19441))), (q12041, .inl (I .int, 40, .inl f12062)), (q12042, .inl (I .int, 40, .inl f12063)), (q12043, .inl (I .int, 40, .inl f12064)), (q12044, .inl (I .int, 200, .inl f12065)), (q12045, .inl (I .int, 200, .inl f12066)), (q12046, .inl (I .int, 200, .inl f12067)), (q12047, .inl (I .int, 200, .inl f12068)), (q12048, .inl (I .int, 200, .inl f12069)), (q12049, .inl (I .int, 200, .inl f12070))] 0 0 := by
                intro n112_19442
                induction n112_19442 with
                | zero => intro g19438 g19439 f19440 f19441 bg19438 bg19439 x19442 kt112_19442 hm112_19442; exact absurd hm112_19442 (Nat.not_lt_zero _)
                | succ n112_19442 ih112_19442 =>
                  intro g19438 g19439 f19440 f19441 bg19438 bg19439 x19442 kt112_19442 hm112_19442
                  refine G_iload 0 d_cX5_solve_112 rfl ?_
                  refine G_aload_n 3 d_cX5_solve_114 rfl ?_
                  refine G_getfN 1 9 d_cX5_solve_115 rfl (gk_X0 D I) (Nat.le_of_ble_eq_true rfl) (fun _ _ _ h => gn_w 37 rfl h) rfl ?_
                  refine G_icmp_gt 139 d_cX5_solve_118 (by decide +kernel) (fun hc19443 => ?_) (fun hc19443 => ?_)
                  · have r19444 : p12055.toInt < g19438.toInt := gC_lt hc19443
                    have bg19438' : gB g19438 1 41 := ⟨by omega, by omega⟩
                    have hx19445 : tl_Live_solve_112 p12055 z12076 f19346 f19347 f12063 f12064 (0 : Int32) (1 : Int32) f18799 f12061 139 f19440 f19441 := kt112_19442 139 f19440 f19441 (fun R c1 c2 c3 => c1 g19438 g19439 f19440 f19441 bg19438 bg19439 r19444)
                    exact G_vret d_cX5_solve_139 rfl (Nat.le_of_ble_eq_true rfl) (Nat.le_of_ble_eq_true rfl) ⟨z12074, z12076, p12051, f19440, f19346, f19347, f19441, rfl, rfl, bz12074, bz12076, bp12051, x19442, x19348, x19349, (by omega), (by omega), (fun R c1 => c1 z12073 z12074 z12075 z12076 f18799 f18800 f18801 f19346 f19347 f19440 f19441 ez12073 ez12074 ez12075 ez12076 hx18808 hx19352 hx19445)⟩
                  · have r19446 : g19438.toInt ≤ p12055.toInt := gC_nlt hc19443
                    have bg19438' : gB g19438 0 40 := ⟨by omega, by omega⟩
                    refine G_iload 1 d_cX5_solve_121 rfl ?_
                    refine G_if_eq 139 d_cX5_solve_123 (by decide +kernel) (fun hc19447 => ?_) (fun hc19447 => ?_)
                    · have r19448 : g19439.toInt = 0 := gj_eq hc19447 (show Int32.toInt 0 = 0 by decide)
                      have bg19439' : gB g19439 0 0 := ⟨by omega, by omega⟩
                      have hx19449 : tl_Live_solve_112 p12055 z12076 f19346 f19347 f12063 f12064 (0 : Int32) (1 : Int32) f18799 f12061 139 f19440 f19441 := kt112_19442 139 f19440 f19441 (fun R c1 c2 c3 => c2 g19438 g19439 f19440 f19441 bg19438 bg19439 r19446 r19448)
                      exact G_vret d_cX5_solve_139 rfl (Nat.le_of_ble_eq_true rfl) (Nat.le_of_ble_eq_true rfl) ⟨z12074, z12076, p12051, f19440, f19346, f19347, f19441, rfl, rfl, bz12074, bz12076, bp12051, x19442, x19348, x19349, (by omega), (by omega), (fun R c1 => c1 z12073 z12074 z12075 z12076 f18799 f18800 f18801 f19346 f19347 f19440 f19441 ez12073 ez12074 ez12075 ez12076 hx18808 hx19352 hx19449)⟩
                    · have r19450 : g19439.toInt ≠ 0 := gj_neq hc19447 (show Int32.toInt 0 = 0 by decide)
                      have bg19439' : gB g19439 1 1 := ⟨by omega, by omega⟩
                      refine G_aload_n 2 d_cX5_solve_126 rfl ?_
                      refine G_aload_n 3 d_cX5_solve_127 rfl ?_
                      refine G_callV (As := [.ref q12036]) (wr := []) (gV_ok D I) (ct_12119_Live_sweep l hl0 D I q12035 q12036 q12037 q12038 q12039 q12040 q12041 q12042 q12043 q12044 q12045 q12046 q12047 q12048 q12049 z12074 z12076 p12051 p12055 p12056 p12057 f19440 f19346 f19347 f19441 f12062 f12063 f12064 f12065 f12066 f12067 f12068 f12069 f12070 bz12074 bz12076 bp12051 bp12055 bp12056 bp12057 bf12062 bf12065 x19442 x19348 (by omega)) d_cX5_solve_128 ⟨w_4_60, w_1_10, w_4_63, by decide, rfl, (Nat.le_of_ble_eq_true rfl), (Nat.le_of_ble_eq_true rfl)⟩ w_4_62 w_p_32 0 rfl rfl [0, 1, 2, 3, 4, 5, 6, 7, 8, 9, 10, 11, 12, 13, 14] [] rfl rfl rfl rfl (by decide) (Nat.le_of_ble_eq_true rfl) (Nat.le_of_ble_eq_true rfl) (Nat.le_of_ble_eq_true rfl) (fun r w hp => ?_) (fun _ _ _ z => z.elim)
                      obtain ⟨o19451, f19452, f19453, rfl, rfl, bo19451, x19454, ht19455⟩ := hp
                      change G _ _ _ _ _ _ _ (.int o19451 :: _) _ _ _
                      refine G_ws (ws' := [(q12035, .inr (10, [.ref q12037, .ref q12038, .ref q12039, .ref q12040, .int z12074, .int z12076, .int p12051])), (q12036, .inr (5, [.ref q12041, .ref q12042, .ref q12043, .ref q12044, .ref q12045, .ref q12046, .ref q12047, .ref q12048, .ref q12049, .int p12055, .int p12056, .int p12057])), (q12037, .inl (I .long, 480, .inr (.inl f19452))), (q12038, .inl (I .long, 480, .inr (.inl f19346))), (q12039, .inl (I .long, 480, .inr (.inl f19347))), (q12040, .inl (I .long, 12, .inr (.inl f19453))), (q12041, .inl (I .int, 40, .inl f12062)), (q12042, .inl (I .int, 40, .inl f12063)), (q12043, .inl (I .int, 40, .inl f12064)), (q12044, .inl (I .int, 200, .inl f12065)), (q12045, .inl (I .int, 200, .inl f12066)), (q12046, .inl (I .int, 200, .inl f12067)), (q12047, .inl (I .int, 200, .inl f12068)), (q12048, .inl (I .int, 200, .inl f12069)), (q12049, .inl (I .int, 200, .inl f12070))]) (cs' := 0) (sl' := 0) rfl rfl rfl ?_
                      refine G_istore (L' := [(4, .int o19451), (5, .int g19438), (0, .ref q12035), (1, .ref q12036), (2, .int p12050), (3, .int p12051)]) d_cX5_solve_131 (Nat.le_of_ble_eq_true rfl) rfl ?_
                      obtain ⟨z19456, hz19456⟩ : ∃ z : Int32, z = g19438 + Int32.ofInt 1 := ⟨_, rfl⟩
                      have ez19456 : z19456.toInt = g19438.toInt + 1 := gI_inc hz19456 (by decide) bg19438' (by decide) (by decide)
                      have bz19456 : gB z19456 1 41 := ⟨by omega, by omega⟩
                      refine G_iinc (L' := [(5, .int z19456), (4, .int o19451), (0, .ref q12035), (1, .ref q12036), (2, .int p12050), (3, .int p12051)]) z19456 1 d_cX5_solve_133 rfl hz19456.symm (Nat.le_of_ble_eq_true rfl) rfl ?_
                      refine G_goto 112 d_cX5_solve_136 (by decide +kernel) ?_
                      exact ih112_19442 z19456 o19451 f19452 f19453 (gB_w bz19456 (by decide) (by decide)) bo19451 x19454 (fun k e1 e2 ht => kt112_19442 k e1 e2 (fun R c1 c2 c3 => c3 g19438 g19439 f19440 f19441 o19451 f19452 f19453 z19456 k e1 e2 bg19438 bg19439 r19446 r19450 bo19451 ht19455 ez19456 (ht R c1 c2 c3))) (by omega)
              exact hlp112_19442 (((42 : Int) - 0).toNat + 1) 0 1 f18799 f12061 (gB_w (gBl (show Int32.toInt 0 = 0 by decide)) (by decide) (by decide)) (gB_w (gBl (show Int32.toInt 1 = 1 by decide)) (by decide) (by decide)) (lb_Wz (lb_Zle x18802 (by omega))) (fun k e1 e2 ht => ht) (Nat.lt_succ_self _)
            · have r19457 : g19345.toInt < p12055.toInt := gC_nle hc19350
              have bg19345' : gB g19345 0 39 := ⟨by omega, by omega⟩
              have bp12055' : gB p12055 1 40 := ⟨by omega, by omega⟩
              refine G_aload_n 1 d_cX5_solve_93 rfl ?_
              refine G_aload_n 2 d_cX5_solve_94 rfl ?_
              refine G_iload 0 d_cX5_solve_95 rfl ?_
              refine G_callV (As := [.ref q12036, .int g19345]) (wr := []) (gV_ok D I) (ct_13288_Live_gather l hl0 D I q12035 q12036 q12037 q12038 q12039 q12040 q12041 q12042 q12043 q12044 q12045 q12046 q12047 q12048 q12049 g19345 z12074 z12076 p12051 p12055 p12056 p12057 f18799 f19346 f19347 f12061 f12062 f12063 f12064 f12065 f12066 f12067 f12068 f12069 f12070 bg19345' bz12074 bz12076 bp12051 (gB_w bp12055' (by decide) (by decide)) bp12056 bp12057 bf12062 bf12065 (by omega) x19348 x19349 (by omega)) d_cX5_solve_97 ⟨w_4_31, w_1_10, w_4_34, by decide, rfl, (Nat.le_of_ble_eq_true rfl), (Nat.le_of_ble_eq_true rfl)⟩ w_4_33 w_p_30 0 rfl rfl [0, 1, 2, 3, 4, 5, 6, 7, 8, 9, 10, 11, 12, 13, 14] [] rfl rfl rfl rfl (by decide) (Nat.le_of_ble_eq_true rfl) (Nat.le_of_ble_eq_true rfl) (Nat.le_of_ble_eq_true rfl) (fun r w hp => ?_) (fun _ _ _ z => z.elim)
              obtain ⟨f19458, f19459, rfl, rfl, x19460, x19461, ht19462⟩ := hp
              change G _ _ _ _ _ _ _ _ _ _ _
              refine G_ws (ws' := [(q12035, .inr (10, [.ref q12037, .ref q12038, .ref q12039, .ref q12040, .int z12074, .int z12076, .int p12051])), (q12036, .inr (5, [.ref q12041, .ref q12042, .ref q12043, .ref q12044, .ref q12045, .ref q12046, .ref q12047, .ref q12048, .ref q12049, .int p12055, .int p12056, .int p12057])), (q12037, .inl (I .long, 480, .inr (.inl f18799))), (q12038, .inl (I .long, 480, .inr (.inl f19458))), (q12039, .inl (I .long, 480, .inr (.inl f19459))), (q12040, .inl (I .long, 12, .inr (.inl f12061))), (q12041, .inl (I .int, 40, .inl f12062)), (q12042, .inl (I .int, 40, .inl f12063)), (q12043, .inl (I .int, 40, .inl f12064)), (q12044, .inl (I .int, 200, .inl f12065)), (q12045, .inl (I .int, 200, .inl f12066)), (q12046, .inl (I .int, 200, .inl f12067)), (q12047, .inl (I .int, 200, .inl f12068)), (q12048, .inl (I .int, 200, .inl f12069)), (q12049, .inl (I .int, 200, .inl f12070))]) (cs' := 0) (sl' := 0) rfl rfl rfl ?_
              obtain ⟨z19463, hz19463⟩ : ∃ z : Int32, z = g19345 + Int32.ofInt 1 := ⟨_, rfl⟩
              have ez19463 : z19463.toInt = g19345.toInt + 1 := gI_inc hz19463 (by decide) bg19345' (by decide) (by decide)
              have bz19463 : gB z19463 1 40 := ⟨by omega, by omega⟩
              refine G_iinc (L' := [(4, .int z19463), (0, .ref q12035), (1, .ref q12036), (2, .int p12050), (3, .int p12051)]) z19463 0 d_cX5_solve_100 rfl hz19463.symm (Nat.le_of_ble_eq_true rfl) rfl ?_
              refine G_goto 84 d_cX5_solve_103 (by decide +kernel) ?_
              exact ih84_19349 z19463 f19458 f19459 (gB_w bz19463 (by decide) (by decide)) x19460 x19461 (fun k e1 e2 ht => kt84_19349 k e1 e2 (fun R c1 c2 => c2 g19345 f19346 f19347 f19458 f19459 z19463 k e1 e2 bg19345 r19457 ht19462 ez19463 (ht R c1 c2))) (by omega)
        exact hlp84_19349 (((41 : Int) - 0).toNat + 1) 0 f18800 f18801 (gB_w (gBl (show Int32.toInt 0 = 0 by decide)) (by decide) (by decide)) (lb_Wz (lb_Zle x18803 (by omega))) (lb_Wz (lb_Zle x18804 (by omega))) (fun k e1 e2 ht => ht) (Nat.lt_succ_self _)
      · have r19464 : g18798.toInt < z18805.toInt := gC_nle hc18806
        have bg18798' : gB g18798 0 479 := ⟨by omega, by omega⟩
        have bz18805' : gB z18805 1 480 := ⟨by omega, by omega⟩
        refine G_aload_n 1 d_cX5_solve_51 rfl ?_
        refine G_getf 0 0 d_cX5_solve_52 rfl (gk_X5 D I) (Nat.le_of_ble_eq_true rfl) w_2_22 rfl ?_
        refine G_iload 0 d_cX5_solve_55 rfl ?_
        refine G_lconst 0 d_cX5_solve_57 rfl ?_
        refine G_lastN 2 2 d_cX5_solve_58 rfl rfl (gB_in bg18798' (by decide) (by decide)) (fun f19465 hf19465 => ?_)
        refine G_ws (ws' := [(q12035, .inr (10, [.ref q12037, .ref q12038, .ref q12039, .ref q12040, .int z12074, .int z12076, .int p12051])), (q12036, .inr (5, [.ref q12041, .ref q12042, .ref q12043, .ref q12044, .ref q12045, .ref q12046, .ref q12047, .ref q12048, .ref q12049, .int p12055, .int p12056, .int p12057])), (q12037, .inl (I .long, 480, .inr (.inl f19465))), (q12038, .inl (I .long, 480, .inr (.inl f18800))), (q12039, .inl (I .long, 480, .inr (.inl f18801))), (q12040, .inl (I .long, 12, .inr (.inl f12061))), (q12041, .inl (I .int, 40, .inl f12062)), (q12042, .inl (I .int, 40, .inl f12063)), (q12043, .inl (I .int, 40, .inl f12064)), (q12044, .inl (I .int, 200, .inl f12065)), (q12045, .inl (I .int, 200, .inl f12066)), (q12046, .inl (I .int, 200, .inl f12067)), (q12047, .inl (I .int, 200, .inl f12068)), (q12048, .inl (I .int, 200, .inl f12069)), (q12049, .inl (I .int, 200, .inl f12070))]) (cs' := 0) (sl' := 0) rfl rfl rfl ?_
        refine G_aload_n 1 d_cX5_solve_59 rfl ?_
        refine G_getf 0 1 d_cX5_solve_60 rfl (gk_X5 D I) (Nat.le_of_ble_eq_true rfl) w_2_23 rfl ?_
        refine G_iload 0 d_cX5_solve_63 rfl ?_
        refine G_lconst 0 d_cX5_solve_65 rfl ?_
        refine G_lastN 3 2 d_cX5_solve_66 rfl rfl (gB_in bg18798' (by decide) (by decide)) (fun f19466 hf19466 => ?_)
        refine G_ws (ws' := [(q12035, .inr (10, [.ref q12037, .ref q12038, .ref q12039, .ref q12040, .int z12074, .int z12076, .int p12051])), (q12036, .inr (5, [.ref q12041, .ref q12042, .ref q12043, .ref q12044, .ref q12045, .ref q12046, .ref q12047, .ref q12048, .ref q12049, .int p12055, .int p12056, .int p12057])), (q12037, .inl (I .long, 480, .inr (.inl f19465))), (q12038, .inl (I .long, 480, .inr (.inl f19466))), (q12039, .inl (I .long, 480, .inr (.inl f18801))), (q12040, .inl (I .long, 12, .inr (.inl f12061))), (q12041, .inl (I .int, 40, .inl f12062)), (q12042, .inl (I .int, 40, .inl f12063)), (q12043, .inl (I .int, 40, .inl f12064)), (q12044, .inl (I .int, 200, .inl f12065)), (q12045, .inl (I .int, 200, .inl f12066)), (q12046, .inl (I .int, 200, .inl f12067)), (q12047, .inl (I .int, 200, .inl f12068)), (q12048, .inl (I .int, 200, .inl f12069)), (q12049, .inl (I .int, 200, .inl f12070))]) (cs' := 0) (sl' := 0) rfl rfl rfl ?_
        refine G_aload_n 1 d_cX5_solve_67 rfl ?_
        refine G_getf 0 2 d_cX5_solve_68 rfl (gk_X5 D I) (Nat.le_of_ble_eq_true rfl) w_2_24 rfl ?_
        refine G_iload 0 d_cX5_solve_71 rfl ?_
        refine G_lconst 0 d_cX5_solve_73 rfl ?_
        refine G_lastN 4 2 d_cX5_solve_74 rfl rfl (gB_in bg18798' (by decide) (by decide)) (fun f19467 hf19467 => ?_)
        refine G_ws (ws' := [(q12035, .inr (10, [.ref q12037, .ref q12038, .ref q12039, .ref q12040, .int z12074, .int z12076, .int p12051])), (q12036, .inr (5, [.ref q12041, .ref q12042, .ref q12043, .ref q12044, .ref q12045, .ref q12046, .ref q12047, .ref q12048, .ref q12049, .int p12055, .int p12056, .int p12057])), (q12037, .inl (I .long, 480, .inr (.inl f19465))), (q12038, .inl (I .long, 480, .inr (.inl f19466))), (q12039, .inl (I .long, 480, .inr (.inl f19467))), (q12040, .inl (I .long, 12, .inr (.inl f12061))), (q12041, .inl (I .int, 40, .inl f12062)), (q12042, .inl (I .int, 40, .inl f12063)), (q12043, .inl (I .int, 40, .inl f12064)), (q12044, .inl (I .int, 200, .inl f12065)), (q12045, .inl (I .int, 200, .inl f12066)), (q12046, .inl (I .int, 200, .inl f12067)), (q12047, .inl (I .int, 200, .inl f12068)), (q12048, .inl (I .int, 200, .inl f12069)), (q12049, .inl (I .int, 200, .inl f12070))]) (cs' := 0) (sl' := 0) rfl rfl rfl ?_
        obtain ⟨z19468, hz19468⟩ : ∃ z : Int32, z = g18798 + Int32.ofInt 1 := ⟨_, rfl⟩
        have ez19468 : z19468.toInt = g18798.toInt + 1 := gI_inc hz19468 (by decide) bg18798' (by decide) (by decide)
        have bz19468 : gB z19468 1 480 := ⟨by omega, by omega⟩
        refine G_iinc (L' := [(4, .int z19468), (0, .ref q12035), (1, .ref q12036), (2, .int p12050), (3, .int p12051)]) z19468 0 d_cX5_solve_75 rfl hz19468.symm (Nat.le_of_ble_eq_true rfl) rfl ?_
        refine G_goto 37 d_cX5_solve_78 (by decide +kernel) ?_
        exact ih37_18804 z19468 f19465 f19466 f19467 (gB_w bz19468 (by decide) (by decide)) (lb_Zst hf19465 (by omega) x18802 (by omega)) (lb_Zst hf19466 (by omega) x18803 (by omega)) (lb_Zst hf19467 (by omega) x18804 (by omega)) (fun k e1 e2 e3 ht => kt37_18804 k e1 e2 e3 (fun R c1 c2 => c2 g18798 f18799 f18800 f18801 z18805 f19465 f19466 f19467 z19468 k e1 e2 e3 bg18798 ez18805 r19464 hf19465 hf19466 hf19467 ez19468 (ht R c1 c2))) (by omega)
  exact hlp37_18804 (((481 : Int) - 0).toNat + 1) 0 f12058 f12059 f12060 (gB_w (gBl (show Int32.toInt 0 = 0 by decide)) (by decide) (by decide)) lb_Z0 lb_Z0 lb_Z0 (fun k e1 e2 e3 ht => ht) (Nat.lt_succ_self _)
/- tr_Code_clear2: Code_blocks, Code_lines, Code_isFull -/
def tr_Code_clear2 (o1 : Int32) (o2 : Int32) (o3 : Int32) : Prop := ∀ R : (Int32) → (Int32) → (Int32) → Prop,
  (R (0 : Int32) (0 : Int32) (0 : Int32)) →
  R o1 o2 o3
abbrev ky_19511_Code_clear : gKey := (cX0_clear, 1, yX0_clear.cls, none, [], yX0_clear.name, fun _ _ => True)
abbrev po_19511_Code_clear (I : FieldType → ClassId) (q19489 : Nat) (q19490 : Nat) (q19491 : Nat) (q19492 : Nat) (q19493 : Nat) (q19494 : Nat) (q19495 : Nat) (q19496 : Nat) (q19497 : Nat) (q19498 : Nat) (p19499 : Int32) (p19500 : Int32) (p19501 : Int32) (f19502 : Nat → Int32) (f19503 : Nat → Int32) (f19504 : Nat → Int32) (f19505 : Nat → Int32) (f19506 : Nat → Int32) (f19507 : Nat → Int32) (f19508 : Nat → Int32) (f19509 : Nat → Int32) (f19510 : Nat → Int32) : Option Value → va_W → Prop := fun r w => ∃ (o19512 : Int32) (o19513 : Int32) (o19514 : Int32), r = none ∧ w = [(q19489, .inr (5, [.ref q19490, .ref q19491, .ref q19492, .ref q19493, .ref q19494, .ref q19495, .ref q19496, .ref q19497, .ref q19498, .int o19512, .int o19513, .int o19514])), (q19490, .inl (I .int, 40, .inl f19502)), (q19491, .inl (I .int, 40, .inl f19503)), (q19492, .inl (I .int, 40, .inl f19504)), (q19493, .inl (I .int, 920, .inl f19505)), (q19494, .inl (I .int, 920, .inl f19506)), (q19495, .inl (I .int, 920, .inl f19507)), (q19496, .inl (I .int, 920, .inl f19508)), (q19497, .inl (I .int, 920, .inl f19509)), (q19498, .inl (I .int, 920, .inl f19510))] ∧ gB o19512 0 0 ∧ gB o19513 0 0 ∧ gB o19514 0 0 ∧ tr_Code_clear2 o19512 o19513 o19514
set_option maxRecDepth 100000 in
set_option maxHeartbeats 4000000 in
theorem ct_19511_Code_clear (l : Launch) (hl0 : l.stackTraces = false) (D : va_G) (I : FieldType → ClassId) (q19489 : Nat) (q19490 : Nat) (q19491 : Nat) (q19492 : Nat) (q19493 : Nat) (q19494 : Nat) (q19495 : Nat) (q19496 : Nat) (q19497 : Nat) (q19498 : Nat) (p19499 : Int32) (p19500 : Int32) (p19501 : Int32) (f19502 : Nat → Int32) (f19503 : Nat → Int32) (f19504 : Nat → Int32) (f19505 : Nat → Int32) (f19506 : Nat → Int32) (f19507 : Nat → Int32) (f19508 : Nat → Int32) (f19509 : Nat → Int32) (f19510 : Nat → Int32) (bp19499 : gB p19499 0 40) (bp19500 : gB p19500 0 920) (bp19501 : gB p19501 0 1) (bf19502 : gF f19502 0 920) (bf19505 : gF f19505 0 21) : Ct (gV D I) l yX0_clear cX0_clear 1 none 0 0 0 0 [.ref q19489] [(q19489, .inr (5, [.ref q19490, .ref q19491, .ref q19492, .ref q19493, .ref q19494, .ref q19495, .ref q19496, .ref q19497, .ref q19498, .int p19499, .int p19500, .int p19501])), (q19490, .inl (I .int, 40, .inl f19502)), (q19491, .inl (I .int, 40, .inl f19503)), (q19492, .inl (I .int, 40, .inl f19504)), (q19493, .inl (I .int, 920, .inl f19505)), (q19494, .inl (I .int, 920, .inl f19506)), (q19495, .inl (I .int, 920, .inl f19507)), (q19496, .inl (I .int, 920, .inl f19508)), (q19497, .inl (I .int, 920, .inl f19509)), (q19498, .inl (I .int, 920, .inl f19510))] (po_19511_Code_clear I q19489 q19490 q19491 q19492 q19493 q19494 q19495 q19496 q19497 q19498 p19499 p19500 p19501 f19502 f19503 f19504 f19505 f19506 f19507 f19508 f19509 f19510) gN := by
  refine Ct_of hl0 (by decide) (Nat.le_of_ble_eq_true rfl) ?_
  refine G_aload_n 0 d_cX0_clear_0 rfl ?_
  refine G_iconst 0 d_cX0_clear_1 (by decide +kernel) ?_
  refine G_putf (ws' := [(q19489, .inr (5, [.ref q19490, .ref q19491, .ref q19492, .ref q19493, .ref q19494, .ref q19495, .ref q19496, .ref q19497, .ref q19498, .int 0, .int p19500, .int p19501])), (q19490, .inl (I .int, 40, .inl f19502)), (q19491, .inl (I .int, 40, .inl f19503)), (q19492, .inl (I .int, 40, .inl f19504)), (q19493, .inl (I .int, 920, .inl f19505)), (q19494, .inl (I .int, 920, .inl f19506)), (q19495, .inl (I .int, 920, .inl f19507)), (q19496, .inl (I .int, 920, .inl f19508)), (q19497, .inl (I .int, 920, .inl f19509)), (q19498, .inl (I .int, 920, .inl f19510))]) 0 9 d_cX0_clear_2 rfl (gk_X0 D I) (Nat.le_of_ble_eq_true rfl) w_1_187 rfl rfl rfl (Nat.le_of_ble_eq_true rfl) rfl ?_
  refine G_aload_n 0 d_cX0_clear_5 rfl ?_
  refine G_iconst 0 d_cX0_clear_6 (by decide +kernel) ?_
  refine G_putf (ws' := [(q19489, .inr (5, [.ref q19490, .ref q19491, .ref q19492, .ref q19493, .ref q19494, .ref q19495, .ref q19496, .ref q19497, .ref q19498, .int 0, .int 0, .int p19501])), (q19490, .inl (I .int, 40, .inl f19502)), (q19491, .inl (I .int, 40, .inl f19503)), (q19492, .inl (I .int, 40, .inl f19504)), (q19493, .inl (I .int, 920, .inl f19505)), (q19494, .inl (I .int, 920, .inl f19506)), (q19495, .inl (I .int, 920, .inl f19507)), (q19496, .inl (I .int, 920, .inl f19508)), (q19497, .inl (I .int, 920, .inl f19509)), (q19498, .inl (I .int, 920, .inl f19510))]) 0 10 d_cX0_clear_7 rfl (gk_X0 D I) (Nat.le_of_ble_eq_true rfl) w_1_197 rfl rfl rfl (Nat.le_of_ble_eq_true rfl) rfl ?_
  refine G_aload_n 0 d_cX0_clear_10 rfl ?_
  refine G_iconst 0 d_cX0_clear_11 (by decide +kernel) ?_
  refine G_putf (ws' := [(q19489, .inr (5, [.ref q19490, .ref q19491, .ref q19492, .ref q19493, .ref q19494, .ref q19495, .ref q19496, .ref q19497, .ref q19498, .int 0, .int 0, .int 0])), (q19490, .inl (I .int, 40, .inl f19502)), (q19491, .inl (I .int, 40, .inl f19503)), (q19492, .inl (I .int, 40, .inl f19504)), (q19493, .inl (I .int, 920, .inl f19505)), (q19494, .inl (I .int, 920, .inl f19506)), (q19495, .inl (I .int, 920, .inl f19507)), (q19496, .inl (I .int, 920, .inl f19508)), (q19497, .inl (I .int, 920, .inl f19509)), (q19498, .inl (I .int, 920, .inl f19510))]) 0 11 d_cX0_clear_12 rfl (gk_X0 D I) (Nat.le_of_ble_eq_true rfl) w_1_200 rfl rfl rfl (Nat.le_of_ble_eq_true rfl) rfl ?_
  exact G_vret d_cX0_clear_15 rfl (Nat.le_of_ble_eq_true rfl) (Nat.le_of_ble_eq_true rfl) ⟨0, 0, 0, rfl, rfl, (gBl (show Int32.toInt 0 = 0 by decide)), (gBl (show Int32.toInt 0 = 0 by decide)), (gBl (show Int32.toInt 0 = 0 by decide)), (fun R c1 => c1)⟩
/- tr_Code_openBlock2: result, Code_blocks, Code_first, Code_firstGoal, Code_secondGoal -/
def tr_Code_openBlock2 (Code_blocks : Int32) (Code_lines : Int32) (Code_first : Nat → Int32) (Code_firstGoal : Nat → Int32) (Code_secondGoal : Nat → Int32) (o1 : Int32) (o2 : Int32) (o3 : Nat → Int32) (o4 : Nat → Int32) (o5 : Nat → Int32) : Prop := ∀ R : (Int32) → (Int32) → (Nat → Int32) → (Nat → Int32) → (Nat → Int32) → Prop,
  (∀ (x1 : Nat → Int32) (x2 : Nat → Int32) (x3 : Nat → Int32) (x4 : Int32), Code_blocks.toInt < 40 → x1 = upd Code_first Code_blocks.toNatClampNeg Code_lines → x2 = upd Code_firstGoal Code_blocks.toNatClampNeg (-1 : Int32) → x3 = upd Code_secondGoal Code_blocks.toNatClampNeg (-1 : Int32) → x4.toInt = Code_blocks.toInt + 1 → R (1 : Int32) x4 x1 x2 x3) →
  (40 ≤ Code_blocks.toInt → R (0 : Int32) Code_blocks Code_first Code_firstGoal Code_secondGoal) →
  R o1 o2 o3 o4 o5
abbrev ky_19592_Code_openBlock : gKey := (cX0_openBlock, 1, yX0_openBlock.cls, (some FieldType.boolean), [], yX0_openBlock.name, fun _ _ => True)
abbrev po_19592_Code_openBlock (I : FieldType → ClassId) (q19570 : Nat) (q19571 : Nat) (q19572 : Nat) (q19573 : Nat) (q19574 : Nat) (q19575 : Nat) (q19576 : Nat) (q19577 : Nat) (q19578 : Nat) (q19579 : Nat) (p19580 : Int32) (p19581 : Int32) (p19582 : Int32) (f19583 : Nat → Int32) (f19584 : Nat → Int32) (f19585 : Nat → Int32) (f19586 : Nat → Int32) (f19587 : Nat → Int32) (f19588 : Nat → Int32) (f19589 : Nat → Int32) (f19590 : Nat → Int32) (f19591 : Nat → Int32) : Option Value → va_W → Prop := fun r w => ∃ (o19604 : Int32) (o19600 : Int32) (f19601 : Nat → Int32) (f19602 : Nat → Int32) (f19603 : Nat → Int32), r = some (.int o19604) ∧ w = [(q19570, .inr (5, [.ref q19571, .ref q19572, .ref q19573, .ref q19574, .ref q19575, .ref q19576, .ref q19577, .ref q19578, .ref q19579, .int o19600, .int p19581, .int p19582])), (q19571, .inl (I .int, 40, .inl f19601)), (q19572, .inl (I .int, 40, .inl f19602)), (q19573, .inl (I .int, 40, .inl f19603)), (q19574, .inl (I .int, 920, .inl f19586)), (q19575, .inl (I .int, 920, .inl f19587)), (q19576, .inl (I .int, 920, .inl f19588)), (q19577, .inl (I .int, 920, .inl f19589)), (q19578, .inl (I .int, 920, .inl f19590)), (q19579, .inl (I .int, 920, .inl f19591))] ∧ gB o19604 0 1 ∧ gB o19600 1 40 ∧ gF f19601 0 920 ∧ gF f19602 (-2147483648) 2147483647 ∧ gF f19603 (-2147483648) 2147483647 ∧ tr_Code_openBlock2 p19580 p19581 f19583 f19584 f19585 o19604 o19600 f19601 f19602 f19603
set_option maxRecDepth 100000 in
set_option maxHeartbeats 4000000 in
theorem ct_19592_Code_openBlock (l : Launch) (hl0 : l.stackTraces = false) (D : va_G) (I : FieldType → ClassId) (q19570 : Nat) (q19571 : Nat) (q19572 : Nat) (q19573 : Nat) (q19574 : Nat) (q19575 : Nat) (q19576 : Nat) (q19577 : Nat) (q19578 : Nat) (q19579 : Nat) (p19580 : Int32) (p19581 : Int32) (p19582 : Int32) (f19583 : Nat → Int32) (f19584 : Nat → Int32) (f19585 : Nat → Int32) (f19586 : Nat → Int32) (f19587 : Nat → Int32) (f19588 : Nat → Int32) (f19589 : Nat → Int32) (f19590 : Nat → Int32) (f19591 : Nat → Int32) (bp19580 : gB p19580 0 40) (bp19581 : gB p19581 0 920) (bp19582 : gB p19582 0 1) (bf19583 : gF f19583 0 920) (bf19586 : gF f19586 0 21) : Ct (gV D I) l yX0_openBlock cX0_openBlock 1 (some FieldType.boolean) 0 0 0 0 [.ref q19570] [(q19570, .inr (5, [.ref q19571, .ref q19572, .ref q19573, .ref q19574, .ref q19575, .ref q19576, .ref q19577, .ref q19578, .ref q19579, .int p19580, .int p19581, .int p19582])), (q19571, .inl (I .int, 40, .inl f19583)), (q19572, .inl (I .int, 40, .inl f19584)), (q19573, .inl (I .int, 40, .inl f19585)), (q19574, .inl (I .int, 920, .inl f19586)), (q19575, .inl (I .int, 920, .inl f19587)), (q19576, .inl (I .int, 920, .inl f19588)), (q19577, .inl (I .int, 920, .inl f19589)), (q19578, .inl (I .int, 920, .inl f19590)), (q19579, .inl (I .int, 920, .inl f19591))] (po_19592_Code_openBlock I q19570 q19571 q19572 q19573 q19574 q19575 q19576 q19577 q19578 q19579 p19580 p19581 p19582 f19583 f19584 f19585 f19586 f19587 f19588 f19589 f19590 f19591) gN := by
  refine Ct_of hl0 (by decide) (Nat.le_of_ble_eq_true rfl) ?_
  refine G_aload_n 0 d_cX0_openBlock_0 rfl ?_
  refine G_getf 0 9 d_cX0_openBlock_1 rfl (gk_X0 D I) (Nat.le_of_ble_eq_true rfl) w_1_187 rfl ?_
  refine G_bipush 40 d_cX0_openBlock_4 (by decide +kernel) ?_
  refine G_icmp_lt 11 d_cX0_openBlock_6 (by decide +kernel) (fun hc19593 => ?_) (fun hc19593 => ?_)
  · have r19594 : p19580.toInt < 40 := gj_lt hc19593 (show Int32.toInt 40 = 40 by decide)
    have bp19580' : gB p19580 0 39 := ⟨by omega, by omega⟩
    refine G_aload_n 0 d_cX0_openBlock_11 rfl ?_
    refine G_getf 0 0 d_cX0_openBlock_12 rfl (gk_X0 D I) (Nat.le_of_ble_eq_true rfl) w_1_142 rfl ?_
    refine G_aload_n 0 d_cX0_openBlock_15 rfl ?_
    refine G_getf 0 9 d_cX0_openBlock_16 rfl (gk_X0 D I) (Nat.le_of_ble_eq_true rfl) w_1_187 rfl ?_
    refine G_aload_n 0 d_cX0_openBlock_19 rfl ?_
    refine G_getf 0 10 d_cX0_openBlock_20 rfl (gk_X0 D I) (Nat.le_of_ble_eq_true rfl) w_1_197 rfl ?_
    refine G_iastN 1 0 d_cX0_openBlock_23 rfl rfl (gB_in bp19580' (by decide) (by decide)) (fun f19595 hf19595 => ?_)
    refine G_ws (ws' := [(q19570, .inr (5, [.ref q19571, .ref q19572, .ref q19573, .ref q19574, .ref q19575, .ref q19576, .ref q19577, .ref q19578, .ref q19579, .int p19580, .int p19581, .int p19582])), (q19571, .inl (I .int, 40, .inl f19595)), (q19572, .inl (I .int, 40, .inl f19584)), (q19573, .inl (I .int, 40, .inl f19585)), (q19574, .inl (I .int, 920, .inl f19586)), (q19575, .inl (I .int, 920, .inl f19587)), (q19576, .inl (I .int, 920, .inl f19588)), (q19577, .inl (I .int, 920, .inl f19589)), (q19578, .inl (I .int, 920, .inl f19590)), (q19579, .inl (I .int, 920, .inl f19591))]) (cs' := 0) (sl' := 0) rfl rfl rfl ?_
    have bf19595 : gF f19595 0 920 := gF_upd hf19595 bf19583 bp19581
    refine G_aload_n 0 d_cX0_openBlock_24 rfl ?_
    refine G_getf 0 1 d_cX0_openBlock_25 rfl (gk_X0 D I) (Nat.le_of_ble_eq_true rfl) w_1_149 rfl ?_
    refine G_aload_n 0 d_cX0_openBlock_28 rfl ?_
    refine G_getf 0 9 d_cX0_openBlock_29 rfl (gk_X0 D I) (Nat.le_of_ble_eq_true rfl) w_1_187 rfl ?_
    refine G_iconst (-1) d_cX0_openBlock_32 (by decide +kernel) ?_
    refine G_iastN 2 0 d_cX0_openBlock_33 rfl rfl (gB_in bp19580' (by decide) (by decide)) (fun f19596 hf19596 => ?_)
    refine G_ws (ws' := [(q19570, .inr (5, [.ref q19571, .ref q19572, .ref q19573, .ref q19574, .ref q19575, .ref q19576, .ref q19577, .ref q19578, .ref q19579, .int p19580, .int p19581, .int p19582])), (q19571, .inl (I .int, 40, .inl f19595)), (q19572, .inl (I .int, 40, .inl f19596)), (q19573, .inl (I .int, 40, .inl f19585)), (q19574, .inl (I .int, 920, .inl f19586)), (q19575, .inl (I .int, 920, .inl f19587)), (q19576, .inl (I .int, 920, .inl f19588)), (q19577, .inl (I .int, 920, .inl f19589)), (q19578, .inl (I .int, 920, .inl f19590)), (q19579, .inl (I .int, 920, .inl f19591))]) (cs' := 0) (sl' := 0) rfl rfl rfl ?_
    refine G_aload_n 0 d_cX0_openBlock_34 rfl ?_
    refine G_getf 0 2 d_cX0_openBlock_35 rfl (gk_X0 D I) (Nat.le_of_ble_eq_true rfl) w_1_154 rfl ?_
    refine G_aload_n 0 d_cX0_openBlock_38 rfl ?_
    refine G_getf 0 9 d_cX0_openBlock_39 rfl (gk_X0 D I) (Nat.le_of_ble_eq_true rfl) w_1_187 rfl ?_
    refine G_iconst (-1) d_cX0_openBlock_42 (by decide +kernel) ?_
    refine G_iastN 3 0 d_cX0_openBlock_43 rfl rfl (gB_in bp19580' (by decide) (by decide)) (fun f19597 hf19597 => ?_)
    refine G_ws (ws' := [(q19570, .inr (5, [.ref q19571, .ref q19572, .ref q19573, .ref q19574, .ref q19575, .ref q19576, .ref q19577, .ref q19578, .ref q19579, .int p19580, .int p19581, .int p19582])), (q19571, .inl (I .int, 40, .inl f19595)), (q19572, .inl (I .int, 40, .inl f19596)), (q19573, .inl (I .int, 40, .inl f19597)), (q19574, .inl (I .int, 920, .inl f19586)), (q19575, .inl (I .int, 920, .inl f19587)), (q19576, .inl (I .int, 920, .inl f19588)), (q19577, .inl (I .int, 920, .inl f19589)), (q19578, .inl (I .int, 920, .inl f19590)), (q19579, .inl (I .int, 920, .inl f19591))]) (cs' := 0) (sl' := 0) rfl rfl rfl ?_
    refine G_aload_n 0 d_cX0_openBlock_44 rfl ?_
    refine G_dup d_cX0_openBlock_45 rfl ?_
    refine G_getf 0 9 d_cX0_openBlock_46 rfl (gk_X0 D I) (Nat.le_of_ble_eq_true rfl) w_1_187 rfl ?_
    refine G_iconst 1 d_cX0_openBlock_49 (by decide +kernel) ?_
    refine G_iadd d_cX0_openBlock_50 (G_nam fun z19598 hz19598 => ?_)
    have ez19598 : z19598.toInt = p19580.toInt + 1 := by rw [gI_add hz19598 bp19580' (gBl (show Int32.toInt 1 = 1 by decide)) (by decide) (by decide), show Int32.toInt 1 = 1 from by decide]
    have bz19598 : gB z19598 1 40 := gB_add (gI_add hz19598 bp19580' (gBl (show Int32.toInt 1 = 1 by decide)) (by decide) (by decide)) bp19580' (gBl (show Int32.toInt 1 = 1 by decide)) (by decide) (by decide)
    refine G_putf (ws' := [(q19570, .inr (5, [.ref q19571, .ref q19572, .ref q19573, .ref q19574, .ref q19575, .ref q19576, .ref q19577, .ref q19578, .ref q19579, .int z19598, .int p19581, .int p19582])), (q19571, .inl (I .int, 40, .inl f19595)), (q19572, .inl (I .int, 40, .inl f19596)), (q19573, .inl (I .int, 40, .inl f19597)), (q19574, .inl (I .int, 920, .inl f19586)), (q19575, .inl (I .int, 920, .inl f19587)), (q19576, .inl (I .int, 920, .inl f19588)), (q19577, .inl (I .int, 920, .inl f19589)), (q19578, .inl (I .int, 920, .inl f19590)), (q19579, .inl (I .int, 920, .inl f19591))]) 0 9 d_cX0_openBlock_51 rfl (gk_X0 D I) (Nat.le_of_ble_eq_true rfl) w_1_187 rfl rfl rfl (Nat.le_of_ble_eq_true rfl) rfl ?_
    refine G_iconst 1 d_cX0_openBlock_54 (by decide +kernel) ?_
    exact G_zret FieldType.boolean d_cX0_openBlock_55 rfl rfl (Nat.le_of_ble_eq_true rfl) (Nat.le_of_ble_eq_true rfl) ⟨1, z19598, f19595, f19596, f19597, rfl, rfl, (gB_w (gBl (show Int32.toInt 1 = 1 by decide)) (by decide) (by decide)), bz19598, bf19595, (gF_any f19596), (gF_any f19597), (fun R c1 c2 => c1 f19595 f19596 f19597 z19598 r19594 hf19595 hf19596 hf19597 ez19598)⟩
  · have r19599 : 40 ≤ p19580.toInt := gj_nlt hc19593 (show Int32.toInt 40 = 40 by decide)
    have bp19580' : gB p19580 40 40 := ⟨by omega, by omega⟩
    refine G_iconst 0 d_cX0_openBlock_9 (by decide +kernel) ?_
    exact G_zret FieldType.boolean d_cX0_openBlock_10 rfl rfl (Nat.le_of_ble_eq_true rfl) (Nat.le_of_ble_eq_true rfl) ⟨0, p19580, f19583, f19584, f19585, rfl, rfl, (gB_w (gBl (show Int32.toInt 0 = 0 by decide)) (by decide) (by decide)), (gB_w bp19580' (by decide) (by decide)), bf19583, (gF_any f19584), (gF_any f19585), (fun R c1 c2 => c2 r19599)⟩
/- tr_Code_openLike2: Code_blocks, Code_first, Code_firstGoal, Code_secondGoal -/
def tr_Code_openLike2 (Code_blocks : Int32) (Code_lines : Int32) (Code_blocks2 : Int32) (Code_first : Nat → Int32) (Code_firstGoal : Nat → Int32) (Code_secondGoal : Nat → Int32) (Code_firstGoal2 : Nat → Int32) (Code_secondGoal2 : Nat → Int32) (o1 : Int32) (o2 : Nat → Int32) (o3 : Nat → Int32) (o4 : Nat → Int32) : Prop := ∀ R : (Int32) → (Nat → Int32) → (Nat → Int32) → (Nat → Int32) → Prop,
  (Code_blocks2.toInt ≤ Code_blocks.toInt → R Code_blocks Code_first Code_firstGoal Code_secondGoal) →
  (∀ (x1 : Int32) (x2 : Int32) (x3 : Nat → Int32) (x4 : Nat → Int32) (x5 : Nat → Int32), Code_blocks.toInt < Code_blocks2.toInt → gB x1 0 1 → gB x2 1 40 → tr_Code_openBlock2 Code_blocks Code_lines Code_first Code_firstGoal Code_secondGoal x1 x2 x3 x4 x5 → x1.toInt = 0 → R x2 x3 x4 x5) →
  (∀ (x1 : Int32) (x2 : Int32) (x3 : Nat → Int32) (x4 : Nat → Int32) (x5 : Nat → Int32) (x6 : Int32) (x7 : Nat → Int32) (x8 : Int32) (x9 : Nat → Int32), Code_blocks.toInt < Code_blocks2.toInt → gB x1 0 1 → gB x2 1 40 → tr_Code_openBlock2 Code_blocks Code_lines Code_first Code_firstGoal Code_secondGoal x1 x2 x3 x4 x5 → x1.toInt ≠ 0 → x6 = Code_firstGoal2 Code_blocks.toNatClampNeg → x7 = upd x4 Code_blocks.toNatClampNeg x6 → x8 = Code_secondGoal2 Code_blocks.toNatClampNeg → x9 = upd x5 Code_blocks.toNatClampNeg x8 → R x2 x3 x7 x9) →
  R o1 o2 o3 o4
abbrev ky_19566_Code_openLike : gKey := (cX0_openLike, 3, yX0_openLike.cls, none, [], yX0_openLike.name, fun _ _ => True)
abbrev po_19566_Code_openLike (I : FieldType → ClassId) (q19522 : Nat) (q19523 : Nat) (q19524 : Nat) (q19525 : Nat) (q19526 : Nat) (q19527 : Nat) (q19528 : Nat) (q19529 : Nat) (q19530 : Nat) (q19531 : Nat) (q19532 : Nat) (q19533 : Nat) (q19534 : Nat) (q19535 : Nat) (q19536 : Nat) (q19537 : Nat) (q19538 : Nat) (q19539 : Nat) (q19540 : Nat) (q19541 : Nat) (p19542 : Int32) (p19543 : Int32) (p19544 : Int32) (p19545 : Int32) (p19546 : Int32) (p19547 : Int32) (f19548 : Nat → Int32) (f19549 : Nat → Int32) (f19550 : Nat → Int32) (f19551 : Nat → Int32) (f19552 : Nat → Int32) (f19553 : Nat → Int32) (f19554 : Nat → Int32) (f19555 : Nat → Int32) (f19556 : Nat → Int32) (f19557 : Nat → Int32) (f19558 : Nat → Int32) (f19559 : Nat → Int32) (f19560 : Nat → Int32) (f19561 : Nat → Int32) (f19562 : Nat → Int32) (f19563 : Nat → Int32) (f19564 : Nat → Int32) (f19565 : Nat → Int32) : Option Value → va_W → Prop := fun r w => ∃ (o19618 : Int32) (f19619 : Nat → Int32) (f19620 : Nat → Int32) (f19621 : Nat → Int32), r = none ∧ w = [(q19522, .inr (5, [.ref q19524, .ref q19525, .ref q19526, .ref q19527, .ref q19528, .ref q19529, .ref q19530, .ref q19531, .ref q19532, .int o19618, .int p19543, .int p19544])), (q19523, .inr (5, [.ref q19533, .ref q19534, .ref q19535, .ref q19536, .ref q19537, .ref q19538, .ref q19539, .ref q19540, .ref q19541, .int p19545, .int p19546, .int p19547])), (q19524, .inl (I .int, 40, .inl f19619)), (q19525, .inl (I .int, 40, .inl f19620)), (q19526, .inl (I .int, 40, .inl f19621)), (q19527, .inl (I .int, 920, .inl f19551)), (q19528, .inl (I .int, 920, .inl f19552)), (q19529, .inl (I .int, 920, .inl f19553)), (q19530, .inl (I .int, 920, .inl f19554)), (q19531, .inl (I .int, 920, .inl f19555)), (q19532, .inl (I .int, 920, .inl f19556)), (q19533, .inl (I .int, 40, .inl f19557)), (q19534, .inl (I .int, 40, .inl f19558)), (q19535, .inl (I .int, 40, .inl f19559)), (q19536, .inl (I .int, 200, .inl f19560)), (q19537, .inl (I .int, 200, .inl f19561)), (q19538, .inl (I .int, 200, .inl f19562)), (q19539, .inl (I .int, 200, .inl f19563)), (q19540, .inl (I .int, 200, .inl f19564)), (q19541, .inl (I .int, 200, .inl f19565))] ∧ gB o19618 0 40 ∧ gF f19619 0 920 ∧ gF f19620 (-2147483648) 2147483647 ∧ gF f19621 (-2147483648) 2147483647 ∧ tr_Code_openLike2 p19542 p19543 p19545 f19548 f19549 f19550 f19558 f19559 o19618 f19619 f19620 f19621
set_option maxRecDepth 100000 in
set_option maxHeartbeats 4000000 in
theorem ct_19566_Code_openLike (l : Launch) (hl0 : l.stackTraces = false) (D : va_G) (I : FieldType → ClassId) (q19522 : Nat) (q19523 : Nat) (q19524 : Nat) (q19525 : Nat) (q19526 : Nat) (q19527 : Nat) (q19528 : Nat) (q19529 : Nat) (q19530 : Nat) (q19531 : Nat) (q19532 : Nat) (q19533 : Nat) (q19534 : Nat) (q19535 : Nat) (q19536 : Nat) (q19537 : Nat) (q19538 : Nat) (q19539 : Nat) (q19540 : Nat) (q19541 : Nat) (p19542 : Int32) (p19543 : Int32) (p19544 : Int32) (p19545 : Int32) (p19546 : Int32) (p19547 : Int32) (f19548 : Nat → Int32) (f19549 : Nat → Int32) (f19550 : Nat → Int32) (f19551 : Nat → Int32) (f19552 : Nat → Int32) (f19553 : Nat → Int32) (f19554 : Nat → Int32) (f19555 : Nat → Int32) (f19556 : Nat → Int32) (f19557 : Nat → Int32) (f19558 : Nat → Int32) (f19559 : Nat → Int32) (f19560 : Nat → Int32) (f19561 : Nat → Int32) (f19562 : Nat → Int32) (f19563 : Nat → Int32) (f19564 : Nat → Int32) (f19565 : Nat → Int32) (bp19542 : gB p19542 0 40) (bp19543 : gB p19543 0 920) (bp19544 : gB p19544 0 1) (bp19545 : gB p19545 0 40) (bp19546 : gB p19546 0 200) (bp19547 : gB p19547 0 1) (bf19548 : gF f19548 0 920) (bf19551 : gF f19551 0 21) (bf19557 : gF f19557 0 200) (bf19560 : gF f19560 0 21) : Ct (gV D I) l yX0_openLike cX0_openLike 3 none 1 20 0 0 [.ref q19522, .ref q19523] [(q19522, .inr (5, [.ref q19524, .ref q19525, .ref q19526, .ref q19527, .ref q19528, .ref q19529, .ref q19530, .ref q19531, .ref q19532, .int p19542, .int p19543, .int p19544])), (q19523, .inr (5, [.ref q19533, .ref q19534, .ref q19535, .ref q19536, .ref q19537, .ref q19538, .ref q19539, .ref q19540, .ref q19541, .int p19545, .int p19546, .int p19547])), (q19524, .inl (I .int, 40, .inl f19548)), (q19525, .inl (I .int, 40, .inl f19549)), (q19526, .inl (I .int, 40, .inl f19550)), (q19527, .inl (I .int, 920, .inl f19551)), (q19528, .inl (I .int, 920, .inl f19552)), (q19529, .inl (I .int, 920, .inl f19553)), (q19530, .inl (I .int, 920, .inl f19554)), (q19531, .inl (I .int, 920, .inl f19555)), (q19532, .inl (I .int, 920, .inl f19556)), (q19533, .inl (I .int, 40, .inl f19557)), (q19534, .inl (I .int, 40, .inl f19558)), (q19535, .inl (I .int, 40, .inl f19559)), (q19536, .inl (I .int, 200, .inl f19560)), (q19537, .inl (I .int, 200, .inl f19561)), (q19538, .inl (I .int, 200, .inl f19562)), (q19539, .inl (I .int, 200, .inl f19563)), (q19540, .inl (I .int, 200, .inl f19564)), (q19541, .inl (I .int, 200, .inl f19565))] (po_19566_Code_openLike I q19522 q19523 q19524 q19525 q19526 q19527 q19528 q19529 q19530 q19531 q19532 q19533 q19534 q19535 q19536 q19537 q19538 q19539 q19540 q19541 p19542 p19543 p19544 p19545 p19546 p19547 f19548 f19549 f19550 f19551 f19552 f19553 f19554 f19555 f19556 f19557 f19558 f19559 f19560 f19561 f19562 f19563 f19564 f19565) gN := by
  refine Ct_of hl0 (by decide) (Nat.le_of_ble_eq_true rfl) ?_
  refine G_aload_n 0 d_cX0_openLike_0 rfl ?_
  refine G_getf 0 9 d_cX0_openLike_1 rfl (gk_X0 D I) (Nat.le_of_ble_eq_true rfl) w_1_187 rfl ?_
  refine G_istore_n (L' := [(2, .int p19542), (0, .ref q19522), (1, .ref q19523)]) d_cX0_openLike_4 (Nat.le_of_ble_eq_true rfl) rfl ?_
  refine G_iload_n 0 d_cX0_openLike_5 rfl ?_
  refine G_aload_n 2 d_cX0_openLike_6 rfl ?_
  refine G_getf 1 9 d_cX0_openLike_7 rfl (gk_X0 D I) (Nat.le_of_ble_eq_true rfl) w_1_187 rfl ?_
  refine G_icmp_ge 44 d_cX0_openLike_10 (by decide +kernel) (fun hc19567 => ?_) (fun hc19567 => ?_)
  · have r19568 : p19545.toInt ≤ p19542.toInt := gC_le hc19567
    exact G_vret d_cX0_openLike_44 rfl (Nat.le_of_ble_eq_true rfl) (Nat.le_of_ble_eq_true rfl) ⟨p19542, f19548, f19549, f19550, rfl, rfl, bp19542, bf19548, (gF_any f19549), (gF_any f19550), (fun R c1 c2 c3 => c1 r19568)⟩
  · have r19569 : p19542.toInt < p19545.toInt := gC_nle hc19567
    have bp19542' : gB p19542 0 39 := ⟨by omega, by omega⟩
    have bp19545' : gB p19545 1 40 := ⟨by omega, by omega⟩
    refine G_aload_n 1 d_cX0_openLike_13 rfl ?_
    refine G_callV (As := []) (wr := [(q19523, .inr (5, [.ref q19533, .ref q19534, .ref q19535, .ref q19536, .ref q19537, .ref q19538, .ref q19539, .ref q19540, .ref q19541, .int p19545, .int p19546, .int p19547])), (q19533, .inl (I .int, 40, .inl f19557)), (q19534, .inl (I .int, 40, .inl f19558)), (q19535, .inl (I .int, 40, .inl f19559)), (q19536, .inl (I .int, 200, .inl f19560)), (q19537, .inl (I .int, 200, .inl f19561)), (q19538, .inl (I .int, 200, .inl f19562)), (q19539, .inl (I .int, 200, .inl f19563)), (q19540, .inl (I .int, 200, .inl f19564)), (q19541, .inl (I .int, 200, .inl f19565))]) (gV_ok D I) (ct_19592_Code_openBlock l hl0 D I q19522 q19524 q19525 q19526 q19527 q19528 q19529 q19530 q19531 q19532 p19542 p19543 p19544 f19548 f19549 f19550 f19551 f19552 f19553 f19554 f19555 f19556 (gB_w bp19542' (by decide) (by decide)) bp19543 bp19544 bf19548 bf19551) d_cX0_openLike_14 ⟨w_4_73, w_1_5, w_3_140, by decide, rfl, (Nat.le_of_ble_eq_true rfl), (Nat.le_of_ble_eq_true rfl)⟩ w_3_138 w_3_139 0 rfl rfl [0, 2, 3, 4, 5, 6, 7, 8, 9, 10] [1, 11, 12, 13, 14, 15, 16, 17, 18, 19] rfl rfl rfl rfl (by decide) (Nat.le_of_ble_eq_true rfl) (Nat.le_of_ble_eq_true rfl) (Nat.le_of_ble_eq_true rfl) (fun r w hp => ?_) (fun _ _ _ z => z.elim)
    obtain ⟨o19605, o19606, f19607, f19608, f19609, rfl, rfl, bo19605, bo19606, bf19607, bf19608, bf19609, ht19610⟩ := hp
    change G _ _ _ _ _ _ _ (.int o19605 :: _) _ _ _
    refine G_ws (ws' := [(q19523, .inr (5, [.ref q19533, .ref q19534, .ref q19535, .ref q19536, .ref q19537, .ref q19538, .ref q19539, .ref q19540, .ref q19541, .int p19545, .int p19546, .int p19547])), (q19533, .inl (I .int, 40, .inl f19557)), (q19534, .inl (I .int, 40, .inl f19558)), (q19535, .inl (I .int, 40, .inl f19559)), (q19536, .inl (I .int, 200, .inl f19560)), (q19537, .inl (I .int, 200, .inl f19561)), (q19538, .inl (I .int, 200, .inl f19562)), (q19539, .inl (I .int, 200, .inl f19563)), (q19540, .inl (I .int, 200, .inl f19564)), (q19541, .inl (I .int, 200, .inl f19565)), (q19522, .inr (5, [.ref q19524, .ref q19525, .ref q19526, .ref q19527, .ref q19528, .ref q19529, .ref q19530, .ref q19531, .ref q19532, .int o19606, .int p19543, .int p19544])), (q19524, .inl (I .int, 40, .inl f19607)), (q19525, .inl (I .int, 40, .inl f19608)), (q19526, .inl (I .int, 40, .inl f19609)), (q19527, .inl (I .int, 920, .inl f19551)), (q19528, .inl (I .int, 920, .inl f19552)), (q19529, .inl (I .int, 920, .inl f19553)), (q19530, .inl (I .int, 920, .inl f19554)), (q19531, .inl (I .int, 920, .inl f19555)), (q19532, .inl (I .int, 920, .inl f19556))]) (cs' := 0) (sl' := 0) rfl rfl rfl ?_
    refine G_if_eq 44 d_cX0_openLike_17 (by decide +kernel) (fun hc19611 => ?_) (fun hc19611 => ?_)
    · have r19612 : o19605.toInt = 0 := gj_eq hc19611 (show Int32.toInt 0 = 0 by decide)
      have bo19605' : gB o19605 0 0 := ⟨by omega, by omega⟩
      refine G_sub (ws' := [(q19522, .inr (5, [.ref q19524, .ref q19525, .ref q19526, .ref q19527, .ref q19528, .ref q19529, .ref q19530, .ref q19531, .ref q19532, .int o19606, .int p19543, .int p19544])), (q19523, .inr (5, [.ref q19533, .ref q19534, .ref q19535, .ref q19536, .ref q19537, .ref q19538, .ref q19539, .ref q19540, .ref q19541, .int p19545, .int p19546, .int p19547])), (q19524, .inl (I .int, 40, .inl f19607)), (q19525, .inl (I .int, 40, .inl f19608)), (q19526, .inl (I .int, 40, .inl f19609)), (q19527, .inl (I .int, 920, .inl f19551)), (q19528, .inl (I .int, 920, .inl f19552)), (q19529, .inl (I .int, 920, .inl f19553)), (q19530, .inl (I .int, 920, .inl f19554)), (q19531, .inl (I .int, 920, .inl f19555)), (q19532, .inl (I .int, 920, .inl f19556)), (q19533, .inl (I .int, 40, .inl f19557)), (q19534, .inl (I .int, 40, .inl f19558)), (q19535, .inl (I .int, 40, .inl f19559)), (q19536, .inl (I .int, 200, .inl f19560)), (q19537, .inl (I .int, 200, .inl f19561)), (q19538, .inl (I .int, 200, .inl f19562)), (q19539, .inl (I .int, 200, .inl f19563)), (q19540, .inl (I .int, 200, .inl f19564)), (q19541, .inl (I .int, 200, .inl f19565))]) [10, 0, 11, 12, 13, 14, 15, 16, 17, 18, 19, 1, 2, 3, 4, 5, 6, 7, 8, 9] rfl rfl ?_
      exact G_vret d_cX0_openLike_44 rfl (Nat.le_of_ble_eq_true rfl) (Nat.le_of_ble_eq_true rfl) ⟨o19606, f19607, f19608, f19609, rfl, rfl, (gB_w bo19606 (by decide) (by decide)), bf19607, bf19608, bf19609, (fun R c1 c2 c3 => c2 o19605 o19606 f19607 f19608 f19609 r19569 bo19605 bo19606 ht19610 r19612)⟩
    · have r19613 : o19605.toInt ≠ 0 := gj_neq hc19611 (show Int32.toInt 0 = 0 by decide)
      have bo19605' : gB o19605 1 1 := ⟨by omega, by omega⟩
      refine G_aload_n 1 d_cX0_openLike_20 rfl ?_
      refine G_getf 10 1 d_cX0_openLike_21 rfl (gk_X0 D I) (Nat.le_of_ble_eq_true rfl) w_1_149 rfl ?_
      refine G_iload_n 0 d_cX0_openLike_24 rfl ?_
      refine G_aload_n 2 d_cX0_openLike_25 rfl ?_
      refine G_getf 0 1 d_cX0_openLike_26 rfl (gk_X0 D I) (Nat.le_of_ble_eq_true rfl) w_1_149 rfl ?_
      refine G_iload_n 0 d_cX0_openLike_29 rfl ?_
      refine G_iald 2 0 d_cX0_openLike_30 rfl rfl (gB_in bp19542' (by decide) (by decide)) (G_nam fun z19614 hz19614 => ?_)
      have bz19614 : gB z19614 (-2147483648) 2147483647 := gB_any z19614
      refine G_iastN 12 0 d_cX0_openLike_31 rfl rfl (gB_in bp19542' (by decide) (by decide)) (fun f19615 hf19615 => ?_)
      refine G_ws (ws' := [(q19523, .inr (5, [.ref q19533, .ref q19534, .ref q19535, .ref q19536, .ref q19537, .ref q19538, .ref q19539, .ref q19540, .ref q19541, .int p19545, .int p19546, .int p19547])), (q19533, .inl (I .int, 40, .inl f19557)), (q19534, .inl (I .int, 40, .inl f19558)), (q19535, .inl (I .int, 40, .inl f19559)), (q19536, .inl (I .int, 200, .inl f19560)), (q19537, .inl (I .int, 200, .inl f19561)), (q19538, .inl (I .int, 200, .inl f19562)), (q19539, .inl (I .int, 200, .inl f19563)), (q19540, .inl (I .int, 200, .inl f19564)), (q19541, .inl (I .int, 200, .inl f19565)), (q19522, .inr (5, [.ref q19524, .ref q19525, .ref q19526, .ref q19527, .ref q19528, .ref q19529, .ref q19530, .ref q19531, .ref q19532, .int o19606, .int p19543, .int p19544])), (q19524, .inl (I .int, 40, .inl f19607)), (q19525, .inl (I .int, 40, .inl f19615)), (q19526, .inl (I .int, 40, .inl f19609)), (q19527, .inl (I .int, 920, .inl f19551)), (q19528, .inl (I .int, 920, .inl f19552)), (q19529, .inl (I .int, 920, .inl f19553)), (q19530, .inl (I .int, 920, .inl f19554)), (q19531, .inl (I .int, 920, .inl f19555)), (q19532, .inl (I .int, 920, .inl f19556))]) (cs' := 0) (sl' := 0) rfl rfl rfl ?_
      refine G_aload_n 1 d_cX0_openLike_32 rfl ?_
      refine G_getf 10 2 d_cX0_openLike_33 rfl (gk_X0 D I) (Nat.le_of_ble_eq_true rfl) w_1_154 rfl ?_
      refine G_iload_n 0 d_cX0_openLike_36 rfl ?_
      refine G_aload_n 2 d_cX0_openLike_37 rfl ?_
      refine G_getf 0 2 d_cX0_openLike_38 rfl (gk_X0 D I) (Nat.le_of_ble_eq_true rfl) w_1_154 rfl ?_
      refine G_iload_n 0 d_cX0_openLike_41 rfl ?_
      refine G_iald 3 0 d_cX0_openLike_42 rfl rfl (gB_in bp19542' (by decide) (by decide)) (G_nam fun z19616 hz19616 => ?_)
      have bz19616 : gB z19616 (-2147483648) 2147483647 := gB_any z19616
      refine G_iastN 13 0 d_cX0_openLike_43 rfl rfl (gB_in bp19542' (by decide) (by decide)) (fun f19617 hf19617 => ?_)
      refine G_ws (ws' := [(q19523, .inr (5, [.ref q19533, .ref q19534, .ref q19535, .ref q19536, .ref q19537, .ref q19538, .ref q19539, .ref q19540, .ref q19541, .int p19545, .int p19546, .int p19547])), (q19533, .inl (I .int, 40, .inl f19557)), (q19534, .inl (I .int, 40, .inl f19558)), (q19535, .inl (I .int, 40, .inl f19559)), (q19536, .inl (I .int, 200, .inl f19560)), (q19537, .inl (I .int, 200, .inl f19561)), (q19538, .inl (I .int, 200, .inl f19562)), (q19539, .inl (I .int, 200, .inl f19563)), (q19540, .inl (I .int, 200, .inl f19564)), (q19541, .inl (I .int, 200, .inl f19565)), (q19522, .inr (5, [.ref q19524, .ref q19525, .ref q19526, .ref q19527, .ref q19528, .ref q19529, .ref q19530, .ref q19531, .ref q19532, .int o19606, .int p19543, .int p19544])), (q19524, .inl (I .int, 40, .inl f19607)), (q19525, .inl (I .int, 40, .inl f19615)), (q19526, .inl (I .int, 40, .inl f19617)), (q19527, .inl (I .int, 920, .inl f19551)), (q19528, .inl (I .int, 920, .inl f19552)), (q19529, .inl (I .int, 920, .inl f19553)), (q19530, .inl (I .int, 920, .inl f19554)), (q19531, .inl (I .int, 920, .inl f19555)), (q19532, .inl (I .int, 920, .inl f19556))]) (cs' := 0) (sl' := 0) rfl rfl rfl ?_
      refine G_sub (ws' := [(q19522, .inr (5, [.ref q19524, .ref q19525, .ref q19526, .ref q19527, .ref q19528, .ref q19529, .ref q19530, .ref q19531, .ref q19532, .int o19606, .int p19543, .int p19544])), (q19523, .inr (5, [.ref q19533, .ref q19534, .ref q19535, .ref q19536, .ref q19537, .ref q19538, .ref q19539, .ref q19540, .ref q19541, .int p19545, .int p19546, .int p19547])), (q19524, .inl (I .int, 40, .inl f19607)), (q19525, .inl (I .int, 40, .inl f19615)), (q19526, .inl (I .int, 40, .inl f19617)), (q19527, .inl (I .int, 920, .inl f19551)), (q19528, .inl (I .int, 920, .inl f19552)), (q19529, .inl (I .int, 920, .inl f19553)), (q19530, .inl (I .int, 920, .inl f19554)), (q19531, .inl (I .int, 920, .inl f19555)), (q19532, .inl (I .int, 920, .inl f19556)), (q19533, .inl (I .int, 40, .inl f19557)), (q19534, .inl (I .int, 40, .inl f19558)), (q19535, .inl (I .int, 40, .inl f19559)), (q19536, .inl (I .int, 200, .inl f19560)), (q19537, .inl (I .int, 200, .inl f19561)), (q19538, .inl (I .int, 200, .inl f19562)), (q19539, .inl (I .int, 200, .inl f19563)), (q19540, .inl (I .int, 200, .inl f19564)), (q19541, .inl (I .int, 200, .inl f19565))]) [10, 0, 11, 12, 13, 14, 15, 16, 17, 18, 19, 1, 2, 3, 4, 5, 6, 7, 8, 9] rfl rfl ?_
      exact G_vret d_cX0_openLike_44 rfl (Nat.le_of_ble_eq_true rfl) (Nat.le_of_ble_eq_true rfl) ⟨o19606, f19607, f19615, f19617, rfl, rfl, (gB_w bo19606 (by decide) (by decide)), bf19607, (gF_any f19615), (gF_any f19617), (fun R c1 c2 c3 => c3 o19605 o19606 f19607 f19608 f19609 z19614 f19615 z19616 f19617 r19569 bo19605 bo19606 ht19610 r19613 hz19614 hf19615 hz19616 hf19617)⟩
/- tr_Live_isLiveBefore: result -/
def tr_Live_isLiveBefore (a1 : Int32) (a2 : Int32) (Live_names : Int32) (Live_words : Int32) (Live_in : Nat → Int64) (o1 : Int32) : Prop := ∀ R : (Int32) → Prop,
  (tr_Live_isName a2 Live_names (0 : Int32) → R (0 : Int32)) →
  (tr_Live_isName a2 Live_names (1 : Int32) → a1.toInt < 0 → R (0 : Int32)) →
  (tr_Live_isName a2 Live_names (1 : Int32) → 0 ≤ a1.toInt → 40 ≤ a1.toInt → R (0 : Int32)) →
  (∀ (x1 : Int32) (x2 : Int32) (x3 : Int32) (x4 : Int64) (x5 : Int64) (x6 : Int64), tr_Live_isName a2 Live_names (1 : Int32) → 0 ≤ a1.toInt → a1.toInt < 40 → x1.toInt = a1.toInt * Live_words.toInt → x2.toInt = a2.toInt / 64 → x3.toInt = x1.toInt + x2.toInt → x4 = Live_in x3.toNatClampNeg → x5 = x4 >>> (a2.toInt64 &&& 63) → x6 = x5 &&& (1 : Int64) → x6 = (0 : Int64) → R (0 : Int32)) →
  (∀ (x1 : Int32) (x2 : Int32) (x3 : Int32) (x4 : Int64) (x5 : Int64) (x6 : Int64), tr_Live_isName a2 Live_names (1 : Int32) → 0 ≤ a1.toInt → a1.toInt < 40 → x1.toInt = a1.toInt * Live_words.toInt → x2.toInt = a2.toInt / 64 → x3.toInt = x1.toInt + x2.toInt → x4 = Live_in x3.toNatClampNeg → x5 = x4 >>> (a2.toInt64 &&& 63) → x6 = x5 &&& (1 : Int64) → (¬ x6 = (0 : Int64)) → R (1 : Int32)) →
  R o1
abbrev ky_19748_Live_isLiveBefore : gKey := (cX5_isLiveBefore, 3, yX5_isLiveBefore.cls, (some FieldType.boolean), [], yX5_isLiveBefore.name, fun _ _ => True)
abbrev po_19748_Live_isLiveBefore (I : FieldType → ClassId) (q19733 : Nat) (q19734 : Nat) (q19735 : Nat) (q19736 : Nat) (q19737 : Nat) (p19738 : Int32) (p19739 : Int32) (p19740 : Int32) (p19741 : Int32) (p19742 : Int32) (f19743 : Nat → Int64) (f19744 : Nat → Int64) (f19745 : Nat → Int64) (f19746 : Nat → Int64) : Option Value → va_W → Prop := fun r w => (r = some (.int 0) ∧ w = [(q19733, .inr (10, [.ref q19734, .ref q19735, .ref q19736, .ref q19737, .int p19740, .int p19741, .int p19742])), (q19734, .inl (I .long, 480, .inr (.inl f19743))), (q19735, .inl (I .long, 480, .inr (.inl f19744))), (q19736, .inl (I .long, 480, .inr (.inl f19745))), (q19737, .inl (I .long, 12, .inr (.inl f19746)))] ∧ p19739.toInt < 0 ∧ tr_Live_isLiveBefore p19738 p19739 p19740 p19741 f19743 (0 : Int32)) ∨ (r = some (.int 0) ∧ w = [(q19733, .inr (10, [.ref q19734, .ref q19735, .ref q19736, .ref q19737, .int p19740, .int p19741, .int p19742])), (q19734, .inl (I .long, 480, .inr (.inl f19743))), (q19735, .inl (I .long, 480, .inr (.inl f19744))), (q19736, .inl (I .long, 480, .inr (.inl f19745))), (q19737, .inl (I .long, 12, .inr (.inl f19746)))] ∧ 0 ≤ p19739.toInt ∧ p19740.toInt ≤ p19739.toInt ∧ tr_Live_isLiveBefore p19738 p19739 p19740 p19741 f19743 (0 : Int32)) ∨ (r = some (.int 0) ∧ w = [(q19733, .inr (10, [.ref q19734, .ref q19735, .ref q19736, .ref q19737, .int p19740, .int p19741, .int p19742])), (q19734, .inl (I .long, 480, .inr (.inl f19743))), (q19735, .inl (I .long, 480, .inr (.inl f19744))), (q19736, .inl (I .long, 480, .inr (.inl f19745))), (q19737, .inl (I .long, 12, .inr (.inl f19746)))] ∧ 0 ≤ p19739.toInt ∧ p19739.toInt < p19740.toInt ∧ p19738.toInt < 0 ∧ tr_Live_isLiveBefore p19738 p19739 p19740 p19741 f19743 (0 : Int32)) ∨ (r = some (.int 0) ∧ w = [(q19733, .inr (10, [.ref q19734, .ref q19735, .ref q19736, .ref q19737, .int p19740, .int p19741, .int p19742])), (q19734, .inl (I .long, 480, .inr (.inl f19743))), (q19735, .inl (I .long, 480, .inr (.inl f19744))), (q19736, .inl (I .long, 480, .inr (.inl f19745))), (q19737, .inl (I .long, 12, .inr (.inl f19746)))] ∧ 0 ≤ p19739.toInt ∧ p19739.toInt < p19740.toInt ∧ 0 ≤ p19738.toInt ∧ 40 ≤ p19738.toInt ∧ tr_Live_isLiveBefore p19738 p19739 p19740 p19741 f19743 (0 : Int32)) ∨ (∃ (z19763 : Int32) (z19764 : Int32) (z19765 : Int32) (z19769 : Int32), r = some (.int 0) ∧ w = [(q19733, .inr (10, [.ref q19734, .ref q19735, .ref q19736, .ref q19737, .int p19740, .int p19741, .int p19742])), (q19734, .inl (I .long, 480, .inr (.inl f19743))), (q19735, .inl (I .long, 480, .inr (.inl f19744))), (q19736, .inl (I .long, 480, .inr (.inl f19745))), (q19737, .inl (I .long, 12, .inr (.inl f19746)))] ∧ 0 ≤ p19739.toInt ∧ p19739.toInt < p19740.toInt ∧ 0 ≤ p19738.toInt ∧ p19738.toInt < 40 ∧ z19763.toInt = p19738.toInt * p19741.toInt ∧ z19764.toInt = p19739.toInt / 64 ∧ z19765.toInt = z19763.toInt + z19764.toInt ∧ z19769.toInt = 0 ∧ gB z19763 0 468 ∧ gB z19764 0 11 ∧ gB z19765 0 479 ∧ gB z19769 0 0 ∧ tr_Live_isLiveBefore p19738 p19739 p19740 p19741 f19743 (0 : Int32)) ∨ (∃ (z19763 : Int32) (z19764 : Int32) (z19765 : Int32) (z19769 : Int32), r = some (.int 1) ∧ w = [(q19733, .inr (10, [.ref q19734, .ref q19735, .ref q19736, .ref q19737, .int p19740, .int p19741, .int p19742])), (q19734, .inl (I .long, 480, .inr (.inl f19743))), (q19735, .inl (I .long, 480, .inr (.inl f19744))), (q19736, .inl (I .long, 480, .inr (.inl f19745))), (q19737, .inl (I .long, 12, .inr (.inl f19746)))] ∧ 0 ≤ p19739.toInt ∧ p19739.toInt < p19740.toInt ∧ 0 ≤ p19738.toInt ∧ p19738.toInt < 40 ∧ z19763.toInt = p19738.toInt * p19741.toInt ∧ z19764.toInt = p19739.toInt / 64 ∧ z19765.toInt = z19763.toInt + z19764.toInt ∧ z19769.toInt ≠ 0 ∧ gB z19763 0 468 ∧ gB z19764 0 11 ∧ gB z19765 0 479 ∧ gB z19769 (-1) 1 ∧ tr_Live_isLiveBefore p19738 p19739 p19740 p19741 f19743 (1 : Int32))
set_option maxRecDepth 100000 in
set_option maxHeartbeats 4000000 in
theorem ct_19748_Live_isLiveBefore (l : Launch) (hl0 : l.stackTraces = false) (D : va_G) (I : FieldType → ClassId) (q19733 : Nat) (q19734 : Nat) (q19735 : Nat) (q19736 : Nat) (q19737 : Nat) (p19738 : Int32) (p19739 : Int32) (p19740 : Int32) (p19741 : Int32) (p19742 : Int32) (f19743 : Nat → Int64) (f19744 : Nat → Int64) (f19745 : Nat → Int64) (f19746 : Nat → Int64) (bp19740 : gB p19740 0 720) (bp19741 : gB p19741 0 12) (bp19742 : gB p19742 0 1) (x19747 : p19741.toInt = (p19740.toInt + 63) / 64) : Ct (gV D I) l yX5_isLiveBefore cX5_isLiveBefore 3 (some FieldType.boolean) 1 21 0 0 [.ref q19733, .int p19738, .int p19739] [(q19733, .inr (10, [.ref q19734, .ref q19735, .ref q19736, .ref q19737, .int p19740, .int p19741, .int p19742])), (q19734, .inl (I .long, 480, .inr (.inl f19743))), (q19735, .inl (I .long, 480, .inr (.inl f19744))), (q19736, .inl (I .long, 480, .inr (.inl f19745))), (q19737, .inl (I .long, 12, .inr (.inl f19746)))] (po_19748_Live_isLiveBefore I q19733 q19734 q19735 q19736 q19737 p19738 p19739 p19740 p19741 p19742 f19743 f19744 f19745 f19746) gN := by
  refine Ct_of hl0 (by decide) (Nat.le_of_ble_eq_true rfl) ?_
  have bp19738 := gB_any p19738
  have bp19739 := gB_any p19739
  refine G_aload_n 0 d_cX5_isLiveBefore_0 rfl ?_
  refine G_iload_n 2 d_cX5_isLiveBefore_1 rfl ?_
  refine G_callV (As := [.int p19739]) (wr := []) (gV_ok D I) (ct_13403_Live_isName l hl0 D I q19733 q19734 q19735 q19736 q19737 p19739 p19740 p19741 p19742 f19743 f19744 f19745 f19746 bp19740 bp19741 bp19742 (by omega)) d_cX5_isLiveBefore_2 ⟨w_4_56, w_1_10, w_4_59, by decide, rfl, (Nat.le_of_ble_eq_true rfl), (Nat.le_of_ble_eq_true rfl)⟩ w_4_57 w_4_58 0 rfl rfl [0, 1, 2, 3, 4] [] rfl rfl rfl rfl (by decide) (Nat.le_of_ble_eq_true rfl) (Nat.le_of_ble_eq_true rfl) (Nat.le_of_ble_eq_true rfl) (fun r w hp => ?_) (fun _ _ _ z => z.elim)
  rcases hp with ⟨rfl, rfl, r19749, r19750⟩ | ⟨rfl, rfl, r19751, r19752, r19753⟩ | ⟨rfl, rfl, r19754, r19755, r19756⟩
  · have bp19739' : gB p19739 (-2147483648) (-1) := ⟨by omega, by omega⟩
    change G _ _ _ _ _ _ _ (.int 0 :: _) _ _ _
    refine G_ws (ws' := [(q19733, .inr (10, [.ref q19734, .ref q19735, .ref q19736, .ref q19737, .int p19740, .int p19741, .int p19742])), (q19734, .inl (I .long, 480, .inr (.inl f19743))), (q19735, .inl (I .long, 480, .inr (.inl f19744))), (q19736, .inl (I .long, 480, .inr (.inl f19745))), (q19737, .inl (I .long, 12, .inr (.inl f19746)))]) (cs' := 0) (sl' := 0) rfl rfl rfl ?_
    refine G_if_eq 47 d_cX5_isLiveBefore_5 (by decide +kernel) (fun _ => ?_) (fun hc => absurd hc (by decide))
    refine G_iconst 0 d_cX5_isLiveBefore_47 (by decide +kernel) ?_
    exact G_zret FieldType.boolean d_cX5_isLiveBefore_48 rfl rfl (Nat.le_of_ble_eq_true rfl) (Nat.le_of_ble_eq_true rfl) (Or.inl ⟨rfl, rfl, r19749, (fun R c1 c2 c3 c4 c5 => c1 r19750)⟩)
  · have bp19739' : gB p19739 0 2147483647 := ⟨by omega, by omega⟩
    change G _ _ _ _ _ _ _ (.int 0 :: _) _ _ _
    refine G_ws (ws' := [(q19733, .inr (10, [.ref q19734, .ref q19735, .ref q19736, .ref q19737, .int p19740, .int p19741, .int p19742])), (q19734, .inl (I .long, 480, .inr (.inl f19743))), (q19735, .inl (I .long, 480, .inr (.inl f19744))), (q19736, .inl (I .long, 480, .inr (.inl f19745))), (q19737, .inl (I .long, 12, .inr (.inl f19746)))]) (cs' := 0) (sl' := 0) rfl rfl rfl ?_
    refine G_if_eq 47 d_cX5_isLiveBefore_5 (by decide +kernel) (fun _ => ?_) (fun hc => absurd hc (by decide))
    refine G_iconst 0 d_cX5_isLiveBefore_47 (by decide +kernel) ?_
    exact G_zret FieldType.boolean d_cX5_isLiveBefore_48 rfl rfl (Nat.le_of_ble_eq_true rfl) (Nat.le_of_ble_eq_true rfl) (Or.inr (Or.inl ⟨rfl, rfl, r19751, r19752, (fun R c1 c2 c3 c4 c5 => c1 r19753)⟩))
  · have bp19739' : gB p19739 0 2147483647 := ⟨by omega, by omega⟩
    have bp19739'' : gB p19739 0 719 := ⟨by omega, by omega⟩
    have bp19740' : gB p19740 1 720 := ⟨by omega, by omega⟩
    change G _ _ _ _ _ _ _ (.int 1 :: _) _ _ _
    refine G_ws (ws' := [(q19733, .inr (10, [.ref q19734, .ref q19735, .ref q19736, .ref q19737, .int p19740, .int p19741, .int p19742])), (q19734, .inl (I .long, 480, .inr (.inl f19743))), (q19735, .inl (I .long, 480, .inr (.inl f19744))), (q19736, .inl (I .long, 480, .inr (.inl f19745))), (q19737, .inl (I .long, 12, .inr (.inl f19746)))]) (cs' := 0) (sl' := 0) rfl rfl rfl ?_
    refine G_if_eq 47 d_cX5_isLiveBefore_5 (by decide +kernel) (fun hc => absurd hc (by decide)) (fun _ => ?_)
    refine G_iload_n 1 d_cX5_isLiveBefore_8 rfl ?_
    refine G_if_lt 47 d_cX5_isLiveBefore_9 (by decide +kernel) (fun hc19757 => ?_) (fun hc19757 => ?_)
    · have r19758 : p19738.toInt < 0 := gj_lt hc19757 (show Int32.toInt 0 = 0 by decide)
      have bp19738' : gB p19738 (-2147483648) (-1) := ⟨by omega, by omega⟩
      refine G_iconst 0 d_cX5_isLiveBefore_47 (by decide +kernel) ?_
      exact G_zret FieldType.boolean d_cX5_isLiveBefore_48 rfl rfl (Nat.le_of_ble_eq_true rfl) (Nat.le_of_ble_eq_true rfl) (Or.inr (Or.inr (Or.inl ⟨rfl, rfl, r19754, r19755, r19758, (fun R c1 c2 c3 c4 c5 => c2 r19756 r19758)⟩)))
    · have r19759 : 0 ≤ p19738.toInt := gj_nlt hc19757 (show Int32.toInt 0 = 0 by decide)
      have bp19738' : gB p19738 0 2147483647 := ⟨by omega, by omega⟩
      refine G_iload_n 1 d_cX5_isLiveBefore_12 rfl ?_
      refine G_bipush 40 d_cX5_isLiveBefore_13 (by decide +kernel) ?_
      refine G_icmp_ge 47 d_cX5_isLiveBefore_15 (by decide +kernel) (fun hc19760 => ?_) (fun hc19760 => ?_)
      · have r19761 : 40 ≤ p19738.toInt := gj_leL hc19760 (show Int32.toInt 40 = 40 by decide)
        have bp19738'' : gB p19738 40 2147483647 := ⟨by omega, by omega⟩
        refine G_iconst 0 d_cX5_isLiveBefore_47 (by decide +kernel) ?_
        exact G_zret FieldType.boolean d_cX5_isLiveBefore_48 rfl rfl (Nat.le_of_ble_eq_true rfl) (Nat.le_of_ble_eq_true rfl) (Or.inr (Or.inr (Or.inr (Or.inl ⟨rfl, rfl, r19754, r19755, r19759, r19761, (fun R c1 c2 c3 c4 c5 => c3 r19756 r19759 r19761)⟩))))
      · have r19762 : p19738.toInt < 40 := gj_nleL hc19760 (show Int32.toInt 40 = 40 by decide)
        have bp19738'' : gB p19738 0 39 := ⟨by omega, by omega⟩
        refine G_aload_n 0 d_cX5_isLiveBefore_18 rfl ?_
        refine G_getf 0 0 d_cX5_isLiveBefore_19 rfl (gk_X5 D I) (Nat.le_of_ble_eq_true rfl) w_2_22 rfl ?_
        refine G_iload_n 1 d_cX5_isLiveBefore_22 rfl ?_
        refine G_aload_n 0 d_cX5_isLiveBefore_23 rfl ?_
        refine G_getf 0 5 d_cX5_isLiveBefore_24 rfl (gk_X5 D I) (Nat.le_of_ble_eq_true rfl) w_2_29 rfl ?_
        refine G_imul d_cX5_isLiveBefore_27 (G_nam fun z19763 hz19763 => ?_)
        have ez19763 : z19763.toInt = p19738.toInt * p19741.toInt := by rw [gI_mul hz19763 bp19738'' bp19741 (by decide) (by decide) (by decide)]
        have bz19763 : gB z19763 0 468 := gB_mul hz19763 bp19738'' bp19741 (by decide) (by decide) (by decide) (by decide)
        refine G_iload_n 2 d_cX5_isLiveBefore_28 rfl ?_
        refine G_bipush 6 d_cX5_isLiveBefore_29 (by decide +kernel) ?_
        refine G_ishr d_cX5_isLiveBefore_31 (G_nam fun z19764 hz19764 => ?_)
        have ez19764 : z19764.toInt = p19739.toInt / 64 := gI_shr (k := 6) hz19764 (by decide)
        have bz19764 : gB z19764 0 11 := ⟨by omega, by omega⟩
        refine G_iadd d_cX5_isLiveBefore_32 (G_nam fun z19765 hz19765 => ?_)
        have ez19765 : z19765.toInt = z19763.toInt + z19764.toInt := by rw [gI_add hz19765 bz19763 bz19764 (by decide) (by decide)]
        have bz19765 : gB z19765 0 479 := gB_add (gI_add hz19765 bz19763 bz19764 (by decide) (by decide)) bz19763 bz19764 (by decide) (by decide)
        refine G_lald 1 2 d_cX5_isLiveBefore_33 rfl rfl (gB_in bz19765 (by decide) (by decide)) (G_namL fun u19766 hu19766 => ?_)
        refine G_iload_n 2 d_cX5_isLiveBefore_34 rfl ?_
        refine G_lshr d_cX5_isLiveBefore_35 (G_namL fun u19767 hu19767 => ?_)
        refine G_lconst 1 d_cX5_isLiveBefore_36 rfl ?_
        refine G_land d_cX5_isLiveBefore_37 (G_namL fun u19768 hu19768 => ?_)
        refine G_lconst 0 d_cX5_isLiveBefore_38 rfl ?_
        refine G_lcmp d_cX5_isLiveBefore_39 (G_nam fun z19769 hz19769 => ?_)
        have bz19769 : gB z19769 (-1) 1 := gB_cmp hz19769
        refine G_if_eq 47 d_cX5_isLiveBefore_40 (by decide +kernel) (fun hc19770 => ?_) (fun hc19770 => ?_)
        · have r19771 : z19769.toInt = 0 := gj_eq hc19770 (show Int32.toInt 0 = 0 by decide)
          have bz19769' : gB z19769 0 0 := ⟨by omega, by omega⟩
          have lhc19770 := gC_cmpE hz19769 hc19770
          refine G_iconst 0 d_cX5_isLiveBefore_47 (by decide +kernel) ?_
          exact G_zret FieldType.boolean d_cX5_isLiveBefore_48 rfl rfl (Nat.le_of_ble_eq_true rfl) (Nat.le_of_ble_eq_true rfl) (Or.inr (Or.inr (Or.inr (Or.inr (Or.inl ⟨z19763, z19764, z19765, z19769, rfl, rfl, r19754, r19755, r19759, r19762, ez19763, ez19764, ez19765, r19771, bz19763, bz19764, bz19765, bz19769', (fun R c1 c2 c3 c4 c5 => c4 z19763 z19764 z19765 u19766 u19767 u19768 r19756 r19759 r19762 ez19763 ez19764 ez19765 hu19766 hu19767 hu19768 lhc19770)⟩)))))
        · have r19772 : z19769.toInt ≠ 0 := gj_neq hc19770 (show Int32.toInt 0 = 0 by decide)
          have lhc19770 := gC_cmpN hz19769 hc19770
          refine G_iconst 1 d_cX5_isLiveBefore_43 (by decide +kernel) ?_
          refine G_goto 48 d_cX5_isLiveBefore_44 (by decide +kernel) ?_
          exact G_zret FieldType.boolean d_cX5_isLiveBefore_48 rfl rfl (Nat.le_of_ble_eq_true rfl) (Nat.le_of_ble_eq_true rfl) (Or.inr (Or.inr (Or.inr (Or.inr (Or.inr (⟨z19763, z19764, z19765, z19769, rfl, rfl, r19754, r19755, r19759, r19762, ez19763, ez19764, ez19765, r19772, bz19763, bz19764, bz19765, bz19769, (fun R c1 c2 c3 c4 c5 => c5 z19763 z19764 z19765 u19766 u19767 u19768 r19756 r19759 r19762 ez19763 ez19764 ez19765 hu19766 hu19767 hu19768 lhc19770)⟩))))))
/- tr_Code_add2: Code_lines, Code_op, Code_set, Code_left, Code_leftNumber, Code_right, Code_rightNumber, Code_isFull -/
def tr_Code_add2 (a1 : Int32) (a2 : Int32) (a3 : Int32) (a4 : Int32) (a5 : Int32) (a6 : Int32) (Code_lines : Int32) (Code_isFull : Int32) (Code_op : Nat → Int32) (Code_set : Nat → Int32) (Code_left : Nat → Int32) (Code_leftNumber : Nat → Int32) (Code_right : Nat → Int32) (Code_rightNumber : Nat → Int32) (o1 : Int32) (o2 : Nat → Int32) (o3 : Nat → Int32) (o4 : Nat → Int32) (o5 : Nat → Int32) (o6 : Nat → Int32) (o7 : Nat → Int32) (o8 : Int32) : Prop := ∀ R : (Int32) → (Nat → Int32) → (Nat → Int32) → (Nat → Int32) → (Nat → Int32) → (Nat → Int32) → (Nat → Int32) → (Int32) → Prop,
  (∀ (x1 : Nat → Int32) (x2 : Nat → Int32) (x3 : Nat → Int32) (x4 : Nat → Int32) (x5 : Nat → Int32) (x6 : Nat → Int32) (x7 : Int32), Code_lines.toInt < 920 → x1 = upd Code_op Code_lines.toNatClampNeg a1 → x2 = upd Code_set Code_lines.toNatClampNeg a2 → x3 = upd Code_left Code_lines.toNatClampNeg a3 → x4 = upd Code_leftNumber Code_lines.toNatClampNeg a4 → x5 = upd Code_right Code_lines.toNatClampNeg a5 → x6 = upd Code_rightNumber Code_lines.toNatClampNeg a6 → x7.toInt = Code_lines.toInt + 1 → R x7 x1 x2 x3 x4 x5 x6 Code_isFull) →
  (920 ≤ Code_lines.toInt → R Code_lines Code_op Code_set Code_left Code_leftNumber Code_right Code_rightNumber (1 : Int32)) →
  R o1 o2 o3 o4 o5 o6 o7 o8
abbrev ky_19849_Code_add : gKey := (cX0_add, 7, yX0_add.cls, none, [], yX0_add.name, fun _ _ => True)
abbrev po_19849_Code_add (I : FieldType → ClassId) (q19821 : Nat) (q19822 : Nat) (q19823 : Nat) (q19824 : Nat) (q19825 : Nat) (q19826 : Nat) (q19827 : Nat) (q19828 : Nat) (q19829 : Nat) (q19830 : Nat) (p19831 : Int32) (p19832 : Int32) (p19833 : Int32) (p19834 : Int32) (p19835 : Int32) (p19836 : Int32) (p19837 : Int32) (p19838 : Int32) (p19839 : Int32) (f19840 : Nat → Int32) (f19841 : Nat → Int32) (f19842 : Nat → Int32) (f19843 : Nat → Int32) (f19844 : Nat → Int32) (f19845 : Nat → Int32) (f19846 : Nat → Int32) (f19847 : Nat → Int32) (f19848 : Nat → Int32) : Option Value → va_W → Prop := fun r w => ∃ (o19860 : Int32) (f19861 : Nat → Int32) (f19862 : Nat → Int32) (f19863 : Nat → Int32) (f19864 : Nat → Int32) (f19865 : Nat → Int32) (f19866 : Nat → Int32) (o19867 : Int32), r = none ∧ w = [(q19821, .inr (5, [.ref q19822, .ref q19823, .ref q19824, .ref q19825, .ref q19826, .ref q19827, .ref q19828, .ref q19829, .ref q19830, .int p19837, .int o19860, .int o19867])), (q19822, .inl (I .int, 40, .inl f19840)), (q19823, .inl (I .int, 40, .inl f19841)), (q19824, .inl (I .int, 40, .inl f19842)), (q19825, .inl (I .int, 920, .inl f19861)), (q19826, .inl (I .int, 920, .inl f19862)), (q19827, .inl (I .int, 920, .inl f19863)), (q19828, .inl (I .int, 920, .inl f19864)), (q19829, .inl (I .int, 920, .inl f19865)), (q19830, .inl (I .int, 920, .inl f19866))] ∧ gB o19860 1 920 ∧ gF f19861 0 21 ∧ gF f19862 (-2147483648) 2147483647 ∧ gF f19863 (-2147483648) 2147483647 ∧ gF f19864 (-2147483648) 2147483647 ∧ gF f19865 (-2147483648) 2147483647 ∧ gF f19866 (-2147483648) 2147483647 ∧ gB o19867 0 1 ∧ tr_Code_add2 p19831 p19832 p19833 p19834 p19835 p19836 p19838 p19839 f19843 f19844 f19845 f19846 f19847 f19848 o19860 f19861 f19862 f19863 f19864 f19865 f19866 o19867
set_option maxRecDepth 100000 in
set_option maxHeartbeats 4000000 in
theorem ct_19849_Code_add (l : Launch) (hl0 : l.stackTraces = false) (D : va_G) (I : FieldType → ClassId) (q19821 : Nat) (q19822 : Nat) (q19823 : Nat) (q19824 : Nat) (q19825 : Nat) (q19826 : Nat) (q19827 : Nat) (q19828 : Nat) (q19829 : Nat) (q19830 : Nat) (p19831 : Int32) (p19832 : Int32) (p19833 : Int32) (p19834 : Int32) (p19835 : Int32) (p19836 : Int32) (p19837 : Int32) (p19838 : Int32) (p19839 : Int32) (f19840 : Nat → Int32) (f19841 : Nat → Int32) (f19842 : Nat → Int32) (f19843 : Nat → Int32) (f19844 : Nat → Int32) (f19845 : Nat → Int32) (f19846 : Nat → Int32) (f19847 : Nat → Int32) (f19848 : Nat → Int32) (bp19831 : gB p19831 0 21) (bp19837 : gB p19837 0 40) (bp19838 : gB p19838 0 920) (bp19839 : gB p19839 0 1) (bf19840 : gF f19840 0 920) (bf19843 : gF f19843 0 21) : Ct (gV D I) l yX0_add cX0_add 7 none 0 0 0 0 [.ref q19821, .int p19831, .int p19832, .int p19833, .int p19834, .int p19835, .int p19836] [(q19821, .inr (5, [.ref q19822, .ref q19823, .ref q19824, .ref q19825, .ref q19826, .ref q19827, .ref q19828, .ref q19829, .ref q19830, .int p19837, .int p19838, .int p19839])), (q19822, .inl (I .int, 40, .inl f19840)), (q19823, .inl (I .int, 40, .inl f19841)), (q19824, .inl (I .int, 40, .inl f19842)), (q19825, .inl (I .int, 920, .inl f19843)), (q19826, .inl (I .int, 920, .inl f19844)), (q19827, .inl (I .int, 920, .inl f19845)), (q19828, .inl (I .int, 920, .inl f19846)), (q19829, .inl (I .int, 920, .inl f19847)), (q19830, .inl (I .int, 920, .inl f19848))] (po_19849_Code_add I q19821 q19822 q19823 q19824 q19825 q19826 q19827 q19828 q19829 q19830 p19831 p19832 p19833 p19834 p19835 p19836 p19837 p19838 p19839 f19840 f19841 f19842 f19843 f19844 f19845 f19846 f19847 f19848) gN := by
  refine Ct_of hl0 (by decide) (Nat.le_of_ble_eq_true rfl) ?_
  have bp19832 := gB_any p19832
  have bp19833 := gB_any p19833
  have bp19834 := gB_any p19834
  have bp19835 := gB_any p19835
  have bp19836 := gB_any p19836
  refine G_aload_n 0 d_cX0_add_0 rfl ?_
  refine G_getf 0 10 d_cX0_add_1 rfl (gk_X0 D I) (Nat.le_of_ble_eq_true rfl) w_1_197 rfl ?_
  refine G_aload_n 0 d_cX0_add_4 rfl ?_
  refine G_getf 0 3 d_cX0_add_5 rfl (gk_X0 D I) (Nat.le_of_ble_eq_true rfl) w_1_159 rfl ?_
  refine G_alen 920 4 0 d_cX0_add_8 rfl rfl rfl ?_
  refine G_icmp_lt 18 d_cX0_add_9 (by decide +kernel) (fun hc19850 => ?_) (fun hc19850 => ?_)
  · have r19851 : p19838.toInt < 920 := gj_lt hc19850 (show Int32.toInt 920 = 920 by decide)
    have bp19838' : gB p19838 0 919 := ⟨by omega, by omega⟩
    refine G_aload_n 0 d_cX0_add_18 rfl ?_
    refine G_getf 0 3 d_cX0_add_19 rfl (gk_X0 D I) (Nat.le_of_ble_eq_true rfl) w_1_159 rfl ?_
    refine G_aload_n 0 d_cX0_add_22 rfl ?_
    refine G_getf 0 10 d_cX0_add_23 rfl (gk_X0 D I) (Nat.le_of_ble_eq_true rfl) w_1_197 rfl ?_
    refine G_iload_n 1 d_cX0_add_26 rfl ?_
    refine G_iastN 4 0 d_cX0_add_27 rfl rfl (gB_in bp19838' (by decide) (by decide)) (fun f19852 hf19852 => ?_)
    refine G_ws (ws' := [(q19821, .inr (5, [.ref q19822, .ref q19823, .ref q19824, .ref q19825, .ref q19826, .ref q19827, .ref q19828, .ref q19829, .ref q19830, .int p19837, .int p19838, .int p19839])), (q19822, .inl (I .int, 40, .inl f19840)), (q19823, .inl (I .int, 40, .inl f19841)), (q19824, .inl (I .int, 40, .inl f19842)), (q19825, .inl (I .int, 920, .inl f19852)), (q19826, .inl (I .int, 920, .inl f19844)), (q19827, .inl (I .int, 920, .inl f19845)), (q19828, .inl (I .int, 920, .inl f19846)), (q19829, .inl (I .int, 920, .inl f19847)), (q19830, .inl (I .int, 920, .inl f19848))]) (cs' := 0) (sl' := 0) rfl rfl rfl ?_
    have bf19852 : gF f19852 0 21 := gF_upd hf19852 bf19843 bp19831
    refine G_aload_n 0 d_cX0_add_28 rfl ?_
    refine G_getf 0 4 d_cX0_add_29 rfl (gk_X0 D I) (Nat.le_of_ble_eq_true rfl) w_1_163 rfl ?_
    refine G_aload_n 0 d_cX0_add_32 rfl ?_
    refine G_getf 0 10 d_cX0_add_33 rfl (gk_X0 D I) (Nat.le_of_ble_eq_true rfl) w_1_197 rfl ?_
    refine G_iload_n 2 d_cX0_add_36 rfl ?_
    refine G_iastN 5 0 d_cX0_add_37 rfl rfl (gB_in bp19838' (by decide) (by decide)) (fun f19853 hf19853 => ?_)
    refine G_ws (ws' := [(q19821, .inr (5, [.ref q19822, .ref q19823, .ref q19824, .ref q19825, .ref q19826, .ref q19827, .ref q19828, .ref q19829, .ref q19830, .int p19837, .int p19838, .int p19839])), (q19822, .inl (I .int, 40, .inl f19840)), (q19823, .inl (I .int, 40, .inl f19841)), (q19824, .inl (I .int, 40, .inl f19842)), (q19825, .inl (I .int, 920, .inl f19852)), (q19826, .inl (I .int, 920, .inl f19853)), (q19827, .inl (I .int, 920, .inl f19845)), (q19828, .inl (I .int, 920, .inl f19846)), (q19829, .inl (I .int, 920, .inl f19847)), (q19830, .inl (I .int, 920, .inl f19848))]) (cs' := 0) (sl' := 0) rfl rfl rfl ?_
    refine G_aload_n 0 d_cX0_add_38 rfl ?_
    refine G_getf 0 5 d_cX0_add_39 rfl (gk_X0 D I) (Nat.le_of_ble_eq_true rfl) w_1_168 rfl ?_
    refine G_aload_n 0 d_cX0_add_42 rfl ?_
    refine G_getf 0 10 d_cX0_add_43 rfl (gk_X0 D I) (Nat.le_of_ble_eq_true rfl) w_1_197 rfl ?_
    refine G_iload_n 3 d_cX0_add_46 rfl ?_
    refine G_iastN 6 0 d_cX0_add_47 rfl rfl (gB_in bp19838' (by decide) (by decide)) (fun f19854 hf19854 => ?_)
    refine G_ws (ws' := [(q19821, .inr (5, [.ref q19822, .ref q19823, .ref q19824, .ref q19825, .ref q19826, .ref q19827, .ref q19828, .ref q19829, .ref q19830, .int p19837, .int p19838, .int p19839])), (q19822, .inl (I .int, 40, .inl f19840)), (q19823, .inl (I .int, 40, .inl f19841)), (q19824, .inl (I .int, 40, .inl f19842)), (q19825, .inl (I .int, 920, .inl f19852)), (q19826, .inl (I .int, 920, .inl f19853)), (q19827, .inl (I .int, 920, .inl f19854)), (q19828, .inl (I .int, 920, .inl f19846)), (q19829, .inl (I .int, 920, .inl f19847)), (q19830, .inl (I .int, 920, .inl f19848))]) (cs' := 0) (sl' := 0) rfl rfl rfl ?_
    refine G_aload_n 0 d_cX0_add_48 rfl ?_
    refine G_getf 0 6 d_cX0_add_49 rfl (gk_X0 D I) (Nat.le_of_ble_eq_true rfl) w_1_174 rfl ?_
    refine G_aload_n 0 d_cX0_add_52 rfl ?_
    refine G_getf 0 10 d_cX0_add_53 rfl (gk_X0 D I) (Nat.le_of_ble_eq_true rfl) w_1_197 rfl ?_
    refine G_iload 4 d_cX0_add_56 rfl ?_
    refine G_iastN 7 0 d_cX0_add_58 rfl rfl (gB_in bp19838' (by decide) (by decide)) (fun f19855 hf19855 => ?_)
    refine G_ws (ws' := [(q19821, .inr (5, [.ref q19822, .ref q19823, .ref q19824, .ref q19825, .ref q19826, .ref q19827, .ref q19828, .ref q19829, .ref q19830, .int p19837, .int p19838, .int p19839])), (q19822, .inl (I .int, 40, .inl f19840)), (q19823, .inl (I .int, 40, .inl f19841)), (q19824, .inl (I .int, 40, .inl f19842)), (q19825, .inl (I .int, 920, .inl f19852)), (q19826, .inl (I .int, 920, .inl f19853)), (q19827, .inl (I .int, 920, .inl f19854)), (q19828, .inl (I .int, 920, .inl f19855)), (q19829, .inl (I .int, 920, .inl f19847)), (q19830, .inl (I .int, 920, .inl f19848))]) (cs' := 0) (sl' := 0) rfl rfl rfl ?_
    refine G_aload_n 0 d_cX0_add_59 rfl ?_
    refine G_getf 0 7 d_cX0_add_60 rfl (gk_X0 D I) (Nat.le_of_ble_eq_true rfl) w_1_178 rfl ?_
    refine G_aload_n 0 d_cX0_add_63 rfl ?_
    refine G_getf 0 10 d_cX0_add_64 rfl (gk_X0 D I) (Nat.le_of_ble_eq_true rfl) w_1_197 rfl ?_
    refine G_iload 5 d_cX0_add_67 rfl ?_
    refine G_iastN 8 0 d_cX0_add_69 rfl rfl (gB_in bp19838' (by decide) (by decide)) (fun f19856 hf19856 => ?_)
    refine G_ws (ws' := [(q19821, .inr (5, [.ref q19822, .ref q19823, .ref q19824, .ref q19825, .ref q19826, .ref q19827, .ref q19828, .ref q19829, .ref q19830, .int p19837, .int p19838, .int p19839])), (q19822, .inl (I .int, 40, .inl f19840)), (q19823, .inl (I .int, 40, .inl f19841)), (q19824, .inl (I .int, 40, .inl f19842)), (q19825, .inl (I .int, 920, .inl f19852)), (q19826, .inl (I .int, 920, .inl f19853)), (q19827, .inl (I .int, 920, .inl f19854)), (q19828, .inl (I .int, 920, .inl f19855)), (q19829, .inl (I .int, 920, .inl f19856)), (q19830, .inl (I .int, 920, .inl f19848))]) (cs' := 0) (sl' := 0) rfl rfl rfl ?_
    refine G_aload_n 0 d_cX0_add_70 rfl ?_
    refine G_getf 0 8 d_cX0_add_71 rfl (gk_X0 D I) (Nat.le_of_ble_eq_true rfl) w_1_183 rfl ?_
    refine G_aload_n 0 d_cX0_add_74 rfl ?_
    refine G_getf 0 10 d_cX0_add_75 rfl (gk_X0 D I) (Nat.le_of_ble_eq_true rfl) w_1_197 rfl ?_
    refine G_iload 6 d_cX0_add_78 rfl ?_
    refine G_iastN 9 0 d_cX0_add_80 rfl rfl (gB_in bp19838' (by decide) (by decide)) (fun f19857 hf19857 => ?_)
    refine G_ws (ws' := [(q19821, .inr (5, [.ref q19822, .ref q19823, .ref q19824, .ref q19825, .ref q19826, .ref q19827, .ref q19828, .ref q19829, .ref q19830, .int p19837, .int p19838, .int p19839])), (q19822, .inl (I .int, 40, .inl f19840)), (q19823, .inl (I .int, 40, .inl f19841)), (q19824, .inl (I .int, 40, .inl f19842)), (q19825, .inl (I .int, 920, .inl f19852)), (q19826, .inl (I .int, 920, .inl f19853)), (q19827, .inl (I .int, 920, .inl f19854)), (q19828, .inl (I .int, 920, .inl f19855)), (q19829, .inl (I .int, 920, .inl f19856)), (q19830, .inl (I .int, 920, .inl f19857))]) (cs' := 0) (sl' := 0) rfl rfl rfl ?_
    refine G_aload_n 0 d_cX0_add_81 rfl ?_
    refine G_dup d_cX0_add_82 rfl ?_
    refine G_getf 0 10 d_cX0_add_83 rfl (gk_X0 D I) (Nat.le_of_ble_eq_true rfl) w_1_197 rfl ?_
    refine G_iconst 1 d_cX0_add_86 (by decide +kernel) ?_
    refine G_iadd d_cX0_add_87 (G_nam fun z19858 hz19858 => ?_)
    have ez19858 : z19858.toInt = p19838.toInt + 1 := by rw [gI_add hz19858 bp19838' (gBl (show Int32.toInt 1 = 1 by decide)) (by decide) (by decide), show Int32.toInt 1 = 1 from by decide]
    have bz19858 : gB z19858 1 920 := gB_add (gI_add hz19858 bp19838' (gBl (show Int32.toInt 1 = 1 by decide)) (by decide) (by decide)) bp19838' (gBl (show Int32.toInt 1 = 1 by decide)) (by decide) (by decide)
    refine G_putf (ws' := [(q19821, .inr (5, [.ref q19822, .ref q19823, .ref q19824, .ref q19825, .ref q19826, .ref q19827, .ref q19828, .ref q19829, .ref q19830, .int p19837, .int z19858, .int p19839])), (q19822, .inl (I .int, 40, .inl f19840)), (q19823, .inl (I .int, 40, .inl f19841)), (q19824, .inl (I .int, 40, .inl f19842)), (q19825, .inl (I .int, 920, .inl f19852)), (q19826, .inl (I .int, 920, .inl f19853)), (q19827, .inl (I .int, 920, .inl f19854)), (q19828, .inl (I .int, 920, .inl f19855)), (q19829, .inl (I .int, 920, .inl f19856)), (q19830, .inl (I .int, 920, .inl f19857))]) 0 10 d_cX0_add_88 rfl (gk_X0 D I) (Nat.le_of_ble_eq_true rfl) w_1_197 rfl rfl rfl (Nat.le_of_ble_eq_true rfl) rfl ?_
    exact G_vret d_cX0_add_91 rfl (Nat.le_of_ble_eq_true rfl) (Nat.le_of_ble_eq_true rfl) ⟨z19858, f19852, f19853, f19854, f19855, f19856, f19857, p19839, rfl, rfl, bz19858, bf19852, (gF_any f19853), (gF_any f19854), (gF_any f19855), (gF_any f19856), (gF_any f19857), bp19839, (fun R c1 c2 => c1 f19852 f19853 f19854 f19855 f19856 f19857 z19858 r19851 hf19852 hf19853 hf19854 hf19855 hf19856 hf19857 ez19858)⟩
  · have r19859 : 920 ≤ p19838.toInt := gj_nlt hc19850 (show Int32.toInt 920 = 920 by decide)
    have bp19838' : gB p19838 920 920 := ⟨by omega, by omega⟩
    refine G_aload_n 0 d_cX0_add_12 rfl ?_
    refine G_iconst 1 d_cX0_add_13 (by decide +kernel) ?_
    refine G_putf (ws' := [(q19821, .inr (5, [.ref q19822, .ref q19823, .ref q19824, .ref q19825, .ref q19826, .ref q19827, .ref q19828, .ref q19829, .ref q19830, .int p19837, .int p19838, .int 1])), (q19822, .inl (I .int, 40, .inl f19840)), (q19823, .inl (I .int, 40, .inl f19841)), (q19824, .inl (I .int, 40, .inl f19842)), (q19825, .inl (I .int, 920, .inl f19843)), (q19826, .inl (I .int, 920, .inl f19844)), (q19827, .inl (I .int, 920, .inl f19845)), (q19828, .inl (I .int, 920, .inl f19846)), (q19829, .inl (I .int, 920, .inl f19847)), (q19830, .inl (I .int, 920, .inl f19848))]) 0 11 d_cX0_add_14 rfl (gk_X0 D I) (Nat.le_of_ble_eq_true rfl) w_1_200 rfl rfl rfl (Nat.le_of_ble_eq_true rfl) rfl ?_
    exact G_vret d_cX0_add_17 rfl (Nat.le_of_ble_eq_true rfl) (Nat.le_of_ble_eq_true rfl) ⟨p19838, f19843, f19844, f19845, f19846, f19847, f19848, 1, rfl, rfl, (gB_w bp19838' (by decide) (by decide)), bf19843, (gF_any f19844), (gF_any f19845), (gF_any f19846), (gF_any f19847), (gF_any f19848), (gB_w (gBl (show Int32.toInt 1 = 1 by decide)) (by decide) (by decide)), (fun R c1 c2 => c2 r19859)⟩
/- tl_Giver_setLiveToZero_2: l1, Code_lines, Code_isFull, Code_op, Code_set, Code_left, Code_leftNumber, Code_right, Code_rightNumber; out: Code_lines, Code_isFull, Code_op, Code_set, Code_left, Code_leftNumber, Code_right, Code_rightNumber -/
def tl_Giver_setLiveToZero_2 (Live_names : Int32) (Live_words : Int32) (Live_in : Nat → Int64) (s1 : Int32) (s2 : Int32) (s3 : Int32) (s4 : Nat → Int32) (s5 : Nat → Int32) (s6 : Nat → Int32) (s7 : Nat → Int32) (s8 : Nat → Int32) (s9 : Nat → Int32) (k : Nat) (e1 : Int32) (e2 : Int32) (e3 : Nat → Int32) (e4 : Nat → Int32) (e5 : Nat → Int32) (e6 : Nat → Int32) (e7 : Nat → Int32) (e8 : Nat → Int32) : Prop := ∀ R : (Int32) → (Int32) → (Int32) → (Nat → Int32) → (Nat → Int32) → (Nat → Int32) → (Nat → Int32) → (Nat → Int32) → (Nat → Int32) → Nat → (Int32) → (Int32) → (Nat → Int32) → (Nat → Int32) → (Nat → Int32) → (Nat → Int32) → (Nat → Int32) → (Nat → Int32) → Prop,
  (∀ (l1_1 : Int32) (Code_lines_1 : Int32) (Code_isFull_1 : Int32) (Code_op_1 : Nat → Int32) (Code_set_1 : Nat → Int32) (Code_left_1 : Nat → Int32) (Code_leftNumber_1 : Nat → Int32) (Code_right_1 : Nat → Int32) (Code_rightNumber_1 : Nat → Int32), gB l1_1 0 100 → gB Code_lines_1 0 920 → gB Code_isFull_1 0 1 → 100 ≤ l1_1.toInt → R l1_1 Code_lines_1 Code_isFull_1 Code_op_1 Code_set_1 Code_left_1 Code_leftNumber_1 Code_right_1 Code_rightNumber_1 43 Code_lines_1 Code_isFull_1 Code_op_1 Code_set_1 Code_left_1 Code_leftNumber_1 Code_right_1 Code_rightNumber_1) →
  (∀ (l1_1 : Int32) (Code_lines_1 : Int32) (Code_isFull_1 : Int32) (Code_op_1 : Nat → Int32) (Code_set_1 : Nat → Int32) (Code_left_1 : Nat → Int32) (Code_leftNumber_1 : Nat → Int32) (Code_right_1 : Nat → Int32) (Code_rightNumber_1 : Nat → Int32) (x1 : Int32) (k : Nat) (e1 : Int32) (e2 : Int32) (e3 : Nat → Int32) (e4 : Nat → Int32) (e5 : Nat → Int32) (e6 : Nat → Int32) (e7 : Nat → Int32) (e8 : Nat → Int32), gB l1_1 0 100 → gB Code_lines_1 0 920 → gB Code_isFull_1 0 1 → l1_1.toInt < 100 → tr_Live_isLiveBefore (0 : Int32) l1_1 Live_names Live_words Live_in (0 : Int32) → x1.toInt = l1_1.toInt + 1 → R x1 Code_lines_1 Code_isFull_1 Code_op_1 Code_set_1 Code_left_1 Code_leftNumber_1 Code_right_1 Code_rightNumber_1 k e1 e2 e3 e4 e5 e6 e7 e8 → R l1_1 Code_lines_1 Code_isFull_1 Code_op_1 Code_set_1 Code_left_1 Code_leftNumber_1 Code_right_1 Code_rightNumber_1 k e1 e2 e3 e4 e5 e6 e7 e8) →
  (∀ (l1_1 : Int32) (Code_lines_1 : Int32) (Code_isFull_1 : Int32) (Code_op_1 : Nat → Int32) (Code_set_1 : Nat → Int32) (Code_left_1 : Nat → Int32) (Code_leftNumber_1 : Nat → Int32) (Code_right_1 : Nat → Int32) (Code_rightNumber_1 : Nat → Int32) (x1 : Int32) (x2 : Nat → Int32) (x3 : Nat → Int32) (x4 : Nat → Int32) (x5 : Nat → Int32) (x6 : Nat → Int32) (x7 : Nat → Int32) (x8 : Int32) (x9 : Int32) (k : Nat) (e1 : Int32) (e2 : Int32) (e3 : Nat → Int32) (e4 : Nat → Int32) (e5 : Nat → Int32) (e6 : Nat → Int32) (e7 : Nat → Int32) (e8 : Nat → Int32), gB l1_1 0 100 → gB Code_lines_1 0 920 → gB Code_isFull_1 0 1 → l1_1.toInt < 100 → tr_Live_isLiveBefore (0 : Int32) l1_1 Live_names Live_words Live_in (1 : Int32) → gB x1 1 920 → gB x8 0 1 → tr_Code_add2 (14 : Int32) l1_1 (-1 : Int32) (0 : Int32) (-1 : Int32) (0 : Int32) Code_lines_1 Code_isFull_1 Code_op_1 Code_set_1 Code_left_1 Code_leftNumber_1 Code_right_1 Code_rightNumber_1 x1 x2 x3 x4 x5 x6 x7 x8 → x9.toInt = l1_1.toInt + 1 → R x9 x1 x8 x2 x3 x4 x5 x6 x7 k e1 e2 e3 e4 e5 e6 e7 e8 → R l1_1 Code_lines_1 Code_isFull_1 Code_op_1 Code_set_1 Code_left_1 Code_leftNumber_1 Code_right_1 Code_rightNumber_1 k e1 e2 e3 e4 e5 e6 e7 e8) →
  R s1 s2 s3 s4 s5 s6 s7 s8 s9 k e1 e2 e3 e4 e5 e6 e7 e8
/- tr_Giver_setLiveToZero: Code_lines, Code_isFull, Code_op, Code_set, Code_left, Code_leftNumber, Code_right, Code_rightNumber -/
def tr_Giver_setLiveToZero (Code_lines : Int32) (Code_isFull : Int32) (Live_names : Int32) (Live_words : Int32) (Code_op : Nat → Int32) (Code_set : Nat → Int32) (Code_left : Nat → Int32) (Code_leftNumber : Nat → Int32) (Code_right : Nat → Int32) (Code_rightNumber : Nat → Int32) (Live_in : Nat → Int64) (o1 : Int32) (o2 : Int32) (o3 : Nat → Int32) (o4 : Nat → Int32) (o5 : Nat → Int32) (o6 : Nat → Int32) (o7 : Nat → Int32) (o8 : Nat → Int32) : Prop := ∀ R : (Int32) → (Int32) → (Nat → Int32) → (Nat → Int32) → (Nat → Int32) → (Nat → Int32) → (Nat → Int32) → (Nat → Int32) → Prop,
  (∀ (x1 : Int32) (x2 : Int32) (x3 : Nat → Int32) (x4 : Nat → Int32) (x5 : Nat → Int32) (x6 : Nat → Int32) (x7 : Nat → Int32) (x8 : Nat → Int32), tl_Giver_setLiveToZero_2 Live_names Live_words Live_in (0 : Int32) Code_lines Code_isFull Code_op Code_set Code_left Code_leftNumber Code_right Code_rightNumber 43 x1 x2 x3 x4 x5 x6 x7 x8 → R x1 x2 x3 x4 x5 x6 x7 x8) →
  R o1 o2 o3 o4 o5 o6 o7 o8
