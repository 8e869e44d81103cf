theorem d_cX0_rows_0 : decode cX0_rows 0 = .ok (.aload_n 0, 1) := by decide +kernel
theorem d_cX0_rows_1 : decode cX0_rows 1 = .ok (.getfield 49, 3) := by decide +kernel
theorem d_cX0_rows_4 : decode cX0_rows 4 = .ok (.aload_n 0, 1) := by decide +kernel
theorem d_cX0_rows_5 : decode cX0_rows 5 = .ok (.getfield 45, 3) := by decide +kernel
theorem d_cX0_rows_8 : decode cX0_rows 8 = .ok (.isub, 1) := by decide +kernel
theorem d_cX0_rows_9 : decode cX0_rows 9 = .ok (.ireturn, 1) := by decide +kernel
theorem d_cX0_blockEnd_0 : decode cX0_blockEnd 0 = .ok (.iload_n 1, 1) := by decide +kernel
theorem d_cX0_blockEnd_1 : decode cX0_blockEnd 1 = .ok (.iconst 1, 1) := by decide +kernel
theorem d_cX0_blockEnd_2 : decode cX0_blockEnd 2 = .ok (.iadd, 1) := by decide +kernel
theorem d_cX0_blockEnd_3 : decode cX0_blockEnd 3 = .ok (.aload_n 0, 1) := by decide +kernel
theorem d_cX0_blockEnd_4 : decode cX0_blockEnd 4 = .ok (.getfield 45, 3) := by decide +kernel
theorem d_cX0_blockEnd_7 : decode cX0_blockEnd 7 = .ok (.if_icmp .ge 14, 3) := by decide +kernel
theorem d_cX0_blockEnd_21 : decode cX0_blockEnd 21 = .ok (.aload_n 0, 1) := by decide +kernel
theorem d_cX0_blockEnd_22 : decode cX0_blockEnd 22 = .ok (.getfield 49, 3) := by decide +kernel
theorem d_cX0_blockEnd_25 : decode cX0_blockEnd 25 = .ok (.ireturn, 1) := by decide +kernel
theorem d_cX0_blockEnd_10 : decode cX0_blockEnd 10 = .ok (.aload_n 0, 1) := by decide +kernel
theorem d_cX0_blockEnd_11 : decode cX0_blockEnd 11 = .ok (.getfield 9, 3) := by decide +kernel
theorem w_1_142 : (Jvm.Cond.fieldLink "SpillForge$Code" (9 : Nat) "SpillForge$Code" "first" "[I") ∈ gw := gw_1 142 rfl rfl
theorem d_cX0_blockEnd_14 : decode cX0_blockEnd 14 = .ok (.iload_n 1, 1) := by decide +kernel
theorem d_cX0_blockEnd_15 : decode cX0_blockEnd 15 = .ok (.iconst 1, 1) := by decide +kernel
theorem d_cX0_blockEnd_16 : decode cX0_blockEnd 16 = .ok (.iadd, 1) := by decide +kernel
theorem d_cX0_blockEnd_17 : decode cX0_blockEnd 17 = .ok (.iaload, 1) := by decide +kernel
theorem d_cX0_blockEnd_18 : decode cX0_blockEnd 18 = .ok (.goto 7, 3) := by decide +kernel
theorem d_cX0_goal_0 : decode cX0_goal 0 = .ok (.iload_n 2, 1) := by decide +kernel
theorem d_cX0_goal_1 : decode cX0_goal 1 = .ok (.ifCond .ne 12, 3) := by decide +kernel
theorem d_cX0_goal_13 : decode cX0_goal 13 = .ok (.aload_n 0, 1) := by decide +kernel
theorem d_cX0_goal_14 : decode cX0_goal 14 = .ok (.getfield 18, 3) := by decide +kernel
theorem w_1_154 : (Jvm.Cond.fieldLink "SpillForge$Code" (18 : Nat) "SpillForge$Code" "secondGoal" "[I") ∈ gw := gw_1 154 rfl rfl
theorem d_cX0_goal_17 : decode cX0_goal 17 = .ok (.iload_n 1, 1) := by decide +kernel
theorem d_cX0_goal_18 : decode cX0_goal 18 = .ok (.iaload, 1) := by decide +kernel
theorem d_cX0_goal_19 : decode cX0_goal 19 = .ok (.ireturn, 1) := by decide +kernel
theorem d_cX0_goal_4 : decode cX0_goal 4 = .ok (.aload_n 0, 1) := by decide +kernel
theorem d_cX0_goal_5 : decode cX0_goal 5 = .ok (.getfield 15, 3) := by decide +kernel
theorem w_1_149 : (Jvm.Cond.fieldLink "SpillForge$Code" (15 : Nat) "SpillForge$Code" "firstGoal" "[I") ∈ gw := gw_1 149 rfl rfl
theorem d_cX0_goal_8 : decode cX0_goal 8 = .ok (.iload_n 1, 1) := by decide +kernel
theorem d_cX0_goal_9 : decode cX0_goal 9 = .ok (.iaload, 1) := by decide +kernel
theorem d_cX0_goal_10 : decode cX0_goal 10 = .ok (.goto 9, 3) := by decide +kernel
theorem d_cX0_openBlock_0 : decode cX0_openBlock 0 = .ok (.aload_n 0, 1) := by decide +kernel
theorem d_cX0_openBlock_1 : decode cX0_openBlock 1 = .ok (.getfield 45, 3) := by decide +kernel
theorem d_cX0_openBlock_4 : decode cX0_openBlock 4 = .ok (.bipush 40, 2) := by decide +kernel
theorem d_cX0_openBlock_6 : decode cX0_openBlock 6 = .ok (.if_icmp .lt 5, 3) := by decide +kernel
theorem d_cX0_openBlock_11 : decode cX0_openBlock 11 = .ok (.aload_n 0, 1) := by decide +kernel
theorem d_cX0_openBlock_12 : decode cX0_openBlock 12 = .ok (.getfield 9, 3) := by decide +kernel
theorem d_cX0_openBlock_15 : decode cX0_openBlock 15 = .ok (.aload_n 0, 1) := by decide +kernel
theorem d_cX0_openBlock_16 : decode cX0_openBlock 16 = .ok (.getfield 45, 3) := by decide +kernel
theorem d_cX0_openBlock_19 : decode cX0_openBlock 19 = .ok (.aload_n 0, 1) := by decide +kernel
theorem d_cX0_openBlock_20 : decode cX0_openBlock 20 = .ok (.getfield 49, 3) := by decide +kernel
theorem d_cX0_openBlock_23 : decode cX0_openBlock 23 = .ok (.iastore, 1) := by decide +kernel
theorem d_cX0_openBlock_24 : decode cX0_openBlock 24 = .ok (.aload_n 0, 1) := by decide +kernel
theorem d_cX0_openBlock_25 : decode cX0_openBlock 25 = .ok (.getfield 15, 3) := by decide +kernel
theorem d_cX0_openBlock_28 : decode cX0_openBlock 28 = .ok (.aload_n 0, 1) := by decide +kernel
theorem d_cX0_openBlock_29 : decode cX0_openBlock 29 = .ok (.getfield 45, 3) := by decide +kernel
theorem d_cX0_openBlock_32 : decode cX0_openBlock 32 = .ok (.iconst (-1), 1) := by decide +kernel
theorem d_cX0_openBlock_33 : decode cX0_openBlock 33 = .ok (.iastore, 1) := by decide +kernel
theorem d_cX0_openBlock_34 : decode cX0_openBlock 34 = .ok (.aload_n 0, 1) := by decide +kernel
theorem d_cX0_openBlock_35 : decode cX0_openBlock 35 = .ok (.getfield 18, 3) := by decide +kernel
theorem d_cX0_openBlock_38 : decode cX0_openBlock 38 = .ok (.aload_n 0, 1) := by decide +kernel
theorem d_cX0_openBlock_39 : decode cX0_openBlock 39 = .ok (.getfield 45, 3) := by decide +kernel
theorem d_cX0_openBlock_42 : decode cX0_openBlock 42 = .ok (.iconst (-1), 1) := by decide +kernel
theorem d_cX0_openBlock_43 : decode cX0_openBlock 43 = .ok (.iastore, 1) := by decide +kernel
theorem d_cX0_openBlock_44 : decode cX0_openBlock 44 = .ok (.aload_n 0, 1) := by decide +kernel
theorem d_cX0_openBlock_45 : decode cX0_openBlock 45 = .ok (.dup, 1) := by decide +kernel
theorem d_cX0_openBlock_46 : decode cX0_openBlock 46 = .ok (.getfield 45, 3) := by decide +kernel
theorem d_cX0_openBlock_49 : decode cX0_openBlock 49 = .ok (.iconst 1, 1) := by decide +kernel
theorem d_cX0_openBlock_50 : decode cX0_openBlock 50 = .ok (.iadd, 1) := by decide +kernel
theorem d_cX0_openBlock_51 : decode cX0_openBlock 51 = .ok (.putfield 45, 3) := by decide +kernel
theorem d_cX0_openBlock_54 : decode cX0_openBlock 54 = .ok (.iconst 1, 1) := by decide +kernel
theorem d_cX0_openBlock_55 : decode cX0_openBlock 55 = .ok (.ireturn, 1) := by decide +kernel
theorem d_cX0_openBlock_9 : decode cX0_openBlock 9 = .ok (.iconst 0, 1) := by decide +kernel
theorem d_cX0_openBlock_10 : decode cX0_openBlock 10 = .ok (.ireturn, 1) := by decide +kernel
theorem d_cX0_addGoal_0 : decode cX0_addGoal 0 = .ok (.aload_n 0, 1) := by decide +kernel
theorem d_cX0_addGoal_1 : decode cX0_addGoal 1 = .ok (.getfield 45, 3) := by decide +kernel
theorem d_cX0_addGoal_4 : decode cX0_addGoal 4 = .ok (.iconst 1, 1) := by decide +kernel
theorem d_cX0_addGoal_5 : decode cX0_addGoal 5 = .ok (.isub, 1) := by decide +kernel
theorem d_cX0_addGoal_6 : decode cX0_addGoal 6 = .ok (.istore_n 2, 1) := by decide +kernel
theorem d_cX0_addGoal_7 : decode cX0_addGoal 7 = .ok (.iload_n 2, 1) := by decide +kernel
theorem d_cX0_addGoal_8 : decode cX0_addGoal 8 = .ok (.ifCond .ge 5, 3) := by decide +kernel
theorem d_cX0_addGoal_13 : decode cX0_addGoal 13 = .ok (.aload_n 0, 1) := by decide +kernel
theorem d_cX0_addGoal_14 : decode cX0_addGoal 14 = .ok (.getfield 15, 3) := by decide +kernel
theorem d_cX0_addGoal_17 : decode cX0_addGoal 17 = .ok (.iload_n 2, 1) := by decide +kernel
theorem d_cX0_addGoal_18 : decode cX0_addGoal 18 = .ok (.iaload, 1) := by decide +kernel
theorem d_cX0_addGoal_19 : decode cX0_addGoal 19 = .ok (.iconst (-1), 1) := by decide +kernel
theorem d_cX0_addGoal_20 : decode cX0_addGoal 20 = .ok (.if_icmp .eq 7, 3) := by decide +kernel
theorem d_cX0_addGoal_27 : decode cX0_addGoal 27 = .ok (.iconst 0, 1) := by decide +kernel
theorem d_cX0_addGoal_28 : decode cX0_addGoal 28 = .ok (.istore_n 3, 1) := by decide +kernel
theorem d_cX0_addGoal_29 : decode cX0_addGoal 29 = .ok (.iload_n 3, 1) := by decide +kernel
theorem d_cX0_addGoal_30 : decode cX0_addGoal 30 = .ok (.ifCond .eq 10, 3) := by decide +kernel
theorem d_cX0_addGoal_40 : decode cX0_addGoal 40 = .ok (.aload_n 0, 1) := by decide +kernel
theorem d_cX0_addGoal_41 : decode cX0_addGoal 41 = .ok (.getfield 15, 3) := by decide +kernel
theorem d_cX0_addGoal_44 : decode cX0_addGoal 44 = .ok (.astore 4, 2) := by decide +kernel
theorem d_cX0_addGoal_46 : decode cX0_addGoal 46 = .ok (.aload 4, 2) := by decide +kernel
theorem d_cX0_addGoal_48 : decode cX0_addGoal 48 = .ok (.iload_n 2, 1) := by decide +kernel
theorem d_cX0_addGoal_49 : decode cX0_addGoal 49 = .ok (.iload_n 1, 1) := by decide +kernel
theorem d_cX0_addGoal_50 : decode cX0_addGoal 50 = .ok (.iastore, 1) := by decide +kernel
theorem d_cX0_addGoal_51 : decode cX0_addGoal 51 = .ok (.iload_n 3, 1) := by decide +kernel
theorem d_cX0_addGoal_52 : decode cX0_addGoal 52 = .ok (.ifCond .eq 11, 3) := by decide +kernel
theorem d_cX0_addGoal_63 : decode cX0_addGoal 63 = .ok (.iconst 2, 1) := by decide +kernel
theorem d_cX0_addGoal_64 : decode cX0_addGoal 64 = .ok (.iload_n 2, 1) := by decide +kernel
theorem d_cX0_addGoal_65 : decode cX0_addGoal 65 = .ok (.imul, 1) := by decide +kernel
theorem d_cX0_addGoal_66 : decode cX0_addGoal 66 = .ok (.ireturn, 1) := by decide +kernel
theorem d_cX0_addGoal_23 : decode cX0_addGoal 23 = .ok (.iconst 1, 1) := by decide +kernel
theorem d_cX0_addGoal_24 : decode cX0_addGoal 24 = .ok (.goto 4, 3) := by decide +kernel
theorem d_cX0_addGoal_33 : decode cX0_addGoal 33 = .ok (.aload_n 0, 1) := by decide +kernel
theorem d_cX0_addGoal_34 : decode cX0_addGoal 34 = .ok (.getfield 18, 3) := by decide +kernel
theorem d_cX0_addGoal_37 : decode cX0_addGoal 37 = .ok (.goto 7, 3) := by decide +kernel
theorem d_cX0_addGoal_55 : decode cX0_addGoal 55 = .ok (.iconst 2, 1) := by decide +kernel
theorem d_cX0_addGoal_56 : decode cX0_addGoal 56 = .ok (.iload_n 2, 1) := by decide +kernel
theorem d_cX0_addGoal_57 : decode cX0_addGoal 57 = .ok (.imul, 1) := by decide +kernel
theorem d_cX0_addGoal_58 : decode cX0_addGoal 58 = .ok (.iconst 1, 1) := by decide +kernel
theorem d_cX0_addGoal_59 : decode cX0_addGoal 59 = .ok (.iadd, 1) := by decide +kernel
theorem d_cX0_addGoal_60 : decode cX0_addGoal 60 = .ok (.goto 6, 3) := by decide +kernel
theorem d_cX0_addGoal_11 : decode cX0_addGoal 11 = .ok (.iconst (-1), 1) := by decide +kernel
theorem d_cX0_addGoal_12 : decode cX0_addGoal 12 = .ok (.ireturn, 1) := by decide +kernel
theorem d_cX0_add_0 : decode cX0_add 0 = .ok (.aload_n 0, 1) := by decide +kernel
theorem d_cX0_add_1 : decode cX0_add 1 = .ok (.getfield 49, 3) := by decide +kernel
theorem d_cX0_add_4 : decode cX0_add 4 = .ok (.aload_n 0, 1) := by decide +kernel
theorem d_cX0_add_5 : decode cX0_add 5 = .ok (.getfield 27, 3) := by decide +kernel
theorem w_1_159 : (Jvm.Cond.fieldLink "SpillForge$Code" (27 : Nat) "SpillForge$Code" "op" "[I") ∈ gw := gw_1 159 rfl rfl
theorem d_cX0_add_8 : decode cX0_add 8 = .ok (.arraylength, 1) := by decide +kernel
theorem d_cX0_add_9 : decode cX0_add 9 = .ok (.if_icmp .lt 9, 3) := by decide +kernel
theorem d_cX0_add_18 : decode cX0_add 18 = .ok (.aload_n 0, 1) := by decide +kernel
theorem d_cX0_add_19 : decode cX0_add 19 = .ok (.getfield 27, 3) := by decide +kernel
theorem d_cX0_add_22 : decode cX0_add 22 = .ok (.aload_n 0, 1) := by decide +kernel
theorem d_cX0_add_23 : decode cX0_add 23 = .ok (.getfield 49, 3) := by decide +kernel
theorem d_cX0_add_26 : decode cX0_add 26 = .ok (.iload_n 1, 1) := by decide +kernel
theorem d_cX0_add_27 : decode cX0_add 27 = .ok (.iastore, 1) := by decide +kernel
theorem d_cX0_add_28 : decode cX0_add 28 = .ok (.aload_n 0, 1) := by decide +kernel
theorem d_cX0_add_29 : decode cX0_add 29 = .ok (.getfield 30, 3) := by decide +kernel
theorem w_1_163 : (Jvm.Cond.fieldLink "SpillForge$Code" (30 : Nat) "SpillForge$Code" "set" "[I") ∈ gw := gw_1 163 rfl rfl
theorem d_cX0_add_32 : decode cX0_add 32 = .ok (.aload_n 0, 1) := by decide +kernel
theorem d_cX0_add_33 : decode cX0_add 33 = .ok (.getfield 49, 3) := by decide +kernel
theorem d_cX0_add_36 : decode cX0_add 36 = .ok (.iload_n 2, 1) := by decide +kernel
theorem d_cX0_add_37 : decode cX0_add 37 = .ok (.iastore, 1) := by decide +kernel
theorem d_cX0_add_38 : decode cX0_add 38 = .ok (.aload_n 0, 1) := by decide +kernel
theorem d_cX0_add_39 : decode cX0_add 39 = .ok (.getfield 33, 3) := by decide +kernel
theorem w_1_168 : (Jvm.Cond.fieldLink "SpillForge$Code" (33 : Nat) "SpillForge$Code" "left" "[I") ∈ gw := gw_1 168 rfl rfl
theorem d_cX0_add_42 : decode cX0_add 42 = .ok (.aload_n 0, 1) := by decide +kernel
theorem d_cX0_add_43 : decode cX0_add 43 = .ok (.getfield 49, 3) := by decide +kernel
theorem d_cX0_add_46 : decode cX0_add 46 = .ok (.iload_n 3, 1) := by decide +kernel
theorem d_cX0_add_47 : decode cX0_add 47 = .ok (.iastore, 1) := by decide +kernel
theorem d_cX0_add_48 : decode cX0_add 48 = .ok (.aload_n 0, 1) := by decide +kernel
theorem d_cX0_add_49 : decode cX0_add 49 = .ok (.getfield 36, 3) := by decide +kernel
theorem w_1_174 : (Jvm.Cond.fieldLink "SpillForge$Code" (36 : Nat) "SpillForge$Code" "leftNumber" "[I") ∈ gw := gw_1 174 rfl rfl
theorem d_cX0_add_52 : decode cX0_add 52 = .ok (.aload_n 0, 1) := by decide +kernel
theorem d_cX0_add_53 : decode cX0_add 53 = .ok (.getfield 49, 3) := by decide +kernel
theorem d_cX0_add_56 : decode cX0_add 56 = .ok (.iload 4, 2) := by decide +kernel
theorem d_cX0_add_58 : decode cX0_add 58 = .ok (.iastore, 1) := by decide +kernel
theorem d_cX0_add_59 : decode cX0_add 59 = .ok (.aload_n 0, 1) := by decide +kernel
theorem d_cX0_add_60 : decode cX0_add 60 = .ok (.getfield 39, 3) := by decide +kernel
theorem w_1_178 : (Jvm.Cond.fieldLink "SpillForge$Code" (39 : Nat) "SpillForge$Code" "right" "[I") ∈ gw := gw_1 178 rfl rfl
theorem d_cX0_add_63 : decode cX0_add 63 = .ok (.aload_n 0, 1) := by decide +kernel
theorem d_cX0_add_64 : decode cX0_add 64 = .ok (.getfield 49, 3) := by decide +kernel
theorem d_cX0_add_67 : decode cX0_add 67 = .ok (.iload 5, 2) := by decide +kernel
theorem d_cX0_add_69 : decode cX0_add 69 = .ok (.iastore, 1) := by decide +kernel
theorem d_cX0_add_70 : decode cX0_add 70 = .ok (.aload_n 0, 1) := by decide +kernel
theorem d_cX0_add_71 : decode cX0_add 71 = .ok (.getfield 42, 3) := by decide +kernel
theorem w_1_183 : (Jvm.Cond.fieldLink "SpillForge$Code" (42 : Nat) "SpillForge$Code" "rightNumber" "[I") ∈ gw := gw_1 183 rfl rfl
theorem d_cX0_add_74 : decode cX0_add 74 = .ok (.aload_n 0, 1) := by decide +kernel
theorem d_cX0_add_75 : decode cX0_add 75 = .ok (.getfield 49, 3) := by decide +kernel
theorem d_cX0_add_78 : decode cX0_add 78 = .ok (.iload 6, 2) := by decide +kernel
theorem d_cX0_add_80 : decode cX0_add 80 = .ok (.iastore, 1) := by decide +kernel
theorem d_cX0_add_81 : decode cX0_add 81 = .ok (.aload_n 0, 1) := by decide +kernel
theorem d_cX0_add_82 : decode cX0_add 82 = .ok (.dup, 1) := by decide +kernel
theorem d_cX0_add_83 : decode cX0_add 83 = .ok (.getfield 49, 3) := by decide +kernel
theorem d_cX0_add_86 : decode cX0_add 86 = .ok (.iconst 1, 1) := by decide +kernel
theorem d_cX0_add_87 : decode cX0_add 87 = .ok (.iadd, 1) := by decide +kernel
theorem d_cX0_add_88 : decode cX0_add 88 = .ok (.putfield 49, 3) := by decide +kernel
theorem d_cX0_add_91 : decode cX0_add 91 = .ok (.return_, 1) := by decide +kernel
theorem d_cX0_add_12 : decode cX0_add 12 = .ok (.aload_n 0, 1) := by decide +kernel
theorem d_cX0_add_13 : decode cX0_add 13 = .ok (.iconst 1, 1) := by decide +kernel
theorem d_cX0_add_14 : decode cX0_add 14 = .ok (.putfield 52, 3) := by decide +kernel
theorem d_cX0_add_17 : decode cX0_add 17 = .ok (.return_, 1) := by decide +kernel
theorem d_cX0_openLike_0 : decode cX0_openLike 0 = .ok (.aload_n 0, 1) := by decide +kernel
theorem d_cX0_openLike_1 : decode cX0_openLike 1 = .ok (.getfield 45, 3) := by decide +kernel
theorem d_cX0_openLike_4 : decode cX0_openLike 4 = .ok (.istore_n 2, 1) := by decide +kernel
theorem d_cX0_openLike_5 : decode cX0_openLike 5 = .ok (.iload_n 2, 1) := by decide +kernel
theorem d_cX0_openLike_6 : decode cX0_openLike 6 = .ok (.aload_n 1, 1) := by decide +kernel
theorem d_cX0_openLike_7 : decode cX0_openLike 7 = .ok (.getfield 45, 3) := by decide +kernel
theorem d_cX0_openLike_10 : decode cX0_openLike 10 = .ok (.if_icmp .ge 34, 3) := by decide +kernel
theorem d_cX0_openLike_44 : decode cX0_openLike 44 = .ok (.return_, 1) := by decide +kernel
theorem d_cX0_nameIn_0 : decode cX0_nameIn 0 = .ok (.iload_n 1, 1) := by decide +kernel
theorem d_cX0_nameIn_1 : decode cX0_nameIn 1 = .ok (.ifCond .lt 15, 3) := by decide +kernel
theorem d_cX0_nameIn_16 : decode cX0_nameIn 16 = .ok (.iload_n 1, 1) := by decide +kernel
theorem d_cX0_nameIn_17 : decode cX0_nameIn 17 = .ok (.ireturn, 1) := by decide +kernel
theorem d_cX0_nameIn_4 : decode cX0_nameIn 4 = .ok (.iload_n 1, 1) := by decide +kernel
theorem d_cX0_nameIn_5 : decode cX0_nameIn 5 = .ok (.aload_n 0, 1) := by decide +kernel
theorem d_cX0_nameIn_6 : decode cX0_nameIn 6 = .ok (.arraylength, 1) := by decide +kernel
theorem d_cX0_nameIn_7 : decode cX0_nameIn 7 = .ok (.if_icmp .ge 9, 3) := by decide +kernel
theorem d_cX0_nameIn_10 : decode cX0_nameIn 10 = .ok (.aload_n 0, 1) := by decide +kernel
theorem d_cX0_nameIn_11 : decode cX0_nameIn 11 = .ok (.iload_n 1, 1) := by decide +kernel
theorem d_cX0_nameIn_12 : decode cX0_nameIn 12 = .ok (.iaload, 1) := by decide +kernel
theorem d_cX0_nameIn_13 : decode cX0_nameIn 13 = .ok (.goto 4, 3) := by decide +kernel
theorem d_cX0_linesThat_0 : decode cX0_linesThat 0 = .ok (.iconst 0, 1) := by decide +kernel
theorem d_cX0_linesThat_1 : decode cX0_linesThat 1 = .ok (.istore_n 2, 1) := by decide +kernel
theorem d_cX0_linesThat_2 : decode cX0_linesThat 2 = .ok (.iconst 0, 1) := by decide +kernel
theorem d_cX0_linesThat_3 : decode cX0_linesThat 3 = .ok (.istore_n 3, 1) := by decide +kernel
theorem d_cX0_linesThat_4 : decode cX0_linesThat 4 = .ok (.iload_n 3, 1) := by decide +kernel
theorem d_cX0_linesThat_5 : decode cX0_linesThat 5 = .ok (.aload_n 0, 1) := by decide +kernel
theorem d_cX0_linesThat_6 : decode cX0_linesThat 6 = .ok (.getfield 49, 3) := by decide +kernel
theorem d_cX0_linesThat_9 : decode cX0_linesThat 9 = .ok (.if_icmp .ge 27, 3) := by decide +kernel
theorem d_cX0_linesThat_36 : decode cX0_linesThat 36 = .ok (.iload_n 2, 1) := by decide +kernel
theorem d_cX0_linesThat_37 : decode cX0_linesThat 37 = .ok (.ireturn, 1) := by decide +kernel
theorem d_cX0_linesThat_12 : decode cX0_linesThat 12 = .ok (.iload_n 2, 1) := by decide +kernel
theorem d_cX0_linesThat_13 : decode cX0_linesThat 13 = .ok (.aload_n 0, 1) := by decide +kernel
theorem d_cX0_linesThat_14 : decode cX0_linesThat 14 = .ok (.getfield 27, 3) := by decide +kernel
theorem d_cX0_linesThat_17 : decode cX0_linesThat 17 = .ok (.iload_n 3, 1) := by decide +kernel
theorem d_cX0_linesThat_18 : decode cX0_linesThat 18 = .ok (.iaload, 1) := by decide +kernel
theorem d_cX0_linesThat_19 : decode cX0_linesThat 19 = .ok (.iload_n 1, 1) := by decide +kernel
theorem d_cX0_linesThat_20 : decode cX0_linesThat 20 = .ok (.if_icmp .ne 7, 3) := by decide +kernel
theorem d_cX0_linesThat_27 : decode cX0_linesThat 27 = .ok (.iconst 0, 1) := by decide +kernel
theorem d_cX0_linesThat_28 : decode cX0_linesThat 28 = .ok (.iadd, 1) := by decide +kernel
theorem d_cX0_linesThat_29 : decode cX0_linesThat 29 = .ok (.istore_n 2, 1) := by decide +kernel
theorem d_cX0_linesThat_30 : decode cX0_linesThat 30 = .ok (.iinc 3 1, 3) := by decide +kernel
theorem d_cX0_linesThat_33 : decode cX0_linesThat 33 = .ok (.goto (-29), 3) := by decide +kernel
theorem d_cX0_linesThat_23 : decode cX0_linesThat 23 = .ok (.iconst 1, 1) := by decide +kernel
theorem d_cX0_linesThat_24 : decode cX0_linesThat 24 = .ok (.goto 4, 3) := by decide +kernel
theorem d_cX0_copiesRegister_0 : decode cX0_copiesRegister 0 = .ok (.aload_n 0, 1) := by decide +kernel
theorem d_cX0_copiesRegister_1 : decode cX0_copiesRegister 1 = .ok (.getfield 27, 3) := by decide +kernel
theorem d_cX0_copiesRegister_4 : decode cX0_copiesRegister 4 = .ok (.iload_n 1, 1) := by decide +kernel
theorem d_cX0_copiesRegister_5 : decode cX0_copiesRegister 5 = .ok (.iaload, 1) := by decide +kernel
theorem d_cX0_copiesRegister_6 : decode cX0_copiesRegister 6 = .ok (.bipush 14, 2) := by decide +kernel
theorem d_cX0_copiesRegister_8 : decode cX0_copiesRegister 8 = .ok (.if_icmp .ne 25, 3) := by decide +kernel
theorem d_cX0_copiesRegister_33 : decode cX0_copiesRegister 33 = .ok (.iconst 0, 1) := by decide +kernel
theorem d_cX0_copiesRegister_34 : decode cX0_copiesRegister 34 = .ok (.ireturn, 1) := by decide +kernel
theorem d_cX0_copiesRegister_11 : decode cX0_copiesRegister 11 = .ok (.aload_n 0, 1) := by decide +kernel
theorem d_cX0_copiesRegister_12 : decode cX0_copiesRegister 12 = .ok (.getfield 30, 3) := by decide +kernel
theorem d_cX0_copiesRegister_15 : decode cX0_copiesRegister 15 = .ok (.iload_n 1, 1) := by decide +kernel
theorem d_cX0_copiesRegister_16 : decode cX0_copiesRegister 16 = .ok (.iaload, 1) := by decide +kernel
theorem d_cX0_copiesRegister_17 : decode cX0_copiesRegister 17 = .ok (.ifCond .lt 16, 3) := by decide +kernel
theorem d_cX0_copiesRegister_20 : decode cX0_copiesRegister 20 = .ok (.aload_n 0, 1) := by decide +kernel
theorem d_cX0_copiesRegister_21 : decode cX0_copiesRegister 21 = .ok (.getfield 33, 3) := by decide +kernel
theorem d_cX0_copiesRegister_24 : decode cX0_copiesRegister 24 = .ok (.iload_n 1, 1) := by decide +kernel
theorem d_cX0_copiesRegister_25 : decode cX0_copiesRegister 25 = .ok (.iaload, 1) := by decide +kernel
theorem d_cX0_copiesRegister_26 : decode cX0_copiesRegister 26 = .ok (.ifCond .lt 7, 3) := by decide +kernel
theorem d_cX0_copiesRegister_29 : decode cX0_copiesRegister 29 = .ok (.iconst 1, 1) := by decide +kernel
theorem d_cX0_copiesRegister_30 : decode cX0_copiesRegister 30 = .ok (.goto 4, 3) := by decide +kernel
theorem d_cX0_setBy_0 : decode cX0_setBy 0 = .ok (.iload_n 2, 1) := by decide +kernel
theorem d_cX0_setBy_1 : decode cX0_setBy 1 = .ok (.ifCond .eq 25, 3) := by decide +kernel
theorem d_cX0_setBy_26 : decode cX0_setBy 26 = .ok (.aload_n 0, 1) := by decide +kernel
theorem d_cX0_setBy_27 : decode cX0_setBy 27 = .ok (.getfield 30, 3) := by decide +kernel
theorem d_cX0_setBy_30 : decode cX0_setBy 30 = .ok (.iload_n 1, 1) := by decide +kernel
theorem d_cX0_setBy_31 : decode cX0_setBy 31 = .ok (.iaload, 1) := by decide +kernel
theorem d_cX0_setBy_32 : decode cX0_setBy 32 = .ok (.ireturn, 1) := by decide +kernel
theorem d_cX0_setBy_4 : decode cX0_setBy 4 = .ok (.aload_n 0, 1) := by decide +kernel
theorem d_cX0_setBy_5 : decode cX0_setBy 5 = .ok (.getfield 27, 3) := by decide +kernel
theorem d_cX0_setBy_8 : decode cX0_setBy 8 = .ok (.iload_n 1, 1) := by decide +kernel
theorem d_cX0_setBy_9 : decode cX0_setBy 9 = .ok (.iaload, 1) := by decide +kernel
theorem d_cX0_setBy_10 : decode cX0_setBy 10 = .ok (.bipush 18, 2) := by decide +kernel
theorem d_cX0_setBy_12 : decode cX0_setBy 12 = .ok (.if_icmp .ne 12, 3) := by decide +kernel
theorem d_cX0_setBy_24 : decode cX0_setBy 24 = .ok (.iconst (-1), 1) := by decide +kernel
theorem d_cX0_setBy_25 : decode cX0_setBy 25 = .ok (.ireturn, 1) := by decide +kernel
theorem d_cX0_setBy_15 : decode cX0_setBy 15 = .ok (.aload_n 0, 1) := by decide +kernel
theorem d_cX0_setBy_16 : decode cX0_setBy 16 = .ok (.getfield 42, 3) := by decide +kernel
theorem d_cX0_setBy_19 : decode cX0_setBy 19 = .ok (.iload_n 1, 1) := by decide +kernel
theorem d_cX0_setBy_20 : decode cX0_setBy 20 = .ok (.iaload, 1) := by decide +kernel
theorem d_cX0_setBy_21 : decode cX0_setBy 21 = .ok (.goto 4, 3) := by decide +kernel
theorem d_cX0_firstUse_0 : decode cX0_firstUse 0 = .ok (.iload_n 2, 1) := by decide +kernel
theorem d_cX0_firstUse_1 : decode cX0_firstUse 1 = .ok (.ifCond .eq 25, 3) := by decide +kernel
theorem d_cX0_firstUse_26 : decode cX0_firstUse 26 = .ok (.aload_n 0, 1) := by decide +kernel
theorem d_cX0_firstUse_27 : decode cX0_firstUse 27 = .ok (.getfield 33, 3) := by decide +kernel
theorem d_cX0_firstUse_30 : decode cX0_firstUse 30 = .ok (.iload_n 1, 1) := by decide +kernel
theorem d_cX0_firstUse_31 : decode cX0_firstUse 31 = .ok (.iaload, 1) := by decide +kernel
theorem d_cX0_firstUse_32 : decode cX0_firstUse 32 = .ok (.ireturn, 1) := by decide +kernel
theorem d_cX0_firstUse_4 : decode cX0_firstUse 4 = .ok (.aload_n 0, 1) := by decide +kernel
theorem d_cX0_firstUse_5 : decode cX0_firstUse 5 = .ok (.getfield 27, 3) := by decide +kernel
theorem d_cX0_firstUse_8 : decode cX0_firstUse 8 = .ok (.iload_n 1, 1) := by decide +kernel
theorem d_cX0_firstUse_9 : decode cX0_firstUse 9 = .ok (.iaload, 1) := by decide +kernel
theorem d_cX0_firstUse_10 : decode cX0_firstUse 10 = .ok (.bipush 17, 2) := by decide +kernel
theorem d_cX0_firstUse_12 : decode cX0_firstUse 12 = .ok (.if_icmp .ne 12, 3) := by decide +kernel
theorem d_cX0_firstUse_24 : decode cX0_firstUse 24 = .ok (.iconst (-1), 1) := by decide +kernel
theorem d_cX0_firstUse_25 : decode cX0_firstUse 25 = .ok (.ireturn, 1) := by decide +kernel
theorem d_cX0_firstUse_15 : decode cX0_firstUse 15 = .ok (.aload_n 0, 1) := by decide +kernel
theorem d_cX0_firstUse_16 : decode cX0_firstUse 16 = .ok (.getfield 42, 3) := by decide +kernel
theorem d_cX0_firstUse_19 : decode cX0_firstUse 19 = .ok (.iload_n 1, 1) := by decide +kernel
theorem d_cX0_firstUse_20 : decode cX0_firstUse 20 = .ok (.iaload, 1) := by decide +kernel
theorem d_cX0_firstUse_21 : decode cX0_firstUse 21 = .ok (.goto 4, 3) := by decide +kernel
theorem d_cX0_secondUse_0 : decode cX0_secondUse 0 = .ok (.iload_n 2, 1) := by decide +kernel
theorem d_cX0_secondUse_1 : decode cX0_secondUse 1 = .ok (.ifCond .eq 7, 3) := by decide +kernel
theorem d_cX0_secondUse_8 : decode cX0_secondUse 8 = .ok (.aload_n 0, 1) := by decide +kernel
theorem d_cX0_secondUse_9 : decode cX0_secondUse 9 = .ok (.getfield 39, 3) := by decide +kernel
theorem d_cX0_secondUse_12 : decode cX0_secondUse 12 = .ok (.iload_n 1, 1) := by decide +kernel
theorem d_cX0_secondUse_13 : decode cX0_secondUse 13 = .ok (.iaload, 1) := by decide +kernel
theorem d_cX0_secondUse_14 : decode cX0_secondUse 14 = .ok (.ireturn, 1) := by decide +kernel
theorem d_cX0_secondUse_4 : decode cX0_secondUse 4 = .ok (.iconst (-1), 1) := by decide +kernel
theorem d_cX0_secondUse_5 : decode cX0_secondUse 5 = .ok (.goto 9, 3) := by decide +kernel
theorem d_cJ7_fill_d0a16_0 : decode cJ7_fill_d0a16 0 = .ok (.iconst 0, 1) := by decide +kernel
theorem d_cJ7_fill_d0a16_1 : decode cJ7_fill_d0a16 1 = .ok (.istore_n 3, 1) := by decide +kernel
theorem d_cJ7_fill_d0a16_2 : decode cJ7_fill_d0a16 2 = .ok (.aload_n 0, 1) := by decide +kernel
theorem d_cJ7_fill_d0a16_3 : decode cJ7_fill_d0a16 3 = .ok (.arraylength, 1) := by decide +kernel
theorem d_cJ7_fill_d0a16_4 : decode cJ7_fill_d0a16 4 = .ok (.istore 4, 2) := by decide +kernel
theorem d_cJ7_fill_d0a16_6 : decode cJ7_fill_d0a16 6 = .ok (.iload_n 3, 1) := by decide +kernel
theorem d_cJ7_fill_d0a16_7 : decode cJ7_fill_d0a16 7 = .ok (.iload 4, 2) := by decide +kernel
theorem d_cJ7_fill_d0a16_9 : decode cJ7_fill_d0a16 9 = .ok (.if_icmp .ge 13, 3) := by decide +kernel
theorem d_cJ7_fill_d0a16_22 : decode cJ7_fill_d0a16 22 = .ok (.return_, 1) := by decide +kernel
theorem d_cJ7_fill_d0a16_12 : decode cJ7_fill_d0a16 12 = .ok (.aload_n 0, 1) := by decide +kernel
theorem d_cJ7_fill_d0a16_13 : decode cJ7_fill_d0a16 13 = .ok (.iload_n 3, 1) := by decide +kernel
theorem d_cJ7_fill_d0a16_14 : decode cJ7_fill_d0a16 14 = .ok (.lload_n 1, 1) := by decide +kernel
theorem d_cJ7_fill_d0a16_15 : decode cJ7_fill_d0a16 15 = .ok (.lastore, 1) := by decide +kernel
theorem d_cJ7_fill_d0a16_16 : decode cJ7_fill_d0a16 16 = .ok (.iinc 3 1, 3) := by decide +kernel
theorem d_cJ7_fill_d0a16_19 : decode cJ7_fill_d0a16 19 = .ok (.goto (-13), 3) := by decide +kernel
abbrev ky_575_Code_rows : gKey := (cX0_rows, 1, yX0_rows.cls, (some FieldType.int), [], yX0_rows.name, fun _ _ => True)
abbrev po_575_Code_rows (I : FieldType → ClassId) (q553 : Nat) (q554 : Nat) (q555 : Nat) (q556 : Nat) (q557 : Nat) (q558 : Nat) (q559 : Nat) (q560 : Nat) (q561 : Nat) (q562 : Nat) (p563 : Int32) (p564 : Int32) (p565 : Int32) (f566 : Nat → Int32) (f567 : Nat → Int32) (f568 : Nat → Int32) (f569 : Nat → Int32) (f570 : Nat → Int32) (f571 : Nat → Int32) (f572 : Nat → Int32) (f573 : Nat → Int32) (f574 : Nat → Int32) : Option Value → va_W → Prop := fun r w => ∃ (o577 : Int32), r = some (.int o577) ∧ w = [(q553, .inr (5, [.ref q554, .ref q555, .ref q556, .ref q557, .ref q558, .ref q559, .ref q560, .ref q561, .ref q562, .int p563, .int p564, .int p565])), (q554, .inl (I .int, 40, .inl f566)), (q555, .inl (I .int, 40, .inl f567)), (q556, .inl (I .int, 40, .inl f568)), (q557, .inl (I .int, 200, .inl f569)), (q558, .inl (I .int, 200, .inl f570)), (q559, .inl (I .int, 200, .inl f571)), (q560, .inl (I .int, 200, .inl f572)), (q561, .inl (I .int, 200, .inl f573)), (q562, .inl (I .int, 200, .inl f574))] ∧ gB o577 (-40) 200 ∧ tr_Code_rows p563 p564 o577
set_option maxRecDepth 100000 in
set_option maxHeartbeats 4000000 in
theorem ct_575_Code_rows (l : Launch) (hl0 : l.stackTraces = false) (D : va_G) (I : FieldType → ClassId) (q553 : Nat) (q554 : Nat) (q555 : Nat) (q556 : Nat) (q557 : Nat) (q558 : Nat) (q559 : Nat) (q560 : Nat) (q561 : Nat) (q562 : Nat) (p563 : Int32) (p564 : Int32) (p565 : Int32) (f566 : Nat → Int32) (f567 : Nat → Int32) (f568 : Nat → Int32) (f569 : Nat → Int32) (f570 : Nat → Int32) (f571 : Nat → Int32) (f572 : Nat → Int32) (f573 : Nat → Int32) (f574 : Nat → Int32) (bp563 : gB p563 0 40) (bp564 : gB p564 0 200) (bp565 : gB p565 0 1) (bf566 : gF f566 0 200) (bf569 : gF f569 0 21) : Ct (gV D I) l yX0_rows cX0_rows 1 (some FieldType.int) 0 0 0 0 [.ref q553] [(q553, .inr (5, [.ref q554, .ref q555, .ref q556, .ref q557, .ref q558, .ref q559, .ref q560, .ref q561, .ref q562, .int p563, .int p564, .int p565])), (q554, .inl (I .int, 40, .inl f566)), (q555, .inl (I .int, 40, .inl f567)), (q556, .inl (I .int, 40, .inl f568)), (q557, .inl (I .int, 200, .inl f569)), (q558, .inl (I .int, 200, .inl f570)), (q559, .inl (I .int, 200, .inl f571)), (q560, .inl (I .int, 200, .inl f572)), (q561, .inl (I .int, 200, .inl f573)), (q562, .inl (I .int, 200, .inl f574))] (po_575_Code_rows I q553 q554 q555 q556 q557 q558 q559 q560 q561 q562 p563 p564 p565 f566 f567 f568 f569 f570 f571 f572 f573 f574) gN := by
  refine Ct_of hl0 (by decide) (Nat.le_of_ble_eq_true rfl) ?_
  refine G_aload_n 0 d_cX0_rows_0 rfl ?_
  refine G_getf 0 10 d_cX0_rows_1 rfl (gk_X0 D I) (Nat.le_of_ble_eq_true rfl) w_1_197 rfl ?_
  refine G_aload_n 0 d_cX0_rows_4 rfl ?_
  refine G_getf 0 9 d_cX0_rows_5 rfl (gk_X0 D I) (Nat.le_of_ble_eq_true rfl) w_1_187 rfl ?_
  refine G_isub d_cX0_rows_8 (G_nam fun z576 hz576 => ?_)
  have ez576 : z576.toInt = p564.toInt - p563.toInt := by rw [gI_sub hz576 bp564 bp563 (by decide) (by decide)]
  have bz576 : gB z576 (-40) 200 := gB_sub (gI_sub hz576 bp564 bp563 (by decide) (by decide)) bp564 bp563 (by decide) (by decide)
  exact G_iret d_cX0_rows_9 rfl (Nat.le_of_ble_eq_true rfl) (Nat.le_of_ble_eq_true rfl) ⟨z576, rfl, rfl, bz576, (fun R c1 => c1 z576 ez576)⟩
/- tr_Code_blockEnd: result -/
def tr_Code_blockEnd (a1 : Int32) (Code_blocks : Int32) (Code_lines : Int32) (Code_first : Nat → Int32) (o1 : Int32) : Prop := ∀ R : (Int32) → Prop,
  (∀ (x1 : Int32), x1.toInt = a1.toInt + 1 → Code_blocks.toInt ≤ x1.toInt → R Code_lines) →
  (∀ (x1 : Int32) (x2 : Int32) (x3 : Int32), x1.toInt = a1.toInt + 1 → x1.toInt < Code_blocks.toInt → x2.toInt = a1.toInt + 1 → x3 = Code_first x2.toNatClampNeg → gB x3 0 200 → R x3) →
  R o1
abbrev ky_601_Code_blockEnd : gKey := (cX0_blockEnd, 2, yX0_blockEnd.cls, (some FieldType.int), [], yX0_blockEnd.name, fun _ _ => True)
abbrev po_601_Code_blockEnd (I : FieldType → ClassId) (q578 : Nat) (q579 : Nat) (q580 : Nat) (q581 : Nat) (q582 : Nat) (q583 : Nat) (q584 : Nat) (q585 : Nat) (q586 : Nat) (q587 : Nat) (p588 : Int32) (p589 : Int32) (p590 : Int32) (p591 : Int32) (f592 : Nat → Int32) (f593 : Nat → Int32) (f594 : Nat → Int32) (f595 : Nat → Int32) (f596 : Nat → Int32) (f597 : Nat → Int32) (f598 : Nat → Int32) (f599 : Nat → Int32) (f600 : Nat → Int32) : Option Value → va_W → Prop := fun r w => (∃ (z602 : Int32), r = some (.int p590) ∧ w = [(q578, .inr (5, [.ref q579, .ref q580, .ref q581, .ref q582, .ref q583, .ref q584, .ref q585, .ref q586, .ref q587, .int p589, .int p590, .int p591])), (q579, .inl (I .int, 40, .inl f592)), (q580, .inl (I .int, 40, .inl f593)), (q581, .inl (I .int, 40, .inl f594)), (q582, .inl (I .int, 200, .inl f595)), (q583, .inl (I .int, 200, .inl f596)), (q584, .inl (I .int, 200, .inl f597)), (q585, .inl (I .int, 200, .inl f598)), (q586, .inl (I .int, 200, .inl f599)), (q587, .inl (I .int, 200, .inl f600))] ∧ z602.toInt = p588.toInt + 1 ∧ p589.toInt ≤ z602.toInt ∧ gB z602 1 40 ∧ tr_Code_blockEnd p588 p589 p590 f592 p590) ∨ (∃ (z607 : Int32) (z602 : Int32) (z606 : Int32), r = some (.int z607) ∧ w = [(q578, .inr (5, [.ref q579, .ref q580, .ref q581, .ref q582, .ref q583, .ref q584, .ref q585, .ref q586, .ref q587, .int p589, .int p590, .int p591])), (q579, .inl (I .int, 40, .inl f592)), (q580, .inl (I .int, 40, .inl f593)), (q581, .inl (I .int, 40, .inl f594)), (q582, .inl (I .int, 200, .inl f595)), (q583, .inl (I .int, 200, .inl f596)), (q584, .inl (I .int, 200, .inl f597)), (q585, .inl (I .int, 200, .inl f598)), (q586, .inl (I .int, 200, .inl f599)), (q587, .inl (I .int, 200, .inl f600))] ∧ z602.toInt = p588.toInt + 1 ∧ z602.toInt < p589.toInt ∧ z606.toInt = p588.toInt + 1 ∧ z607 = f592 z606.toNatClampNeg ∧ gB z607 0 200 ∧ gB z602 1 39 ∧ gB z606 1 40 ∧ tr_Code_blockEnd p588 p589 p590 f592 z607)
set_option maxRecDepth 100000 in
set_option maxHeartbeats 4000000 in
theorem ct_601_Code_blockEnd (l : Launch) (hl0 : l.stackTraces = false) (D : va_G) (I : FieldType → ClassId) (q578 : Nat) (q579 : Nat) (q580 : Nat) (q581 : Nat) (q582 : Nat) (q583 : Nat) (q584 : Nat) (q585 : Nat) (q586 : Nat) (q587 : Nat) (p588 : Int32) (p589 : Int32) (p590 : Int32) (p591 : Int32) (f592 : Nat → Int32) (f593 : Nat → Int32) (f594 : Nat → Int32) (f595 : Nat → Int32) (f596 : Nat → Int32) (f597 : Nat → Int32) (f598 : Nat → Int32) (f599 : Nat → Int32) (f600 : Nat → Int32) (bp588 : gB p588 0 39) (bp589 : gB p589 0 40) (bp590 : gB p590 0 200) (bp591 : gB p591 0 1) (bf592 : gF f592 0 200) (bf595 : gF f595 0 21) : Ct (gV D I) l yX0_blockEnd cX0_blockEnd 2 (some FieldType.int) 0 0 0 0 [.ref q578, .int p588] [(q578, .inr (5, [.ref q579, .ref q580, .ref q581, .ref q582, .ref q583, .ref q584, .ref q585, .ref q586, .ref q587, .int p589, .int p590, .int p591])), (q579, .inl (I .int, 40, .inl f592)), (q580, .inl (I .int, 40, .inl f593)), (q581, .inl (I .int, 40, .inl f594)), (q582, .inl (I .int, 200, .inl f595)), (q583, .inl (I .int, 200, .inl f596)), (q584, .inl (I .int, 200, .inl f597)), (q585, .inl (I .int, 200, .inl f598)), (q586, .inl (I .int, 200, .inl f599)), (q587, .inl (I .int, 200, .inl f600))] (po_601_Code_blockEnd I q578 q579 q580 q581 q582 q583 q584 q585 q586 q587 p588 p589 p590 p591 f592 f593 f594 f595 f596 f597 f598 f599 f600) gN := by
  refine Ct_of hl0 (by decide) (Nat.le_of_ble_eq_true rfl) ?_
  refine G_iload_n 1 d_cX0_blockEnd_0 rfl ?_
  refine G_iconst 1 d_cX0_blockEnd_1 (by decide +kernel) ?_
  refine G_iadd d_cX0_blockEnd_2 (G_nam fun z602 hz602 => ?_)
  have ez602 : z602.toInt = p588.toInt + 1 := by rw [gI_add hz602 bp588 (gBl (show Int32.toInt 1 = 1 by decide)) (by decide) (by decide), show Int32.toInt 1 = 1 from by decide]
  have bz602 : gB z602 1 40 := gB_add (gI_add hz602 bp588 (gBl (show Int32.toInt 1 = 1 by decide)) (by decide) (by decide)) bp588 (gBl (show Int32.toInt 1 = 1 by decide)) (by decide) (by decide)
  refine G_aload_n 0 d_cX0_blockEnd_3 rfl ?_
  refine G_getf 0 9 d_cX0_blockEnd_4 rfl (gk_X0 D I) (Nat.le_of_ble_eq_true rfl) w_1_187 rfl ?_
  refine G_icmp_ge 21 d_cX0_blockEnd_7 (by decide +kernel) (fun hc603 => ?_) (fun hc603 => ?_)
  · have r604 : p589.toInt ≤ z602.toInt := gC_le hc603
    refine G_aload_n 0 d_cX0_blockEnd_21 rfl ?_
    refine G_getf 0 10 d_cX0_blockEnd_22 rfl (gk_X0 D I) (Nat.le_of_ble_eq_true rfl) w_1_197 rfl ?_
    exact G_iret d_cX0_blockEnd_25 rfl (Nat.le_of_ble_eq_true rfl) (Nat.le_of_ble_eq_true rfl) (Or.inl ⟨z602, rfl, rfl, ez602, r604, bz602, (fun R c1 c2 => c1 z602 ez602 r604)⟩)
  · have r605 : z602.toInt < p589.toInt := gC_nle hc603
    have bz602' : gB z602 1 39 := ⟨by omega, by omega⟩
    have bp589' : gB p589 2 40 := ⟨by omega, by omega⟩
    refine G_aload_n 0 d_cX0_blockEnd_10 rfl ?_
    refine G_getf 0 0 d_cX0_blockEnd_11 rfl (gk_X0 D I) (Nat.le_of_ble_eq_true rfl) w_1_142 rfl ?_
    refine G_iload_n 1 d_cX0_blockEnd_14 rfl ?_
    refine G_iconst 1 d_cX0_blockEnd_15 (by decide +kernel) ?_
    refine G_iadd d_cX0_blockEnd_16 (G_nam fun z606 hz606 => ?_)
    have ez606 : z606.toInt = p588.toInt + 1 := by rw [gI_add hz606 bp588 (gBl (show Int32.toInt 1 = 1 by decide)) (by decide) (by decide), show Int32.toInt 1 = 1 from by decide]
    have bz606 : gB z606 1 40 := gB_add (gI_add hz606 bp588 (gBl (show Int32.toInt 1 = 1 by decide)) (by decide) (by decide)) bp588 (gBl (show Int32.toInt 1 = 1 by decide)) (by decide) (by decide)
    refine G_iald 1 0 d_cX0_blockEnd_17 rfl rfl (gB_inr (by omega) (by omega)) (G_nam fun z607 hz607 => ?_)
    have bz607 : gB z607 0 200 := by rw [hz607]; exact bf592 _
    refine G_goto 25 d_cX0_blockEnd_18 (by decide +kernel) ?_
    exact G_iret d_cX0_blockEnd_25 rfl (Nat.le_of_ble_eq_true rfl) (Nat.le_of_ble_eq_true rfl) (Or.inr (⟨z607, z602, z606, rfl, rfl, ez602, r605, ez606, hz607, bz607, bz602', bz606, (fun R c1 c2 => c2 z602 z606 z607 ez602 r605 ez606 hz607 bz607)⟩))
/- tr_Code_goal: result -/
def tr_Code_goal (a1 : Int32) (a2 : Int32) (Code_firstGoal : Nat → Int32) (Code_secondGoal : Nat → Int32) (o1 : Int32) : Prop := ∀ R : (Int32) → Prop,
  (∀ (x1 : Int32), a2.toInt ≠ 0 → x1 = Code_secondGoal a1.toNatClampNeg → R x1) →
  (∀ (x1 : Int32), a2.toInt = 0 → x1 = Code_firstGoal a1.toNatClampNeg → R x1) →
  R o1
abbrev ky_632_Code_goal : gKey := (cX0_goal, 3, yX0_goal.cls, (some FieldType.int), [], yX0_goal.name, fun _ _ => True)
abbrev po_632_Code_goal (I : FieldType → ClassId) (q608 : Nat) (q609 : Nat) (q610 : Nat) (q611 : Nat) (q612 : Nat) (q613 : Nat) (q614 : Nat) (q615 : Nat) (q616 : Nat) (q617 : Nat) (p618 : Int32) (p619 : Int32) (p620 : Int32) (p621 : Int32) (p622 : Int32) (f623 : Nat → Int32) (f624 : Nat → Int32) (f625 : Nat → Int32) (f626 : Nat → Int32) (f627 : Nat → Int32) (f628 : Nat → Int32) (f629 : Nat → Int32) (f630 : Nat → Int32) (f631 : Nat → Int32) : Option Value → va_W → Prop := fun r w => (∃ (z635 : Int32), r = some (.int z635) ∧ w = [(q608, .inr (5, [.ref q609, .ref q610, .ref q611, .ref q612, .ref q613, .ref q614, .ref q615, .ref q616, .ref q617, .int p620, .int p621, .int p622])), (q609, .inl (I .int, 40, .inl f623)), (q610, .inl (I .int, 40, .inl f624)), (q611, .inl (I .int, 40, .inl f625)), (q612, .inl (I .int, 200, .inl f626)), (q613, .inl (I .int, 200, .inl f627)), (q614, .inl (I .int, 200, .inl f628)), (q615, .inl (I .int, 200, .inl f629)), (q616, .inl (I .int, 200, .inl f630)), (q617, .inl (I .int, 200, .inl f631))] ∧ p619.toInt ≠ 0 ∧ z635 = f625 p618.toNatClampNeg ∧ gB z635 (-2147483648) 2147483647 ∧ tr_Code_goal p618 p619 f624 f625 z635) ∨ (∃ (z637 : Int32), r = some (.int z637) ∧ w = [(q608, .inr (5, [.ref q609, .ref q610, .ref q611, .ref q612, .ref q613, .ref q614, .ref q615, .ref q616, .ref q617, .int p620, .int p621, .int p622])), (q609, .inl (I .int, 40, .inl f623)), (q610, .inl (I .int, 40, .inl f624)), (q611, .inl (I .int, 40, .inl f625)), (q612, .inl (I .int, 200, .inl f626)), (q613, .inl (I .int, 200, .inl f627)), (q614, .inl (I .int, 200, .inl f628)), (q615, .inl (I .int, 200, .inl f629)), (q616, .inl (I .int, 200, .inl f630)), (q617, .inl (I .int, 200, .inl f631))] ∧ p619.toInt = 0 ∧ z637 = f624 p618.toNatClampNeg ∧ gB z637 (-2147483648) 2147483647 ∧ tr_Code_goal p618 p619 f624 f625 z637)
set_option maxRecDepth 100000 in
set_option maxHeartbeats 4000000 in
theorem ct_632_Code_goal (l : Launch) (hl0 : l.stackTraces = false) (D : va_G) (I : FieldType → ClassId) (q608 : Nat) (q609 : Nat) (q610 : Nat) (q611 : Nat) (q612 : Nat) (q613 : Nat) (q614 : Nat) (q615 : Nat) (q616 : Nat) (q617 : Nat) (p618 : Int32) (p619 : Int32) (p620 : Int32) (p621 : Int32) (p622 : Int32) (f623 : Nat → Int32) (f624 : Nat → Int32) (f625 : Nat → Int32) (f626 : Nat → Int32) (f627 : Nat → Int32) (f628 : Nat → Int32) (f629 : Nat → Int32) (f630 : Nat → Int32) (f631 : Nat → Int32) (bp618 : gB p618 0 39) (bp620 : gB p620 0 40) (bp621 : gB p621 0 200) (bp622 : gB p622 0 1) (bf623 : gF f623 0 200) (bf626 : gF f626 0 21) : Ct (gV D I) l yX0_goal cX0_goal 3 (some FieldType.int) 0 0 0 0 [.ref q608, .int p618, .int p619] [(q608, .inr (5, [.ref q609, .ref q610, .ref q611, .ref q612, .ref q613, .ref q614, .ref q615, .ref q616, .ref q617, .int p620, .int p621, .int p622])), (q609, .inl (I .int, 40, .inl f623)), (q610, .inl (I .int, 40, .inl f624)), (q611, .inl (I .int, 40, .inl f625)), (q612, .inl (I .int, 200, .inl f626)), (q613, .inl (I .int, 200, .inl f627)), (q614, .inl (I .int, 200, .inl f628)), (q615, .inl (I .int, 200, .inl f629)), (q616, .inl (I .int, 200, .inl f630)), (q617, .inl (I .int, 200, .inl f631))] (po_632_Code_goal I q608 q609 q610 q611 q612 q613 q614 q615 q616 q617 p618 p619 p620 p621 p622 f623 f624 f625 f626 f627 f628 f629 f630 f631) gN := by
  refine Ct_of hl0 (by decide) (Nat.le_of_ble_eq_true rfl) ?_
  have bp619 := gB_any p619
  refine G_iload_n 2 d_cX0_goal_0 rfl ?_
  refine G_if_ne 13 d_cX0_goal_1 (by decide +kernel) (fun hc633 => ?_) (fun hc633 => ?_)
  · have r634 : p619.toInt ≠ 0 := gj_neq hc633 (show Int32.toInt 0 = 0 by decide)
    refine G_aload_n 0 d_cX0_goal_13 rfl ?_
    refine G_getf 0 2 d_cX0_goal_14 rfl (gk_X0 D I) (Nat.le_of_ble_eq_true rfl) w_1_154 rfl ?_
    refine G_iload_n 1 d_cX0_goal_17 rfl ?_
    refine G_iald 3 0 d_cX0_goal_18 rfl rfl (gB_in bp618 (by decide) (by decide)) (G_nam fun z635 hz635 => ?_)
    have bz635 : gB z635 (-2147483648) 2147483647 := gB_any z635
    exact G_iret d_cX0_goal_19 rfl (Nat.le_of_ble_eq_true rfl) (Nat.le_of_ble_eq_true rfl) (Or.inl ⟨z635, rfl, rfl, r634, hz635, bz635, (fun R c1 c2 => c1 z635 r634 hz635)⟩)
  · have r636 : p619.toInt = 0 := gj_eq hc633 (show Int32.toInt 0 = 0 by decide)
    have bp619' : gB p619 0 0 := ⟨by omega, by omega⟩
    refine G_aload_n 0 d_cX0_goal_4 rfl ?_
    refine G_getf 0 1 d_cX0_goal_5 rfl (gk_X0 D I) (Nat.le_of_ble_eq_true rfl) w_1_149 rfl ?_
    refine G_iload_n 1 d_cX0_goal_8 rfl ?_
    refine G_iald 2 0 d_cX0_goal_9 rfl rfl (gB_in bp618 (by decide) (by decide)) (G_nam fun z637 hz637 => ?_)
    have bz637 : gB z637 (-2147483648) 2147483647 := gB_any z637
    refine G_goto 19 d_cX0_goal_10 (by decide +kernel) ?_
    exact G_iret d_cX0_goal_19 rfl (Nat.le_of_ble_eq_true rfl) (Nat.le_of_ble_eq_true rfl) (Or.inr (⟨z637, rfl, rfl, r636, hz637, bz637, (fun R c1 c2 => c2 z637 r636 hz637)⟩))
/- tr_Code_openBlock: result, Code_blocks, Code_first, Code_firstGoal, Code_secondGoal -/
def tr_Code_openBlock (Code_blocks : Int32) (Code_lines : Int32) (Code_first : Nat → Int32) (Code_firstGoal : Nat → Int32) (Code_secondGoal : Nat → Int32) (o1 : Int32) (o2 : Int32) (o3 : Nat → Int32) (o4 : Nat → Int32) (o5 : Nat → Int32) : Prop := ∀ R : (Int32) → (Int32) → (Nat → Int32) → (Nat → Int32) → (Nat → Int32) → Prop,
  (∀ (x1 : Nat → Int32) (x2 : Nat → Int32) (x3 : Nat → Int32) (x4 : Int32), Code_blocks.toInt < 40 → x1 = upd Code_first Code_blocks.toNatClampNeg Code_lines → x2 = upd Code_firstGoal Code_blocks.toNatClampNeg (-1 : Int32) → x3 = upd Code_secondGoal Code_blocks.toNatClampNeg (-1 : Int32) → x4.toInt = Code_blocks.toInt + 1 → R (1 : Int32) x4 x1 x2 x3) →
  (40 ≤ Code_blocks.toInt → R (0 : Int32) Code_blocks Code_first Code_firstGoal Code_secondGoal) →
  R o1 o2 o3 o4 o5
abbrev ky_660_Code_openBlock : gKey := (cX0_openBlock, 1, yX0_openBlock.cls, (some FieldType.boolean), [], yX0_openBlock.name, fun _ _ => True)
abbrev po_660_Code_openBlock (I : FieldType → ClassId) (q638 : Nat) (q639 : Nat) (q640 : Nat) (q641 : Nat) (q642 : Nat) (q643 : Nat) (q644 : Nat) (q645 : Nat) (q646 : Nat) (q647 : Nat) (p648 : Int32) (p649 : Int32) (p650 : Int32) (f651 : Nat → Int32) (f652 : Nat → Int32) (f653 : Nat → Int32) (f654 : Nat → Int32) (f655 : Nat → Int32) (f656 : Nat → Int32) (f657 : Nat → Int32) (f658 : Nat → Int32) (f659 : Nat → Int32) : Option Value → va_W → Prop := fun r w => ∃ (o672 : Int32) (o668 : Int32) (f669 : Nat → Int32) (f670 : Nat → Int32) (f671 : Nat → Int32), r = some (.int o672) ∧ w = [(q638, .inr (5, [.ref q639, .ref q640, .ref q641, .ref q642, .ref q643, .ref q644, .ref q645, .ref q646, .ref q647, .int o668, .int p649, .int p650])), (q639, .inl (I .int, 40, .inl f669)), (q640, .inl (I .int, 40, .inl f670)), (q641, .inl (I .int, 40, .inl f671)), (q642, .inl (I .int, 200, .inl f654)), (q643, .inl (I .int, 200, .inl f655)), (q644, .inl (I .int, 200, .inl f656)), (q645, .inl (I .int, 200, .inl f657)), (q646, .inl (I .int, 200, .inl f658)), (q647, .inl (I .int, 200, .inl f659))] ∧ gB o672 0 1 ∧ gB o668 1 40 ∧ gF f669 0 200 ∧ gF f670 (-2147483648) 2147483647 ∧ gF f671 (-2147483648) 2147483647 ∧ tr_Code_openBlock p648 p649 f651 f652 f653 o672 o668 f669 f670 f671
set_option maxRecDepth 100000 in
set_option maxHeartbeats 4000000 in
theorem ct_660_Code_openBlock (l : Launch) (hl0 : l.stackTraces = false) (D : va_G) (I : FieldType → ClassId) (q638 : Nat) (q639 : Nat) (q640 : Nat) (q641 : Nat) (q642 : Nat) (q643 : Nat) (q644 : Nat) (q645 : Nat) (q646 : Nat) (q647 : Nat) (p648 : Int32) (p649 : Int32) (p650 : Int32) (f651 : Nat → Int32) (f652 : Nat → Int32) (f653 : Nat → Int32) (f654 : Nat → Int32) (f655 : Nat → Int32) (f656 : Nat → Int32) (f657 : Nat → Int32) (f658 : Nat → Int32) (f659 : Nat → Int32) (bp648 : gB p648 0 40) (bp649 : gB p649 0 200) (bp650 : gB p650 0 1) (bf651 : gF f651 0 200) (bf654 : gF f654 0 21) : Ct (gV D I) l yX0_openBlock cX0_openBlock 1 (some FieldType.boolean) 0 0 0 0 [.ref q638] [(q638, .inr (5, [.ref q639, .ref q640, .ref q641, .ref q642, .ref q643, .ref q644, .ref q645, .ref q646, .ref q647, .int p648, .int p649, .int p650])), (q639, .inl (I .int, 40, .inl f651)), (q640, .inl (I .int, 40, .inl f652)), (q641, .inl (I .int, 40, .inl f653)), (q642, .inl (I .int, 200, .inl f654)), (q643, .inl (I .int, 200, .inl f655)), (q644, .inl (I .int, 200, .inl f656)), (q645, .inl (I .int, 200, .inl f657)), (q646, .inl (I .int, 200, .inl f658)), (q647, .inl (I .int, 200, .inl f659))] (po_660_Code_openBlock I q638 q639 q640 q641 q642 q643 q644 q645 q646 q647 p648 p649 p650 f651 f652 f653 f654 f655 f656 f657 f658 f659) gN := by
  refine Ct_of hl0 (by decide) (Nat.le_of_ble_eq_true rfl) ?_
  refine G_aload_n 0 d_cX0_openBlock_0 rfl ?_
  refine G_getf 0 9 d_cX0_openBlock_1 rfl (gk_X0 D I) (Nat.le_of_ble_eq_true rfl) w_1_187 rfl ?_
  refine G_bipush 40 d_cX0_openBlock_4 (by decide +kernel) ?_
  refine G_icmp_lt 11 d_cX0_openBlock_6 (by decide +kernel) (fun hc661 => ?_) (fun hc661 => ?_)
  · have r662 : p648.toInt < 40 := gj_lt hc661 (show Int32.toInt 40 = 40 by decide)
    have bp648' : gB p648 0 39 := ⟨by omega, by omega⟩
    refine G_aload_n 0 d_cX0_openBlock_11 rfl ?_
    refine G_getf 0 0 d_cX0_openBlock_12 rfl (gk_X0 D I) (Nat.le_of_ble_eq_true rfl) w_1_142 rfl ?_
    refine G_aload_n 0 d_cX0_openBlock_15 rfl ?_
    refine G_getf 0 9 d_cX0_openBlock_16 rfl (gk_X0 D I) (Nat.le_of_ble_eq_true rfl) w_1_187 rfl ?_
    refine G_aload_n 0 d_cX0_openBlock_19 rfl ?_
    refine G_getf 0 10 d_cX0_openBlock_20 rfl (gk_X0 D I) (Nat.le_of_ble_eq_true rfl) w_1_197 rfl ?_
    refine G_iastN 1 0 d_cX0_openBlock_23 rfl rfl (gB_in bp648' (by decide) (by decide)) (fun f663 hf663 => ?_)
    refine G_ws (ws' := [(q638, .inr (5, [.ref q639, .ref q640, .ref q641, .ref q642, .ref q643, .ref q644, .ref q645, .ref q646, .ref q647, .int p648, .int p649, .int p650])), (q639, .inl (I .int, 40, .inl f663)), (q640, .inl (I .int, 40, .inl f652)), (q641, .inl (I .int, 40, .inl f653)), (q642, .inl (I .int, 200, .inl f654)), (q643, .inl (I .int, 200, .inl f655)), (q644, .inl (I .int, 200, .inl f656)), (q645, .inl (I .int, 200, .inl f657)), (q646, .inl (I .int, 200, .inl f658)), (q647, .inl (I .int, 200, .inl f659))]) (cs' := 0) (sl' := 0) rfl rfl rfl ?_
    have bf663 : gF f663 0 200 := gF_upd hf663 bf651 bp649
    refine G_aload_n 0 d_cX0_openBlock_24 rfl ?_
    refine G_getf 0 1 d_cX0_openBlock_25 rfl (gk_X0 D I) (Nat.le_of_ble_eq_true rfl) w_1_149 rfl ?_
    refine G_aload_n 0 d_cX0_openBlock_28 rfl ?_
    refine G_getf 0 9 d_cX0_openBlock_29 rfl (gk_X0 D I) (Nat.le_of_ble_eq_true rfl) w_1_187 rfl ?_
    refine G_iconst (-1) d_cX0_openBlock_32 (by decide +kernel) ?_
    refine G_iastN 2 0 d_cX0_openBlock_33 rfl rfl (gB_in bp648' (by decide) (by decide)) (fun f664 hf664 => ?_)
    refine G_ws (ws' := [(q638, .inr (5, [.ref q639, .ref q640, .ref q641, .ref q642, .ref q643, .ref q644, .ref q645, .ref q646, .ref q647, .int p648, .int p649, .int p650])), (q639, .inl (I .int, 40, .inl f663)), (q640, .inl (I .int, 40, .inl f664)), (q641, .inl (I .int, 40, .inl f653)), (q642, .inl (I .int, 200, .inl f654)), (q643, .inl (I .int, 200, .inl f655)), (q644, .inl (I .int, 200, .inl f656)), (q645, .inl (I .int, 200, .inl f657)), (q646, .inl (I .int, 200, .inl f658)), (q647, .inl (I .int, 200, .inl f659))]) (cs' := 0) (sl' := 0) rfl rfl rfl ?_
    refine G_aload_n 0 d_cX0_openBlock_34 rfl ?_
    refine G_getf 0 2 d_cX0_openBlock_35 rfl (gk_X0 D I) (Nat.le_of_ble_eq_true rfl) w_1_154 rfl ?_
    refine G_aload_n 0 d_cX0_openBlock_38 rfl ?_
    refine G_getf 0 9 d_cX0_openBlock_39 rfl (gk_X0 D I) (Nat.le_of_ble_eq_true rfl) w_1_187 rfl ?_
    refine G_iconst (-1) d_cX0_openBlock_42 (by decide +kernel) ?_
    refine G_iastN 3 0 d_cX0_openBlock_43 rfl rfl (gB_in bp648' (by decide) (by decide)) (fun f665 hf665 => ?_)
    refine G_ws (ws' := [(q638, .inr (5, [.ref q639, .ref q640, .ref q641, .ref q642, .ref q643, .ref q644, .ref q645, .ref q646, .ref q647, .int p648, .int p649, .int p650])), (q639, .inl (I .int, 40, .inl f663)), (q640, .inl (I .int, 40, .inl f664)), (q641, .inl (I .int, 40, .inl f665)), (q642, .inl (I .int, 200, .inl f654)), (q643, .inl (I .int, 200, .inl f655)), (q644, .inl (I .int, 200, .inl f656)), (q645, .inl (I .int, 200, .inl f657)), (q646, .inl (I .int, 200, .inl f658)), (q647, .inl (I .int, 200, .inl f659))]) (cs' := 0) (sl' := 0) rfl rfl rfl ?_
    refine G_aload_n 0 d_cX0_openBlock_44 rfl ?_
    refine G_dup d_cX0_openBlock_45 rfl ?_
    refine G_getf 0 9 d_cX0_openBlock_46 rfl (gk_X0 D I) (Nat.le_of_ble_eq_true rfl) w_1_187 rfl ?_
    refine G_iconst 1 d_cX0_openBlock_49 (by decide +kernel) ?_
    refine G_iadd d_cX0_openBlock_50 (G_nam fun z666 hz666 => ?_)
    have ez666 : z666.toInt = p648.toInt + 1 := by rw [gI_add hz666 bp648' (gBl (show Int32.toInt 1 = 1 by decide)) (by decide) (by decide), show Int32.toInt 1 = 1 from by decide]
    have bz666 : gB z666 1 40 := gB_add (gI_add hz666 bp648' (gBl (show Int32.toInt 1 = 1 by decide)) (by decide) (by decide)) bp648' (gBl (show Int32.toInt 1 = 1 by decide)) (by decide) (by decide)
    refine G_putf (ws' := [(q638, .inr (5, [.ref q639, .ref q640, .ref q641, .ref q642, .ref q643, .ref q644, .ref q645, .ref q646, .ref q647, .int z666, .int p649, .int p650])), (q639, .inl (I .int, 40, .inl f663)), (q640, .inl (I .int, 40, .inl f664)), (q641, .inl (I .int, 40, .inl f665)), (q642, .inl (I .int, 200, .inl f654)), (q643, .inl (I .int, 200, .inl f655)), (q644, .inl (I .int, 200, .inl f656)), (q645, .inl (I .int, 200, .inl f657)), (q646, .inl (I .int, 200, .inl f658)), (q647, .inl (I .int, 200, .inl f659))]) 0 9 d_cX0_openBlock_51 rfl (gk_X0 D I) (Nat.le_of_ble_eq_true rfl) w_1_187 rfl rfl rfl (Nat.le_of_ble_eq_true rfl) rfl ?_
    refine G_iconst 1 d_cX0_openBlock_54 (by decide +kernel) ?_
    exact G_zret FieldType.boolean d_cX0_openBlock_55 rfl rfl (Nat.le_of_ble_eq_true rfl) (Nat.le_of_ble_eq_true rfl) ⟨1, z666, f663, f664, f665, rfl, rfl, (gB_w (gBl (show Int32.toInt 1 = 1 by decide)) (by decide) (by decide)), bz666, bf663, (gF_any f664), (gF_any f665), (fun R c1 c2 => c1 f663 f664 f665 z666 r662 hf663 hf664 hf665 ez666)⟩
  · have r667 : 40 ≤ p648.toInt := gj_nlt hc661 (show Int32.toInt 40 = 40 by decide)
    have bp648' : gB p648 40 40 := ⟨by omega, by omega⟩
    refine G_iconst 0 d_cX0_openBlock_9 (by decide +kernel) ?_
    exact G_zret FieldType.boolean d_cX0_openBlock_10 rfl rfl (Nat.le_of_ble_eq_true rfl) (Nat.le_of_ble_eq_true rfl) ⟨0, p648, f651, f652, f653, rfl, rfl, (gB_w (gBl (show Int32.toInt 0 = 0 by decide)) (by decide) (by decide)), (gB_w bp648' (by decide) (by decide)), bf651, (gF_any f652), (gF_any f653), (fun R c1 c2 => c2 r667)⟩
/- tr_Code_addGoal: result, Code_firstGoal, Code_secondGoal -/
def tr_Code_addGoal (a1 : Int32) (Code_blocks : Int32) (Code_firstGoal : Nat → Int32) (Code_secondGoal : Nat → Int32) (o1 : Int32) (o2 : Nat → Int32) (o3 : Nat → Int32) : Prop := ∀ R : (Int32) → (Nat → Int32) → (Nat → Int32) → Prop,
  (∀ (x1 : Int32) (x2 : Int32) (x3 : Nat → Int32) (x4 : Int32), x1.toInt = Code_blocks.toInt - 1 → 0 ≤ x1.toInt → x2 = Code_firstGoal x1.toNatClampNeg → x2.toInt = (-1) → x3 = upd Code_firstGoal x1.toNatClampNeg a1 → x4.toInt = 2 * x1.toInt → R x4 x3 Code_secondGoal) →
  (∀ (x1 : Int32) (x2 : Int32) (x3 : Nat → Int32) (x4 : Int32) (x5 : Int32), x1.toInt = Code_blocks.toInt - 1 → 0 ≤ x1.toInt → x2 = Code_firstGoal x1.toNatClampNeg → x2.toInt ≠ (-1) → x3 = upd Code_secondGoal x1.toNatClampNeg a1 → x4.toInt = 2 * x1.toInt → x5.toInt = x4.toInt + 1 → R x5 Code_firstGoal x3) →
  (∀ (x1 : Int32), x1.toInt = Code_blocks.toInt - 1 → x1.toInt < 0 → R (-1 : Int32) Code_firstGoal Code_secondGoal) →
  R o1 o2 o3
abbrev ky_696_Code_addGoal : gKey := (cX0_addGoal, 5, yX0_addGoal.cls, (some FieldType.int), [], yX0_addGoal.name, fun _ _ => True)
abbrev po_696_Code_addGoal (I : FieldType → ClassId) (q673 : Nat) (q674 : Nat) (q675 : Nat) (q676 : Nat) (q677 : Nat) (q678 : Nat) (q679 : Nat) (q680 : Nat) (q681 : Nat) (q682 : Nat) (p683 : Int32) (p684 : Int32) (p685 : Int32) (p686 : Int32) (f687 : Nat → Int32) (f688 : Nat → Int32) (f689 : Nat → Int32) (f690 : Nat → Int32) (f691 : Nat → Int32) (f692 : Nat → Int32) (f693 : Nat → Int32) (f694 : Nat → Int32) (f695 : Nat → Int32) : Option Value → va_W → Prop := fun r w => ∃ (o712 : Int32) (f710 : Nat → Int32) (f711 : Nat → Int32), r = some (.int o712) ∧ w = [(q673, .inr (5, [.ref q674, .ref q675, .ref q676, .ref q677, .ref q678, .ref q679, .ref q680, .ref q681, .ref q682, .int p684, .int p685, .int p686])), (q674, .inl (I .int, 40, .inl f687)), (q675, .inl (I .int, 40, .inl f710)), (q676, .inl (I .int, 40, .inl f711)), (q677, .inl (I .int, 200, .inl f690)), (q678, .inl (I .int, 200, .inl f691)), (q679, .inl (I .int, 200, .inl f692)), (q680, .inl (I .int, 200, .inl f693)), (q681, .inl (I .int, 200, .inl f694)), (q682, .inl (I .int, 200, .inl f695))] ∧ gB o712 (-1) 79 ∧ gF f710 (-2147483648) 2147483647 ∧ gF f711 (-2147483648) 2147483647 ∧ tr_Code_addGoal p683 p684 f688 f689 o712 f710 f711
set_option maxRecDepth 100000 in
set_option maxHeartbeats 4000000 in
theorem ct_696_Code_addGoal (l : Launch) (hl0 : l.stackTraces = false) (D : va_G) (I : FieldType → ClassId) (q673 : Nat) (q674 : Nat) (q675 : Nat) (q676 : Nat) (q677 : Nat) (q678 : Nat) (q679 : Nat) (q680 : Nat) (q681 : Nat) (q682 : Nat) (p683 : Int32) (p684 : Int32) (p685 : Int32) (p686 : Int32) (f687 : Nat → Int32) (f688 : Nat → Int32) (f689 : Nat → Int32) (f690 : Nat → Int32) (f691 : Nat → Int32) (f692 : Nat → Int32) (f693 : Nat → Int32) (f694 : Nat → Int32) (f695 : Nat → Int32) (bp684 : gB p684 0 40) (bp685 : gB p685 0 200) (bp686 : gB p686 0 1) (bf687 : gF f687 0 200) (bf690 : gF f690 0 21) : Ct (gV D I) l yX0_addGoal cX0_addGoal 5 (some FieldType.int) 0 0 0 0 [.ref q673, .int p683] [(q673, .inr (5, [.ref q674, .ref q675, .ref q676, .ref q677, .ref q678, .ref q679, .ref q680, .ref q681, .ref q682, .int p684, .int p685, .int p686])), (q674, .inl (I .int, 40, .inl f687)), (q675, .inl (I .int, 40, .inl f688)), (q676, .inl (I .int, 40, .inl f689)), (q677, .inl (I .int, 200, .inl f690)), (q678, .inl (I .int, 200, .inl f691)), (q679, .inl (I .int, 200, .inl f692)), (q680, .inl (I .int, 200, .inl f693)), (q681, .inl (I .int, 200, .inl f694)), (q682, .inl (I .int, 200, .inl f695))] (po_696_Code_addGoal I q673 q674 q675 q676 q677 q678 q679 q680 q681 q682 p683 p684 p685 p686 f687 f688 f689 f690 f691 f692 f693 f694 f695) gN := by
  refine Ct_of hl0 (by decide) (Nat.le_of_ble_eq_true rfl) ?_
  have bp683 := gB_any p683
  refine G_aload_n 0 d_cX0_addGoal_0 rfl ?_
  refine G_getf 0 9 d_cX0_addGoal_1 rfl (gk_X0 D I) (Nat.le_of_ble_eq_true rfl) w_1_187 rfl ?_
  refine G_iconst 1 d_cX0_addGoal_4 (by decide +kernel) ?_
  refine G_isub d_cX0_addGoal_5 (G_nam fun z697 hz697 => ?_)
  have ez697 : z697.toInt = p684.toInt - 1 := by rw [gI_sub hz697 bp684 (gBl (show Int32.toInt 1 = 1 by decide)) (by decide) (by decide), show Int32.toInt 1 = 1 from by decide]
  have bz697 : gB z697 (-1) 39 := gB_sub (gI_sub hz697 bp684 (gBl (show Int32.toInt 1 = 1 by decide)) (by decide) (by decide)) bp684 (gBl (show Int32.toInt 1 = 1 by decide)) (by decide) (by decide)
  refine G_istore_n (L' := [(2, .int z697), (0, .ref q673), (1, .int p683)]) d_cX0_addGoal_6 (Nat.le_of_ble_eq_true rfl) rfl ?_
  refine G_iload_n 0 d_cX0_addGoal_7 rfl ?_
  refine G_if_ge 13 d_cX0_addGoal_8 (by decide +kernel) (fun hc698 => ?_) (fun hc698 => ?_)
  · have r699 : 0 ≤ z697.toInt := gj_leL hc698 (show Int32.toInt 0 = 0 by decide)
    have bz697' : gB z697 0 39 := ⟨by omega, by omega⟩
    refine G_aload_n 1 d_cX0_addGoal_13 rfl ?_
    refine G_getf 0 1 d_cX0_addGoal_14 rfl (gk_X0 D I) (Nat.le_of_ble_eq_true rfl) w_1_149 rfl ?_
    refine G_iload_n 0 d_cX0_addGoal_17 rfl ?_
    refine G_iald 2 0 d_cX0_addGoal_18 rfl rfl (gB_in bz697' (by decide) (by decide)) (G_nam fun z700 hz700 => ?_)
    have bz700 : gB z700 (-2147483648) 2147483647 := gB_any z700
    refine G_iconst (-1) d_cX0_addGoal_19 (by decide +kernel) ?_
    refine G_icmp_eq 27 d_cX0_addGoal_20 (by decide +kernel) (fun hc701 => ?_) (fun hc701 => ?_)
    · have r702 : z700.toInt = (-1) := gj_eq hc701 (show Int32.toInt (-1) = (-1) by decide)
      have bz700' : gB z700 (-1) (-1) := ⟨by omega, by omega⟩
      refine G_iconst 0 d_cX0_addGoal_27 (by decide +kernel) ?_
      refine G_istore_n (L' := [(3, .int 0), (2, .int z697), (0, .ref q673), (1, .int p683)]) d_cX0_addGoal_28 (Nat.le_of_ble_eq_true rfl) rfl ?_
      refine G_iload_n 0 d_cX0_addGoal_29 rfl ?_
      refine G_if_eq 40 d_cX0_addGoal_30 (by decide +kernel) (fun _ => ?_) (fun hc => absurd hc (by decide))
      refine G_aload_n 2 d_cX0_addGoal_40 rfl ?_
      refine G_getf 0 1 d_cX0_addGoal_41 rfl (gk_X0 D I) (Nat.le_of_ble_eq_true rfl) w_1_149 rfl ?_
      refine G_astore (L' := [(4, .ref q675), (3, .int 0), (2, .int z697), (0, .ref q673), (1, .int p683)]) d_cX0_addGoal_44 (Nat.le_of_ble_eq_true rfl) rfl ?_
      refine G_aload 0 d_cX0_addGoal_46 rfl ?_
      refine G_iload_n 2 d_cX0_addGoal_48 rfl ?_
      refine G_iload_n 4 d_cX0_addGoal_49 rfl ?_
      refine G_iastN 2 0 d_cX0_addGoal_50 rfl rfl (gB_in bz697' (by decide) (by decide)) (fun f703 hf703 => ?_)
      refine G_ws (ws' := [(q673, .inr (5, [.ref q674, .ref q675, .ref q676, .ref q677, .ref q678, .ref q679, .ref q680, .ref q681, .ref q682, .int p684, .int p685, .int p686])), (q674, .inl (I .int, 40, .inl f687)), (q675, .inl (I .int, 40, .inl f703)), (q676, .inl (I .int, 40, .inl f689)), (q677, .inl (I .int, 200, .inl f690)), (q678, .inl (I .int, 200, .inl f691)), (q679, .inl (I .int, 200, .inl f692)), (q680, .inl (I .int, 200, .inl f693)), (q681, .inl (I .int, 200, .inl f694)), (q682, .inl (I .int, 200, .inl f695))]) (cs' := 0) (sl' := 0) rfl rfl rfl ?_
      refine G_iload_n 1 d_cX0_addGoal_51 rfl ?_
      refine G_if_eq 63 d_cX0_addGoal_52 (by decide +kernel) (fun _ => ?_) (fun hc => absurd hc (by decide))
      refine G_iconst 2 d_cX0_addGoal_63 (by decide +kernel) ?_
      refine G_iload_n 2 d_cX0_addGoal_64 rfl ?_
      refine G_imul d_cX0_addGoal_65 (G_nam fun z704 hz704 => ?_)
      have ez704 : z704.toInt = 2 * z697.toInt := by rw [gI_mul hz704 (gBl (show Int32.toInt 2 = 2 by decide)) bz697' (by decide) (by decide) (by decide), show Int32.toInt 2 = 2 from by decide]
      have bz704 : gB z704 0 78 := gB_mul hz704 (gBl (show Int32.toInt 2 = 2 by decide)) bz697' (by decide) (by decide) (by decide) (by decide)
      exact G_iret d_cX0_addGoal_66 rfl (Nat.le_of_ble_eq_true rfl) (Nat.le_of_ble_eq_true rfl) ⟨z704, f703, f689, rfl, rfl, (gB_w bz704 (by decide) (by decide)), (gF_any f703), (gF_any f689), (fun R c1 c2 c3 => c1 z697 z700 f703 z704 ez697 r699 hz700 r702 hf703 ez704)⟩
    · have r705 : z700.toInt ≠ (-1) := gj_neq hc701 (show Int32.toInt (-1) = (-1) by decide)
      refine G_iconst 1 d_cX0_addGoal_23 (by decide +kernel) ?_
      refine G_goto 28 d_cX0_addGoal_24 (by decide +kernel) ?_
      refine G_istore_n (L' := [(3, .int 1), (2, .int z697), (0, .ref q673), (1, .int p683)]) d_cX0_addGoal_28 (Nat.le_of_ble_eq_true rfl) rfl ?_
      refine G_iload_n 0 d_cX0_addGoal_29 rfl ?_
      refine G_if_eq 40 d_cX0_addGoal_30 (by decide +kernel) (fun hc => absurd hc (by decide)) (fun _ => ?_)
      refine G_aload_n 2 d_cX0_addGoal_33 rfl ?_
      refine G_getf 0 2 d_cX0_addGoal_34 rfl (gk_X0 D I) (Nat.le_of_ble_eq_true rfl) w_1_154 rfl ?_
      refine G_goto 44 d_cX0_addGoal_37 (by decide +kernel) ?_
      refine G_astore (L' := [(4, .ref q676), (3, .int 1), (2, .int z697), (0, .ref q673), (1, .int p683)]) d_cX0_addGoal_44 (Nat.le_of_ble_eq_true rfl) rfl ?_
      refine G_aload 0 d_cX0_addGoal_46 rfl ?_
      refine G_iload_n 2 d_cX0_addGoal_48 rfl ?_
      refine G_iload_n 4 d_cX0_addGoal_49 rfl ?_
      refine G_iastN 3 0 d_cX0_addGoal_50 rfl rfl (gB_in bz697' (by decide) (by decide)) (fun f706 hf706 => ?_)
      refine G_ws (ws' := [(q673, .inr (5, [.ref q674, .ref q675, .ref q676, .ref q677, .ref q678, .ref q679, .ref q680, .ref q681, .ref q682, .int p684, .int p685, .int p686])), (q674, .inl (I .int, 40, .inl f687)), (q675, .inl (I .int, 40, .inl f688)), (q676, .inl (I .int, 40, .inl f706)), (q677, .inl (I .int, 200, .inl f690)), (q678, .inl (I .int, 200, .inl f691)), (q679, .inl (I .int, 200, .inl f692)), (q680, .inl (I .int, 200, .inl f693)), (q681, .inl (I .int, 200, .inl f694)), (q682, .inl (I .int, 200, .inl f695))]) (cs' := 0) (sl' := 0) rfl rfl rfl ?_
      refine G_iload_n 1 d_cX0_addGoal_51 rfl ?_
      refine G_if_eq 63 d_cX0_addGoal_52 (by decide +kernel) (fun hc => absurd hc (by decide)) (fun _ => ?_)
      refine G_iconst 2 d_cX0_addGoal_55 (by decide +kernel) ?_
      refine G_iload_n 2 d_cX0_addGoal_56 rfl ?_
      refine G_imul d_cX0_addGoal_57 (G_nam fun z707 hz707 => ?_)
      have ez707 : z707.toInt = 2 * z697.toInt := by rw [gI_mul hz707 (gBl (show Int32.toInt 2 = 2 by decide)) bz697' (by decide) (by decide) (by decide), show Int32.toInt 2 = 2 from by decide]
      have bz707 : gB z707 0 78 := gB_mul hz707 (gBl (show Int32.toInt 2 = 2 by decide)) bz697' (by decide) (by decide) (by decide) (by decide)
      refine G_iconst 1 d_cX0_addGoal_58 (by decide +kernel) ?_
      refine G_iadd d_cX0_addGoal_59 (G_nam fun z708 hz708 => ?_)
      have ez708 : z708.toInt = z707.toInt + 1 := by rw [gI_add hz708 bz707 (gBl (show Int32.toInt 1 = 1 by decide)) (by decide) (by decide), show Int32.toInt 1 = 1 from by decide]
      have bz708 : gB z708 1 79 := gB_add (gI_add hz708 bz707 (gBl (show Int32.toInt 1 = 1 by decide)) (by decide) (by decide)) bz707 (gBl (show Int32.toInt 1 = 1 by decide)) (by decide) (by decide)
      refine G_goto 66 d_cX0_addGoal_60 (by decide +kernel) ?_
      exact G_iret d_cX0_addGoal_66 rfl (Nat.le_of_ble_eq_true rfl) (Nat.le_of_ble_eq_true rfl) ⟨z708, f688, f706, rfl, rfl, (gB_w bz708 (by decide) (by decide)), (gF_any f688), (gF_any f706), (fun R c1 c2 c3 => c2 z697 z700 f706 z707 z708 ez697 r699 hz700 r705 hf706 ez707 ez708)⟩
  · have r709 : z697.toInt < 0 := gj_nleL hc698 (show Int32.toInt 0 = 0 by decide)
    have bz697' : gB z697 (-1) (-1) := ⟨by omega, by omega⟩
    refine G_iconst (-1) d_cX0_addGoal_11 (by decide +kernel) ?_
    exact G_iret d_cX0_addGoal_12 rfl (Nat.le_of_ble_eq_true rfl) (Nat.le_of_ble_eq_true rfl) ⟨(-1), f688, f689, rfl, rfl, (gB_w (gBl (show Int32.toInt (-1) = (-1) by decide)) (by decide) (by decide)), (gF_any f688), (gF_any f689), (fun R c1 c2 c3 => c3 z697 ez697 r709)⟩
/- tr_Code_add: Code_lines, Code_op, Code_set, Code_left, Code_leftNumber, Code_right, Code_rightNumber, Code_isFull -/
def tr_Code_add (a1 : Int32) (a2 : Int32) (a3 : Int32) (a4 : Int32) (a5 : Int32) (a6 : Int32) (Code_lines : Int32) (Code_isFull : Int32) (Code_op : Nat → Int32) (Code_set : Nat → Int32) (Code_left : Nat → Int32) (Code_leftNumber : Nat → Int32) (Code_right : Nat → Int32) (Code_rightNumber : Nat → Int32) (o1 : Int32) (o2 : Nat → Int32) (o3 : Nat → Int32) (o4 : Nat → Int32) (o5 : Nat → Int32) (o6 : Nat → Int32) (o7 : Nat → Int32) (o8 : Int32) : Prop := ∀ R : (Int32) → (Nat → Int32) → (Nat → Int32) → (Nat → Int32) → (Nat → Int32) → (Nat → Int32) → (Nat → Int32) → (Int32) → Prop,
  (∀ (x1 : Nat → Int32) (x2 : Nat → Int32) (x3 : Nat → Int32) (x4 : Nat → Int32) (x5 : Nat → Int32) (x6 : Nat → Int32) (x7 : Int32), Code_lines.toInt < 200 → x1 = upd Code_op Code_lines.toNatClampNeg a1 → x2 = upd Code_set Code_lines.toNatClampNeg a2 → x3 = upd Code_left Code_lines.toNatClampNeg a3 → x4 = upd Code_leftNumber Code_lines.toNatClampNeg a4 → x5 = upd Code_right Code_lines.toNatClampNeg a5 → x6 = upd Code_rightNumber Code_lines.toNatClampNeg a6 → x7.toInt = Code_lines.toInt + 1 → R x7 x1 x2 x3 x4 x5 x6 Code_isFull) →
  (200 ≤ Code_lines.toInt → R Code_lines Code_op Code_set Code_left Code_leftNumber Code_right Code_rightNumber (1 : Int32)) →
  R o1 o2 o3 o4 o5 o6 o7 o8
abbrev ky_741_Code_add : gKey := (cX0_add, 7, yX0_add.cls, none, [], yX0_add.name, fun _ _ => True)
abbrev po_741_Code_add (I : FieldType → ClassId) (q713 : Nat) (q714 : Nat) (q715 : Nat) (q716 : Nat) (q717 : Nat) (q718 : Nat) (q719 : Nat) (q720 : Nat) (q721 : Nat) (q722 : Nat) (p723 : Int32) (p724 : Int32) (p725 : Int32) (p726 : Int32) (p727 : Int32) (p728 : Int32) (p729 : Int32) (p730 : Int32) (p731 : Int32) (f732 : Nat → Int32) (f733 : Nat → Int32) (f734 : Nat → Int32) (f735 : Nat → Int32) (f736 : Nat → Int32) (f737 : Nat → Int32) (f738 : Nat → Int32) (f739 : Nat → Int32) (f740 : Nat → Int32) : Option Value → va_W → Prop := fun r w => ∃ (o752 : Int32) (f753 : Nat → Int32) (f754 : Nat → Int32) (f755 : Nat → Int32) (f756 : Nat → Int32) (f757 : Nat → Int32) (f758 : Nat → Int32) (o759 : Int32), r = none ∧ w = [(q713, .inr (5, [.ref q714, .ref q715, .ref q716, .ref q717, .ref q718, .ref q719, .ref q720, .ref q721, .ref q722, .int p729, .int o752, .int o759])), (q714, .inl (I .int, 40, .inl f732)), (q715, .inl (I .int, 40, .inl f733)), (q716, .inl (I .int, 40, .inl f734)), (q717, .inl (I .int, 200, .inl f753)), (q718, .inl (I .int, 200, .inl f754)), (q719, .inl (I .int, 200, .inl f755)), (q720, .inl (I .int, 200, .inl f756)), (q721, .inl (I .int, 200, .inl f757)), (q722, .inl (I .int, 200, .inl f758))] ∧ gB o752 1 200 ∧ gF f753 0 21 ∧ gF f754 (-2147483648) 2147483647 ∧ gF f755 (-2147483648) 2147483647 ∧ gF f756 (-2147483648) 2147483647 ∧ gF f757 (-2147483648) 2147483647 ∧ gF f758 (-2147483648) 2147483647 ∧ gB o759 0 1 ∧ tr_Code_add p723 p724 p725 p726 p727 p728 p730 p731 f735 f736 f737 f738 f739 f740 o752 f753 f754 f755 f756 f757 f758 o759
set_option maxRecDepth 100000 in
set_option maxHeartbeats 4000000 in
theorem ct_741_Code_add (l : Launch) (hl0 : l.stackTraces = false) (D : va_G) (I : FieldType → ClassId) (q713 : Nat) (q714 : Nat) (q715 : Nat) (q716 : Nat) (q717 : Nat) (q718 : Nat) (q719 : Nat) (q720 : Nat) (q721 : Nat) (q722 : Nat) (p723 : Int32) (p724 : Int32) (p725 : Int32) (p726 : Int32) (p727 : Int32) (p728 : Int32) (p729 : Int32) (p730 : Int32) (p731 : Int32) (f732 : Nat → Int32) (f733 : Nat → Int32) (f734 : Nat → Int32) (f735 : Nat → Int32) (f736 : Nat → Int32) (f737 : Nat → Int32) (f738 : Nat → Int32) (f739 : Nat → Int32) (f740 : Nat → Int32) (bp723 : gB p723 0 21) (bp729 : gB p729 0 40) (bp730 : gB p730 0 200) (bp731 : gB p731 0 1) (bf732 : gF f732 0 200) (bf735 : gF f735 0 21) : Ct (gV D I) l yX0_add cX0_add 7 none 0 0 0 0 [.ref q713, .int p723, .int p724, .int p725, .int p726, .int p727, .int p728] [(q713, .inr (5, [.ref q714, .ref q715, .ref q716, .ref q717, .ref q718, .ref q719, .ref q720, .ref q721, .ref q722, .int p729, .int p730, .int p731])), (q714, .inl (I .int, 40, .inl f732)), (q715, .inl (I .int, 40, .inl f733)), (q716, .inl (I .int, 40, .inl f734)), (q717, .inl (I .int, 200, .inl f735)), (q718, .inl (I .int, 200, .inl f736)), (q719, .inl (I .int, 200, .inl f737)), (q720, .inl (I .int, 200, .inl f738)), (q721, .inl (I .int, 200, .inl f739)), (q722, .inl (I .int, 200, .inl f740))] (po_741_Code_add I q713 q714 q715 q716 q717 q718 q719 q720 q721 q722 p723 p724 p725 p726 p727 p728 p729 p730 p731 f732 f733 f734 f735 f736 f737 f738 f739 f740) gN := by
  refine Ct_of hl0 (by decide) (Nat.le_of_ble_eq_true rfl) ?_
  have bp724 := gB_any p724
  have bp725 := gB_any p725
  have bp726 := gB_any p726
  have bp727 := gB_any p727
  have bp728 := gB_any p728
  refine G_aload_n 0 d_cX0_add_0 rfl ?_
  refine G_getf 0 10 d_cX0_add_1 rfl (gk_X0 D I) (Nat.le_of_ble_eq_true rfl) w_1_197 rfl ?_
  refine G_aload_n 0 d_cX0_add_4 rfl ?_
  refine G_getf 0 3 d_cX0_add_5 rfl (gk_X0 D I) (Nat.le_of_ble_eq_true rfl) w_1_159 rfl ?_
  refine G_alen 200 4 0 d_cX0_add_8 rfl rfl rfl ?_
  refine G_icmp_lt 18 d_cX0_add_9 (by decide +kernel) (fun hc742 => ?_) (fun hc742 => ?_)
  · have r743 : p730.toInt < 200 := gj_lt hc742 (show Int32.toInt 200 = 200 by decide)
    have bp730' : gB p730 0 199 := ⟨by omega, by omega⟩
    refine G_aload_n 0 d_cX0_add_18 rfl ?_
    refine G_getf 0 3 d_cX0_add_19 rfl (gk_X0 D I) (Nat.le_of_ble_eq_true rfl) w_1_159 rfl ?_
    refine G_aload_n 0 d_cX0_add_22 rfl ?_
    refine G_getf 0 10 d_cX0_add_23 rfl (gk_X0 D I) (Nat.le_of_ble_eq_true rfl) w_1_197 rfl ?_
    refine G_iload_n 1 d_cX0_add_26 rfl ?_
    refine G_iastN 4 0 d_cX0_add_27 rfl rfl (gB_in bp730' (by decide) (by decide)) (fun f744 hf744 => ?_)
    refine G_ws (ws' := [(q713, .inr (5, [.ref q714, .ref q715, .ref q716, .ref q717, .ref q718, .ref q719, .ref q720, .ref q721, .ref q722, .int p729, .int p730, .int p731])), (q714, .inl (I .int, 40, .inl f732)), (q715, .inl (I .int, 40, .inl f733)), (q716, .inl (I .int, 40, .inl f734)), (q717, .inl (I .int, 200, .inl f744)), (q718, .inl (I .int, 200, .inl f736)), (q719, .inl (I .int, 200, .inl f737)), (q720, .inl (I .int, 200, .inl f738)), (q721, .inl (I .int, 200, .inl f739)), (q722, .inl (I .int, 200, .inl f740))]) (cs' := 0) (sl' := 0) rfl rfl rfl ?_
    have bf744 : gF f744 0 21 := gF_upd hf744 bf735 bp723
    refine G_aload_n 0 d_cX0_add_28 rfl ?_
    refine G_getf 0 4 d_cX0_add_29 rfl (gk_X0 D I) (Nat.le_of_ble_eq_true rfl) w_1_163 rfl ?_
    refine G_aload_n 0 d_cX0_add_32 rfl ?_
    refine G_getf 0 10 d_cX0_add_33 rfl (gk_X0 D I) (Nat.le_of_ble_eq_true rfl) w_1_197 rfl ?_
    refine G_iload_n 2 d_cX0_add_36 rfl ?_
    refine G_iastN 5 0 d_cX0_add_37 rfl rfl (gB_in bp730' (by decide) (by decide)) (fun f745 hf745 => ?_)
    refine G_ws (ws' := [(q713, .inr (5, [.ref q714, .ref q715, .ref q716, .ref q717, .ref q718, .ref q719, .ref q720, .ref q721, .ref q722, .int p729, .int p730, .int p731])), (q714, .inl (I .int, 40, .inl f732)), (q715, .inl (I .int, 40, .inl f733)), (q716, .inl (I .int, 40, .inl f734)), (q717, .inl (I .int, 200, .inl f744)), (q718, .inl (I .int, 200, .inl f745)), (q719, .inl (I .int, 200, .inl f737)), (q720, .inl (I .int, 200, .inl f738)), (q721, .inl (I .int, 200, .inl f739)), (q722, .inl (I .int, 200, .inl f740))]) (cs' := 0) (sl' := 0) rfl rfl rfl ?_
    refine G_aload_n 0 d_cX0_add_38 rfl ?_
    refine G_getf 0 5 d_cX0_add_39 rfl (gk_X0 D I) (Nat.le_of_ble_eq_true rfl) w_1_168 rfl ?_
    refine G_aload_n 0 d_cX0_add_42 rfl ?_
    refine G_getf 0 10 d_cX0_add_43 rfl (gk_X0 D I) (Nat.le_of_ble_eq_true rfl) w_1_197 rfl ?_
    refine G_iload_n 3 d_cX0_add_46 rfl ?_
    refine G_iastN 6 0 d_cX0_add_47 rfl rfl (gB_in bp730' (by decide) (by decide)) (fun f746 hf746 => ?_)
    refine G_ws (ws' := [(q713, .inr (5, [.ref q714, .ref q715, .ref q716, .ref q717, .ref q718, .ref q719, .ref q720, .ref q721, .ref q722, .int p729, .int p730, .int p731])), (q714, .inl (I .int, 40, .inl f732)), (q715, .inl (I .int, 40, .inl f733)), (q716, .inl (I .int, 40, .inl f734)), (q717, .inl (I .int, 200, .inl f744)), (q718, .inl (I .int, 200, .inl f745)), (q719, .inl (I .int, 200, .inl f746)), (q720, .inl (I .int, 200, .inl f738)), (q721, .inl (I .int, 200, .inl f739)), (q722, .inl (I .int, 200, .inl f740))]) (cs' := 0) (sl' := 0) rfl rfl rfl ?_
    refine G_aload_n 0 d_cX0_add_48 rfl ?_
    refine G_getf 0 6 d_cX0_add_49 rfl (gk_X0 D I) (Nat.le_of_ble_eq_true rfl) w_1_174 rfl ?_
    refine G_aload_n 0 d_cX0_add_52 rfl ?_
    refine G_getf 0 10 d_cX0_add_53 rfl (gk_X0 D I) (Nat.le_of_ble_eq_true rfl) w_1_197 rfl ?_
    refine G_iload 4 d_cX0_add_56 rfl ?_
    refine G_iastN 7 0 d_cX0_add_58 rfl rfl (gB_in bp730' (by decide) (by decide)) (fun f747 hf747 => ?_)
    refine G_ws (ws' := [(q713, .inr (5, [.ref q714, .ref q715, .ref q716, .ref q717, .ref q718, .ref q719, .ref q720, .ref q721, .ref q722, .int p729, .int p730, .int p731])), (q714, .inl (I .int, 40, .inl f732)), (q715, .inl (I .int, 40, .inl f733)), (q716, .inl (I .int, 40, .inl f734)), (q717, .inl (I .int, 200, .inl f744)), (q718, .inl (I .int, 200, .inl f745)), (q719, .inl (I .int, 200, .inl f746)), (q720, .inl (I .int, 200, .inl f747)), (q721, .inl (I .int, 200, .inl f739)), (q722, .inl (I .int, 200, .inl f740))]) (cs' := 0) (sl' := 0) rfl rfl rfl ?_
    refine G_aload_n 0 d_cX0_add_59 rfl ?_
    refine G_getf 0 7 d_cX0_add_60 rfl (gk_X0 D I) (Nat.le_of_ble_eq_true rfl) w_1_178 rfl ?_
    refine G_aload_n 0 d_cX0_add_63 rfl ?_
    refine G_getf 0 10 d_cX0_add_64 rfl (gk_X0 D I) (Nat.le_of_ble_eq_true rfl) w_1_197 rfl ?_
    refine G_iload 5 d_cX0_add_67 rfl ?_
    refine G_iastN 8 0 d_cX0_add_69 rfl rfl (gB_in bp730' (by decide) (by decide)) (fun f748 hf748 => ?_)
    refine G_ws (ws' := [(q713, .inr (5, [.ref q714, .ref q715, .ref q716, .ref q717, .ref q718, .ref q719, .ref q720, .ref q721, .ref q722, .int p729, .int p730, .int p731])), (q714, .inl (I .int, 40, .inl f732)), (q715, .inl (I .int, 40, .inl f733)), (q716, .inl (I .int, 40, .inl f734)), (q717, .inl (I .int, 200, .inl f744)), (q718, .inl (I .int, 200, .inl f745)), (q719, .inl (I .int, 200, .inl f746)), (q720, .inl (I .int, 200, .inl f747)), (q721, .inl (I .int, 200, .inl f748)), (q722, .inl (I .int, 200, .inl f740))]) (cs' := 0) (sl' := 0) rfl rfl rfl ?_
    refine G_aload_n 0 d_cX0_add_70 rfl ?_
    refine G_getf 0 8 d_cX0_add_71 rfl (gk_X0 D I) (Nat.le_of_ble_eq_true rfl) w_1_183 rfl ?_
    refine G_aload_n 0 d_cX0_add_74 rfl ?_
    refine G_getf 0 10 d_cX0_add_75 rfl (gk_X0 D I) (Nat.le_of_ble_eq_true rfl) w_1_197 rfl ?_
    refine G_iload 6 d_cX0_add_78 rfl ?_
    refine G_iastN 9 0 d_cX0_add_80 rfl rfl (gB_in bp730' (by decide) (by decide)) (fun f749 hf749 => ?_)
    refine G_ws (ws' := [(q713, .inr (5, [.ref q714, .ref q715, .ref q716, .ref q717, .ref q718, .ref q719, .ref q720, .ref q721, .ref q722, .int p729, .int p730, .int p731])), (q714, .inl (I .int, 40, .inl f732)), (q715, .inl (I .int, 40, .inl f733)), (q716, .inl (I .int, 40, .inl f734)), (q717, .inl (I .int, 200, .inl f744)), (q718, .inl (I .int, 200, .inl f745)), (q719, .inl (I .int, 200, .inl f746)), (q720, .inl (I .int, 200, .inl f747)), (q721, .inl (I .int, 200, .inl f748)), (q722, .inl (I .int, 200, .inl f749))]) (cs' := 0) (sl' := 0) rfl rfl rfl ?_
    refine G_aload_n 0 d_cX0_add_81 rfl ?_
    refine G_dup d_cX0_add_82 rfl ?_
    refine G_getf 0 10 d_cX0_add_83 rfl (gk_X0 D I) (Nat.le_of_ble_eq_true rfl) w_1_197 rfl ?_
    refine G_iconst 1 d_cX0_add_86 (by decide +kernel) ?_
    refine G_iadd d_cX0_add_87 (G_nam fun z750 hz750 => ?_)
    have ez750 : z750.toInt = p730.toInt + 1 := by rw [gI_add hz750 bp730' (gBl (show Int32.toInt 1 = 1 by decide)) (by decide) (by decide), show Int32.toInt 1 = 1 from by decide]
    have bz750 : gB z750 1 200 := gB_add (gI_add hz750 bp730' (gBl (show Int32.toInt 1 = 1 by decide)) (by decide) (by decide)) bp730' (gBl (show Int32.toInt 1 = 1 by decide)) (by decide) (by decide)
    refine G_putf (ws' := [(q713, .inr (5, [.ref q714, .ref q715, .ref q716, .ref q717, .ref q718, .ref q719, .ref q720, .ref q721, .ref q722, .int p729, .int z750, .int p731])), (q714, .inl (I .int, 40, .inl f732)), (q715, .inl (I .int, 40, .inl f733)), (q716, .inl (I .int, 40, .inl f734)), (q717, .inl (I .int, 200, .inl f744)), (q718, .inl (I .int, 200, .inl f745)), (q719, .inl (I .int, 200, .inl f746)), (q720, .inl (I .int, 200, .inl f747)), (q721, .inl (I .int, 200, .inl f748)), (q722, .inl (I .int, 200, .inl f749))]) 0 10 d_cX0_add_88 rfl (gk_X0 D I) (Nat.le_of_ble_eq_true rfl) w_1_197 rfl rfl rfl (Nat.le_of_ble_eq_true rfl) rfl ?_
    exact G_vret d_cX0_add_91 rfl (Nat.le_of_ble_eq_true rfl) (Nat.le_of_ble_eq_true rfl) ⟨z750, f744, f745, f746, f747, f748, f749, p731, rfl, rfl, bz750, bf744, (gF_any f745), (gF_any f746), (gF_any f747), (gF_any f748), (gF_any f749), bp731, (fun R c1 c2 => c1 f744 f745 f746 f747 f748 f749 z750 r743 hf744 hf745 hf746 hf747 hf748 hf749 ez750)⟩
  · have r751 : 200 ≤ p730.toInt := gj_nlt hc742 (show Int32.toInt 200 = 200 by decide)
    have bp730' : gB p730 200 200 := ⟨by omega, by omega⟩
    refine G_aload_n 0 d_cX0_add_12 rfl ?_
    refine G_iconst 1 d_cX0_add_13 (by decide +kernel) ?_
    refine G_putf (ws' := [(q713, .inr (5, [.ref q714, .ref q715, .ref q716, .ref q717, .ref q718, .ref q719, .ref q720, .ref q721, .ref q722, .int p729, .int p730, .int 1])), (q714, .inl (I .int, 40, .inl f732)), (q715, .inl (I .int, 40, .inl f733)), (q716, .inl (I .int, 40, .inl f734)), (q717, .inl (I .int, 200, .inl f735)), (q718, .inl (I .int, 200, .inl f736)), (q719, .inl (I .int, 200, .inl f737)), (q720, .inl (I .int, 200, .inl f738)), (q721, .inl (I .int, 200, .inl f739)), (q722, .inl (I .int, 200, .inl f740))]) 0 11 d_cX0_add_14 rfl (gk_X0 D I) (Nat.le_of_ble_eq_true rfl) w_1_200 rfl rfl rfl (Nat.le_of_ble_eq_true rfl) rfl ?_
    exact G_vret d_cX0_add_17 rfl (Nat.le_of_ble_eq_true rfl) (Nat.le_of_ble_eq_true rfl) ⟨p730, f735, f736, f737, f738, f739, f740, 1, rfl, rfl, (gB_w bp730' (by decide) (by decide)), bf735, (gF_any f736), (gF_any f737), (gF_any f738), (gF_any f739), (gF_any f740), (gB_w (gBl (show Int32.toInt 1 = 1 by decide)) (by decide) (by decide)), (fun R c1 c2 => c2 r751)⟩
abbrev ky_782_Code_openLike : gKey := (cX0_openLike, 3, yX0_openLike.cls, none, [], yX0_openLike.name, fun _ _ => True)
abbrev po_782_Code_openLike (I : FieldType → ClassId) (q760 : Nat) (q761 : Nat) (q762 : Nat) (q763 : Nat) (q764 : Nat) (q765 : Nat) (q766 : Nat) (q767 : Nat) (q768 : Nat) (q769 : Nat) (p770 : Int32) (p771 : Int32) (p772 : Int32) (f773 : Nat → Int32) (f774 : Nat → Int32) (f775 : Nat → Int32) (f776 : Nat → Int32) (f777 : Nat → Int32) (f778 : Nat → Int32) (f779 : Nat → Int32) (f780 : Nat → Int32) (f781 : Nat → Int32) : Option Value → va_W → Prop := fun r w => r = none ∧ w = [(q760, .inr (5, [.ref q761, .ref q762, .ref q763, .ref q764, .ref q765, .ref q766, .ref q767, .ref q768, .ref q769, .int p770, .int p771, .int p772])), (q761, .inl (I .int, 40, .inl f773)), (q762, .inl (I .int, 40, .inl f774)), (q763, .inl (I .int, 40, .inl f775)), (q764, .inl (I .int, 200, .inl f776)), (q765, .inl (I .int, 200, .inl f777)), (q766, .inl (I .int, 200, .inl f778)), (q767, .inl (I .int, 200, .inl f779)), (q768, .inl (I .int, 200, .inl f780)), (q769, .inl (I .int, 200, .inl f781))]
set_option maxRecDepth 100000 in
set_option maxHeartbeats 4000000 in
theorem ct_782_Code_openLike (l : Launch) (hl0 : l.stackTraces = false) (D : va_G) (I : FieldType → ClassId) (q760 : Nat) (q761 : Nat) (q762 : Nat) (q763 : Nat) (q764 : Nat) (q765 : Nat) (q766 : Nat) (q767 : Nat) (q768 : Nat) (q769 : Nat) (p770 : Int32) (p771 : Int32) (p772 : Int32) (f773 : Nat → Int32) (f774 : Nat → Int32) (f775 : Nat → Int32) (f776 : Nat → Int32) (f777 : Nat → Int32) (f778 : Nat → Int32) (f779 : Nat → Int32) (f780 : Nat → Int32) (f781 : Nat → Int32) (bp770 : gB p770 0 40) (bp771 : gB p771 0 200) (bp772 : gB p772 0 1) (bf773 : gF f773 0 200) (bf776 : gF f776 0 21) : Ct (gV D I) l yX0_openLike cX0_openLike 3 none 0 0 0 0 [.ref q760, .ref q760] [(q760, .inr (5, [.ref q761, .ref q762, .ref q763, .ref q764, .ref q765, .ref q766, .ref q767, .ref q768, .ref q769, .int p770, .int p771, .int p772])), (q761, .inl (I .int, 40, .inl f773)), (q762, .inl (I .int, 40, .inl f774)), (q763, .inl (I .int, 40, .inl f775)), (q764, .inl (I .int, 200, .inl f776)), (q765, .inl (I .int, 200, .inl f777)), (q766, .inl (I .int, 200, .inl f778)), (q767, .inl (I .int, 200, .inl f779)), (q768, .inl (I .int, 200, .inl f780)), (q769, .inl (I .int, 200, .inl f781))] (po_782_Code_openLike I q760 q761 q762 q763 q764 q765 q766 q767 q768 q769 p770 p771 p772 f773 f774 f775 f776 f777 f778 f779 f780 f781) gN := by
  refine Ct_of hl0 (by decide) (Nat.le_of_ble_eq_true rfl) ?_
  refine G_aload_n 0 d_cX0_openLike_0 rfl ?_
  refine G_getf 0 9 d_cX0_openLike_1 rfl (gk_X0 D I) (Nat.le_of_ble_eq_true rfl) w_1_187 rfl ?_
  refine G_istore_n (L' := [(2, .int p770), (0, .ref q760), (1, .ref q760)]) d_cX0_openLike_4 (Nat.le_of_ble_eq_true rfl) rfl ?_
  refine G_iload_n 0 d_cX0_openLike_5 rfl ?_
  refine G_aload_n 2 d_cX0_openLike_6 rfl ?_
  refine G_getf 0 9 d_cX0_openLike_7 rfl (gk_X0 D I) (Nat.le_of_ble_eq_true rfl) w_1_187 rfl ?_
  refine G_icmp_ge 44 d_cX0_openLike_10 (by decide +kernel) (fun _ => ?_) (fun hc => absurd (show False by have := gC_nle hc; omega) not_false)
  exact G_vret d_cX0_openLike_44 rfl (Nat.le_of_ble_eq_true rfl) (Nat.le_of_ble_eq_true rfl) ⟨rfl, rfl⟩
/- tr_Code_nameIn: result -/
def tr_Code_nameIn (a1 : Int32) (p : Nat → Int32) (o1 : Int32) : Prop := ∀ R : (Int32) → Prop,
  (a1.toInt < 0 → R a1) →
  (0 ≤ a1.toInt → 720 ≤ a1.toInt → R a1) →
  (∀ (x1 : Int32), 0 ≤ a1.toInt → a1.toInt < 720 → x1 = p a1.toNatClampNeg → R x1) →
  R o1
abbrev ky_786_Code_nameIn : gKey := (cX0_nameIn, 2, yX0_nameIn.cls, (some FieldType.int), [], yX0_nameIn.name, fun _ _ => True)
abbrev po_786_Code_nameIn (I : FieldType → ClassId) (q783 : Nat) (p784 : Int32) (f785 : Nat → Int32) : Option Value → va_W → Prop := fun r w => (r = some (.int p784) ∧ w = [(q783, .inl (I .int, 720, .inl f785))] ∧ p784.toInt < 0 ∧ tr_Code_nameIn p784 f785 p784) ∨ (r = some (.int p784) ∧ w = [(q783, .inl (I .int, 720, .inl f785))] ∧ 0 ≤ p784.toInt ∧ 720 ≤ p784.toInt ∧ tr_Code_nameIn p784 f785 p784) ∨ (∃ (z793 : Int32), r = some (.int z793) ∧ w = [(q783, .inl (I .int, 720, .inl f785))] ∧ 0 ≤ p784.toInt ∧ p784.toInt < 720 ∧ z793 = f785 p784.toNatClampNeg ∧ gB z793 (-2147483648) 2147483647 ∧ tr_Code_nameIn p784 f785 z793)
set_option maxRecDepth 100000 in
set_option maxHeartbeats 4000000 in
theorem ct_786_Code_nameIn (l : Launch) (hl0 : l.stackTraces = false) (D : va_G) (I : FieldType → ClassId) (q783 : Nat) (p784 : Int32) (f785 : Nat → Int32)  : Ct (gV D I) l yX0_nameIn cX0_nameIn 2 (some FieldType.int) 0 0 0 0 [.ref q783, .int p784] [(q783, .inl (I .int, 720, .inl f785))] (po_786_Code_nameIn I q783 p784 f785) gN := by
  refine Ct_of hl0 (by decide) (Nat.le_of_ble_eq_true rfl) ?_
  have bp784 := gB_any p784
  refine G_iload_n 1 d_cX0_nameIn_0 rfl ?_
  refine G_if_lt 16 d_cX0_nameIn_1 (by decide +kernel) (fun hc787 => ?_) (fun hc787 => ?_)
  · have r788 : p784.toInt < 0 := gj_lt hc787 (show Int32.toInt 0 = 0 by decide)
    have bp784' : gB p784 (-2147483648) (-1) := ⟨by omega, by omega⟩
    refine G_iload_n 1 d_cX0_nameIn_16 rfl ?_
    exact G_iret d_cX0_nameIn_17 rfl (Nat.le_of_ble_eq_true rfl) (Nat.le_of_ble_eq_true rfl) (Or.inl ⟨rfl, rfl, r788, (fun R c1 c2 c3 => c1 r788)⟩)
  · have r789 : 0 ≤ p784.toInt := gj_nlt hc787 (show Int32.toInt 0 = 0 by decide)
    have bp784' : gB p784 0 2147483647 := ⟨by omega, by omega⟩
    refine G_iload_n 1 d_cX0_nameIn_4 rfl ?_
    refine G_aload_n 0 d_cX0_nameIn_5 rfl ?_
    refine G_alen 720 0 0 d_cX0_nameIn_6 rfl rfl rfl ?_
    refine G_icmp_ge 16 d_cX0_nameIn_7 (by decide +kernel) (fun hc790 => ?_) (fun hc790 => ?_)
    · have r791 : 720 ≤ p784.toInt := gj_leL hc790 (show Int32.toInt 720 = 720 by decide)
      have bp784'' : gB p784 720 2147483647 := ⟨by omega, by omega⟩
      refine G_iload_n 1 d_cX0_nameIn_16 rfl ?_
      exact G_iret d_cX0_nameIn_17 rfl (Nat.le_of_ble_eq_true rfl) (Nat.le_of_ble_eq_true rfl) (Or.inr (Or.inl ⟨rfl, rfl, r789, r791, (fun R c1 c2 c3 => c2 r789 r791)⟩))
    · have r792 : p784.toInt < 720 := gj_nleL hc790 (show Int32.toInt 720 = 720 by decide)
      have bp784'' : gB p784 0 719 := ⟨by omega, by omega⟩
      refine G_aload_n 0 d_cX0_nameIn_10 rfl ?_
      refine G_iload_n 1 d_cX0_nameIn_11 rfl ?_
      refine G_iald 0 0 d_cX0_nameIn_12 rfl rfl (gB_in bp784'' (by decide) (by decide)) (G_nam fun z793 hz793 => ?_)
      have bz793 : gB z793 (-2147483648) 2147483647 := gB_any z793
      refine G_goto 17 d_cX0_nameIn_13 (by decide +kernel) ?_
      exact G_iret d_cX0_nameIn_17 rfl (Nat.le_of_ble_eq_true rfl) (Nat.le_of_ble_eq_true rfl) (Or.inr (Or.inr (⟨z793, rfl, rfl, r789, r792, hz793, bz793, (fun R c1 c2 c3 => c3 z793 r789 r792 hz793)⟩)))
/- tl_Code_linesThat_4: l3, l2; out: l2 -/
def tl_Code_linesThat_4 (Code_lines : Int32) (Code_op : Nat → Int32) (a1 : Int32) (s1 : Int32) (s2 : Int32) (k : Nat) (e1 : Int32) : Prop := ∀ R : (Int32) → (Int32) → Nat → (Int32) → Prop,
  (∀ (l3_1 : Int32) (l2_1 : Int32), gB l3_1 0 200 → Code_lines.toInt ≤ l3_1.toInt → R l3_1 l2_1 36 l2_1) →
  (∀ (l3_1 : Int32) (l2_1 : Int32) (x1 : Int32) (x2 : Int32) (x3 : Int32) (k : Nat) (e1 : Int32), gB l3_1 0 200 → l3_1.toInt < Code_lines.toInt → x1 = Code_op l3_1.toNatClampNeg → gB x1 0 21 → x1.toInt ≠ a1.toInt → x2.toInt = l2_1.toInt + 0 → x3.toInt = l3_1.toInt + 1 → R x3 x2 k e1 → R l3_1 l2_1 k e1) →
  (∀ (l3_1 : Int32) (l2_1 : Int32) (x1 : Int32) (x2 : Int32) (x3 : Int32) (k : Nat) (e1 : Int32), gB l3_1 0 200 → l3_1.toInt < Code_lines.toInt → x1 = Code_op l3_1.toNatClampNeg → gB x1 0 21 → x1.toInt = a1.toInt → x2 = l2_1 + (1 : Int32) → x3.toInt = l3_1.toInt + 1 → R x3 x2 k e1 → R l3_1 l2_1 k e1) →
  R s1 s2 k e1
/- tr_Code_linesThat: result -/
def tr_Code_linesThat (a1 : Int32) (Code_lines : Int32) (Code_op : Nat → Int32) (o1 : Int32) : Prop := ∀ R : (Int32) → Prop,
  (∀ (x1 : Int32), tl_Code_linesThat_4 Code_lines Code_op a1 (0 : Int32) (0 : Int32) 36 x1 → R x1) →
  R o1
abbrev ky_817_Code_linesThat : gKey := (cX0_linesThat, 4, yX0_linesThat.cls, (some FieldType.int), [], yX0_linesThat.name, fun _ _ => True)
abbrev po_817_Code_linesThat (I : FieldType → ClassId) (q794 : Nat) (q795 : Nat) (q796 : Nat) (q797 : Nat) (q798 : Nat) (q799 : Nat) (q800 : Nat) (q801 : Nat) (q802 : Nat) (q803 : Nat) (p804 : Int32) (p805 : Int32) (p806 : Int32) (p807 : Int32) (f808 : Nat → Int32) (f809 : Nat → Int32) (f810 : Nat → Int32) (f811 : Nat → Int32) (f812 : Nat → Int32) (f813 : Nat → Int32) (f814 : Nat → Int32) (f815 : Nat → Int32) (f816 : Nat → Int32) : Option Value → va_W → Prop := fun r w => ∃ (o917 : Int32), r = some (.int o917) ∧ w = [(q794, .inr (5, [.ref q795, .ref q796, .ref q797, .ref q798, .ref q799, .ref q800, .ref q801, .ref q802, .ref q803, .int p805, .int p806, .int p807])), (q795, .inl (I .int, 40, .inl f808)), (q796, .inl (I .int, 40, .inl f809)), (q797, .inl (I .int, 40, .inl f810)), (q798, .inl (I .int, 200, .inl f811)), (q799, .inl (I .int, 200, .inl f812)), (q800, .inl (I .int, 200, .inl f813)), (q801, .inl (I .int, 200, .inl f814)), (q802, .inl (I .int, 200, .inl f815)), (q803, .inl (I .int, 200, .inl f816))] ∧ gB o917 (-2147483648) 2147483647 ∧ tr_Code_linesThat p804 p806 f811 o917
set_option maxRecDepth 100000 in
set_option maxHeartbeats 4000000 in
theorem ct_817_Code_linesThat (l : Launch) (hl0 : l.stackTraces = false) (D : va_G) (I : FieldType → ClassId) (q794 : Nat) (q795 : Nat) (q796 : Nat) (q797 : Nat) (q798 : Nat) (q799 : Nat) (q800 : Nat) (q801 : Nat) (q802 : Nat) (q803 : Nat) (p804 : Int32) (p805 : Int32) (p806 : Int32) (p807 : Int32) (f808 : Nat → Int32) (f809 : Nat → Int32) (f810 : Nat → Int32) (f811 : Nat → Int32) (f812 : Nat → Int32) (f813 : Nat → Int32) (f814 : Nat → Int32) (f815 : Nat → Int32) (f816 : Nat → Int32) (bp805 : gB p805 0 40) (bp806 : gB p806 0 200) (bp807 : gB p807 0 1) (bf808 : gF f808 0 200) (bf811 : gF f811 0 21) : Ct (gV D I) l yX0_linesThat cX0_linesThat 4 (some FieldType.int) 0 0 0 0 [.ref q794, .int p804] [(q794, .inr (5, [.ref q795, .ref q796, .ref q797, .ref q798, .ref q799, .ref q800, .ref q801, .ref q802, .ref q803, .int p805, .int p806, .int p807])), (q795, .inl (I .int, 40, .inl f808)), (q796, .inl (I .int, 40, .inl f809)), (q797, .inl (I .int, 40, .inl f810)), (q798, .inl (I .int, 200, .inl f811)), (q799, .inl (I .int, 200, .inl f812)), (q800, .inl (I .int, 200, .inl f813)), (q801, .inl (I .int, 200, .inl f814)), (q802, .inl (I .int, 200, .inl f815)), (q803, .inl (I .int, 200, .inl f816))] (po_817_Code_linesThat I q794 q795 q796 q797 q798 q799 q800 q801 q802 q803 p804 p805 p806 p807 f808 f809 f810 f811 f812 f813 f814 f815 f816) gN := by
  refine Ct_of hl0 (by decide) (Nat.le_of_ble_eq_true rfl) ?_
  have bp804 := gB_any p804
  refine G_iconst 0 d_cX0_linesThat_0 (by decide +kernel) ?_
  refine G_istore_n (L' := [(2, .int 0), (0, .ref q794), (1, .int p804)]) d_cX0_linesThat_1 (Nat.le_of_ble_eq_true rfl) rfl ?_
  refine G_iconst 0 d_cX0_linesThat_2 (by decide +kernel) ?_
  refine G_istore_n (L' := [(3, .int 0), (2, .int 0), (0, .ref q794), (1, .int p804)]) d_cX0_linesThat_3 (Nat.le_of_ble_eq_true rfl) rfl ?_
  have hlp4_904 : ∀ (n4_904 : Nat) (g903 : Int32) (g904 : Int32), gB g903 0 200 → gB g904 (-2147483648) 2147483647 → (∀ (k : Nat) (e1 : Int32), tl_Code_linesThat_4 p806 f811 p804 g903 g904 k e1 → tl_Code_linesThat_4 p806 f811 p804 (0 : Int32) (0 : Int32) k e1) → ((201 : Int) - g903.toInt).toNat < n4_904 → G (gV D I) l (gRm 0 0 0 0) (gM (gV D I) (po_817_Code_linesThat I q794 q795 q796 q797 q798 q799 q800 q801 q802 q803 p804 p805 p806 p807 f808 f809 f810 f811 f812 f813 f814 f815 f816) gN 0 0) ky_817_Code_linesThat 4 [(3, .int g903), (2, .int g904), (0, .ref q794), (1, .int p804)] [] [(q794, .inr (5, [.ref q795, .ref q796, .ref q797, .ref q798, .ref q799, .ref q800, .ref q801, .ref q802, .ref q803, .int p805, .int p806, .int p807])), (q795, .inl (I .int, 40, .inl f808)), (q796, .inl (I .int, 40, .inl f809)), (q797, .inl (I .int, 40, .inl f810)), (q798, .inl (I .int, 200, .inl f811)), (q799, .inl (I .int, 200, .inl f812)), (q800, .inl (I .int, 200, .inl f813)), (q801, .inl (I .int, 200, .inl f814)), (q802, .inl (I .int, 200, .inl f815)), (q803, .inl (I .int, 200, .inl f816))] 0 0 := by
    intro n4_904
    induction n4_904 with
    | zero => intro g903 g904 bg903 bg904 kt4_904 hm4_904; exact absurd hm4_904 (Nat.not_lt_zero _)
    | succ n4_904 ih4_904 =>
      intro g903 g904 bg903 bg904 kt4_904 hm4_904
      refine G_iload_n 0 d_cX0_linesThat_4 rfl ?_
      refine G_aload_n 2 d_cX0_linesThat_5 rfl ?_
      refine G_getf 0 10 d_cX0_linesThat_6 rfl (gk_X0 D I) (Nat.le_of_ble_eq_true rfl) w_1_197 rfl ?_
      refine G_icmp_ge 36 d_cX0_linesThat_9 (by decide +kernel) (fun hc905 => ?_) (fun hc905 => ?_)
      · have r906 : p806.toInt ≤ g903.toInt := gC_le hc905
        have hx907 : tl_Code_linesThat_4 p806 f811 p804 (0 : Int32) (0 : Int32) 36 g904 := kt4_904 36 g904 (fun R c1 c2 c3 => c1 g903 g904 bg903 r906)
        refine G_iload_n 1 d_cX0_linesThat_36 rfl ?_
        exact G_iret d_cX0_linesThat_37 rfl (Nat.le_of_ble_eq_true rfl) (Nat.le_of_ble_eq_true rfl) ⟨g904, rfl, rfl, bg904, (fun R c1 => c1 g904 hx907)⟩
      · have r908 : g903.toInt < p806.toInt := gC_nle hc905
        have bg903' : gB g903 0 199 := ⟨by omega, by omega⟩
        have bp806' : gB p806 1 200 := ⟨by omega, by omega⟩
        refine G_iload_n 1 d_cX0_linesThat_12 rfl ?_
        refine G_aload_n 2 d_cX0_linesThat_13 rfl ?_
        refine G_getf 0 3 d_cX0_linesThat_14 rfl (gk_X0 D I) (Nat.le_of_ble_eq_true rfl) w_1_159 rfl ?_
        refine G_iload_n 0 d_cX0_linesThat_17 rfl ?_
        refine G_iald 4 0 d_cX0_linesThat_18 rfl rfl (gB_in bg903' (by decide) (by decide)) (G_nam fun z909 hz909 => ?_)
        have bz909 : gB z909 0 21 := by rw [hz909]; exact bf811 _
        refine G_iload_n 3 d_cX0_linesThat_19 rfl ?_
        refine G_icmp_ne 27 d_cX0_linesThat_20 (by decide +kernel) (fun hc910 => ?_) (fun hc910 => ?_)
        · have r911 : z909.toInt ≠ p804.toInt := gC_ne hc910
          refine G_iconst 0 d_cX0_linesThat_27 (by decide +kernel) ?_
          refine G_iadd d_cX0_linesThat_28 (G_nam fun z912 hz912 => ?_)
          have ez912 : z912.toInt = g904.toInt + 0 := by rw [gI_add hz912 bg904 (gBl (show Int32.toInt 0 = 0 by decide)) (by decide) (by decide), show Int32.toInt 0 = 0 from by decide]
          have bz912 : gB z912 (-2147483648) 2147483647 := gB_add (gI_add hz912 bg904 (gBl (show Int32.toInt 0 = 0 by decide)) (by decide) (by decide)) bg904 (gBl (show Int32.toInt 0 = 0 by decide)) (by decide) (by decide)
          refine G_istore_n (L' := [(2, .int z912), (3, .int g903), (0, .ref q794), (1, .int p804)]) d_cX0_linesThat_29 (Nat.le_of_ble_eq_true rfl) rfl ?_
          obtain ⟨z913, hz913⟩ : ∃ z : Int32, z = g903 + Int32.ofInt 1 := ⟨_, rfl⟩
          have ez913 : z913.toInt = g903.toInt + 1 := gI_inc hz913 (by decide) bg903' (by decide) (by decide)
          have bz913 : gB z913 1 200 := ⟨by omega, by omega⟩
          refine G_iinc (L' := [(3, .int z913), (2, .int z912), (0, .ref q794), (1, .int p804)]) z913 1 d_cX0_linesThat_30 rfl hz913.symm (Nat.le_of_ble_eq_true rfl) rfl ?_
          refine G_goto 4 d_cX0_linesThat_33 (by decide +kernel) ?_
          exact ih4_904 z913 z912 (gB_w bz913 (by decide) (by decide)) bz912 (fun k e1 ht => kt4_904 k e1 (fun R c1 c2 c3 => c2 g903 g904 z909 z912 z913 k e1 bg903 r908 hz909 bz909 r911 ez912 ez913 (ht R c1 c2 c3))) (by omega)
        · have r914 : z909.toInt = p804.toInt := gC_eq hc910
          have bp804' : gB p804 0 21 := ⟨by omega, by omega⟩
          refine G_iconst 1 d_cX0_linesThat_23 (by decide +kernel) ?_
          refine G_goto 28 d_cX0_linesThat_24 (by decide +kernel) ?_
          refine G_iadd d_cX0_linesThat_28 (G_nam fun z915 hz915 => ?_)
          have bz915 : gB z915 (-2147483648) 2147483647 := gB_any z915
          refine G_istore_n (L' := [(2, .int z915), (3, .int g903), (0, .ref q794), (1, .int p804)]) d_cX0_linesThat_29 (Nat.le_of_ble_eq_true rfl) rfl ?_
          obtain ⟨z916, hz916⟩ : ∃ z : Int32, z = g903 + Int32.ofInt 1 := ⟨_, rfl⟩
          have ez916 : z916.toInt = g903.toInt + 1 := gI_inc hz916 (by decide) bg903' (by decide) (by decide)
          have bz916 : gB z916 1 200 := ⟨by omega, by omega⟩
          refine G_iinc (L' := [(3, .int z916), (2, .int z915), (0, .ref q794), (1, .int p804)]) z916 1 d_cX0_linesThat_30 rfl hz916.symm (Nat.le_of_ble_eq_true rfl) rfl ?_
          refine G_goto 4 d_cX0_linesThat_33 (by decide +kernel) ?_
          exact ih4_904 z916 z915 (gB_w bz916 (by decide) (by decide)) bz915 (fun k e1 ht => kt4_904 k e1 (fun R c1 c2 c3 => c3 g903 g904 z909 z915 z916 k e1 bg903 r908 hz909 bz909 r914 hz915 ez916 (ht R c1 c2 c3))) (by omega)
  exact hlp4_904 (((201 : Int) - 0).toNat + 1) 0 0 (gB_w (gBl (show Int32.toInt 0 = 0 by decide)) (by decide) (by decide)) (gB_w (gBl (show Int32.toInt 0 = 0 by decide)) (by decide) (by decide)) (fun k e1 ht => ht) (Nat.lt_succ_self _)
/- tr_Code_copiesRegister: result -/
def tr_Code_copiesRegister (a1 : Int32) (Code_op : Nat → Int32) (Code_set : Nat → Int32) (Code_left : Nat → Int32) (o1 : Int32) : Prop := ∀ R : (Int32) → Prop,
  (∀ (x1 : Int32), x1 = Code_op a1.toNatClampNeg → gB x1 0 21 → x1.toInt ≠ 14 → R (0 : Int32)) →
  (∀ (x1 : Int32) (x2 : Int32), x1 = Code_op a1.toNatClampNeg → gB x1 0 21 → x1.toInt = 14 → x2 = Code_set a1.toNatClampNeg → x2.toInt < 0 → R (0 : Int32)) →
  (∀ (x1 : Int32) (x2 : Int32) (x3 : Int32), x1 = Code_op a1.toNatClampNeg → gB x1 0 21 → x1.toInt = 14 → x2 = Code_set a1.toNatClampNeg → 0 ≤ x2.toInt → x3 = Code_left a1.toNatClampNeg → x3.toInt < 0 → R (0 : Int32)) →
  (∀ (x1 : Int32) (x2 : Int32) (x3 : Int32), x1 = Code_op a1.toNatClampNeg → gB x1 0 21 → x1.toInt = 14 → x2 = Code_set a1.toNatClampNeg → 0 ≤ x2.toInt → x3 = Code_left a1.toNatClampNeg → 0 ≤ x3.toInt → R (1 : Int32)) →
  R o1
abbrev ky_941_Code_copiesRegister : gKey := (cX0_copiesRegister, 2, yX0_copiesRegister.cls, (some FieldType.boolean), [], yX0_copiesRegister.name, fun _ _ => True)
abbrev po_941_Code_copiesRegister (I : FieldType → ClassId) (q918 : Nat) (q919 : Nat) (q920 : Nat) (q921 : Nat) (q922 : Nat) (q923 : Nat) (q924 : Nat) (q925 : Nat) (q926 : Nat) (q927 : Nat) (p928 : Int32) (p929 : Int32) (p930 : Int32) (p931 : Int32) (f932 : Nat → Int32) (f933 : Nat → Int32) (f934 : Nat → Int32) (f935 : Nat → Int32) (f936 : Nat → Int32) (f937 : Nat → Int32) (f938 : Nat → Int32) (f939 : Nat → Int32) (f940 : Nat → Int32) : Option Value → va_W → Prop := fun r w => (∃ (z942 : Int32), r = some (.int 0) ∧ w = [(q918, .inr (5, [.ref q919, .ref q920, .ref q921, .ref q922, .ref q923, .ref q924, .ref q925, .ref q926, .ref q927, .int p929, .int p930, .int p931])), (q919, .inl (I .int, 40, .inl f932)), (q920, .inl (I .int, 40, .inl f933)), (q921, .inl (I .int, 40, .inl f934)), (q922, .inl (I .int, 200, .inl f935)), (q923, .inl (I .int, 200, .inl f936)), (q924, .inl (I .int, 200, .inl f937)), (q925, .inl (I .int, 200, .inl f938)), (q926, .inl (I .int, 200, .inl f939)), (q927, .inl (I .int, 200, .inl f940))] ∧ z942.toInt ≠ 14 ∧ z942 = f935 p928.toNatClampNeg ∧ gB z942 0 21 ∧ tr_Code_copiesRegister p928 f935 f936 f937 (0 : Int32)) ∨ (∃ (z942 : Int32) (z946 : Int32), r = some (.int 0) ∧ w = [(q918, .inr (5, [.ref q919, .ref q920, .ref q921, .ref q922, .ref q923, .ref q924, .ref q925, .ref q926, .ref q927, .int p929, .int p930, .int p931])), (q919, .inl (I .int, 40, .inl f932)), (q920, .inl (I .int, 40, .inl f933)), (q921, .inl (I .int, 40, .inl f934)), (q922, .inl (I .int, 200, .inl f935)), (q923, .inl (I .int, 200, .inl f936)), (q924, .inl (I .int, 200, .inl f937)), (q925, .inl (I .int, 200, .inl f938)), (q926, .inl (I .int, 200, .inl f939)), (q927, .inl (I .int, 200, .inl f940))] ∧ z942.toInt = 14 ∧ z946.toInt < 0 ∧ z942 = f935 p928.toNatClampNeg ∧ z946 = f936 p928.toNatClampNeg ∧ gB z942 14 14 ∧ gB z946 (-2147483648) (-1) ∧ tr_Code_copiesRegister p928 f935 f936 f937 (0 : Int32)) ∨ (∃ (z942 : Int32) (z946 : Int32) (z950 : Int32), r = some (.int 0) ∧ w = [(q918, .inr (5, [.ref q919, .ref q920, .ref q921, .ref q922, .ref q923, .ref q924, .ref q925, .ref q926, .ref q927, .int p929, .int p930, .int p931])), (q919, .inl (I .int, 40, .inl f932)), (q920, .inl (I .int, 40, .inl f933)), (q921, .inl (I .int, 40, .inl f934)), (q922, .inl (I .int, 200, .inl f935)), (q923, .inl (I .int, 200, .inl f936)), (q924, .inl (I .int, 200, .inl f937)), (q925, .inl (I .int, 200, .inl f938)), (q926, .inl (I .int, 200, .inl f939)), (q927, .inl (I .int, 200, .inl f940))] ∧ z942.toInt = 14 ∧ 0 ≤ z946.toInt ∧ z950.toInt < 0 ∧ z942 = f935 p928.toNatClampNeg ∧ z946 = f936 p928.toNatClampNeg ∧ z950 = f937 p928.toNatClampNeg ∧ gB z942 14 14 ∧ gB z946 0 2147483647 ∧ gB z950 (-2147483648) (-1) ∧ tr_Code_copiesRegister p928 f935 f936 f937 (0 : Int32)) ∨ (∃ (z942 : Int32) (z946 : Int32) (z950 : Int32), r = some (.int 1) ∧ w = [(q918, .inr (5, [.ref q919, .ref q920, .ref q921, .ref q922, .ref q923, .ref q924, .ref q925, .ref q926, .ref q927, .int p929, .int p930, .int p931])), (q919, .inl (I .int, 40, .inl f932)), (q920, .inl (I .int, 40, .inl f933)), (q921, .inl (I .int, 40, .inl f934)), (q922, .inl (I .int, 200, .inl f935)), (q923, .inl (I .int, 200, .inl f936)), (q924, .inl (I .int, 200, .inl f937)), (q925, .inl (I .int, 200, .inl f938)), (q926, .inl (I .int, 200, .inl f939)), (q927, .inl (I .int, 200, .inl f940))] ∧ z942.toInt = 14 ∧ 0 ≤ z946.toInt ∧ 0 ≤ z950.toInt ∧ z942 = f935 p928.toNatClampNeg ∧ z946 = f936 p928.toNatClampNeg ∧ z950 = f937 p928.toNatClampNeg ∧ gB z942 14 14 ∧ gB z946 0 2147483647 ∧ gB z950 0 2147483647 ∧ tr_Code_copiesRegister p928 f935 f936 f937 (1 : Int32))
set_option maxRecDepth 100000 in
set_option maxHeartbeats 4000000 in
theorem ct_941_Code_copiesRegister (l : Launch) (hl0 : l.stackTraces = false) (D : va_G) (I : FieldType → ClassId) (q918 : Nat) (q919 : Nat) (q920 : Nat) (q921 : Nat) (q922 : Nat) (q923 : Nat) (q924 : Nat) (q925 : Nat) (q926 : Nat) (q927 : Nat) (p928 : Int32) (p929 : Int32) (p930 : Int32) (p931 : Int32) (f932 : Nat → Int32) (f933 : Nat → Int32) (f934 : Nat → Int32) (f935 : Nat → Int32) (f936 : Nat → Int32) (f937 : Nat → Int32) (f938 : Nat → Int32) (f939 : Nat → Int32) (f940 : Nat → Int32) (bp928 : gB p928 0 199) (bp929 : gB p929 0 40) (bp930 : gB p930 0 200) (bp931 : gB p931 0 1) (bf932 : gF f932 0 200) (bf935 : gF f935 0 21) : Ct (gV D I) l yX0_copiesRegister cX0_copiesRegister 2 (some FieldType.boolean) 0 0 0 0 [.ref q918, .int p928] [(q918, .inr (5, [.ref q919, .ref q920, .ref q921, .ref q922, .ref q923, .ref q924, .ref q925, .ref q926, .ref q927, .int p929, .int p930, .int p931])), (q919, .inl (I .int, 40, .inl f932)), (q920, .inl (I .int, 40, .inl f933)), (q921, .inl (I .int, 40, .inl f934)), (q922, .inl (I .int, 200, .inl f935)), (q923, .inl (I .int, 200, .inl f936)), (q924, .inl (I .int, 200, .inl f937)), (q925, .inl (I .int, 200, .inl f938)), (q926, .inl (I .int, 200, .inl f939)), (q927, .inl (I .int, 200, .inl f940))] (po_941_Code_copiesRegister I q918 q919 q920 q921 q922 q923 q924 q925 q926 q927 p928 p929 p930 p931 f932 f933 f934 f935 f936 f937 f938 f939 f940) gN := by
  refine Ct_of hl0 (by decide) (Nat.le_of_ble_eq_true rfl) ?_
  refine G_aload_n 0 d_cX0_copiesRegister_0 rfl ?_
  refine G_getf 0 3 d_cX0_copiesRegister_1 rfl (gk_X0 D I) (Nat.le_of_ble_eq_true rfl) w_1_159 rfl ?_
  refine G_iload_n 1 d_cX0_copiesRegister_4 rfl ?_
  refine G_iald 4 0 d_cX0_copiesRegister_5 rfl rfl (gB_in bp928 (by decide) (by decide)) (G_nam fun z942 hz942 => ?_)
  have bz942 : gB z942 0 21 := by rw [hz942]; exact bf935 _
  refine G_bipush 14 d_cX0_copiesRegister_6 (by decide +kernel) ?_
  refine G_icmp_ne 33 d_cX0_copiesRegister_8 (by decide +kernel) (fun hc943 => ?_) (fun hc943 => ?_)
  · have r944 : z942.toInt ≠ 14 := gj_neq hc943 (show Int32.toInt 14 = 14 by decide)
    refine G_iconst 0 d_cX0_copiesRegister_33 (by decide +kernel) ?_
    exact G_zret FieldType.boolean d_cX0_copiesRegister_34 rfl rfl (Nat.le_of_ble_eq_true rfl) (Nat.le_of_ble_eq_true rfl) (Or.inl ⟨z942, rfl, rfl, r944, hz942, bz942, (fun R c1 c2 c3 c4 => c1 z942 hz942 bz942 r944)⟩)
  · have r945 : z942.toInt = 14 := gj_eq hc943 (show Int32.toInt 14 = 14 by decide)
    have bz942' : gB z942 14 14 := ⟨by omega, by omega⟩
    refine G_aload_n 0 d_cX0_copiesRegister_11 rfl ?_
    refine G_getf 0 4 d_cX0_copiesRegister_12 rfl (gk_X0 D I) (Nat.le_of_ble_eq_true rfl) w_1_163 rfl ?_
    refine G_iload_n 1 d_cX0_copiesRegister_15 rfl ?_
    refine G_iald 5 0 d_cX0_copiesRegister_16 rfl rfl (gB_in bp928 (by decide) (by decide)) (G_nam fun z946 hz946 => ?_)
    have bz946 : gB z946 (-2147483648) 2147483647 := gB_any z946
    refine G_if_lt 33 d_cX0_copiesRegister_17 (by decide +kernel) (fun hc947 => ?_) (fun hc947 => ?_)
    · have r948 : z946.toInt < 0 := gj_lt hc947 (show Int32.toInt 0 = 0 by decide)
      have bz946' : gB z946 (-2147483648) (-1) := ⟨by omega, by omega⟩
      refine G_iconst 0 d_cX0_copiesRegister_33 (by decide +kernel) ?_
      exact G_zret FieldType.boolean d_cX0_copiesRegister_34 rfl rfl (Nat.le_of_ble_eq_true rfl) (Nat.le_of_ble_eq_true rfl) (Or.inr (Or.inl ⟨z942, z946, rfl, rfl, r945, r948, hz942, hz946, bz942', bz946', (fun R c1 c2 c3 c4 => c2 z942 z946 hz942 bz942 r945 hz946 r948)⟩))
    · have r949 : 0 ≤ z946.toInt := gj_nlt hc947 (show Int32.toInt 0 = 0 by decide)
      have bz946' : gB z946 0 2147483647 := ⟨by omega, by omega⟩
      refine G_aload_n 0 d_cX0_copiesRegister_20 rfl ?_
      refine G_getf 0 5 d_cX0_copiesRegister_21 rfl (gk_X0 D I) (Nat.le_of_ble_eq_true rfl) w_1_168 rfl ?_
      refine G_iload_n 1 d_cX0_copiesRegister_24 rfl ?_
      refine G_iald 6 0 d_cX0_copiesRegister_25 rfl rfl (gB_in bp928 (by decide) (by decide)) (G_nam fun z950 hz950 => ?_)
      have bz950 : gB z950 (-2147483648) 2147483647 := gB_any z950
      refine G_if_lt 33 d_cX0_copiesRegister_26 (by decide +kernel) (fun hc951 => ?_) (fun hc951 => ?_)
      · have r952 : z950.toInt < 0 := gj_lt hc951 (show Int32.toInt 0 = 0 by decide)
        have bz950' : gB z950 (-2147483648) (-1) := ⟨by omega, by omega⟩
        refine G_iconst 0 d_cX0_copiesRegister_33 (by decide +kernel) ?_
        exact G_zret FieldType.boolean d_cX0_copiesRegister_34 rfl rfl (Nat.le_of_ble_eq_true rfl) (Nat.le_of_ble_eq_true rfl) (Or.inr (Or.inr (Or.inl ⟨z942, z946, z950, rfl, rfl, r945, r949, r952, hz942, hz946, hz950, bz942', bz946', bz950', (fun R c1 c2 c3 c4 => c3 z942 z946 z950 hz942 bz942 r945 hz946 r949 hz950 r952)⟩)))
      · have r953 : 0 ≤ z950.toInt := gj_nlt hc951 (show Int32.toInt 0 = 0 by decide)
        have bz950' : gB z950 0 2147483647 := ⟨by omega, by omega⟩
        refine G_iconst 1 d_cX0_copiesRegister_29 (by decide +kernel) ?_
        refine G_goto 34 d_cX0_copiesRegister_30 (by decide +kernel) ?_
        exact G_zret FieldType.boolean d_cX0_copiesRegister_34 rfl rfl (Nat.le_of_ble_eq_true rfl) (Nat.le_of_ble_eq_true rfl) (Or.inr (Or.inr (Or.inr (⟨z942, z946, z950, rfl, rfl, r945, r949, r953, hz942, hz946, hz950, bz942', bz946', bz950', (fun R c1 c2 c3 c4 => c4 z942 z946 z950 hz942 bz942 r945 hz946 r949 hz950 r953)⟩))))
/- tr_Code_setBy: result -/
def tr_Code_setBy (a1 : Int32) (a2 : Int32) (Code_op : Nat → Int32) (Code_set : Nat → Int32) (Code_rightNumber : Nat → Int32) (o1 : Int32) : Prop := ∀ R : (Int32) → Prop,
  (∀ (x1 : Int32), a2.toInt = 0 → x1 = Code_set a1.toNatClampNeg → R x1) →
  (∀ (x1 : Int32), a2.toInt ≠ 0 → x1 = Code_op a1.toNatClampNeg → gB x1 0 21 → x1.toInt ≠ 18 → R (-1 : Int32)) →
  (∀ (x1 : Int32) (x2 : Int32), a2.toInt ≠ 0 → x1 = Code_op a1.toNatClampNeg → gB x1 0 21 → x1.toInt = 18 → x2 = Code_rightNumber a1.toNatClampNeg → R x2) →
  R o1
abbrev ky_978_Code_setBy : gKey := (cX0_setBy, 3, yX0_setBy.cls, (some FieldType.int), [], yX0_setBy.name, fun _ _ => True)
abbrev po_978_Code_setBy (I : FieldType → ClassId) (q954 : Nat) (q955 : Nat) (q956 : Nat) (q957 : Nat) (q958 : Nat) (q959 : Nat) (q960 : Nat) (q961 : Nat) (q962 : Nat) (q963 : Nat) (p964 : Int32) (p965 : Int32) (p966 : Int32) (p967 : Int32) (p968 : Int32) (f969 : Nat → Int32) (f970 : Nat → Int32) (f971 : Nat → Int32) (f972 : Nat → Int32) (f973 : Nat → Int32) (f974 : Nat → Int32) (f975 : Nat → Int32) (f976 : Nat → Int32) (f977 : Nat → Int32) : Option Value → va_W → Prop := fun r w => (∃ (z981 : Int32), r = some (.int z981) ∧ w = [(q954, .inr (5, [.ref q955, .ref q956, .ref q957, .ref q958, .ref q959, .ref q960, .ref q961, .ref q962, .ref q963, .int p966, .int p967, .int p968])), (q955, .inl (I .int, 40, .inl f969)), (q956, .inl (I .int, 40, .inl f970)), (q957, .inl (I .int, 40, .inl f971)), (q958, .inl (I .int, 200, .inl f972)), (q959, .inl (I .int, 200, .inl f973)), (q960, .inl (I .int, 200, .inl f974)), (q961, .inl (I .int, 200, .inl f975)), (q962, .inl (I .int, 200, .inl f976)), (q963, .inl (I .int, 200, .inl f977))] ∧ p965.toInt = 0 ∧ z981 = f973 p964.toNatClampNeg ∧ gB z981 (-2147483648) 2147483647 ∧ tr_Code_setBy p964 p965 f972 f973 f977 z981) ∨ (∃ (z983 : Int32), r = some (.int (-1)) ∧ w = [(q954, .inr (5, [.ref q955, .ref q956, .ref q957, .ref q958, .ref q959, .ref q960, .ref q961, .ref q962, .ref q963, .int p966, .int p967, .int p968])), (q955, .inl (I .int, 40, .inl f969)), (q956, .inl (I .int, 40, .inl f970)), (q957, .inl (I .int, 40, .inl f971)), (q958, .inl (I .int, 200, .inl f972)), (q959, .inl (I .int, 200, .inl f973)), (q960, .inl (I .int, 200, .inl f974)), (q961, .inl (I .int, 200, .inl f975)), (q962, .inl (I .int, 200, .inl f976)), (q963, .inl (I .int, 200, .inl f977))] ∧ p965.toInt ≠ 0 ∧ z983.toInt ≠ 18 ∧ z983 = f972 p964.toNatClampNeg ∧ gB z983 0 21 ∧ tr_Code_setBy p964 p965 f972 f973 f977 (-1 : Int32)) ∨ (∃ (z987 : Int32) (z983 : Int32), r = some (.int z987) ∧ w = [(q954, .inr (5, [.ref q955, .ref q956, .ref q957, .ref q958, .ref q959, .ref q960, .ref q961, .ref q962, .ref q963, .int p966, .int p967, .int p968])), (q955, .inl (I .int, 40, .inl f969)), (q956, .inl (I .int, 40, .inl f970)), (q957, .inl (I .int, 40, .inl f971)), (q958, .inl (I .int, 200, .inl f972)), (q959, .inl (I .int, 200, .inl f973)), (q960, .inl (I .int, 200, .inl f974)), (q961, .inl (I .int, 200, .inl f975)), (q962, .inl (I .int, 200, .inl f976)), (q963, .inl (I .int, 200, .inl f977))] ∧ p965.toInt ≠ 0 ∧ z983.toInt = 18 ∧ z983 = f972 p964.toNatClampNeg ∧ z987 = f977 p964.toNatClampNeg ∧ gB z987 (-2147483648) 2147483647 ∧ gB z983 18 18 ∧ tr_Code_setBy p964 p965 f972 f973 f977 z987)
set_option maxRecDepth 100000 in
set_option maxHeartbeats 4000000 in
theorem ct_978_Code_setBy (l : Launch) (hl0 : l.stackTraces = false) (D : va_G) (I : FieldType → ClassId) (q954 : Nat) (q955 : Nat) (q956 : Nat) (q957 : Nat) (q958 : Nat) (q959 : Nat) (q960 : Nat) (q961 : Nat) (q962 : Nat) (q963 : Nat) (p964 : Int32) (p965 : Int32) (p966 : Int32) (p967 : Int32) (p968 : Int32) (f969 : Nat → Int32) (f970 : Nat → Int32) (f971 : Nat → Int32) (f972 : Nat → Int32) (f973 : Nat → Int32) (f974 : Nat → Int32) (f975 : Nat → Int32) (f976 : Nat → Int32) (f977 : Nat → Int32) (bp964 : gB p964 0 199) (bp965 : gB p965 0 1) (bp966 : gB p966 0 40) (bp967 : gB p967 0 200) (bp968 : gB p968 0 1) (bf969 : gF f969 0 200) (bf972 : gF f972 0 21) : Ct (gV D I) l yX0_setBy cX0_setBy 3 (some FieldType.int) 0 0 0 0 [.ref q954, .int p964, .int p965] [(q954, .inr (5, [.ref q955, .ref q956, .ref q957, .ref q958, .ref q959, .ref q960, .ref q961, .ref q962, .ref q963, .int p966, .int p967, .int p968])), (q955, .inl (I .int, 40, .inl f969)), (q956, .inl (I .int, 40, .inl f970)), (q957, .inl (I .int, 40, .inl f971)), (q958, .inl (I .int, 200, .inl f972)), (q959, .inl (I .int, 200, .inl f973)), (q960, .inl (I .int, 200, .inl f974)), (q961, .inl (I .int, 200, .inl f975)), (q962, .inl (I .int, 200, .inl f976)), (q963, .inl (I .int, 200, .inl f977))] (po_978_Code_setBy I q954 q955 q956 q957 q958 q959 q960 q961 q962 q963 p964 p965 p966 p967 p968 f969 f970 f971 f972 f973 f974 f975 f976 f977) gN := by
  refine Ct_of hl0 (by decide) (Nat.le_of_ble_eq_true rfl) ?_
  refine G_iload_n 2 d_cX0_setBy_0 rfl ?_
  refine G_if_eq 26 d_cX0_setBy_1 (by decide +kernel) (fun hc979 => ?_) (fun hc979 => ?_)
  · have r980 : p965.toInt = 0 := gj_eq hc979 (show Int32.toInt 0 = 0 by decide)
    have bp965' : gB p965 0 0 := ⟨by omega, by omega⟩
    refine G_aload_n 0 d_cX0_setBy_26 rfl ?_
    refine G_getf 0 4 d_cX0_setBy_27 rfl (gk_X0 D I) (Nat.le_of_ble_eq_true rfl) w_1_163 rfl ?_
    refine G_iload_n 1 d_cX0_setBy_30 rfl ?_
    refine G_iald 5 0 d_cX0_setBy_31 rfl rfl (gB_in bp964 (by decide) (by decide)) (G_nam fun z981 hz981 => ?_)
    have bz981 : gB z981 (-2147483648) 2147483647 := gB_any z981
    exact G_iret d_cX0_setBy_32 rfl (Nat.le_of_ble_eq_true rfl) (Nat.le_of_ble_eq_true rfl) (Or.inl ⟨z981, rfl, rfl, r980, hz981, bz981, (fun R c1 c2 c3 => c1 z981 r980 hz981)⟩)
  · have r982 : p965.toInt ≠ 0 := gj_neq hc979 (show Int32.toInt 0 = 0 by decide)
    have bp965' : gB p965 1 1 := ⟨by omega, by omega⟩
    refine G_aload_n 0 d_cX0_setBy_4 rfl ?_
    refine G_getf 0 3 d_cX0_setBy_5 rfl (gk_X0 D I) (Nat.le_of_ble_eq_true rfl) w_1_159 rfl ?_
    refine G_iload_n 1 d_cX0_setBy_8 rfl ?_
    refine G_iald 4 0 d_cX0_setBy_9 rfl rfl (gB_in bp964 (by decide) (by decide)) (G_nam fun z983 hz983 => ?_)
    have bz983 : gB z983 0 21 := by rw [hz983]; exact bf972 _
    refine G_bipush 18 d_cX0_setBy_10 (by decide +kernel) ?_
    refine G_icmp_ne 24 d_cX0_setBy_12 (by decide +kernel) (fun hc984 => ?_) (fun hc984 => ?_)
    · have r985 : z983.toInt ≠ 18 := gj_neq hc984 (show Int32.toInt 18 = 18 by decide)
      refine G_iconst (-1) d_cX0_setBy_24 (by decide +kernel) ?_
      exact G_iret d_cX0_setBy_25 rfl (Nat.le_of_ble_eq_true rfl) (Nat.le_of_ble_eq_true rfl) (Or.inr (Or.inl ⟨z983, rfl, rfl, r982, r985, hz983, bz983, (fun R c1 c2 c3 => c2 z983 r982 hz983 bz983 r985)⟩))
    · have r986 : z983.toInt = 18 := gj_eq hc984 (show Int32.toInt 18 = 18 by decide)
      have bz983' : gB z983 18 18 := ⟨by omega, by omega⟩
      refine G_aload_n 0 d_cX0_setBy_15 rfl ?_
      refine G_getf 0 8 d_cX0_setBy_16 rfl (gk_X0 D I) (Nat.le_of_ble_eq_true rfl) w_1_183 rfl ?_
      refine G_iload_n 1 d_cX0_setBy_19 rfl ?_
      refine G_iald 9 0 d_cX0_setBy_20 rfl rfl (gB_in bp964 (by decide) (by decide)) (G_nam fun z987 hz987 => ?_)
      have bz987 : gB z987 (-2147483648) 2147483647 := gB_any z987
      refine G_goto 25 d_cX0_setBy_21 (by decide +kernel) ?_
      exact G_iret d_cX0_setBy_25 rfl (Nat.le_of_ble_eq_true rfl) (Nat.le_of_ble_eq_true rfl) (Or.inr (Or.inr (⟨z987, z983, rfl, rfl, r982, r986, hz983, hz987, bz987, bz983', (fun R c1 c2 c3 => c3 z983 z987 r982 hz983 bz983 r986 hz987)⟩)))
/- tr_Code_firstUse: result -/
def tr_Code_firstUse (a1 : Int32) (a2 : Int32) (Code_op : Nat → Int32) (Code_left : Nat → Int32) (Code_rightNumber : Nat → Int32) (o1 : Int32) : Prop := ∀ R : (Int32) → Prop,
  (∀ (x1 : Int32), a2.toInt = 0 → x1 = Code_left a1.toNatClampNeg → R x1) →
  (∀ (x1 : Int32), a2.toInt ≠ 0 → x1 = Code_op a1.toNatClampNeg → gB x1 0 21 → x1.toInt ≠ 17 → R (-1 : Int32)) →
  (∀ (x1 : Int32) (x2 : Int32), a2.toInt ≠ 0 → x1 = Code_op a1.toNatClampNeg → gB x1 0 21 → x1.toInt = 17 → x2 = Code_rightNumber a1.toNatClampNeg → R x2) →
  R o1
abbrev ky_1012_Code_firstUse : gKey := (cX0_firstUse, 3, yX0_firstUse.cls, (some FieldType.int), [], yX0_firstUse.name, fun _ _ => True)
abbrev po_1012_Code_firstUse (I : FieldType → ClassId) (q988 : Nat) (q989 : Nat) (q990 : Nat) (q991 : Nat) (q992 : Nat) (q993 : Nat) (q994 : Nat) (q995 : Nat) (q996 : Nat) (q997 : Nat) (p998 : Int32) (p999 : Int32) (p1000 : Int32) (p1001 : Int32) (p1002 : Int32) (f1003 : Nat → Int32) (f1004 : Nat → Int32) (f1005 : Nat → Int32) (f1006 : Nat → Int32) (f1007 : Nat → Int32) (f1008 : Nat → Int32) (f1009 : Nat → Int32) (f1010 : Nat → Int32) (f1011 : Nat → Int32) : Option Value → va_W → Prop := fun r w => (∃ (z1015 : Int32), r = some (.int z1015) ∧ w = [(q988, .inr (5, [.ref q989, .ref q990, .ref q991, .ref q992, .ref q993, .ref q994, .ref q995, .ref q996, .ref q997, .int p1000, .int p1001, .int p1002])), (q989, .inl (I .int, 40, .inl f1003)), (q990, .inl (I .int, 40, .inl f1004)), (q991, .inl (I .int, 40, .inl f1005)), (q992, .inl (I .int, 200, .inl f1006)), (q993, .inl (I .int, 200, .inl f1007)), (q994, .inl (I .int, 200, .inl f1008)), (q995, .inl (I .int, 200, .inl f1009)), (q996, .inl (I .int, 200, .inl f1010)), (q997, .inl (I .int, 200, .inl f1011))] ∧ p999.toInt = 0 ∧ z1015 = f1008 p998.toNatClampNeg ∧ gB z1015 (-2147483648) 2147483647 ∧ tr_Code_firstUse p998 p999 f1006 f1008 f1011 z1015) ∨ (∃ (z1017 : Int32), r = some (.int (-1)) ∧ w = [(q988, .inr (5, [.ref q989, .ref q990, .ref q991, .ref q992, .ref q993, .ref q994, .ref q995, .ref q996, .ref q997, .int p1000, .int p1001, .int p1002])), (q989, .inl (I .int, 40, .inl f1003)), (q990, .inl (I .int, 40, .inl f1004)), (q991, .inl (I .int, 40, .inl f1005)), (q992, .inl (I .int, 200, .inl f1006)), (q993, .inl (I .int, 200, .inl f1007)), (q994, .inl (I .int, 200, .inl f1008)), (q995, .inl (I .int, 200, .inl f1009)), (q996, .inl (I .int, 200, .inl f1010)), (q997, .inl (I .int, 200, .inl f1011))] ∧ p999.toInt ≠ 0 ∧ z1017.toInt ≠ 17 ∧ z1017 = f1006 p998.toNatClampNeg ∧ gB z1017 0 21 ∧ tr_Code_firstUse p998 p999 f1006 f1008 f1011 (-1 : Int32)) ∨ (∃ (z1021 : Int32) (z1017 : Int32), r = some (.int z1021) ∧ w = [(q988, .inr (5, [.ref q989, .ref q990, .ref q991, .ref q992, .ref q993, .ref q994, .ref q995, .ref q996, .ref q997, .int p1000, .int p1001, .int p1002])), (q989, .inl (I .int, 40, .inl f1003)), (q990, .inl (I .int, 40, .inl f1004)), (q991, .inl (I .int, 40, .inl f1005)), (q992, .inl (I .int, 200, .inl f1006)), (q993, .inl (I .int, 200, .inl f1007)), (q994, .inl (I .int, 200, .inl f1008)), (q995, .inl (I .int, 200, .inl f1009)), (q996, .inl (I .int, 200, .inl f1010)), (q997, .inl (I .int, 200, .inl f1011))] ∧ p999.toInt ≠ 0 ∧ z1017.toInt = 17 ∧ z1017 = f1006 p998.toNatClampNeg ∧ z1021 = f1011 p998.toNatClampNeg ∧ gB z1021 (-2147483648) 2147483647 ∧ gB z1017 17 17 ∧ tr_Code_firstUse p998 p999 f1006 f1008 f1011 z1021)
set_option maxRecDepth 100000 in
set_option maxHeartbeats 4000000 in
theorem ct_1012_Code_firstUse (l : Launch) (hl0 : l.stackTraces = false) (D : va_G) (I : FieldType → ClassId) (q988 : Nat) (q989 : Nat) (q990 : Nat) (q991 : Nat) (q992 : Nat) (q993 : Nat) (q994 : Nat) (q995 : Nat) (q996 : Nat) (q997 : Nat) (p998 : Int32) (p999 : Int32) (p1000 : Int32) (p1001 : Int32) (p1002 : Int32) (f1003 : Nat → Int32) (f1004 : Nat → Int32) (f1005 : Nat → Int32) (f1006 : Nat → Int32) (f1007 : Nat → Int32) (f1008 : Nat → Int32) (f1009 : Nat → Int32) (f1010 : Nat → Int32) (f1011 : Nat → Int32) (bp998 : gB p998 0 199) (bp999 : gB p999 0 1) (bp1000 : gB p1000 0 40) (bp1001 : gB p1001 0 200) (bp1002 : gB p1002 0 1) (bf1003 : gF f1003 0 200) (bf1006 : gF f1006 0 21) : Ct (gV D I) l yX0_firstUse cX0_firstUse 3 (some FieldType.int) 0 0 0 0 [.ref q988, .int p998, .int p999] [(q988, .inr (5, [.ref q989, .ref q990, .ref q991, .ref q992, .ref q993, .ref q994, .ref q995, .ref q996, .ref q997, .int p1000, .int p1001, .int p1002])), (q989, .inl (I .int, 40, .inl f1003)), (q990, .inl (I .int, 40, .inl f1004)), (q991, .inl (I .int, 40, .inl f1005)), (q992, .inl (I .int, 200, .inl f1006)), (q993, .inl (I .int, 200, .inl f1007)), (q994, .inl (I .int, 200, .inl f1008)), (q995, .inl (I .int, 200, .inl f1009)), (q996, .inl (I .int, 200, .inl f1010)), (q997, .inl (I .int, 200, .inl f1011))] (po_1012_Code_firstUse I q988 q989 q990 q991 q992 q993 q994 q995 q996 q997 p998 p999 p1000 p1001 p1002 f1003 f1004 f1005 f1006 f1007 f1008 f1009 f1010 f1011) gN := by
  refine Ct_of hl0 (by decide) (Nat.le_of_ble_eq_true rfl) ?_
  refine G_iload_n 2 d_cX0_firstUse_0 rfl ?_
  refine G_if_eq 26 d_cX0_firstUse_1 (by decide +kernel) (fun hc1013 => ?_) (fun hc1013 => ?_)
  · have r1014 : p999.toInt = 0 := gj_eq hc1013 (show Int32.toInt 0 = 0 by decide)
    have bp999' : gB p999 0 0 := ⟨by omega, by omega⟩
    refine G_aload_n 0 d_cX0_firstUse_26 rfl ?_
    refine G_getf 0 5 d_cX0_firstUse_27 rfl (gk_X0 D I) (Nat.le_of_ble_eq_true rfl) w_1_168 rfl ?_
    refine G_iload_n 1 d_cX0_firstUse_30 rfl ?_
    refine G_iald 6 0 d_cX0_firstUse_31 rfl rfl (gB_in bp998 (by decide) (by decide)) (G_nam fun z1015 hz1015 => ?_)
    have bz1015 : gB z1015 (-2147483648) 2147483647 := gB_any z1015
    exact G_iret d_cX0_firstUse_32 rfl (Nat.le_of_ble_eq_true rfl) (Nat.le_of_ble_eq_true rfl) (Or.inl ⟨z1015, rfl, rfl, r1014, hz1015, bz1015, (fun R c1 c2 c3 => c1 z1015 r1014 hz1015)⟩)
  · have r1016 : p999.toInt ≠ 0 := gj_neq hc1013 (show Int32.toInt 0 = 0 by decide)
    have bp999' : gB p999 1 1 := ⟨by omega, by omega⟩
    refine G_aload_n 0 d_cX0_firstUse_4 rfl ?_
    refine G_getf 0 3 d_cX0_firstUse_5 rfl (gk_X0 D I) (Nat.le_of_ble_eq_true rfl) w_1_159 rfl ?_
    refine G_iload_n 1 d_cX0_firstUse_8 rfl ?_
    refine G_iald 4 0 d_cX0_firstUse_9 rfl rfl (gB_in bp998 (by decide) (by decide)) (G_nam fun z1017 hz1017 => ?_)
    have bz1017 : gB z1017 0 21 := by rw [hz1017]; exact bf1006 _
    refine G_bipush 17 d_cX0_firstUse_10 (by decide +kernel) ?_
    refine G_icmp_ne 24 d_cX0_firstUse_12 (by decide +kernel) (fun hc1018 => ?_) (fun hc1018 => ?_)
    · have r1019 : z1017.toInt ≠ 17 := gj_neq hc1018 (show Int32.toInt 17 = 17 by decide)
      refine G_iconst (-1) d_cX0_firstUse_24 (by decide +kernel) ?_
      exact G_iret d_cX0_firstUse_25 rfl (Nat.le_of_ble_eq_true rfl) (Nat.le_of_ble_eq_true rfl) (Or.inr (Or.inl ⟨z1017, rfl, rfl, r1016, r1019, hz1017, bz1017, (fun R c1 c2 c3 => c2 z1017 r1016 hz1017 bz1017 r1019)⟩))
    · have r1020 : z1017.toInt = 17 := gj_eq hc1018 (show Int32.toInt 17 = 17 by decide)
      have bz1017' : gB z1017 17 17 := ⟨by omega, by omega⟩
      refine G_aload_n 0 d_cX0_firstUse_15 rfl ?_
      refine G_getf 0 8 d_cX0_firstUse_16 rfl (gk_X0 D I) (Nat.le_of_ble_eq_true rfl) w_1_183 rfl ?_
      refine G_iload_n 1 d_cX0_firstUse_19 rfl ?_
      refine G_iald 9 0 d_cX0_firstUse_20 rfl rfl (gB_in bp998 (by decide) (by decide)) (G_nam fun z1021 hz1021 => ?_)
      have bz1021 : gB z1021 (-2147483648) 2147483647 := gB_any z1021
      refine G_goto 25 d_cX0_firstUse_21 (by decide +kernel) ?_
      exact G_iret d_cX0_firstUse_25 rfl (Nat.le_of_ble_eq_true rfl) (Nat.le_of_ble_eq_true rfl) (Or.inr (Or.inr (⟨z1021, z1017, rfl, rfl, r1016, r1020, hz1017, hz1021, bz1021, bz1017', (fun R c1 c2 c3 => c3 z1017 z1021 r1016 hz1017 bz1017 r1020 hz1021)⟩)))
/- tr_Code_secondUse: result -/
def tr_Code_secondUse (a1 : Int32) (a2 : Int32) (Code_right : Nat → Int32) (o1 : Int32) : Prop := ∀ R : (Int32) → Prop,
  (∀ (x1 : Int32), a2.toInt = 0 → x1 = Code_right a1.toNatClampNeg → R x1) →
  (a2.toInt ≠ 0 → R (-1 : Int32)) →
  R o1
abbrev ky_1046_Code_secondUse : gKey := (cX0_secondUse, 3, yX0_secondUse.cls, (some FieldType.int), [], yX0_secondUse.name, fun _ _ => True)
abbrev po_1046_Code_secondUse (I : FieldType → ClassId) (q1022 : Nat) (q1023 : Nat) (q1024 : Nat) (q1025 : Nat) (q1026 : Nat) (q1027 : Nat) (q1028 : Nat) (q1029 : Nat) (q1030 : Nat) (q1031 : Nat) (p1032 : Int32) (p1033 : Int32) (p1034 : Int32) (p1035 : Int32) (p1036 : Int32) (f1037 : Nat → Int32) (f1038 : Nat → Int32) (f1039 : Nat → Int32) (f1040 : Nat → Int32) (f1041 : Nat → Int32) (f1042 : Nat → Int32) (f1043 : Nat → Int32) (f1044 : Nat → Int32) (f1045 : Nat → Int32) : Option Value → va_W → Prop := fun r w => (∃ (z1049 : Int32), r = some (.int z1049) ∧ w = [(q1022, .inr (5, [.ref q1023, .ref q1024, .ref q1025, .ref q1026, .ref q1027, .ref q1028, .ref q1029, .ref q1030, .ref q1031, .int p1034, .int p1035, .int p1036])), (q1023, .inl (I .int, 40, .inl f1037)), (q1024, .inl (I .int, 40, .inl f1038)), (q1025, .inl (I .int, 40, .inl f1039)), (q1026, .inl (I .int, 200, .inl f1040)), (q1027, .inl (I .int, 200, .inl f1041)), (q1028, .inl (I .int, 200, .inl f1042)), (q1029, .inl (I .int, 200, .inl f1043)), (q1030, .inl (I .int, 200, .inl f1044)), (q1031, .inl (I .int, 200, .inl f1045))] ∧ p1033.toInt = 0 ∧ z1049 = f1044 p1032.toNatClampNeg ∧ gB z1049 (-2147483648) 2147483647 ∧ tr_Code_secondUse p1032 p1033 f1044 z1049) ∨ (r = some (.int (-1)) ∧ w = [(q1022, .inr (5, [.ref q1023, .ref q1024, .ref q1025, .ref q1026, .ref q1027, .ref q1028, .ref q1029, .ref q1030, .ref q1031, .int p1034, .int p1035, .int p1036])), (q1023, .inl (I .int, 40, .inl f1037)), (q1024, .inl (I .int, 40, .inl f1038)), (q1025, .inl (I .int, 40, .inl f1039)), (q1026, .inl (I .int, 200, .inl f1040)), (q1027, .inl (I .int, 200, .inl f1041)), (q1028, .inl (I .int, 200, .inl f1042)), (q1029, .inl (I .int, 200, .inl f1043)), (q1030, .inl (I .int, 200, .inl f1044)), (q1031, .inl (I .int, 200, .inl f1045))] ∧ p1033.toInt ≠ 0 ∧ tr_Code_secondUse p1032 p1033 f1044 (-1 : Int32))
set_option maxRecDepth 100000 in
set_option maxHeartbeats 4000000 in
theorem ct_1046_Code_secondUse (l : Launch) (hl0 : l.stackTraces = false) (D : va_G) (I : FieldType → ClassId) (q1022 : Nat) (q1023 : Nat) (q1024 : Nat) (q1025 : Nat) (q1026 : Nat) (q1027 : Nat) (q1028 : Nat) (q1029 : Nat) (q1030 : Nat) (q1031 : Nat) (p1032 : Int32) (p1033 : Int32) (p1034 : Int32) (p1035 : Int32) (p1036 : Int32) (f1037 : Nat → Int32) (f1038 : Nat → Int32) (f1039 : Nat → Int32) (f1040 : Nat → Int32) (f1041 : Nat → Int32) (f1042 : Nat → Int32) (f1043 : Nat → Int32) (f1044 : Nat → Int32) (f1045 : Nat → Int32) (bp1032 : gB p1032 0 199) (bp1033 : gB p1033 0 1) (bp1034 : gB p1034 0 40) (bp1035 : gB p1035 0 200) (bp1036 : gB p1036 0 1) (bf1037 : gF f1037 0 200) (bf1040 : gF f1040 0 21) : Ct (gV D I) l yX0_secondUse cX0_secondUse 3 (some FieldType.int) 0 0 0 0 [.ref q1022, .int p1032, .int p1033] [(q1022, .inr (5, [.ref q1023, .ref q1024, .ref q1025, .ref q1026, .ref q1027, .ref q1028, .ref q1029, .ref q1030, .ref q1031, .int p1034, .int p1035, .int p1036])), (q1023, .inl (I .int, 40, .inl f1037)), (q1024, .inl (I .int, 40, .inl f1038)), (q1025, .inl (I .int, 40, .inl f1039)), (q1026, .inl (I .int, 200, .inl f1040)), (q1027, .inl (I .int, 200, .inl f1041)), (q1028, .inl (I .int, 200, .inl f1042)), (q1029, .inl (I .int, 200, .inl f1043)), (q1030, .inl (I .int, 200, .inl f1044)), (q1031, .inl (I .int, 200, .inl f1045))] (po_1046_Code_secondUse I q1022 q1023 q1024 q1025 q1026 q1027 q1028 q1029 q1030 q1031 p1032 p1033 p1034 p1035 p1036 f1037 f1038 f1039 f1040 f1041 f1042 f1043 f1044 f1045) gN := by
  refine Ct_of hl0 (by decide) (Nat.le_of_ble_eq_true rfl) ?_
  refine G_iload_n 2 d_cX0_secondUse_0 rfl ?_
  refine G_if_eq 8 d_cX0_secondUse_1 (by decide +kernel) (fun hc1047 => ?_) (fun hc1047 => ?_)
  · have r1048 : p1033.toInt = 0 := gj_eq hc1047 (show Int32.toInt 0 = 0 by decide)
    have bp1033' : gB p1033 0 0 := ⟨by omega, by omega⟩
    refine G_aload_n 0 d_cX0_secondUse_8 rfl ?_
    refine G_getf 0 7 d_cX0_secondUse_9 rfl (gk_X0 D I) (Nat.le_of_ble_eq_true rfl) w_1_178 rfl ?_
    refine G_iload_n 1 d_cX0_secondUse_12 rfl ?_
    refine G_iald 8 0 d_cX0_secondUse_13 rfl rfl (gB_in bp1032 (by decide) (by decide)) (G_nam fun z1049 hz1049 => ?_)
    have bz1049 : gB z1049 (-2147483648) 2147483647 := gB_any z1049
    exact G_iret d_cX0_secondUse_14 rfl (Nat.le_of_ble_eq_true rfl) (Nat.le_of_ble_eq_true rfl) (Or.inl ⟨z1049, rfl, rfl, r1048, hz1049, bz1049, (fun R c1 c2 => c1 z1049 r1048 hz1049)⟩)
  · have r1050 : p1033.toInt ≠ 0 := gj_neq hc1047 (show Int32.toInt 0 = 0 by decide)
    have bp1033' : gB p1033 1 1 := ⟨by omega, by omega⟩
    refine G_iconst (-1) d_cX0_secondUse_4 (by decide +kernel) ?_
    refine G_goto 14 d_cX0_secondUse_5 (by decide +kernel) ?_
    exact G_iret d_cX0_secondUse_14 rfl (Nat.le_of_ble_eq_true rfl) (Nat.le_of_ble_eq_true rfl) (Or.inr (⟨rfl, rfl, r1050, (fun R c1 c2 => c2 r1050)⟩))
/- tl_Arrays_fill_6: l3, z; out: z -/
def tl_Arrays_fill_6 (a1 : Int64) (s1 : Int32) (s2 : Nat → Int64) (k : Nat) (e1 : Nat → Int64) : Prop := ∀ R : (Int32) → (Nat → Int64) → Nat → (Nat → Int64) → Prop,
  (∀ (l3_1 : Int32) (z_1 : Nat → Int64), gB l3_1 0 40 → 40 ≤ l3_1.toInt → R l3_1 z_1 22 z_1) →
  (∀ (l3_1 : Int32) (z_1 : Nat → Int64) (x1 : Nat → Int64) (x2 : Int32) (k : Nat) (e1 : Nat → Int64), gB l3_1 0 40 → l3_1.toInt < 40 → x1 = vp_updL z_1 l3_1.toNatClampNeg a1 → x2.toInt = l3_1.toInt + 1 → R x2 x1 k e1 → R l3_1 z_1 k e1) →
  R s1 s2 k e1
/- tr_Arrays_fill: z -/
def tr_Arrays_fill (a1 : Int64) (p : Nat → Int64) (o1 : Nat → Int64) : Prop := ∀ R : (Nat → Int64) → Prop,
  (∀ (x1 : Nat → Int64), tl_Arrays_fill_6 a1 (0 : Int32) p 22 x1 → R x1) →
  R o1
abbrev ky_1084_Arrays_fill : gKey := (cJ7_fill_d0a16, 5, yJ7_fill_d0a16.cls, none, [], yJ7_fill_d0a16.name, fun _ _ => True)
abbrev po_1084_Arrays_fill (I : FieldType → ClassId) (q1081 : Nat) (pl1082 : Int64) (f1083 : Nat → Int64) : Option Value → va_W → Prop := fun r w => ∃ (f1120 : Nat → Int64), r = none ∧ w = [(q1081, .inl (I .long, 40, .inr (.inl f1120)))] ∧ tr_Arrays_fill pl1082 f1083 f1120
set_option maxRecDepth 100000 in
set_option maxHeartbeats 4000000 in
theorem ct_1084_Arrays_fill (l : Launch) (hl0 : l.stackTraces = false) (D : va_G) (I : FieldType → ClassId) (q1081 : Nat) (pl1082 : Int64) (f1083 : Nat → Int64)  : Ct (gV D I) l yJ7_fill_d0a16 cJ7_fill_d0a16 5 none 0 0 0 0 [.ref q1081, .long pl1082] [(q1081, .inl (I .long, 40, .inr (.inl f1083)))] (po_1084_Arrays_fill I q1081 pl1082 f1083) gN := by
  refine Ct_ofF hl0 (by decide +kernel) (Nat.le_of_ble_eq_true rfl) ?_
  refine G_iconst 0 d_cJ7_fill_d0a16_0 (by decide +kernel) ?_
  refine G_istore_n (L' := [(3, .int 0), (0, .ref q1081), (1, .long pl1082)]) d_cJ7_fill_d0a16_1 (Nat.le_of_ble_eq_true rfl) rfl ?_
  refine G_aload_n 1 d_cJ7_fill_d0a16_2 rfl ?_
  refine G_alen 40 0 2 d_cJ7_fill_d0a16_3 rfl rfl rfl ?_
  refine G_istore (L' := [(4, .int 40), (3, .int 0), (0, .ref q1081), (1, .long pl1082)]) d_cJ7_fill_d0a16_4 (Nat.le_of_ble_eq_true rfl) rfl ?_
  have hlp6_1113 : ∀ (n6_1113 : Nat) (g1112 : Int32) (f1113 : Nat → Int64), gB g1112 0 40 → (∀ (k : Nat) (e1 : Nat → Int64), tl_Arrays_fill_6 pl1082 g1112 f1113 k e1 → tl_Arrays_fill_6 pl1082 (0 : Int32) f1083 k e1) → ((41 : Int) - g1112.toInt).toNat < n6_1113 → G (gV D I) l (gRm 0 0 0 0) (gM (gV D I) (po_1084_Arrays_fill I q1081 pl1082 f1083) gN 0 0) ky_1084_Arrays_fill 6 [(4, .int 40), (3, .int g1112), (0, .ref q1081), (1, .long pl1082)] [] [(q1081, .inl (I .long, 40, .inr (.inl f1113)))] 0 0 := by
    intro n6_1113
    induction n6_1113 with
    | zero => intro g1112 f1113 bg1112 kt6_1113 hm6_1113; exact absurd hm6_1113 (Nat.not_lt_zero _)
    | succ n6_1113 ih6_1113 =>
      intro g1112 f1113 bg1112 kt6_1113 hm6_1113
      refine G_iload_n 1 d_cJ7_fill_d0a16_6 rfl ?_
      refine G_iload 0 d_cJ7_fill_d0a16_7 rfl ?_
      refine G_icmp_ge 22 d_cJ7_fill_d0a16_9 (by decide +kernel) (fun hc1114 => ?_) (fun hc1114 => ?_)
      · have r1115 : 40 ≤ g1112.toInt := gj_leL hc1114 (show Int32.toInt 40 = 40 by decide)
        have bg1112' : gB g1112 40 40 := ⟨by omega, by omega⟩
        have hx1116 : tl_Arrays_fill_6 pl1082 (0 : Int32) f1083 22 f1113 := kt6_1113 22 f1113 (fun R c1 c2 => c1 g1112 f1113 bg1112 r1115)
        exact G_vret d_cJ7_fill_d0a16_22 rfl (Nat.le_of_ble_eq_true rfl) (Nat.le_of_ble_eq_true rfl) ⟨f1113, rfl, rfl, (fun R c1 => c1 f1113 hx1116)⟩
      · have r1117 : g1112.toInt < 40 := gj_nleL hc1114 (show Int32.toInt 40 = 40 by decide)
        have bg1112' : gB g1112 0 39 := ⟨by omega, by omega⟩
        refine G_aload_n 2 d_cJ7_fill_d0a16_12 rfl ?_
        refine G_iload_n 1 d_cJ7_fill_d0a16_13 rfl ?_
        refine G_lload_n 3 d_cJ7_fill_d0a16_14 rfl ?_
        refine G_lastN 0 2 d_cJ7_fill_d0a16_15 rfl rfl (gB_in bg1112' (by decide) (by decide)) (fun f1118 hf1118 => ?_)
        refine G_ws (ws' := [(q1081, .inl (I .long, 40, .inr (.inl f1118)))]) (cs' := 0) (sl' := 0) rfl rfl rfl ?_
        obtain ⟨z1119, hz1119⟩ : ∃ z : Int32, z = g1112 + Int32.ofInt 1 := ⟨_, rfl⟩
        have ez1119 : z1119.toInt = g1112.toInt + 1 := gI_inc hz1119 (by decide) bg1112' (by decide) (by decide)
        have bz1119 : gB z1119 1 40 := ⟨by omega, by omega⟩
        refine G_iinc (L' := [(3, .int z1119), (4, .int 40), (0, .ref q1081), (1, .long pl1082)]) z1119 1 d_cJ7_fill_d0a16_16 rfl hz1119.symm (Nat.le_of_ble_eq_true rfl) rfl ?_
        refine G_goto 6 d_cJ7_fill_d0a16_19 (by decide +kernel) ?_
        refine G_lv (L' := [(4, .int 40), (3, .int z1119), (0, .ref q1081), (1, .long pl1082)]) [1, 0, 2, 3] rfl ?_
        exact ih6_1113 z1119 f1118 (gB_w bz1119 (by decide) (by decide)) (fun k e1 ht => kt6_1113 k e1 (fun R c1 c2 => c2 g1112 f1113 f1118 z1119 k e1 bg1112 r1117 hf1118 ez1119 (ht R c1 c2))) (by have qa0 : Int32.toInt 40 = 40 := (by decide); omega)
  exact hlp6_1113 (((41 : Int) - 0).toNat + 1) 0 f1083 (gB_w (gBl (show Int32.toInt 0 = 0 by decide)) (by decide) (by decide)) (fun k e1 ht => ht) (Nat.lt_succ_self _)
/- tl_Arrays_fill2_5: l2, z; out: z -/
def tl_Arrays_fill2_5 (a1 : Int32) (s1 : Int32) (s2 : Nat → Int32) (k : Nat) (e1 : Nat → Int32) : Prop := ∀ R : (Int32) → (Nat → Int32) → Nat → (Nat → Int32) → Prop,
  (∀ (l2_1 : Int32) (z_1 : Nat → Int32), gB l2_1 0 40 → 40 ≤ l2_1.toInt → R l2_1 z_1 20 z_1) →
  (∀ (l2_1 : Int32) (z_1 : Nat → Int32) (x1 : Nat → Int32) (x2 : Int32) (k : Nat) (e1 : Nat → Int32), gB l2_1 0 40 → l2_1.toInt < 40 → x1 = upd z_1 l2_1.toNatClampNeg a1 → x2.toInt = l2_1.toInt + 1 → R x2 x1 k e1 → R l2_1 z_1 k e1) →
  R s1 s2 k e1
/- tr_Arrays_fill2: z -/
def tr_Arrays_fill2 (a1 : Int32) (p : Nat → Int32) (o1 : Nat → Int32) : Prop := ∀ R : (Nat → Int32) → Prop,
  (∀ (x1 : Nat → Int32), tl_Arrays_fill2_5 a1 (0 : Int32) p 20 x1 → R x1) →
  R o1
