theorem dr_cX17_rename_0 : decode cX17_rename 0 = .ok (.iconst 0, 1) := by decide +kernel
theorem dr_cX17_rename_1 : decode cX17_rename 1 = .ok (.istore_n 3, 1) := by decide +kernel
theorem dr_cX17_rename_2 : decode cX17_rename 2 = .ok (.iload_n 3, 1) := by decide +kernel
theorem dr_cX17_rename_3 : decode cX17_rename 3 = .ok (.aload_n 0, 1) := by decide +kernel
theorem dr_cX17_rename_4 : decode cX17_rename 4 = .ok (.invokevirtual 96, 3) := by decide +kernel
theorem dr_cX17_rename_7 : decode cX17_rename 7 = .ok (.if_icmp .ge 143, 3) := by decide +kernel
theorem dr_cX17_rename_150 : decode cX17_rename 150 = .ok (.return_, 1) := by decide +kernel
theorem dr_cX17_rename_10 : decode cX17_rename 10 = .ok (.aload_n 0, 1) := by decide +kernel
theorem dr_cX17_rename_11 : decode cX17_rename 11 = .ok (.iload_n 3, 1) := by decide +kernel
theorem dr_cX17_rename_12 : decode cX17_rename 12 = .ok (.invokevirtual 101, 3) := by decide +kernel
theorem dr_cX17_rename_15 : decode cX17_rename 15 = .ok (.astore 4, 2) := by decide +kernel
theorem dr_cX17_rename_17 : decode cX17_rename 17 = .ok (.iconst 0, 1) := by decide +kernel
theorem dr_cX17_rename_18 : decode cX17_rename 18 = .ok (.istore 5, 2) := by decide +kernel
theorem dr_cX17_rename_20 : decode cX17_rename 20 = .ok (.iload 5, 2) := by decide +kernel
theorem dr_cX17_rename_22 : decode cX17_rename 22 = .ok (.aload 4, 2) := by decide +kernel
theorem dr_cX17_rename_24 : decode cX17_rename 24 = .ok (.getfield 117, 3) := by decide +kernel
theorem dr_cX17_rename_27 : decode cX17_rename 27 = .ok (.invokevirtual 121, 3) := by decide +kernel
theorem dr_cX17_rename_30 : decode cX17_rename 30 = .ok (.if_icmp .gt 114, 3) := by decide +kernel
theorem dr_cX17_rename_144 : decode cX17_rename 144 = .ok (.iinc 3 1, 3) := by decide +kernel
theorem dr_cX17_rename_147 : decode cX17_rename 147 = .ok (.goto (-145), 3) := by decide +kernel
theorem dr_cX17_rename_33 : decode cX17_rename 33 = .ok (.iload 5, 2) := by decide +kernel
theorem dr_cX17_rename_35 : decode cX17_rename 35 = .ok (.aload 4, 2) := by decide +kernel
theorem dr_cX17_rename_37 : decode cX17_rename 37 = .ok (.getfield 117, 3) := by decide +kernel
theorem dr_cX17_rename_40 : decode cX17_rename 40 = .ok (.invokevirtual 121, 3) := by decide +kernel
theorem dr_cX17_rename_43 : decode cX17_rename 43 = .ok (.if_icmp .ge 19, 3) := by decide +kernel
theorem dr_cX17_rename_62 : decode cX17_rename 62 = .ok (.aload 4, 2) := by decide +kernel
theorem dr_cX17_rename_64 : decode cX17_rename 64 = .ok (.getfield 109, 3) := by decide +kernel
theorem dr_cX17_rename_67 : decode cX17_rename 67 = .ok (.astore 6, 2) := by decide +kernel
theorem dr_cX17_rename_69 : decode cX17_rename 69 = .ok (.aload 6, 2) := by decide +kernel
theorem dr_cX17_rename_71 : decode cX17_rename 71 = .ok (.invokevirtual 70, 3) := by decide +kernel
theorem dr_cX17_rename_74 : decode cX17_rename 74 = .ok (.ifCond .eq 18, 3) := by decide +kernel
theorem dr_cX17_rename_92 : decode cX17_rename 92 = .ok (.aload 6, 2) := by decide +kernel
theorem dr_cX17_rename_94 : decode cX17_rename 94 = .ok (.invokevirtual 76, 3) := by decide +kernel
theorem dr_cX17_rename_97 : decode cX17_rename 97 = .ok (.ifCond .eq 18, 3) := by decide +kernel
theorem dr_cX17_rename_115 : decode cX17_rename 115 = .ok (.aload 6, 2) := by decide +kernel
theorem dr_cX17_rename_117 : decode cX17_rename 117 = .ok (.invokevirtual 48, 3) := by decide +kernel
theorem dr_cX17_rename_120 : decode cX17_rename 120 = .ok (.ifCond .eq 18, 3) := by decide +kernel
theorem dr_cX17_rename_138 : decode cX17_rename 138 = .ok (.iinc 5 1, 3) := by decide +kernel
theorem dr_cX17_rename_141 : decode cX17_rename 141 = .ok (.goto (-121), 3) := by decide +kernel
theorem dr_cX17_rename_123 : decode cX17_rename 123 = .ok (.aload 6, 2) := by decide +kernel
theorem dr_cX17_rename_125 : decode cX17_rename 125 = .ok (.getfield 52, 3) := by decide +kernel
theorem dr_cX17_rename_128 : decode cX17_rename 128 = .ok (.iload_n 1, 1) := by decide +kernel
theorem dr_cX17_rename_129 : decode cX17_rename 129 = .ok (.if_icmp .ne 9, 3) := by decide +kernel
theorem dr_cX17_rename_132 : decode cX17_rename 132 = .ok (.aload 6, 2) := by decide +kernel
theorem dr_cX17_rename_134 : decode cX17_rename 134 = .ok (.iload_n 2, 1) := by decide +kernel
theorem dr_cX17_rename_135 : decode cX17_rename 135 = .ok (.putfield 52, 3) := by decide +kernel
theorem dr_cX17_rename_100 : decode cX17_rename 100 = .ok (.aload 6, 2) := by decide +kernel
theorem dr_cX17_rename_102 : decode cX17_rename 102 = .ok (.getfield 79, 3) := by decide +kernel
theorem dr_cX17_rename_105 : decode cX17_rename 105 = .ok (.iload_n 1, 1) := by decide +kernel
theorem dr_cX17_rename_106 : decode cX17_rename 106 = .ok (.if_icmp .ne 9, 3) := by decide +kernel
theorem dr_cX17_rename_109 : decode cX17_rename 109 = .ok (.aload 6, 2) := by decide +kernel
theorem dr_cX17_rename_111 : decode cX17_rename 111 = .ok (.iload_n 2, 1) := by decide +kernel
theorem dr_cX17_rename_112 : decode cX17_rename 112 = .ok (.putfield 79, 3) := by decide +kernel
theorem dr_cX17_rename_77 : decode cX17_rename 77 = .ok (.aload 6, 2) := by decide +kernel
theorem dr_cX17_rename_79 : decode cX17_rename 79 = .ok (.getfield 73, 3) := by decide +kernel
theorem dr_cX17_rename_82 : decode cX17_rename 82 = .ok (.iload_n 1, 1) := by decide +kernel
theorem dr_cX17_rename_83 : decode cX17_rename 83 = .ok (.if_icmp .ne 9, 3) := by decide +kernel
theorem dr_cX17_rename_86 : decode cX17_rename 86 = .ok (.aload 6, 2) := by decide +kernel
theorem dr_cX17_rename_88 : decode cX17_rename 88 = .ok (.iload_n 2, 1) := by decide +kernel
theorem dr_cX17_rename_89 : decode cX17_rename 89 = .ok (.putfield 73, 3) := by decide +kernel
theorem dr_cX17_rename_46 : decode cX17_rename 46 = .ok (.aload 4, 2) := by decide +kernel
theorem dr_cX17_rename_48 : decode cX17_rename 48 = .ok (.getfield 117, 3) := by decide +kernel
theorem dr_cX17_rename_51 : decode cX17_rename 51 = .ok (.iload 5, 2) := by decide +kernel
theorem dr_cX17_rename_53 : decode cX17_rename 53 = .ok (.invokevirtual 124, 3) := by decide +kernel
theorem dr_cX17_rename_56 : decode cX17_rename 56 = .ok (.checkcast 40, 3) := by decide +kernel
theorem dr_cX17_rename_59 : decode cX17_rename 59 = .ok (.goto 8, 3) := by decide +kernel