theorem d_cX9_advance_46 : decode cX9_advance 46 = .ok (.aload_n 0, 1) := by decide +kernel
theorem d_cX9_advance_47 : decode cX9_advance 47 = .ok (.getfield 9, 3) := by decide +kernel
theorem d_cX9_advance_50 : decode cX9_advance 50 = .ok (.aload_n 0, 1) := by decide +kernel
theorem d_cX9_advance_51 : decode cX9_advance 51 = .ok (.getfield 22, 3) := by decide +kernel
theorem d_cX9_advance_54 : decode cX9_advance 54 = .ok (.iconst 1, 1) := by decide +kernel
theorem d_cX9_advance_55 : decode cX9_advance 55 = .ok (.iadd, 1) := by decide +kernel
theorem d_cX9_advance_56 : decode cX9_advance 56 = .ok (.invokevirtual 35, 3) := by decide +kernel
theorem d_cX9_advance_59 : decode cX9_advance 59 = .ok (.istore_n 3, 1) := by decide +kernel
theorem d_cX9_advance_60 : decode cX9_advance 60 = .ok (.aload_n 0, 1) := by decide +kernel
theorem d_cX9_advance_61 : decode cX9_advance 61 = .ok (.iconst 0, 1) := by decide +kernel
theorem d_cX9_advance_62 : decode cX9_advance 62 = .ok (.putfield 19, 3) := by decide +kernel
theorem d_cX9_advance_65 : decode cX9_advance 65 = .ok (.iload_n 2, 1) := by decide +kernel
theorem d_cX9_advance_66 : decode cX9_advance 66 = .ok (.iconst (-1), 1) := by decide +kernel
theorem d_cX9_advance_67 : decode cX9_advance 67 = .ok (.if_icmp .ne 19, 3) := by decide +kernel
theorem d_cX9_advance_70 : decode cX9_advance 70 = .ok (.aload_n 0, 1) := by decide +kernel
theorem d_cX9_advance_71 : decode cX9_advance 71 = .ok (.iconst 1, 1) := by decide +kernel
theorem d_cX9_advance_72 : decode cX9_advance 72 = .ok (.putfield 15, 3) := by decide +kernel
theorem d_cX9_advance_75 : decode cX9_advance 75 = .ok (.aload_n 0, 1) := by decide +kernel
theorem d_cX9_advance_76 : decode cX9_advance 76 = .ok (.aload_n 0, 1) := by decide +kernel
theorem d_cX9_advance_77 : decode cX9_advance 77 = .ok (.getfield 22, 3) := by decide +kernel
theorem d_cX9_advance_80 : decode cX9_advance 80 = .ok (.putfield 25, 3) := by decide +kernel
theorem d_cX9_advance_83 : decode cX9_advance 83 = .ok (.goto 111, 3) := by decide +kernel
theorem d_cX9_advance_194 : decode cX9_advance 194 = .ok (.return_, 1) := by decide +kernel
theorem d_cX9_init_0 : decode cX9_init 0 = .ok (.aload_n 0, 1) := by decide +kernel
theorem d_cX9_init_1 : decode cX9_init 1 = .ok (.invokespecial 3, 3) := by decide +kernel
theorem d_cX9_init_4 : decode cX9_init 4 = .ok (.aload_n 0, 1) := by decide +kernel
theorem d_cX9_init_5 : decode cX9_init 5 = .ok (.aload_n 1, 1) := by decide +kernel
theorem d_cX9_init_6 : decode cX9_init 6 = .ok (.putfield 9, 3) := by decide +kernel
theorem d_cX9_init_9 : decode cX9_init 9 = .ok (.return_, 1) := by decide +kernel
theorem d_cX9_kind_0 : decode cX9_kind 0 = .ok (.aload_n 0, 1) := by decide +kernel
theorem d_cX9_kind_1 : decode cX9_kind 1 = .ok (.getfield 15, 3) := by decide +kernel
theorem d_cX9_kind_4 : decode cX9_kind 4 = .ok (.ireturn, 1) := by decide +kernel
theorem d_cX9_open_0 : decode cX9_open 0 = .ok (.aload_n 0, 1) := by decide +kernel
theorem d_cX9_open_1 : decode cX9_open 1 = .ok (.iconst 0, 1) := by decide +kernel
theorem d_cX9_open_2 : decode cX9_open 2 = .ok (.putfield 15, 3) := by decide +kernel
theorem d_cX9_open_5 : decode cX9_open 5 = .ok (.aload_n 0, 1) := by decide +kernel
theorem d_cX9_open_6 : decode cX9_open 6 = .ok (.iconst 0, 1) := by decide +kernel
theorem d_cX9_open_7 : decode cX9_open 7 = .ok (.putfield 25, 3) := by decide +kernel
theorem d_cX9_open_10 : decode cX9_open 10 = .ok (.aload_n 0, 1) := by decide +kernel
theorem d_cX9_open_11 : decode cX9_open 11 = .ok (.invokevirtual 28, 3) := by decide +kernel
theorem d_cX9_open_14 : decode cX9_open 14 = .ok (.return_, 1) := by decide +kernel
theorem d_cX9_place_0 : decode cX9_place 0 = .ok (.aload_n 0, 1) := by decide +kernel
theorem d_cX9_place_1 : decode cX9_place 1 = .ok (.getfield 22, 3) := by decide +kernel
theorem d_cX9_place_4 : decode cX9_place 4 = .ok (.ireturn, 1) := by decide +kernel
theorem d_cX9_skipBlanks_0 : decode cX9_skipBlanks 0 = .ok (.iconst 0, 1) := by decide +kernel
theorem d_cX9_skipBlanks_1 : decode cX9_skipBlanks 1 = .ok (.istore_n 2, 1) := by decide +kernel
theorem d_cX9_skipBlanks_2 : decode cX9_skipBlanks 2 = .ok (.iload_n 1, 1) := by decide +kernel
theorem d_cX9_skipBlanks_3 : decode cX9_skipBlanks 3 = .ok (.istore_n 3, 1) := by decide +kernel
theorem d_cX9_skipBlanks_4 : decode cX9_skipBlanks 4 = .ok (.iload_n 3, 1) := by decide +kernel
theorem d_cX9_skipBlanks_5 : decode cX9_skipBlanks 5 = .ok (.aload_n 0, 1) := by decide +kernel
theorem d_cX9_skipBlanks_6 : decode cX9_skipBlanks 6 = .ok (.getfield 9, 3) := by decide +kernel
theorem d_cX9_skipBlanks_9 : decode cX9_skipBlanks 9 = .ok (.invokevirtual 61, 3) := by decide +kernel
theorem d_cX9_skipBlanks_12 : decode cX9_skipBlanks 12 = .ok (.if_icmp .ge 77, 3) := by decide +kernel
theorem d_cX9_skipBlanks_89 : decode cX9_skipBlanks 89 = .ok (.aload_n 0, 1) := by decide +kernel
theorem d_cX9_skipBlanks_90 : decode cX9_skipBlanks 90 = .ok (.getfield 9, 3) := by decide +kernel
theorem d_cX9_skipBlanks_93 : decode cX9_skipBlanks 93 = .ok (.invokevirtual 61, 3) := by decide +kernel
theorem d_cX9_skipBlanks_96 : decode cX9_skipBlanks 96 = .ok (.ireturn, 1) := by decide +kernel
