theorem d_cX0_init_43 : decode cX0_init 43 = .ok (.newarray .int, 2) := by decide +kernel
theorem d_cX0_init_45 : decode cX0_init 45 = .ok (.putfield 30, 3) := by decide +kernel
theorem d_cX0_init_48 : decode cX0_init 48 = .ok (.aload_n 0, 1) := by decide +kernel
theorem d_cX0_init_49 : decode cX0_init 49 = .ok (.iload_n 2, 1) := by decide +kernel
theorem d_cX0_init_50 : decode cX0_init 50 = .ok (.newarray .int, 2) := by decide +kernel
theorem d_cX0_init_52 : decode cX0_init 52 = .ok (.putfield 33, 3) := by decide +kernel
theorem d_cX0_init_55 : decode cX0_init 55 = .ok (.aload_n 0, 1) := by decide +kernel
theorem d_cX0_init_56 : decode cX0_init 56 = .ok (.iload_n 2, 1) := by decide +kernel
theorem d_cX0_init_57 : decode cX0_init 57 = .ok (.newarray .int, 2) := by decide +kernel
theorem d_cX0_init_59 : decode cX0_init 59 = .ok (.putfield 36, 3) := by decide +kernel
theorem d_cX0_init_62 : decode cX0_init 62 = .ok (.aload_n 0, 1) := by decide +kernel
theorem d_cX0_init_63 : decode cX0_init 63 = .ok (.iload_n 2, 1) := by decide +kernel
theorem d_cX0_init_64 : decode cX0_init 64 = .ok (.newarray .int, 2) := by decide +kernel
theorem d_cX0_init_66 : decode cX0_init 66 = .ok (.putfield 39, 3) := by decide +kernel
theorem d_cX0_init_69 : decode cX0_init 69 = .ok (.aload_n 0, 1) := by decide +kernel
theorem d_cX0_init_70 : decode cX0_init 70 = .ok (.iload_n 2, 1) := by decide +kernel
theorem d_cX0_init_71 : decode cX0_init 71 = .ok (.newarray .int, 2) := by decide +kernel
theorem d_cX0_init_73 : decode cX0_init 73 = .ok (.putfield 42, 3) := by decide +kernel
theorem d_cX0_init_76 : decode cX0_init 76 = .ok (.return_, 1) := by decide +kernel
theorem d_cX10_addInt_0 : decode cX10_addInt 0 = .ok (.bipush 24, 2) := by decide +kernel
theorem d_cX10_addInt_2 : decode cX10_addInt 2 = .ok (.istore_n 2, 1) := by decide +kernel
theorem d_cX10_addInt_3 : decode cX10_addInt 3 = .ok (.iload_n 2, 1) := by decide +kernel
theorem d_cX10_addInt_4 : decode cX10_addInt 4 = .ok (.ifCond .lt 44, 3) := by decide +kernel
theorem d_cX10_addInt_7 : decode cX10_addInt 7 = .ok (.aload_n 0, 1) := by decide +kernel
theorem d_cX10_addInt_8 : decode cX10_addInt 8 = .ok (.getfield 15, 3) := by decide +kernel
theorem d_cX10_addInt_11 : decode cX10_addInt 11 = .ok (.aload_n 0, 1) := by decide +kernel
theorem d_cX10_addInt_12 : decode cX10_addInt 12 = .ok (.getfield 9, 3) := by decide +kernel
theorem d_cX10_addInt_15 : decode cX10_addInt 15 = .ok (.arraylength, 1) := by decide +kernel
theorem d_cX10_addInt_16 : decode cX10_addInt 16 = .ok (.if_icmp .ge 32, 3) := by decide +kernel
theorem d_cX10_addInt_19 : decode cX10_addInt 19 = .ok (.aload_n 0, 1) := by decide +kernel
theorem d_cX10_addInt_20 : decode cX10_addInt 20 = .ok (.getfield 9, 3) := by decide +kernel
theorem d_cX10_addInt_23 : decode cX10_addInt 23 = .ok (.aload_n 0, 1) := by decide +kernel
theorem d_cX10_addInt_24 : decode cX10_addInt 24 = .ok (.getfield 15, 3) := by decide +kernel
theorem d_cX10_addInt_27 : decode cX10_addInt 27 = .ok (.iload_n 1, 1) := by decide +kernel
theorem d_cX10_addInt_28 : decode cX10_addInt 28 = .ok (.iload_n 2, 1) := by decide +kernel
theorem d_cX10_addInt_29 : decode cX10_addInt 29 = .ok (.ishr, 1) := by decide +kernel
theorem d_cX10_addInt_30 : decode cX10_addInt 30 = .ok (.i2b, 1) := by decide +kernel
theorem d_cX10_addInt_31 : decode cX10_addInt 31 = .ok (.bastore, 1) := by decide +kernel
theorem d_cX10_addInt_32 : decode cX10_addInt 32 = .ok (.aload_n 0, 1) := by decide +kernel
theorem d_cX10_addInt_33 : decode cX10_addInt 33 = .ok (.dup, 1) := by decide +kernel
theorem d_cX10_addInt_34 : decode cX10_addInt 34 = .ok (.getfield 15, 3) := by decide +kernel
theorem d_cX10_addInt_37 : decode cX10_addInt 37 = .ok (.iconst 1, 1) := by decide +kernel
theorem d_cX10_addInt_38 : decode cX10_addInt 38 = .ok (.iadd, 1) := by decide +kernel
theorem d_cX10_addInt_39 : decode cX10_addInt 39 = .ok (.putfield 15, 3) := by decide +kernel
theorem d_cX10_addInt_42 : decode cX10_addInt 42 = .ok (.iinc 2 (-8), 3) := by decide +kernel
theorem d_cX10_addInt_45 : decode cX10_addInt 45 = .ok (.goto (-42), 3) := by decide +kernel
theorem d_cX10_addInt_48 : decode cX10_addInt 48 = .ok (.return_, 1) := by decide +kernel
theorem d_cX10_byteAt_0 : decode cX10_byteAt 0 = .ok (.iload_n 1, 1) := by decide +kernel
theorem d_cX10_byteAt_1 : decode cX10_byteAt 1 = .ok (.ifCond .lt 24, 3) := by decide +kernel
theorem d_cX10_byteAt_4 : decode cX10_byteAt 4 = .ok (.iload_n 1, 1) := by decide +kernel
theorem d_cX10_byteAt_5 : decode cX10_byteAt 5 = .ok (.aload_n 0, 1) := by decide +kernel
theorem d_cX10_byteAt_6 : decode cX10_byteAt 6 = .ok (.getfield 15, 3) := by decide +kernel
theorem d_cX10_byteAt_9 : decode cX10_byteAt 9 = .ok (.if_icmp .ge 16, 3) := by decide +kernel
theorem d_cX10_byteAt_25 : decode cX10_byteAt 25 = .ok (.iconst (-1), 1) := by decide +kernel
theorem d_cX10_byteAt_26 : decode cX10_byteAt 26 = .ok (.ireturn, 1) := by decide +kernel
theorem d_cX10_cutTo_0 : decode cX10_cutTo 0 = .ok (.aload_n 0, 1) := by decide +kernel
theorem d_cX10_cutTo_1 : decode cX10_cutTo 1 = .ok (.iconst 0, 1) := by decide +kernel
theorem d_cX10_cutTo_2 : decode cX10_cutTo 2 = .ok (.iload_n 1, 1) := by decide +kernel
theorem d_cX10_cutTo_3 : decode cX10_cutTo 3 = .ok (.aload_n 0, 1) := by decide +kernel
theorem d_cX10_cutTo_4 : decode cX10_cutTo 4 = .ok (.getfield 15, 3) := by decide +kernel
theorem d_cX10_cutTo_7 : decode cX10_cutTo 7 = .ok (.invokestatic 19, 3) := by decide +kernel
theorem d_cX10_cutTo_10 : decode cX10_cutTo 10 = .ok (.invokestatic 25, 3) := by decide +kernel
theorem d_cX10_cutTo_13 : decode cX10_cutTo 13 = .ok (.putfield 15, 3) := by decide +kernel
theorem d_cX10_cutTo_16 : decode cX10_cutTo 16 = .ok (.return_, 1) := by decide +kernel
theorem d_cX10_hasRoom_0 : decode cX10_hasRoom 0 = .ok (.aload_n 0, 1) := by decide +kernel
theorem d_cX10_hasRoom_1 : decode cX10_hasRoom 1 = .ok (.getfield 15, 3) := by decide +kernel
theorem d_cX10_hasRoom_4 : decode cX10_hasRoom 4 = .ok (.iload_n 1, 1) := by decide +kernel
theorem d_cX10_hasRoom_5 : decode cX10_hasRoom 5 = .ok (.iadd, 1) := by decide +kernel
theorem d_cX10_hasRoom_6 : decode cX10_hasRoom 6 = .ok (.aload_n 0, 1) := by decide +kernel
theorem d_cX10_hasRoom_7 : decode cX10_hasRoom 7 = .ok (.getfield 9, 3) := by decide +kernel
theorem d_cX10_hasRoom_10 : decode cX10_hasRoom 10 = .ok (.arraylength, 1) := by decide +kernel
theorem d_cX10_hasRoom_11 : decode cX10_hasRoom 11 = .ok (.if_icmp .gt 7, 3) := by decide +kernel
theorem d_cX10_hasRoom_14 : decode cX10_hasRoom 14 = .ok (.iconst 1, 1) := by decide +kernel
theorem d_cX10_hasRoom_15 : decode cX10_hasRoom 15 = .ok (.goto 4, 3) := by decide +kernel
theorem d_cX10_hasRoom_19 : decode cX10_hasRoom 19 = .ok (.ireturn, 1) := by decide +kernel
theorem d_cX10_init_0 : decode cX10_init 0 = .ok (.aload_n 0, 1) := by decide +kernel
theorem d_cX10_init_1 : decode cX10_init 1 = .ok (.invokespecial 3, 3) := by decide +kernel
theorem d_cX10_init_4 : decode cX10_init 4 = .ok (.aload_n 0, 1) := by decide +kernel
theorem d_cX10_init_5 : decode cX10_init 5 = .ok (.sipush 8192, 3) := by decide +kernel
theorem d_cX10_init_8 : decode cX10_init 8 = .ok (.newarray .byte, 2) := by decide +kernel
theorem d_cX10_init_10 : decode cX10_init 10 = .ok (.putfield 9, 3) := by decide +kernel
theorem d_cX10_init_13 : decode cX10_init 13 = .ok (.return_, 1) := by decide +kernel
theorem d_cX10_size_0 : decode cX10_size 0 = .ok (.aload_n 0, 1) := by decide +kernel
theorem d_cX10_size_1 : decode cX10_size 1 = .ok (.getfield 15, 3) := by decide +kernel
theorem d_cX10_size_4 : decode cX10_size 4 = .ok (.ireturn, 1) := by decide +kernel
theorem d_cX11_count_0 : decode cX11_count 0 = .ok (.iload_n 1, 1) := by decide +kernel
theorem d_cX11_count_1 : decode cX11_count 1 = .ok (.tableswitch 97 0 4 #[35, 54, 73, 81, 89], 35) := by decide +kernel
theorem d_cX11_count_36 : decode cX11_count 36 = .ok (.aload_n 0, 1) := by decide +kernel
theorem d_cX11_count_37 : decode cX11_count 37 = .ok (.getfield 94, 3) := by decide +kernel
theorem d_cX11_count_40 : decode cX11_count 40 = .ok (.ifCond .eq 13, 3) := by decide +kernel
theorem d_cX11_count_53 : decode cX11_count 53 = .ok (.iconst 0, 1) := by decide +kernel
theorem d_cX11_count_54 : decode cX11_count 54 = .ok (.ireturn, 1) := by decide +kernel
theorem d_cX11_count_55 : decode cX11_count 55 = .ok (.aload_n 0, 1) := by decide +kernel
theorem d_cX11_count_56 : decode cX11_count 56 = .ok (.getfield 94, 3) := by decide +kernel
theorem d_cX11_count_59 : decode cX11_count 59 = .ok (.ifCond .eq 13, 3) := by decide +kernel
theorem d_cX11_count_72 : decode cX11_count 72 = .ok (.iconst 0, 1) := by decide +kernel
theorem d_cX11_count_73 : decode cX11_count 73 = .ok (.ireturn, 1) := by decide +kernel
theorem d_cX11_count_74 : decode cX11_count 74 = .ok (.aload_n 0, 1) := by decide +kernel
theorem d_cX11_count_75 : decode cX11_count 75 = .ok (.getfield 21, 3) := by decide +kernel
theorem d_cX11_count_78 : decode cX11_count 78 = .ok (.invokevirtual 127, 3) := by decide +kernel
theorem d_cX11_count_81 : decode cX11_count 81 = .ok (.ireturn, 1) := by decide +kernel
theorem d_cX11_count_82 : decode cX11_count 82 = .ok (.aload_n 0, 1) := by decide +kernel
theorem d_cX11_count_83 : decode cX11_count 83 = .ok (.getfield 12, 3) := by decide +kernel
theorem d_cX11_count_86 : decode cX11_count 86 = .ok (.invokevirtual 78, 3) := by decide +kernel
theorem d_cX11_count_89 : decode cX11_count 89 = .ok (.ireturn, 1) := by decide +kernel
theorem d_cX11_count_90 : decode cX11_count 90 = .ok (.aload_n 0, 1) := by decide +kernel
theorem d_cX11_count_91 : decode cX11_count 91 = .ok (.getfield 60, 3) := by decide +kernel
theorem d_cX11_count_94 : decode cX11_count 94 = .ok (.invokevirtual 130, 3) := by decide +kernel
theorem d_cX11_count_97 : decode cX11_count 97 = .ok (.ireturn, 1) := by decide +kernel
theorem d_cX11_count_98 : decode cX11_count 98 = .ok (.iload_n 1, 1) := by decide +kernel
theorem d_cX11_count_99 : decode cX11_count 99 = .ok (.iconst 5, 1) := by decide +kernel
theorem d_cX11_count_100 : decode cX11_count 100 = .ok (.if_icmp .lt 9, 3) := by decide +kernel
theorem d_cX11_count_103 : decode cX11_count 103 = .ok (.iload_n 1, 1) := by decide +kernel
theorem d_cX11_count_104 : decode cX11_count 104 = .ok (.bipush 11, 2) := by decide +kernel
theorem d_cX11_count_106 : decode cX11_count 106 = .ok (.if_icmp .le 13, 3) := by decide +kernel
theorem d_cX11_count_109 : decode cX11_count 109 = .ok (.new 82, 3) := by decide +kernel
theorem d_cX11_count_112 : decode cX11_count 112 = .ok (.dup, 1) := by decide +kernel
theorem d_cX11_count_113 : decode cX11_count 113 = .ok (.ldc 131, 2) := by decide +kernel
theorem d_cX11_count_115 : decode cX11_count 115 = .ok (.invokespecial 86, 3) := by decide +kernel
theorem d_cX11_count_118 : decode cX11_count 118 = .ok (.athrow, 1) := by decide +kernel
theorem d_cX11_count_119 : decode cX11_count 119 = .ok (.aload_n 0, 1) := by decide +kernel
theorem d_cX11_count_120 : decode cX11_count 120 = .ok (.getfield 46, 3) := by decide +kernel
theorem d_cX11_count_123 : decode cX11_count 123 = .ok (.invokevirtual 133, 3) := by decide +kernel
theorem d_cX11_count_126 : decode cX11_count 126 = .ok (.ifCond .eq 11, 3) := by decide +kernel
theorem d_cX11_count_137 : decode cX11_count 137 = .ok (.iconst 0, 1) := by decide +kernel
theorem d_cX11_count_138 : decode cX11_count 138 = .ok (.ireturn, 1) := by decide +kernel
theorem d_cX11_end_0 : decode cX11_end 0 = .ok (.iload_n 1, 1) := by decide +kernel
theorem d_cX11_end_1 : decode cX11_end 1 = .ok (.ifCond .lt 14, 3) := by decide +kernel
theorem d_cX11_end_4 : decode cX11_end 4 = .ok (.iload_n 1, 1) := by decide +kernel
theorem d_cX11_end_5 : decode cX11_end 5 = .ok (.aload_n 0, 1) := by decide +kernel
theorem d_cX11_end_6 : decode cX11_end 6 = .ok (.getfield 12, 3) := by decide +kernel
theorem d_cX11_end_9 : decode cX11_end 9 = .ok (.invokevirtual 78, 3) := by decide +kernel
theorem d_cX11_end_12 : decode cX11_end 12 = .ok (.if_icmp .le 13, 3) := by decide +kernel
theorem d_cX11_end_15 : decode cX11_end 15 = .ok (.new 82, 3) := by decide +kernel
theorem d_cX11_end_18 : decode cX11_end 18 = .ok (.dup, 1) := by decide +kernel
theorem d_cX11_end_19 : decode cX11_end 19 = .ok (.ldc 84, 2) := by decide +kernel
theorem d_cX11_end_21 : decode cX11_end 21 = .ok (.invokespecial 86, 3) := by decide +kernel
theorem d_cX11_end_24 : decode cX11_end 24 = .ok (.athrow, 1) := by decide +kernel
theorem d_cX11_end_25 : decode cX11_end 25 = .ok (.aload_n 0, 1) := by decide +kernel
theorem d_cX11_end_26 : decode cX11_end 26 = .ok (.getfield 12, 3) := by decide +kernel
theorem d_cX11_end_29 : decode cX11_end 29 = .ok (.iload_n 1, 1) := by decide +kernel
theorem d_cX11_end_30 : decode cX11_end 30 = .ok (.invokevirtual 87, 3) := by decide +kernel
theorem d_cX11_end_33 : decode cX11_end 33 = .ok (.iload_n 1, 1) := by decide +kernel
theorem d_cX11_end_34 : decode cX11_end 34 = .ok (.ireturn, 1) := by decide +kernel
theorem d_cX11_exists_0 : decode cX11_exists 0 = .ok (.iload_n 1, 1) := by decide +kernel
theorem d_cX11_exists_1 : decode cX11_exists 1 = .ok (.ifCond .eq 13, 3) := by decide +kernel
theorem d_cX11_exists_4 : decode cX11_exists 4 = .ok (.aload_n 0, 1) := by decide +kernel
theorem d_cX11_exists_5 : decode cX11_exists 5 = .ok (.getfield 46, 3) := by decide +kernel
theorem d_cX11_exists_8 : decode cX11_exists 8 = .ok (.invokevirtual 133, 3) := by decide +kernel
theorem d_cX11_exists_11 : decode cX11_exists 11 = .ok (.goto 7, 3) := by decide +kernel
theorem d_cX11_exists_14 : decode cX11_exists 14 = .ok (.aload_n 0, 1) := by decide +kernel
theorem d_cX11_exists_15 : decode cX11_exists 15 = .ok (.getfield 94, 3) := by decide +kernel
theorem d_cX11_exists_18 : decode cX11_exists 18 = .ok (.ireturn, 1) := by decide +kernel
theorem d_cX11_feed_0 : decode cX11_feed 0 = .ok (.aload_n 0, 1) := by decide +kernel
theorem d_cX11_feed_1 : decode cX11_feed 1 = .ok (.getfield 12, 3) := by decide +kernel
theorem d_cX11_feed_4 : decode cX11_feed 4 = .ok (.bipush 20, 2) := by decide +kernel
theorem d_cX11_feed_6 : decode cX11_feed 6 = .ok (.invokevirtual 64, 3) := by decide +kernel
theorem d_cX11_feed_9 : decode cX11_feed 9 = .ok (.ifCond .ne 13, 3) := by decide +kernel
theorem d_cX11_feed_22 : decode cX11_feed 22 = .ok (.aload_n 0, 1) := by decide +kernel
theorem d_cX11_feed_23 : decode cX11_feed 23 = .ok (.getfield 12, 3) := by decide +kernel
theorem d_cX11_feed_26 : decode cX11_feed 26 = .ok (.iload_n 1, 1) := by decide +kernel
theorem d_cX11_feed_27 : decode cX11_feed 27 = .ok (.invokevirtual 75, 3) := by decide +kernel
theorem d_cX11_feed_30 : decode cX11_feed 30 = .ok (.aload_n 0, 1) := by decide +kernel
theorem d_cX11_feed_31 : decode cX11_feed 31 = .ok (.getfield 12, 3) := by decide +kernel
theorem d_cX11_feed_34 : decode cX11_feed 34 = .ok (.iload_n 2, 1) := by decide +kernel
theorem d_cX11_feed_35 : decode cX11_feed 35 = .ok (.invokevirtual 75, 3) := by decide +kernel
theorem d_cX11_feed_38 : decode cX11_feed 38 = .ok (.aload_n 0, 1) := by decide +kernel
theorem d_cX11_feed_39 : decode cX11_feed 39 = .ok (.getfield 12, 3) := by decide +kernel
theorem d_cX11_feed_42 : decode cX11_feed 42 = .ok (.iload_n 3, 1) := by decide +kernel
theorem d_cX11_feed_43 : decode cX11_feed 43 = .ok (.invokevirtual 75, 3) := by decide +kernel
theorem d_cX11_feed_46 : decode cX11_feed 46 = .ok (.aload_n 0, 1) := by decide +kernel
theorem d_cX11_feed_47 : decode cX11_feed 47 = .ok (.getfield 12, 3) := by decide +kernel
theorem d_cX11_feed_50 : decode cX11_feed 50 = .ok (.iload 4, 2) := by decide +kernel
theorem d_cX11_feed_52 : decode cX11_feed 52 = .ok (.invokevirtual 75, 3) := by decide +kernel
theorem d_cX11_feed_55 : decode cX11_feed 55 = .ok (.aload_n 0, 1) := by decide +kernel
theorem d_cX11_feed_56 : decode cX11_feed 56 = .ok (.getfield 12, 3) := by decide +kernel
theorem d_cX11_feed_59 : decode cX11_feed 59 = .ok (.iload 5, 2) := by decide +kernel
theorem d_cX11_feed_61 : decode cX11_feed 61 = .ok (.invokevirtual 75, 3) := by decide +kernel
theorem d_cX11_feed_64 : decode cX11_feed 64 = .ok (.aload_n 0, 1) := by decide +kernel
theorem d_cX11_feed_65 : decode cX11_feed 65 = .ok (.getfield 12, 3) := by decide +kernel
theorem d_cX11_feed_68 : decode cX11_feed 68 = .ok (.invokevirtual 78, 3) := by decide +kernel
theorem d_cX11_feed_71 : decode cX11_feed 71 = .ok (.ireturn, 1) := by decide +kernel
theorem d_cX11_give_0 : decode cX11_give 0 = .ok (.iload_n 1, 1) := by decide +kernel
theorem d_cX11_give_1 : decode cX11_give 1 = .ok (.iconst 1, 1) := by decide +kernel
theorem d_cX11_give_2 : decode cX11_give 2 = .ok (.if_icmp .lt 9, 3) := by decide +kernel
theorem d_cX11_give_5 : decode cX11_give 5 = .ok (.iload_n 1, 1) := by decide +kernel
theorem d_cX11_give_6 : decode cX11_give 6 = .ok (.bipush 32, 2) := by decide +kernel
theorem d_cX11_give_8 : decode cX11_give 8 = .ok (.if_icmp .le 13, 3) := by decide +kernel
theorem d_cX11_give_11 : decode cX11_give 11 = .ok (.new 82, 3) := by decide +kernel
theorem d_cX11_give_14 : decode cX11_give 14 = .ok (.dup, 1) := by decide +kernel
theorem d_cX11_give_15 : decode cX11_give 15 = .ok (.ldc 109, 2) := by decide +kernel
theorem d_cX11_give_17 : decode cX11_give 17 = .ok (.invokespecial 86, 3) := by decide +kernel
theorem d_cX11_give_20 : decode cX11_give 20 = .ok (.athrow, 1) := by decide +kernel
theorem d_cX11_give_21 : decode cX11_give 21 = .ok (.aload_n 0, 1) := by decide +kernel
theorem d_cX11_give_22 : decode cX11_give 22 = .ok (.getfield 94, 3) := by decide +kernel
theorem d_cX11_give_25 : decode cX11_give 25 = .ok (.ifCond .ne 13, 3) := by decide +kernel
theorem d_cX11_give_28 : decode cX11_give 28 = .ok (.new 111, 3) := by decide +kernel
theorem d_cX11_give_31 : decode cX11_give 31 = .ok (.dup, 1) := by decide +kernel
theorem d_cX11_give_32 : decode cX11_give 32 = .ok (.ldc 113, 2) := by decide +kernel
theorem d_cX11_give_34 : decode cX11_give 34 = .ok (.invokespecial 115, 3) := by decide +kernel
theorem d_cX11_give_37 : decode cX11_give 37 = .ok (.athrow, 1) := by decide +kernel
theorem d_cX11_init_0 : decode cX11_init 0 = .ok (.aload_n 0, 1) := by decide +kernel
theorem d_cX11_init_1 : decode cX11_init 1 = .ok (.invokespecial 3, 3) := by decide +kernel
theorem d_cX11_init_4 : decode cX11_init 4 = .ok (.aload_n 0, 1) := by decide +kernel
theorem d_cX11_init_5 : decode cX11_init 5 = .ok (.new 9, 3) := by decide +kernel
theorem d_cX11_init_8 : decode cX11_init 8 = .ok (.dup, 1) := by decide +kernel
theorem d_cX11_init_9 : decode cX11_init 9 = .ok (.invokespecial 11, 3) := by decide +kernel
theorem d_cX11_init_12 : decode cX11_init 12 = .ok (.putfield 12, 3) := by decide +kernel
theorem d_cX11_init_15 : decode cX11_init 15 = .ok (.aload_n 0, 1) := by decide +kernel
theorem d_cX11_init_16 : decode cX11_init 16 = .ok (.new 16, 3) := by decide +kernel
theorem d_cX11_init_19 : decode cX11_init 19 = .ok (.dup, 1) := by decide +kernel
theorem d_cX11_init_20 : decode cX11_init 20 = .ok (.aload_n 0, 1) := by decide +kernel
theorem d_cX11_init_21 : decode cX11_init 21 = .ok (.getfield 12, 3) := by decide +kernel
theorem d_cX11_init_24 : decode cX11_init 24 = .ok (.invokespecial 18, 3) := by decide +kernel
theorem d_cX11_init_27 : decode cX11_init 27 = .ok (.putfield 21, 3) := by decide +kernel
theorem d_cX11_init_30 : decode cX11_init 30 = .ok (.aload_n 0, 1) := by decide +kernel
theorem d_cX11_init_31 : decode cX11_init 31 = .ok (.new 25, 3) := by decide +kernel
theorem d_cX11_init_34 : decode cX11_init 34 = .ok (.dup, 1) := by decide +kernel
theorem d_cX11_init_35 : decode cX11_init 35 = .ok (.sipush 200, 3) := by decide +kernel
theorem d_cX11_init_38 : decode cX11_init 38 = .ok (.invokespecial 27, 3) := by decide +kernel
theorem d_cX11_init_41 : decode cX11_init 41 = .ok (.putfield 30, 3) := by decide +kernel
theorem d_cX11_init_44 : decode cX11_init 44 = .ok (.aload_n 0, 1) := by decide +kernel
theorem d_cX11_init_45 : decode cX11_init 45 = .ok (.new 34, 3) := by decide +kernel
theorem d_cX11_init_48 : decode cX11_init 48 = .ok (.dup, 1) := by decide +kernel
theorem d_cX11_init_49 : decode cX11_init 49 = .ok (.invokespecial 36, 3) := by decide +kernel
theorem d_cX11_init_52 : decode cX11_init 52 = .ok (.putfield 37, 3) := by decide +kernel
theorem d_cX11_init_55 : decode cX11_init 55 = .ok (.aload_n 0, 1) := by decide +kernel
theorem d_cX11_init_56 : decode cX11_init 56 = .ok (.new 41, 3) := by decide +kernel
theorem d_cX11_init_59 : decode cX11_init 59 = .ok (.dup, 1) := by decide +kernel
theorem d_cX11_init_60 : decode cX11_init 60 = .ok (.aload_n 0, 1) := by decide +kernel
theorem d_cX11_init_61 : decode cX11_init 61 = .ok (.getfield 37, 3) := by decide +kernel
theorem d_cX11_init_64 : decode cX11_init 64 = .ok (.invokespecial 43, 3) := by decide +kernel
theorem d_cX11_init_67 : decode cX11_init 67 = .ok (.putfield 46, 3) := by decide +kernel
theorem d_cX11_init_70 : decode cX11_init 70 = .ok (.aload_n 0, 1) := by decide +kernel
theorem d_cX11_init_71 : decode cX11_init 71 = .ok (.new 50, 3) := by decide +kernel
theorem d_cX11_init_74 : decode cX11_init 74 = .ok (.dup, 1) := by decide +kernel
theorem d_cX11_init_75 : decode cX11_init 75 = .ok (.invokespecial 52, 3) := by decide +kernel
theorem d_cX11_init_78 : decode cX11_init 78 = .ok (.putfield 53, 3) := by decide +kernel
theorem d_cX11_init_81 : decode cX11_init 81 = .ok (.aload_n 0, 1) := by decide +kernel
theorem d_cX11_init_82 : decode cX11_init 82 = .ok (.new 57, 3) := by decide +kernel
theorem d_cX11_init_85 : decode cX11_init 85 = .ok (.dup, 1) := by decide +kernel
theorem d_cX11_init_86 : decode cX11_init 86 = .ok (.invokespecial 59, 3) := by decide +kernel
theorem d_cX11_init_89 : decode cX11_init 89 = .ok (.putfield 60, 3) := by decide +kernel
theorem d_cX11_init_92 : decode cX11_init 92 = .ok (.return_, 1) := by decide +kernel
theorem d_cX11_input_0 : decode cX11_input 0 = .ok (.aload_n 0, 1) := by decide +kernel
theorem d_cX11_input_1 : decode cX11_input 1 = .ok (.getfield 53, 3) := by decide +kernel
theorem d_cX11_input_4 : decode cX11_input 4 = .ok (.aload_n 0, 1) := by decide +kernel
theorem d_cX11_input_5 : decode cX11_input 5 = .ok (.getfield 12, 3) := by decide +kernel
theorem d_cX11_input_8 : decode cX11_input 8 = .ok (.invokevirtual 105, 3) := by decide +kernel
theorem d_cX11_input_11 : decode cX11_input 11 = .ok (.istore_n 1, 1) := by decide +kernel
theorem d_cX11_input_12 : decode cX11_input 12 = .ok (.aload_n 0, 1) := by decide +kernel
theorem d_cX11_input_13 : decode cX11_input 13 = .ok (.getfield 12, 3) := by decide +kernel
theorem d_cX11_input_16 : decode cX11_input 16 = .ok (.iconst 0, 1) := by decide +kernel
theorem d_cX11_input_17 : decode cX11_input 17 = .ok (.invokevirtual 87, 3) := by decide +kernel
theorem d_cX11_input_20 : decode cX11_input 20 = .ok (.iload_n 1, 1) := by decide +kernel
theorem d_cX11_input_21 : decode cX11_input 21 = .ok (.ireturn, 1) := by decide +kernel
theorem d_cX11_list_0 : decode cX11_list 0 = .ok (.aload_n 0, 1) := by decide +kernel
theorem d_cX11_list_1 : decode cX11_list 1 = .ok (.iload_n 1, 1) := by decide +kernel
theorem d_cX11_list_2 : decode cX11_list 2 = .ok (.invokevirtual 185, 3) := by decide +kernel
theorem d_cX11_list_5 : decode cX11_list 5 = .ok (.ifCond .ne 13, 3) := by decide +kernel
theorem d_cX11_list_8 : decode cX11_list 8 = .ok (.new 111, 3) := by decide +kernel
theorem d_cX11_list_11 : decode cX11_list 11 = .ok (.dup, 1) := by decide +kernel
theorem d_cX11_list_12 : decode cX11_list 12 = .ok (.ldc 217, 2) := by decide +kernel
theorem d_cX11_list_14 : decode cX11_list 14 = .ok (.invokespecial 115, 3) := by decide +kernel
theorem d_cX11_list_17 : decode cX11_list 17 = .ok (.athrow, 1) := by decide +kernel
theorem d_cX11_look_0 : decode cX11_look 0 = .ok (.aload_n 0, 1) := by decide +kernel
theorem d_cX11_look_1 : decode cX11_look 1 = .ok (.getfield 94, 3) := by decide +kernel
theorem d_cX11_look_4 : decode cX11_look 4 = .ok (.ifCond .ne 13, 3) := by decide +kernel
theorem d_cX11_look_7 : decode cX11_look 7 = .ok (.new 111, 3) := by decide +kernel
theorem d_cX11_look_10 : decode cX11_look 10 = .ok (.dup, 1) := by decide +kernel
theorem d_cX11_look_11 : decode cX11_look 11 = .ok (.ldc 113, 2) := by decide +kernel
theorem d_cX11_look_13 : decode cX11_look 13 = .ok (.invokespecial 115, 3) := by decide +kernel
theorem d_cX11_look_16 : decode cX11_look 16 = .ok (.athrow, 1) := by decide +kernel
theorem d_cX11_run_0 : decode cX11_run 0 = .ok (.iload_n 2, 1) := by decide +kernel
theorem d_cX11_run_1 : decode cX11_run 1 = .ok (.iconst 1, 1) := by decide +kernel
theorem d_cX11_run_2 : decode cX11_run 2 = .ok (.if_icmp .lt 9, 3) := by decide +kernel
theorem d_cX11_run_5 : decode cX11_run 5 = .ok (.iload_n 2, 1) := by decide +kernel
theorem d_cX11_run_6 : decode cX11_run 6 = .ok (.ldc 182, 2) := by decide +kernel
theorem d_cX11_run_8 : decode cX11_run 8 = .ok (.if_icmp .le 13, 3) := by decide +kernel
theorem d_cX11_run_11 : decode cX11_run 11 = .ok (.new 82, 3) := by decide +kernel
theorem d_cX11_run_14 : decode cX11_run 14 = .ok (.dup, 1) := by decide +kernel
theorem d_cX11_run_15 : decode cX11_run 15 = .ok (.ldc 183, 2) := by decide +kernel
theorem d_cX11_run_17 : decode cX11_run 17 = .ok (.invokespecial 86, 3) := by decide +kernel
theorem d_cX11_run_20 : decode cX11_run 20 = .ok (.athrow, 1) := by decide +kernel
theorem d_cX11_run_21 : decode cX11_run 21 = .ok (.aload_n 0, 1) := by decide +kernel
theorem d_cX11_run_22 : decode cX11_run 22 = .ok (.iload_n 1, 1) := by decide +kernel
theorem d_cX11_run_23 : decode cX11_run 23 = .ok (.invokevirtual 185, 3) := by decide +kernel
theorem d_cX11_run_26 : decode cX11_run 26 = .ok (.ifCond .ne 13, 3) := by decide +kernel
theorem d_cX11_run_29 : decode cX11_run 29 = .ok (.new 111, 3) := by decide +kernel
theorem d_cX11_run_32 : decode cX11_run 32 = .ok (.dup, 1) := by decide +kernel
theorem d_cX11_run_33 : decode cX11_run 33 = .ok (.ldc 189, 2) := by decide +kernel
theorem d_cX11_run_35 : decode cX11_run 35 = .ok (.invokespecial 115, 3) := by decide +kernel
theorem d_cX11_run_38 : decode cX11_run 38 = .ok (.athrow, 1) := by decide +kernel
theorem d_cX11_shown_0 : decode cX11_shown 0 = .ok (.iload_n 1, 1) := by decide +kernel
theorem d_cX11_shown_1 : decode cX11_shown 1 = .ok (.ifCond .lt 14, 3) := by decide +kernel
theorem d_cX11_shown_4 : decode cX11_shown 4 = .ok (.iload_n 1, 1) := by decide +kernel
theorem d_cX11_shown_5 : decode cX11_shown 5 = .ok (.aload_n 0, 1) := by decide +kernel
theorem d_cX11_shown_6 : decode cX11_shown 6 = .ok (.getfield 53, 3) := by decide +kernel
theorem d_cX11_shown_9 : decode cX11_shown 9 = .ok (.invokevirtual 201, 3) := by decide +kernel
theorem d_cX11_shown_12 : decode cX11_shown 12 = .ok (.if_icmp .lt 13, 3) := by decide +kernel
