theorem d_cE_Exception_init4_0 : decode cE_Exception_init4 0 = .ok (.aload_n 0, 1) := by decide +kernel
theorem d_cE_Exception_init4_1 : decode cE_Exception_init4 1 = .ok (.aload_n 1, 1) := by decide +kernel
theorem d_cE_Exception_init4_2 : decode cE_Exception_init4 2 = .ok (.aload_n 2, 1) := by decide +kernel
theorem d_cE_Exception_init4_3 : decode cE_Exception_init4 3 = .ok (.iload_n 3, 1) := by decide +kernel
theorem d_cE_Exception_init4_4 : decode cE_Exception_init4 4 = .ok (.iload 4, 2) := by decide +kernel
theorem d_cE_Exception_init4_6 : decode cE_Exception_init4 6 = .ok (.invokespecial 16, 3) := by decide +kernel
theorem d_cE_Exception_init4_9 : decode cE_Exception_init4 9 = .ok (.return_, 1) := by decide +kernel
theorem d_cE_RuntimeException_init4_0 : decode cE_RuntimeException_init4 0 = .ok (.aload_n 0, 1) := by decide +kernel
theorem d_cE_RuntimeException_init4_1 : decode cE_RuntimeException_init4 1 = .ok (.aload_n 1, 1) := by decide +kernel
theorem d_cE_RuntimeException_init4_2 : decode cE_RuntimeException_init4 2 = .ok (.aload_n 2, 1) := by decide +kernel
theorem d_cE_RuntimeException_init4_3 : decode cE_RuntimeException_init4 3 = .ok (.iload_n 3, 1) := by decide +kernel
theorem d_cE_RuntimeException_init4_4 : decode cE_RuntimeException_init4 4 = .ok (.iload 4, 2) := by decide +kernel
theorem d_cE_RuntimeException_init4_6 : decode cE_RuntimeException_init4 6 = .ok (.invokespecial 16, 3) := by decide +kernel
theorem d_cE_RuntimeException_init4_9 : decode cE_RuntimeException_init4 9 = .ok (.return_, 1) := by decide +kernel
theorem d_cE_Throwable_init4_0 : decode cE_Throwable_init4 0 = .ok (.aload_n 0, 1) := by decide +kernel
theorem d_cE_Throwable_init4_1 : decode cE_Throwable_init4 1 = .ok (.invokespecial 1, 3) := by decide +kernel
theorem d_cE_Throwable_init4_4 : decode cE_Throwable_init4 4 = .ok (.aload_n 0, 1) := by decide +kernel
theorem d_cE_Throwable_init4_5 : decode cE_Throwable_init4 5 = .ok (.aload_n 0, 1) := by decide +kernel
theorem d_cE_Throwable_init4_6 : decode cE_Throwable_init4 6 = .ok (.putfield 7, 3) := by decide +kernel
theorem d_cE_Throwable_init4_9 : decode cE_Throwable_init4 9 = .ok (.aload_n 0, 1) := by decide +kernel
theorem d_cE_Throwable_init4_10 : decode cE_Throwable_init4 10 = .ok (.getstatic 13, 3) := by decide +kernel
theorem d_cE_Throwable_init4_13 : decode cE_Throwable_init4 13 = .ok (.putfield 17, 3) := by decide +kernel
theorem d_cE_Throwable_init4_16 : decode cE_Throwable_init4 16 = .ok (.aload_n 0, 1) := by decide +kernel
theorem d_cE_Throwable_init4_17 : decode cE_Throwable_init4 17 = .ok (.getstatic 20, 3) := by decide +kernel
theorem d_cE_Throwable_init4_20 : decode cE_Throwable_init4 20 = .ok (.putfield 24, 3) := by decide +kernel
theorem d_cE_Throwable_init4_23 : decode cE_Throwable_init4 23 = .ok (.iload 4, 2) := by decide +kernel
theorem d_cE_Throwable_init4_25 : decode cE_Throwable_init4 25 = .ok (.ifCond .eq 11, 3) := by decide +kernel
theorem d_cE_Throwable_init4_36 : decode cE_Throwable_init4 36 = .ok (.aload_n 0, 1) := by decide +kernel
theorem d_cE_Throwable_init4_37 : decode cE_Throwable_init4 37 = .ok (.aconst_null, 1) := by decide +kernel
theorem d_cE_Throwable_init4_38 : decode cE_Throwable_init4 38 = .ok (.putfield 17, 3) := by decide +kernel
theorem d_cE_Throwable_init4_41 : decode cE_Throwable_init4 41 = .ok (.aload_n 0, 1) := by decide +kernel
theorem d_cE_Throwable_init4_42 : decode cE_Throwable_init4 42 = .ok (.aload_n 1, 1) := by decide +kernel
theorem d_cE_Throwable_init4_43 : decode cE_Throwable_init4 43 = .ok (.putfield 31, 3) := by decide +kernel
theorem d_cE_Throwable_init4_46 : decode cE_Throwable_init4 46 = .ok (.aload_n 0, 1) := by decide +kernel
theorem d_cE_Throwable_init4_47 : decode cE_Throwable_init4 47 = .ok (.aload_n 2, 1) := by decide +kernel
theorem d_cE_Throwable_init4_48 : decode cE_Throwable_init4 48 = .ok (.putfield 7, 3) := by decide +kernel
theorem d_cE_Throwable_init4_51 : decode cE_Throwable_init4 51 = .ok (.iload_n 3, 1) := by decide +kernel
theorem d_cE_Throwable_init4_52 : decode cE_Throwable_init4 52 = .ok (.ifCond .ne 8, 3) := by decide +kernel
theorem d_cE_Throwable_init4_55 : decode cE_Throwable_init4 55 = .ok (.aload_n 0, 1) := by decide +kernel
theorem d_cE_Throwable_init4_56 : decode cE_Throwable_init4 56 = .ok (.aconst_null, 1) := by decide +kernel
theorem d_cE_Throwable_init4_57 : decode cE_Throwable_init4 57 = .ok (.putfield 24, 3) := by decide +kernel
theorem d_cE_Throwable_init4_60 : decode cE_Throwable_init4 60 = .ok (.return_, 1) := by decide +kernel
theorem d_cJ4_init_da8c8_0 : decode cJ4_init_da8c8 0 = .ok (.aload_n 0, 1) := by decide +kernel
theorem d_cJ4_init_da8c8_1 : decode cJ4_init_da8c8 1 = .ok (.bipush 16, 2) := by decide +kernel
theorem d_cJ4_init_da8c8_3 : decode cJ4_init_da8c8 3 = .ok (.invokespecial 1, 3) := by decide +kernel
theorem d_cJ4_init_da8c8_6 : decode cJ4_init_da8c8 6 = .ok (.return_, 1) := by decide +kernel
theorem d_cJ5_init_d00df_0 : decode cJ5_init_d00df 0 = .ok (.aload_n 0, 1) := by decide +kernel
theorem d_cJ5_init_d00df_1 : decode cJ5_init_d00df 1 = .ok (.invokespecial 3, 3) := by decide +kernel
theorem d_cJ5_init_d00df_4 : decode cJ5_init_d00df 4 = .ok (.getstatic 18, 3) := by decide +kernel
theorem d_cJ5_init_d00df_7 : decode cJ5_init_d00df 7 = .ok (.ifCond .eq 18, 3) := by decide +kernel
theorem d_cJ5_init_d00df_10 : decode cJ5_init_d00df 10 = .ok (.aload_n 0, 1) := by decide +kernel
theorem d_cJ5_init_d00df_11 : decode cJ5_init_d00df 11 = .ok (.iload_n 1, 1) := by decide +kernel
theorem d_cJ5_init_d00df_12 : decode cJ5_init_d00df 12 = .ok (.newarray .byte, 2) := by decide +kernel
theorem d_cJ5_init_d00df_14 : decode cJ5_init_d00df 14 = .ok (.putfield 15, 3) := by decide +kernel
theorem d_cJ5_init_d00df_17 : decode cJ5_init_d00df 17 = .ok (.aload_n 0, 1) := by decide +kernel
theorem d_cJ5_init_d00df_18 : decode cJ5_init_d00df 18 = .ok (.iconst 0, 1) := by decide +kernel
theorem d_cJ5_init_d00df_19 : decode cJ5_init_d00df 19 = .ok (.putfield 22, 3) := by decide +kernel
theorem d_cJ5_init_d00df_22 : decode cJ5_init_d00df 22 = .ok (.goto 16, 3) := by decide +kernel
theorem d_cJ5_init_d00df_38 : decode cJ5_init_d00df 38 = .ok (.return_, 1) := by decide +kernel
theorem d_cJx4a65c_init_da8c8_0 : decode cJx4a65c_init_da8c8 0 = .ok (.aload_n 0, 1) := by decide +kernel
theorem d_cJx4a65c_init_da8c8_1 : decode cJx4a65c_init_da8c8 1 = .ok (.invokespecial 1, 3) := by decide +kernel
theorem d_cJx4a65c_init_da8c8_4 : decode cJx4a65c_init_da8c8 4 = .ok (.aload_n 0, 1) := by decide +kernel
theorem d_cJx4a65c_init_da8c8_5 : decode cJx4a65c_init_da8c8 5 = .ok (.getstatic 39, 3) := by decide +kernel
theorem d_cJx4a65c_init_da8c8_8 : decode cJx4a65c_init_da8c8 8 = .ok (.putfield 9, 3) := by decide +kernel
theorem d_cJx4a65c_init_da8c8_11 : decode cJx4a65c_init_da8c8 11 = .ok (.return_, 1) := by decide +kernel
theorem d_cJxa1e45_init_da8c8_0 : decode cJxa1e45_init_da8c8 0 = .ok (.aload_n 0, 1) := by decide +kernel
theorem d_cJxa1e45_init_da8c8_1 : decode cJxa1e45_init_da8c8 1 = .ok (.invokespecial 1, 3) := by decide +kernel
theorem d_cJxa1e45_init_da8c8_4 : decode cJxa1e45_init_da8c8 4 = .ok (.return_, 1) := by decide +kernel
theorem d_cJxc12de_init_da8c8_0 : decode cJxc12de_init_da8c8 0 = .ok (.aload_n 0, 1) := by decide +kernel
theorem d_cJxc12de_init_da8c8_1 : decode cJxc12de_init_da8c8 1 = .ok (.invokespecial 1, 3) := by decide +kernel
theorem d_cJxc12de_init_da8c8_4 : decode cJxc12de_init_da8c8 4 = .ok (.aload_n 0, 1) := by decide +kernel
theorem d_cJxc12de_init_da8c8_5 : decode cJxc12de_init_da8c8 5 = .ok (.iconst 0, 1) := by decide +kernel
theorem d_cJxc12de_init_da8c8_6 : decode cJxc12de_init_da8c8 6 = .ok (.putfield 7, 3) := by decide +kernel
theorem d_cJxc12de_init_da8c8_9 : decode cJxc12de_init_da8c8 9 = .ok (.return_, 1) := by decide +kernel
theorem d_cL_count_0 : decode cL_count 0 = .ok (.aload_n 2, 1) := by decide +kernel
theorem d_cL_count_1 : decode cL_count 1 = .ok (.iconst 0, 1) := by decide +kernel
theorem d_cL_count_2 : decode cL_count 2 = .ok (.aload_n 0, 1) := by decide +kernel
theorem d_cL_count_3 : decode cL_count 3 = .ok (.iload_n 1, 1) := by decide +kernel
theorem d_cL_count_4 : decode cL_count 4 = .ok (.invokevirtual 26, 3) := by decide +kernel
theorem d_cL_count_7 : decode cL_count 7 = .ok (.i2l, 1) := by decide +kernel
theorem d_cL_count_8 : decode cL_count 8 = .ok (.lastore, 1) := by decide +kernel
theorem d_cL_count_9 : decode cL_count 9 = .ok (.goto 6, 3) := by decide +kernel
theorem d_cL_count_12 : decode cL_count 12 = .ok (.astore_n 3, 1) := by decide +kernel
theorem d_cL_count_13 : decode cL_count 13 = .ok (.iconst 1, 1) := by decide +kernel
theorem d_cL_count_14 : decode cL_count 14 = .ok (.ireturn, 1) := by decide +kernel
theorem d_cL_count_15 : decode cL_count 15 = .ok (.iconst 0, 1) := by decide +kernel
theorem d_cL_count_16 : decode cL_count 16 = .ok (.ireturn, 1) := by decide +kernel
theorem d_cL_end_0 : decode cL_end 0 = .ok (.aload_n 2, 1) := by decide +kernel
theorem d_cL_end_1 : decode cL_end 1 = .ok (.iconst 0, 1) := by decide +kernel
theorem d_cL_end_2 : decode cL_end 2 = .ok (.aload_n 0, 1) := by decide +kernel
theorem d_cL_end_3 : decode cL_end 3 = .ok (.iload_n 1, 1) := by decide +kernel
theorem d_cL_end_4 : decode cL_end 4 = .ok (.invokevirtual 15, 3) := by decide +kernel
theorem d_cL_end_7 : decode cL_end 7 = .ok (.i2l, 1) := by decide +kernel
theorem d_cL_end_8 : decode cL_end 8 = .ok (.lastore, 1) := by decide +kernel
theorem d_cL_end_9 : decode cL_end 9 = .ok (.goto 6, 3) := by decide +kernel
theorem d_cL_end_12 : decode cL_end 12 = .ok (.astore_n 3, 1) := by decide +kernel
theorem d_cL_end_13 : decode cL_end 13 = .ok (.iconst 1, 1) := by decide +kernel
theorem d_cL_end_14 : decode cL_end 14 = .ok (.ireturn, 1) := by decide +kernel
theorem d_cL_end_15 : decode cL_end 15 = .ok (.iconst 0, 1) := by decide +kernel
theorem d_cL_end_16 : decode cL_end 16 = .ok (.ireturn, 1) := by decide +kernel
theorem d_cL_feed_0 : decode cL_feed 0 = .ok (.aload 6, 2) := by decide +kernel
theorem d_cL_feed_2 : decode cL_feed 2 = .ok (.iconst 0, 1) := by decide +kernel
theorem d_cL_feed_3 : decode cL_feed 3 = .ok (.aload_n 0, 1) := by decide +kernel
theorem d_cL_feed_4 : decode cL_feed 4 = .ok (.iload_n 1, 1) := by decide +kernel
theorem d_cL_feed_5 : decode cL_feed 5 = .ok (.iload_n 2, 1) := by decide +kernel
theorem d_cL_feed_6 : decode cL_feed 6 = .ok (.iload_n 3, 1) := by decide +kernel
theorem d_cL_feed_7 : decode cL_feed 7 = .ok (.iload 4, 2) := by decide +kernel
theorem d_cL_feed_9 : decode cL_feed 9 = .ok (.iload 5, 2) := by decide +kernel
theorem d_cL_feed_11 : decode cL_feed 11 = .ok (.invokevirtual 7, 3) := by decide +kernel
theorem d_cL_feed_14 : decode cL_feed 14 = .ok (.i2l, 1) := by decide +kernel
theorem d_cL_feed_15 : decode cL_feed 15 = .ok (.lastore, 1) := by decide +kernel
theorem d_cL_feed_16 : decode cL_feed 16 = .ok (.goto 7, 3) := by decide +kernel
theorem d_cL_feed_23 : decode cL_feed 23 = .ok (.iconst 0, 1) := by decide +kernel
theorem d_cL_feed_24 : decode cL_feed 24 = .ok (.ireturn, 1) := by decide +kernel
theorem d_cL_give_0 : decode cL_give 0 = .ok (.aload_n 2, 1) := by decide +kernel
theorem d_cL_give_1 : decode cL_give 1 = .ok (.iconst 0, 1) := by decide +kernel
theorem d_cL_give_2 : decode cL_give 2 = .ok (.aload_n 0, 1) := by decide +kernel
theorem d_cL_give_3 : decode cL_give 3 = .ok (.iload_n 1, 1) := by decide +kernel
theorem d_cL_give_4 : decode cL_give 4 = .ok (.invokevirtual 21, 3) := by decide +kernel
theorem d_cL_give_12 : decode cL_give 12 = .ok (.astore_n 3, 1) := by decide +kernel
theorem d_cL_give_13 : decode cL_give 13 = .ok (.iconst 1, 1) := by decide +kernel
theorem d_cL_give_14 : decode cL_give 14 = .ok (.ireturn, 1) := by decide +kernel
theorem d_cL_give_15 : decode cL_give 15 = .ok (.astore_n 3, 1) := by decide +kernel
theorem d_cL_give_16 : decode cL_give 16 = .ok (.iconst 2, 1) := by decide +kernel
theorem d_cL_give_17 : decode cL_give 17 = .ok (.ireturn, 1) := by decide +kernel
theorem d_cL_law_0 : decode cL_law 0 = .ok (.new 8, 3) := by decide +kernel
theorem d_cL_law_3 : decode cL_law 3 = .ok (.dup, 1) := by decide +kernel
theorem d_cL_law_4 : decode cL_law 4 = .ok (.invokespecial 53, 3) := by decide +kernel
theorem d_cL_law_7 : decode cL_law 7 = .ok (.astore_n 1, 1) := by decide +kernel
theorem d_cL_law_8 : decode cL_law 8 = .ok (.new 54, 3) := by decide +kernel
theorem d_cL_law_11 : decode cL_law 11 = .ok (.dup, 1) := by decide +kernel
theorem d_cL_law_12 : decode cL_law 12 = .ok (.invokespecial 56, 3) := by decide +kernel
theorem d_cL_law_15 : decode cL_law 15 = .ok (.astore_n 2, 1) := by decide +kernel
theorem d_cL_law_16 : decode cL_law 16 = .ok (.iconst 1, 1) := by decide +kernel
theorem d_cL_law_17 : decode cL_law 17 = .ok (.newarray .long, 2) := by decide +kernel
theorem d_cL_law_19 : decode cL_law 19 = .ok (.astore_n 3, 1) := by decide +kernel
theorem d_cL_law_20 : decode cL_law 20 = .ok (.iconst 0, 1) := by decide +kernel
theorem d_cL_law_21 : decode cL_law 21 = .ok (.istore 4, 2) := by decide +kernel
theorem d_cL_law_23 : decode cL_law 23 = .ok (.iload 4, 2) := by decide +kernel
theorem d_cL_law_25 : decode cL_law 25 = .ok (.aload_n 0, 1) := by decide +kernel
theorem d_cL_law_26 : decode cL_law 26 = .ok (.arraylength, 1) := by decide +kernel
theorem d_cL_law_27 : decode cL_law 27 = .ok (.bipush 6, 2) := by decide +kernel
theorem d_cL_law_29 : decode cL_law 29 = .ok (.isub, 1) := by decide +kernel
theorem d_cL_law_30 : decode cL_law 30 = .ok (.if_icmp .gt 769, 3) := by decide +kernel
theorem d_cL_law_33 : decode cL_law 33 = .ok (.aload_n 0, 1) := by decide +kernel
theorem d_cL_law_34 : decode cL_law 34 = .ok (.iload 4, 2) := by decide +kernel
theorem d_cL_law_36 : decode cL_law 36 = .ok (.iaload, 1) := by decide +kernel
theorem d_cL_law_37 : decode cL_law 37 = .ok (.bipush 15, 2) := by decide +kernel
theorem d_cL_law_39 : decode cL_law 39 = .ok (.iand, 1) := by decide +kernel
theorem d_cL_law_40 : decode cL_law 40 = .ok (.tableswitch 753 0 11 #[64, 168, 224, 237, 250, 306, 362, 430, 514, 570, 626, 698], 64) := by decide +kernel
theorem d_cL_law_104 : decode cL_law 104 = .ok (.aload_n 1, 1) := by decide +kernel
theorem d_cL_law_105 : decode cL_law 105 = .ok (.aload_n 0, 1) := by decide +kernel
theorem d_cL_law_106 : decode cL_law 106 = .ok (.iload 4, 2) := by decide +kernel
theorem d_cL_law_108 : decode cL_law 108 = .ok (.iconst 1, 1) := by decide +kernel
theorem d_cL_law_109 : decode cL_law 109 = .ok (.iadd, 1) := by decide +kernel
theorem d_cL_law_110 : decode cL_law 110 = .ok (.iaload, 1) := by decide +kernel
theorem d_cL_law_111 : decode cL_law 111 = .ok (.aload_n 0, 1) := by decide +kernel
theorem d_cL_law_112 : decode cL_law 112 = .ok (.iload 4, 2) := by decide +kernel
theorem d_cL_law_114 : decode cL_law 114 = .ok (.iconst 2, 1) := by decide +kernel
theorem d_cL_law_115 : decode cL_law 115 = .ok (.iadd, 1) := by decide +kernel
theorem d_cL_law_116 : decode cL_law 116 = .ok (.iaload, 1) := by decide +kernel
theorem d_cL_law_117 : decode cL_law 117 = .ok (.aload_n 0, 1) := by decide +kernel
theorem d_cL_law_118 : decode cL_law 118 = .ok (.iload 4, 2) := by decide +kernel
theorem d_cL_law_120 : decode cL_law 120 = .ok (.iconst 3, 1) := by decide +kernel
theorem d_cL_law_121 : decode cL_law 121 = .ok (.iadd, 1) := by decide +kernel
theorem d_cL_law_122 : decode cL_law 122 = .ok (.iaload, 1) := by decide +kernel
theorem d_cL_law_123 : decode cL_law 123 = .ok (.aload_n 0, 1) := by decide +kernel
theorem d_cL_law_124 : decode cL_law 124 = .ok (.iload 4, 2) := by decide +kernel
theorem d_cL_law_126 : decode cL_law 126 = .ok (.iconst 4, 1) := by decide +kernel
theorem d_cL_law_127 : decode cL_law 127 = .ok (.iadd, 1) := by decide +kernel
theorem d_cL_law_128 : decode cL_law 128 = .ok (.iaload, 1) := by decide +kernel
theorem d_cL_law_129 : decode cL_law 129 = .ok (.aload_n 0, 1) := by decide +kernel
theorem d_cL_law_130 : decode cL_law 130 = .ok (.iload 4, 2) := by decide +kernel
theorem d_cL_law_132 : decode cL_law 132 = .ok (.iconst 5, 1) := by decide +kernel
theorem d_cL_law_133 : decode cL_law 133 = .ok (.iadd, 1) := by decide +kernel
theorem d_cL_law_134 : decode cL_law 134 = .ok (.iaload, 1) := by decide +kernel
theorem d_cL_law_135 : decode cL_law 135 = .ok (.aload_n 3, 1) := by decide +kernel
theorem d_cL_law_136 : decode cL_law 136 = .ok (.invokestatic 57, 3) := by decide +kernel
theorem d_cL_law_139 : decode cL_law 139 = .ok (.istore 5, 2) := by decide +kernel
theorem d_cL_law_141 : decode cL_law 141 = .ok (.aload_n 2, 1) := by decide +kernel
theorem d_cL_law_142 : decode cL_law 142 = .ok (.aload_n 0, 1) := by decide +kernel
theorem d_cL_law_143 : decode cL_law 143 = .ok (.iload 4, 2) := by decide +kernel
theorem d_cL_law_145 : decode cL_law 145 = .ok (.iconst 1, 1) := by decide +kernel
theorem d_cL_law_146 : decode cL_law 146 = .ok (.iadd, 1) := by decide +kernel
theorem d_cL_law_147 : decode cL_law 147 = .ok (.iaload, 1) := by decide +kernel
theorem d_cL_law_148 : decode cL_law 148 = .ok (.aload_n 0, 1) := by decide +kernel
theorem d_cL_law_149 : decode cL_law 149 = .ok (.iload 4, 2) := by decide +kernel
theorem d_cL_law_151 : decode cL_law 151 = .ok (.iconst 2, 1) := by decide +kernel
theorem d_cL_law_152 : decode cL_law 152 = .ok (.iadd, 1) := by decide +kernel
theorem d_cL_law_153 : decode cL_law 153 = .ok (.iaload, 1) := by decide +kernel
theorem d_cL_law_154 : decode cL_law 154 = .ok (.aload_n 0, 1) := by decide +kernel
theorem d_cL_law_155 : decode cL_law 155 = .ok (.iload 4, 2) := by decide +kernel
theorem d_cL_law_157 : decode cL_law 157 = .ok (.iconst 3, 1) := by decide +kernel
theorem d_cL_law_158 : decode cL_law 158 = .ok (.iadd, 1) := by decide +kernel
theorem d_cL_law_159 : decode cL_law 159 = .ok (.iaload, 1) := by decide +kernel
theorem d_cL_law_160 : decode cL_law 160 = .ok (.aload_n 0, 1) := by decide +kernel
theorem d_cL_law_161 : decode cL_law 161 = .ok (.iload 4, 2) := by decide +kernel
theorem d_cL_law_163 : decode cL_law 163 = .ok (.iconst 4, 1) := by decide +kernel
theorem d_cL_law_164 : decode cL_law 164 = .ok (.iadd, 1) := by decide +kernel
theorem d_cL_law_165 : decode cL_law 165 = .ok (.iaload, 1) := by decide +kernel
theorem d_cL_law_166 : decode cL_law 166 = .ok (.aload_n 0, 1) := by decide +kernel
theorem d_cL_law_167 : decode cL_law 167 = .ok (.iload 4, 2) := by decide +kernel
theorem d_cL_law_169 : decode cL_law 169 = .ok (.iconst 5, 1) := by decide +kernel
theorem d_cL_law_170 : decode cL_law 170 = .ok (.iadd, 1) := by decide +kernel
theorem d_cL_law_171 : decode cL_law 171 = .ok (.iaload, 1) := by decide +kernel
theorem d_cL_law_172 : decode cL_law 172 = .ok (.invokevirtual 62, 3) := by decide +kernel
theorem d_cL_law_175 : decode cL_law 175 = .ok (.istore 6, 2) := by decide +kernel
theorem d_cL_law_177 : decode cL_law 177 = .ok (.aload_n 2, 1) := by decide +kernel
theorem d_cL_law_178 : decode cL_law 178 = .ok (.invokevirtual 63, 3) := by decide +kernel
theorem d_cL_law_181 : decode cL_law 181 = .ok (.iload 5, 2) := by decide +kernel
theorem d_cL_law_183 : decode cL_law 183 = .ok (.if_icmp .eq 5, 3) := by decide +kernel
theorem d_cL_law_188 : decode cL_law 188 = .ok (.iload 5, 2) := by decide +kernel
theorem d_cL_law_190 : decode cL_law 190 = .ok (.ifCond .ne 15, 3) := by decide +kernel
theorem d_cL_law_193 : decode cL_law 193 = .ok (.aload_n 3, 1) := by decide +kernel
theorem d_cL_law_194 : decode cL_law 194 = .ok (.iconst 0, 1) := by decide +kernel
theorem d_cL_law_195 : decode cL_law 195 = .ok (.laload, 1) := by decide +kernel
theorem d_cL_law_196 : decode cL_law 196 = .ok (.iload 6, 2) := by decide +kernel
theorem d_cL_law_198 : decode cL_law 198 = .ok (.i2l, 1) := by decide +kernel
theorem d_cL_law_199 : decode cL_law 199 = .ok (.lcmp, 1) := by decide +kernel
theorem d_cL_law_200 : decode cL_law 200 = .ok (.ifCond .eq 5, 3) := by decide +kernel
theorem d_cL_law_205 : decode cL_law 205 = .ok (.goto 588, 3) := by decide +kernel
theorem d_cL_law_208 : decode cL_law 208 = .ok (.aload_n 1, 1) := by decide +kernel
theorem d_cL_law_209 : decode cL_law 209 = .ok (.aload_n 0, 1) := by decide +kernel
theorem d_cL_law_210 : decode cL_law 210 = .ok (.iload 4, 2) := by decide +kernel
theorem d_cL_law_212 : decode cL_law 212 = .ok (.iconst 1, 1) := by decide +kernel
theorem d_cL_law_213 : decode cL_law 213 = .ok (.iadd, 1) := by decide +kernel
theorem d_cL_law_214 : decode cL_law 214 = .ok (.iaload, 1) := by decide +kernel
theorem d_cL_law_215 : decode cL_law 215 = .ok (.aload_n 3, 1) := by decide +kernel
theorem d_cL_law_216 : decode cL_law 216 = .ok (.invokestatic 67, 3) := by decide +kernel
theorem d_cL_law_219 : decode cL_law 219 = .ok (.istore 5, 2) := by decide +kernel
theorem d_cL_law_221 : decode cL_law 221 = .ok (.aload_n 2, 1) := by decide +kernel
theorem d_cL_law_222 : decode cL_law 222 = .ok (.aload_n 0, 1) := by decide +kernel
theorem d_cL_law_223 : decode cL_law 223 = .ok (.iload 4, 2) := by decide +kernel
theorem d_cL_law_225 : decode cL_law 225 = .ok (.iconst 1, 1) := by decide +kernel
theorem d_cL_law_226 : decode cL_law 226 = .ok (.iadd, 1) := by decide +kernel
theorem d_cL_law_227 : decode cL_law 227 = .ok (.iaload, 1) := by decide +kernel
theorem d_cL_law_228 : decode cL_law 228 = .ok (.invokevirtual 70, 3) := by decide +kernel
theorem d_cL_law_231 : decode cL_law 231 = .ok (.istore 6, 2) := by decide +kernel
theorem d_cL_law_233 : decode cL_law 233 = .ok (.aload_n 2, 1) := by decide +kernel
theorem d_cL_law_234 : decode cL_law 234 = .ok (.invokevirtual 63, 3) := by decide +kernel
theorem d_cL_law_237 : decode cL_law 237 = .ok (.iload 5, 2) := by decide +kernel
theorem d_cL_law_239 : decode cL_law 239 = .ok (.if_icmp .eq 5, 3) := by decide +kernel
theorem d_cL_law_244 : decode cL_law 244 = .ok (.iload 5, 2) := by decide +kernel
theorem d_cL_law_246 : decode cL_law 246 = .ok (.ifCond .ne 15, 3) := by decide +kernel
theorem d_cL_law_249 : decode cL_law 249 = .ok (.aload_n 3, 1) := by decide +kernel
theorem d_cL_law_250 : decode cL_law 250 = .ok (.iconst 0, 1) := by decide +kernel
theorem d_cL_law_251 : decode cL_law 251 = .ok (.laload, 1) := by decide +kernel
theorem d_cL_law_252 : decode cL_law 252 = .ok (.iload 6, 2) := by decide +kernel
theorem d_cL_law_254 : decode cL_law 254 = .ok (.i2l, 1) := by decide +kernel
theorem d_cL_law_255 : decode cL_law 255 = .ok (.lcmp, 1) := by decide +kernel
theorem d_cL_law_256 : decode cL_law 256 = .ok (.ifCond .eq 5, 3) := by decide +kernel
theorem d_cL_law_261 : decode cL_law 261 = .ok (.goto 532, 3) := by decide +kernel
theorem d_cL_law_264 : decode cL_law 264 = .ok (.aload_n 1, 1) := by decide +kernel
theorem d_cL_law_265 : decode cL_law 265 = .ok (.invokevirtual 71, 3) := by decide +kernel
theorem d_cL_law_268 : decode cL_law 268 = .ok (.aload_n 2, 1) := by decide +kernel
theorem d_cL_law_269 : decode cL_law 269 = .ok (.invokevirtual 74, 3) := by decide +kernel
theorem d_cL_law_272 : decode cL_law 272 = .ok (.if_icmp .eq 521, 3) := by decide +kernel
theorem d_cL_law_277 : decode cL_law 277 = .ok (.aload_n 1, 1) := by decide +kernel
theorem d_cL_law_278 : decode cL_law 278 = .ok (.invokevirtual 75, 3) := by decide +kernel
theorem d_cL_law_281 : decode cL_law 281 = .ok (.aload_n 2, 1) := by decide +kernel
theorem d_cL_law_282 : decode cL_law 282 = .ok (.invokevirtual 78, 3) := by decide +kernel
theorem d_cL_law_285 : decode cL_law 285 = .ok (.if_icmp .eq 508, 3) := by decide +kernel
theorem d_cL_law_290 : decode cL_law 290 = .ok (.aload_n 1, 1) := by decide +kernel
theorem d_cL_law_291 : decode cL_law 291 = .ok (.aload_n 0, 1) := by decide +kernel
theorem d_cL_law_292 : decode cL_law 292 = .ok (.iload 4, 2) := by decide +kernel
theorem d_cL_law_294 : decode cL_law 294 = .ok (.iconst 1, 1) := by decide +kernel
theorem d_cL_law_295 : decode cL_law 295 = .ok (.iadd, 1) := by decide +kernel
theorem d_cL_law_296 : decode cL_law 296 = .ok (.iaload, 1) := by decide +kernel
theorem d_cL_law_297 : decode cL_law 297 = .ok (.aload_n 3, 1) := by decide +kernel
theorem d_cL_law_298 : decode cL_law 298 = .ok (.invokestatic 79, 3) := by decide +kernel
theorem d_cL_law_301 : decode cL_law 301 = .ok (.istore 5, 2) := by decide +kernel
theorem d_cL_law_303 : decode cL_law 303 = .ok (.aload_n 2, 1) := by decide +kernel
theorem d_cL_law_304 : decode cL_law 304 = .ok (.aload_n 0, 1) := by decide +kernel
theorem d_cL_law_305 : decode cL_law 305 = .ok (.iload 4, 2) := by decide +kernel
theorem d_cL_law_307 : decode cL_law 307 = .ok (.iconst 1, 1) := by decide +kernel
theorem d_cL_law_308 : decode cL_law 308 = .ok (.iadd, 1) := by decide +kernel
theorem d_cL_law_309 : decode cL_law 309 = .ok (.iaload, 1) := by decide +kernel
theorem d_cL_law_310 : decode cL_law 310 = .ok (.invokevirtual 81, 3) := by decide +kernel
theorem d_cL_law_313 : decode cL_law 313 = .ok (.istore 6, 2) := by decide +kernel
theorem d_cL_law_315 : decode cL_law 315 = .ok (.aload_n 2, 1) := by decide +kernel
theorem d_cL_law_316 : decode cL_law 316 = .ok (.invokevirtual 63, 3) := by decide +kernel
theorem d_cL_law_319 : decode cL_law 319 = .ok (.iload 5, 2) := by decide +kernel
theorem d_cL_law_321 : decode cL_law 321 = .ok (.if_icmp .eq 5, 3) := by decide +kernel
theorem d_cL_law_326 : decode cL_law 326 = .ok (.iload 5, 2) := by decide +kernel
theorem d_cL_law_328 : decode cL_law 328 = .ok (.ifCond .ne 15, 3) := by decide +kernel
theorem d_cL_law_343 : decode cL_law 343 = .ok (.goto 450, 3) := by decide +kernel
theorem d_cL_law_346 : decode cL_law 346 = .ok (.aload_n 1, 1) := by decide +kernel
theorem d_cL_law_347 : decode cL_law 347 = .ok (.aload_n 0, 1) := by decide +kernel
theorem d_cL_law_348 : decode cL_law 348 = .ok (.iload 4, 2) := by decide +kernel
theorem d_cL_law_350 : decode cL_law 350 = .ok (.iconst 1, 1) := by decide +kernel
theorem d_cL_law_351 : decode cL_law 351 = .ok (.iadd, 1) := by decide +kernel
theorem d_cL_law_352 : decode cL_law 352 = .ok (.iaload, 1) := by decide +kernel
theorem d_cL_law_353 : decode cL_law 353 = .ok (.aload_n 3, 1) := by decide +kernel
theorem d_cL_law_354 : decode cL_law 354 = .ok (.invokestatic 82, 3) := by decide +kernel
theorem d_cL_law_357 : decode cL_law 357 = .ok (.istore 5, 2) := by decide +kernel
theorem d_cL_law_359 : decode cL_law 359 = .ok (.aload_n 2, 1) := by decide +kernel
theorem d_cL_law_360 : decode cL_law 360 = .ok (.aload_n 0, 1) := by decide +kernel
theorem d_cL_law_361 : decode cL_law 361 = .ok (.iload 4, 2) := by decide +kernel
theorem d_cL_law_363 : decode cL_law 363 = .ok (.iconst 1, 1) := by decide +kernel
theorem d_cL_law_364 : decode cL_law 364 = .ok (.iadd, 1) := by decide +kernel
