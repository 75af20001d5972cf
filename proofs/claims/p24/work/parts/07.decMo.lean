theorem d_Mo_init_0 : decode b_Mo_init 0 = .ok (.aload_n 0, 1) := by decide +kernel
theorem d_Mo_init_1 : decode b_Mo_init 1 = .ok (.invokespecial 1, 3) := by decide +kernel
theorem d_Mo_init_4 : decode b_Mo_init 4 = .ok (.aload_n 0, 1) := by decide +kernel
theorem d_Mo_init_5 : decode b_Mo_init 5 = .ok (.sipush 1552, 3) := by decide +kernel
theorem d_Mo_init_8 : decode b_Mo_init 8 = .ok (.newarray .int, 2) := by decide +kernel
theorem d_Mo_init_10 : decode b_Mo_init 10 = .ok (.putfield 7, 3) := by decide +kernel
theorem d_Mo_init_13 : decode b_Mo_init 13 = .ok (.aload_n 0, 1) := by decide +kernel
theorem d_Mo_init_14 : decode b_Mo_init 14 = .ok (.sipush 1552, 3) := by decide +kernel
theorem d_Mo_init_17 : decode b_Mo_init 17 = .ok (.newarray .int, 2) := by decide +kernel
theorem d_Mo_init_19 : decode b_Mo_init 19 = .ok (.putfield 13, 3) := by decide +kernel
theorem d_Mo_init_22 : decode b_Mo_init 22 = .ok (.iconst 0, 1) := by decide +kernel
theorem d_Mo_init_23 : decode b_Mo_init 23 = .ok (.istore_n 1, 1) := by decide +kernel
theorem d_Mo_init_24 : decode b_Mo_init 24 = .ok (.iload_n 1, 1) := by decide +kernel
theorem d_Mo_init_25 : decode b_Mo_init 25 = .ok (.bipush 8, 2) := by decide +kernel
theorem d_Mo_init_27 : decode b_Mo_init 27 = .ok (.if_icmp .ge 31, 3) := by decide +kernel
theorem d_Mo_init_30 : decode b_Mo_init 30 = .ok (.aload_n 0, 1) := by decide +kernel
theorem d_Mo_init_31 : decode b_Mo_init 31 = .ok (.getfield 7, 3) := by decide +kernel
theorem d_Mo_init_34 : decode b_Mo_init 34 = .ok (.sipush 1037, 3) := by decide +kernel
theorem d_Mo_init_37 : decode b_Mo_init 37 = .ok (.iload_n 1, 1) := by decide +kernel
theorem d_Mo_init_38 : decode b_Mo_init 38 = .ok (.iadd, 1) := by decide +kernel
theorem d_Mo_init_39 : decode b_Mo_init 39 = .ok (.iconst 1, 1) := by decide +kernel
theorem d_Mo_init_40 : decode b_Mo_init 40 = .ok (.iastore, 1) := by decide +kernel
theorem d_Mo_init_41 : decode b_Mo_init 41 = .ok (.aload_n 0, 1) := by decide +kernel
theorem d_Mo_init_42 : decode b_Mo_init 42 = .ok (.getfield 7, 3) := by decide +kernel
theorem d_Mo_init_45 : decode b_Mo_init 45 = .ok (.sipush 1045, 3) := by decide +kernel
theorem d_Mo_init_48 : decode b_Mo_init 48 = .ok (.iload_n 1, 1) := by decide +kernel
theorem d_Mo_init_49 : decode b_Mo_init 49 = .ok (.iadd, 1) := by decide +kernel
theorem d_Mo_init_50 : decode b_Mo_init 50 = .ok (.iconst 2, 1) := by decide +kernel
theorem d_Mo_init_51 : decode b_Mo_init 51 = .ok (.iastore, 1) := by decide +kernel
theorem d_Mo_init_52 : decode b_Mo_init 52 = .ok (.iinc 1 1, 3) := by decide +kernel
theorem d_Mo_init_55 : decode b_Mo_init 55 = .ok (.goto (-31), 3) := by decide +kernel
theorem d_Mo_init_58 : decode b_Mo_init 58 = .ok (.aload_n 0, 1) := by decide +kernel
theorem d_Mo_init_59 : decode b_Mo_init 59 = .ok (.getfield 7, 3) := by decide +kernel
theorem d_Mo_init_62 : decode b_Mo_init 62 = .ok (.sipush 1550, 3) := by decide +kernel
theorem d_Mo_init_65 : decode b_Mo_init 65 = .ok (.iconst 2, 1) := by decide +kernel
theorem d_Mo_init_66 : decode b_Mo_init 66 = .ok (.iastore, 1) := by decide +kernel
theorem d_Mo_init_67 : decode b_Mo_init 67 = .ok (.aload_n 0, 1) := by decide +kernel
theorem d_Mo_init_68 : decode b_Mo_init 68 = .ok (.getfield 7, 3) := by decide +kernel
theorem d_Mo_init_71 : decode b_Mo_init 71 = .ok (.sipush 1549, 3) := by decide +kernel
theorem d_Mo_init_74 : decode b_Mo_init 74 = .ok (.iconst 2, 1) := by decide +kernel
theorem d_Mo_init_75 : decode b_Mo_init 75 = .ok (.iastore, 1) := by decide +kernel
theorem d_Mo_init_76 : decode b_Mo_init 76 = .ok (.aload_n 0, 1) := by decide +kernel
theorem d_Mo_init_77 : decode b_Mo_init 77 = .ok (.getfield 7, 3) := by decide +kernel
theorem d_Mo_init_80 : decode b_Mo_init 80 = .ok (.bipush 17, 2) := by decide +kernel
theorem d_Mo_init_82 : decode b_Mo_init 82 = .ok (.iconst 1, 1) := by decide +kernel
theorem d_Mo_init_83 : decode b_Mo_init 83 = .ok (.iastore, 1) := by decide +kernel
theorem d_Mo_init_84 : decode b_Mo_init 84 = .ok (.aload_n 0, 1) := by decide +kernel
theorem d_Mo_init_85 : decode b_Mo_init 85 = .ok (.getfield 7, 3) := by decide +kernel
theorem d_Mo_init_88 : decode b_Mo_init 88 = .ok (.bipush 20, 2) := by decide +kernel
theorem d_Mo_init_90 : decode b_Mo_init 90 = .ok (.sipush 200, 3) := by decide +kernel
theorem d_Mo_init_93 : decode b_Mo_init 93 = .ok (.iastore, 1) := by decide +kernel
theorem d_Mo_init_94 : decode b_Mo_init 94 = .ok (.aload_n 0, 1) := by decide +kernel
theorem d_Mo_init_95 : decode b_Mo_init 95 = .ok (.getfield 7, 3) := by decide +kernel
theorem d_Mo_init_98 : decode b_Mo_init 98 = .ok (.bipush 34, 2) := by decide +kernel
theorem d_Mo_init_100 : decode b_Mo_init 100 = .ok (.iconst 1, 1) := by decide +kernel
theorem d_Mo_init_101 : decode b_Mo_init 101 = .ok (.iastore, 1) := by decide +kernel
theorem d_Mo_init_102 : decode b_Mo_init 102 = .ok (.aload_n 0, 1) := by decide +kernel
theorem d_Mo_init_103 : decode b_Mo_init 103 = .ok (.getfield 7, 3) := by decide +kernel
theorem d_Mo_init_106 : decode b_Mo_init 106 = .ok (.bipush 35, 2) := by decide +kernel
theorem d_Mo_init_108 : decode b_Mo_init 108 = .ok (.iconst 3, 1) := by decide +kernel
theorem d_Mo_init_109 : decode b_Mo_init 109 = .ok (.iastore, 1) := by decide +kernel
theorem d_Mo_init_110 : decode b_Mo_init 110 = .ok (.aload_n 0, 1) := by decide +kernel
theorem d_Mo_init_111 : decode b_Mo_init 111 = .ok (.getfield 7, 3) := by decide +kernel
theorem d_Mo_init_114 : decode b_Mo_init 114 = .ok (.bipush 37, 2) := by decide +kernel
theorem d_Mo_init_116 : decode b_Mo_init 116 = .ok (.iconst 2, 1) := by decide +kernel
theorem d_Mo_init_117 : decode b_Mo_init 117 = .ok (.iastore, 1) := by decide +kernel
theorem d_Mo_init_118 : decode b_Mo_init 118 = .ok (.aload_n 0, 1) := by decide +kernel
theorem d_Mo_init_119 : decode b_Mo_init 119 = .ok (.getfield 7, 3) := by decide +kernel
theorem d_Mo_init_122 : decode b_Mo_init 122 = .ok (.bipush 38, 2) := by decide +kernel
theorem d_Mo_init_124 : decode b_Mo_init 124 = .ok (.iconst 1, 1) := by decide +kernel
theorem d_Mo_init_125 : decode b_Mo_init 125 = .ok (.iastore, 1) := by decide +kernel
theorem d_Mo_init_126 : decode b_Mo_init 126 = .ok (.aload_n 0, 1) := by decide +kernel
theorem d_Mo_init_127 : decode b_Mo_init 127 = .ok (.getfield 7, 3) := by decide +kernel
theorem d_Mo_init_130 : decode b_Mo_init 130 = .ok (.bipush 40, 2) := by decide +kernel
theorem d_Mo_init_132 : decode b_Mo_init 132 = .ok (.iconst 1, 1) := by decide +kernel
theorem d_Mo_init_133 : decode b_Mo_init 133 = .ok (.iastore, 1) := by decide +kernel
theorem d_Mo_init_134 : decode b_Mo_init 134 = .ok (.iconst 0, 1) := by decide +kernel
theorem d_Mo_init_135 : decode b_Mo_init 135 = .ok (.istore_n 1, 1) := by decide +kernel
theorem d_Mo_init_136 : decode b_Mo_init 136 = .ok (.iload_n 1, 1) := by decide +kernel
theorem d_Mo_init_137 : decode b_Mo_init 137 = .ok (.sipush 1552, 3) := by decide +kernel
theorem d_Mo_init_140 : decode b_Mo_init 140 = .ok (.if_icmp .ge 21, 3) := by decide +kernel
theorem d_Mo_init_143 : decode b_Mo_init 143 = .ok (.aload_n 0, 1) := by decide +kernel
theorem d_Mo_init_144 : decode b_Mo_init 144 = .ok (.getfield 13, 3) := by decide +kernel
theorem d_Mo_init_147 : decode b_Mo_init 147 = .ok (.iload_n 1, 1) := by decide +kernel
theorem d_Mo_init_148 : decode b_Mo_init 148 = .ok (.aload_n 0, 1) := by decide +kernel
theorem d_Mo_init_149 : decode b_Mo_init 149 = .ok (.getfield 7, 3) := by decide +kernel
theorem d_Mo_init_152 : decode b_Mo_init 152 = .ok (.iload_n 1, 1) := by decide +kernel
theorem d_Mo_init_153 : decode b_Mo_init 153 = .ok (.iaload, 1) := by decide +kernel
theorem d_Mo_init_154 : decode b_Mo_init 154 = .ok (.iastore, 1) := by decide +kernel
theorem d_Mo_init_155 : decode b_Mo_init 155 = .ok (.iinc 1 1, 3) := by decide +kernel
theorem d_Mo_init_158 : decode b_Mo_init 158 = .ok (.goto (-22), 3) := by decide +kernel
theorem d_Mo_init_161 : decode b_Mo_init 161 = .ok (.return_, 1) := by decide +kernel
theorem d_Mo_within_0 : decode b_Mo_within 0 = .ok (.iload_n 0, 1) := by decide +kernel
theorem d_Mo_within_1 : decode b_Mo_within 1 = .ok (.iload_n 1, 1) := by decide +kernel
theorem d_Mo_within_2 : decode b_Mo_within 2 = .ok (.if_icmp .lt 12, 3) := by decide +kernel
theorem d_Mo_within_5 : decode b_Mo_within 5 = .ok (.iload_n 0, 1) := by decide +kernel
theorem d_Mo_within_6 : decode b_Mo_within 6 = .ok (.iload_n 2, 1) := by decide +kernel
theorem d_Mo_within_7 : decode b_Mo_within 7 = .ok (.if_icmp .gt 7, 3) := by decide +kernel
theorem d_Mo_within_10 : decode b_Mo_within 10 = .ok (.iconst 1, 1) := by decide +kernel
theorem d_Mo_within_11 : decode b_Mo_within 11 = .ok (.goto 4, 3) := by decide +kernel
theorem d_Mo_within_14 : decode b_Mo_within 14 = .ok (.iconst 0, 1) := by decide +kernel
theorem d_Mo_within_15 : decode b_Mo_within 15 = .ok (.ireturn, 1) := by decide +kernel
theorem d_Mo_fail_0 : decode b_Mo_fail 0 = .ok (.aload_n 0, 1) := by decide +kernel
theorem d_Mo_fail_1 : decode b_Mo_fail 1 = .ok (.iload_n 1, 1) := by decide +kernel
theorem d_Mo_fail_2 : decode b_Mo_fail 2 = .ok (.putfield 16, 3) := by decide +kernel
theorem d_Mo_fail_5 : decode b_Mo_fail 5 = .ok (.iconst 0, 1) := by decide +kernel
theorem d_Mo_fail_6 : decode b_Mo_fail 6 = .ok (.ireturn, 1) := by decide +kernel
theorem d_Mo_thrown_0 : decode b_Mo_thrown 0 = .ok (.aload_n 0, 1) := by decide +kernel
theorem d_Mo_thrown_1 : decode b_Mo_thrown 1 = .ok (.getfield 16, 3) := by decide +kernel
theorem d_Mo_thrown_4 : decode b_Mo_thrown 4 = .ok (.ireturn, 1) := by decide +kernel
theorem d_Mo_at_0 : decode b_Mo_at 0 = .ok (.aload_n 0, 1) := by decide +kernel
theorem d_Mo_at_1 : decode b_Mo_at 1 = .ok (.getfield 7, 3) := by decide +kernel
theorem d_Mo_at_4 : decode b_Mo_at 4 = .ok (.bipush 17, 2) := by decide +kernel
theorem d_Mo_at_6 : decode b_Mo_at 6 = .ok (.iload_n 1, 1) := by decide +kernel
theorem d_Mo_at_7 : decode b_Mo_at 7 = .ok (.imul, 1) := by decide +kernel
theorem d_Mo_at_8 : decode b_Mo_at 8 = .ok (.iload_n 2, 1) := by decide +kernel
theorem d_Mo_at_9 : decode b_Mo_at 9 = .ok (.iadd, 1) := by decide +kernel
theorem d_Mo_at_10 : decode b_Mo_at 10 = .ok (.iaload, 1) := by decide +kernel
theorem d_Mo_at_11 : decode b_Mo_at 11 = .ok (.ireturn, 1) := by decide +kernel
theorem d_Mo_lev_0 : decode b_Mo_lev 0 = .ok (.aload_n 0, 1) := by decide +kernel
theorem d_Mo_lev_1 : decode b_Mo_lev 1 = .ok (.getfield 7, 3) := by decide +kernel
theorem d_Mo_lev_4 : decode b_Mo_lev 4 = .ok (.sipush 1037, 3) := by decide +kernel
theorem d_Mo_lev_7 : decode b_Mo_lev 7 = .ok (.bipush 8, 2) := by decide +kernel
theorem d_Mo_lev_9 : decode b_Mo_lev 9 = .ok (.iload_n 1, 1) := by decide +kernel
theorem d_Mo_lev_10 : decode b_Mo_lev 10 = .ok (.imul, 1) := by decide +kernel
theorem d_Mo_lev_11 : decode b_Mo_lev 11 = .ok (.iadd, 1) := by decide +kernel
theorem d_Mo_lev_12 : decode b_Mo_lev 12 = .ok (.iload_n 2, 1) := by decide +kernel
theorem d_Mo_lev_13 : decode b_Mo_lev 13 = .ok (.iadd, 1) := by decide +kernel
theorem d_Mo_lev_14 : decode b_Mo_lev 14 = .ok (.iaload, 1) := by decide +kernel
theorem d_Mo_lev_15 : decode b_Mo_lev 15 = .ok (.ireturn, 1) := by decide +kernel
theorem d_Mo_low_0 : decode b_Mo_low 0 = .ok (.iload_n 0, 1) := by decide +kernel
theorem d_Mo_low_1 : decode b_Mo_low 1 = .ok (.iconst 4, 1) := by decide +kernel
theorem d_Mo_low_2 : decode b_Mo_low 2 = .ok (.if_icmp .ne 7, 3) := by decide +kernel
theorem d_Mo_low_5 : decode b_Mo_low 5 = .ok (.iconst (-1), 1) := by decide +kernel
theorem d_Mo_low_6 : decode b_Mo_low 6 = .ok (.goto 4, 3) := by decide +kernel
theorem d_Mo_low_9 : decode b_Mo_low 9 = .ok (.iload_n 0, 1) := by decide +kernel
theorem d_Mo_low_10 : decode b_Mo_low 10 = .ok (.ireturn, 1) := by decide +kernel
theorem d_Mo_under_0 : decode b_Mo_under 0 = .ok (.iconst 0, 1) := by decide +kernel
theorem d_Mo_under_1 : decode b_Mo_under 1 = .ok (.istore 4, 2) := by decide +kernel
theorem d_Mo_under_3 : decode b_Mo_under 3 = .ok (.iload 4, 2) := by decide +kernel
theorem d_Mo_under_5 : decode b_Mo_under 5 = .ok (.bipush 8, 2) := by decide +kernel
theorem d_Mo_under_7 : decode b_Mo_under 7 = .ok (.if_icmp .ge 57, 3) := by decide +kernel
theorem d_Mo_under_10 : decode b_Mo_under 10 = .ok (.iload_n 3, 1) := by decide +kernel
theorem d_Mo_under_11 : decode b_Mo_under 11 = .ok (.ifCond .eq 18, 3) := by decide +kernel
theorem d_Mo_under_14 : decode b_Mo_under 14 = .ok (.aload_n 0, 1) := by decide +kernel
theorem d_Mo_under_15 : decode b_Mo_under 15 = .ok (.iload_n 2, 1) := by decide +kernel
theorem d_Mo_under_16 : decode b_Mo_under 16 = .ok (.iload 4, 2) := by decide +kernel
theorem d_Mo_under_18 : decode b_Mo_under 18 = .ok (.invokevirtual 20, 3) := by decide +kernel
theorem d_Mo_under_21 : decode b_Mo_under 21 = .ok (.iconst 4, 1) := by decide +kernel
theorem d_Mo_under_22 : decode b_Mo_under 22 = .ok (.if_icmp .ne 7, 3) := by decide +kernel
theorem d_Mo_under_25 : decode b_Mo_under 25 = .ok (.iconst 5, 1) := by decide +kernel
theorem d_Mo_under_26 : decode b_Mo_under 26 = .ok (.goto 13, 3) := by decide +kernel
theorem d_Mo_under_29 : decode b_Mo_under 29 = .ok (.aload_n 0, 1) := by decide +kernel
theorem d_Mo_under_30 : decode b_Mo_under 30 = .ok (.iload_n 2, 1) := by decide +kernel
theorem d_Mo_under_31 : decode b_Mo_under 31 = .ok (.iload 4, 2) := by decide +kernel
theorem d_Mo_under_33 : decode b_Mo_under 33 = .ok (.invokevirtual 20, 3) := by decide +kernel
theorem d_Mo_under_36 : decode b_Mo_under 36 = .ok (.invokestatic 24, 3) := by decide +kernel
theorem d_Mo_under_39 : decode b_Mo_under 39 = .ok (.istore 5, 2) := by decide +kernel
theorem d_Mo_under_41 : decode b_Mo_under 41 = .ok (.aload_n 0, 1) := by decide +kernel
theorem d_Mo_under_42 : decode b_Mo_under 42 = .ok (.iload_n 1, 1) := by decide +kernel
theorem d_Mo_under_43 : decode b_Mo_under 43 = .ok (.iload 4, 2) := by decide +kernel
theorem d_Mo_under_45 : decode b_Mo_under 45 = .ok (.invokevirtual 20, 3) := by decide +kernel
theorem d_Mo_under_48 : decode b_Mo_under 48 = .ok (.invokestatic 24, 3) := by decide +kernel
theorem d_Mo_under_51 : decode b_Mo_under 51 = .ok (.iload 5, 2) := by decide +kernel
theorem d_Mo_under_53 : decode b_Mo_under 53 = .ok (.if_icmp .le 5, 3) := by decide +kernel
theorem d_Mo_under_56 : decode b_Mo_under 56 = .ok (.iconst 0, 1) := by decide +kernel
theorem d_Mo_under_57 : decode b_Mo_under 57 = .ok (.ireturn, 1) := by decide +kernel
theorem d_Mo_under_58 : decode b_Mo_under 58 = .ok (.iinc 4 1, 3) := by decide +kernel
theorem d_Mo_under_61 : decode b_Mo_under 61 = .ok (.goto (-58), 3) := by decide +kernel
theorem d_Mo_under_64 : decode b_Mo_under 64 = .ok (.iconst 1, 1) := by decide +kernel
theorem d_Mo_under_65 : decode b_Mo_under 65 = .ok (.ireturn, 1) := by decide +kernel
theorem d_Mo_isLabel_0 : decode b_Mo_isLabel 0 = .ok (.iload_n 1, 1) := by decide +kernel
theorem d_Mo_isLabel_1 : decode b_Mo_isLabel 1 = .ok (.iconst 0, 1) := by decide +kernel
theorem d_Mo_isLabel_2 : decode b_Mo_isLabel 2 = .ok (.aload_n 0, 1) := by decide +kernel
theorem d_Mo_isLabel_3 : decode b_Mo_isLabel 3 = .ok (.getfield 7, 3) := by decide +kernel
theorem d_Mo_isLabel_6 : decode b_Mo_isLabel 6 = .ok (.sipush 1550, 3) := by decide +kernel
theorem d_Mo_isLabel_9 : decode b_Mo_isLabel 9 = .ok (.iaload, 1) := by decide +kernel
theorem d_Mo_isLabel_10 : decode b_Mo_isLabel 10 = .ok (.iconst 1, 1) := by decide +kernel
theorem d_Mo_isLabel_11 : decode b_Mo_isLabel 11 = .ok (.isub, 1) := by decide +kernel
theorem d_Mo_isLabel_12 : decode b_Mo_isLabel 12 = .ok (.invokestatic 28, 3) := by decide +kernel
theorem d_Mo_isLabel_15 : decode b_Mo_isLabel 15 = .ok (.ireturn, 1) := by decide +kernel
theorem d_Mo_starless_0 : decode b_Mo_starless 0 = .ok (.iconst 0, 1) := by decide +kernel
theorem d_Mo_starless_1 : decode b_Mo_starless 1 = .ok (.istore_n 2, 1) := by decide +kernel
theorem d_Mo_starless_2 : decode b_Mo_starless 2 = .ok (.iload_n 2, 1) := by decide +kernel
theorem d_Mo_starless_3 : decode b_Mo_starless 3 = .ok (.bipush 8, 2) := by decide +kernel
theorem d_Mo_starless_5 : decode b_Mo_starless 5 = .ok (.if_icmp .ge 21, 3) := by decide +kernel
theorem d_Mo_starless_8 : decode b_Mo_starless 8 = .ok (.aload_n 0, 1) := by decide +kernel
theorem d_Mo_starless_9 : decode b_Mo_starless 9 = .ok (.iload_n 1, 1) := by decide +kernel
theorem d_Mo_starless_10 : decode b_Mo_starless 10 = .ok (.iload_n 2, 1) := by decide +kernel
theorem d_Mo_starless_11 : decode b_Mo_starless 11 = .ok (.invokevirtual 20, 3) := by decide +kernel
theorem d_Mo_starless_14 : decode b_Mo_starless 14 = .ok (.iconst 4, 1) := by decide +kernel
theorem d_Mo_starless_15 : decode b_Mo_starless 15 = .ok (.if_icmp .ne 5, 3) := by decide +kernel
theorem d_Mo_starless_18 : decode b_Mo_starless 18 = .ok (.iconst 0, 1) := by decide +kernel
theorem d_Mo_starless_19 : decode b_Mo_starless 19 = .ok (.ireturn, 1) := by decide +kernel
theorem d_Mo_starless_20 : decode b_Mo_starless 20 = .ok (.iinc 2 1, 3) := by decide +kernel
theorem d_Mo_starless_23 : decode b_Mo_starless 23 = .ok (.goto (-21), 3) := by decide +kernel
theorem d_Mo_starless_26 : decode b_Mo_starless 26 = .ok (.iconst 1, 1) := by decide +kernel
theorem d_Mo_starless_27 : decode b_Mo_starless 27 = .ok (.ireturn, 1) := by decide +kernel
theorem d_Mo_there_0 : decode b_Mo_there 0 = .ok (.iload_n 1, 1) := by decide +kernel
theorem d_Mo_there_1 : decode b_Mo_there 1 = .ok (.iconst 1, 1) := by decide +kernel
theorem d_Mo_there_2 : decode b_Mo_there 2 = .ok (.aload_n 0, 1) := by decide +kernel
theorem d_Mo_there_3 : decode b_Mo_there 3 = .ok (.getfield 7, 3) := by decide +kernel
theorem d_Mo_there_6 : decode b_Mo_there 6 = .ok (.sipush 1549, 3) := by decide +kernel
theorem d_Mo_there_9 : decode b_Mo_there 9 = .ok (.iaload, 1) := by decide +kernel
theorem d_Mo_there_10 : decode b_Mo_there 10 = .ok (.invokestatic 28, 3) := by decide +kernel
theorem d_Mo_there_13 : decode b_Mo_there 13 = .ok (.ifCond .eq 17, 3) := by decide +kernel
theorem d_Mo_there_16 : decode b_Mo_there 16 = .ok (.aload_n 0, 1) := by decide +kernel
theorem d_Mo_there_17 : decode b_Mo_there 17 = .ok (.iload_n 1, 1) := by decide +kernel
theorem d_Mo_there_18 : decode b_Mo_there 18 = .ok (.iconst 0, 1) := by decide +kernel
theorem d_Mo_there_19 : decode b_Mo_there 19 = .ok (.invokevirtual 32, 3) := by decide +kernel
theorem d_Mo_there_22 : decode b_Mo_there 22 = .ok (.iconst 1, 1) := by decide +kernel
theorem d_Mo_there_23 : decode b_Mo_there 23 = .ok (.if_icmp .ne 7, 3) := by decide +kernel
theorem d_Mo_there_26 : decode b_Mo_there 26 = .ok (.iconst 1, 1) := by decide +kernel
theorem d_Mo_there_27 : decode b_Mo_there 27 = .ok (.goto 4, 3) := by decide +kernel
theorem d_Mo_there_30 : decode b_Mo_there 30 = .ok (.iconst 0, 1) := by decide +kernel
theorem d_Mo_there_31 : decode b_Mo_there 31 = .ok (.ireturn, 1) := by decide +kernel
theorem d_Mo_sees_0 : decode b_Mo_sees 0 = .ok (.aload_n 0, 1) := by decide +kernel
theorem d_Mo_sees_1 : decode b_Mo_sees 1 = .ok (.aload_n 0, 1) := by decide +kernel
theorem d_Mo_sees_2 : decode b_Mo_sees 2 = .ok (.iload_n 2, 1) := by decide +kernel
theorem d_Mo_sees_3 : decode b_Mo_sees 3 = .ok (.iconst 2, 1) := by decide +kernel
theorem d_Mo_sees_4 : decode b_Mo_sees 4 = .ok (.invokevirtual 32, 3) := by decide +kernel
theorem d_Mo_sees_7 : decode b_Mo_sees 7 = .ok (.aload_n 0, 1) := by decide +kernel
theorem d_Mo_sees_8 : decode b_Mo_sees 8 = .ok (.iload_n 1, 1) := by decide +kernel
theorem d_Mo_sees_9 : decode b_Mo_sees 9 = .ok (.iconst 2, 1) := by decide +kernel
theorem d_Mo_sees_10 : decode b_Mo_sees 10 = .ok (.invokevirtual 32, 3) := by decide +kernel
theorem d_Mo_sees_13 : decode b_Mo_sees 13 = .ok (.iconst 1, 1) := by decide +kernel
theorem d_Mo_sees_14 : decode b_Mo_sees 14 = .ok (.invokevirtual 35, 3) := by decide +kernel
theorem d_Mo_sees_17 : decode b_Mo_sees 17 = .ok (.ireturn, 1) := by decide +kernel
theorem d_Mo_changes_0 : decode b_Mo_changes 0 = .ok (.aload_n 0, 1) := by decide +kernel
theorem d_Mo_changes_1 : decode b_Mo_changes 1 = .ok (.iload_n 1, 1) := by decide +kernel
theorem d_Mo_changes_2 : decode b_Mo_changes 2 = .ok (.iload_n 2, 1) := by decide +kernel
theorem d_Mo_changes_3 : decode b_Mo_changes 3 = .ok (.invokevirtual 39, 3) := by decide +kernel
theorem d_Mo_changes_6 : decode b_Mo_changes 6 = .ok (.ifCond .eq 27, 3) := by decide +kernel
theorem d_Mo_changes_9 : decode b_Mo_changes 9 = .ok (.aload_n 0, 1) := by decide +kernel
theorem d_Mo_changes_10 : decode b_Mo_changes 10 = .ok (.aload_n 0, 1) := by decide +kernel
theorem d_Mo_changes_11 : decode b_Mo_changes 11 = .ok (.iload_n 1, 1) := by decide +kernel
theorem d_Mo_changes_12 : decode b_Mo_changes 12 = .ok (.iconst 2, 1) := by decide +kernel
theorem d_Mo_changes_13 : decode b_Mo_changes 13 = .ok (.invokevirtual 32, 3) := by decide +kernel
theorem d_Mo_changes_16 : decode b_Mo_changes 16 = .ok (.aload_n 0, 1) := by decide +kernel
theorem d_Mo_changes_17 : decode b_Mo_changes 17 = .ok (.iload_n 2, 1) := by decide +kernel
theorem d_Mo_changes_18 : decode b_Mo_changes 18 = .ok (.iconst 2, 1) := by decide +kernel
theorem d_Mo_changes_19 : decode b_Mo_changes 19 = .ok (.invokevirtual 32, 3) := by decide +kernel
theorem d_Mo_changes_22 : decode b_Mo_changes 22 = .ok (.iconst 0, 1) := by decide +kernel
theorem d_Mo_changes_23 : decode b_Mo_changes 23 = .ok (.invokevirtual 35, 3) := by decide +kernel
theorem d_Mo_changes_26 : decode b_Mo_changes 26 = .ok (.ifCond .eq 7, 3) := by decide +kernel
theorem d_Mo_changes_29 : decode b_Mo_changes 29 = .ok (.iconst 1, 1) := by decide +kernel
theorem d_Mo_changes_30 : decode b_Mo_changes 30 = .ok (.goto 4, 3) := by decide +kernel
theorem d_Mo_changes_33 : decode b_Mo_changes 33 = .ok (.iconst 0, 1) := by decide +kernel
theorem d_Mo_changes_34 : decode b_Mo_changes 34 = .ok (.ireturn, 1) := by decide +kernel
theorem d_Mo_use_0 : decode b_Mo_use 0 = .ok (.aload_n 0, 1) := by decide +kernel
theorem d_Mo_use_1 : decode b_Mo_use 1 = .ok (.iload_n 1, 1) := by decide +kernel
theorem d_Mo_use_2 : decode b_Mo_use 2 = .ok (.iconst 1, 1) := by decide +kernel
theorem d_Mo_use_3 : decode b_Mo_use 3 = .ok (.invokevirtual 32, 3) := by decide +kernel
theorem d_Mo_use_6 : decode b_Mo_use 6 = .ok (.iconst 1, 1) := by decide +kernel
theorem d_Mo_use_7 : decode b_Mo_use 7 = .ok (.if_icmp .ne 13, 3) := by decide +kernel
theorem d_Mo_use_10 : decode b_Mo_use 10 = .ok (.iconst 1, 1) := by decide +kernel
theorem d_Mo_use_11 : decode b_Mo_use 11 = .ok (.aload_n 0, 1) := by decide +kernel
theorem d_Mo_use_12 : decode b_Mo_use 12 = .ok (.iload_n 1, 1) := by decide +kernel
theorem d_Mo_use_13 : decode b_Mo_use 13 = .ok (.bipush 8, 2) := by decide +kernel
theorem d_Mo_use_15 : decode b_Mo_use 15 = .ok (.invokevirtual 32, 3) := by decide +kernel
theorem d_Mo_use_18 : decode b_Mo_use 18 = .ok (.iadd, 1) := by decide +kernel
theorem d_Mo_use_19 : decode b_Mo_use 19 = .ok (.ireturn, 1) := by decide +kernel
theorem d_Mo_use_20 : decode b_Mo_use 20 = .ok (.aload_n 0, 1) := by decide +kernel
theorem d_Mo_use_21 : decode b_Mo_use 21 = .ok (.iload_n 1, 1) := by decide +kernel
theorem d_Mo_use_22 : decode b_Mo_use 22 = .ok (.iconst 1, 1) := by decide +kernel
theorem d_Mo_use_23 : decode b_Mo_use 23 = .ok (.invokevirtual 32, 3) := by decide +kernel
theorem d_Mo_use_26 : decode b_Mo_use 26 = .ok (.ifCond .eq 5, 3) := by decide +kernel
theorem d_Mo_use_29 : decode b_Mo_use 29 = .ok (.iconst 2, 1) := by decide +kernel
theorem d_Mo_use_30 : decode b_Mo_use 30 = .ok (.ireturn, 1) := by decide +kernel
theorem d_Mo_use_31 : decode b_Mo_use 31 = .ok (.iconst 1, 1) := by decide +kernel
theorem d_Mo_use_32 : decode b_Mo_use 32 = .ok (.istore_n 2, 1) := by decide +kernel
theorem d_Mo_use_33 : decode b_Mo_use 33 = .ok (.iconst 1, 1) := by decide +kernel
theorem d_Mo_use_34 : decode b_Mo_use 34 = .ok (.istore_n 3, 1) := by decide +kernel
theorem d_Mo_use_35 : decode b_Mo_use 35 = .ok (.iload_n 3, 1) := by decide +kernel
theorem d_Mo_use_36 : decode b_Mo_use 36 = .ok (.aload_n 0, 1) := by decide +kernel
theorem d_Mo_use_37 : decode b_Mo_use 37 = .ok (.getfield 7, 3) := by decide +kernel
theorem d_Mo_use_40 : decode b_Mo_use 40 = .ok (.sipush 1549, 3) := by decide +kernel
theorem d_Mo_use_43 : decode b_Mo_use 43 = .ok (.iaload, 1) := by decide +kernel
theorem d_Mo_use_44 : decode b_Mo_use 44 = .ok (.if_icmp .gt 36, 3) := by decide +kernel
theorem d_Mo_use_47 : decode b_Mo_use 47 = .ok (.aload_n 0, 1) := by decide +kernel
theorem d_Mo_use_48 : decode b_Mo_use 48 = .ok (.iload_n 3, 1) := by decide +kernel
theorem d_Mo_use_49 : decode b_Mo_use 49 = .ok (.invokevirtual 43, 3) := by decide +kernel
theorem d_Mo_use_52 : decode b_Mo_use 52 = .ok (.ifCond .eq 22, 3) := by decide +kernel
theorem d_Mo_use_55 : decode b_Mo_use 55 = .ok (.aload_n 0, 1) := by decide +kernel
theorem d_Mo_use_56 : decode b_Mo_use 56 = .ok (.iload_n 3, 1) := by decide +kernel
theorem d_Mo_use_57 : decode b_Mo_use 57 = .ok (.iconst 4, 1) := by decide +kernel
theorem d_Mo_use_58 : decode b_Mo_use 58 = .ok (.invokevirtual 32, 3) := by decide +kernel
theorem d_Mo_use_61 : decode b_Mo_use 61 = .ok (.iload_n 1, 1) := by decide +kernel
theorem d_Mo_use_62 : decode b_Mo_use 62 = .ok (.if_icmp .ne 12, 3) := by decide +kernel
theorem d_Mo_use_65 : decode b_Mo_use 65 = .ok (.iload_n 2, 1) := by decide +kernel
theorem d_Mo_use_66 : decode b_Mo_use 66 = .ok (.aload_n 0, 1) := by decide +kernel
theorem d_Mo_use_67 : decode b_Mo_use 67 = .ok (.iload_n 3, 1) := by decide +kernel
theorem d_Mo_use_68 : decode b_Mo_use 68 = .ok (.iconst 3, 1) := by decide +kernel
theorem d_Mo_use_69 : decode b_Mo_use 69 = .ok (.invokevirtual 32, 3) := by decide +kernel
theorem d_Mo_use_72 : decode b_Mo_use 72 = .ok (.iadd, 1) := by decide +kernel
theorem d_Mo_use_73 : decode b_Mo_use 73 = .ok (.istore_n 2, 1) := by decide +kernel
theorem d_Mo_use_74 : decode b_Mo_use 74 = .ok (.iinc 3 1, 3) := by decide +kernel
theorem d_Mo_use_77 : decode b_Mo_use 77 = .ok (.goto (-42), 3) := by decide +kernel
theorem d_Mo_use_80 : decode b_Mo_use 80 = .ok (.iload_n 2, 1) := by decide +kernel
theorem d_Mo_use_81 : decode b_Mo_use 81 = .ok (.ireturn, 1) := by decide +kernel
theorem d_Mo_like_0 : decode b_Mo_like 0 = .ok (.iconst 0, 1) := by decide +kernel
theorem d_Mo_like_1 : decode b_Mo_like 1 = .ok (.istore 4, 2) := by decide +kernel
theorem d_Mo_like_3 : decode b_Mo_like 3 = .ok (.iload 4, 2) := by decide +kernel
theorem d_Mo_like_5 : decode b_Mo_like 5 = .ok (.aload_n 0, 1) := by decide +kernel
theorem d_Mo_like_6 : decode b_Mo_like 6 = .ok (.getfield 7, 3) := by decide +kernel
theorem d_Mo_like_9 : decode b_Mo_like 9 = .ok (.sipush 1550, 3) := by decide +kernel
theorem d_Mo_like_12 : decode b_Mo_like 12 = .ok (.iaload, 1) := by decide +kernel
theorem d_Mo_like_13 : decode b_Mo_like 13 = .ok (.if_icmp .ge 67, 3) := by decide +kernel
theorem d_Mo_like_16 : decode b_Mo_like 16 = .ok (.iconst 1, 1) := by decide +kernel
theorem d_Mo_like_17 : decode b_Mo_like 17 = .ok (.istore 5, 2) := by decide +kernel
theorem d_Mo_like_19 : decode b_Mo_like 19 = .ok (.iconst 0, 1) := by decide +kernel
theorem d_Mo_like_20 : decode b_Mo_like 20 = .ok (.istore 6, 2) := by decide +kernel
theorem d_Mo_like_22 : decode b_Mo_like 22 = .ok (.iload 6, 2) := by decide +kernel
theorem d_Mo_like_24 : decode b_Mo_like 24 = .ok (.bipush 8, 2) := by decide +kernel
theorem d_Mo_like_26 : decode b_Mo_like 26 = .ok (.if_icmp .ge 40, 3) := by decide +kernel
theorem d_Mo_like_29 : decode b_Mo_like 29 = .ok (.aload_n 0, 1) := by decide +kernel
theorem d_Mo_like_30 : decode b_Mo_like 30 = .ok (.iload 4, 2) := by decide +kernel
theorem d_Mo_like_32 : decode b_Mo_like 32 = .ok (.iload 6, 2) := by decide +kernel
theorem d_Mo_like_34 : decode b_Mo_like 34 = .ok (.invokevirtual 20, 3) := by decide +kernel
theorem d_Mo_like_37 : decode b_Mo_like 37 = .ok (.iload 6, 2) := by decide +kernel
theorem d_Mo_like_39 : decode b_Mo_like 39 = .ok (.iload_n 2, 1) := by decide +kernel
theorem d_Mo_like_40 : decode b_Mo_like 40 = .ok (.if_icmp .ne 7, 3) := by decide +kernel
theorem d_Mo_like_43 : decode b_Mo_like 43 = .ok (.iload_n 3, 1) := by decide +kernel
theorem d_Mo_like_44 : decode b_Mo_like 44 = .ok (.goto 10, 3) := by decide +kernel
theorem d_Mo_like_47 : decode b_Mo_like 47 = .ok (.aload_n 0, 1) := by decide +kernel
theorem d_Mo_like_48 : decode b_Mo_like 48 = .ok (.iload_n 1, 1) := by decide +kernel
theorem d_Mo_like_49 : decode b_Mo_like 49 = .ok (.iload 6, 2) := by decide +kernel
theorem d_Mo_like_51 : decode b_Mo_like 51 = .ok (.invokevirtual 20, 3) := by decide +kernel
theorem d_Mo_like_54 : decode b_Mo_like 54 = .ok (.if_icmp .eq 6, 3) := by decide +kernel
theorem d_Mo_like_57 : decode b_Mo_like 57 = .ok (.iconst 0, 1) := by decide +kernel
theorem d_Mo_like_58 : decode b_Mo_like 58 = .ok (.istore 5, 2) := by decide +kernel
theorem d_Mo_like_60 : decode b_Mo_like 60 = .ok (.iinc 6 1, 3) := by decide +kernel
theorem d_Mo_like_63 : decode b_Mo_like 63 = .ok (.goto (-41), 3) := by decide +kernel
theorem d_Mo_like_66 : decode b_Mo_like 66 = .ok (.iload 5, 2) := by decide +kernel
theorem d_Mo_like_68 : decode b_Mo_like 68 = .ok (.ifCond .eq 6, 3) := by decide +kernel
theorem d_Mo_like_71 : decode b_Mo_like 71 = .ok (.iload 4, 2) := by decide +kernel
theorem d_Mo_like_73 : decode b_Mo_like 73 = .ok (.ireturn, 1) := by decide +kernel
theorem d_Mo_like_74 : decode b_Mo_like 74 = .ok (.iinc 4 1, 3) := by decide +kernel
theorem d_Mo_like_77 : decode b_Mo_like 77 = .ok (.goto (-74), 3) := by decide +kernel
theorem d_Mo_like_80 : decode b_Mo_like 80 = .ok (.iconst (-1), 1) := by decide +kernel
theorem d_Mo_like_81 : decode b_Mo_like 81 = .ok (.ireturn, 1) := by decide +kernel
theorem d_Mo_made_0 : decode b_Mo_made 0 = .ok (.aload_n 0, 1) := by decide +kernel
theorem d_Mo_made_1 : decode b_Mo_made 1 = .ok (.iload_n 1, 1) := by decide +kernel
theorem d_Mo_made_2 : decode b_Mo_made 2 = .ok (.iload_n 2, 1) := by decide +kernel
theorem d_Mo_made_3 : decode b_Mo_made 3 = .ok (.iload_n 3, 1) := by decide +kernel
theorem d_Mo_made_4 : decode b_Mo_made 4 = .ok (.invokevirtual 47, 3) := by decide +kernel
theorem d_Mo_made_7 : decode b_Mo_made 7 = .ok (.istore 4, 2) := by decide +kernel
theorem d_Mo_made_9 : decode b_Mo_made 9 = .ok (.iload 4, 2) := by decide +kernel
theorem d_Mo_made_11 : decode b_Mo_made 11 = .ok (.ifCond .lt 6, 3) := by decide +kernel
theorem d_Mo_made_14 : decode b_Mo_made 14 = .ok (.iload 4, 2) := by decide +kernel
theorem d_Mo_made_16 : decode b_Mo_made 16 = .ok (.ireturn, 1) := by decide +kernel
theorem d_Mo_made_17 : decode b_Mo_made 17 = .ok (.aload_n 0, 1) := by decide +kernel
theorem d_Mo_made_18 : decode b_Mo_made 18 = .ok (.getfield 7, 3) := by decide +kernel
theorem d_Mo_made_21 : decode b_Mo_made 21 = .ok (.sipush 1550, 3) := by decide +kernel
theorem d_Mo_made_24 : decode b_Mo_made 24 = .ok (.iaload, 1) := by decide +kernel
theorem d_Mo_made_25 : decode b_Mo_made 25 = .ok (.bipush 60, 2) := by decide +kernel
theorem d_Mo_made_27 : decode b_Mo_made 27 = .ok (.if_icmp .ne 9, 3) := by decide +kernel
theorem d_Mo_made_30 : decode b_Mo_made 30 = .ok (.aload_n 0, 1) := by decide +kernel
theorem d_Mo_made_31 : decode b_Mo_made 31 = .ok (.iconst 4, 1) := by decide +kernel
theorem d_Mo_made_32 : decode b_Mo_made 32 = .ok (.invokevirtual 51, 3) := by decide +kernel
theorem d_Mo_made_35 : decode b_Mo_made 35 = .ok (.ireturn, 1) := by decide +kernel
theorem d_Mo_made_36 : decode b_Mo_made 36 = .ok (.aload_n 0, 1) := by decide +kernel
theorem d_Mo_made_37 : decode b_Mo_made 37 = .ok (.getfield 7, 3) := by decide +kernel
theorem d_Mo_made_40 : decode b_Mo_made 40 = .ok (.sipush 1550, 3) := by decide +kernel
theorem d_Mo_made_43 : decode b_Mo_made 43 = .ok (.iaload, 1) := by decide +kernel
theorem d_Mo_made_44 : decode b_Mo_made 44 = .ok (.istore 4, 2) := by decide +kernel
theorem d_Mo_made_46 : decode b_Mo_made 46 = .ok (.iconst 0, 1) := by decide +kernel
theorem d_Mo_made_47 : decode b_Mo_made 47 = .ok (.istore 5, 2) := by decide +kernel
theorem d_Mo_made_49 : decode b_Mo_made 49 = .ok (.iload 5, 2) := by decide +kernel
theorem d_Mo_made_51 : decode b_Mo_made 51 = .ok (.bipush 8, 2) := by decide +kernel
theorem d_Mo_made_53 : decode b_Mo_made 53 = .ok (.if_icmp .ge 43, 3) := by decide +kernel
theorem d_Mo_made_56 : decode b_Mo_made 56 = .ok (.aload_n 0, 1) := by decide +kernel
theorem d_Mo_made_57 : decode b_Mo_made 57 = .ok (.getfield 7, 3) := by decide +kernel
theorem d_Mo_made_60 : decode b_Mo_made 60 = .ok (.sipush 1037, 3) := by decide +kernel
theorem d_Mo_made_63 : decode b_Mo_made 63 = .ok (.bipush 8, 2) := by decide +kernel
theorem d_Mo_made_65 : decode b_Mo_made 65 = .ok (.iload 4, 2) := by decide +kernel
theorem d_Mo_made_67 : decode b_Mo_made 67 = .ok (.imul, 1) := by decide +kernel
theorem d_Mo_made_68 : decode b_Mo_made 68 = .ok (.iadd, 1) := by decide +kernel
theorem d_Mo_made_69 : decode b_Mo_made 69 = .ok (.iload 5, 2) := by decide +kernel
theorem d_Mo_made_71 : decode b_Mo_made 71 = .ok (.iadd, 1) := by decide +kernel
theorem d_Mo_made_72 : decode b_Mo_made 72 = .ok (.iload 5, 2) := by decide +kernel
theorem d_Mo_made_74 : decode b_Mo_made 74 = .ok (.iload_n 2, 1) := by decide +kernel
theorem d_Mo_made_75 : decode b_Mo_made 75 = .ok (.if_icmp .ne 7, 3) := by decide +kernel
theorem d_Mo_made_78 : decode b_Mo_made 78 = .ok (.iload_n 3, 1) := by decide +kernel
theorem d_Mo_made_79 : decode b_Mo_made 79 = .ok (.goto 10, 3) := by decide +kernel
theorem d_Mo_made_82 : decode b_Mo_made 82 = .ok (.aload_n 0, 1) := by decide +kernel
theorem d_Mo_made_83 : decode b_Mo_made 83 = .ok (.iload_n 1, 1) := by decide +kernel
theorem d_Mo_made_84 : decode b_Mo_made 84 = .ok (.iload 5, 2) := by decide +kernel
theorem d_Mo_made_86 : decode b_Mo_made 86 = .ok (.invokevirtual 20, 3) := by decide +kernel
theorem d_Mo_made_89 : decode b_Mo_made 89 = .ok (.iastore, 1) := by decide +kernel
theorem d_Mo_made_90 : decode b_Mo_made 90 = .ok (.iinc 5 1, 3) := by decide +kernel
theorem d_Mo_made_93 : decode b_Mo_made 93 = .ok (.goto (-44), 3) := by decide +kernel
theorem d_Mo_made_96 : decode b_Mo_made 96 = .ok (.aload_n 0, 1) := by decide +kernel
theorem d_Mo_made_97 : decode b_Mo_made 97 = .ok (.getfield 7, 3) := by decide +kernel
theorem d_Mo_made_100 : decode b_Mo_made 100 = .ok (.sipush 1550, 3) := by decide +kernel
theorem d_Mo_made_103 : decode b_Mo_made 103 = .ok (.dup2, 1) := by decide +kernel
theorem d_Mo_made_104 : decode b_Mo_made 104 = .ok (.iaload, 1) := by decide +kernel
theorem d_Mo_made_105 : decode b_Mo_made 105 = .ok (.iconst 1, 1) := by decide +kernel
theorem d_Mo_made_106 : decode b_Mo_made 106 = .ok (.iadd, 1) := by decide +kernel
theorem d_Mo_made_107 : decode b_Mo_made 107 = .ok (.iastore, 1) := by decide +kernel
theorem d_Mo_made_108 : decode b_Mo_made 108 = .ok (.iload 4, 2) := by decide +kernel
theorem d_Mo_made_110 : decode b_Mo_made 110 = .ok (.ireturn, 1) := by decide +kernel
theorem d_Mo_label_0 : decode b_Mo_label 0 = .ok (.aload_n 0, 1) := by decide +kernel
theorem d_Mo_label_1 : decode b_Mo_label 1 = .ok (.iconst 0, 1) := by decide +kernel
theorem d_Mo_label_2 : decode b_Mo_label 2 = .ok (.putfield 16, 3) := by decide +kernel
theorem d_Mo_label_5 : decode b_Mo_label 5 = .ok (.aload_n 0, 1) := by decide +kernel
theorem d_Mo_label_6 : decode b_Mo_label 6 = .ok (.iload_n 1, 1) := by decide +kernel
theorem d_Mo_label_7 : decode b_Mo_label 7 = .ok (.invokevirtual 54, 3) := by decide +kernel
theorem d_Mo_label_10 : decode b_Mo_label 10 = .ok (.ifCond .eq 22, 3) := by decide +kernel
theorem d_Mo_label_13 : decode b_Mo_label 13 = .ok (.iload_n 2, 1) := by decide +kernel
theorem d_Mo_label_14 : decode b_Mo_label 14 = .ok (.iconst 0, 1) := by decide +kernel
theorem d_Mo_label_15 : decode b_Mo_label 15 = .ok (.bipush 7, 2) := by decide +kernel
theorem d_Mo_label_17 : decode b_Mo_label 17 = .ok (.invokestatic 28, 3) := by decide +kernel
theorem d_Mo_label_20 : decode b_Mo_label 20 = .ok (.ifCond .eq 12, 3) := by decide +kernel
theorem d_Mo_label_23 : decode b_Mo_label 23 = .ok (.iload_n 3, 1) := by decide +kernel
theorem d_Mo_label_24 : decode b_Mo_label 24 = .ok (.iconst 0, 1) := by decide +kernel
theorem d_Mo_label_25 : decode b_Mo_label 25 = .ok (.iconst 4, 1) := by decide +kernel
theorem d_Mo_label_26 : decode b_Mo_label 26 = .ok (.invokestatic 28, 3) := by decide +kernel
theorem d_Mo_label_29 : decode b_Mo_label 29 = .ok (.ifCond .ne 11, 3) := by decide +kernel
theorem d_Mo_label_32 : decode b_Mo_label 32 = .ok (.aload_n 0, 1) := by decide +kernel
theorem d_Mo_label_33 : decode b_Mo_label 33 = .ok (.iconst 1, 1) := by decide +kernel
theorem d_Mo_label_34 : decode b_Mo_label 34 = .ok (.invokevirtual 51, 3) := by decide +kernel
theorem d_Mo_label_37 : decode b_Mo_label 37 = .ok (.goto 10, 3) := by decide +kernel
theorem d_Mo_label_40 : decode b_Mo_label 40 = .ok (.aload_n 0, 1) := by decide +kernel
theorem d_Mo_label_41 : decode b_Mo_label 41 = .ok (.iload_n 1, 1) := by decide +kernel
theorem d_Mo_label_42 : decode b_Mo_label 42 = .ok (.iload_n 2, 1) := by decide +kernel
theorem d_Mo_label_43 : decode b_Mo_label 43 = .ok (.iload_n 3, 1) := by decide +kernel
theorem d_Mo_label_44 : decode b_Mo_label 44 = .ok (.invokevirtual 57, 3) := by decide +kernel
theorem d_Mo_label_47 : decode b_Mo_label 47 = .ok (.ireturn, 1) := by decide +kernel
theorem d_Mo_level_0 : decode b_Mo_level 0 = .ok (.aload_n 0, 1) := by decide +kernel
theorem d_Mo_level_1 : decode b_Mo_level 1 = .ok (.iconst 0, 1) := by decide +kernel
theorem d_Mo_level_2 : decode b_Mo_level 2 = .ok (.putfield 16, 3) := by decide +kernel
theorem d_Mo_level_5 : decode b_Mo_level 5 = .ok (.aload_n 0, 1) := by decide +kernel
theorem d_Mo_level_6 : decode b_Mo_level 6 = .ok (.iload_n 1, 1) := by decide +kernel
theorem d_Mo_level_7 : decode b_Mo_level 7 = .ok (.invokevirtual 54, 3) := by decide +kernel
theorem d_Mo_level_10 : decode b_Mo_level 10 = .ok (.ifCond .eq 13, 3) := by decide +kernel
theorem d_Mo_level_13 : decode b_Mo_level 13 = .ok (.iload_n 2, 1) := by decide +kernel
theorem d_Mo_level_14 : decode b_Mo_level 14 = .ok (.iconst 0, 1) := by decide +kernel
theorem d_Mo_level_15 : decode b_Mo_level 15 = .ok (.bipush 7, 2) := by decide +kernel
theorem d_Mo_level_17 : decode b_Mo_level 17 = .ok (.invokestatic 28, 3) := by decide +kernel
theorem d_Mo_level_20 : decode b_Mo_level 20 = .ok (.ifCond .ne 11, 3) := by decide +kernel
theorem d_Mo_level_23 : decode b_Mo_level 23 = .ok (.aload_n 0, 1) := by decide +kernel
theorem d_Mo_level_24 : decode b_Mo_level 24 = .ok (.iconst 1, 1) := by decide +kernel
theorem d_Mo_level_25 : decode b_Mo_level 25 = .ok (.invokevirtual 51, 3) := by decide +kernel
theorem d_Mo_level_28 : decode b_Mo_level 28 = .ok (.goto 9, 3) := by decide +kernel
theorem d_Mo_level_31 : decode b_Mo_level 31 = .ok (.aload_n 0, 1) := by decide +kernel
theorem d_Mo_level_32 : decode b_Mo_level 32 = .ok (.iload_n 1, 1) := by decide +kernel
theorem d_Mo_level_33 : decode b_Mo_level 33 = .ok (.iload_n 2, 1) := by decide +kernel
theorem d_Mo_level_34 : decode b_Mo_level 34 = .ok (.invokevirtual 20, 3) := by decide +kernel
theorem d_Mo_level_37 : decode b_Mo_level 37 = .ok (.ireturn, 1) := by decide +kernel
theorem d_Mo_fits_0 : decode b_Mo_fits 0 = .ok (.aload_n 0, 1) := by decide +kernel
theorem d_Mo_fits_1 : decode b_Mo_fits 1 = .ok (.iconst 0, 1) := by decide +kernel
theorem d_Mo_fits_2 : decode b_Mo_fits 2 = .ok (.putfield 16, 3) := by decide +kernel
theorem d_Mo_fits_5 : decode b_Mo_fits 5 = .ok (.aload_n 0, 1) := by decide +kernel
theorem d_Mo_fits_6 : decode b_Mo_fits 6 = .ok (.iload_n 1, 1) := by decide +kernel
theorem d_Mo_fits_7 : decode b_Mo_fits 7 = .ok (.invokevirtual 54, 3) := by decide +kernel
theorem d_Mo_fits_10 : decode b_Mo_fits 10 = .ok (.ifCond .eq 19, 3) := by decide +kernel
theorem d_Mo_fits_13 : decode b_Mo_fits 13 = .ok (.aload_n 0, 1) := by decide +kernel
theorem d_Mo_fits_14 : decode b_Mo_fits 14 = .ok (.iload_n 2, 1) := by decide +kernel
theorem d_Mo_fits_15 : decode b_Mo_fits 15 = .ok (.invokevirtual 54, 3) := by decide +kernel
theorem d_Mo_fits_18 : decode b_Mo_fits 18 = .ok (.ifCond .eq 11, 3) := by decide +kernel
theorem d_Mo_fits_21 : decode b_Mo_fits 21 = .ok (.aload_n 0, 1) := by decide +kernel
theorem d_Mo_fits_22 : decode b_Mo_fits 22 = .ok (.iload_n 1, 1) := by decide +kernel
theorem d_Mo_fits_23 : decode b_Mo_fits 23 = .ok (.iload_n 2, 1) := by decide +kernel
theorem d_Mo_fits_24 : decode b_Mo_fits 24 = .ok (.iload_n 3, 1) := by decide +kernel
theorem d_Mo_fits_25 : decode b_Mo_fits 25 = .ok (.invokevirtual 35, 3) := by decide +kernel
theorem d_Mo_fits_28 : decode b_Mo_fits 28 = .ok (.ireturn, 1) := by decide +kernel
theorem d_Mo_fits_29 : decode b_Mo_fits 29 = .ok (.aload_n 0, 1) := by decide +kernel
theorem d_Mo_fits_30 : decode b_Mo_fits 30 = .ok (.iconst 1, 1) := by decide +kernel
theorem d_Mo_fits_31 : decode b_Mo_fits 31 = .ok (.putfield 16, 3) := by decide +kernel
theorem d_Mo_fits_34 : decode b_Mo_fits 34 = .ok (.iconst 0, 1) := by decide +kernel
theorem d_Mo_fits_35 : decode b_Mo_fits 35 = .ok (.ireturn, 1) := by decide +kernel
theorem d_Mo_threadOnly_0 : decode b_Mo_threadOnly 0 = .ok (.aload_n 0, 1) := by decide +kernel
theorem d_Mo_threadOnly_1 : decode b_Mo_threadOnly 1 = .ok (.iload_n 1, 1) := by decide +kernel
theorem d_Mo_threadOnly_2 : decode b_Mo_threadOnly 2 = .ok (.invokevirtual 43, 3) := by decide +kernel
theorem d_Mo_threadOnly_5 : decode b_Mo_threadOnly 5 = .ok (.ifCond .ne 11, 3) := by decide +kernel
theorem d_Mo_threadOnly_8 : decode b_Mo_threadOnly 8 = .ok (.aload_n 0, 1) := by decide +kernel
theorem d_Mo_threadOnly_9 : decode b_Mo_threadOnly 9 = .ok (.iconst 2, 1) := by decide +kernel
theorem d_Mo_threadOnly_10 : decode b_Mo_threadOnly 10 = .ok (.putfield 16, 3) := by decide +kernel
theorem d_Mo_threadOnly_13 : decode b_Mo_threadOnly 13 = .ok (.goto 18, 3) := by decide +kernel
theorem d_Mo_threadOnly_16 : decode b_Mo_threadOnly 16 = .ok (.aload_n 0, 1) := by decide +kernel
theorem d_Mo_threadOnly_17 : decode b_Mo_threadOnly 17 = .ok (.iload_n 1, 1) := by decide +kernel
theorem d_Mo_threadOnly_18 : decode b_Mo_threadOnly 18 = .ok (.iconst 1, 1) := by decide +kernel
theorem d_Mo_threadOnly_19 : decode b_Mo_threadOnly 19 = .ok (.invokevirtual 32, 3) := by decide +kernel
theorem d_Mo_threadOnly_22 : decode b_Mo_threadOnly 22 = .ok (.iconst 3, 1) := by decide +kernel
theorem d_Mo_threadOnly_23 : decode b_Mo_threadOnly 23 = .ok (.if_icmp .eq 8, 3) := by decide +kernel
theorem d_Mo_threadOnly_26 : decode b_Mo_threadOnly 26 = .ok (.aload_n 0, 1) := by decide +kernel
theorem d_Mo_threadOnly_27 : decode b_Mo_threadOnly 27 = .ok (.iconst 1, 1) := by decide +kernel
theorem d_Mo_threadOnly_28 : decode b_Mo_threadOnly 28 = .ok (.putfield 16, 3) := by decide +kernel
theorem d_Mo_threadOnly_31 : decode b_Mo_threadOnly 31 = .ok (.aload_n 0, 1) := by decide +kernel
theorem d_Mo_threadOnly_32 : decode b_Mo_threadOnly 32 = .ok (.getfield 16, 3) := by decide +kernel
theorem d_Mo_threadOnly_35 : decode b_Mo_threadOnly 35 = .ok (.ifCond .ne 7, 3) := by decide +kernel
theorem d_Mo_threadOnly_38 : decode b_Mo_threadOnly 38 = .ok (.iconst 1, 1) := by decide +kernel
theorem d_Mo_threadOnly_39 : decode b_Mo_threadOnly 39 = .ok (.goto 4, 3) := by decide +kernel
theorem d_Mo_threadOnly_42 : decode b_Mo_threadOnly 42 = .ok (.iconst 0, 1) := by decide +kernel
theorem d_Mo_threadOnly_43 : decode b_Mo_threadOnly 43 = .ok (.ireturn, 1) := by decide +kernel
theorem d_Mo_giveCategory_0 : decode b_Mo_giveCategory 0 = .ok (.aload_n 0, 1) := by decide +kernel
theorem d_Mo_giveCategory_1 : decode b_Mo_giveCategory 1 = .ok (.iload_n 1, 1) := by decide +kernel
theorem d_Mo_giveCategory_2 : decode b_Mo_giveCategory 2 = .ok (.invokevirtual 60, 3) := by decide +kernel
theorem d_Mo_giveCategory_5 : decode b_Mo_giveCategory 5 = .ok (.ifCond .ne 5, 3) := by decide +kernel
theorem d_Mo_giveCategory_8 : decode b_Mo_giveCategory 8 = .ok (.iconst 0, 1) := by decide +kernel
theorem d_Mo_giveCategory_9 : decode b_Mo_giveCategory 9 = .ok (.ireturn, 1) := by decide +kernel
theorem d_Mo_giveCategory_10 : decode b_Mo_giveCategory 10 = .ok (.aload_n 0, 1) := by decide +kernel
theorem d_Mo_giveCategory_11 : decode b_Mo_giveCategory 11 = .ok (.getfield 7, 3) := by decide +kernel
theorem d_Mo_giveCategory_14 : decode b_Mo_giveCategory 14 = .ok (.sipush 1551, 3) := by decide +kernel
theorem d_Mo_giveCategory_17 : decode b_Mo_giveCategory 17 = .ok (.iaload, 1) := by decide +kernel
theorem d_Mo_giveCategory_18 : decode b_Mo_giveCategory 18 = .ok (.istore_n 2, 1) := by decide +kernel
theorem d_Mo_giveCategory_19 : decode b_Mo_giveCategory 19 = .ok (.iload_n 2, 1) := by decide +kernel
theorem d_Mo_giveCategory_20 : decode b_Mo_giveCategory 20 = .ok (.bipush 8, 2) := by decide +kernel
theorem d_Mo_giveCategory_22 : decode b_Mo_giveCategory 22 = .ok (.if_icmp .ne 9, 3) := by decide +kernel
theorem d_Mo_giveCategory_25 : decode b_Mo_giveCategory 25 = .ok (.aload_n 0, 1) := by decide +kernel
theorem d_Mo_giveCategory_26 : decode b_Mo_giveCategory 26 = .ok (.iconst 4, 1) := by decide +kernel
theorem d_Mo_giveCategory_27 : decode b_Mo_giveCategory 27 = .ok (.invokevirtual 51, 3) := by decide +kernel
theorem d_Mo_giveCategory_30 : decode b_Mo_giveCategory 30 = .ok (.ireturn, 1) := by decide +kernel
theorem d_Mo_giveCategory_31 : decode b_Mo_giveCategory 31 = .ok (.aload_n 0, 1) := by decide +kernel
theorem d_Mo_giveCategory_32 : decode b_Mo_giveCategory 32 = .ok (.aload_n 0, 1) := by decide +kernel
theorem d_Mo_giveCategory_33 : decode b_Mo_giveCategory 33 = .ok (.iload_n 1, 1) := by decide +kernel
theorem d_Mo_giveCategory_34 : decode b_Mo_giveCategory 34 = .ok (.iconst 2, 1) := by decide +kernel
theorem d_Mo_giveCategory_35 : decode b_Mo_giveCategory 35 = .ok (.invokevirtual 32, 3) := by decide +kernel
theorem d_Mo_giveCategory_38 : decode b_Mo_giveCategory 38 = .ok (.iload_n 2, 1) := by decide +kernel
theorem d_Mo_giveCategory_39 : decode b_Mo_giveCategory 39 = .ok (.iconst 4, 1) := by decide +kernel
theorem d_Mo_giveCategory_40 : decode b_Mo_giveCategory 40 = .ok (.invokevirtual 47, 3) := by decide +kernel
theorem d_Mo_giveCategory_43 : decode b_Mo_giveCategory 43 = .ok (.ifCond .ge 7, 3) := by decide +kernel
theorem d_Mo_giveCategory_46 : decode b_Mo_giveCategory 46 = .ok (.iconst 1, 1) := by decide +kernel
theorem d_Mo_giveCategory_47 : decode b_Mo_giveCategory 47 = .ok (.goto 4, 3) := by decide +kernel
theorem d_Mo_giveCategory_50 : decode b_Mo_giveCategory 50 = .ok (.iconst 0, 1) := by decide +kernel
theorem d_Mo_giveCategory_51 : decode b_Mo_giveCategory 51 = .ok (.aload_n 0, 1) := by decide +kernel
theorem d_Mo_giveCategory_52 : decode b_Mo_giveCategory 52 = .ok (.aload_n 0, 1) := by decide +kernel
theorem d_Mo_giveCategory_53 : decode b_Mo_giveCategory 53 = .ok (.iload_n 1, 1) := by decide +kernel
theorem d_Mo_giveCategory_54 : decode b_Mo_giveCategory 54 = .ok (.bipush 6, 2) := by decide +kernel
theorem d_Mo_giveCategory_56 : decode b_Mo_giveCategory 56 = .ok (.invokevirtual 32, 3) := by decide +kernel
theorem d_Mo_giveCategory_59 : decode b_Mo_giveCategory 59 = .ok (.iload_n 2, 1) := by decide +kernel
theorem d_Mo_giveCategory_60 : decode b_Mo_giveCategory 60 = .ok (.iconst 3, 1) := by decide +kernel
theorem d_Mo_giveCategory_61 : decode b_Mo_giveCategory 61 = .ok (.invokevirtual 47, 3) := by decide +kernel
theorem d_Mo_giveCategory_64 : decode b_Mo_giveCategory 64 = .ok (.ifCond .ge 7, 3) := by decide +kernel
theorem d_Mo_giveCategory_67 : decode b_Mo_giveCategory 67 = .ok (.iconst 1, 1) := by decide +kernel
theorem d_Mo_giveCategory_68 : decode b_Mo_giveCategory 68 = .ok (.goto 4, 3) := by decide +kernel
theorem d_Mo_giveCategory_71 : decode b_Mo_giveCategory 71 = .ok (.iconst 0, 1) := by decide +kernel
theorem d_Mo_giveCategory_72 : decode b_Mo_giveCategory 72 = .ok (.iadd, 1) := by decide +kernel
theorem d_Mo_giveCategory_73 : decode b_Mo_giveCategory 73 = .ok (.istore_n 3, 1) := by decide +kernel
theorem d_Mo_giveCategory_74 : decode b_Mo_giveCategory 74 = .ok (.aload_n 0, 1) := by decide +kernel
theorem d_Mo_giveCategory_75 : decode b_Mo_giveCategory 75 = .ok (.getfield 7, 3) := by decide +kernel
theorem d_Mo_giveCategory_78 : decode b_Mo_giveCategory 78 = .ok (.sipush 1550, 3) := by decide +kernel
theorem d_Mo_giveCategory_81 : decode b_Mo_giveCategory 81 = .ok (.iaload, 1) := by decide +kernel
theorem d_Mo_giveCategory_82 : decode b_Mo_giveCategory 82 = .ok (.iload_n 3, 1) := by decide +kernel
theorem d_Mo_giveCategory_83 : decode b_Mo_giveCategory 83 = .ok (.iadd, 1) := by decide +kernel
theorem d_Mo_giveCategory_84 : decode b_Mo_giveCategory 84 = .ok (.bipush 60, 2) := by decide +kernel
theorem d_Mo_giveCategory_86 : decode b_Mo_giveCategory 86 = .ok (.if_icmp .le 9, 3) := by decide +kernel
theorem d_Mo_giveCategory_89 : decode b_Mo_giveCategory 89 = .ok (.aload_n 0, 1) := by decide +kernel
theorem d_Mo_giveCategory_90 : decode b_Mo_giveCategory 90 = .ok (.iconst 4, 1) := by decide +kernel
theorem d_Mo_giveCategory_91 : decode b_Mo_giveCategory 91 = .ok (.invokevirtual 51, 3) := by decide +kernel
theorem d_Mo_giveCategory_94 : decode b_Mo_giveCategory 94 = .ok (.ireturn, 1) := by decide +kernel
theorem d_Mo_giveCategory_95 : decode b_Mo_giveCategory 95 = .ok (.aload_n 0, 1) := by decide +kernel
theorem d_Mo_giveCategory_96 : decode b_Mo_giveCategory 96 = .ok (.getfield 7, 3) := by decide +kernel
theorem d_Mo_giveCategory_99 : decode b_Mo_giveCategory 99 = .ok (.bipush 17, 2) := by decide +kernel
theorem d_Mo_giveCategory_101 : decode b_Mo_giveCategory 101 = .ok (.iload_n 1, 1) := by decide +kernel
theorem d_Mo_giveCategory_102 : decode b_Mo_giveCategory 102 = .ok (.imul, 1) := by decide +kernel
theorem d_Mo_giveCategory_103 : decode b_Mo_giveCategory 103 = .ok (.iconst 2, 1) := by decide +kernel
theorem d_Mo_giveCategory_104 : decode b_Mo_giveCategory 104 = .ok (.iadd, 1) := by decide +kernel
theorem d_Mo_giveCategory_105 : decode b_Mo_giveCategory 105 = .ok (.aload_n 0, 1) := by decide +kernel
theorem d_Mo_giveCategory_106 : decode b_Mo_giveCategory 106 = .ok (.aload_n 0, 1) := by decide +kernel
theorem d_Mo_giveCategory_107 : decode b_Mo_giveCategory 107 = .ok (.iload_n 1, 1) := by decide +kernel
theorem d_Mo_giveCategory_108 : decode b_Mo_giveCategory 108 = .ok (.iconst 2, 1) := by decide +kernel
theorem d_Mo_giveCategory_109 : decode b_Mo_giveCategory 109 = .ok (.invokevirtual 32, 3) := by decide +kernel
theorem d_Mo_giveCategory_112 : decode b_Mo_giveCategory 112 = .ok (.iload_n 2, 1) := by decide +kernel
theorem d_Mo_giveCategory_113 : decode b_Mo_giveCategory 113 = .ok (.iconst 4, 1) := by decide +kernel
theorem d_Mo_giveCategory_114 : decode b_Mo_giveCategory 114 = .ok (.invokevirtual 57, 3) := by decide +kernel
theorem d_Mo_giveCategory_117 : decode b_Mo_giveCategory 117 = .ok (.iastore, 1) := by decide +kernel
theorem d_Mo_giveCategory_118 : decode b_Mo_giveCategory 118 = .ok (.aload_n 0, 1) := by decide +kernel
theorem d_Mo_giveCategory_119 : decode b_Mo_giveCategory 119 = .ok (.getfield 7, 3) := by decide +kernel
theorem d_Mo_giveCategory_122 : decode b_Mo_giveCategory 122 = .ok (.bipush 17, 2) := by decide +kernel
theorem d_Mo_giveCategory_124 : decode b_Mo_giveCategory 124 = .ok (.iload_n 1, 1) := by decide +kernel
theorem d_Mo_giveCategory_125 : decode b_Mo_giveCategory 125 = .ok (.imul, 1) := by decide +kernel
theorem d_Mo_giveCategory_126 : decode b_Mo_giveCategory 126 = .ok (.bipush 6, 2) := by decide +kernel
theorem d_Mo_giveCategory_128 : decode b_Mo_giveCategory 128 = .ok (.iadd, 1) := by decide +kernel
theorem d_Mo_giveCategory_129 : decode b_Mo_giveCategory 129 = .ok (.aload_n 0, 1) := by decide +kernel
theorem d_Mo_giveCategory_130 : decode b_Mo_giveCategory 130 = .ok (.aload_n 0, 1) := by decide +kernel
theorem d_Mo_giveCategory_131 : decode b_Mo_giveCategory 131 = .ok (.iload_n 1, 1) := by decide +kernel
theorem d_Mo_giveCategory_132 : decode b_Mo_giveCategory 132 = .ok (.bipush 6, 2) := by decide +kernel
theorem d_Mo_giveCategory_134 : decode b_Mo_giveCategory 134 = .ok (.invokevirtual 32, 3) := by decide +kernel
theorem d_Mo_giveCategory_137 : decode b_Mo_giveCategory 137 = .ok (.iload_n 2, 1) := by decide +kernel
theorem d_Mo_giveCategory_138 : decode b_Mo_giveCategory 138 = .ok (.iconst 3, 1) := by decide +kernel
theorem d_Mo_giveCategory_139 : decode b_Mo_giveCategory 139 = .ok (.invokevirtual 57, 3) := by decide +kernel
theorem d_Mo_giveCategory_142 : decode b_Mo_giveCategory 142 = .ok (.iastore, 1) := by decide +kernel
theorem d_Mo_giveCategory_143 : decode b_Mo_giveCategory 143 = .ok (.aload_n 0, 1) := by decide +kernel
theorem d_Mo_giveCategory_144 : decode b_Mo_giveCategory 144 = .ok (.getfield 7, 3) := by decide +kernel
theorem d_Mo_giveCategory_147 : decode b_Mo_giveCategory 147 = .ok (.sipush 1551, 3) := by decide +kernel
theorem d_Mo_giveCategory_150 : decode b_Mo_giveCategory 150 = .ok (.dup2, 1) := by decide +kernel
theorem d_Mo_giveCategory_151 : decode b_Mo_giveCategory 151 = .ok (.iaload, 1) := by decide +kernel
theorem d_Mo_giveCategory_152 : decode b_Mo_giveCategory 152 = .ok (.iconst 1, 1) := by decide +kernel
theorem d_Mo_giveCategory_153 : decode b_Mo_giveCategory 153 = .ok (.iadd, 1) := by decide +kernel
theorem d_Mo_giveCategory_154 : decode b_Mo_giveCategory 154 = .ok (.iastore, 1) := by decide +kernel
theorem d_Mo_giveCategory_155 : decode b_Mo_giveCategory 155 = .ok (.iload_n 2, 1) := by decide +kernel
theorem d_Mo_giveCategory_156 : decode b_Mo_giveCategory 156 = .ok (.ireturn, 1) := by decide +kernel
theorem d_Mo_category_0 : decode b_Mo_category 0 = .ok (.aload_n 0, 1) := by decide +kernel
theorem d_Mo_category_1 : decode b_Mo_category 1 = .ok (.iconst 0, 1) := by decide +kernel
theorem d_Mo_category_2 : decode b_Mo_category 2 = .ok (.putfield 16, 3) := by decide +kernel
theorem d_Mo_category_5 : decode b_Mo_category 5 = .ok (.aload_n 0, 1) := by decide +kernel
theorem d_Mo_category_6 : decode b_Mo_category 6 = .ok (.iload_n 1, 1) := by decide +kernel
theorem d_Mo_category_7 : decode b_Mo_category 7 = .ok (.invokevirtual 63, 3) := by decide +kernel
theorem d_Mo_category_10 : decode b_Mo_category 10 = .ok (.ireturn, 1) := by decide +kernel
theorem d_Mo_deep_0 : decode b_Mo_deep 0 = .ok (.iconst 0, 1) := by decide +kernel
theorem d_Mo_deep_1 : decode b_Mo_deep 1 = .ok (.istore_n 2, 1) := by decide +kernel
theorem d_Mo_deep_2 : decode b_Mo_deep 2 = .ok (.iload_n 1, 1) := by decide +kernel
theorem d_Mo_deep_3 : decode b_Mo_deep 3 = .ok (.istore_n 3, 1) := by decide +kernel
theorem d_Mo_deep_4 : decode b_Mo_deep 4 = .ok (.iload_n 3, 1) := by decide +kernel
theorem d_Mo_deep_5 : decode b_Mo_deep 5 = .ok (.iconst 1, 1) := by decide +kernel
theorem d_Mo_deep_6 : decode b_Mo_deep 6 = .ok (.if_icmp .le 16, 3) := by decide +kernel
theorem d_Mo_deep_9 : decode b_Mo_deep 9 = .ok (.iinc 2 1, 3) := by decide +kernel
theorem d_Mo_deep_12 : decode b_Mo_deep 12 = .ok (.aload_n 0, 1) := by decide +kernel
theorem d_Mo_deep_13 : decode b_Mo_deep 13 = .ok (.iload_n 3, 1) := by decide +kernel
theorem d_Mo_deep_14 : decode b_Mo_deep 14 = .ok (.iconst 4, 1) := by decide +kernel
theorem d_Mo_deep_15 : decode b_Mo_deep 15 = .ok (.invokevirtual 32, 3) := by decide +kernel
theorem d_Mo_deep_18 : decode b_Mo_deep 18 = .ok (.istore_n 3, 1) := by decide +kernel
theorem d_Mo_deep_19 : decode b_Mo_deep 19 = .ok (.goto (-15), 3) := by decide +kernel
theorem d_Mo_deep_22 : decode b_Mo_deep 22 = .ok (.iload_n 2, 1) := by decide +kernel
theorem d_Mo_deep_23 : decode b_Mo_deep 23 = .ok (.ireturn, 1) := by decide +kernel
theorem d_Mo_starsWithin_0 : decode b_Mo_starsWithin 0 = .ok (.iload_n 0, 1) := by decide +kernel
theorem d_Mo_starsWithin_1 : decode b_Mo_starsWithin 1 = .ok (.iconst 4, 1) := by decide +kernel
theorem d_Mo_starsWithin_2 : decode b_Mo_starsWithin 2 = .ok (.if_icmp .ne 8, 3) := by decide +kernel
theorem d_Mo_starsWithin_5 : decode b_Mo_starsWithin 5 = .ok (.iload_n 1, 1) := by decide +kernel
theorem d_Mo_starsWithin_6 : decode b_Mo_starsWithin 6 = .ok (.iconst 4, 1) := by decide +kernel
theorem d_Mo_starsWithin_7 : decode b_Mo_starsWithin 7 = .ok (.if_icmp .ne 7, 3) := by decide +kernel
theorem d_Mo_starsWithin_10 : decode b_Mo_starsWithin 10 = .ok (.iconst 1, 1) := by decide +kernel
theorem d_Mo_starsWithin_11 : decode b_Mo_starsWithin 11 = .ok (.goto 4, 3) := by decide +kernel
theorem d_Mo_starsWithin_14 : decode b_Mo_starsWithin 14 = .ok (.iconst 0, 1) := by decide +kernel
theorem d_Mo_starsWithin_15 : decode b_Mo_starsWithin 15 = .ok (.ireturn, 1) := by decide +kernel
theorem d_Mo_starsOf_0 : decode b_Mo_starsOf 0 = .ok (.iconst 0, 1) := by decide +kernel
theorem d_Mo_starsOf_1 : decode b_Mo_starsOf 1 = .ok (.istore_n 3, 1) := by decide +kernel
theorem d_Mo_starsOf_2 : decode b_Mo_starsOf 2 = .ok (.iload_n 3, 1) := by decide +kernel
theorem d_Mo_starsOf_3 : decode b_Mo_starsOf 3 = .ok (.bipush 8, 2) := by decide +kernel
theorem d_Mo_starsOf_5 : decode b_Mo_starsOf 5 = .ok (.if_icmp .ge 34, 3) := by decide +kernel
theorem d_Mo_starsOf_8 : decode b_Mo_starsOf 8 = .ok (.aload_n 0, 1) := by decide +kernel
theorem d_Mo_starsOf_9 : decode b_Mo_starsOf 9 = .ok (.iload_n 1, 1) := by decide +kernel
theorem d_Mo_starsOf_10 : decode b_Mo_starsOf 10 = .ok (.iload_n 3, 1) := by decide +kernel
theorem d_Mo_starsOf_11 : decode b_Mo_starsOf 11 = .ok (.invokevirtual 20, 3) := by decide +kernel
theorem d_Mo_starsOf_14 : decode b_Mo_starsOf 14 = .ok (.aload_n 0, 1) := by decide +kernel
theorem d_Mo_starsOf_15 : decode b_Mo_starsOf 15 = .ok (.aload_n 0, 1) := by decide +kernel
theorem d_Mo_starsOf_16 : decode b_Mo_starsOf 16 = .ok (.iload_n 2, 1) := by decide +kernel
theorem d_Mo_starsOf_17 : decode b_Mo_starsOf 17 = .ok (.iconst 2, 1) := by decide +kernel
theorem d_Mo_starsOf_18 : decode b_Mo_starsOf 18 = .ok (.invokevirtual 32, 3) := by decide +kernel
theorem d_Mo_starsOf_21 : decode b_Mo_starsOf 21 = .ok (.iload_n 3, 1) := by decide +kernel
theorem d_Mo_starsOf_22 : decode b_Mo_starsOf 22 = .ok (.invokevirtual 20, 3) := by decide +kernel
theorem d_Mo_starsOf_25 : decode b_Mo_starsOf 25 = .ok (.invokestatic 66, 3) := by decide +kernel
theorem d_Mo_starsOf_28 : decode b_Mo_starsOf 28 = .ok (.ifCond .ne 5, 3) := by decide +kernel
theorem d_Mo_starsOf_31 : decode b_Mo_starsOf 31 = .ok (.iconst 0, 1) := by decide +kernel
theorem d_Mo_starsOf_32 : decode b_Mo_starsOf 32 = .ok (.ireturn, 1) := by decide +kernel
theorem d_Mo_starsOf_33 : decode b_Mo_starsOf 33 = .ok (.iinc 3 1, 3) := by decide +kernel
theorem d_Mo_starsOf_36 : decode b_Mo_starsOf 36 = .ok (.goto (-34), 3) := by decide +kernel
theorem d_Mo_starsOf_39 : decode b_Mo_starsOf 39 = .ok (.iconst 1, 1) := by decide +kernel
theorem d_Mo_starsOf_40 : decode b_Mo_starsOf 40 = .ok (.ireturn, 1) := by decide +kernel
theorem d_Mo_make_0 : decode b_Mo_make 0 = .ok (.aload_n 0, 1) := by decide +kernel
theorem d_Mo_make_1 : decode b_Mo_make 1 = .ok (.iload_n 1, 1) := by decide +kernel
theorem d_Mo_make_2 : decode b_Mo_make 2 = .ok (.invokevirtual 43, 3) := by decide +kernel
theorem d_Mo_make_5 : decode b_Mo_make 5 = .ok (.ifCond .eq 11, 3) := by decide +kernel
theorem d_Mo_make_8 : decode b_Mo_make 8 = .ok (.aload_n 0, 1) := by decide +kernel
theorem d_Mo_make_9 : decode b_Mo_make 9 = .ok (.iload_n 2, 1) := by decide +kernel
theorem d_Mo_make_10 : decode b_Mo_make 10 = .ok (.invokevirtual 43, 3) := by decide +kernel
theorem d_Mo_make_13 : decode b_Mo_make 13 = .ok (.ifCond .ne 9, 3) := by decide +kernel
theorem d_Mo_make_16 : decode b_Mo_make 16 = .ok (.aload_n 0, 1) := by decide +kernel
theorem d_Mo_make_17 : decode b_Mo_make 17 = .ok (.iconst 2, 1) := by decide +kernel
theorem d_Mo_make_18 : decode b_Mo_make 18 = .ok (.invokevirtual 51, 3) := by decide +kernel
theorem d_Mo_make_21 : decode b_Mo_make 21 = .ok (.ireturn, 1) := by decide +kernel
theorem d_Mo_make_22 : decode b_Mo_make 22 = .ok (.aload_n 0, 1) := by decide +kernel
theorem d_Mo_make_23 : decode b_Mo_make 23 = .ok (.iload_n 1, 1) := by decide +kernel
theorem d_Mo_make_24 : decode b_Mo_make 24 = .ok (.iconst 1, 1) := by decide +kernel
theorem d_Mo_make_25 : decode b_Mo_make 25 = .ok (.invokevirtual 32, 3) := by decide +kernel
theorem d_Mo_make_28 : decode b_Mo_make 28 = .ok (.iconst 3, 1) := by decide +kernel
theorem d_Mo_make_29 : decode b_Mo_make 29 = .ok (.if_icmp .ne 12, 3) := by decide +kernel
theorem d_Mo_make_32 : decode b_Mo_make 32 = .ok (.aload_n 0, 1) := by decide +kernel
theorem d_Mo_make_33 : decode b_Mo_make 33 = .ok (.iload_n 2, 1) := by decide +kernel
theorem d_Mo_make_34 : decode b_Mo_make 34 = .ok (.iconst 1, 1) := by decide +kernel
theorem d_Mo_make_35 : decode b_Mo_make 35 = .ok (.invokevirtual 32, 3) := by decide +kernel
theorem d_Mo_make_38 : decode b_Mo_make 38 = .ok (.ifCond .eq 9, 3) := by decide +kernel
theorem d_Mo_make_41 : decode b_Mo_make 41 = .ok (.aload_n 0, 1) := by decide +kernel
theorem d_Mo_make_42 : decode b_Mo_make 42 = .ok (.iconst 1, 1) := by decide +kernel
theorem d_Mo_make_43 : decode b_Mo_make 43 = .ok (.invokevirtual 51, 3) := by decide +kernel
theorem d_Mo_make_46 : decode b_Mo_make 46 = .ok (.ireturn, 1) := by decide +kernel
theorem d_Mo_make_47 : decode b_Mo_make 47 = .ok (.aload_n 0, 1) := by decide +kernel
theorem d_Mo_make_48 : decode b_Mo_make 48 = .ok (.iload_n 1, 1) := by decide +kernel
theorem d_Mo_make_49 : decode b_Mo_make 49 = .ok (.iload_n 2, 1) := by decide +kernel
theorem d_Mo_make_50 : decode b_Mo_make 50 = .ok (.invokevirtual 69, 3) := by decide +kernel
theorem d_Mo_make_53 : decode b_Mo_make 53 = .ok (.ifCond .eq 47, 3) := by decide +kernel
theorem d_Mo_make_56 : decode b_Mo_make 56 = .ok (.aload_n 0, 1) := by decide +kernel
theorem d_Mo_make_57 : decode b_Mo_make 57 = .ok (.aload_n 0, 1) := by decide +kernel
theorem d_Mo_make_58 : decode b_Mo_make 58 = .ok (.iload_n 1, 1) := by decide +kernel
theorem d_Mo_make_59 : decode b_Mo_make 59 = .ok (.iconst 2, 1) := by decide +kernel
theorem d_Mo_make_60 : decode b_Mo_make 60 = .ok (.invokevirtual 32, 3) := by decide +kernel
theorem d_Mo_make_63 : decode b_Mo_make 63 = .ok (.iload_n 3, 1) := by decide +kernel
theorem d_Mo_make_64 : decode b_Mo_make 64 = .ok (.iconst 0, 1) := by decide +kernel
theorem d_Mo_make_65 : decode b_Mo_make 65 = .ok (.invokevirtual 35, 3) := by decide +kernel
theorem d_Mo_make_68 : decode b_Mo_make 68 = .ok (.ifCond .eq 32, 3) := by decide +kernel
theorem d_Mo_make_71 : decode b_Mo_make 71 = .ok (.aload_n 0, 1) := by decide +kernel
theorem d_Mo_make_72 : decode b_Mo_make 72 = .ok (.iload_n 3, 1) := by decide +kernel
theorem d_Mo_make_73 : decode b_Mo_make 73 = .ok (.aload_n 0, 1) := by decide +kernel
theorem d_Mo_make_74 : decode b_Mo_make 74 = .ok (.iload_n 1, 1) := by decide +kernel
theorem d_Mo_make_75 : decode b_Mo_make 75 = .ok (.bipush 6, 2) := by decide +kernel
theorem d_Mo_make_77 : decode b_Mo_make 77 = .ok (.invokevirtual 32, 3) := by decide +kernel
theorem d_Mo_make_80 : decode b_Mo_make 80 = .ok (.iconst 0, 1) := by decide +kernel
theorem d_Mo_make_81 : decode b_Mo_make 81 = .ok (.invokevirtual 35, 3) := by decide +kernel
theorem d_Mo_make_84 : decode b_Mo_make 84 = .ok (.ifCond .eq 16, 3) := by decide +kernel
theorem d_Mo_make_87 : decode b_Mo_make 87 = .ok (.aload_n 0, 1) := by decide +kernel
theorem d_Mo_make_88 : decode b_Mo_make 88 = .ok (.iload_n 3, 1) := by decide +kernel
theorem d_Mo_make_89 : decode b_Mo_make 89 = .ok (.iload_n 1, 1) := by decide +kernel
theorem d_Mo_make_90 : decode b_Mo_make 90 = .ok (.invokevirtual 72, 3) := by decide +kernel
theorem d_Mo_make_93 : decode b_Mo_make 93 = .ok (.ifCond .eq 7, 3) := by decide +kernel
theorem d_Mo_make_96 : decode b_Mo_make 96 = .ok (.iconst 1, 1) := by decide +kernel
theorem d_Mo_make_97 : decode b_Mo_make 97 = .ok (.goto 4, 3) := by decide +kernel
theorem d_Mo_make_100 : decode b_Mo_make 100 = .ok (.iconst 0, 1) := by decide +kernel
theorem d_Mo_make_101 : decode b_Mo_make 101 = .ok (.istore 7, 2) := by decide +kernel
theorem d_Mo_make_103 : decode b_Mo_make 103 = .ok (.iload 5, 2) := by decide +kernel
theorem d_Mo_make_105 : decode b_Mo_make 105 = .ok (.iconst 3, 1) := by decide +kernel
theorem d_Mo_make_106 : decode b_Mo_make 106 = .ok (.if_icmp .ne 43, 3) := by decide +kernel
theorem d_Mo_make_109 : decode b_Mo_make 109 = .ok (.iload 7, 2) := by decide +kernel
theorem d_Mo_make_111 : decode b_Mo_make 111 = .ok (.ifCond .eq 35, 3) := by decide +kernel
theorem d_Mo_make_114 : decode b_Mo_make 114 = .ok (.aload_n 0, 1) := by decide +kernel
theorem d_Mo_make_115 : decode b_Mo_make 115 = .ok (.iload 6, 2) := by decide +kernel
theorem d_Mo_make_117 : decode b_Mo_make 117 = .ok (.aload_n 0, 1) := by decide +kernel
theorem d_Mo_make_118 : decode b_Mo_make 118 = .ok (.iload_n 1, 1) := by decide +kernel
theorem d_Mo_make_119 : decode b_Mo_make 119 = .ok (.bipush 6, 2) := by decide +kernel
theorem d_Mo_make_121 : decode b_Mo_make 121 = .ok (.invokevirtual 32, 3) := by decide +kernel
theorem d_Mo_make_124 : decode b_Mo_make 124 = .ok (.iconst 0, 1) := by decide +kernel
theorem d_Mo_make_125 : decode b_Mo_make 125 = .ok (.invokevirtual 35, 3) := by decide +kernel
theorem d_Mo_make_128 : decode b_Mo_make 128 = .ok (.ifCond .eq 18, 3) := by decide +kernel
theorem d_Mo_make_131 : decode b_Mo_make 131 = .ok (.aload_n 0, 1) := by decide +kernel
theorem d_Mo_make_132 : decode b_Mo_make 132 = .ok (.iload_n 3, 1) := by decide +kernel
theorem d_Mo_make_133 : decode b_Mo_make 133 = .ok (.iload 6, 2) := by decide +kernel
theorem d_Mo_make_135 : decode b_Mo_make 135 = .ok (.iconst 0, 1) := by decide +kernel
theorem d_Mo_make_136 : decode b_Mo_make 136 = .ok (.invokevirtual 35, 3) := by decide +kernel
theorem d_Mo_make_139 : decode b_Mo_make 139 = .ok (.ifCond .eq 7, 3) := by decide +kernel
theorem d_Mo_make_142 : decode b_Mo_make 142 = .ok (.iconst 1, 1) := by decide +kernel
theorem d_Mo_make_143 : decode b_Mo_make 143 = .ok (.goto 4, 3) := by decide +kernel
theorem d_Mo_make_146 : decode b_Mo_make 146 = .ok (.iconst 0, 1) := by decide +kernel
theorem d_Mo_make_147 : decode b_Mo_make 147 = .ok (.istore 7, 2) := by decide +kernel
theorem d_Mo_make_149 : decode b_Mo_make 149 = .ok (.iload 7, 2) := by decide +kernel
theorem d_Mo_make_151 : decode b_Mo_make 151 = .ok (.ifCond .ne 9, 3) := by decide +kernel
theorem d_Mo_make_154 : decode b_Mo_make 154 = .ok (.aload_n 0, 1) := by decide +kernel
theorem d_Mo_make_155 : decode b_Mo_make 155 = .ok (.iconst 3, 1) := by decide +kernel
theorem d_Mo_make_156 : decode b_Mo_make 156 = .ok (.invokevirtual 51, 3) := by decide +kernel
theorem d_Mo_make_159 : decode b_Mo_make 159 = .ok (.ireturn, 1) := by decide +kernel
theorem d_Mo_make_160 : decode b_Mo_make 160 = .ok (.aload_n 0, 1) := by decide +kernel
theorem d_Mo_make_161 : decode b_Mo_make 161 = .ok (.iload_n 2, 1) := by decide +kernel
theorem d_Mo_make_162 : decode b_Mo_make 162 = .ok (.iconst 3, 1) := by decide +kernel
theorem d_Mo_make_163 : decode b_Mo_make 163 = .ok (.invokevirtual 32, 3) := by decide +kernel
theorem d_Mo_make_166 : decode b_Mo_make 166 = .ok (.aload_n 0, 1) := by decide +kernel
theorem d_Mo_make_167 : decode b_Mo_make 167 = .ok (.iload_n 2, 1) := by decide +kernel
theorem d_Mo_make_168 : decode b_Mo_make 168 = .ok (.invokevirtual 75, 3) := by decide +kernel
theorem d_Mo_make_171 : decode b_Mo_make 171 = .ok (.iload 4, 2) := by decide +kernel
theorem d_Mo_make_173 : decode b_Mo_make 173 = .ok (.iadd, 1) := by decide +kernel
theorem d_Mo_make_174 : decode b_Mo_make 174 = .ok (.if_icmp .lt 26, 3) := by decide +kernel
theorem d_Mo_make_177 : decode b_Mo_make 177 = .ok (.aload_n 0, 1) := by decide +kernel
theorem d_Mo_make_178 : decode b_Mo_make 178 = .ok (.getfield 7, 3) := by decide +kernel
theorem d_Mo_make_181 : decode b_Mo_make 181 = .ok (.sipush 1549, 3) := by decide +kernel
theorem d_Mo_make_184 : decode b_Mo_make 184 = .ok (.iaload, 1) := by decide +kernel
theorem d_Mo_make_185 : decode b_Mo_make 185 = .ok (.bipush 60, 2) := by decide +kernel
theorem d_Mo_make_187 : decode b_Mo_make 187 = .ok (.if_icmp .eq 13, 3) := by decide +kernel
theorem d_Mo_make_190 : decode b_Mo_make 190 = .ok (.aload_n 0, 1) := by decide +kernel
theorem d_Mo_make_191 : decode b_Mo_make 191 = .ok (.iload_n 2, 1) := by decide +kernel
theorem d_Mo_make_192 : decode b_Mo_make 192 = .ok (.invokevirtual 78, 3) := by decide +kernel
theorem d_Mo_make_195 : decode b_Mo_make 195 = .ok (.bipush 12, 2) := by decide +kernel
theorem d_Mo_make_197 : decode b_Mo_make 197 = .ok (.if_icmp .lt 9, 3) := by decide +kernel
theorem d_Mo_make_200 : decode b_Mo_make 200 = .ok (.aload_n 0, 1) := by decide +kernel
theorem d_Mo_make_201 : decode b_Mo_make 201 = .ok (.iconst 4, 1) := by decide +kernel
theorem d_Mo_make_202 : decode b_Mo_make 202 = .ok (.invokevirtual 51, 3) := by decide +kernel
theorem d_Mo_make_205 : decode b_Mo_make 205 = .ok (.ireturn, 1) := by decide +kernel
theorem d_Mo_make_206 : decode b_Mo_make 206 = .ok (.aload_n 0, 1) := by decide +kernel
theorem d_Mo_make_207 : decode b_Mo_make 207 = .ok (.getfield 7, 3) := by decide +kernel
theorem d_Mo_make_210 : decode b_Mo_make 210 = .ok (.sipush 1549, 3) := by decide +kernel
theorem d_Mo_make_213 : decode b_Mo_make 213 = .ok (.dup2, 1) := by decide +kernel
theorem d_Mo_make_214 : decode b_Mo_make 214 = .ok (.iaload, 1) := by decide +kernel
theorem d_Mo_make_215 : decode b_Mo_make 215 = .ok (.iconst 1, 1) := by decide +kernel
theorem d_Mo_make_216 : decode b_Mo_make 216 = .ok (.iadd, 1) := by decide +kernel
theorem d_Mo_make_217 : decode b_Mo_make 217 = .ok (.iastore, 1) := by decide +kernel
theorem d_Mo_make_218 : decode b_Mo_make 218 = .ok (.aload_n 0, 1) := by decide +kernel
theorem d_Mo_make_219 : decode b_Mo_make 219 = .ok (.getfield 7, 3) := by decide +kernel
theorem d_Mo_make_222 : decode b_Mo_make 222 = .ok (.sipush 1549, 3) := by decide +kernel
theorem d_Mo_make_225 : decode b_Mo_make 225 = .ok (.iaload, 1) := by decide +kernel
theorem d_Mo_make_226 : decode b_Mo_make 226 = .ok (.istore 8, 2) := by decide +kernel
theorem d_Mo_make_228 : decode b_Mo_make 228 = .ok (.iconst 0, 1) := by decide +kernel
theorem d_Mo_make_229 : decode b_Mo_make 229 = .ok (.istore 9, 2) := by decide +kernel
theorem d_Mo_make_231 : decode b_Mo_make 231 = .ok (.iload 9, 2) := by decide +kernel
theorem d_Mo_make_233 : decode b_Mo_make 233 = .ok (.bipush 17, 2) := by decide +kernel
theorem d_Mo_make_235 : decode b_Mo_make 235 = .ok (.if_icmp .ge 23, 3) := by decide +kernel
theorem d_Mo_make_238 : decode b_Mo_make 238 = .ok (.aload_n 0, 1) := by decide +kernel
theorem d_Mo_make_239 : decode b_Mo_make 239 = .ok (.getfield 7, 3) := by decide +kernel
theorem d_Mo_make_242 : decode b_Mo_make 242 = .ok (.bipush 17, 2) := by decide +kernel
theorem d_Mo_make_244 : decode b_Mo_make 244 = .ok (.iload 8, 2) := by decide +kernel
theorem d_Mo_make_246 : decode b_Mo_make 246 = .ok (.imul, 1) := by decide +kernel
theorem d_Mo_make_247 : decode b_Mo_make 247 = .ok (.iload 9, 2) := by decide +kernel
theorem d_Mo_make_249 : decode b_Mo_make 249 = .ok (.iadd, 1) := by decide +kernel
theorem d_Mo_make_250 : decode b_Mo_make 250 = .ok (.iconst 0, 1) := by decide +kernel
theorem d_Mo_make_251 : decode b_Mo_make 251 = .ok (.iastore, 1) := by decide +kernel
theorem d_Mo_make_252 : decode b_Mo_make 252 = .ok (.iinc 9 1, 3) := by decide +kernel
theorem d_Mo_make_255 : decode b_Mo_make 255 = .ok (.goto (-24), 3) := by decide +kernel
theorem d_Mo_make_258 : decode b_Mo_make 258 = .ok (.aload_n 0, 1) := by decide +kernel
theorem d_Mo_make_259 : decode b_Mo_make 259 = .ok (.getfield 7, 3) := by decide +kernel
theorem d_Mo_make_262 : decode b_Mo_make 262 = .ok (.bipush 17, 2) := by decide +kernel
theorem d_Mo_make_264 : decode b_Mo_make 264 = .ok (.iload 8, 2) := by decide +kernel
theorem d_Mo_make_266 : decode b_Mo_make 266 = .ok (.imul, 1) := by decide +kernel
theorem d_Mo_make_267 : decode b_Mo_make 267 = .ok (.iconst 0, 1) := by decide +kernel
theorem d_Mo_make_268 : decode b_Mo_make 268 = .ok (.iadd, 1) := by decide +kernel
theorem d_Mo_make_269 : decode b_Mo_make 269 = .ok (.iconst 1, 1) := by decide +kernel
theorem d_Mo_make_270 : decode b_Mo_make 270 = .ok (.iastore, 1) := by decide +kernel
theorem d_Mo_make_271 : decode b_Mo_make 271 = .ok (.aload_n 0, 1) := by decide +kernel
theorem d_Mo_make_272 : decode b_Mo_make 272 = .ok (.getfield 7, 3) := by decide +kernel
theorem d_Mo_make_275 : decode b_Mo_make 275 = .ok (.bipush 17, 2) := by decide +kernel
theorem d_Mo_make_277 : decode b_Mo_make 277 = .ok (.iload 8, 2) := by decide +kernel
theorem d_Mo_make_279 : decode b_Mo_make 279 = .ok (.imul, 1) := by decide +kernel
theorem d_Mo_make_280 : decode b_Mo_make 280 = .ok (.iconst 1, 1) := by decide +kernel
theorem d_Mo_make_281 : decode b_Mo_make 281 = .ok (.iadd, 1) := by decide +kernel
theorem d_Mo_make_282 : decode b_Mo_make 282 = .ok (.iload 5, 2) := by decide +kernel
theorem d_Mo_make_284 : decode b_Mo_make 284 = .ok (.iastore, 1) := by decide +kernel
theorem d_Mo_make_285 : decode b_Mo_make 285 = .ok (.aload_n 0, 1) := by decide +kernel
theorem d_Mo_make_286 : decode b_Mo_make 286 = .ok (.getfield 7, 3) := by decide +kernel
theorem d_Mo_make_289 : decode b_Mo_make 289 = .ok (.bipush 17, 2) := by decide +kernel
theorem d_Mo_make_291 : decode b_Mo_make 291 = .ok (.iload 8, 2) := by decide +kernel
theorem d_Mo_make_293 : decode b_Mo_make 293 = .ok (.imul, 1) := by decide +kernel
theorem d_Mo_make_294 : decode b_Mo_make 294 = .ok (.iconst 2, 1) := by decide +kernel
theorem d_Mo_make_295 : decode b_Mo_make 295 = .ok (.iadd, 1) := by decide +kernel
theorem d_Mo_make_296 : decode b_Mo_make 296 = .ok (.iload_n 3, 1) := by decide +kernel
theorem d_Mo_make_297 : decode b_Mo_make 297 = .ok (.iastore, 1) := by decide +kernel
theorem d_Mo_make_298 : decode b_Mo_make 298 = .ok (.aload_n 0, 1) := by decide +kernel
theorem d_Mo_make_299 : decode b_Mo_make 299 = .ok (.getfield 7, 3) := by decide +kernel
theorem d_Mo_make_302 : decode b_Mo_make 302 = .ok (.bipush 17, 2) := by decide +kernel
theorem d_Mo_make_304 : decode b_Mo_make 304 = .ok (.iload 8, 2) := by decide +kernel
theorem d_Mo_make_306 : decode b_Mo_make 306 = .ok (.imul, 1) := by decide +kernel
theorem d_Mo_make_307 : decode b_Mo_make 307 = .ok (.iconst 3, 1) := by decide +kernel
theorem d_Mo_make_308 : decode b_Mo_make 308 = .ok (.iadd, 1) := by decide +kernel
theorem d_Mo_make_309 : decode b_Mo_make 309 = .ok (.iload 4, 2) := by decide +kernel
theorem d_Mo_make_311 : decode b_Mo_make 311 = .ok (.iastore, 1) := by decide +kernel
theorem d_Mo_make_312 : decode b_Mo_make 312 = .ok (.aload_n 0, 1) := by decide +kernel
theorem d_Mo_make_313 : decode b_Mo_make 313 = .ok (.getfield 7, 3) := by decide +kernel
theorem d_Mo_make_316 : decode b_Mo_make 316 = .ok (.bipush 17, 2) := by decide +kernel
theorem d_Mo_make_318 : decode b_Mo_make 318 = .ok (.iload 8, 2) := by decide +kernel
theorem d_Mo_make_320 : decode b_Mo_make 320 = .ok (.imul, 1) := by decide +kernel
theorem d_Mo_make_321 : decode b_Mo_make 321 = .ok (.iconst 4, 1) := by decide +kernel
theorem d_Mo_make_322 : decode b_Mo_make 322 = .ok (.iadd, 1) := by decide +kernel
theorem d_Mo_make_323 : decode b_Mo_make 323 = .ok (.iload_n 2, 1) := by decide +kernel
theorem d_Mo_make_324 : decode b_Mo_make 324 = .ok (.iastore, 1) := by decide +kernel
theorem d_Mo_make_325 : decode b_Mo_make 325 = .ok (.aload_n 0, 1) := by decide +kernel
theorem d_Mo_make_326 : decode b_Mo_make 326 = .ok (.getfield 7, 3) := by decide +kernel
theorem d_Mo_make_329 : decode b_Mo_make 329 = .ok (.bipush 17, 2) := by decide +kernel
theorem d_Mo_make_331 : decode b_Mo_make 331 = .ok (.iload 8, 2) := by decide +kernel
theorem d_Mo_make_333 : decode b_Mo_make 333 = .ok (.imul, 1) := by decide +kernel
theorem d_Mo_make_334 : decode b_Mo_make 334 = .ok (.bipush 6, 2) := by decide +kernel
theorem d_Mo_make_336 : decode b_Mo_make 336 = .ok (.iadd, 1) := by decide +kernel
theorem d_Mo_make_337 : decode b_Mo_make 337 = .ok (.iload 5, 2) := by decide +kernel
theorem d_Mo_make_339 : decode b_Mo_make 339 = .ok (.iconst 3, 1) := by decide +kernel
theorem d_Mo_make_340 : decode b_Mo_make 340 = .ok (.if_icmp .ne 8, 3) := by decide +kernel
theorem d_Mo_make_343 : decode b_Mo_make 343 = .ok (.iload 6, 2) := by decide +kernel
theorem d_Mo_make_345 : decode b_Mo_make 345 = .ok (.goto 20, 3) := by decide +kernel
theorem d_Mo_make_348 : decode b_Mo_make 348 = .ok (.iload 5, 2) := by decide +kernel
theorem d_Mo_make_350 : decode b_Mo_make 350 = .ok (.iconst 2, 1) := by decide +kernel
theorem d_Mo_make_351 : decode b_Mo_make 351 = .ok (.if_icmp .ne 13, 3) := by decide +kernel
theorem d_Mo_make_354 : decode b_Mo_make 354 = .ok (.aload_n 0, 1) := by decide +kernel
theorem d_Mo_make_355 : decode b_Mo_make 355 = .ok (.iload_n 1, 1) := by decide +kernel
theorem d_Mo_make_356 : decode b_Mo_make 356 = .ok (.bipush 6, 2) := by decide +kernel
theorem d_Mo_make_358 : decode b_Mo_make 358 = .ok (.invokevirtual 32, 3) := by decide +kernel
theorem d_Mo_make_361 : decode b_Mo_make 361 = .ok (.goto 4, 3) := by decide +kernel
theorem d_Mo_make_364 : decode b_Mo_make 364 = .ok (.iconst 0, 1) := by decide +kernel
theorem d_Mo_make_365 : decode b_Mo_make 365 = .ok (.iastore, 1) := by decide +kernel
theorem d_Mo_make_366 : decode b_Mo_make 366 = .ok (.iload 8, 2) := by decide +kernel
theorem d_Mo_make_368 : decode b_Mo_make 368 = .ok (.ireturn, 1) := by decide +kernel
theorem d_Mo_makeContainer_0 : decode b_Mo_makeContainer 0 = .ok (.aload_n 0, 1) := by decide +kernel
theorem d_Mo_makeContainer_1 : decode b_Mo_makeContainer 1 = .ok (.iload_n 3, 1) := by decide +kernel
theorem d_Mo_makeContainer_2 : decode b_Mo_makeContainer 2 = .ok (.invokevirtual 54, 3) := by decide +kernel
theorem d_Mo_makeContainer_5 : decode b_Mo_makeContainer 5 = .ok (.ifCond .eq 23, 3) := by decide +kernel
theorem d_Mo_makeContainer_8 : decode b_Mo_makeContainer 8 = .ok (.iload 4, 2) := by decide +kernel
theorem d_Mo_makeContainer_10 : decode b_Mo_makeContainer 10 = .ok (.iconst 1, 1) := by decide +kernel
theorem d_Mo_makeContainer_11 : decode b_Mo_makeContainer 11 = .ok (.sipush 200, 3) := by decide +kernel
theorem d_Mo_makeContainer_14 : decode b_Mo_makeContainer 14 = .ok (.invokestatic 28, 3) := by decide +kernel
theorem d_Mo_makeContainer_17 : decode b_Mo_makeContainer 17 = .ok (.ifCond .eq 11, 3) := by decide +kernel
theorem d_Mo_makeContainer_20 : decode b_Mo_makeContainer 20 = .ok (.aload_n 0, 1) := by decide +kernel
theorem d_Mo_makeContainer_21 : decode b_Mo_makeContainer 21 = .ok (.iload_n 3, 1) := by decide +kernel
theorem d_Mo_makeContainer_22 : decode b_Mo_makeContainer 22 = .ok (.invokevirtual 81, 3) := by decide +kernel
theorem d_Mo_makeContainer_25 : decode b_Mo_makeContainer 25 = .ok (.ifCond .ne 9, 3) := by decide +kernel
theorem d_Mo_makeContainer_28 : decode b_Mo_makeContainer 28 = .ok (.aload_n 0, 1) := by decide +kernel
theorem d_Mo_makeContainer_29 : decode b_Mo_makeContainer 29 = .ok (.iconst 1, 1) := by decide +kernel
theorem d_Mo_makeContainer_30 : decode b_Mo_makeContainer 30 = .ok (.invokevirtual 51, 3) := by decide +kernel
theorem d_Mo_makeContainer_33 : decode b_Mo_makeContainer 33 = .ok (.ireturn, 1) := by decide +kernel
theorem d_Mo_makeContainer_34 : decode b_Mo_makeContainer 34 = .ok (.aload_n 0, 1) := by decide +kernel
theorem d_Mo_makeContainer_35 : decode b_Mo_makeContainer 35 = .ok (.iload_n 1, 1) := by decide +kernel
theorem d_Mo_makeContainer_36 : decode b_Mo_makeContainer 36 = .ok (.iload_n 2, 1) := by decide +kernel
theorem d_Mo_makeContainer_37 : decode b_Mo_makeContainer 37 = .ok (.iload_n 3, 1) := by decide +kernel
theorem d_Mo_makeContainer_38 : decode b_Mo_makeContainer 38 = .ok (.iload 4, 2) := by decide +kernel
theorem d_Mo_makeContainer_40 : decode b_Mo_makeContainer 40 = .ok (.iconst 0, 1) := by decide +kernel
theorem d_Mo_makeContainer_41 : decode b_Mo_makeContainer 41 = .ok (.iconst 0, 1) := by decide +kernel
theorem d_Mo_makeContainer_42 : decode b_Mo_makeContainer 42 = .ok (.invokevirtual 84, 3) := by decide +kernel
theorem d_Mo_makeContainer_45 : decode b_Mo_makeContainer 45 = .ok (.ireturn, 1) := by decide +kernel
theorem d_Mo_container_0 : decode b_Mo_container 0 = .ok (.aload_n 0, 1) := by decide +kernel
theorem d_Mo_container_1 : decode b_Mo_container 1 = .ok (.iconst 0, 1) := by decide +kernel
theorem d_Mo_container_2 : decode b_Mo_container 2 = .ok (.putfield 16, 3) := by decide +kernel
theorem d_Mo_container_5 : decode b_Mo_container 5 = .ok (.aload_n 0, 1) := by decide +kernel
theorem d_Mo_container_6 : decode b_Mo_container 6 = .ok (.iload_n 1, 1) := by decide +kernel
theorem d_Mo_container_7 : decode b_Mo_container 7 = .ok (.iload_n 2, 1) := by decide +kernel
theorem d_Mo_container_8 : decode b_Mo_container 8 = .ok (.iload_n 3, 1) := by decide +kernel
theorem d_Mo_container_9 : decode b_Mo_container 9 = .ok (.iload 4, 2) := by decide +kernel
theorem d_Mo_container_11 : decode b_Mo_container 11 = .ok (.invokevirtual 88, 3) := by decide +kernel
theorem d_Mo_container_14 : decode b_Mo_container 14 = .ok (.ireturn, 1) := by decide +kernel
theorem d_Mo_makeSegment_0 : decode b_Mo_makeSegment 0 = .ok (.aload_n 0, 1) := by decide +kernel
theorem d_Mo_makeSegment_1 : decode b_Mo_makeSegment 1 = .ok (.iload_n 3, 1) := by decide +kernel
theorem d_Mo_makeSegment_2 : decode b_Mo_makeSegment 2 = .ok (.invokevirtual 54, 3) := by decide +kernel
theorem d_Mo_makeSegment_5 : decode b_Mo_makeSegment 5 = .ok (.ifCond .eq 22, 3) := by decide +kernel
theorem d_Mo_makeSegment_8 : decode b_Mo_makeSegment 8 = .ok (.iload 4, 2) := by decide +kernel
theorem d_Mo_makeSegment_10 : decode b_Mo_makeSegment 10 = .ok (.iconst 1, 1) := by decide +kernel
theorem d_Mo_makeSegment_11 : decode b_Mo_makeSegment 11 = .ok (.bipush 8, 2) := by decide +kernel
theorem d_Mo_makeSegment_13 : decode b_Mo_makeSegment 13 = .ok (.invokestatic 28, 3) := by decide +kernel
theorem d_Mo_makeSegment_16 : decode b_Mo_makeSegment 16 = .ok (.ifCond .eq 11, 3) := by decide +kernel
theorem d_Mo_makeSegment_19 : decode b_Mo_makeSegment 19 = .ok (.aload_n 0, 1) := by decide +kernel
theorem d_Mo_makeSegment_20 : decode b_Mo_makeSegment 20 = .ok (.iload_n 3, 1) := by decide +kernel
theorem d_Mo_makeSegment_21 : decode b_Mo_makeSegment 21 = .ok (.invokevirtual 81, 3) := by decide +kernel
theorem d_Mo_makeSegment_24 : decode b_Mo_makeSegment 24 = .ok (.ifCond .ne 9, 3) := by decide +kernel
theorem d_Mo_makeSegment_27 : decode b_Mo_makeSegment 27 = .ok (.aload_n 0, 1) := by decide +kernel
theorem d_Mo_makeSegment_28 : decode b_Mo_makeSegment 28 = .ok (.iconst 1, 1) := by decide +kernel
theorem d_Mo_makeSegment_29 : decode b_Mo_makeSegment 29 = .ok (.invokevirtual 51, 3) := by decide +kernel
theorem d_Mo_makeSegment_32 : decode b_Mo_makeSegment 32 = .ok (.ireturn, 1) := by decide +kernel
theorem d_Mo_makeSegment_33 : decode b_Mo_makeSegment 33 = .ok (.aload_n 0, 1) := by decide +kernel
theorem d_Mo_makeSegment_34 : decode b_Mo_makeSegment 34 = .ok (.iload_n 1, 1) := by decide +kernel
theorem d_Mo_makeSegment_35 : decode b_Mo_makeSegment 35 = .ok (.iload_n 2, 1) := by decide +kernel
theorem d_Mo_makeSegment_36 : decode b_Mo_makeSegment 36 = .ok (.iload_n 3, 1) := by decide +kernel
theorem d_Mo_makeSegment_37 : decode b_Mo_makeSegment 37 = .ok (.iconst 1, 1) := by decide +kernel
theorem d_Mo_makeSegment_38 : decode b_Mo_makeSegment 38 = .ok (.iload 4, 2) := by decide +kernel
theorem d_Mo_makeSegment_40 : decode b_Mo_makeSegment 40 = .ok (.iadd, 1) := by decide +kernel
theorem d_Mo_makeSegment_41 : decode b_Mo_makeSegment 41 = .ok (.iconst 1, 1) := by decide +kernel
theorem d_Mo_makeSegment_42 : decode b_Mo_makeSegment 42 = .ok (.iconst 0, 1) := by decide +kernel
theorem d_Mo_makeSegment_43 : decode b_Mo_makeSegment 43 = .ok (.invokevirtual 84, 3) := by decide +kernel
theorem d_Mo_makeSegment_46 : decode b_Mo_makeSegment 46 = .ok (.istore 5, 2) := by decide +kernel
theorem d_Mo_makeSegment_48 : decode b_Mo_makeSegment 48 = .ok (.iload 5, 2) := by decide +kernel
theorem d_Mo_makeSegment_50 : decode b_Mo_makeSegment 50 = .ok (.ifCond .le 18, 3) := by decide +kernel
theorem d_Mo_makeSegment_53 : decode b_Mo_makeSegment 53 = .ok (.aload_n 0, 1) := by decide +kernel
theorem d_Mo_makeSegment_54 : decode b_Mo_makeSegment 54 = .ok (.getfield 7, 3) := by decide +kernel
theorem d_Mo_makeSegment_57 : decode b_Mo_makeSegment 57 = .ok (.bipush 17, 2) := by decide +kernel
theorem d_Mo_makeSegment_59 : decode b_Mo_makeSegment 59 = .ok (.iload 5, 2) := by decide +kernel
theorem d_Mo_makeSegment_61 : decode b_Mo_makeSegment 61 = .ok (.imul, 1) := by decide +kernel
theorem d_Mo_makeSegment_62 : decode b_Mo_makeSegment 62 = .ok (.bipush 8, 2) := by decide +kernel
theorem d_Mo_makeSegment_64 : decode b_Mo_makeSegment 64 = .ok (.iadd, 1) := by decide +kernel
theorem d_Mo_makeSegment_65 : decode b_Mo_makeSegment 65 = .ok (.iload 4, 2) := by decide +kernel
theorem d_Mo_makeSegment_67 : decode b_Mo_makeSegment 67 = .ok (.iastore, 1) := by decide +kernel
theorem d_Mo_makeSegment_68 : decode b_Mo_makeSegment 68 = .ok (.iload 5, 2) := by decide +kernel
theorem d_Mo_makeSegment_70 : decode b_Mo_makeSegment 70 = .ok (.ireturn, 1) := by decide +kernel
theorem d_Mo_segment_0 : decode b_Mo_segment 0 = .ok (.aload_n 0, 1) := by decide +kernel
theorem d_Mo_segment_1 : decode b_Mo_segment 1 = .ok (.iconst 0, 1) := by decide +kernel
theorem d_Mo_segment_2 : decode b_Mo_segment 2 = .ok (.putfield 16, 3) := by decide +kernel
theorem d_Mo_segment_5 : decode b_Mo_segment 5 = .ok (.aload_n 0, 1) := by decide +kernel
theorem d_Mo_segment_6 : decode b_Mo_segment 6 = .ok (.iload_n 1, 1) := by decide +kernel
theorem d_Mo_segment_7 : decode b_Mo_segment 7 = .ok (.iload_n 2, 1) := by decide +kernel
theorem d_Mo_segment_8 : decode b_Mo_segment 8 = .ok (.iload_n 3, 1) := by decide +kernel
theorem d_Mo_segment_9 : decode b_Mo_segment 9 = .ok (.iload 4, 2) := by decide +kernel
theorem d_Mo_segment_11 : decode b_Mo_segment 11 = .ok (.invokevirtual 92, 3) := by decide +kernel
theorem d_Mo_segment_14 : decode b_Mo_segment 14 = .ok (.ireturn, 1) := by decide +kernel
theorem d_Mo_makeGate_0 : decode b_Mo_makeGate 0 = .ok (.aload_n 0, 1) := by decide +kernel
theorem d_Mo_makeGate_1 : decode b_Mo_makeGate 1 = .ok (.iload_n 3, 1) := by decide +kernel
theorem d_Mo_makeGate_2 : decode b_Mo_makeGate 2 = .ok (.invokevirtual 54, 3) := by decide +kernel
theorem d_Mo_makeGate_5 : decode b_Mo_makeGate 5 = .ok (.ifCond .eq 21, 3) := by decide +kernel
theorem d_Mo_makeGate_8 : decode b_Mo_makeGate 8 = .ok (.aload_n 0, 1) := by decide +kernel
theorem d_Mo_makeGate_9 : decode b_Mo_makeGate 9 = .ok (.iload 4, 2) := by decide +kernel
theorem d_Mo_makeGate_11 : decode b_Mo_makeGate 11 = .ok (.invokevirtual 54, 3) := by decide +kernel
theorem d_Mo_makeGate_14 : decode b_Mo_makeGate 14 = .ok (.ifCond .eq 12, 3) := by decide +kernel
theorem d_Mo_makeGate_17 : decode b_Mo_makeGate 17 = .ok (.aload_n 0, 1) := by decide +kernel
theorem d_Mo_makeGate_18 : decode b_Mo_makeGate 18 = .ok (.iload 4, 2) := by decide +kernel
theorem d_Mo_makeGate_20 : decode b_Mo_makeGate 20 = .ok (.invokevirtual 81, 3) := by decide +kernel
theorem d_Mo_makeGate_23 : decode b_Mo_makeGate 23 = .ok (.ifCond .ne 9, 3) := by decide +kernel
theorem d_Mo_makeGate_26 : decode b_Mo_makeGate 26 = .ok (.aload_n 0, 1) := by decide +kernel
theorem d_Mo_makeGate_27 : decode b_Mo_makeGate 27 = .ok (.iconst 1, 1) := by decide +kernel
theorem d_Mo_makeGate_28 : decode b_Mo_makeGate 28 = .ok (.invokevirtual 51, 3) := by decide +kernel
theorem d_Mo_makeGate_31 : decode b_Mo_makeGate 31 = .ok (.ireturn, 1) := by decide +kernel
theorem d_Mo_makeGate_32 : decode b_Mo_makeGate 32 = .ok (.aload_n 0, 1) := by decide +kernel
theorem d_Mo_makeGate_33 : decode b_Mo_makeGate 33 = .ok (.iload_n 1, 1) := by decide +kernel
theorem d_Mo_makeGate_34 : decode b_Mo_makeGate 34 = .ok (.iload_n 2, 1) := by decide +kernel
theorem d_Mo_makeGate_35 : decode b_Mo_makeGate 35 = .ok (.iload_n 3, 1) := by decide +kernel
theorem d_Mo_makeGate_36 : decode b_Mo_makeGate 36 = .ok (.iconst 2, 1) := by decide +kernel
theorem d_Mo_makeGate_37 : decode b_Mo_makeGate 37 = .ok (.iconst 2, 1) := by decide +kernel
theorem d_Mo_makeGate_38 : decode b_Mo_makeGate 38 = .ok (.iconst 0, 1) := by decide +kernel
theorem d_Mo_makeGate_39 : decode b_Mo_makeGate 39 = .ok (.invokevirtual 84, 3) := by decide +kernel
theorem d_Mo_makeGate_42 : decode b_Mo_makeGate 42 = .ok (.istore 6, 2) := by decide +kernel
theorem d_Mo_makeGate_44 : decode b_Mo_makeGate 44 = .ok (.iload 6, 2) := by decide +kernel
theorem d_Mo_makeGate_46 : decode b_Mo_makeGate 46 = .ok (.ifCond .ne 5, 3) := by decide +kernel
theorem d_Mo_makeGate_49 : decode b_Mo_makeGate 49 = .ok (.iconst 0, 1) := by decide +kernel
theorem d_Mo_makeGate_50 : decode b_Mo_makeGate 50 = .ok (.ireturn, 1) := by decide +kernel
theorem d_Mo_makeGate_51 : decode b_Mo_makeGate 51 = .ok (.aload_n 0, 1) := by decide +kernel
theorem d_Mo_makeGate_52 : decode b_Mo_makeGate 52 = .ok (.getfield 7, 3) := by decide +kernel
theorem d_Mo_makeGate_55 : decode b_Mo_makeGate 55 = .ok (.bipush 17, 2) := by decide +kernel
theorem d_Mo_makeGate_57 : decode b_Mo_makeGate 57 = .ok (.iload 6, 2) := by decide +kernel
theorem d_Mo_makeGate_59 : decode b_Mo_makeGate 59 = .ok (.imul, 1) := by decide +kernel
theorem d_Mo_makeGate_60 : decode b_Mo_makeGate 60 = .ok (.iconst 5, 1) := by decide +kernel
theorem d_Mo_makeGate_61 : decode b_Mo_makeGate 61 = .ok (.iadd, 1) := by decide +kernel
theorem d_Mo_makeGate_62 : decode b_Mo_makeGate 62 = .ok (.iload 4, 2) := by decide +kernel
theorem d_Mo_makeGate_64 : decode b_Mo_makeGate 64 = .ok (.iastore, 1) := by decide +kernel
theorem d_Mo_makeGate_65 : decode b_Mo_makeGate 65 = .ok (.aload_n 0, 1) := by decide +kernel
theorem d_Mo_makeGate_66 : decode b_Mo_makeGate 66 = .ok (.getfield 7, 3) := by decide +kernel
theorem d_Mo_makeGate_69 : decode b_Mo_makeGate 69 = .ok (.bipush 17, 2) := by decide +kernel
theorem d_Mo_makeGate_71 : decode b_Mo_makeGate 71 = .ok (.iload 6, 2) := by decide +kernel
theorem d_Mo_makeGate_73 : decode b_Mo_makeGate 73 = .ok (.imul, 1) := by decide +kernel
theorem d_Mo_makeGate_74 : decode b_Mo_makeGate 74 = .ok (.bipush 7, 2) := by decide +kernel
theorem d_Mo_makeGate_76 : decode b_Mo_makeGate 76 = .ok (.iadd, 1) := by decide +kernel
theorem d_Mo_makeGate_77 : decode b_Mo_makeGate 77 = .ok (.iload 5, 2) := by decide +kernel
theorem d_Mo_makeGate_79 : decode b_Mo_makeGate 79 = .ok (.iastore, 1) := by decide +kernel
theorem d_Mo_makeGate_80 : decode b_Mo_makeGate 80 = .ok (.iload 6, 2) := by decide +kernel
theorem d_Mo_makeGate_82 : decode b_Mo_makeGate 82 = .ok (.ireturn, 1) := by decide +kernel
theorem d_Mo_gate_0 : decode b_Mo_gate 0 = .ok (.aload_n 0, 1) := by decide +kernel
theorem d_Mo_gate_1 : decode b_Mo_gate 1 = .ok (.iconst 0, 1) := by decide +kernel
theorem d_Mo_gate_2 : decode b_Mo_gate 2 = .ok (.putfield 16, 3) := by decide +kernel
theorem d_Mo_gate_5 : decode b_Mo_gate 5 = .ok (.aload_n 0, 1) := by decide +kernel
theorem d_Mo_gate_6 : decode b_Mo_gate 6 = .ok (.iload_n 1, 1) := by decide +kernel
theorem d_Mo_gate_7 : decode b_Mo_gate 7 = .ok (.iload_n 2, 1) := by decide +kernel
theorem d_Mo_gate_8 : decode b_Mo_gate 8 = .ok (.iload_n 3, 1) := by decide +kernel
theorem d_Mo_gate_9 : decode b_Mo_gate 9 = .ok (.iload 4, 2) := by decide +kernel
theorem d_Mo_gate_11 : decode b_Mo_gate 11 = .ok (.iload 5, 2) := by decide +kernel
theorem d_Mo_gate_13 : decode b_Mo_gate 13 = .ok (.invokevirtual 95, 3) := by decide +kernel
theorem d_Mo_gate_16 : decode b_Mo_gate 16 = .ok (.ireturn, 1) := by decide +kernel
theorem d_Mo_thread_0 : decode b_Mo_thread 0 = .ok (.aload_n 0, 1) := by decide +kernel
theorem d_Mo_thread_1 : decode b_Mo_thread 1 = .ok (.iconst 0, 1) := by decide +kernel
theorem d_Mo_thread_2 : decode b_Mo_thread 2 = .ok (.putfield 16, 3) := by decide +kernel
theorem d_Mo_thread_5 : decode b_Mo_thread 5 = .ok (.aload_n 0, 1) := by decide +kernel
theorem d_Mo_thread_6 : decode b_Mo_thread 6 = .ok (.iload_n 3, 1) := by decide +kernel
theorem d_Mo_thread_7 : decode b_Mo_thread 7 = .ok (.invokevirtual 54, 3) := by decide +kernel
theorem d_Mo_thread_10 : decode b_Mo_thread 10 = .ok (.ifCond .eq 21, 3) := by decide +kernel
theorem d_Mo_thread_13 : decode b_Mo_thread 13 = .ok (.aload_n 0, 1) := by decide +kernel
theorem d_Mo_thread_14 : decode b_Mo_thread 14 = .ok (.iload 4, 2) := by decide +kernel
theorem d_Mo_thread_16 : decode b_Mo_thread 16 = .ok (.invokevirtual 54, 3) := by decide +kernel
theorem d_Mo_thread_19 : decode b_Mo_thread 19 = .ok (.ifCond .eq 12, 3) := by decide +kernel
theorem d_Mo_thread_22 : decode b_Mo_thread 22 = .ok (.aload_n 0, 1) := by decide +kernel
theorem d_Mo_thread_23 : decode b_Mo_thread 23 = .ok (.iload 4, 2) := by decide +kernel
theorem d_Mo_thread_25 : decode b_Mo_thread 25 = .ok (.invokevirtual 81, 3) := by decide +kernel
theorem d_Mo_thread_28 : decode b_Mo_thread 28 = .ok (.ifCond .ne 9, 3) := by decide +kernel
theorem d_Mo_thread_31 : decode b_Mo_thread 31 = .ok (.aload_n 0, 1) := by decide +kernel
theorem d_Mo_thread_32 : decode b_Mo_thread 32 = .ok (.iconst 1, 1) := by decide +kernel
theorem d_Mo_thread_33 : decode b_Mo_thread 33 = .ok (.invokevirtual 51, 3) := by decide +kernel
theorem d_Mo_thread_36 : decode b_Mo_thread 36 = .ok (.ireturn, 1) := by decide +kernel
theorem d_Mo_thread_37 : decode b_Mo_thread 37 = .ok (.aload_n 0, 1) := by decide +kernel
theorem d_Mo_thread_38 : decode b_Mo_thread 38 = .ok (.iload_n 1, 1) := by decide +kernel
theorem d_Mo_thread_39 : decode b_Mo_thread 39 = .ok (.iload_n 2, 1) := by decide +kernel
theorem d_Mo_thread_40 : decode b_Mo_thread 40 = .ok (.iload_n 3, 1) := by decide +kernel
theorem d_Mo_thread_41 : decode b_Mo_thread 41 = .ok (.iconst 2, 1) := by decide +kernel
theorem d_Mo_thread_42 : decode b_Mo_thread 42 = .ok (.iconst 3, 1) := by decide +kernel
theorem d_Mo_thread_43 : decode b_Mo_thread 43 = .ok (.iload 4, 2) := by decide +kernel
theorem d_Mo_thread_45 : decode b_Mo_thread 45 = .ok (.invokevirtual 84, 3) := by decide +kernel
theorem d_Mo_thread_48 : decode b_Mo_thread 48 = .ok (.ireturn, 1) := by decide +kernel
theorem d_Mo_named_0 : decode b_Mo_named 0 = .ok (.aload_n 0, 1) := by decide +kernel
theorem d_Mo_named_1 : decode b_Mo_named 1 = .ok (.iload_n 1, 1) := by decide +kernel
theorem d_Mo_named_2 : decode b_Mo_named 2 = .ok (.invokevirtual 43, 3) := by decide +kernel
theorem d_Mo_named_5 : decode b_Mo_named 5 = .ok (.ifCond .eq 19, 3) := by decide +kernel
theorem d_Mo_named_8 : decode b_Mo_named 8 = .ok (.aload_n 0, 1) := by decide +kernel
theorem d_Mo_named_9 : decode b_Mo_named 9 = .ok (.iload_n 2, 1) := by decide +kernel
theorem d_Mo_named_10 : decode b_Mo_named 10 = .ok (.invokevirtual 43, 3) := by decide +kernel
theorem d_Mo_named_13 : decode b_Mo_named 13 = .ok (.ifCond .eq 11, 3) := by decide +kernel
theorem d_Mo_named_16 : decode b_Mo_named 16 = .ok (.aload_n 0, 1) := by decide +kernel
theorem d_Mo_named_17 : decode b_Mo_named 17 = .ok (.iload_n 3, 1) := by decide +kernel
theorem d_Mo_named_18 : decode b_Mo_named 18 = .ok (.invokevirtual 43, 3) := by decide +kernel
theorem d_Mo_named_21 : decode b_Mo_named 21 = .ok (.ifCond .ne 11, 3) := by decide +kernel
theorem d_Mo_named_24 : decode b_Mo_named 24 = .ok (.aload_n 0, 1) := by decide +kernel
theorem d_Mo_named_25 : decode b_Mo_named 25 = .ok (.iconst 2, 1) := by decide +kernel
theorem d_Mo_named_26 : decode b_Mo_named 26 = .ok (.putfield 16, 3) := by decide +kernel
theorem d_Mo_named_29 : decode b_Mo_named 29 = .ok (.goto 61, 3) := by decide +kernel
theorem d_Mo_named_32 : decode b_Mo_named 32 = .ok (.aload_n 0, 1) := by decide +kernel
theorem d_Mo_named_33 : decode b_Mo_named 33 = .ok (.iload_n 1, 1) := by decide +kernel
theorem d_Mo_named_34 : decode b_Mo_named 34 = .ok (.iconst 1, 1) := by decide +kernel
theorem d_Mo_named_35 : decode b_Mo_named 35 = .ok (.invokevirtual 32, 3) := by decide +kernel
theorem d_Mo_named_38 : decode b_Mo_named 38 = .ok (.iconst 3, 1) := by decide +kernel
theorem d_Mo_named_39 : decode b_Mo_named 39 = .ok (.if_icmp .ne 28, 3) := by decide +kernel
theorem d_Mo_named_42 : decode b_Mo_named 42 = .ok (.aload_n 0, 1) := by decide +kernel
theorem d_Mo_named_43 : decode b_Mo_named 43 = .ok (.iload_n 2, 1) := by decide +kernel
theorem d_Mo_named_44 : decode b_Mo_named 44 = .ok (.iconst 1, 1) := by decide +kernel
theorem d_Mo_named_45 : decode b_Mo_named 45 = .ok (.invokevirtual 32, 3) := by decide +kernel
theorem d_Mo_named_48 : decode b_Mo_named 48 = .ok (.ifCond .ne 19, 3) := by decide +kernel
theorem d_Mo_named_51 : decode b_Mo_named 51 = .ok (.iload 4, 2) := by decide +kernel
theorem d_Mo_named_53 : decode b_Mo_named 53 = .ok (.ifCond .lt 22, 3) := by decide +kernel
theorem d_Mo_named_56 : decode b_Mo_named 56 = .ok (.aload_n 0, 1) := by decide +kernel
theorem d_Mo_named_57 : decode b_Mo_named 57 = .ok (.iload_n 3, 1) := by decide +kernel
theorem d_Mo_named_58 : decode b_Mo_named 58 = .ok (.iconst 1, 1) := by decide +kernel
theorem d_Mo_named_59 : decode b_Mo_named 59 = .ok (.invokevirtual 32, 3) := by decide +kernel
theorem d_Mo_named_62 : decode b_Mo_named 62 = .ok (.iload 4, 2) := by decide +kernel
theorem d_Mo_named_64 : decode b_Mo_named 64 = .ok (.if_icmp .eq 11, 3) := by decide +kernel
theorem d_Mo_named_67 : decode b_Mo_named 67 = .ok (.aload_n 0, 1) := by decide +kernel
theorem d_Mo_named_68 : decode b_Mo_named 68 = .ok (.iconst 1, 1) := by decide +kernel
theorem d_Mo_named_69 : decode b_Mo_named 69 = .ok (.putfield 16, 3) := by decide +kernel
theorem d_Mo_named_72 : decode b_Mo_named 72 = .ok (.goto 18, 3) := by decide +kernel
theorem d_Mo_named_75 : decode b_Mo_named 75 = .ok (.aload_n 0, 1) := by decide +kernel
theorem d_Mo_named_76 : decode b_Mo_named 76 = .ok (.iload_n 3, 1) := by decide +kernel
theorem d_Mo_named_77 : decode b_Mo_named 77 = .ok (.iconst 4, 1) := by decide +kernel
theorem d_Mo_named_78 : decode b_Mo_named 78 = .ok (.invokevirtual 32, 3) := by decide +kernel
theorem d_Mo_named_81 : decode b_Mo_named 81 = .ok (.iload_n 2, 1) := by decide +kernel
theorem d_Mo_named_82 : decode b_Mo_named 82 = .ok (.if_icmp .eq 8, 3) := by decide +kernel
theorem d_Mo_named_85 : decode b_Mo_named 85 = .ok (.aload_n 0, 1) := by decide +kernel
theorem d_Mo_named_86 : decode b_Mo_named 86 = .ok (.iconst 2, 1) := by decide +kernel
theorem d_Mo_named_87 : decode b_Mo_named 87 = .ok (.putfield 16, 3) := by decide +kernel
theorem d_Mo_named_90 : decode b_Mo_named 90 = .ok (.aload_n 0, 1) := by decide +kernel
theorem d_Mo_named_91 : decode b_Mo_named 91 = .ok (.getfield 16, 3) := by decide +kernel
theorem d_Mo_named_94 : decode b_Mo_named 94 = .ok (.ifCond .ne 7, 3) := by decide +kernel
theorem d_Mo_named_97 : decode b_Mo_named 97 = .ok (.iconst 1, 1) := by decide +kernel
theorem d_Mo_named_98 : decode b_Mo_named 98 = .ok (.goto 4, 3) := by decide +kernel
theorem d_Mo_named_101 : decode b_Mo_named 101 = .ok (.iconst 0, 1) := by decide +kernel
theorem d_Mo_named_102 : decode b_Mo_named 102 = .ok (.ireturn, 1) := by decide +kernel
theorem d_Mo_cell_0 : decode b_Mo_cell 0 = .ok (.iload 4, 2) := by decide +kernel
theorem d_Mo_cell_2 : decode b_Mo_cell 2 = .ok (.iconst 0, 1) := by decide +kernel
theorem d_Mo_cell_3 : decode b_Mo_cell 3 = .ok (.bipush 7, 2) := by decide +kernel
theorem d_Mo_cell_5 : decode b_Mo_cell 5 = .ok (.invokestatic 28, 3) := by decide +kernel
theorem d_Mo_cell_8 : decode b_Mo_cell 8 = .ok (.ifCond .ne 9, 3) := by decide +kernel
theorem d_Mo_cell_11 : decode b_Mo_cell 11 = .ok (.aload_n 0, 1) := by decide +kernel
theorem d_Mo_cell_12 : decode b_Mo_cell 12 = .ok (.iconst 1, 1) := by decide +kernel
theorem d_Mo_cell_13 : decode b_Mo_cell 13 = .ok (.invokevirtual 51, 3) := by decide +kernel
theorem d_Mo_cell_16 : decode b_Mo_cell 16 = .ok (.ireturn, 1) := by decide +kernel
theorem d_Mo_cell_17 : decode b_Mo_cell 17 = .ok (.aload_n 0, 1) := by decide +kernel
theorem d_Mo_cell_18 : decode b_Mo_cell 18 = .ok (.iload_n 1, 1) := by decide +kernel
theorem d_Mo_cell_19 : decode b_Mo_cell 19 = .ok (.iload_n 2, 1) := by decide +kernel
theorem d_Mo_cell_20 : decode b_Mo_cell 20 = .ok (.iload_n 3, 1) := by decide +kernel
theorem d_Mo_cell_21 : decode b_Mo_cell 21 = .ok (.iconst 1, 1) := by decide +kernel
theorem d_Mo_cell_22 : decode b_Mo_cell 22 = .ok (.invokevirtual 99, 3) := by decide +kernel
theorem d_Mo_cell_25 : decode b_Mo_cell 25 = .ok (.ifCond .ne 5, 3) := by decide +kernel
theorem d_Mo_cell_28 : decode b_Mo_cell 28 = .ok (.iconst 0, 1) := by decide +kernel
theorem d_Mo_cell_29 : decode b_Mo_cell 29 = .ok (.ireturn, 1) := by decide +kernel
theorem d_Mo_cell_30 : decode b_Mo_cell 30 = .ok (.iload 4, 2) := by decide +kernel
theorem d_Mo_cell_32 : decode b_Mo_cell 32 = .ok (.aload_n 0, 1) := by decide +kernel
theorem d_Mo_cell_33 : decode b_Mo_cell 33 = .ok (.iload_n 3, 1) := by decide +kernel
theorem d_Mo_cell_34 : decode b_Mo_cell 34 = .ok (.bipush 8, 2) := by decide +kernel
theorem d_Mo_cell_36 : decode b_Mo_cell 36 = .ok (.invokevirtual 32, 3) := by decide +kernel
theorem d_Mo_cell_39 : decode b_Mo_cell 39 = .ok (.if_icmp .lt 9, 3) := by decide +kernel
theorem d_Mo_cell_42 : decode b_Mo_cell 42 = .ok (.aload_n 0, 1) := by decide +kernel
theorem d_Mo_cell_43 : decode b_Mo_cell 43 = .ok (.iconst 2, 1) := by decide +kernel
theorem d_Mo_cell_44 : decode b_Mo_cell 44 = .ok (.invokevirtual 51, 3) := by decide +kernel
theorem d_Mo_cell_47 : decode b_Mo_cell 47 = .ok (.ireturn, 1) := by decide +kernel
theorem d_Mo_cell_48 : decode b_Mo_cell 48 = .ok (.aload_n 0, 1) := by decide +kernel
theorem d_Mo_cell_49 : decode b_Mo_cell 49 = .ok (.iload_n 1, 1) := by decide +kernel
theorem d_Mo_cell_50 : decode b_Mo_cell 50 = .ok (.iload_n 2, 1) := by decide +kernel
theorem d_Mo_cell_51 : decode b_Mo_cell 51 = .ok (.invokevirtual 39, 3) := by decide +kernel
theorem d_Mo_cell_54 : decode b_Mo_cell 54 = .ok (.ifCond .eq 29, 3) := by decide +kernel
theorem d_Mo_cell_57 : decode b_Mo_cell 57 = .ok (.iload 5, 2) := by decide +kernel
theorem d_Mo_cell_59 : decode b_Mo_cell 59 = .ok (.ifCond .eq 15, 3) := by decide +kernel
theorem d_Mo_cell_62 : decode b_Mo_cell 62 = .ok (.aload_n 0, 1) := by decide +kernel
theorem d_Mo_cell_63 : decode b_Mo_cell 63 = .ok (.iload_n 1, 1) := by decide +kernel
theorem d_Mo_cell_64 : decode b_Mo_cell 64 = .ok (.iload_n 3, 1) := by decide +kernel
theorem d_Mo_cell_65 : decode b_Mo_cell 65 = .ok (.invokevirtual 69, 3) := by decide +kernel
theorem d_Mo_cell_68 : decode b_Mo_cell 68 = .ok (.ifCond .eq 15, 3) := by decide +kernel
theorem d_Mo_cell_71 : decode b_Mo_cell 71 = .ok (.goto 18, 3) := by decide +kernel
theorem d_Mo_cell_74 : decode b_Mo_cell 74 = .ok (.aload_n 0, 1) := by decide +kernel
theorem d_Mo_cell_75 : decode b_Mo_cell 75 = .ok (.iload_n 1, 1) := by decide +kernel
theorem d_Mo_cell_76 : decode b_Mo_cell 76 = .ok (.iload_n 3, 1) := by decide +kernel
theorem d_Mo_cell_77 : decode b_Mo_cell 77 = .ok (.invokevirtual 39, 3) := by decide +kernel
theorem d_Mo_cell_80 : decode b_Mo_cell 80 = .ok (.ifCond .ne 9, 3) := by decide +kernel
theorem d_Mo_cell_83 : decode b_Mo_cell 83 = .ok (.aload_n 0, 1) := by decide +kernel
theorem d_Mo_cell_84 : decode b_Mo_cell 84 = .ok (.iconst 3, 1) := by decide +kernel
theorem d_Mo_cell_85 : decode b_Mo_cell 85 = .ok (.invokevirtual 51, 3) := by decide +kernel
theorem d_Mo_cell_88 : decode b_Mo_cell 88 = .ok (.ireturn, 1) := by decide +kernel
theorem d_Mo_cell_89 : decode b_Mo_cell 89 = .ok (.bipush 17, 2) := by decide +kernel
theorem d_Mo_cell_91 : decode b_Mo_cell 91 = .ok (.iload_n 3, 1) := by decide +kernel
theorem d_Mo_cell_92 : decode b_Mo_cell 92 = .ok (.imul, 1) := by decide +kernel
theorem d_Mo_cell_93 : decode b_Mo_cell 93 = .ok (.bipush 9, 2) := by decide +kernel
theorem d_Mo_cell_95 : decode b_Mo_cell 95 = .ok (.iadd, 1) := by decide +kernel
theorem d_Mo_cell_96 : decode b_Mo_cell 96 = .ok (.iload 4, 2) := by decide +kernel
theorem d_Mo_cell_98 : decode b_Mo_cell 98 = .ok (.iadd, 1) := by decide +kernel
theorem d_Mo_cell_99 : decode b_Mo_cell 99 = .ok (.istore 7, 2) := by decide +kernel
theorem d_Mo_cell_101 : decode b_Mo_cell 101 = .ok (.aload_n 0, 1) := by decide +kernel
theorem d_Mo_cell_102 : decode b_Mo_cell 102 = .ok (.getfield 7, 3) := by decide +kernel
theorem d_Mo_cell_105 : decode b_Mo_cell 105 = .ok (.iload 7, 2) := by decide +kernel
theorem d_Mo_cell_107 : decode b_Mo_cell 107 = .ok (.iaload, 1) := by decide +kernel
theorem d_Mo_cell_108 : decode b_Mo_cell 108 = .ok (.istore 8, 2) := by decide +kernel
theorem d_Mo_cell_110 : decode b_Mo_cell 110 = .ok (.iload 5, 2) := by decide +kernel
theorem d_Mo_cell_112 : decode b_Mo_cell 112 = .ok (.ifCond .eq 12, 3) := by decide +kernel
theorem d_Mo_cell_115 : decode b_Mo_cell 115 = .ok (.aload_n 0, 1) := by decide +kernel
theorem d_Mo_cell_116 : decode b_Mo_cell 116 = .ok (.getfield 7, 3) := by decide +kernel
theorem d_Mo_cell_119 : decode b_Mo_cell 119 = .ok (.iload 7, 2) := by decide +kernel
theorem d_Mo_cell_121 : decode b_Mo_cell 121 = .ok (.iload 6, 2) := by decide +kernel
theorem d_Mo_cell_123 : decode b_Mo_cell 123 = .ok (.iastore, 1) := by decide +kernel
theorem d_Mo_cell_124 : decode b_Mo_cell 124 = .ok (.iload 8, 2) := by decide +kernel
theorem d_Mo_cell_126 : decode b_Mo_cell 126 = .ok (.ireturn, 1) := by decide +kernel
theorem d_Mo_read_0 : decode b_Mo_read 0 = .ok (.aload_n 0, 1) := by decide +kernel
theorem d_Mo_read_1 : decode b_Mo_read 1 = .ok (.iconst 0, 1) := by decide +kernel
theorem d_Mo_read_2 : decode b_Mo_read 2 = .ok (.putfield 16, 3) := by decide +kernel
theorem d_Mo_read_5 : decode b_Mo_read 5 = .ok (.aload_n 0, 1) := by decide +kernel
theorem d_Mo_read_6 : decode b_Mo_read 6 = .ok (.iload_n 1, 1) := by decide +kernel
theorem d_Mo_read_7 : decode b_Mo_read 7 = .ok (.iload_n 2, 1) := by decide +kernel
theorem d_Mo_read_8 : decode b_Mo_read 8 = .ok (.iload_n 3, 1) := by decide +kernel
theorem d_Mo_read_9 : decode b_Mo_read 9 = .ok (.iload 4, 2) := by decide +kernel
theorem d_Mo_read_11 : decode b_Mo_read 11 = .ok (.iconst 0, 1) := by decide +kernel
theorem d_Mo_read_12 : decode b_Mo_read 12 = .ok (.iconst 0, 1) := by decide +kernel
theorem d_Mo_read_13 : decode b_Mo_read 13 = .ok (.invokevirtual 103, 3) := by decide +kernel
theorem d_Mo_read_16 : decode b_Mo_read 16 = .ok (.ireturn, 1) := by decide +kernel
theorem d_Mo_write_0 : decode b_Mo_write 0 = .ok (.aload_n 0, 1) := by decide +kernel
theorem d_Mo_write_1 : decode b_Mo_write 1 = .ok (.iconst 0, 1) := by decide +kernel
theorem d_Mo_write_2 : decode b_Mo_write 2 = .ok (.putfield 16, 3) := by decide +kernel
theorem d_Mo_write_5 : decode b_Mo_write 5 = .ok (.aload_n 0, 1) := by decide +kernel
theorem d_Mo_write_6 : decode b_Mo_write 6 = .ok (.iload_n 1, 1) := by decide +kernel
theorem d_Mo_write_7 : decode b_Mo_write 7 = .ok (.iload_n 2, 1) := by decide +kernel
theorem d_Mo_write_8 : decode b_Mo_write 8 = .ok (.iload_n 3, 1) := by decide +kernel
theorem d_Mo_write_9 : decode b_Mo_write 9 = .ok (.iload 4, 2) := by decide +kernel
theorem d_Mo_write_11 : decode b_Mo_write 11 = .ok (.iconst 1, 1) := by decide +kernel
theorem d_Mo_write_12 : decode b_Mo_write 12 = .ok (.iload 5, 2) := by decide +kernel
theorem d_Mo_write_14 : decode b_Mo_write 14 = .ok (.invokevirtual 103, 3) := by decide +kernel
theorem d_Mo_write_17 : decode b_Mo_write 17 = .ok (.ireturn, 1) := by decide +kernel
theorem d_Mo_move_0 : decode b_Mo_move 0 = .ok (.aload_n 0, 1) := by decide +kernel
theorem d_Mo_move_1 : decode b_Mo_move 1 = .ok (.iconst 0, 1) := by decide +kernel
theorem d_Mo_move_2 : decode b_Mo_move 2 = .ok (.putfield 16, 3) := by decide +kernel
theorem d_Mo_move_5 : decode b_Mo_move 5 = .ok (.iload 4, 2) := by decide +kernel
theorem d_Mo_move_7 : decode b_Mo_move 7 = .ok (.sipush (-200), 3) := by decide +kernel
theorem d_Mo_move_10 : decode b_Mo_move 10 = .ok (.sipush 200, 3) := by decide +kernel
theorem d_Mo_move_13 : decode b_Mo_move 13 = .ok (.invokestatic 28, 3) := by decide +kernel
theorem d_Mo_move_16 : decode b_Mo_move 16 = .ok (.ifCond .ne 9, 3) := by decide +kernel
theorem d_Mo_move_19 : decode b_Mo_move 19 = .ok (.aload_n 0, 1) := by decide +kernel
theorem d_Mo_move_20 : decode b_Mo_move 20 = .ok (.iconst 1, 1) := by decide +kernel
theorem d_Mo_move_21 : decode b_Mo_move 21 = .ok (.invokevirtual 51, 3) := by decide +kernel
theorem d_Mo_move_24 : decode b_Mo_move 24 = .ok (.ireturn, 1) := by decide +kernel
theorem d_Mo_move_25 : decode b_Mo_move 25 = .ok (.aload_n 0, 1) := by decide +kernel
theorem d_Mo_move_26 : decode b_Mo_move 26 = .ok (.iload_n 1, 1) := by decide +kernel
theorem d_Mo_move_27 : decode b_Mo_move 27 = .ok (.iload_n 2, 1) := by decide +kernel
theorem d_Mo_move_28 : decode b_Mo_move 28 = .ok (.iload_n 3, 1) := by decide +kernel
theorem d_Mo_move_29 : decode b_Mo_move 29 = .ok (.iconst (-1), 1) := by decide +kernel
theorem d_Mo_move_30 : decode b_Mo_move 30 = .ok (.invokevirtual 99, 3) := by decide +kernel
theorem d_Mo_move_33 : decode b_Mo_move 33 = .ok (.ifCond .ne 5, 3) := by decide +kernel
theorem d_Mo_move_36 : decode b_Mo_move 36 = .ok (.iconst 0, 1) := by decide +kernel
theorem d_Mo_move_37 : decode b_Mo_move 37 = .ok (.ireturn, 1) := by decide +kernel
theorem d_Mo_move_38 : decode b_Mo_move 38 = .ok (.aload_n 0, 1) := by decide +kernel
theorem d_Mo_move_39 : decode b_Mo_move 39 = .ok (.iload_n 1, 1) := by decide +kernel
theorem d_Mo_move_40 : decode b_Mo_move 40 = .ok (.iload_n 2, 1) := by decide +kernel
theorem d_Mo_move_41 : decode b_Mo_move 41 = .ok (.invokevirtual 69, 3) := by decide +kernel
theorem d_Mo_move_44 : decode b_Mo_move 44 = .ok (.ifCond .eq 12, 3) := by decide +kernel
theorem d_Mo_move_47 : decode b_Mo_move 47 = .ok (.aload_n 0, 1) := by decide +kernel
theorem d_Mo_move_48 : decode b_Mo_move 48 = .ok (.iload_n 1, 1) := by decide +kernel
theorem d_Mo_move_49 : decode b_Mo_move 49 = .ok (.iload_n 3, 1) := by decide +kernel
theorem d_Mo_move_50 : decode b_Mo_move 50 = .ok (.invokevirtual 69, 3) := by decide +kernel
theorem d_Mo_move_53 : decode b_Mo_move 53 = .ok (.ifCond .ne 9, 3) := by decide +kernel
theorem d_Mo_move_56 : decode b_Mo_move 56 = .ok (.aload_n 0, 1) := by decide +kernel
theorem d_Mo_move_57 : decode b_Mo_move 57 = .ok (.iconst 3, 1) := by decide +kernel
theorem d_Mo_move_58 : decode b_Mo_move 58 = .ok (.invokevirtual 51, 3) := by decide +kernel
theorem d_Mo_move_61 : decode b_Mo_move 61 = .ok (.ireturn, 1) := by decide +kernel
theorem d_Mo_move_62 : decode b_Mo_move 62 = .ok (.aload_n 0, 1) := by decide +kernel
theorem d_Mo_move_63 : decode b_Mo_move 63 = .ok (.iload_n 2, 1) := by decide +kernel
theorem d_Mo_move_64 : decode b_Mo_move 64 = .ok (.iconst 3, 1) := by decide +kernel
theorem d_Mo_move_65 : decode b_Mo_move 65 = .ok (.invokevirtual 32, 3) := by decide +kernel
theorem d_Mo_move_68 : decode b_Mo_move 68 = .ok (.aload_n 0, 1) := by decide +kernel
theorem d_Mo_move_69 : decode b_Mo_move 69 = .ok (.iload_n 2, 1) := by decide +kernel
theorem d_Mo_move_70 : decode b_Mo_move 70 = .ok (.invokevirtual 75, 3) := by decide +kernel
theorem d_Mo_move_73 : decode b_Mo_move 73 = .ok (.iload 4, 2) := by decide +kernel
theorem d_Mo_move_75 : decode b_Mo_move 75 = .ok (.iadd, 1) := by decide +kernel
theorem d_Mo_move_76 : decode b_Mo_move 76 = .ok (.if_icmp .lt 20, 3) := by decide +kernel
theorem d_Mo_move_79 : decode b_Mo_move 79 = .ok (.aload_n 0, 1) := by decide +kernel
theorem d_Mo_move_80 : decode b_Mo_move 80 = .ok (.iload_n 3, 1) := by decide +kernel
theorem d_Mo_move_81 : decode b_Mo_move 81 = .ok (.iconst 3, 1) := by decide +kernel
theorem d_Mo_move_82 : decode b_Mo_move 82 = .ok (.invokevirtual 32, 3) := by decide +kernel
theorem d_Mo_move_85 : decode b_Mo_move 85 = .ok (.iload 4, 2) := by decide +kernel
theorem d_Mo_move_87 : decode b_Mo_move 87 = .ok (.iadd, 1) := by decide +kernel
theorem d_Mo_move_88 : decode b_Mo_move 88 = .ok (.aload_n 0, 1) := by decide +kernel
theorem d_Mo_move_89 : decode b_Mo_move 89 = .ok (.iload_n 3, 1) := by decide +kernel
theorem d_Mo_move_90 : decode b_Mo_move 90 = .ok (.invokevirtual 75, 3) := by decide +kernel
theorem d_Mo_move_93 : decode b_Mo_move 93 = .ok (.if_icmp .ge 9, 3) := by decide +kernel
theorem d_Mo_move_96 : decode b_Mo_move 96 = .ok (.aload_n 0, 1) := by decide +kernel
theorem d_Mo_move_97 : decode b_Mo_move 97 = .ok (.iconst 4, 1) := by decide +kernel
theorem d_Mo_move_98 : decode b_Mo_move 98 = .ok (.invokevirtual 51, 3) := by decide +kernel
theorem d_Mo_move_101 : decode b_Mo_move 101 = .ok (.ireturn, 1) := by decide +kernel
theorem d_Mo_move_102 : decode b_Mo_move 102 = .ok (.aload_n 0, 1) := by decide +kernel
theorem d_Mo_move_103 : decode b_Mo_move 103 = .ok (.getfield 7, 3) := by decide +kernel
theorem d_Mo_move_106 : decode b_Mo_move 106 = .ok (.bipush 17, 2) := by decide +kernel
theorem d_Mo_move_108 : decode b_Mo_move 108 = .ok (.iload_n 3, 1) := by decide +kernel
theorem d_Mo_move_109 : decode b_Mo_move 109 = .ok (.imul, 1) := by decide +kernel
theorem d_Mo_move_110 : decode b_Mo_move 110 = .ok (.iconst 3, 1) := by decide +kernel
theorem d_Mo_move_111 : decode b_Mo_move 111 = .ok (.iadd, 1) := by decide +kernel
theorem d_Mo_move_112 : decode b_Mo_move 112 = .ok (.dup2, 1) := by decide +kernel
theorem d_Mo_move_113 : decode b_Mo_move 113 = .ok (.iaload, 1) := by decide +kernel
theorem d_Mo_move_114 : decode b_Mo_move 114 = .ok (.iload 4, 2) := by decide +kernel
theorem d_Mo_move_116 : decode b_Mo_move 116 = .ok (.iadd, 1) := by decide +kernel
theorem d_Mo_move_117 : decode b_Mo_move 117 = .ok (.iastore, 1) := by decide +kernel
theorem d_Mo_move_118 : decode b_Mo_move 118 = .ok (.aload_n 0, 1) := by decide +kernel
theorem d_Mo_move_119 : decode b_Mo_move 119 = .ok (.iload_n 3, 1) := by decide +kernel
theorem d_Mo_move_120 : decode b_Mo_move 120 = .ok (.iconst 3, 1) := by decide +kernel
theorem d_Mo_move_121 : decode b_Mo_move 121 = .ok (.invokevirtual 32, 3) := by decide +kernel
theorem d_Mo_move_124 : decode b_Mo_move 124 = .ok (.ireturn, 1) := by decide +kernel
theorem d_Mo_remove_0 : decode b_Mo_remove 0 = .ok (.aload_n 0, 1) := by decide +kernel
theorem d_Mo_remove_1 : decode b_Mo_remove 1 = .ok (.iload_n 1, 1) := by decide +kernel
theorem d_Mo_remove_2 : decode b_Mo_remove 2 = .ok (.iload_n 2, 1) := by decide +kernel
theorem d_Mo_remove_3 : decode b_Mo_remove 3 = .ok (.iload_n 3, 1) := by decide +kernel
theorem d_Mo_remove_4 : decode b_Mo_remove 4 = .ok (.iconst (-1), 1) := by decide +kernel
theorem d_Mo_remove_5 : decode b_Mo_remove 5 = .ok (.invokevirtual 99, 3) := by decide +kernel
theorem d_Mo_remove_8 : decode b_Mo_remove 8 = .ok (.ifCond .ne 5, 3) := by decide +kernel
theorem d_Mo_remove_11 : decode b_Mo_remove 11 = .ok (.iconst 0, 1) := by decide +kernel
theorem d_Mo_remove_12 : decode b_Mo_remove 12 = .ok (.ireturn, 1) := by decide +kernel
theorem d_Mo_remove_13 : decode b_Mo_remove 13 = .ok (.aload_n 0, 1) := by decide +kernel
theorem d_Mo_remove_14 : decode b_Mo_remove 14 = .ok (.iload_n 1, 1) := by decide +kernel
theorem d_Mo_remove_15 : decode b_Mo_remove 15 = .ok (.iload_n 2, 1) := by decide +kernel
theorem d_Mo_remove_16 : decode b_Mo_remove 16 = .ok (.invokevirtual 69, 3) := by decide +kernel
theorem d_Mo_remove_19 : decode b_Mo_remove 19 = .ok (.ifCond .ne 9, 3) := by decide +kernel
theorem d_Mo_remove_22 : decode b_Mo_remove 22 = .ok (.aload_n 0, 1) := by decide +kernel
theorem d_Mo_remove_23 : decode b_Mo_remove 23 = .ok (.iconst 3, 1) := by decide +kernel
theorem d_Mo_remove_24 : decode b_Mo_remove 24 = .ok (.invokevirtual 51, 3) := by decide +kernel
theorem d_Mo_remove_27 : decode b_Mo_remove 27 = .ok (.ireturn, 1) := by decide +kernel
theorem d_Mo_remove_28 : decode b_Mo_remove 28 = .ok (.aload_n 0, 1) := by decide +kernel
theorem d_Mo_remove_29 : decode b_Mo_remove 29 = .ok (.getfield 7, 3) := by decide +kernel
theorem d_Mo_remove_32 : decode b_Mo_remove 32 = .ok (.bipush 17, 2) := by decide +kernel
theorem d_Mo_remove_34 : decode b_Mo_remove 34 = .ok (.iload_n 3, 1) := by decide +kernel
theorem d_Mo_remove_35 : decode b_Mo_remove 35 = .ok (.imul, 1) := by decide +kernel
theorem d_Mo_remove_36 : decode b_Mo_remove 36 = .ok (.iconst 0, 1) := by decide +kernel
theorem d_Mo_remove_37 : decode b_Mo_remove 37 = .ok (.iadd, 1) := by decide +kernel
theorem d_Mo_remove_38 : decode b_Mo_remove 38 = .ok (.iconst 0, 1) := by decide +kernel
theorem d_Mo_remove_39 : decode b_Mo_remove 39 = .ok (.iastore, 1) := by decide +kernel
theorem d_Mo_remove_40 : decode b_Mo_remove 40 = .ok (.iconst 1, 1) := by decide +kernel
theorem d_Mo_remove_41 : decode b_Mo_remove 41 = .ok (.istore 4, 2) := by decide +kernel
theorem d_Mo_remove_43 : decode b_Mo_remove 43 = .ok (.iload_n 3, 1) := by decide +kernel
theorem d_Mo_remove_44 : decode b_Mo_remove 44 = .ok (.iconst 1, 1) := by decide +kernel
theorem d_Mo_remove_45 : decode b_Mo_remove 45 = .ok (.iadd, 1) := by decide +kernel
theorem d_Mo_remove_46 : decode b_Mo_remove 46 = .ok (.istore 5, 2) := by decide +kernel
theorem d_Mo_remove_48 : decode b_Mo_remove 48 = .ok (.iload 5, 2) := by decide +kernel
theorem d_Mo_remove_50 : decode b_Mo_remove 50 = .ok (.aload_n 0, 1) := by decide +kernel
theorem d_Mo_remove_51 : decode b_Mo_remove 51 = .ok (.getfield 7, 3) := by decide +kernel
theorem d_Mo_remove_54 : decode b_Mo_remove 54 = .ok (.sipush 1549, 3) := by decide +kernel
theorem d_Mo_remove_57 : decode b_Mo_remove 57 = .ok (.iaload, 1) := by decide +kernel
theorem d_Mo_remove_58 : decode b_Mo_remove 58 = .ok (.if_icmp .gt 53, 3) := by decide +kernel
theorem d_Mo_remove_61 : decode b_Mo_remove 61 = .ok (.aload_n 0, 1) := by decide +kernel
theorem d_Mo_remove_62 : decode b_Mo_remove 62 = .ok (.iload 5, 2) := by decide +kernel
theorem d_Mo_remove_64 : decode b_Mo_remove 64 = .ok (.invokevirtual 43, 3) := by decide +kernel
theorem d_Mo_remove_67 : decode b_Mo_remove 67 = .ok (.ifCond .eq 38, 3) := by decide +kernel
theorem d_Mo_remove_70 : decode b_Mo_remove 70 = .ok (.aload_n 0, 1) := by decide +kernel
theorem d_Mo_remove_71 : decode b_Mo_remove 71 = .ok (.aload_n 0, 1) := by decide +kernel
theorem d_Mo_remove_72 : decode b_Mo_remove 72 = .ok (.iload 5, 2) := by decide +kernel
theorem d_Mo_remove_74 : decode b_Mo_remove 74 = .ok (.iconst 4, 1) := by decide +kernel
theorem d_Mo_remove_75 : decode b_Mo_remove 75 = .ok (.invokevirtual 32, 3) := by decide +kernel
theorem d_Mo_remove_78 : decode b_Mo_remove 78 = .ok (.iconst 0, 1) := by decide +kernel
theorem d_Mo_remove_79 : decode b_Mo_remove 79 = .ok (.invokevirtual 32, 3) := by decide +kernel
theorem d_Mo_remove_82 : decode b_Mo_remove 82 = .ok (.iconst 1, 1) := by decide +kernel
theorem d_Mo_remove_83 : decode b_Mo_remove 83 = .ok (.if_icmp .ne 6, 3) := by decide +kernel
theorem d_Mo_remove_86 : decode b_Mo_remove 86 = .ok (.goto 19, 3) := by decide +kernel
theorem d_Mo_remove_89 : decode b_Mo_remove 89 = .ok (.aload_n 0, 1) := by decide +kernel
theorem d_Mo_remove_90 : decode b_Mo_remove 90 = .ok (.getfield 7, 3) := by decide +kernel
theorem d_Mo_remove_93 : decode b_Mo_remove 93 = .ok (.bipush 17, 2) := by decide +kernel
theorem d_Mo_remove_95 : decode b_Mo_remove 95 = .ok (.iload 5, 2) := by decide +kernel
theorem d_Mo_remove_97 : decode b_Mo_remove 97 = .ok (.imul, 1) := by decide +kernel
theorem d_Mo_remove_98 : decode b_Mo_remove 98 = .ok (.iconst 0, 1) := by decide +kernel
theorem d_Mo_remove_99 : decode b_Mo_remove 99 = .ok (.iadd, 1) := by decide +kernel
theorem d_Mo_remove_100 : decode b_Mo_remove 100 = .ok (.iconst 0, 1) := by decide +kernel
theorem d_Mo_remove_101 : decode b_Mo_remove 101 = .ok (.iastore, 1) := by decide +kernel
theorem d_Mo_remove_102 : decode b_Mo_remove 102 = .ok (.iinc 4 1, 3) := by decide +kernel
theorem d_Mo_remove_105 : decode b_Mo_remove 105 = .ok (.iinc 5 1, 3) := by decide +kernel
theorem d_Mo_remove_108 : decode b_Mo_remove 108 = .ok (.goto (-60), 3) := by decide +kernel
theorem d_Mo_remove_111 : decode b_Mo_remove 111 = .ok (.iload 4, 2) := by decide +kernel
theorem d_Mo_remove_113 : decode b_Mo_remove 113 = .ok (.ireturn, 1) := by decide +kernel
theorem d_Mo_drop_0 : decode b_Mo_drop 0 = .ok (.aload_n 0, 1) := by decide +kernel
theorem d_Mo_drop_1 : decode b_Mo_drop 1 = .ok (.iconst 0, 1) := by decide +kernel
theorem d_Mo_drop_2 : decode b_Mo_drop 2 = .ok (.putfield 16, 3) := by decide +kernel
theorem d_Mo_drop_5 : decode b_Mo_drop 5 = .ok (.aload_n 0, 1) := by decide +kernel
theorem d_Mo_drop_6 : decode b_Mo_drop 6 = .ok (.iload_n 1, 1) := by decide +kernel
theorem d_Mo_drop_7 : decode b_Mo_drop 7 = .ok (.iload_n 2, 1) := by decide +kernel
theorem d_Mo_drop_8 : decode b_Mo_drop 8 = .ok (.iload_n 3, 1) := by decide +kernel
theorem d_Mo_drop_9 : decode b_Mo_drop 9 = .ok (.invokevirtual 107, 3) := by decide +kernel
theorem d_Mo_drop_12 : decode b_Mo_drop 12 = .ok (.ireturn, 1) := by decide +kernel
theorem d_Mo_become_0 : decode b_Mo_become 0 = .ok (.aload_n 0, 1) := by decide +kernel
theorem d_Mo_become_1 : decode b_Mo_become 1 = .ok (.iconst 0, 1) := by decide +kernel
theorem d_Mo_become_2 : decode b_Mo_become 2 = .ok (.putfield 16, 3) := by decide +kernel
theorem d_Mo_become_5 : decode b_Mo_become 5 = .ok (.aload_n 0, 1) := by decide +kernel
theorem d_Mo_become_6 : decode b_Mo_become 6 = .ok (.iload_n 2, 1) := by decide +kernel
theorem d_Mo_become_7 : decode b_Mo_become 7 = .ok (.invokevirtual 54, 3) := by decide +kernel
theorem d_Mo_become_10 : decode b_Mo_become 10 = .ok (.ifCond .ne 9, 3) := by decide +kernel
theorem d_Mo_become_13 : decode b_Mo_become 13 = .ok (.aload_n 0, 1) := by decide +kernel
theorem d_Mo_become_14 : decode b_Mo_become 14 = .ok (.iconst 1, 1) := by decide +kernel
theorem d_Mo_become_15 : decode b_Mo_become 15 = .ok (.invokevirtual 51, 3) := by decide +kernel
theorem d_Mo_become_18 : decode b_Mo_become 18 = .ok (.ireturn, 1) := by decide +kernel
theorem d_Mo_become_19 : decode b_Mo_become 19 = .ok (.aload_n 0, 1) := by decide +kernel
theorem d_Mo_become_20 : decode b_Mo_become 20 = .ok (.iload_n 1, 1) := by decide +kernel
theorem d_Mo_become_21 : decode b_Mo_become 21 = .ok (.invokevirtual 60, 3) := by decide +kernel
theorem d_Mo_become_24 : decode b_Mo_become 24 = .ok (.ifCond .ne 5, 3) := by decide +kernel
theorem d_Mo_become_27 : decode b_Mo_become 27 = .ok (.iconst 0, 1) := by decide +kernel
theorem d_Mo_become_28 : decode b_Mo_become 28 = .ok (.ireturn, 1) := by decide +kernel
theorem d_Mo_become_29 : decode b_Mo_become 29 = .ok (.aload_n 0, 1) := by decide +kernel
theorem d_Mo_become_30 : decode b_Mo_become 30 = .ok (.aload_n 0, 1) := by decide +kernel
theorem d_Mo_become_31 : decode b_Mo_become 31 = .ok (.iload_n 1, 1) := by decide +kernel
theorem d_Mo_become_32 : decode b_Mo_become 32 = .ok (.iconst 2, 1) := by decide +kernel
theorem d_Mo_become_33 : decode b_Mo_become 33 = .ok (.invokevirtual 32, 3) := by decide +kernel
theorem d_Mo_become_36 : decode b_Mo_become 36 = .ok (.iload_n 2, 1) := by decide +kernel
theorem d_Mo_become_37 : decode b_Mo_become 37 = .ok (.iconst 0, 1) := by decide +kernel
theorem d_Mo_become_38 : decode b_Mo_become 38 = .ok (.invokevirtual 35, 3) := by decide +kernel
theorem d_Mo_become_41 : decode b_Mo_become 41 = .ok (.ifCond .eq 28, 3) := by decide +kernel
theorem d_Mo_become_44 : decode b_Mo_become 44 = .ok (.aload_n 0, 1) := by decide +kernel
theorem d_Mo_become_45 : decode b_Mo_become 45 = .ok (.iload_n 2, 1) := by decide +kernel
theorem d_Mo_become_46 : decode b_Mo_become 46 = .ok (.aload_n 0, 1) := by decide +kernel
theorem d_Mo_become_47 : decode b_Mo_become 47 = .ok (.iload_n 1, 1) := by decide +kernel
theorem d_Mo_become_48 : decode b_Mo_become 48 = .ok (.bipush 6, 2) := by decide +kernel
theorem d_Mo_become_50 : decode b_Mo_become 50 = .ok (.invokevirtual 32, 3) := by decide +kernel
theorem d_Mo_become_53 : decode b_Mo_become 53 = .ok (.iconst 0, 1) := by decide +kernel
theorem d_Mo_become_54 : decode b_Mo_become 54 = .ok (.invokevirtual 35, 3) := by decide +kernel
theorem d_Mo_become_57 : decode b_Mo_become 57 = .ok (.ifCond .eq 12, 3) := by decide +kernel
theorem d_Mo_become_60 : decode b_Mo_become 60 = .ok (.aload_n 0, 1) := by decide +kernel
theorem d_Mo_become_61 : decode b_Mo_become 61 = .ok (.iload_n 2, 1) := by decide +kernel
theorem d_Mo_become_62 : decode b_Mo_become 62 = .ok (.iload_n 1, 1) := by decide +kernel
theorem d_Mo_become_63 : decode b_Mo_become 63 = .ok (.invokevirtual 72, 3) := by decide +kernel
theorem d_Mo_become_66 : decode b_Mo_become 66 = .ok (.ifCond .ne 9, 3) := by decide +kernel
theorem d_Mo_become_69 : decode b_Mo_become 69 = .ok (.aload_n 0, 1) := by decide +kernel
theorem d_Mo_become_70 : decode b_Mo_become 70 = .ok (.iconst 3, 1) := by decide +kernel
theorem d_Mo_become_71 : decode b_Mo_become 71 = .ok (.invokevirtual 51, 3) := by decide +kernel
theorem d_Mo_become_74 : decode b_Mo_become 74 = .ok (.ireturn, 1) := by decide +kernel
theorem d_Mo_become_75 : decode b_Mo_become 75 = .ok (.aload_n 0, 1) := by decide +kernel
theorem d_Mo_become_76 : decode b_Mo_become 76 = .ok (.getfield 7, 3) := by decide +kernel
theorem d_Mo_become_79 : decode b_Mo_become 79 = .ok (.bipush 17, 2) := by decide +kernel
theorem d_Mo_become_81 : decode b_Mo_become 81 = .ok (.iload_n 1, 1) := by decide +kernel
theorem d_Mo_become_82 : decode b_Mo_become 82 = .ok (.imul, 1) := by decide +kernel
theorem d_Mo_become_83 : decode b_Mo_become 83 = .ok (.iconst 2, 1) := by decide +kernel
theorem d_Mo_become_84 : decode b_Mo_become 84 = .ok (.iadd, 1) := by decide +kernel
theorem d_Mo_become_85 : decode b_Mo_become 85 = .ok (.iload_n 2, 1) := by decide +kernel
theorem d_Mo_become_86 : decode b_Mo_become 86 = .ok (.iastore, 1) := by decide +kernel
theorem d_Mo_become_87 : decode b_Mo_become 87 = .ok (.iconst 0, 1) := by decide +kernel
theorem d_Mo_become_88 : decode b_Mo_become 88 = .ok (.ireturn, 1) := by decide +kernel
theorem d_Mo_lower_0 : decode b_Mo_lower 0 = .ok (.aload_n 0, 1) := by decide +kernel
theorem d_Mo_lower_1 : decode b_Mo_lower 1 = .ok (.iconst 0, 1) := by decide +kernel
theorem d_Mo_lower_2 : decode b_Mo_lower 2 = .ok (.putfield 16, 3) := by decide +kernel
theorem d_Mo_lower_5 : decode b_Mo_lower 5 = .ok (.aload_n 0, 1) := by decide +kernel
theorem d_Mo_lower_6 : decode b_Mo_lower 6 = .ok (.iload_n 2, 1) := by decide +kernel
theorem d_Mo_lower_7 : decode b_Mo_lower 7 = .ok (.invokevirtual 54, 3) := by decide +kernel
theorem d_Mo_lower_10 : decode b_Mo_lower 10 = .ok (.ifCond .eq 11, 3) := by decide +kernel
theorem d_Mo_lower_13 : decode b_Mo_lower 13 = .ok (.aload_n 0, 1) := by decide +kernel
theorem d_Mo_lower_14 : decode b_Mo_lower 14 = .ok (.iload_n 2, 1) := by decide +kernel
theorem d_Mo_lower_15 : decode b_Mo_lower 15 = .ok (.invokevirtual 81, 3) := by decide +kernel
theorem d_Mo_lower_18 : decode b_Mo_lower 18 = .ok (.ifCond .ne 9, 3) := by decide +kernel
theorem d_Mo_lower_21 : decode b_Mo_lower 21 = .ok (.aload_n 0, 1) := by decide +kernel
theorem d_Mo_lower_22 : decode b_Mo_lower 22 = .ok (.iconst 1, 1) := by decide +kernel
theorem d_Mo_lower_23 : decode b_Mo_lower 23 = .ok (.invokevirtual 51, 3) := by decide +kernel
theorem d_Mo_lower_26 : decode b_Mo_lower 26 = .ok (.ireturn, 1) := by decide +kernel
theorem d_Mo_lower_27 : decode b_Mo_lower 27 = .ok (.aload_n 0, 1) := by decide +kernel
theorem d_Mo_lower_28 : decode b_Mo_lower 28 = .ok (.iload_n 1, 1) := by decide +kernel
theorem d_Mo_lower_29 : decode b_Mo_lower 29 = .ok (.invokevirtual 60, 3) := by decide +kernel
theorem d_Mo_lower_32 : decode b_Mo_lower 32 = .ok (.ifCond .ne 5, 3) := by decide +kernel
theorem d_Mo_lower_35 : decode b_Mo_lower 35 = .ok (.iconst 0, 1) := by decide +kernel
theorem d_Mo_lower_36 : decode b_Mo_lower 36 = .ok (.ireturn, 1) := by decide +kernel
theorem d_Mo_lower_37 : decode b_Mo_lower 37 = .ok (.aload_n 0, 1) := by decide +kernel
theorem d_Mo_lower_38 : decode b_Mo_lower 38 = .ok (.iload_n 2, 1) := by decide +kernel
theorem d_Mo_lower_39 : decode b_Mo_lower 39 = .ok (.aload_n 0, 1) := by decide +kernel
theorem d_Mo_lower_40 : decode b_Mo_lower 40 = .ok (.iload_n 1, 1) := by decide +kernel
theorem d_Mo_lower_41 : decode b_Mo_lower 41 = .ok (.bipush 6, 2) := by decide +kernel
theorem d_Mo_lower_43 : decode b_Mo_lower 43 = .ok (.invokevirtual 32, 3) := by decide +kernel
theorem d_Mo_lower_46 : decode b_Mo_lower 46 = .ok (.iconst 0, 1) := by decide +kernel
theorem d_Mo_lower_47 : decode b_Mo_lower 47 = .ok (.invokevirtual 35, 3) := by decide +kernel
theorem d_Mo_lower_50 : decode b_Mo_lower 50 = .ok (.ifCond .eq 18, 3) := by decide +kernel
theorem d_Mo_lower_53 : decode b_Mo_lower 53 = .ok (.aload_n 0, 1) := by decide +kernel
theorem d_Mo_lower_54 : decode b_Mo_lower 54 = .ok (.aload_n 0, 1) := by decide +kernel
theorem d_Mo_lower_55 : decode b_Mo_lower 55 = .ok (.iload_n 1, 1) := by decide +kernel
theorem d_Mo_lower_56 : decode b_Mo_lower 56 = .ok (.iconst 2, 1) := by decide +kernel
theorem d_Mo_lower_57 : decode b_Mo_lower 57 = .ok (.invokevirtual 32, 3) := by decide +kernel
theorem d_Mo_lower_60 : decode b_Mo_lower 60 = .ok (.iload_n 2, 1) := by decide +kernel
theorem d_Mo_lower_61 : decode b_Mo_lower 61 = .ok (.iconst 0, 1) := by decide +kernel
theorem d_Mo_lower_62 : decode b_Mo_lower 62 = .ok (.invokevirtual 35, 3) := by decide +kernel
theorem d_Mo_lower_65 : decode b_Mo_lower 65 = .ok (.ifCond .ne 9, 3) := by decide +kernel
theorem d_Mo_lower_68 : decode b_Mo_lower 68 = .ok (.aload_n 0, 1) := by decide +kernel
theorem d_Mo_lower_69 : decode b_Mo_lower 69 = .ok (.iconst 3, 1) := by decide +kernel
theorem d_Mo_lower_70 : decode b_Mo_lower 70 = .ok (.invokevirtual 51, 3) := by decide +kernel
theorem d_Mo_lower_73 : decode b_Mo_lower 73 = .ok (.ireturn, 1) := by decide +kernel
theorem d_Mo_lower_74 : decode b_Mo_lower 74 = .ok (.aload_n 0, 1) := by decide +kernel
theorem d_Mo_lower_75 : decode b_Mo_lower 75 = .ok (.getfield 7, 3) := by decide +kernel
theorem d_Mo_lower_78 : decode b_Mo_lower 78 = .ok (.bipush 17, 2) := by decide +kernel
theorem d_Mo_lower_80 : decode b_Mo_lower 80 = .ok (.iload_n 1, 1) := by decide +kernel
theorem d_Mo_lower_81 : decode b_Mo_lower 81 = .ok (.imul, 1) := by decide +kernel
theorem d_Mo_lower_82 : decode b_Mo_lower 82 = .ok (.bipush 6, 2) := by decide +kernel
theorem d_Mo_lower_84 : decode b_Mo_lower 84 = .ok (.iadd, 1) := by decide +kernel
theorem d_Mo_lower_85 : decode b_Mo_lower 85 = .ok (.iload_n 2, 1) := by decide +kernel
theorem d_Mo_lower_86 : decode b_Mo_lower 86 = .ok (.iastore, 1) := by decide +kernel
theorem d_Mo_lower_87 : decode b_Mo_lower 87 = .ok (.iconst 0, 1) := by decide +kernel
theorem d_Mo_lower_88 : decode b_Mo_lower 88 = .ok (.ireturn, 1) := by decide +kernel
theorem d_Mo_passes_0 : decode b_Mo_passes 0 = .ok (.aload_n 0, 1) := by decide +kernel
theorem d_Mo_passes_1 : decode b_Mo_passes 1 = .ok (.aload_n 0, 1) := by decide +kernel
theorem d_Mo_passes_2 : decode b_Mo_passes 2 = .ok (.iload_n 1, 1) := by decide +kernel
theorem d_Mo_passes_3 : decode b_Mo_passes 3 = .ok (.iconst 2, 1) := by decide +kernel
theorem d_Mo_passes_4 : decode b_Mo_passes 4 = .ok (.invokevirtual 32, 3) := by decide +kernel
theorem d_Mo_passes_7 : decode b_Mo_passes 7 = .ok (.aload_n 0, 1) := by decide +kernel
theorem d_Mo_passes_8 : decode b_Mo_passes 8 = .ok (.iload_n 2, 1) := by decide +kernel
theorem d_Mo_passes_9 : decode b_Mo_passes 9 = .ok (.iconst 5, 1) := by decide +kernel
theorem d_Mo_passes_10 : decode b_Mo_passes 10 = .ok (.invokevirtual 32, 3) := by decide +kernel
theorem d_Mo_passes_13 : decode b_Mo_passes 13 = .ok (.iconst 0, 1) := by decide +kernel
theorem d_Mo_passes_14 : decode b_Mo_passes 14 = .ok (.invokevirtual 35, 3) := by decide +kernel
theorem d_Mo_passes_17 : decode b_Mo_passes 17 = .ok (.ifCond .eq 14, 3) := by decide +kernel
theorem d_Mo_passes_20 : decode b_Mo_passes 20 = .ok (.aload_n 0, 1) := by decide +kernel
theorem d_Mo_passes_21 : decode b_Mo_passes 21 = .ok (.iload_n 3, 1) := by decide +kernel
theorem d_Mo_passes_22 : decode b_Mo_passes 22 = .ok (.iload 4, 2) := by decide +kernel
theorem d_Mo_passes_24 : decode b_Mo_passes 24 = .ok (.iconst 0, 1) := by decide +kernel
theorem d_Mo_passes_25 : decode b_Mo_passes 25 = .ok (.invokevirtual 35, 3) := by decide +kernel
theorem d_Mo_passes_28 : decode b_Mo_passes 28 = .ok (.ifCond .ne 5, 3) := by decide +kernel
theorem d_Mo_passes_31 : decode b_Mo_passes 31 = .ok (.iconst 0, 1) := by decide +kernel
theorem d_Mo_passes_32 : decode b_Mo_passes 32 = .ok (.ireturn, 1) := by decide +kernel
theorem d_Mo_passes_33 : decode b_Mo_passes 33 = .ok (.iconst 0, 1) := by decide +kernel
theorem d_Mo_passes_34 : decode b_Mo_passes 34 = .ok (.istore 5, 2) := by decide +kernel
theorem d_Mo_passes_36 : decode b_Mo_passes 36 = .ok (.iload 5, 2) := by decide +kernel
theorem d_Mo_passes_38 : decode b_Mo_passes 38 = .ok (.bipush 8, 2) := by decide +kernel
theorem d_Mo_passes_40 : decode b_Mo_passes 40 = .ok (.if_icmp .ge 137, 3) := by decide +kernel
theorem d_Mo_passes_43 : decode b_Mo_passes 43 = .ok (.aload_n 0, 1) := by decide +kernel
theorem d_Mo_passes_44 : decode b_Mo_passes 44 = .ok (.iload_n 3, 1) := by decide +kernel
theorem d_Mo_passes_45 : decode b_Mo_passes 45 = .ok (.iload 5, 2) := by decide +kernel
theorem d_Mo_passes_47 : decode b_Mo_passes 47 = .ok (.invokevirtual 20, 3) := by decide +kernel
theorem d_Mo_passes_50 : decode b_Mo_passes 50 = .ok (.istore 6, 2) := by decide +kernel
theorem d_Mo_passes_52 : decode b_Mo_passes 52 = .ok (.aload_n 0, 1) := by decide +kernel
theorem d_Mo_passes_53 : decode b_Mo_passes 53 = .ok (.aload_n 0, 1) := by decide +kernel
theorem d_Mo_passes_54 : decode b_Mo_passes 54 = .ok (.iload_n 1, 1) := by decide +kernel
theorem d_Mo_passes_55 : decode b_Mo_passes 55 = .ok (.iconst 2, 1) := by decide +kernel
theorem d_Mo_passes_56 : decode b_Mo_passes 56 = .ok (.invokevirtual 32, 3) := by decide +kernel
theorem d_Mo_passes_59 : decode b_Mo_passes 59 = .ok (.iload 5, 2) := by decide +kernel
theorem d_Mo_passes_61 : decode b_Mo_passes 61 = .ok (.invokevirtual 20, 3) := by decide +kernel
theorem d_Mo_passes_64 : decode b_Mo_passes 64 = .ok (.istore 7, 2) := by decide +kernel
theorem d_Mo_passes_66 : decode b_Mo_passes 66 = .ok (.aload_n 0, 1) := by decide +kernel
theorem d_Mo_passes_67 : decode b_Mo_passes 67 = .ok (.aload_n 0, 1) := by decide +kernel
theorem d_Mo_passes_68 : decode b_Mo_passes 68 = .ok (.iload_n 2, 1) := by decide +kernel
theorem d_Mo_passes_69 : decode b_Mo_passes 69 = .ok (.iconst 2, 1) := by decide +kernel
theorem d_Mo_passes_70 : decode b_Mo_passes 70 = .ok (.invokevirtual 32, 3) := by decide +kernel
theorem d_Mo_passes_73 : decode b_Mo_passes 73 = .ok (.iload 5, 2) := by decide +kernel
theorem d_Mo_passes_75 : decode b_Mo_passes 75 = .ok (.invokevirtual 20, 3) := by decide +kernel
theorem d_Mo_passes_78 : decode b_Mo_passes 78 = .ok (.istore 8, 2) := by decide +kernel
theorem d_Mo_passes_80 : decode b_Mo_passes 80 = .ok (.iload 6, 2) := by decide +kernel
theorem d_Mo_passes_82 : decode b_Mo_passes 82 = .ok (.iconst 4, 1) := by decide +kernel
theorem d_Mo_passes_83 : decode b_Mo_passes 83 = .ok (.if_icmp .ne 18, 3) := by decide +kernel
theorem d_Mo_passes_86 : decode b_Mo_passes 86 = .ok (.iload 7, 2) := by decide +kernel
theorem d_Mo_passes_88 : decode b_Mo_passes 88 = .ok (.iconst 4, 1) := by decide +kernel
theorem d_Mo_passes_89 : decode b_Mo_passes 89 = .ok (.if_icmp .eq 34, 3) := by decide +kernel
theorem d_Mo_passes_92 : decode b_Mo_passes 92 = .ok (.iload 8, 2) := by decide +kernel
theorem d_Mo_passes_94 : decode b_Mo_passes 94 = .ok (.iconst 4, 1) := by decide +kernel
theorem d_Mo_passes_95 : decode b_Mo_passes 95 = .ok (.if_icmp .eq 28, 3) := by decide +kernel
theorem d_Mo_passes_98 : decode b_Mo_passes 98 = .ok (.goto 23, 3) := by decide +kernel
theorem d_Mo_passes_101 : decode b_Mo_passes 101 = .ok (.iload 6, 2) := by decide +kernel
theorem d_Mo_passes_103 : decode b_Mo_passes 103 = .ok (.iload 7, 2) := by decide +kernel
theorem d_Mo_passes_105 : decode b_Mo_passes 105 = .ok (.invokestatic 24, 3) := by decide +kernel
theorem d_Mo_passes_108 : decode b_Mo_passes 108 = .ok (.if_icmp .lt 13, 3) := by decide +kernel
theorem d_Mo_passes_111 : decode b_Mo_passes 111 = .ok (.iload 6, 2) := by decide +kernel
theorem d_Mo_passes_113 : decode b_Mo_passes 113 = .ok (.iload 8, 2) := by decide +kernel
theorem d_Mo_passes_115 : decode b_Mo_passes 115 = .ok (.invokestatic 24, 3) := by decide +kernel
theorem d_Mo_passes_118 : decode b_Mo_passes 118 = .ok (.if_icmp .ge 5, 3) := by decide +kernel
theorem d_Mo_passes_121 : decode b_Mo_passes 121 = .ok (.iconst 0, 1) := by decide +kernel
theorem d_Mo_passes_122 : decode b_Mo_passes 122 = .ok (.ireturn, 1) := by decide +kernel
theorem d_Mo_passes_123 : decode b_Mo_passes 123 = .ok (.aload_n 0, 1) := by decide +kernel
theorem d_Mo_passes_124 : decode b_Mo_passes 124 = .ok (.iload 4, 2) := by decide +kernel
theorem d_Mo_passes_126 : decode b_Mo_passes 126 = .ok (.iload 5, 2) := by decide +kernel
theorem d_Mo_passes_128 : decode b_Mo_passes 128 = .ok (.invokevirtual 20, 3) := by decide +kernel
theorem d_Mo_passes_131 : decode b_Mo_passes 131 = .ok (.istore 9, 2) := by decide +kernel
theorem d_Mo_passes_133 : decode b_Mo_passes 133 = .ok (.iload 9, 2) := by decide +kernel
theorem d_Mo_passes_135 : decode b_Mo_passes 135 = .ok (.aload_n 0, 1) := by decide +kernel
theorem d_Mo_passes_136 : decode b_Mo_passes 136 = .ok (.aload_n 0, 1) := by decide +kernel
theorem d_Mo_passes_137 : decode b_Mo_passes 137 = .ok (.iload_n 1, 1) := by decide +kernel
theorem d_Mo_passes_138 : decode b_Mo_passes 138 = .ok (.bipush 6, 2) := by decide +kernel
theorem d_Mo_passes_140 : decode b_Mo_passes 140 = .ok (.invokevirtual 32, 3) := by decide +kernel
theorem d_Mo_passes_143 : decode b_Mo_passes 143 = .ok (.iload 5, 2) := by decide +kernel
theorem d_Mo_passes_145 : decode b_Mo_passes 145 = .ok (.invokevirtual 20, 3) := by decide +kernel
theorem d_Mo_passes_148 : decode b_Mo_passes 148 = .ok (.if_icmp .le 23, 3) := by decide +kernel
theorem d_Mo_passes_151 : decode b_Mo_passes 151 = .ok (.iload 9, 2) := by decide +kernel
theorem d_Mo_passes_153 : decode b_Mo_passes 153 = .ok (.aload_n 0, 1) := by decide +kernel
theorem d_Mo_passes_154 : decode b_Mo_passes 154 = .ok (.aload_n 0, 1) := by decide +kernel
theorem d_Mo_passes_155 : decode b_Mo_passes 155 = .ok (.iload_n 2, 1) := by decide +kernel
theorem d_Mo_passes_156 : decode b_Mo_passes 156 = .ok (.bipush 6, 2) := by decide +kernel
theorem d_Mo_passes_158 : decode b_Mo_passes 158 = .ok (.invokevirtual 32, 3) := by decide +kernel
theorem d_Mo_passes_161 : decode b_Mo_passes 161 = .ok (.iload 5, 2) := by decide +kernel
theorem d_Mo_passes_163 : decode b_Mo_passes 163 = .ok (.invokevirtual 20, 3) := by decide +kernel
theorem d_Mo_passes_166 : decode b_Mo_passes 166 = .ok (.if_icmp .le 5, 3) := by decide +kernel
theorem d_Mo_passes_169 : decode b_Mo_passes 169 = .ok (.iconst 0, 1) := by decide +kernel
theorem d_Mo_passes_170 : decode b_Mo_passes 170 = .ok (.ireturn, 1) := by decide +kernel
theorem d_Mo_passes_171 : decode b_Mo_passes 171 = .ok (.iinc 5 1, 3) := by decide +kernel
theorem d_Mo_passes_174 : decode b_Mo_passes 174 = .ok (.goto (-138), 3) := by decide +kernel
theorem d_Mo_passes_177 : decode b_Mo_passes 177 = .ok (.iconst 1, 1) := by decide +kernel
theorem d_Mo_passes_178 : decode b_Mo_passes 178 = .ok (.ireturn, 1) := by decide +kernel
theorem d_Mo_go_0 : decode b_Mo_go 0 = .ok (.aload_n 0, 1) := by decide +kernel
theorem d_Mo_go_1 : decode b_Mo_go 1 = .ok (.iload 4, 2) := by decide +kernel
theorem d_Mo_go_3 : decode b_Mo_go 3 = .ok (.invokevirtual 54, 3) := by decide +kernel
theorem d_Mo_go_6 : decode b_Mo_go 6 = .ok (.ifCond .eq 21, 3) := by decide +kernel
theorem d_Mo_go_9 : decode b_Mo_go 9 = .ok (.aload_n 0, 1) := by decide +kernel
theorem d_Mo_go_10 : decode b_Mo_go 10 = .ok (.iload 5, 2) := by decide +kernel
theorem d_Mo_go_12 : decode b_Mo_go 12 = .ok (.invokevirtual 54, 3) := by decide +kernel
theorem d_Mo_go_15 : decode b_Mo_go 15 = .ok (.ifCond .eq 12, 3) := by decide +kernel
theorem d_Mo_go_18 : decode b_Mo_go 18 = .ok (.aload_n 0, 1) := by decide +kernel
theorem d_Mo_go_19 : decode b_Mo_go 19 = .ok (.iload 5, 2) := by decide +kernel
theorem d_Mo_go_21 : decode b_Mo_go 21 = .ok (.invokevirtual 81, 3) := by decide +kernel
theorem d_Mo_go_24 : decode b_Mo_go 24 = .ok (.ifCond .ne 9, 3) := by decide +kernel
theorem d_Mo_go_27 : decode b_Mo_go 27 = .ok (.aload_n 0, 1) := by decide +kernel
theorem d_Mo_go_28 : decode b_Mo_go 28 = .ok (.iconst 1, 1) := by decide +kernel
theorem d_Mo_go_29 : decode b_Mo_go 29 = .ok (.invokevirtual 51, 3) := by decide +kernel
theorem d_Mo_go_32 : decode b_Mo_go 32 = .ok (.ireturn, 1) := by decide +kernel
theorem d_Mo_go_33 : decode b_Mo_go 33 = .ok (.aload_n 0, 1) := by decide +kernel
theorem d_Mo_go_34 : decode b_Mo_go 34 = .ok (.iload_n 1, 1) := by decide +kernel
theorem d_Mo_go_35 : decode b_Mo_go 35 = .ok (.iload_n 2, 1) := by decide +kernel
theorem d_Mo_go_36 : decode b_Mo_go 36 = .ok (.iload_n 3, 1) := by decide +kernel
theorem d_Mo_go_37 : decode b_Mo_go 37 = .ok (.iconst 2, 1) := by decide +kernel
theorem d_Mo_go_38 : decode b_Mo_go 38 = .ok (.invokevirtual 99, 3) := by decide +kernel
theorem d_Mo_go_41 : decode b_Mo_go 41 = .ok (.ifCond .ne 5, 3) := by decide +kernel
theorem d_Mo_go_44 : decode b_Mo_go 44 = .ok (.iconst 0, 1) := by decide +kernel
theorem d_Mo_go_45 : decode b_Mo_go 45 = .ok (.ireturn, 1) := by decide +kernel
theorem d_Mo_go_46 : decode b_Mo_go 46 = .ok (.aload_n 0, 1) := by decide +kernel
theorem d_Mo_go_47 : decode b_Mo_go 47 = .ok (.iload_n 1, 1) := by decide +kernel
theorem d_Mo_go_48 : decode b_Mo_go 48 = .ok (.iload_n 2, 1) := by decide +kernel
theorem d_Mo_go_49 : decode b_Mo_go 49 = .ok (.invokevirtual 39, 3) := by decide +kernel
theorem d_Mo_go_52 : decode b_Mo_go 52 = .ok (.ifCond .eq 16, 3) := by decide +kernel
theorem d_Mo_go_55 : decode b_Mo_go 55 = .ok (.aload_n 0, 1) := by decide +kernel
theorem d_Mo_go_56 : decode b_Mo_go 56 = .ok (.iload_n 1, 1) := by decide +kernel
theorem d_Mo_go_57 : decode b_Mo_go 57 = .ok (.iload_n 3, 1) := by decide +kernel
theorem d_Mo_go_58 : decode b_Mo_go 58 = .ok (.iload 4, 2) := by decide +kernel
theorem d_Mo_go_60 : decode b_Mo_go 60 = .ok (.iload 5, 2) := by decide +kernel
theorem d_Mo_go_62 : decode b_Mo_go 62 = .ok (.invokevirtual 110, 3) := by decide +kernel
theorem d_Mo_go_65 : decode b_Mo_go 65 = .ok (.ifCond .ne 9, 3) := by decide +kernel
theorem d_Mo_go_68 : decode b_Mo_go 68 = .ok (.aload_n 0, 1) := by decide +kernel
theorem d_Mo_go_69 : decode b_Mo_go 69 = .ok (.iconst 3, 1) := by decide +kernel
theorem d_Mo_go_70 : decode b_Mo_go 70 = .ok (.invokevirtual 51, 3) := by decide +kernel
theorem d_Mo_go_73 : decode b_Mo_go 73 = .ok (.ireturn, 1) := by decide +kernel
theorem d_Mo_go_74 : decode b_Mo_go 74 = .ok (.aload_n 0, 1) := by decide +kernel
theorem d_Mo_go_75 : decode b_Mo_go 75 = .ok (.getfield 7, 3) := by decide +kernel
theorem d_Mo_go_78 : decode b_Mo_go 78 = .ok (.bipush 17, 2) := by decide +kernel
theorem d_Mo_go_80 : decode b_Mo_go 80 = .ok (.iload_n 1, 1) := by decide +kernel
theorem d_Mo_go_81 : decode b_Mo_go 81 = .ok (.imul, 1) := by decide +kernel
theorem d_Mo_go_82 : decode b_Mo_go 82 = .ok (.iconst 2, 1) := by decide +kernel
theorem d_Mo_go_83 : decode b_Mo_go 83 = .ok (.iadd, 1) := by decide +kernel
theorem d_Mo_go_84 : decode b_Mo_go 84 = .ok (.iload 4, 2) := by decide +kernel
theorem d_Mo_go_86 : decode b_Mo_go 86 = .ok (.iastore, 1) := by decide +kernel
theorem d_Mo_go_87 : decode b_Mo_go 87 = .ok (.aload_n 0, 1) := by decide +kernel
theorem d_Mo_go_88 : decode b_Mo_go 88 = .ok (.getfield 7, 3) := by decide +kernel
theorem d_Mo_go_91 : decode b_Mo_go 91 = .ok (.bipush 17, 2) := by decide +kernel
theorem d_Mo_go_93 : decode b_Mo_go 93 = .ok (.iload_n 1, 1) := by decide +kernel
theorem d_Mo_go_94 : decode b_Mo_go 94 = .ok (.imul, 1) := by decide +kernel
theorem d_Mo_go_95 : decode b_Mo_go 95 = .ok (.bipush 6, 2) := by decide +kernel
theorem d_Mo_go_97 : decode b_Mo_go 97 = .ok (.iadd, 1) := by decide +kernel
theorem d_Mo_go_98 : decode b_Mo_go 98 = .ok (.iload 5, 2) := by decide +kernel
theorem d_Mo_go_100 : decode b_Mo_go 100 = .ok (.iastore, 1) := by decide +kernel
theorem d_Mo_go_101 : decode b_Mo_go 101 = .ok (.aload_n 0, 1) := by decide +kernel
theorem d_Mo_go_102 : decode b_Mo_go 102 = .ok (.iload_n 3, 1) := by decide +kernel
theorem d_Mo_go_103 : decode b_Mo_go 103 = .ok (.bipush 7, 2) := by decide +kernel
theorem d_Mo_go_105 : decode b_Mo_go 105 = .ok (.invokevirtual 32, 3) := by decide +kernel
theorem d_Mo_go_108 : decode b_Mo_go 108 = .ok (.ireturn, 1) := by decide +kernel
theorem d_Mo_enter_0 : decode b_Mo_enter 0 = .ok (.aload_n 0, 1) := by decide +kernel
theorem d_Mo_enter_1 : decode b_Mo_enter 1 = .ok (.iconst 0, 1) := by decide +kernel
theorem d_Mo_enter_2 : decode b_Mo_enter 2 = .ok (.putfield 16, 3) := by decide +kernel
theorem d_Mo_enter_5 : decode b_Mo_enter 5 = .ok (.aload_n 0, 1) := by decide +kernel
theorem d_Mo_enter_6 : decode b_Mo_enter 6 = .ok (.iload_n 1, 1) := by decide +kernel
theorem d_Mo_enter_7 : decode b_Mo_enter 7 = .ok (.iload_n 2, 1) := by decide +kernel
theorem d_Mo_enter_8 : decode b_Mo_enter 8 = .ok (.iload_n 3, 1) := by decide +kernel
theorem d_Mo_enter_9 : decode b_Mo_enter 9 = .ok (.iload 4, 2) := by decide +kernel
theorem d_Mo_enter_11 : decode b_Mo_enter 11 = .ok (.iload 5, 2) := by decide +kernel
theorem d_Mo_enter_13 : decode b_Mo_enter 13 = .ok (.invokevirtual 113, 3) := by decide +kernel
theorem d_Mo_enter_16 : decode b_Mo_enter 16 = .ok (.ireturn, 1) := by decide +kernel
theorem d_Mo_of_0 : decode b_Mo_of 0 = .ok (.aload_n 0, 1) := by decide +kernel
theorem d_Mo_of_1 : decode b_Mo_of 1 = .ok (.getfield 7, 3) := by decide +kernel
theorem d_Mo_of_4 : decode b_Mo_of 4 = .ok (.sipush 1517, 3) := by decide +kernel
theorem d_Mo_of_7 : decode b_Mo_of 7 = .ok (.bipush 8, 2) := by decide +kernel
theorem d_Mo_of_9 : decode b_Mo_of 9 = .ok (.iload_n 1, 1) := by decide +kernel
theorem d_Mo_of_10 : decode b_Mo_of 10 = .ok (.imul, 1) := by decide +kernel
theorem d_Mo_of_11 : decode b_Mo_of 11 = .ok (.iadd, 1) := by decide +kernel
theorem d_Mo_of_12 : decode b_Mo_of 12 = .ok (.iload_n 2, 1) := by decide +kernel
theorem d_Mo_of_13 : decode b_Mo_of 13 = .ok (.iadd, 1) := by decide +kernel
theorem d_Mo_of_14 : decode b_Mo_of 14 = .ok (.iaload, 1) := by decide +kernel
theorem d_Mo_of_15 : decode b_Mo_of 15 = .ok (.ireturn, 1) := by decide +kernel
theorem d_Mo_both_0 : decode b_Mo_both 0 = .ok (.aload_n 0, 1) := by decide +kernel
theorem d_Mo_both_1 : decode b_Mo_both 1 = .ok (.iload_n 1, 1) := by decide +kernel
theorem d_Mo_both_2 : decode b_Mo_both 2 = .ok (.iload_n 2, 1) := by decide +kernel
theorem d_Mo_both_3 : decode b_Mo_both 3 = .ok (.iload 4, 2) := by decide +kernel
theorem d_Mo_both_5 : decode b_Mo_both 5 = .ok (.invokevirtual 57, 3) := by decide +kernel
theorem d_Mo_both_8 : decode b_Mo_both 8 = .ok (.istore 6, 2) := by decide +kernel
theorem d_Mo_both_10 : decode b_Mo_both 10 = .ok (.aload_n 0, 1) := by decide +kernel
theorem d_Mo_both_11 : decode b_Mo_both 11 = .ok (.getfield 16, 3) := by decide +kernel
theorem d_Mo_both_14 : decode b_Mo_both 14 = .ok (.ifCond .ne 15, 3) := by decide +kernel
theorem d_Mo_both_17 : decode b_Mo_both 17 = .ok (.aload_n 0, 1) := by decide +kernel
theorem d_Mo_both_18 : decode b_Mo_both 18 = .ok (.iload 6, 2) := by decide +kernel
theorem d_Mo_both_20 : decode b_Mo_both 20 = .ok (.iload_n 3, 1) := by decide +kernel
theorem d_Mo_both_21 : decode b_Mo_both 21 = .ok (.iload 5, 2) := by decide +kernel
theorem d_Mo_both_23 : decode b_Mo_both 23 = .ok (.invokevirtual 57, 3) := by decide +kernel
theorem d_Mo_both_26 : decode b_Mo_both 26 = .ok (.goto 4, 3) := by decide +kernel
theorem d_Mo_both_29 : decode b_Mo_both 29 = .ok (.iconst 0, 1) := by decide +kernel
theorem d_Mo_both_30 : decode b_Mo_both 30 = .ok (.ireturn, 1) := by decide +kernel
theorem d_Mo_user_0 : decode b_Mo_user 0 = .ok (.aload_n 0, 1) := by decide +kernel
theorem d_Mo_user_1 : decode b_Mo_user 1 = .ok (.iconst 0, 1) := by decide +kernel
theorem d_Mo_user_2 : decode b_Mo_user 2 = .ok (.putfield 16, 3) := by decide +kernel
theorem d_Mo_user_5 : decode b_Mo_user 5 = .ok (.iload_n 2, 1) := by decide +kernel
theorem d_Mo_user_6 : decode b_Mo_user 6 = .ok (.iconst 0, 1) := by decide +kernel
theorem d_Mo_user_7 : decode b_Mo_user 7 = .ok (.iconst 3, 1) := by decide +kernel
theorem d_Mo_user_8 : decode b_Mo_user 8 = .ok (.invokestatic 28, 3) := by decide +kernel
theorem d_Mo_user_11 : decode b_Mo_user 11 = .ok (.ifCond .eq 13, 3) := by decide +kernel
theorem d_Mo_user_14 : decode b_Mo_user 14 = .ok (.aload_n 0, 1) := by decide +kernel
theorem d_Mo_user_15 : decode b_Mo_user 15 = .ok (.iload_n 2, 1) := by decide +kernel
theorem d_Mo_user_16 : decode b_Mo_user 16 = .ok (.iconst 0, 1) := by decide +kernel
theorem d_Mo_user_17 : decode b_Mo_user 17 = .ok (.invokevirtual 116, 3) := by decide +kernel
theorem d_Mo_user_20 : decode b_Mo_user 20 = .ok (.iconst 1, 1) := by decide +kernel
theorem d_Mo_user_21 : decode b_Mo_user 21 = .ok (.if_icmp .ne 9, 3) := by decide +kernel
theorem d_Mo_user_24 : decode b_Mo_user 24 = .ok (.aload_n 0, 1) := by decide +kernel
theorem d_Mo_user_25 : decode b_Mo_user 25 = .ok (.iconst 1, 1) := by decide +kernel
theorem d_Mo_user_26 : decode b_Mo_user 26 = .ok (.invokevirtual 51, 3) := by decide +kernel
theorem d_Mo_user_29 : decode b_Mo_user 29 = .ok (.ireturn, 1) := by decide +kernel
theorem d_Mo_user_30 : decode b_Mo_user 30 = .ok (.aload_n 0, 1) := by decide +kernel
theorem d_Mo_user_31 : decode b_Mo_user 31 = .ok (.iload_n 1, 1) := by decide +kernel
theorem d_Mo_user_32 : decode b_Mo_user 32 = .ok (.invokevirtual 63, 3) := by decide +kernel
theorem d_Mo_user_35 : decode b_Mo_user 35 = .ok (.istore 4, 2) := by decide +kernel
theorem d_Mo_user_37 : decode b_Mo_user 37 = .ok (.aload_n 0, 1) := by decide +kernel
theorem d_Mo_user_38 : decode b_Mo_user 38 = .ok (.getfield 16, 3) := by decide +kernel
theorem d_Mo_user_41 : decode b_Mo_user 41 = .ok (.ifCond .ne 11, 3) := by decide +kernel
theorem d_Mo_user_44 : decode b_Mo_user 44 = .ok (.aload_n 0, 1) := by decide +kernel
theorem d_Mo_user_45 : decode b_Mo_user 45 = .ok (.iload_n 1, 1) := by decide +kernel
theorem d_Mo_user_46 : decode b_Mo_user 46 = .ok (.invokevirtual 63, 3) := by decide +kernel
theorem d_Mo_user_49 : decode b_Mo_user 49 = .ok (.goto 4, 3) := by decide +kernel
theorem d_Mo_user_52 : decode b_Mo_user 52 = .ok (.iconst 0, 1) := by decide +kernel
theorem d_Mo_user_53 : decode b_Mo_user 53 = .ok (.istore 5, 2) := by decide +kernel
theorem d_Mo_user_55 : decode b_Mo_user 55 = .ok (.aload_n 0, 1) := by decide +kernel
theorem d_Mo_user_56 : decode b_Mo_user 56 = .ok (.getfield 16, 3) := by decide +kernel
theorem d_Mo_user_59 : decode b_Mo_user 59 = .ok (.ifCond .ne 17, 3) := by decide +kernel
theorem d_Mo_user_62 : decode b_Mo_user 62 = .ok (.aload_n 0, 1) := by decide +kernel
theorem d_Mo_user_63 : decode b_Mo_user 63 = .ok (.iconst 0, 1) := by decide +kernel
theorem d_Mo_user_64 : decode b_Mo_user 64 = .ok (.iload 4, 2) := by decide +kernel
theorem d_Mo_user_66 : decode b_Mo_user 66 = .ok (.iload 5, 2) := by decide +kernel
theorem d_Mo_user_68 : decode b_Mo_user 68 = .ok (.iconst 3, 1) := by decide +kernel
theorem d_Mo_user_69 : decode b_Mo_user 69 = .ok (.iconst 0, 1) := by decide +kernel
theorem d_Mo_user_70 : decode b_Mo_user 70 = .ok (.invokevirtual 119, 3) := by decide +kernel
theorem d_Mo_user_73 : decode b_Mo_user 73 = .ok (.goto 4, 3) := by decide +kernel
theorem d_Mo_user_76 : decode b_Mo_user 76 = .ok (.iconst 0, 1) := by decide +kernel
theorem d_Mo_user_77 : decode b_Mo_user 77 = .ok (.istore 6, 2) := by decide +kernel
theorem d_Mo_user_79 : decode b_Mo_user 79 = .ok (.aload_n 0, 1) := by decide +kernel
theorem d_Mo_user_80 : decode b_Mo_user 80 = .ok (.getfield 16, 3) := by decide +kernel
theorem d_Mo_user_83 : decode b_Mo_user 83 = .ok (.ifCond .ne 16, 3) := by decide +kernel
theorem d_Mo_user_86 : decode b_Mo_user 86 = .ok (.aload_n 0, 1) := by decide +kernel
theorem d_Mo_user_87 : decode b_Mo_user 87 = .ok (.iload_n 1, 1) := by decide +kernel
theorem d_Mo_user_88 : decode b_Mo_user 88 = .ok (.iconst 1, 1) := by decide +kernel
theorem d_Mo_user_89 : decode b_Mo_user 89 = .ok (.iload 6, 2) := by decide +kernel
theorem d_Mo_user_91 : decode b_Mo_user 91 = .ok (.bipush 40, 2) := by decide +kernel
theorem d_Mo_user_93 : decode b_Mo_user 93 = .ok (.invokevirtual 88, 3) := by decide +kernel
theorem d_Mo_user_96 : decode b_Mo_user 96 = .ok (.goto 4, 3) := by decide +kernel
theorem d_Mo_user_99 : decode b_Mo_user 99 = .ok (.iconst 0, 1) := by decide +kernel
theorem d_Mo_user_100 : decode b_Mo_user 100 = .ok (.istore 7, 2) := by decide +kernel
theorem d_Mo_user_102 : decode b_Mo_user 102 = .ok (.aload_n 0, 1) := by decide +kernel
theorem d_Mo_user_103 : decode b_Mo_user 103 = .ok (.getfield 16, 3) := by decide +kernel
theorem d_Mo_user_106 : decode b_Mo_user 106 = .ok (.ifCond .ne 16, 3) := by decide +kernel
theorem d_Mo_user_109 : decode b_Mo_user 109 = .ok (.aload_n 0, 1) := by decide +kernel
theorem d_Mo_user_110 : decode b_Mo_user 110 = .ok (.iload_n 1, 1) := by decide +kernel
theorem d_Mo_user_111 : decode b_Mo_user 111 = .ok (.iload 7, 2) := by decide +kernel
theorem d_Mo_user_113 : decode b_Mo_user 113 = .ok (.iload 6, 2) := by decide +kernel
theorem d_Mo_user_115 : decode b_Mo_user 115 = .ok (.iconst 4, 1) := by decide +kernel
theorem d_Mo_user_116 : decode b_Mo_user 116 = .ok (.invokevirtual 92, 3) := by decide +kernel
theorem d_Mo_user_119 : decode b_Mo_user 119 = .ok (.goto 4, 3) := by decide +kernel
theorem d_Mo_user_122 : decode b_Mo_user 122 = .ok (.iconst 0, 1) := by decide +kernel
theorem d_Mo_user_123 : decode b_Mo_user 123 = .ok (.istore 8, 2) := by decide +kernel
theorem d_Mo_user_125 : decode b_Mo_user 125 = .ok (.aload_n 0, 1) := by decide +kernel
theorem d_Mo_user_126 : decode b_Mo_user 126 = .ok (.getfield 16, 3) := by decide +kernel
theorem d_Mo_user_129 : decode b_Mo_user 129 = .ok (.ifCond .ne 17, 3) := by decide +kernel
theorem d_Mo_user_132 : decode b_Mo_user 132 = .ok (.aload_n 0, 1) := by decide +kernel
theorem d_Mo_user_133 : decode b_Mo_user 133 = .ok (.iconst 0, 1) := by decide +kernel
theorem d_Mo_user_134 : decode b_Mo_user 134 = .ok (.iload 4, 2) := by decide +kernel
theorem d_Mo_user_136 : decode b_Mo_user 136 = .ok (.iload 5, 2) := by decide +kernel
theorem d_Mo_user_138 : decode b_Mo_user 138 = .ok (.iconst 4, 1) := by decide +kernel
theorem d_Mo_user_139 : decode b_Mo_user 139 = .ok (.iconst 4, 1) := by decide +kernel
theorem d_Mo_user_140 : decode b_Mo_user 140 = .ok (.invokevirtual 119, 3) := by decide +kernel
theorem d_Mo_user_143 : decode b_Mo_user 143 = .ok (.goto 4, 3) := by decide +kernel
theorem d_Mo_user_146 : decode b_Mo_user 146 = .ok (.iconst 0, 1) := by decide +kernel
theorem d_Mo_user_147 : decode b_Mo_user 147 = .ok (.istore 9, 2) := by decide +kernel
theorem d_Mo_user_149 : decode b_Mo_user 149 = .ok (.aload_n 0, 1) := by decide +kernel
theorem d_Mo_user_150 : decode b_Mo_user 150 = .ok (.getfield 16, 3) := by decide +kernel
theorem d_Mo_user_153 : decode b_Mo_user 153 = .ok (.ifCond .ne 16, 3) := by decide +kernel
theorem d_Mo_user_156 : decode b_Mo_user 156 = .ok (.aload_n 0, 1) := by decide +kernel
theorem d_Mo_user_157 : decode b_Mo_user 157 = .ok (.iload_n 1, 1) := by decide +kernel
theorem d_Mo_user_158 : decode b_Mo_user 158 = .ok (.iconst 1, 1) := by decide +kernel
theorem d_Mo_user_159 : decode b_Mo_user 159 = .ok (.iload 9, 2) := by decide +kernel
theorem d_Mo_user_161 : decode b_Mo_user 161 = .ok (.iconst 1, 1) := by decide +kernel
theorem d_Mo_user_162 : decode b_Mo_user 162 = .ok (.iload_n 2, 1) := by decide +kernel
theorem d_Mo_user_163 : decode b_Mo_user 163 = .ok (.invokevirtual 95, 3) := by decide +kernel
theorem d_Mo_user_166 : decode b_Mo_user 166 = .ok (.goto 4, 3) := by decide +kernel
theorem d_Mo_user_169 : decode b_Mo_user 169 = .ok (.iconst 0, 1) := by decide +kernel
theorem d_Mo_user_170 : decode b_Mo_user 170 = .ok (.istore 10, 2) := by decide +kernel
theorem d_Mo_user_172 : decode b_Mo_user 172 = .ok (.aload_n 0, 1) := by decide +kernel
theorem d_Mo_user_173 : decode b_Mo_user 173 = .ok (.getfield 16, 3) := by decide +kernel
theorem d_Mo_user_176 : decode b_Mo_user 176 = .ok (.ifCond .eq 5, 3) := by decide +kernel
theorem d_Mo_user_179 : decode b_Mo_user 179 = .ok (.iconst 0, 1) := by decide +kernel
theorem d_Mo_user_180 : decode b_Mo_user 180 = .ok (.ireturn, 1) := by decide +kernel
theorem d_Mo_user_181 : decode b_Mo_user 181 = .ok (.sipush 1517, 3) := by decide +kernel
theorem d_Mo_user_184 : decode b_Mo_user 184 = .ok (.bipush 8, 2) := by decide +kernel
theorem d_Mo_user_186 : decode b_Mo_user 186 = .ok (.iload_n 2, 1) := by decide +kernel
theorem d_Mo_user_187 : decode b_Mo_user 187 = .ok (.imul, 1) := by decide +kernel
theorem d_Mo_user_188 : decode b_Mo_user 188 = .ok (.iadd, 1) := by decide +kernel
theorem d_Mo_user_189 : decode b_Mo_user 189 = .ok (.istore 11, 2) := by decide +kernel
theorem d_Mo_user_191 : decode b_Mo_user 191 = .ok (.aload_n 0, 1) := by decide +kernel
theorem d_Mo_user_192 : decode b_Mo_user 192 = .ok (.getfield 7, 3) := by decide +kernel
theorem d_Mo_user_195 : decode b_Mo_user 195 = .ok (.iload 11, 2) := by decide +kernel
theorem d_Mo_user_197 : decode b_Mo_user 197 = .ok (.iconst 1, 1) := by decide +kernel
theorem d_Mo_user_198 : decode b_Mo_user 198 = .ok (.iastore, 1) := by decide +kernel
theorem d_Mo_user_199 : decode b_Mo_user 199 = .ok (.aload_n 0, 1) := by decide +kernel
theorem d_Mo_user_200 : decode b_Mo_user 200 = .ok (.getfield 7, 3) := by decide +kernel
theorem d_Mo_user_203 : decode b_Mo_user 203 = .ok (.iload 11, 2) := by decide +kernel
theorem d_Mo_user_205 : decode b_Mo_user 205 = .ok (.iconst 1, 1) := by decide +kernel
theorem d_Mo_user_206 : decode b_Mo_user 206 = .ok (.iadd, 1) := by decide +kernel
theorem d_Mo_user_207 : decode b_Mo_user 207 = .ok (.iload_n 3, 1) := by decide +kernel
theorem d_Mo_user_208 : decode b_Mo_user 208 = .ok (.iastore, 1) := by decide +kernel
theorem d_Mo_user_209 : decode b_Mo_user 209 = .ok (.aload_n 0, 1) := by decide +kernel
theorem d_Mo_user_210 : decode b_Mo_user 210 = .ok (.getfield 7, 3) := by decide +kernel
theorem d_Mo_user_213 : decode b_Mo_user 213 = .ok (.iload 11, 2) := by decide +kernel
theorem d_Mo_user_215 : decode b_Mo_user 215 = .ok (.iconst 2, 1) := by decide +kernel
theorem d_Mo_user_216 : decode b_Mo_user 216 = .ok (.iadd, 1) := by decide +kernel
theorem d_Mo_user_217 : decode b_Mo_user 217 = .ok (.iload 4, 2) := by decide +kernel
theorem d_Mo_user_219 : decode b_Mo_user 219 = .ok (.iastore, 1) := by decide +kernel
theorem d_Mo_user_220 : decode b_Mo_user 220 = .ok (.aload_n 0, 1) := by decide +kernel
theorem d_Mo_user_221 : decode b_Mo_user 221 = .ok (.getfield 7, 3) := by decide +kernel
theorem d_Mo_user_224 : decode b_Mo_user 224 = .ok (.iload 11, 2) := by decide +kernel
theorem d_Mo_user_226 : decode b_Mo_user 226 = .ok (.iconst 3, 1) := by decide +kernel
theorem d_Mo_user_227 : decode b_Mo_user 227 = .ok (.iadd, 1) := by decide +kernel
theorem d_Mo_user_228 : decode b_Mo_user 228 = .ok (.iload 5, 2) := by decide +kernel
theorem d_Mo_user_230 : decode b_Mo_user 230 = .ok (.iastore, 1) := by decide +kernel
theorem d_Mo_user_231 : decode b_Mo_user 231 = .ok (.aload_n 0, 1) := by decide +kernel
theorem d_Mo_user_232 : decode b_Mo_user 232 = .ok (.getfield 7, 3) := by decide +kernel
theorem d_Mo_user_235 : decode b_Mo_user 235 = .ok (.iload 11, 2) := by decide +kernel
theorem d_Mo_user_237 : decode b_Mo_user 237 = .ok (.iconst 4, 1) := by decide +kernel
theorem d_Mo_user_238 : decode b_Mo_user 238 = .ok (.iadd, 1) := by decide +kernel
theorem d_Mo_user_239 : decode b_Mo_user 239 = .ok (.iload 7, 2) := by decide +kernel
theorem d_Mo_user_241 : decode b_Mo_user 241 = .ok (.iastore, 1) := by decide +kernel
theorem d_Mo_user_242 : decode b_Mo_user 242 = .ok (.aload_n 0, 1) := by decide +kernel
theorem d_Mo_user_243 : decode b_Mo_user 243 = .ok (.getfield 7, 3) := by decide +kernel
theorem d_Mo_user_246 : decode b_Mo_user 246 = .ok (.iload 11, 2) := by decide +kernel
theorem d_Mo_user_248 : decode b_Mo_user 248 = .ok (.iconst 5, 1) := by decide +kernel
theorem d_Mo_user_249 : decode b_Mo_user 249 = .ok (.iadd, 1) := by decide +kernel
theorem d_Mo_user_250 : decode b_Mo_user 250 = .ok (.iload 8, 2) := by decide +kernel
theorem d_Mo_user_252 : decode b_Mo_user 252 = .ok (.iastore, 1) := by decide +kernel
theorem d_Mo_user_253 : decode b_Mo_user 253 = .ok (.aload_n 0, 1) := by decide +kernel
theorem d_Mo_user_254 : decode b_Mo_user 254 = .ok (.getfield 7, 3) := by decide +kernel
theorem d_Mo_user_257 : decode b_Mo_user 257 = .ok (.iload 11, 2) := by decide +kernel
theorem d_Mo_user_259 : decode b_Mo_user 259 = .ok (.bipush 6, 2) := by decide +kernel
theorem d_Mo_user_261 : decode b_Mo_user 261 = .ok (.iadd, 1) := by decide +kernel
theorem d_Mo_user_262 : decode b_Mo_user 262 = .ok (.iload 10, 2) := by decide +kernel
theorem d_Mo_user_264 : decode b_Mo_user 264 = .ok (.iastore, 1) := by decide +kernel
theorem d_Mo_user_265 : decode b_Mo_user 265 = .ok (.iload 7, 2) := by decide +kernel
theorem d_Mo_user_267 : decode b_Mo_user 267 = .ok (.ireturn, 1) := by decide +kernel
theorem d_Mo_login_0 : decode b_Mo_login 0 = .ok (.aload_n 0, 1) := by decide +kernel
theorem d_Mo_login_1 : decode b_Mo_login 1 = .ok (.iconst 0, 1) := by decide +kernel
theorem d_Mo_login_2 : decode b_Mo_login 2 = .ok (.putfield 16, 3) := by decide +kernel
theorem d_Mo_login_5 : decode b_Mo_login 5 = .ok (.iload_n 2, 1) := by decide +kernel
theorem d_Mo_login_6 : decode b_Mo_login 6 = .ok (.iconst 0, 1) := by decide +kernel
theorem d_Mo_login_7 : decode b_Mo_login 7 = .ok (.iconst 3, 1) := by decide +kernel
theorem d_Mo_login_8 : decode b_Mo_login 8 = .ok (.invokestatic 28, 3) := by decide +kernel
theorem d_Mo_login_11 : decode b_Mo_login 11 = .ok (.ifCond .ne 9, 3) := by decide +kernel
theorem d_Mo_login_14 : decode b_Mo_login 14 = .ok (.aload_n 0, 1) := by decide +kernel
theorem d_Mo_login_15 : decode b_Mo_login 15 = .ok (.iconst 1, 1) := by decide +kernel
theorem d_Mo_login_16 : decode b_Mo_login 16 = .ok (.invokevirtual 51, 3) := by decide +kernel
theorem d_Mo_login_19 : decode b_Mo_login 19 = .ok (.ireturn, 1) := by decide +kernel
theorem d_Mo_login_20 : decode b_Mo_login 20 = .ok (.aload_n 0, 1) := by decide +kernel
theorem d_Mo_login_21 : decode b_Mo_login 21 = .ok (.iload_n 2, 1) := by decide +kernel
theorem d_Mo_login_22 : decode b_Mo_login 22 = .ok (.iconst 0, 1) := by decide +kernel
theorem d_Mo_login_23 : decode b_Mo_login 23 = .ok (.invokevirtual 116, 3) := by decide +kernel
theorem d_Mo_login_26 : decode b_Mo_login 26 = .ok (.ifCond .ne 9, 3) := by decide +kernel
theorem d_Mo_login_29 : decode b_Mo_login 29 = .ok (.aload_n 0, 1) := by decide +kernel
theorem d_Mo_login_30 : decode b_Mo_login 30 = .ok (.iconst 2, 1) := by decide +kernel
theorem d_Mo_login_31 : decode b_Mo_login 31 = .ok (.invokevirtual 51, 3) := by decide +kernel
theorem d_Mo_login_34 : decode b_Mo_login 34 = .ok (.ireturn, 1) := by decide +kernel
theorem d_Mo_login_35 : decode b_Mo_login 35 = .ok (.aload_n 0, 1) := by decide +kernel
theorem d_Mo_login_36 : decode b_Mo_login 36 = .ok (.iload_n 2, 1) := by decide +kernel
theorem d_Mo_login_37 : decode b_Mo_login 37 = .ok (.iconst 1, 1) := by decide +kernel
theorem d_Mo_login_38 : decode b_Mo_login 38 = .ok (.invokevirtual 116, 3) := by decide +kernel
theorem d_Mo_login_41 : decode b_Mo_login 41 = .ok (.iload_n 3, 1) := by decide +kernel
theorem d_Mo_login_42 : decode b_Mo_login 42 = .ok (.if_icmp .eq 9, 3) := by decide +kernel
theorem d_Mo_login_45 : decode b_Mo_login 45 = .ok (.aload_n 0, 1) := by decide +kernel
theorem d_Mo_login_46 : decode b_Mo_login 46 = .ok (.iconst 3, 1) := by decide +kernel
theorem d_Mo_login_47 : decode b_Mo_login 47 = .ok (.invokevirtual 51, 3) := by decide +kernel
theorem d_Mo_login_50 : decode b_Mo_login 50 = .ok (.ireturn, 1) := by decide +kernel
theorem d_Mo_login_51 : decode b_Mo_login 51 = .ok (.aload_n 0, 1) := by decide +kernel
theorem d_Mo_login_52 : decode b_Mo_login 52 = .ok (.iload_n 1, 1) := by decide +kernel
theorem d_Mo_login_53 : decode b_Mo_login 53 = .ok (.invokevirtual 60, 3) := by decide +kernel
theorem d_Mo_login_56 : decode b_Mo_login 56 = .ok (.ifCond .ne 5, 3) := by decide +kernel
theorem d_Mo_login_59 : decode b_Mo_login 59 = .ok (.iconst 0, 1) := by decide +kernel
theorem d_Mo_login_60 : decode b_Mo_login 60 = .ok (.ireturn, 1) := by decide +kernel
theorem d_Mo_login_61 : decode b_Mo_login 61 = .ok (.aload_n 0, 1) := by decide +kernel
theorem d_Mo_login_62 : decode b_Mo_login 62 = .ok (.iload_n 2, 1) := by decide +kernel
theorem d_Mo_login_63 : decode b_Mo_login 63 = .ok (.iconst 2, 1) := by decide +kernel
theorem d_Mo_login_64 : decode b_Mo_login 64 = .ok (.invokevirtual 116, 3) := by decide +kernel
theorem d_Mo_login_67 : decode b_Mo_login 67 = .ok (.istore 4, 2) := by decide +kernel
theorem d_Mo_login_69 : decode b_Mo_login 69 = .ok (.aload_n 0, 1) := by decide +kernel
theorem d_Mo_login_70 : decode b_Mo_login 70 = .ok (.iload_n 2, 1) := by decide +kernel
theorem d_Mo_login_71 : decode b_Mo_login 71 = .ok (.iconst 3, 1) := by decide +kernel
theorem d_Mo_login_72 : decode b_Mo_login 72 = .ok (.invokevirtual 116, 3) := by decide +kernel
theorem d_Mo_login_75 : decode b_Mo_login 75 = .ok (.istore 5, 2) := by decide +kernel
theorem d_Mo_login_77 : decode b_Mo_login 77 = .ok (.aload_n 0, 1) := by decide +kernel
theorem d_Mo_login_78 : decode b_Mo_login 78 = .ok (.aload_n 0, 1) := by decide +kernel
theorem d_Mo_login_79 : decode b_Mo_login 79 = .ok (.iload_n 1, 1) := by decide +kernel
theorem d_Mo_login_80 : decode b_Mo_login 80 = .ok (.iconst 2, 1) := by decide +kernel
theorem d_Mo_login_81 : decode b_Mo_login 81 = .ok (.invokevirtual 32, 3) := by decide +kernel
theorem d_Mo_login_84 : decode b_Mo_login 84 = .ok (.iload 4, 2) := by decide +kernel
theorem d_Mo_login_86 : decode b_Mo_login 86 = .ok (.iload 5, 2) := by decide +kernel
theorem d_Mo_login_88 : decode b_Mo_login 88 = .ok (.iconst 4, 1) := by decide +kernel
theorem d_Mo_login_89 : decode b_Mo_login 89 = .ok (.iconst 4, 1) := by decide +kernel
theorem d_Mo_login_90 : decode b_Mo_login 90 = .ok (.invokevirtual 119, 3) := by decide +kernel
theorem d_Mo_login_93 : decode b_Mo_login 93 = .ok (.istore 6, 2) := by decide +kernel
theorem d_Mo_login_95 : decode b_Mo_login 95 = .ok (.aload_n 0, 1) := by decide +kernel
theorem d_Mo_login_96 : decode b_Mo_login 96 = .ok (.getfield 16, 3) := by decide +kernel
theorem d_Mo_login_99 : decode b_Mo_login 99 = .ok (.ifCond .ne 23, 3) := by decide +kernel
theorem d_Mo_login_102 : decode b_Mo_login 102 = .ok (.aload_n 0, 1) := by decide +kernel
theorem d_Mo_login_103 : decode b_Mo_login 103 = .ok (.aload_n 0, 1) := by decide +kernel
theorem d_Mo_login_104 : decode b_Mo_login 104 = .ok (.iload_n 1, 1) := by decide +kernel
theorem d_Mo_login_105 : decode b_Mo_login 105 = .ok (.bipush 6, 2) := by decide +kernel
theorem d_Mo_login_107 : decode b_Mo_login 107 = .ok (.invokevirtual 32, 3) := by decide +kernel
theorem d_Mo_login_110 : decode b_Mo_login 110 = .ok (.iload 4, 2) := by decide +kernel
theorem d_Mo_login_112 : decode b_Mo_login 112 = .ok (.iload 5, 2) := by decide +kernel
theorem d_Mo_login_114 : decode b_Mo_login 114 = .ok (.iconst 3, 1) := by decide +kernel
theorem d_Mo_login_115 : decode b_Mo_login 115 = .ok (.iconst 3, 1) := by decide +kernel
theorem d_Mo_login_116 : decode b_Mo_login 116 = .ok (.invokevirtual 119, 3) := by decide +kernel
theorem d_Mo_login_119 : decode b_Mo_login 119 = .ok (.goto 4, 3) := by decide +kernel
theorem d_Mo_login_122 : decode b_Mo_login 122 = .ok (.iconst 0, 1) := by decide +kernel
theorem d_Mo_login_123 : decode b_Mo_login 123 = .ok (.istore 7, 2) := by decide +kernel
theorem d_Mo_login_125 : decode b_Mo_login 125 = .ok (.aload_n 0, 1) := by decide +kernel
theorem d_Mo_login_126 : decode b_Mo_login 126 = .ok (.getfield 16, 3) := by decide +kernel
theorem d_Mo_login_129 : decode b_Mo_login 129 = .ok (.ifCond .ne 23, 3) := by decide +kernel
theorem d_Mo_login_132 : decode b_Mo_login 132 = .ok (.aload_n 0, 1) := by decide +kernel
theorem d_Mo_login_133 : decode b_Mo_login 133 = .ok (.iload_n 1, 1) := by decide +kernel
theorem d_Mo_login_134 : decode b_Mo_login 134 = .ok (.iconst 1, 1) := by decide +kernel
theorem d_Mo_login_135 : decode b_Mo_login 135 = .ok (.aload_n 0, 1) := by decide +kernel
theorem d_Mo_login_136 : decode b_Mo_login 136 = .ok (.iload_n 2, 1) := by decide +kernel
theorem d_Mo_login_137 : decode b_Mo_login 137 = .ok (.bipush 6, 2) := by decide +kernel
theorem d_Mo_login_139 : decode b_Mo_login 139 = .ok (.invokevirtual 116, 3) := by decide +kernel
theorem d_Mo_login_142 : decode b_Mo_login 142 = .ok (.iload 6, 2) := by decide +kernel
theorem d_Mo_login_144 : decode b_Mo_login 144 = .ok (.iload 7, 2) := by decide +kernel
theorem d_Mo_login_146 : decode b_Mo_login 146 = .ok (.invokevirtual 113, 3) := by decide +kernel
theorem d_Mo_login_149 : decode b_Mo_login 149 = .ok (.goto 4, 3) := by decide +kernel
theorem d_Mo_login_152 : decode b_Mo_login 152 = .ok (.iconst 0, 1) := by decide +kernel
theorem d_Mo_login_153 : decode b_Mo_login 153 = .ok (.ireturn, 1) := by decide +kernel
theorem d_Mo_file_0 : decode b_Mo_file 0 = .ok (.aload_n 0, 1) := by decide +kernel
theorem d_Mo_file_1 : decode b_Mo_file 1 = .ok (.iconst 0, 1) := by decide +kernel
theorem d_Mo_file_2 : decode b_Mo_file 2 = .ok (.putfield 16, 3) := by decide +kernel
theorem d_Mo_file_5 : decode b_Mo_file 5 = .ok (.iload_n 2, 1) := by decide +kernel
theorem d_Mo_file_6 : decode b_Mo_file 6 = .ok (.iconst 0, 1) := by decide +kernel
theorem d_Mo_file_7 : decode b_Mo_file 7 = .ok (.iconst 3, 1) := by decide +kernel
theorem d_Mo_file_8 : decode b_Mo_file 8 = .ok (.invokestatic 28, 3) := by decide +kernel
theorem d_Mo_file_11 : decode b_Mo_file 11 = .ok (.ifCond .eq 23, 3) := by decide +kernel
theorem d_Mo_file_14 : decode b_Mo_file 14 = .ok (.iload_n 3, 1) := by decide +kernel
theorem d_Mo_file_15 : decode b_Mo_file 15 = .ok (.iconst 0, 1) := by decide +kernel
theorem d_Mo_file_16 : decode b_Mo_file 16 = .ok (.iconst 3, 1) := by decide +kernel
theorem d_Mo_file_17 : decode b_Mo_file 17 = .ok (.invokestatic 28, 3) := by decide +kernel
theorem d_Mo_file_20 : decode b_Mo_file 20 = .ok (.ifCond .eq 14, 3) := by decide +kernel
theorem d_Mo_file_23 : decode b_Mo_file 23 = .ok (.iload 4, 2) := by decide +kernel
theorem d_Mo_file_25 : decode b_Mo_file 25 = .ok (.iconst 1, 1) := by decide +kernel
theorem d_Mo_file_26 : decode b_Mo_file 26 = .ok (.bipush 8, 2) := by decide +kernel
theorem d_Mo_file_28 : decode b_Mo_file 28 = .ok (.invokestatic 28, 3) := by decide +kernel
theorem d_Mo_file_31 : decode b_Mo_file 31 = .ok (.ifCond .ne 9, 3) := by decide +kernel
theorem d_Mo_file_34 : decode b_Mo_file 34 = .ok (.aload_n 0, 1) := by decide +kernel
theorem d_Mo_file_35 : decode b_Mo_file 35 = .ok (.iconst 1, 1) := by decide +kernel
theorem d_Mo_file_36 : decode b_Mo_file 36 = .ok (.invokevirtual 51, 3) := by decide +kernel
theorem d_Mo_file_39 : decode b_Mo_file 39 = .ok (.ireturn, 1) := by decide +kernel
theorem d_Mo_file_40 : decode b_Mo_file 40 = .ok (.aload_n 0, 1) := by decide +kernel
theorem d_Mo_file_41 : decode b_Mo_file 41 = .ok (.iload_n 2, 1) := by decide +kernel
theorem d_Mo_file_42 : decode b_Mo_file 42 = .ok (.iconst 0, 1) := by decide +kernel
theorem d_Mo_file_43 : decode b_Mo_file 43 = .ok (.invokevirtual 116, 3) := by decide +kernel
theorem d_Mo_file_46 : decode b_Mo_file 46 = .ok (.ifCond .ne 9, 3) := by decide +kernel
theorem d_Mo_file_49 : decode b_Mo_file 49 = .ok (.aload_n 0, 1) := by decide +kernel
theorem d_Mo_file_50 : decode b_Mo_file 50 = .ok (.iconst 2, 1) := by decide +kernel
theorem d_Mo_file_51 : decode b_Mo_file 51 = .ok (.invokevirtual 51, 3) := by decide +kernel
theorem d_Mo_file_54 : decode b_Mo_file 54 = .ok (.ireturn, 1) := by decide +kernel
theorem d_Mo_file_55 : decode b_Mo_file 55 = .ok (.aload_n 0, 1) := by decide +kernel
theorem d_Mo_file_56 : decode b_Mo_file 56 = .ok (.iload_n 2, 1) := by decide +kernel
theorem d_Mo_file_57 : decode b_Mo_file 57 = .ok (.iconst 4, 1) := by decide +kernel
theorem d_Mo_file_58 : decode b_Mo_file 58 = .ok (.invokevirtual 116, 3) := by decide +kernel
theorem d_Mo_file_61 : decode b_Mo_file 61 = .ok (.istore 5, 2) := by decide +kernel
theorem d_Mo_file_63 : decode b_Mo_file 63 = .ok (.aload_n 0, 1) := by decide +kernel
theorem d_Mo_file_64 : decode b_Mo_file 64 = .ok (.iload_n 1, 1) := by decide +kernel
theorem d_Mo_file_65 : decode b_Mo_file 65 = .ok (.iload 5, 2) := by decide +kernel
theorem d_Mo_file_67 : decode b_Mo_file 67 = .ok (.aload_n 0, 1) := by decide +kernel
theorem d_Mo_file_68 : decode b_Mo_file 68 = .ok (.iload_n 2, 1) := by decide +kernel
theorem d_Mo_file_69 : decode b_Mo_file 69 = .ok (.iconst 5, 1) := by decide +kernel
theorem d_Mo_file_70 : decode b_Mo_file 70 = .ok (.invokevirtual 116, 3) := by decide +kernel
theorem d_Mo_file_73 : decode b_Mo_file 73 = .ok (.iload_n 3, 1) := by decide +kernel
theorem d_Mo_file_74 : decode b_Mo_file 74 = .ok (.iconst 0, 1) := by decide +kernel
theorem d_Mo_file_75 : decode b_Mo_file 75 = .ok (.iconst 0, 1) := by decide +kernel
theorem d_Mo_file_76 : decode b_Mo_file 76 = .ok (.invokevirtual 103, 3) := by decide +kernel
theorem d_Mo_file_79 : decode b_Mo_file 79 = .ok (.istore 6, 2) := by decide +kernel
theorem d_Mo_file_81 : decode b_Mo_file 81 = .ok (.aload_n 0, 1) := by decide +kernel
theorem d_Mo_file_82 : decode b_Mo_file 82 = .ok (.getfield 16, 3) := by decide +kernel
theorem d_Mo_file_85 : decode b_Mo_file 85 = .ok (.ifCond .ne 18, 3) := by decide +kernel
theorem d_Mo_file_88 : decode b_Mo_file 88 = .ok (.iload 6, 2) := by decide +kernel
theorem d_Mo_file_90 : decode b_Mo_file 90 = .ok (.ifCond .eq 13, 3) := by decide +kernel
theorem d_Mo_file_93 : decode b_Mo_file 93 = .ok (.aload_n 0, 1) := by decide +kernel
theorem d_Mo_file_94 : decode b_Mo_file 94 = .ok (.iload_n 1, 1) := by decide +kernel
theorem d_Mo_file_95 : decode b_Mo_file 95 = .ok (.iload 5, 2) := by decide +kernel
theorem d_Mo_file_97 : decode b_Mo_file 97 = .ok (.iload 6, 2) := by decide +kernel
theorem d_Mo_file_99 : decode b_Mo_file 99 = .ok (.invokevirtual 107, 3) := by decide +kernel
theorem d_Mo_file_102 : decode b_Mo_file 102 = .ok (.pop, 1) := by decide +kernel
theorem d_Mo_file_103 : decode b_Mo_file 103 = .ok (.aload_n 0, 1) := by decide +kernel
theorem d_Mo_file_104 : decode b_Mo_file 104 = .ok (.getfield 16, 3) := by decide +kernel
theorem d_Mo_file_107 : decode b_Mo_file 107 = .ok (.ifCond .ne 22, 3) := by decide +kernel
theorem d_Mo_file_110 : decode b_Mo_file 110 = .ok (.aload_n 0, 1) := by decide +kernel
theorem d_Mo_file_111 : decode b_Mo_file 111 = .ok (.iload_n 1, 1) := by decide +kernel
theorem d_Mo_file_112 : decode b_Mo_file 112 = .ok (.iload 5, 2) := by decide +kernel
theorem d_Mo_file_114 : decode b_Mo_file 114 = .ok (.aload_n 0, 1) := by decide +kernel
theorem d_Mo_file_115 : decode b_Mo_file 115 = .ok (.iload 5, 2) := by decide +kernel
theorem d_Mo_file_117 : decode b_Mo_file 117 = .ok (.iconst 2, 1) := by decide +kernel
theorem d_Mo_file_118 : decode b_Mo_file 118 = .ok (.invokevirtual 32, 3) := by decide +kernel
theorem d_Mo_file_121 : decode b_Mo_file 121 = .ok (.iload 4, 2) := by decide +kernel
theorem d_Mo_file_123 : decode b_Mo_file 123 = .ok (.invokevirtual 92, 3) := by decide +kernel
theorem d_Mo_file_126 : decode b_Mo_file 126 = .ok (.goto 4, 3) := by decide +kernel
theorem d_Mo_file_129 : decode b_Mo_file 129 = .ok (.iconst 0, 1) := by decide +kernel
theorem d_Mo_file_130 : decode b_Mo_file 130 = .ok (.istore 7, 2) := by decide +kernel
theorem d_Mo_file_132 : decode b_Mo_file 132 = .ok (.aload_n 0, 1) := by decide +kernel
theorem d_Mo_file_133 : decode b_Mo_file 133 = .ok (.getfield 16, 3) := by decide +kernel
theorem d_Mo_file_136 : decode b_Mo_file 136 = .ok (.ifCond .ne 21, 3) := by decide +kernel
theorem d_Mo_file_139 : decode b_Mo_file 139 = .ok (.aload_n 0, 1) := by decide +kernel
theorem d_Mo_file_140 : decode b_Mo_file 140 = .ok (.iload_n 1, 1) := by decide +kernel
theorem d_Mo_file_141 : decode b_Mo_file 141 = .ok (.iload 5, 2) := by decide +kernel
theorem d_Mo_file_143 : decode b_Mo_file 143 = .ok (.aload_n 0, 1) := by decide +kernel
theorem d_Mo_file_144 : decode b_Mo_file 144 = .ok (.iload_n 2, 1) := by decide +kernel
theorem d_Mo_file_145 : decode b_Mo_file 145 = .ok (.iconst 5, 1) := by decide +kernel
theorem d_Mo_file_146 : decode b_Mo_file 146 = .ok (.invokevirtual 116, 3) := by decide +kernel
theorem d_Mo_file_149 : decode b_Mo_file 149 = .ok (.iload_n 3, 1) := by decide +kernel
theorem d_Mo_file_150 : decode b_Mo_file 150 = .ok (.iconst 1, 1) := by decide +kernel
theorem d_Mo_file_151 : decode b_Mo_file 151 = .ok (.iload 7, 2) := by decide +kernel
theorem d_Mo_file_153 : decode b_Mo_file 153 = .ok (.invokevirtual 103, 3) := by decide +kernel
theorem d_Mo_file_156 : decode b_Mo_file 156 = .ok (.pop, 1) := by decide +kernel
theorem d_Mo_file_157 : decode b_Mo_file 157 = .ok (.iload 7, 2) := by decide +kernel
theorem d_Mo_file_159 : decode b_Mo_file 159 = .ok (.ireturn, 1) := by decide +kernel
theorem d_Mo_access_0 : decode b_Mo_access 0 = .ok (.aload_n 0, 1) := by decide +kernel
theorem d_Mo_access_1 : decode b_Mo_access 1 = .ok (.iconst 0, 1) := by decide +kernel
theorem d_Mo_access_2 : decode b_Mo_access 2 = .ok (.putfield 16, 3) := by decide +kernel
theorem d_Mo_access_5 : decode b_Mo_access 5 = .ok (.iload_n 2, 1) := by decide +kernel
theorem d_Mo_access_6 : decode b_Mo_access 6 = .ok (.iconst 0, 1) := by decide +kernel
theorem d_Mo_access_7 : decode b_Mo_access 7 = .ok (.iconst 3, 1) := by decide +kernel
theorem d_Mo_access_8 : decode b_Mo_access 8 = .ok (.invokestatic 28, 3) := by decide +kernel
theorem d_Mo_access_11 : decode b_Mo_access 11 = .ok (.ifCond .eq 23, 3) := by decide +kernel
theorem d_Mo_access_14 : decode b_Mo_access 14 = .ok (.iload_n 3, 1) := by decide +kernel
theorem d_Mo_access_15 : decode b_Mo_access 15 = .ok (.iconst 0, 1) := by decide +kernel
theorem d_Mo_access_16 : decode b_Mo_access 16 = .ok (.iconst 3, 1) := by decide +kernel
theorem d_Mo_access_17 : decode b_Mo_access 17 = .ok (.invokestatic 28, 3) := by decide +kernel
theorem d_Mo_access_20 : decode b_Mo_access 20 = .ok (.ifCond .eq 14, 3) := by decide +kernel
theorem d_Mo_access_23 : decode b_Mo_access 23 = .ok (.iload 4, 2) := by decide +kernel
theorem d_Mo_access_25 : decode b_Mo_access 25 = .ok (.iconst 0, 1) := by decide +kernel
theorem d_Mo_access_26 : decode b_Mo_access 26 = .ok (.bipush 7, 2) := by decide +kernel
theorem d_Mo_access_28 : decode b_Mo_access 28 = .ok (.invokestatic 28, 3) := by decide +kernel
theorem d_Mo_access_31 : decode b_Mo_access 31 = .ok (.ifCond .ne 9, 3) := by decide +kernel
theorem d_Mo_access_34 : decode b_Mo_access 34 = .ok (.aload_n 0, 1) := by decide +kernel
theorem d_Mo_access_35 : decode b_Mo_access 35 = .ok (.iconst 1, 1) := by decide +kernel
theorem d_Mo_access_36 : decode b_Mo_access 36 = .ok (.invokevirtual 51, 3) := by decide +kernel
theorem d_Mo_access_39 : decode b_Mo_access 39 = .ok (.ireturn, 1) := by decide +kernel
theorem d_Mo_access_40 : decode b_Mo_access 40 = .ok (.aload_n 0, 1) := by decide +kernel
theorem d_Mo_access_41 : decode b_Mo_access 41 = .ok (.iload_n 2, 1) := by decide +kernel
theorem d_Mo_access_42 : decode b_Mo_access 42 = .ok (.iconst 0, 1) := by decide +kernel
theorem d_Mo_access_43 : decode b_Mo_access 43 = .ok (.invokevirtual 116, 3) := by decide +kernel
theorem d_Mo_access_46 : decode b_Mo_access 46 = .ok (.ifCond .ne 9, 3) := by decide +kernel
theorem d_Mo_access_49 : decode b_Mo_access 49 = .ok (.aload_n 0, 1) := by decide +kernel
theorem d_Mo_access_50 : decode b_Mo_access 50 = .ok (.iconst 2, 1) := by decide +kernel
theorem d_Mo_access_51 : decode b_Mo_access 51 = .ok (.invokevirtual 51, 3) := by decide +kernel
theorem d_Mo_access_54 : decode b_Mo_access 54 = .ok (.ireturn, 1) := by decide +kernel
theorem d_Mo_access_55 : decode b_Mo_access 55 = .ok (.aload_n 0, 1) := by decide +kernel
theorem d_Mo_access_56 : decode b_Mo_access 56 = .ok (.iload_n 2, 1) := by decide +kernel
theorem d_Mo_access_57 : decode b_Mo_access 57 = .ok (.iconst 4, 1) := by decide +kernel
theorem d_Mo_access_58 : decode b_Mo_access 58 = .ok (.invokevirtual 116, 3) := by decide +kernel
theorem d_Mo_access_61 : decode b_Mo_access 61 = .ok (.istore 7, 2) := by decide +kernel
theorem d_Mo_access_63 : decode b_Mo_access 63 = .ok (.aload_n 0, 1) := by decide +kernel
theorem d_Mo_access_64 : decode b_Mo_access 64 = .ok (.iload_n 1, 1) := by decide +kernel
theorem d_Mo_access_65 : decode b_Mo_access 65 = .ok (.iload 7, 2) := by decide +kernel
theorem d_Mo_access_67 : decode b_Mo_access 67 = .ok (.aload_n 0, 1) := by decide +kernel
theorem d_Mo_access_68 : decode b_Mo_access 68 = .ok (.iload_n 2, 1) := by decide +kernel
theorem d_Mo_access_69 : decode b_Mo_access 69 = .ok (.iconst 5, 1) := by decide +kernel
theorem d_Mo_access_70 : decode b_Mo_access 70 = .ok (.invokevirtual 116, 3) := by decide +kernel
theorem d_Mo_access_73 : decode b_Mo_access 73 = .ok (.iload_n 3, 1) := by decide +kernel
theorem d_Mo_access_74 : decode b_Mo_access 74 = .ok (.iconst 0, 1) := by decide +kernel
theorem d_Mo_access_75 : decode b_Mo_access 75 = .ok (.iconst 0, 1) := by decide +kernel
theorem d_Mo_access_76 : decode b_Mo_access 76 = .ok (.invokevirtual 103, 3) := by decide +kernel
theorem d_Mo_access_79 : decode b_Mo_access 79 = .ok (.istore 8, 2) := by decide +kernel
theorem d_Mo_access_81 : decode b_Mo_access 81 = .ok (.aload_n 0, 1) := by decide +kernel
theorem d_Mo_access_82 : decode b_Mo_access 82 = .ok (.getfield 16, 3) := by decide +kernel
theorem d_Mo_access_85 : decode b_Mo_access 85 = .ok (.ifCond .ne 14, 3) := by decide +kernel
theorem d_Mo_access_88 : decode b_Mo_access 88 = .ok (.iload 8, 2) := by decide +kernel
theorem d_Mo_access_90 : decode b_Mo_access 90 = .ok (.ifCond .ne 9, 3) := by decide +kernel
theorem d_Mo_access_93 : decode b_Mo_access 93 = .ok (.aload_n 0, 1) := by decide +kernel
theorem d_Mo_access_94 : decode b_Mo_access 94 = .ok (.iconst 2, 1) := by decide +kernel
theorem d_Mo_access_95 : decode b_Mo_access 95 = .ok (.invokevirtual 51, 3) := by decide +kernel
theorem d_Mo_access_98 : decode b_Mo_access 98 = .ok (.ireturn, 1) := by decide +kernel
theorem d_Mo_access_99 : decode b_Mo_access 99 = .ok (.aload_n 0, 1) := by decide +kernel
theorem d_Mo_access_100 : decode b_Mo_access 100 = .ok (.getfield 16, 3) := by decide +kernel
theorem d_Mo_access_103 : decode b_Mo_access 103 = .ok (.ifCond .ne 21, 3) := by decide +kernel
theorem d_Mo_access_106 : decode b_Mo_access 106 = .ok (.aload_n 0, 1) := by decide +kernel
theorem d_Mo_access_107 : decode b_Mo_access 107 = .ok (.iload_n 1, 1) := by decide +kernel
theorem d_Mo_access_108 : decode b_Mo_access 108 = .ok (.iload 7, 2) := by decide +kernel
theorem d_Mo_access_110 : decode b_Mo_access 110 = .ok (.iload 8, 2) := by decide +kernel
theorem d_Mo_access_112 : decode b_Mo_access 112 = .ok (.iload 4, 2) := by decide +kernel
theorem d_Mo_access_114 : decode b_Mo_access 114 = .ok (.iload 5, 2) := by decide +kernel
theorem d_Mo_access_116 : decode b_Mo_access 116 = .ok (.iload 6, 2) := by decide +kernel
theorem d_Mo_access_118 : decode b_Mo_access 118 = .ok (.invokevirtual 103, 3) := by decide +kernel
theorem d_Mo_access_121 : decode b_Mo_access 121 = .ok (.goto 4, 3) := by decide +kernel
theorem d_Mo_access_124 : decode b_Mo_access 124 = .ok (.iconst 0, 1) := by decide +kernel
theorem d_Mo_access_125 : decode b_Mo_access 125 = .ok (.ireturn, 1) := by decide +kernel
theorem d_Mo_objects_0 : decode b_Mo_objects 0 = .ok (.iconst 0, 1) := by decide +kernel
theorem d_Mo_objects_1 : decode b_Mo_objects 1 = .ok (.istore_n 1, 1) := by decide +kernel
theorem d_Mo_objects_2 : decode b_Mo_objects 2 = .ok (.iconst 1, 1) := by decide +kernel
theorem d_Mo_objects_3 : decode b_Mo_objects 3 = .ok (.istore_n 2, 1) := by decide +kernel
theorem d_Mo_objects_4 : decode b_Mo_objects 4 = .ok (.iload_n 2, 1) := by decide +kernel
theorem d_Mo_objects_5 : decode b_Mo_objects 5 = .ok (.aload_n 0, 1) := by decide +kernel
theorem d_Mo_objects_6 : decode b_Mo_objects 6 = .ok (.getfield 7, 3) := by decide +kernel
theorem d_Mo_objects_9 : decode b_Mo_objects 9 = .ok (.sipush 1549, 3) := by decide +kernel
theorem d_Mo_objects_12 : decode b_Mo_objects 12 = .ok (.iaload, 1) := by decide +kernel
theorem d_Mo_objects_13 : decode b_Mo_objects 13 = .ok (.if_icmp .gt 18, 3) := by decide +kernel
theorem d_Mo_objects_16 : decode b_Mo_objects 16 = .ok (.iload_n 1, 1) := by decide +kernel
theorem d_Mo_objects_17 : decode b_Mo_objects 17 = .ok (.aload_n 0, 1) := by decide +kernel
theorem d_Mo_objects_18 : decode b_Mo_objects 18 = .ok (.iload_n 2, 1) := by decide +kernel
theorem d_Mo_objects_19 : decode b_Mo_objects 19 = .ok (.iconst 0, 1) := by decide +kernel
theorem d_Mo_objects_20 : decode b_Mo_objects 20 = .ok (.invokevirtual 32, 3) := by decide +kernel
theorem d_Mo_objects_23 : decode b_Mo_objects 23 = .ok (.iadd, 1) := by decide +kernel
theorem d_Mo_objects_24 : decode b_Mo_objects 24 = .ok (.istore_n 1, 1) := by decide +kernel
theorem d_Mo_objects_25 : decode b_Mo_objects 25 = .ok (.iinc 2 1, 3) := by decide +kernel
theorem d_Mo_objects_28 : decode b_Mo_objects 28 = .ok (.goto (-24), 3) := by decide +kernel
theorem d_Mo_objects_31 : decode b_Mo_objects 31 = .ok (.iload_n 1, 1) := by decide +kernel
theorem d_Mo_objects_32 : decode b_Mo_objects 32 = .ok (.ireturn, 1) := by decide +kernel
theorem d_Mo_snapshot_0 : decode b_Mo_snapshot 0 = .ok (.aload_n 0, 1) := by decide +kernel
theorem d_Mo_snapshot_1 : decode b_Mo_snapshot 1 = .ok (.iconst 0, 1) := by decide +kernel
theorem d_Mo_snapshot_2 : decode b_Mo_snapshot 2 = .ok (.putfield 16, 3) := by decide +kernel
theorem d_Mo_snapshot_5 : decode b_Mo_snapshot 5 = .ok (.iconst 0, 1) := by decide +kernel
theorem d_Mo_snapshot_6 : decode b_Mo_snapshot 6 = .ok (.istore_n 1, 1) := by decide +kernel
theorem d_Mo_snapshot_7 : decode b_Mo_snapshot 7 = .ok (.iload_n 1, 1) := by decide +kernel
theorem d_Mo_snapshot_8 : decode b_Mo_snapshot 8 = .ok (.sipush 1552, 3) := by decide +kernel
theorem d_Mo_snapshot_11 : decode b_Mo_snapshot 11 = .ok (.if_icmp .ge 21, 3) := by decide +kernel
theorem d_Mo_snapshot_14 : decode b_Mo_snapshot 14 = .ok (.aload_n 0, 1) := by decide +kernel
theorem d_Mo_snapshot_15 : decode b_Mo_snapshot 15 = .ok (.getfield 13, 3) := by decide +kernel
theorem d_Mo_snapshot_18 : decode b_Mo_snapshot 18 = .ok (.iload_n 1, 1) := by decide +kernel
theorem d_Mo_snapshot_19 : decode b_Mo_snapshot 19 = .ok (.aload_n 0, 1) := by decide +kernel
theorem d_Mo_snapshot_20 : decode b_Mo_snapshot 20 = .ok (.getfield 7, 3) := by decide +kernel
theorem d_Mo_snapshot_23 : decode b_Mo_snapshot 23 = .ok (.iload_n 1, 1) := by decide +kernel
theorem d_Mo_snapshot_24 : decode b_Mo_snapshot 24 = .ok (.iaload, 1) := by decide +kernel
theorem d_Mo_snapshot_25 : decode b_Mo_snapshot 25 = .ok (.iastore, 1) := by decide +kernel
theorem d_Mo_snapshot_26 : decode b_Mo_snapshot 26 = .ok (.iinc 1 1, 3) := by decide +kernel
theorem d_Mo_snapshot_29 : decode b_Mo_snapshot 29 = .ok (.goto (-22), 3) := by decide +kernel
theorem d_Mo_snapshot_32 : decode b_Mo_snapshot 32 = .ok (.aload_n 0, 1) := by decide +kernel
theorem d_Mo_snapshot_33 : decode b_Mo_snapshot 33 = .ok (.invokevirtual 122, 3) := by decide +kernel
theorem d_Mo_snapshot_36 : decode b_Mo_snapshot 36 = .ok (.ireturn, 1) := by decide +kernel
theorem d_Mo_crash_0 : decode b_Mo_crash 0 = .ok (.aload_n 0, 1) := by decide +kernel
theorem d_Mo_crash_1 : decode b_Mo_crash 1 = .ok (.iconst 0, 1) := by decide +kernel
theorem d_Mo_crash_2 : decode b_Mo_crash 2 = .ok (.putfield 16, 3) := by decide +kernel
theorem d_Mo_crash_5 : decode b_Mo_crash 5 = .ok (.iconst 0, 1) := by decide +kernel
theorem d_Mo_crash_6 : decode b_Mo_crash 6 = .ok (.istore_n 1, 1) := by decide +kernel
theorem d_Mo_crash_7 : decode b_Mo_crash 7 = .ok (.iload_n 1, 1) := by decide +kernel
theorem d_Mo_crash_8 : decode b_Mo_crash 8 = .ok (.sipush 1552, 3) := by decide +kernel
theorem d_Mo_crash_11 : decode b_Mo_crash 11 = .ok (.if_icmp .ge 21, 3) := by decide +kernel
theorem d_Mo_crash_14 : decode b_Mo_crash 14 = .ok (.aload_n 0, 1) := by decide +kernel
theorem d_Mo_crash_15 : decode b_Mo_crash 15 = .ok (.getfield 7, 3) := by decide +kernel
theorem d_Mo_crash_18 : decode b_Mo_crash 18 = .ok (.iload_n 1, 1) := by decide +kernel
theorem d_Mo_crash_19 : decode b_Mo_crash 19 = .ok (.aload_n 0, 1) := by decide +kernel
theorem d_Mo_crash_20 : decode b_Mo_crash 20 = .ok (.getfield 13, 3) := by decide +kernel
theorem d_Mo_crash_23 : decode b_Mo_crash 23 = .ok (.iload_n 1, 1) := by decide +kernel
theorem d_Mo_crash_24 : decode b_Mo_crash 24 = .ok (.iaload, 1) := by decide +kernel
theorem d_Mo_crash_25 : decode b_Mo_crash 25 = .ok (.iastore, 1) := by decide +kernel
theorem d_Mo_crash_26 : decode b_Mo_crash 26 = .ok (.iinc 1 1, 3) := by decide +kernel
theorem d_Mo_crash_29 : decode b_Mo_crash 29 = .ok (.goto (-22), 3) := by decide +kernel
theorem d_Mo_crash_32 : decode b_Mo_crash 32 = .ok (.aload_n 0, 1) := by decide +kernel
theorem d_Mo_crash_33 : decode b_Mo_crash 33 = .ok (.invokevirtual 122, 3) := by decide +kernel
theorem d_Mo_crash_36 : decode b_Mo_crash 36 = .ok (.ireturn, 1) := by decide +kernel
theorem d_Mo_object_0 : decode b_Mo_object 0 = .ok (.aload_n 0, 1) := by decide +kernel
theorem d_Mo_object_1 : decode b_Mo_object 1 = .ok (.iconst 0, 1) := by decide +kernel
theorem d_Mo_object_2 : decode b_Mo_object 2 = .ok (.putfield 16, 3) := by decide +kernel
theorem d_Mo_object_5 : decode b_Mo_object 5 = .ok (.iload_n 2, 1) := by decide +kernel
theorem d_Mo_object_6 : decode b_Mo_object 6 = .ok (.iconst 0, 1) := by decide +kernel
theorem d_Mo_object_7 : decode b_Mo_object 7 = .ok (.bipush 6, 2) := by decide +kernel
theorem d_Mo_object_9 : decode b_Mo_object 9 = .ok (.invokestatic 28, 3) := by decide +kernel
theorem d_Mo_object_12 : decode b_Mo_object 12 = .ok (.ifCond .ne 9, 3) := by decide +kernel
theorem d_Mo_object_15 : decode b_Mo_object 15 = .ok (.aload_n 0, 1) := by decide +kernel
theorem d_Mo_object_16 : decode b_Mo_object 16 = .ok (.iconst 1, 1) := by decide +kernel
theorem d_Mo_object_17 : decode b_Mo_object 17 = .ok (.invokevirtual 51, 3) := by decide +kernel
theorem d_Mo_object_20 : decode b_Mo_object 20 = .ok (.ireturn, 1) := by decide +kernel
theorem d_Mo_object_21 : decode b_Mo_object 21 = .ok (.aload_n 0, 1) := by decide +kernel
theorem d_Mo_object_22 : decode b_Mo_object 22 = .ok (.iload_n 1, 1) := by decide +kernel
theorem d_Mo_object_23 : decode b_Mo_object 23 = .ok (.invokevirtual 43, 3) := by decide +kernel
theorem d_Mo_object_26 : decode b_Mo_object 26 = .ok (.ifCond .ne 9, 3) := by decide +kernel
theorem d_Mo_object_29 : decode b_Mo_object 29 = .ok (.aload_n 0, 1) := by decide +kernel
theorem d_Mo_object_30 : decode b_Mo_object 30 = .ok (.iconst 2, 1) := by decide +kernel
theorem d_Mo_object_31 : decode b_Mo_object 31 = .ok (.invokevirtual 51, 3) := by decide +kernel
theorem d_Mo_object_34 : decode b_Mo_object 34 = .ok (.ireturn, 1) := by decide +kernel
theorem d_Mo_object_35 : decode b_Mo_object 35 = .ok (.iload_n 2, 1) := by decide +kernel
theorem d_Mo_object_36 : decode b_Mo_object 36 = .ok (.tableswitch 96 0 5 #[40, 47, 54, 61, 67, 74], 40) := by decide +kernel
theorem d_Mo_object_76 : decode b_Mo_object 76 = .ok (.aload_n 0, 1) := by decide +kernel
theorem d_Mo_object_77 : decode b_Mo_object 77 = .ok (.iload_n 1, 1) := by decide +kernel
theorem d_Mo_object_78 : decode b_Mo_object 78 = .ok (.iconst 1, 1) := by decide +kernel
theorem d_Mo_object_79 : decode b_Mo_object 79 = .ok (.invokevirtual 32, 3) := by decide +kernel
theorem d_Mo_object_82 : decode b_Mo_object 82 = .ok (.ireturn, 1) := by decide +kernel
theorem d_Mo_object_83 : decode b_Mo_object 83 = .ok (.aload_n 0, 1) := by decide +kernel
theorem d_Mo_object_84 : decode b_Mo_object 84 = .ok (.iload_n 1, 1) := by decide +kernel
theorem d_Mo_object_85 : decode b_Mo_object 85 = .ok (.iconst 2, 1) := by decide +kernel
theorem d_Mo_object_86 : decode b_Mo_object 86 = .ok (.invokevirtual 32, 3) := by decide +kernel
theorem d_Mo_object_89 : decode b_Mo_object 89 = .ok (.ireturn, 1) := by decide +kernel
theorem d_Mo_object_90 : decode b_Mo_object 90 = .ok (.aload_n 0, 1) := by decide +kernel
theorem d_Mo_object_91 : decode b_Mo_object 91 = .ok (.iload_n 1, 1) := by decide +kernel
theorem d_Mo_object_92 : decode b_Mo_object 92 = .ok (.iconst 3, 1) := by decide +kernel
theorem d_Mo_object_93 : decode b_Mo_object 93 = .ok (.invokevirtual 32, 3) := by decide +kernel
theorem d_Mo_object_96 : decode b_Mo_object 96 = .ok (.ireturn, 1) := by decide +kernel
theorem d_Mo_object_97 : decode b_Mo_object 97 = .ok (.aload_n 0, 1) := by decide +kernel
theorem d_Mo_object_98 : decode b_Mo_object 98 = .ok (.iload_n 1, 1) := by decide +kernel
theorem d_Mo_object_99 : decode b_Mo_object 99 = .ok (.invokevirtual 75, 3) := by decide +kernel
theorem d_Mo_object_102 : decode b_Mo_object 102 = .ok (.ireturn, 1) := by decide +kernel
theorem d_Mo_object_103 : decode b_Mo_object 103 = .ok (.aload_n 0, 1) := by decide +kernel
theorem d_Mo_object_104 : decode b_Mo_object 104 = .ok (.iload_n 1, 1) := by decide +kernel
theorem d_Mo_object_105 : decode b_Mo_object 105 = .ok (.iconst 4, 1) := by decide +kernel
theorem d_Mo_object_106 : decode b_Mo_object 106 = .ok (.invokevirtual 32, 3) := by decide +kernel
theorem d_Mo_object_109 : decode b_Mo_object 109 = .ok (.ireturn, 1) := by decide +kernel
theorem d_Mo_object_110 : decode b_Mo_object 110 = .ok (.aload_n 0, 1) := by decide +kernel
theorem d_Mo_object_111 : decode b_Mo_object 111 = .ok (.iload_n 1, 1) := by decide +kernel
theorem d_Mo_object_112 : decode b_Mo_object 112 = .ok (.iconst 1, 1) := by decide +kernel
theorem d_Mo_object_113 : decode b_Mo_object 113 = .ok (.invokevirtual 32, 3) := by decide +kernel
theorem d_Mo_object_116 : decode b_Mo_object 116 = .ok (.iconst 2, 1) := by decide +kernel
theorem d_Mo_object_117 : decode b_Mo_object 117 = .ok (.if_icmp .lt 13, 3) := by decide +kernel
theorem d_Mo_object_120 : decode b_Mo_object 120 = .ok (.aload_n 0, 1) := by decide +kernel
theorem d_Mo_object_121 : decode b_Mo_object 121 = .ok (.iload_n 1, 1) := by decide +kernel
theorem d_Mo_object_122 : decode b_Mo_object 122 = .ok (.bipush 6, 2) := by decide +kernel
theorem d_Mo_object_124 : decode b_Mo_object 124 = .ok (.invokevirtual 32, 3) := by decide +kernel
theorem d_Mo_object_127 : decode b_Mo_object 127 = .ok (.goto 4, 3) := by decide +kernel
theorem d_Mo_object_130 : decode b_Mo_object 130 = .ok (.iconst (-1), 1) := by decide +kernel
theorem d_Mo_object_131 : decode b_Mo_object 131 = .ok (.ireturn, 1) := by decide +kernel
theorem d_Mo_object_132 : decode b_Mo_object 132 = .ok (.aload_n 0, 1) := by decide +kernel
theorem d_Mo_object_133 : decode b_Mo_object 133 = .ok (.iload_n 1, 1) := by decide +kernel
theorem d_Mo_object_134 : decode b_Mo_object 134 = .ok (.bipush 8, 2) := by decide +kernel
theorem d_Mo_object_136 : decode b_Mo_object 136 = .ok (.invokevirtual 32, 3) := by decide +kernel
theorem d_Mo_object_139 : decode b_Mo_object 139 = .ok (.ireturn, 1) := by decide +kernel
theorem d_Mo_in_0 : decode b_Mo_in 0 = .ok (.aload_n 0, 1) := by decide +kernel
theorem d_Mo_in_1 : decode b_Mo_in 1 = .ok (.iconst 0, 1) := by decide +kernel
theorem d_Mo_in_2 : decode b_Mo_in 2 = .ok (.putfield 16, 3) := by decide +kernel
theorem d_Mo_in_5 : decode b_Mo_in 5 = .ok (.aload_n 0, 1) := by decide +kernel
theorem d_Mo_in_6 : decode b_Mo_in 6 = .ok (.iload_n 1, 1) := by decide +kernel
theorem d_Mo_in_7 : decode b_Mo_in 7 = .ok (.invokevirtual 43, 3) := by decide +kernel
theorem d_Mo_in_10 : decode b_Mo_in 10 = .ok (.ifCond .ne 9, 3) := by decide +kernel
theorem d_Mo_in_13 : decode b_Mo_in 13 = .ok (.aload_n 0, 1) := by decide +kernel
theorem d_Mo_in_14 : decode b_Mo_in 14 = .ok (.iconst 2, 1) := by decide +kernel
theorem d_Mo_in_15 : decode b_Mo_in 15 = .ok (.invokevirtual 51, 3) := by decide +kernel
theorem d_Mo_in_18 : decode b_Mo_in 18 = .ok (.ireturn, 1) := by decide +kernel
theorem d_Mo_in_19 : decode b_Mo_in 19 = .ok (.aload_n 0, 1) := by decide +kernel
theorem d_Mo_in_20 : decode b_Mo_in 20 = .ok (.iload_n 1, 1) := by decide +kernel
theorem d_Mo_in_21 : decode b_Mo_in 21 = .ok (.iconst 1, 1) := by decide +kernel
theorem d_Mo_in_22 : decode b_Mo_in 22 = .ok (.invokevirtual 32, 3) := by decide +kernel
theorem d_Mo_in_25 : decode b_Mo_in 25 = .ok (.ifCond .eq 9, 3) := by decide +kernel
theorem d_Mo_in_28 : decode b_Mo_in 28 = .ok (.aload_n 0, 1) := by decide +kernel
theorem d_Mo_in_29 : decode b_Mo_in 29 = .ok (.iconst 1, 1) := by decide +kernel
theorem d_Mo_in_30 : decode b_Mo_in 30 = .ok (.invokevirtual 51, 3) := by decide +kernel
theorem d_Mo_in_33 : decode b_Mo_in 33 = .ok (.ireturn, 1) := by decide +kernel
theorem d_Mo_in_34 : decode b_Mo_in 34 = .ok (.iconst 0, 1) := by decide +kernel
theorem d_Mo_in_35 : decode b_Mo_in 35 = .ok (.istore_n 3, 1) := by decide +kernel
theorem d_Mo_in_36 : decode b_Mo_in 36 = .ok (.iconst 1, 1) := by decide +kernel
theorem d_Mo_in_37 : decode b_Mo_in 37 = .ok (.istore 4, 2) := by decide +kernel
theorem d_Mo_in_39 : decode b_Mo_in 39 = .ok (.iload 4, 2) := by decide +kernel
theorem d_Mo_in_41 : decode b_Mo_in 41 = .ok (.aload_n 0, 1) := by decide +kernel
theorem d_Mo_in_42 : decode b_Mo_in 42 = .ok (.getfield 7, 3) := by decide +kernel
theorem d_Mo_in_45 : decode b_Mo_in 45 = .ok (.sipush 1549, 3) := by decide +kernel
theorem d_Mo_in_48 : decode b_Mo_in 48 = .ok (.iaload, 1) := by decide +kernel
theorem d_Mo_in_49 : decode b_Mo_in 49 = .ok (.if_icmp .gt 43, 3) := by decide +kernel
theorem d_Mo_in_52 : decode b_Mo_in 52 = .ok (.aload_n 0, 1) := by decide +kernel
theorem d_Mo_in_53 : decode b_Mo_in 53 = .ok (.iload 4, 2) := by decide +kernel
theorem d_Mo_in_55 : decode b_Mo_in 55 = .ok (.invokevirtual 43, 3) := by decide +kernel
theorem d_Mo_in_58 : decode b_Mo_in 58 = .ok (.ifCond .eq 28, 3) := by decide +kernel
theorem d_Mo_in_61 : decode b_Mo_in 61 = .ok (.aload_n 0, 1) := by decide +kernel
theorem d_Mo_in_62 : decode b_Mo_in 62 = .ok (.iload 4, 2) := by decide +kernel
theorem d_Mo_in_64 : decode b_Mo_in 64 = .ok (.iconst 4, 1) := by decide +kernel
theorem d_Mo_in_65 : decode b_Mo_in 65 = .ok (.invokevirtual 32, 3) := by decide +kernel
theorem d_Mo_in_68 : decode b_Mo_in 68 = .ok (.iload_n 1, 1) := by decide +kernel
theorem d_Mo_in_69 : decode b_Mo_in 69 = .ok (.if_icmp .eq 6, 3) := by decide +kernel
theorem d_Mo_in_72 : decode b_Mo_in 72 = .ok (.goto 14, 3) := by decide +kernel
theorem d_Mo_in_75 : decode b_Mo_in 75 = .ok (.iload_n 3, 1) := by decide +kernel
theorem d_Mo_in_76 : decode b_Mo_in 76 = .ok (.iload_n 2, 1) := by decide +kernel
theorem d_Mo_in_77 : decode b_Mo_in 77 = .ok (.if_icmp .ne 6, 3) := by decide +kernel
theorem d_Mo_in_80 : decode b_Mo_in 80 = .ok (.iload 4, 2) := by decide +kernel
theorem d_Mo_in_82 : decode b_Mo_in 82 = .ok (.ireturn, 1) := by decide +kernel
theorem d_Mo_in_83 : decode b_Mo_in 83 = .ok (.iinc 3 1, 3) := by decide +kernel
theorem d_Mo_in_86 : decode b_Mo_in 86 = .ok (.iinc 4 1, 3) := by decide +kernel
theorem d_Mo_in_89 : decode b_Mo_in 89 = .ok (.goto (-50), 3) := by decide +kernel
theorem d_Mo_in_92 : decode b_Mo_in 92 = .ok (.aload_n 0, 1) := by decide +kernel
theorem d_Mo_in_93 : decode b_Mo_in 93 = .ok (.iconst 2, 1) := by decide +kernel
theorem d_Mo_in_94 : decode b_Mo_in 94 = .ok (.invokevirtual 51, 3) := by decide +kernel
theorem d_Mo_in_97 : decode b_Mo_in 97 = .ok (.ireturn, 1) := by decide +kernel
theorem d_Mo_count_0 : decode b_Mo_count 0 = .ok (.aload_n 0, 1) := by decide +kernel
theorem d_Mo_count_1 : decode b_Mo_count 1 = .ok (.iconst 0, 1) := by decide +kernel
theorem d_Mo_count_2 : decode b_Mo_count 2 = .ok (.putfield 16, 3) := by decide +kernel
theorem d_Mo_count_5 : decode b_Mo_count 5 = .ok (.iconst 0, 1) := by decide +kernel
theorem d_Mo_count_6 : decode b_Mo_count 6 = .ok (.istore_n 2, 1) := by decide +kernel
theorem d_Mo_count_7 : decode b_Mo_count 7 = .ok (.iconst 0, 1) := by decide +kernel
theorem d_Mo_count_8 : decode b_Mo_count 8 = .ok (.istore_n 3, 1) := by decide +kernel
theorem d_Mo_count_9 : decode b_Mo_count 9 = .ok (.iload_n 3, 1) := by decide +kernel
theorem d_Mo_count_10 : decode b_Mo_count 10 = .ok (.iconst 4, 1) := by decide +kernel
theorem d_Mo_count_11 : decode b_Mo_count 11 = .ok (.if_icmp .ge 18, 3) := by decide +kernel
theorem d_Mo_count_14 : decode b_Mo_count 14 = .ok (.iload_n 2, 1) := by decide +kernel
theorem d_Mo_count_15 : decode b_Mo_count 15 = .ok (.aload_n 0, 1) := by decide +kernel
theorem d_Mo_count_16 : decode b_Mo_count 16 = .ok (.iload_n 3, 1) := by decide +kernel
theorem d_Mo_count_17 : decode b_Mo_count 17 = .ok (.iconst 0, 1) := by decide +kernel
theorem d_Mo_count_18 : decode b_Mo_count 18 = .ok (.invokevirtual 116, 3) := by decide +kernel
theorem d_Mo_count_21 : decode b_Mo_count 21 = .ok (.iadd, 1) := by decide +kernel
theorem d_Mo_count_22 : decode b_Mo_count 22 = .ok (.istore_n 2, 1) := by decide +kernel
theorem d_Mo_count_23 : decode b_Mo_count 23 = .ok (.iinc 3 1, 3) := by decide +kernel
theorem d_Mo_count_26 : decode b_Mo_count 26 = .ok (.goto (-17), 3) := by decide +kernel
theorem d_Mo_count_29 : decode b_Mo_count 29 = .ok (.iload_n 1, 1) := by decide +kernel
theorem d_Mo_count_30 : decode b_Mo_count 30 = .ok (.ifCond .ne 10, 3) := by decide +kernel
theorem d_Mo_count_33 : decode b_Mo_count 33 = .ok (.aload_n 0, 1) := by decide +kernel
theorem d_Mo_count_34 : decode b_Mo_count 34 = .ok (.invokevirtual 122, 3) := by decide +kernel
theorem d_Mo_count_37 : decode b_Mo_count 37 = .ok (.goto 45, 3) := by decide +kernel
theorem d_Mo_count_40 : decode b_Mo_count 40 = .ok (.iload_n 1, 1) := by decide +kernel
theorem d_Mo_count_41 : decode b_Mo_count 41 = .ok (.iconst 1, 1) := by decide +kernel
theorem d_Mo_count_42 : decode b_Mo_count 42 = .ok (.if_icmp .ne 14, 3) := by decide +kernel
theorem d_Mo_count_45 : decode b_Mo_count 45 = .ok (.aload_n 0, 1) := by decide +kernel
theorem d_Mo_count_46 : decode b_Mo_count 46 = .ok (.getfield 7, 3) := by decide +kernel
theorem d_Mo_count_49 : decode b_Mo_count 49 = .ok (.sipush 1550, 3) := by decide +kernel
theorem d_Mo_count_52 : decode b_Mo_count 52 = .ok (.iaload, 1) := by decide +kernel
theorem d_Mo_count_53 : decode b_Mo_count 53 = .ok (.goto 29, 3) := by decide +kernel
theorem d_Mo_count_56 : decode b_Mo_count 56 = .ok (.iload_n 1, 1) := by decide +kernel
theorem d_Mo_count_57 : decode b_Mo_count 57 = .ok (.iconst 2, 1) := by decide +kernel
theorem d_Mo_count_58 : decode b_Mo_count 58 = .ok (.if_icmp .ne 14, 3) := by decide +kernel
theorem d_Mo_count_61 : decode b_Mo_count 61 = .ok (.aload_n 0, 1) := by decide +kernel
theorem d_Mo_count_62 : decode b_Mo_count 62 = .ok (.getfield 7, 3) := by decide +kernel
theorem d_Mo_count_65 : decode b_Mo_count 65 = .ok (.sipush 1551, 3) := by decide +kernel
theorem d_Mo_count_68 : decode b_Mo_count 68 = .ok (.iaload, 1) := by decide +kernel
theorem d_Mo_count_69 : decode b_Mo_count 69 = .ok (.goto 13, 3) := by decide +kernel
theorem d_Mo_count_72 : decode b_Mo_count 72 = .ok (.iload_n 1, 1) := by decide +kernel
theorem d_Mo_count_73 : decode b_Mo_count 73 = .ok (.iconst 3, 1) := by decide +kernel
theorem d_Mo_count_74 : decode b_Mo_count 74 = .ok (.if_icmp .ne 7, 3) := by decide +kernel
theorem d_Mo_count_77 : decode b_Mo_count 77 = .ok (.iload_n 2, 1) := by decide +kernel
theorem d_Mo_count_78 : decode b_Mo_count 78 = .ok (.goto 4, 3) := by decide +kernel
theorem d_Mo_count_81 : decode b_Mo_count 81 = .ok (.iconst (-1), 1) := by decide +kernel
theorem d_Mo_count_82 : decode b_Mo_count 82 = .ok (.ireturn, 1) := by decide +kernel
