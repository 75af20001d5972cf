theorem d_Lb_init_0 : decode b_Lb_init 0 = .ok (.aload_n 0, 1) := by decide +kernel
theorem d_Lb_init_1 : decode b_Lb_init 1 = .ok (.invokespecial 3, 3) := by decide +kernel
theorem d_Lb_init_4 : decode b_Lb_init 4 = .ok (.aload_n 0, 1) := by decide +kernel
theorem d_Lb_init_5 : decode b_Lb_init 5 = .ok (.bipush 60, 2) := by decide +kernel
theorem d_Lb_init_7 : decode b_Lb_init 7 = .ok (.newarray .int, 2) := by decide +kernel
theorem d_Lb_init_9 : decode b_Lb_init 9 = .ok (.putfield 9, 3) := by decide +kernel
theorem d_Lb_init_12 : decode b_Lb_init 12 = .ok (.aload_n 0, 1) := by decide +kernel
theorem d_Lb_init_13 : decode b_Lb_init 13 = .ok (.getfield 9, 3) := by decide +kernel
theorem d_Lb_init_16 : decode b_Lb_init 16 = .ok (.iconst 0, 1) := by decide +kernel
theorem d_Lb_init_17 : decode b_Lb_init 17 = .ok (.ldc 15, 2) := by decide +kernel
theorem d_Lb_init_19 : decode b_Lb_init 19 = .ok (.iastore, 1) := by decide +kernel
theorem d_Lb_init_20 : decode b_Lb_init 20 = .ok (.aload_n 0, 1) := by decide +kernel
theorem d_Lb_init_21 : decode b_Lb_init 21 = .ok (.getfield 9, 3) := by decide +kernel
theorem d_Lb_init_24 : decode b_Lb_init 24 = .ok (.iconst 1, 1) := by decide +kernel
theorem d_Lb_init_25 : decode b_Lb_init 25 = .ok (.ldc 16, 2) := by decide +kernel
theorem d_Lb_init_27 : decode b_Lb_init 27 = .ok (.iastore, 1) := by decide +kernel
theorem d_Lb_init_28 : decode b_Lb_init 28 = .ok (.aload_n 0, 1) := by decide +kernel
theorem d_Lb_init_29 : decode b_Lb_init 29 = .ok (.iconst 2, 1) := by decide +kernel
theorem d_Lb_init_30 : decode b_Lb_init 30 = .ok (.putfield 17, 3) := by decide +kernel
theorem d_Lb_init_33 : decode b_Lb_init 33 = .ok (.return_, 1) := by decide +kernel
theorem d_Lb_takeFrom_0 : decode b_Lb_takeFrom 0 = .ok (.aload_n 1, 1) := by decide +kernel
theorem d_Lb_takeFrom_1 : decode b_Lb_takeFrom 1 = .ok (.getfield 9, 3) := by decide +kernel
theorem d_Lb_takeFrom_4 : decode b_Lb_takeFrom 4 = .ok (.iconst 0, 1) := by decide +kernel
theorem d_Lb_takeFrom_5 : decode b_Lb_takeFrom 5 = .ok (.aload_n 0, 1) := by decide +kernel
theorem d_Lb_takeFrom_6 : decode b_Lb_takeFrom 6 = .ok (.getfield 9, 3) := by decide +kernel
theorem d_Lb_takeFrom_9 : decode b_Lb_takeFrom 9 = .ok (.iconst 0, 1) := by decide +kernel
theorem d_Lb_takeFrom_10 : decode b_Lb_takeFrom 10 = .ok (.aload_n 0, 1) := by decide +kernel
theorem d_Lb_takeFrom_11 : decode b_Lb_takeFrom 11 = .ok (.getfield 9, 3) := by decide +kernel
theorem d_Lb_takeFrom_14 : decode b_Lb_takeFrom 14 = .ok (.arraylength, 1) := by decide +kernel
theorem d_Lb_takeFrom_15 : decode b_Lb_takeFrom 15 = .ok (.invokestatic 21, 3) := by decide +kernel
theorem d_Lb_takeFrom_18 : decode b_Lb_takeFrom 18 = .ok (.aload_n 0, 1) := by decide +kernel
theorem d_Lb_takeFrom_19 : decode b_Lb_takeFrom 19 = .ok (.aload_n 1, 1) := by decide +kernel
theorem d_Lb_takeFrom_20 : decode b_Lb_takeFrom 20 = .ok (.getfield 17, 3) := by decide +kernel
theorem d_Lb_takeFrom_23 : decode b_Lb_takeFrom 23 = .ok (.putfield 17, 3) := by decide +kernel
theorem d_Lb_takeFrom_26 : decode b_Lb_takeFrom 26 = .ok (.return_, 1) := by decide +kernel
theorem d_Lb_howMany_0 : decode b_Lb_howMany 0 = .ok (.aload_n 0, 1) := by decide +kernel
theorem d_Lb_howMany_1 : decode b_Lb_howMany 1 = .ok (.getfield 17, 3) := by decide +kernel
theorem d_Lb_howMany_4 : decode b_Lb_howMany 4 = .ok (.ireturn, 1) := by decide +kernel
theorem d_Lb_free_0 : decode b_Lb_free 0 = .ok (.bipush 60, 2) := by decide +kernel
theorem d_Lb_free_2 : decode b_Lb_free 2 = .ok (.aload_n 0, 1) := by decide +kernel
theorem d_Lb_free_3 : decode b_Lb_free 3 = .ok (.getfield 17, 3) := by decide +kernel
theorem d_Lb_free_6 : decode b_Lb_free 6 = .ok (.isub, 1) := by decide +kernel
theorem d_Lb_free_7 : decode b_Lb_free 7 = .ok (.ireturn, 1) := by decide +kernel
theorem d_Lb_has_0 : decode b_Lb_has 0 = .ok (.iload_n 1, 1) := by decide +kernel
theorem d_Lb_has_1 : decode b_Lb_has 1 = .ok (.ifCond .lt 15, 3) := by decide +kernel
theorem d_Lb_has_4 : decode b_Lb_has 4 = .ok (.iload_n 1, 1) := by decide +kernel
theorem d_Lb_has_5 : decode b_Lb_has 5 = .ok (.aload_n 0, 1) := by decide +kernel
theorem d_Lb_has_6 : decode b_Lb_has 6 = .ok (.getfield 17, 3) := by decide +kernel
theorem d_Lb_has_9 : decode b_Lb_has 9 = .ok (.if_icmp .ge 7, 3) := by decide +kernel
theorem d_Lb_has_12 : decode b_Lb_has 12 = .ok (.iconst 1, 1) := by decide +kernel
theorem d_Lb_has_13 : decode b_Lb_has 13 = .ok (.goto 4, 3) := by decide +kernel
theorem d_Lb_has_16 : decode b_Lb_has 16 = .ok (.iconst 0, 1) := by decide +kernel
theorem d_Lb_has_17 : decode b_Lb_has 17 = .ok (.ireturn, 1) := by decide +kernel
theorem d_Lb_isStarless_0 : decode b_Lb_isStarless 0 = .ok (.aload_n 0, 1) := by decide +kernel
theorem d_Lb_isStarless_1 : decode b_Lb_isStarless 1 = .ok (.iload_n 1, 1) := by decide +kernel
theorem d_Lb_isStarless_2 : decode b_Lb_isStarless 2 = .ok (.invokevirtual 27, 3) := by decide +kernel
theorem d_Lb_isStarless_5 : decode b_Lb_isStarless 5 = .ok (.ifCond .eq 19, 3) := by decide +kernel
theorem d_Lb_isStarless_8 : decode b_Lb_isStarless 8 = .ok (.aload_n 0, 1) := by decide +kernel
theorem d_Lb_isStarless_9 : decode b_Lb_isStarless 9 = .ok (.getfield 9, 3) := by decide +kernel
theorem d_Lb_isStarless_12 : decode b_Lb_isStarless 12 = .ok (.iload_n 1, 1) := by decide +kernel
theorem d_Lb_isStarless_13 : decode b_Lb_isStarless 13 = .ok (.iaload, 1) := by decide +kernel
theorem d_Lb_isStarless_14 : decode b_Lb_isStarless 14 = .ok (.ldc 31, 2) := by decide +kernel
theorem d_Lb_isStarless_16 : decode b_Lb_isStarless 16 = .ok (.iand, 1) := by decide +kernel
theorem d_Lb_isStarless_17 : decode b_Lb_isStarless 17 = .ok (.ifCond .ne 7, 3) := by decide +kernel
theorem d_Lb_isStarless_20 : decode b_Lb_isStarless 20 = .ok (.iconst 1, 1) := by decide +kernel
theorem d_Lb_isStarless_21 : decode b_Lb_isStarless 21 = .ok (.goto 4, 3) := by decide +kernel
theorem d_Lb_isStarless_24 : decode b_Lb_isStarless 24 = .ok (.iconst 0, 1) := by decide +kernel
theorem d_Lb_isStarless_25 : decode b_Lb_isStarless 25 = .ok (.ireturn, 1) := by decide +kernel
theorem d_Lb_hasStarsOnlyOf_0 : decode b_Lb_hasStarsOnlyOf 0 = .ok (.aload_n 0, 1) := by decide +kernel
theorem d_Lb_hasStarsOnlyOf_1 : decode b_Lb_hasStarsOnlyOf 1 = .ok (.getfield 9, 3) := by decide +kernel
theorem d_Lb_hasStarsOnlyOf_4 : decode b_Lb_hasStarsOnlyOf 4 = .ok (.iload_n 1, 1) := by decide +kernel
theorem d_Lb_hasStarsOnlyOf_5 : decode b_Lb_hasStarsOnlyOf 5 = .ok (.iaload, 1) := by decide +kernel
theorem d_Lb_hasStarsOnlyOf_6 : decode b_Lb_hasStarsOnlyOf 6 = .ok (.aload_n 0, 1) := by decide +kernel
theorem d_Lb_hasStarsOnlyOf_7 : decode b_Lb_hasStarsOnlyOf 7 = .ok (.getfield 9, 3) := by decide +kernel
theorem d_Lb_hasStarsOnlyOf_10 : decode b_Lb_hasStarsOnlyOf 10 = .ok (.iload_n 2, 1) := by decide +kernel
theorem d_Lb_hasStarsOnlyOf_11 : decode b_Lb_hasStarsOnlyOf 11 = .ok (.iaload, 1) := by decide +kernel
theorem d_Lb_hasStarsOnlyOf_12 : decode b_Lb_hasStarsOnlyOf 12 = .ok (.iconst (-1), 1) := by decide +kernel
theorem d_Lb_hasStarsOnlyOf_13 : decode b_Lb_hasStarsOnlyOf 13 = .ok (.ixor, 1) := by decide +kernel
theorem d_Lb_hasStarsOnlyOf_14 : decode b_Lb_hasStarsOnlyOf 14 = .ok (.iand, 1) := by decide +kernel
theorem d_Lb_hasStarsOnlyOf_15 : decode b_Lb_hasStarsOnlyOf 15 = .ok (.ldc 31, 2) := by decide +kernel
theorem d_Lb_hasStarsOnlyOf_17 : decode b_Lb_hasStarsOnlyOf 17 = .ok (.iand, 1) := by decide +kernel
theorem d_Lb_hasStarsOnlyOf_18 : decode b_Lb_hasStarsOnlyOf 18 = .ok (.ifCond .ne 7, 3) := by decide +kernel
theorem d_Lb_hasStarsOnlyOf_21 : decode b_Lb_hasStarsOnlyOf 21 = .ok (.iconst 1, 1) := by decide +kernel
theorem d_Lb_hasStarsOnlyOf_22 : decode b_Lb_hasStarsOnlyOf 22 = .ok (.goto 4, 3) := by decide +kernel
theorem d_Lb_hasStarsOnlyOf_25 : decode b_Lb_hasStarsOnlyOf 25 = .ok (.iconst 0, 1) := by decide +kernel
theorem d_Lb_hasStarsOnlyOf_26 : decode b_Lb_hasStarsOnlyOf 26 = .ok (.ireturn, 1) := by decide +kernel
theorem d_Lb_levelAt_0 : decode b_Lb_levelAt 0 = .ok (.aload_n 0, 1) := by decide +kernel
theorem d_Lb_levelAt_1 : decode b_Lb_levelAt 1 = .ok (.getfield 9, 3) := by decide +kernel
theorem d_Lb_levelAt_4 : decode b_Lb_levelAt 4 = .ok (.iload_n 1, 1) := by decide +kernel
theorem d_Lb_levelAt_5 : decode b_Lb_levelAt 5 = .ok (.iaload, 1) := by decide +kernel
theorem d_Lb_levelAt_6 : decode b_Lb_levelAt 6 = .ok (.iconst 4, 1) := by decide +kernel
theorem d_Lb_levelAt_7 : decode b_Lb_levelAt 7 = .ok (.iload_n 2, 1) := by decide +kernel
theorem d_Lb_levelAt_8 : decode b_Lb_levelAt 8 = .ok (.imul, 1) := by decide +kernel
theorem d_Lb_levelAt_9 : decode b_Lb_levelAt 9 = .ok (.iushr, 1) := by decide +kernel
theorem d_Lb_levelAt_10 : decode b_Lb_levelAt 10 = .ok (.bipush 15, 2) := by decide +kernel
theorem d_Lb_levelAt_12 : decode b_Lb_levelAt 12 = .ok (.iand, 1) := by decide +kernel
theorem d_Lb_levelAt_13 : decode b_Lb_levelAt 13 = .ok (.ireturn, 1) := by decide +kernel
theorem d_Lb_low_0 : decode b_Lb_low 0 = .ok (.iload_n 0, 1) := by decide +kernel
theorem d_Lb_low_1 : decode b_Lb_low 1 = .ok (.iconst 4, 1) := by decide +kernel
theorem d_Lb_low_2 : decode b_Lb_low 2 = .ok (.if_icmp .ne 7, 3) := by decide +kernel
theorem d_Lb_low_5 : decode b_Lb_low 5 = .ok (.iconst (-1), 1) := by decide +kernel
theorem d_Lb_low_6 : decode b_Lb_low 6 = .ok (.goto 4, 3) := by decide +kernel
theorem d_Lb_low_9 : decode b_Lb_low 9 = .ok (.iload_n 0, 1) := by decide +kernel
theorem d_Lb_low_10 : decode b_Lb_low 10 = .ok (.ireturn, 1) := by decide +kernel
theorem d_Lb_fitsUnder_0 : decode b_Lb_fitsUnder 0 = .ok (.iconst 0, 1) := by decide +kernel
theorem d_Lb_fitsUnder_1 : decode b_Lb_fitsUnder 1 = .ok (.istore_n 3, 1) := by decide +kernel
theorem d_Lb_fitsUnder_2 : decode b_Lb_fitsUnder 2 = .ok (.iload_n 3, 1) := by decide +kernel
theorem d_Lb_fitsUnder_3 : decode b_Lb_fitsUnder 3 = .ok (.bipush 8, 2) := by decide +kernel
theorem d_Lb_fitsUnder_5 : decode b_Lb_fitsUnder 5 = .ok (.if_icmp .ge 32, 3) := by decide +kernel
theorem d_Lb_fitsUnder_8 : decode b_Lb_fitsUnder 8 = .ok (.aload_n 0, 1) := by decide +kernel
theorem d_Lb_fitsUnder_9 : decode b_Lb_fitsUnder 9 = .ok (.iload_n 1, 1) := by decide +kernel
theorem d_Lb_fitsUnder_10 : decode b_Lb_fitsUnder 10 = .ok (.iload_n 3, 1) := by decide +kernel
theorem d_Lb_fitsUnder_11 : decode b_Lb_fitsUnder 11 = .ok (.invokevirtual 32, 3) := by decide +kernel
theorem d_Lb_fitsUnder_14 : decode b_Lb_fitsUnder 14 = .ok (.invokestatic 36, 3) := by decide +kernel
theorem d_Lb_fitsUnder_17 : decode b_Lb_fitsUnder 17 = .ok (.aload_n 0, 1) := by decide +kernel
theorem d_Lb_fitsUnder_18 : decode b_Lb_fitsUnder 18 = .ok (.iload_n 2, 1) := by decide +kernel
theorem d_Lb_fitsUnder_19 : decode b_Lb_fitsUnder 19 = .ok (.iload_n 3, 1) := by decide +kernel
theorem d_Lb_fitsUnder_20 : decode b_Lb_fitsUnder 20 = .ok (.invokevirtual 32, 3) := by decide +kernel
theorem d_Lb_fitsUnder_23 : decode b_Lb_fitsUnder 23 = .ok (.invokestatic 36, 3) := by decide +kernel
theorem d_Lb_fitsUnder_26 : decode b_Lb_fitsUnder 26 = .ok (.if_icmp .le 5, 3) := by decide +kernel
theorem d_Lb_fitsUnder_29 : decode b_Lb_fitsUnder 29 = .ok (.iconst 0, 1) := by decide +kernel
theorem d_Lb_fitsUnder_30 : decode b_Lb_fitsUnder 30 = .ok (.ireturn, 1) := by decide +kernel
theorem d_Lb_fitsUnder_31 : decode b_Lb_fitsUnder 31 = .ok (.iinc 3 1, 3) := by decide +kernel
theorem d_Lb_fitsUnder_34 : decode b_Lb_fitsUnder 34 = .ok (.goto (-32), 3) := by decide +kernel
theorem d_Lb_fitsUnder_37 : decode b_Lb_fitsUnder 37 = .ok (.iconst 1, 1) := by decide +kernel
theorem d_Lb_fitsUnder_38 : decode b_Lb_fitsUnder 38 = .ok (.ireturn, 1) := by decide +kernel
theorem d_Lb_fitsHigh_0 : decode b_Lb_fitsHigh 0 = .ok (.iconst 0, 1) := by decide +kernel
theorem d_Lb_fitsHigh_1 : decode b_Lb_fitsHigh 1 = .ok (.istore_n 3, 1) := by decide +kernel
theorem d_Lb_fitsHigh_2 : decode b_Lb_fitsHigh 2 = .ok (.iload_n 3, 1) := by decide +kernel
theorem d_Lb_fitsHigh_3 : decode b_Lb_fitsHigh 3 = .ok (.bipush 8, 2) := by decide +kernel
theorem d_Lb_fitsHigh_5 : decode b_Lb_fitsHigh 5 = .ok (.if_icmp .ge 29, 3) := by decide +kernel
theorem d_Lb_fitsHigh_8 : decode b_Lb_fitsHigh 8 = .ok (.aload_n 0, 1) := by decide +kernel
theorem d_Lb_fitsHigh_9 : decode b_Lb_fitsHigh 9 = .ok (.iload_n 1, 1) := by decide +kernel
theorem d_Lb_fitsHigh_10 : decode b_Lb_fitsHigh 10 = .ok (.iload_n 3, 1) := by decide +kernel
theorem d_Lb_fitsHigh_11 : decode b_Lb_fitsHigh 11 = .ok (.invokevirtual 32, 3) := by decide +kernel
theorem d_Lb_fitsHigh_14 : decode b_Lb_fitsHigh 14 = .ok (.invokestatic 36, 3) := by decide +kernel
theorem d_Lb_fitsHigh_17 : decode b_Lb_fitsHigh 17 = .ok (.aload_n 0, 1) := by decide +kernel
theorem d_Lb_fitsHigh_18 : decode b_Lb_fitsHigh 18 = .ok (.iload_n 2, 1) := by decide +kernel
theorem d_Lb_fitsHigh_19 : decode b_Lb_fitsHigh 19 = .ok (.iload_n 3, 1) := by decide +kernel
theorem d_Lb_fitsHigh_20 : decode b_Lb_fitsHigh 20 = .ok (.invokevirtual 32, 3) := by decide +kernel
theorem d_Lb_fitsHigh_23 : decode b_Lb_fitsHigh 23 = .ok (.if_icmp .le 5, 3) := by decide +kernel
theorem d_Lb_fitsHigh_26 : decode b_Lb_fitsHigh 26 = .ok (.iconst 0, 1) := by decide +kernel
theorem d_Lb_fitsHigh_27 : decode b_Lb_fitsHigh 27 = .ok (.ireturn, 1) := by decide +kernel
theorem d_Lb_fitsHigh_28 : decode b_Lb_fitsHigh 28 = .ok (.iinc 3 1, 3) := by decide +kernel
theorem d_Lb_fitsHigh_31 : decode b_Lb_fitsHigh 31 = .ok (.goto (-29), 3) := by decide +kernel
theorem d_Lb_fitsHigh_34 : decode b_Lb_fitsHigh 34 = .ok (.iconst 1, 1) := by decide +kernel
theorem d_Lb_fitsHigh_35 : decode b_Lb_fitsHigh 35 = .ok (.ireturn, 1) := by decide +kernel
theorem d_Lb_isJoinOf_0 : decode b_Lb_isJoinOf 0 = .ok (.iconst 0, 1) := by decide +kernel
theorem d_Lb_isJoinOf_1 : decode b_Lb_isJoinOf 1 = .ok (.istore 4, 2) := by decide +kernel
theorem d_Lb_isJoinOf_3 : decode b_Lb_isJoinOf 3 = .ok (.iload 4, 2) := by decide +kernel
theorem d_Lb_isJoinOf_5 : decode b_Lb_isJoinOf 5 = .ok (.bipush 8, 2) := by decide +kernel
theorem d_Lb_isJoinOf_7 : decode b_Lb_isJoinOf 7 = .ok (.if_icmp .ge 23, 3) := by decide +kernel
theorem d_Lb_isJoinOf_10 : decode b_Lb_isJoinOf 10 = .ok (.aload_n 0, 1) := by decide +kernel
theorem d_Lb_isJoinOf_11 : decode b_Lb_isJoinOf 11 = .ok (.iload 4, 2) := by decide +kernel
theorem d_Lb_isJoinOf_13 : decode b_Lb_isJoinOf 13 = .ok (.iload_n 1, 1) := by decide +kernel
theorem d_Lb_isJoinOf_14 : decode b_Lb_isJoinOf 14 = .ok (.iload_n 2, 1) := by decide +kernel
theorem d_Lb_isJoinOf_15 : decode b_Lb_isJoinOf 15 = .ok (.iload_n 3, 1) := by decide +kernel
theorem d_Lb_isJoinOf_16 : decode b_Lb_isJoinOf 16 = .ok (.invokevirtual 40, 3) := by decide +kernel
theorem d_Lb_isJoinOf_19 : decode b_Lb_isJoinOf 19 = .ok (.ifCond .ne 5, 3) := by decide +kernel
theorem d_Lb_isJoinOf_22 : decode b_Lb_isJoinOf 22 = .ok (.iconst 0, 1) := by decide +kernel
theorem d_Lb_isJoinOf_23 : decode b_Lb_isJoinOf 23 = .ok (.ireturn, 1) := by decide +kernel
theorem d_Lb_isJoinOf_24 : decode b_Lb_isJoinOf 24 = .ok (.iinc 4 1, 3) := by decide +kernel
theorem d_Lb_isJoinOf_27 : decode b_Lb_isJoinOf 27 = .ok (.goto (-24), 3) := by decide +kernel
theorem d_Lb_isJoinOf_30 : decode b_Lb_isJoinOf 30 = .ok (.iconst 1, 1) := by decide +kernel
theorem d_Lb_isJoinOf_31 : decode b_Lb_isJoinOf 31 = .ok (.ireturn, 1) := by decide +kernel
theorem d_Lb_isJoinAt_0 : decode b_Lb_isJoinAt 0 = .ok (.aload_n 0, 1) := by decide +kernel
theorem d_Lb_isJoinAt_1 : decode b_Lb_isJoinAt 1 = .ok (.iload_n 2, 1) := by decide +kernel
theorem d_Lb_isJoinAt_2 : decode b_Lb_isJoinAt 2 = .ok (.iload_n 1, 1) := by decide +kernel
theorem d_Lb_isJoinAt_3 : decode b_Lb_isJoinAt 3 = .ok (.invokevirtual 32, 3) := by decide +kernel
theorem d_Lb_isJoinAt_6 : decode b_Lb_isJoinAt 6 = .ok (.istore 5, 2) := by decide +kernel
theorem d_Lb_isJoinAt_8 : decode b_Lb_isJoinAt 8 = .ok (.aload_n 0, 1) := by decide +kernel
theorem d_Lb_isJoinAt_9 : decode b_Lb_isJoinAt 9 = .ok (.iload_n 3, 1) := by decide +kernel
theorem d_Lb_isJoinAt_10 : decode b_Lb_isJoinAt 10 = .ok (.iload_n 1, 1) := by decide +kernel
theorem d_Lb_isJoinAt_11 : decode b_Lb_isJoinAt 11 = .ok (.invokevirtual 32, 3) := by decide +kernel
theorem d_Lb_isJoinAt_14 : decode b_Lb_isJoinAt 14 = .ok (.istore 6, 2) := by decide +kernel
theorem d_Lb_isJoinAt_16 : decode b_Lb_isJoinAt 16 = .ok (.aload_n 0, 1) := by decide +kernel
theorem d_Lb_isJoinAt_17 : decode b_Lb_isJoinAt 17 = .ok (.iload 4, 2) := by decide +kernel
theorem d_Lb_isJoinAt_19 : decode b_Lb_isJoinAt 19 = .ok (.iload_n 1, 1) := by decide +kernel
theorem d_Lb_isJoinAt_20 : decode b_Lb_isJoinAt 20 = .ok (.invokevirtual 32, 3) := by decide +kernel
theorem d_Lb_isJoinAt_23 : decode b_Lb_isJoinAt 23 = .ok (.istore 7, 2) := by decide +kernel
theorem d_Lb_isJoinAt_25 : decode b_Lb_isJoinAt 25 = .ok (.iload 5, 2) := by decide +kernel
theorem d_Lb_isJoinAt_27 : decode b_Lb_isJoinAt 27 = .ok (.iconst 4, 1) := by decide +kernel
theorem d_Lb_isJoinAt_28 : decode b_Lb_isJoinAt 28 = .ok (.if_icmp .ne 21, 3) := by decide +kernel
theorem d_Lb_isJoinAt_31 : decode b_Lb_isJoinAt 31 = .ok (.iload 6, 2) := by decide +kernel
theorem d_Lb_isJoinAt_33 : decode b_Lb_isJoinAt 33 = .ok (.iconst 4, 1) := by decide +kernel
theorem d_Lb_isJoinAt_34 : decode b_Lb_isJoinAt 34 = .ok (.if_icmp .eq 9, 3) := by decide +kernel
theorem d_Lb_isJoinAt_37 : decode b_Lb_isJoinAt 37 = .ok (.iload 7, 2) := by decide +kernel
theorem d_Lb_isJoinAt_39 : decode b_Lb_isJoinAt 39 = .ok (.iconst 4, 1) := by decide +kernel
theorem d_Lb_isJoinAt_40 : decode b_Lb_isJoinAt 40 = .ok (.if_icmp .ne 7, 3) := by decide +kernel
theorem d_Lb_isJoinAt_43 : decode b_Lb_isJoinAt 43 = .ok (.iconst 1, 1) := by decide +kernel
theorem d_Lb_isJoinAt_44 : decode b_Lb_isJoinAt 44 = .ok (.goto 4, 3) := by decide +kernel
theorem d_Lb_isJoinAt_47 : decode b_Lb_isJoinAt 47 = .ok (.iconst 0, 1) := by decide +kernel
theorem d_Lb_isJoinAt_48 : decode b_Lb_isJoinAt 48 = .ok (.ireturn, 1) := by decide +kernel
theorem d_Lb_isJoinAt_49 : decode b_Lb_isJoinAt 49 = .ok (.iload 5, 2) := by decide +kernel
theorem d_Lb_isJoinAt_51 : decode b_Lb_isJoinAt 51 = .ok (.iload 6, 2) := by decide +kernel
theorem d_Lb_isJoinAt_53 : decode b_Lb_isJoinAt 53 = .ok (.invokestatic 36, 3) := by decide +kernel
theorem d_Lb_isJoinAt_56 : decode b_Lb_isJoinAt 56 = .ok (.if_icmp .lt 17, 3) := by decide +kernel
theorem d_Lb_isJoinAt_59 : decode b_Lb_isJoinAt 59 = .ok (.iload 5, 2) := by decide +kernel
theorem d_Lb_isJoinAt_61 : decode b_Lb_isJoinAt 61 = .ok (.iload 7, 2) := by decide +kernel
theorem d_Lb_isJoinAt_63 : decode b_Lb_isJoinAt 63 = .ok (.invokestatic 36, 3) := by decide +kernel
theorem d_Lb_isJoinAt_66 : decode b_Lb_isJoinAt 66 = .ok (.if_icmp .lt 7, 3) := by decide +kernel
theorem d_Lb_isJoinAt_69 : decode b_Lb_isJoinAt 69 = .ok (.iconst 1, 1) := by decide +kernel
theorem d_Lb_isJoinAt_70 : decode b_Lb_isJoinAt 70 = .ok (.goto 4, 3) := by decide +kernel
theorem d_Lb_isJoinAt_73 : decode b_Lb_isJoinAt 73 = .ok (.iconst 0, 1) := by decide +kernel
theorem d_Lb_isJoinAt_74 : decode b_Lb_isJoinAt 74 = .ok (.ireturn, 1) := by decide +kernel
theorem d_Lb_isNowhereAboveBoth_0 : decode b_Lb_isNowhereAboveBoth 0 = .ok (.iconst 0, 1) := by decide +kernel
theorem d_Lb_isNowhereAboveBoth_1 : decode b_Lb_isNowhereAboveBoth 1 = .ok (.istore 4, 2) := by decide +kernel
theorem d_Lb_isNowhereAboveBoth_3 : decode b_Lb_isNowhereAboveBoth 3 = .ok (.iload 4, 2) := by decide +kernel
theorem d_Lb_isNowhereAboveBoth_5 : decode b_Lb_isNowhereAboveBoth 5 = .ok (.bipush 8, 2) := by decide +kernel
theorem d_Lb_isNowhereAboveBoth_7 : decode b_Lb_isNowhereAboveBoth 7 = .ok (.if_icmp .ge 44, 3) := by decide +kernel
theorem d_Lb_isNowhereAboveBoth_10 : decode b_Lb_isNowhereAboveBoth 10 = .ok (.aload_n 0, 1) := by decide +kernel
theorem d_Lb_isNowhereAboveBoth_11 : decode b_Lb_isNowhereAboveBoth 11 = .ok (.iload_n 1, 1) := by decide +kernel
theorem d_Lb_isNowhereAboveBoth_12 : decode b_Lb_isNowhereAboveBoth 12 = .ok (.iload 4, 2) := by decide +kernel
theorem d_Lb_isNowhereAboveBoth_14 : decode b_Lb_isNowhereAboveBoth 14 = .ok (.invokevirtual 32, 3) := by decide +kernel
theorem d_Lb_isNowhereAboveBoth_17 : decode b_Lb_isNowhereAboveBoth 17 = .ok (.istore 5, 2) := by decide +kernel
theorem d_Lb_isNowhereAboveBoth_19 : decode b_Lb_isNowhereAboveBoth 19 = .ok (.iload 5, 2) := by decide +kernel
theorem d_Lb_isNowhereAboveBoth_21 : decode b_Lb_isNowhereAboveBoth 21 = .ok (.aload_n 0, 1) := by decide +kernel
theorem d_Lb_isNowhereAboveBoth_22 : decode b_Lb_isNowhereAboveBoth 22 = .ok (.iload_n 2, 1) := by decide +kernel
theorem d_Lb_isNowhereAboveBoth_23 : decode b_Lb_isNowhereAboveBoth 23 = .ok (.iload 4, 2) := by decide +kernel
theorem d_Lb_isNowhereAboveBoth_25 : decode b_Lb_isNowhereAboveBoth 25 = .ok (.invokevirtual 32, 3) := by decide +kernel
theorem d_Lb_isNowhereAboveBoth_28 : decode b_Lb_isNowhereAboveBoth 28 = .ok (.if_icmp .le 17, 3) := by decide +kernel
theorem d_Lb_isNowhereAboveBoth_31 : decode b_Lb_isNowhereAboveBoth 31 = .ok (.iload 5, 2) := by decide +kernel
theorem d_Lb_isNowhereAboveBoth_33 : decode b_Lb_isNowhereAboveBoth 33 = .ok (.aload_n 0, 1) := by decide +kernel
theorem d_Lb_isNowhereAboveBoth_34 : decode b_Lb_isNowhereAboveBoth 34 = .ok (.iload_n 3, 1) := by decide +kernel
theorem d_Lb_isNowhereAboveBoth_35 : decode b_Lb_isNowhereAboveBoth 35 = .ok (.iload 4, 2) := by decide +kernel
theorem d_Lb_isNowhereAboveBoth_37 : decode b_Lb_isNowhereAboveBoth 37 = .ok (.invokevirtual 32, 3) := by decide +kernel
theorem d_Lb_isNowhereAboveBoth_40 : decode b_Lb_isNowhereAboveBoth 40 = .ok (.if_icmp .le 5, 3) := by decide +kernel
theorem d_Lb_isNowhereAboveBoth_43 : decode b_Lb_isNowhereAboveBoth 43 = .ok (.iconst 0, 1) := by decide +kernel
theorem d_Lb_isNowhereAboveBoth_44 : decode b_Lb_isNowhereAboveBoth 44 = .ok (.ireturn, 1) := by decide +kernel
theorem d_Lb_isNowhereAboveBoth_45 : decode b_Lb_isNowhereAboveBoth 45 = .ok (.iinc 4 1, 3) := by decide +kernel
theorem d_Lb_isNowhereAboveBoth_48 : decode b_Lb_isNowhereAboveBoth 48 = .ok (.goto (-45), 3) := by decide +kernel
theorem d_Lb_isNowhereAboveBoth_51 : decode b_Lb_isNowhereAboveBoth 51 = .ok (.iconst 1, 1) := by decide +kernel
theorem d_Lb_isNowhereAboveBoth_52 : decode b_Lb_isNowhereAboveBoth 52 = .ok (.ireturn, 1) := by decide +kernel
theorem d_Lb_changed_0 : decode b_Lb_changed 0 = .ok (.iconst 4, 1) := by decide +kernel
theorem d_Lb_changed_1 : decode b_Lb_changed 1 = .ok (.iload_n 2, 1) := by decide +kernel
theorem d_Lb_changed_2 : decode b_Lb_changed 2 = .ok (.imul, 1) := by decide +kernel
theorem d_Lb_changed_3 : decode b_Lb_changed 3 = .ok (.istore 4, 2) := by decide +kernel
theorem d_Lb_changed_5 : decode b_Lb_changed 5 = .ok (.aload_n 0, 1) := by decide +kernel
theorem d_Lb_changed_6 : decode b_Lb_changed 6 = .ok (.getfield 9, 3) := by decide +kernel
theorem d_Lb_changed_9 : decode b_Lb_changed 9 = .ok (.iload_n 1, 1) := by decide +kernel
theorem d_Lb_changed_10 : decode b_Lb_changed 10 = .ok (.iaload, 1) := by decide +kernel
theorem d_Lb_changed_11 : decode b_Lb_changed 11 = .ok (.bipush 15, 2) := by decide +kernel
theorem d_Lb_changed_13 : decode b_Lb_changed 13 = .ok (.iload 4, 2) := by decide +kernel
theorem d_Lb_changed_15 : decode b_Lb_changed 15 = .ok (.ishl, 1) := by decide +kernel
theorem d_Lb_changed_16 : decode b_Lb_changed 16 = .ok (.iconst (-1), 1) := by decide +kernel
theorem d_Lb_changed_17 : decode b_Lb_changed 17 = .ok (.ixor, 1) := by decide +kernel
theorem d_Lb_changed_18 : decode b_Lb_changed 18 = .ok (.iand, 1) := by decide +kernel
theorem d_Lb_changed_19 : decode b_Lb_changed 19 = .ok (.iload_n 3, 1) := by decide +kernel
theorem d_Lb_changed_20 : decode b_Lb_changed 20 = .ok (.iload 4, 2) := by decide +kernel
theorem d_Lb_changed_22 : decode b_Lb_changed 22 = .ok (.ishl, 1) := by decide +kernel
theorem d_Lb_changed_23 : decode b_Lb_changed 23 = .ok (.ior, 1) := by decide +kernel
theorem d_Lb_changed_24 : decode b_Lb_changed 24 = .ok (.ireturn, 1) := by decide +kernel
theorem d_Lb_indexOf_0 : decode b_Lb_indexOf 0 = .ok (.iconst 0, 1) := by decide +kernel
theorem d_Lb_indexOf_1 : decode b_Lb_indexOf 1 = .ok (.istore_n 2, 1) := by decide +kernel
theorem d_Lb_indexOf_2 : decode b_Lb_indexOf 2 = .ok (.iload_n 2, 1) := by decide +kernel
theorem d_Lb_indexOf_3 : decode b_Lb_indexOf 3 = .ok (.aload_n 0, 1) := by decide +kernel
theorem d_Lb_indexOf_4 : decode b_Lb_indexOf 4 = .ok (.getfield 17, 3) := by decide +kernel
theorem d_Lb_indexOf_7 : decode b_Lb_indexOf 7 = .ok (.if_icmp .ge 21, 3) := by decide +kernel
theorem d_Lb_indexOf_10 : decode b_Lb_indexOf 10 = .ok (.aload_n 0, 1) := by decide +kernel
theorem d_Lb_indexOf_11 : decode b_Lb_indexOf 11 = .ok (.getfield 9, 3) := by decide +kernel
theorem d_Lb_indexOf_14 : decode b_Lb_indexOf 14 = .ok (.iload_n 2, 1) := by decide +kernel
theorem d_Lb_indexOf_15 : decode b_Lb_indexOf 15 = .ok (.iaload, 1) := by decide +kernel
theorem d_Lb_indexOf_16 : decode b_Lb_indexOf 16 = .ok (.iload_n 1, 1) := by decide +kernel
theorem d_Lb_indexOf_17 : decode b_Lb_indexOf 17 = .ok (.if_icmp .ne 5, 3) := by decide +kernel
theorem d_Lb_indexOf_20 : decode b_Lb_indexOf 20 = .ok (.iload_n 2, 1) := by decide +kernel
theorem d_Lb_indexOf_21 : decode b_Lb_indexOf 21 = .ok (.ireturn, 1) := by decide +kernel
theorem d_Lb_indexOf_22 : decode b_Lb_indexOf 22 = .ok (.iinc 2 1, 3) := by decide +kernel
theorem d_Lb_indexOf_25 : decode b_Lb_indexOf 25 = .ok (.goto (-23), 3) := by decide +kernel
theorem d_Lb_indexOf_28 : decode b_Lb_indexOf 28 = .ok (.iconst (-1), 1) := by decide +kernel
theorem d_Lb_indexOf_29 : decode b_Lb_indexOf 29 = .ok (.ireturn, 1) := by decide +kernel
theorem d_Lb_missing_0 : decode b_Lb_missing 0 = .ok (.aload_n 0, 1) := by decide +kernel
theorem d_Lb_missing_1 : decode b_Lb_missing 1 = .ok (.iload_n 1, 1) := by decide +kernel
theorem d_Lb_missing_2 : decode b_Lb_missing 2 = .ok (.invokevirtual 44, 3) := by decide +kernel
theorem d_Lb_missing_5 : decode b_Lb_missing 5 = .ok (.iconst (-1), 1) := by decide +kernel
theorem d_Lb_missing_6 : decode b_Lb_missing 6 = .ok (.if_icmp .ne 7, 3) := by decide +kernel
theorem d_Lb_missing_9 : decode b_Lb_missing 9 = .ok (.iconst 1, 1) := by decide +kernel
theorem d_Lb_missing_10 : decode b_Lb_missing 10 = .ok (.goto 4, 3) := by decide +kernel
theorem d_Lb_missing_13 : decode b_Lb_missing 13 = .ok (.iconst 0, 1) := by decide +kernel
theorem d_Lb_missing_14 : decode b_Lb_missing 14 = .ok (.ireturn, 1) := by decide +kernel
theorem d_Lb_numberOf_0 : decode b_Lb_numberOf 0 = .ok (.aload_n 0, 1) := by decide +kernel
theorem d_Lb_numberOf_1 : decode b_Lb_numberOf 1 = .ok (.iload_n 1, 1) := by decide +kernel
theorem d_Lb_numberOf_2 : decode b_Lb_numberOf 2 = .ok (.invokevirtual 44, 3) := by decide +kernel
theorem d_Lb_numberOf_5 : decode b_Lb_numberOf 5 = .ok (.istore_n 2, 1) := by decide +kernel
theorem d_Lb_numberOf_6 : decode b_Lb_numberOf 6 = .ok (.iload_n 2, 1) := by decide +kernel
theorem d_Lb_numberOf_7 : decode b_Lb_numberOf 7 = .ok (.iconst (-1), 1) := by decide +kernel
theorem d_Lb_numberOf_8 : decode b_Lb_numberOf 8 = .ok (.if_icmp .ne 34, 3) := by decide +kernel
theorem d_Lb_numberOf_11 : decode b_Lb_numberOf 11 = .ok (.aload_n 0, 1) := by decide +kernel
theorem d_Lb_numberOf_12 : decode b_Lb_numberOf 12 = .ok (.getfield 17, 3) := by decide +kernel
theorem d_Lb_numberOf_15 : decode b_Lb_numberOf 15 = .ok (.bipush 60, 2) := by decide +kernel
theorem d_Lb_numberOf_17 : decode b_Lb_numberOf 17 = .ok (.if_icmp .ge 25, 3) := by decide +kernel
theorem d_Lb_numberOf_20 : decode b_Lb_numberOf 20 = .ok (.aload_n 0, 1) := by decide +kernel
theorem d_Lb_numberOf_21 : decode b_Lb_numberOf 21 = .ok (.getfield 17, 3) := by decide +kernel
theorem d_Lb_numberOf_24 : decode b_Lb_numberOf 24 = .ok (.istore_n 2, 1) := by decide +kernel
theorem d_Lb_numberOf_25 : decode b_Lb_numberOf 25 = .ok (.aload_n 0, 1) := by decide +kernel
theorem d_Lb_numberOf_26 : decode b_Lb_numberOf 26 = .ok (.getfield 9, 3) := by decide +kernel
theorem d_Lb_numberOf_29 : decode b_Lb_numberOf 29 = .ok (.iload_n 2, 1) := by decide +kernel
theorem d_Lb_numberOf_30 : decode b_Lb_numberOf 30 = .ok (.iload_n 1, 1) := by decide +kernel
theorem d_Lb_numberOf_31 : decode b_Lb_numberOf 31 = .ok (.iastore, 1) := by decide +kernel
theorem d_Lb_numberOf_32 : decode b_Lb_numberOf 32 = .ok (.aload_n 0, 1) := by decide +kernel
theorem d_Lb_numberOf_33 : decode b_Lb_numberOf 33 = .ok (.dup, 1) := by decide +kernel
theorem d_Lb_numberOf_34 : decode b_Lb_numberOf 34 = .ok (.getfield 17, 3) := by decide +kernel
theorem d_Lb_numberOf_37 : decode b_Lb_numberOf 37 = .ok (.iconst 1, 1) := by decide +kernel
theorem d_Lb_numberOf_38 : decode b_Lb_numberOf 38 = .ok (.iadd, 1) := by decide +kernel
theorem d_Lb_numberOf_39 : decode b_Lb_numberOf 39 = .ok (.putfield 17, 3) := by decide +kernel
theorem d_Lb_numberOf_42 : decode b_Lb_numberOf 42 = .ok (.iload_n 2, 1) := by decide +kernel
theorem d_Lb_numberOf_43 : decode b_Lb_numberOf 43 = .ok (.ireturn, 1) := by decide +kernel
theorem d_Sn_init_0 : decode b_Sn_init 0 = .ok (.aload_n 0, 1) := by decide +kernel
theorem d_Sn_init_1 : decode b_Sn_init 1 = .ok (.invokespecial 1, 3) := by decide +kernel
theorem d_Sn_init_4 : decode b_Sn_init 4 = .ok (.aload_n 0, 1) := by decide +kernel
theorem d_Sn_init_5 : decode b_Sn_init 5 = .ok (.new 7, 3) := by decide +kernel
theorem d_Sn_init_8 : decode b_Sn_init 8 = .ok (.dup, 1) := by decide +kernel
theorem d_Sn_init_9 : decode b_Sn_init 9 = .ok (.invokespecial 9, 3) := by decide +kernel
theorem d_Sn_init_12 : decode b_Sn_init 12 = .ok (.putfield 10, 3) := by decide +kernel
theorem d_Sn_init_15 : decode b_Sn_init 15 = .ok (.aload_n 0, 1) := by decide +kernel
theorem d_Sn_init_16 : decode b_Sn_init 16 = .ok (.new 16, 3) := by decide +kernel
theorem d_Sn_init_19 : decode b_Sn_init 19 = .ok (.dup, 1) := by decide +kernel
theorem d_Sn_init_20 : decode b_Sn_init 20 = .ok (.invokespecial 18, 3) := by decide +kernel
theorem d_Sn_init_23 : decode b_Sn_init 23 = .ok (.putfield 19, 3) := by decide +kernel
theorem d_Sn_init_26 : decode b_Sn_init 26 = .ok (.aload_n 0, 1) := by decide +kernel
theorem d_Sn_init_27 : decode b_Sn_init 27 = .ok (.new 23, 3) := by decide +kernel
theorem d_Sn_init_30 : decode b_Sn_init 30 = .ok (.dup, 1) := by decide +kernel
theorem d_Sn_init_31 : decode b_Sn_init 31 = .ok (.invokespecial 25, 3) := by decide +kernel
theorem d_Sn_init_34 : decode b_Sn_init 34 = .ok (.putfield 26, 3) := by decide +kernel
theorem d_Sn_init_37 : decode b_Sn_init 37 = .ok (.aload_n 0, 1) := by decide +kernel
theorem d_Sn_init_38 : decode b_Sn_init 38 = .ok (.iconst 0, 1) := by decide +kernel
theorem d_Sn_init_39 : decode b_Sn_init 39 = .ok (.putfield 30, 3) := by decide +kernel
theorem d_Sn_init_42 : decode b_Sn_init 42 = .ok (.return_, 1) := by decide +kernel
theorem d_Sn_takeFrom_0 : decode b_Sn_takeFrom 0 = .ok (.aload_n 0, 1) := by decide +kernel
theorem d_Sn_takeFrom_1 : decode b_Sn_takeFrom 1 = .ok (.getfield 10, 3) := by decide +kernel
theorem d_Sn_takeFrom_4 : decode b_Sn_takeFrom 4 = .ok (.aload_n 1, 1) := by decide +kernel
theorem d_Sn_takeFrom_5 : decode b_Sn_takeFrom 5 = .ok (.getfield 10, 3) := by decide +kernel
theorem d_Sn_takeFrom_8 : decode b_Sn_takeFrom 8 = .ok (.invokevirtual 34, 3) := by decide +kernel
theorem d_Sn_takeFrom_11 : decode b_Sn_takeFrom 11 = .ok (.aload_n 0, 1) := by decide +kernel
theorem d_Sn_takeFrom_12 : decode b_Sn_takeFrom 12 = .ok (.getfield 19, 3) := by decide +kernel
theorem d_Sn_takeFrom_15 : decode b_Sn_takeFrom 15 = .ok (.aload_n 1, 1) := by decide +kernel
theorem d_Sn_takeFrom_16 : decode b_Sn_takeFrom 16 = .ok (.getfield 19, 3) := by decide +kernel
theorem d_Sn_takeFrom_19 : decode b_Sn_takeFrom 19 = .ok (.invokevirtual 38, 3) := by decide +kernel
theorem d_Sn_takeFrom_22 : decode b_Sn_takeFrom 22 = .ok (.aload_n 0, 1) := by decide +kernel
theorem d_Sn_takeFrom_23 : decode b_Sn_takeFrom 23 = .ok (.getfield 26, 3) := by decide +kernel
theorem d_Sn_takeFrom_26 : decode b_Sn_takeFrom 26 = .ok (.aload_n 1, 1) := by decide +kernel
theorem d_Sn_takeFrom_27 : decode b_Sn_takeFrom 27 = .ok (.getfield 26, 3) := by decide +kernel
theorem d_Sn_takeFrom_30 : decode b_Sn_takeFrom 30 = .ok (.invokevirtual 41, 3) := by decide +kernel
theorem d_Sn_takeFrom_33 : decode b_Sn_takeFrom 33 = .ok (.aload_n 0, 1) := by decide +kernel
theorem d_Sn_takeFrom_34 : decode b_Sn_takeFrom 34 = .ok (.aload_n 1, 1) := by decide +kernel
theorem d_Sn_takeFrom_35 : decode b_Sn_takeFrom 35 = .ok (.getfield 30, 3) := by decide +kernel
theorem d_Sn_takeFrom_38 : decode b_Sn_takeFrom 38 = .ok (.putfield 30, 3) := by decide +kernel
theorem d_Sn_takeFrom_41 : decode b_Sn_takeFrom 41 = .ok (.return_, 1) := by decide +kernel
theorem d_Us_init_0 : decode b_Us_init 0 = .ok (.aload_n 0, 1) := by decide +kernel
theorem d_Us_init_1 : decode b_Us_init 1 = .ok (.invokespecial 3, 3) := by decide +kernel
theorem d_Us_init_4 : decode b_Us_init 4 = .ok (.aload_n 0, 1) := by decide +kernel
theorem d_Us_init_5 : decode b_Us_init 5 = .ok (.iconst 4, 1) := by decide +kernel
theorem d_Us_init_6 : decode b_Us_init 6 = .ok (.newarray .boolean, 2) := by decide +kernel
theorem d_Us_init_8 : decode b_Us_init 8 = .ok (.putfield 9, 3) := by decide +kernel
theorem d_Us_init_11 : decode b_Us_init 11 = .ok (.aload_n 0, 1) := by decide +kernel
theorem d_Us_init_12 : decode b_Us_init 12 = .ok (.iconst 4, 1) := by decide +kernel
theorem d_Us_init_13 : decode b_Us_init 13 = .ok (.newarray .int, 2) := by decide +kernel
theorem d_Us_init_15 : decode b_Us_init 15 = .ok (.putfield 15, 3) := by decide +kernel
theorem d_Us_init_18 : decode b_Us_init 18 = .ok (.aload_n 0, 1) := by decide +kernel
theorem d_Us_init_19 : decode b_Us_init 19 = .ok (.iconst 4, 1) := by decide +kernel
theorem d_Us_init_20 : decode b_Us_init 20 = .ok (.newarray .int, 2) := by decide +kernel
theorem d_Us_init_22 : decode b_Us_init 22 = .ok (.putfield 19, 3) := by decide +kernel
theorem d_Us_init_25 : decode b_Us_init 25 = .ok (.aload_n 0, 1) := by decide +kernel
theorem d_Us_init_26 : decode b_Us_init 26 = .ok (.iconst 4, 1) := by decide +kernel
theorem d_Us_init_27 : decode b_Us_init 27 = .ok (.newarray .int, 2) := by decide +kernel
theorem d_Us_init_29 : decode b_Us_init 29 = .ok (.putfield 22, 3) := by decide +kernel
theorem d_Us_init_32 : decode b_Us_init 32 = .ok (.aload_n 0, 1) := by decide +kernel
theorem d_Us_init_33 : decode b_Us_init 33 = .ok (.iconst 4, 1) := by decide +kernel
theorem d_Us_init_34 : decode b_Us_init 34 = .ok (.newarray .int, 2) := by decide +kernel
theorem d_Us_init_36 : decode b_Us_init 36 = .ok (.putfield 25, 3) := by decide +kernel
theorem d_Us_init_39 : decode b_Us_init 39 = .ok (.aload_n 0, 1) := by decide +kernel
theorem d_Us_init_40 : decode b_Us_init 40 = .ok (.iconst 4, 1) := by decide +kernel
theorem d_Us_init_41 : decode b_Us_init 41 = .ok (.newarray .int, 2) := by decide +kernel
theorem d_Us_init_43 : decode b_Us_init 43 = .ok (.putfield 28, 3) := by decide +kernel
theorem d_Us_init_46 : decode b_Us_init 46 = .ok (.aload_n 0, 1) := by decide +kernel
theorem d_Us_init_47 : decode b_Us_init 47 = .ok (.iconst 4, 1) := by decide +kernel
theorem d_Us_init_48 : decode b_Us_init 48 = .ok (.newarray .int, 2) := by decide +kernel
theorem d_Us_init_50 : decode b_Us_init 50 = .ok (.putfield 31, 3) := by decide +kernel
theorem d_Us_init_53 : decode b_Us_init 53 = .ok (.return_, 1) := by decide +kernel
theorem d_Us_takeFrom_0 : decode b_Us_takeFrom 0 = .ok (.aload_n 1, 1) := by decide +kernel
theorem d_Us_takeFrom_1 : decode b_Us_takeFrom 1 = .ok (.getfield 9, 3) := by decide +kernel
theorem d_Us_takeFrom_4 : decode b_Us_takeFrom 4 = .ok (.iconst 0, 1) := by decide +kernel
theorem d_Us_takeFrom_5 : decode b_Us_takeFrom 5 = .ok (.aload_n 0, 1) := by decide +kernel
theorem d_Us_takeFrom_6 : decode b_Us_takeFrom 6 = .ok (.getfield 9, 3) := by decide +kernel
theorem d_Us_takeFrom_9 : decode b_Us_takeFrom 9 = .ok (.iconst 0, 1) := by decide +kernel
theorem d_Us_takeFrom_10 : decode b_Us_takeFrom 10 = .ok (.iconst 4, 1) := by decide +kernel
theorem d_Us_takeFrom_11 : decode b_Us_takeFrom 11 = .ok (.invokestatic 34, 3) := by decide +kernel
theorem d_Us_takeFrom_14 : decode b_Us_takeFrom 14 = .ok (.aload_n 1, 1) := by decide +kernel
theorem d_Us_takeFrom_15 : decode b_Us_takeFrom 15 = .ok (.getfield 15, 3) := by decide +kernel
theorem d_Us_takeFrom_18 : decode b_Us_takeFrom 18 = .ok (.iconst 0, 1) := by decide +kernel
theorem d_Us_takeFrom_19 : decode b_Us_takeFrom 19 = .ok (.aload_n 0, 1) := by decide +kernel
theorem d_Us_takeFrom_20 : decode b_Us_takeFrom 20 = .ok (.getfield 15, 3) := by decide +kernel
theorem d_Us_takeFrom_23 : decode b_Us_takeFrom 23 = .ok (.iconst 0, 1) := by decide +kernel
theorem d_Us_takeFrom_24 : decode b_Us_takeFrom 24 = .ok (.iconst 4, 1) := by decide +kernel
theorem d_Us_takeFrom_25 : decode b_Us_takeFrom 25 = .ok (.invokestatic 34, 3) := by decide +kernel
theorem d_Us_takeFrom_28 : decode b_Us_takeFrom 28 = .ok (.aload_n 1, 1) := by decide +kernel
theorem d_Us_takeFrom_29 : decode b_Us_takeFrom 29 = .ok (.getfield 19, 3) := by decide +kernel
theorem d_Us_takeFrom_32 : decode b_Us_takeFrom 32 = .ok (.iconst 0, 1) := by decide +kernel
theorem d_Us_takeFrom_33 : decode b_Us_takeFrom 33 = .ok (.aload_n 0, 1) := by decide +kernel
theorem d_Us_takeFrom_34 : decode b_Us_takeFrom 34 = .ok (.getfield 19, 3) := by decide +kernel
theorem d_Us_takeFrom_37 : decode b_Us_takeFrom 37 = .ok (.iconst 0, 1) := by decide +kernel
theorem d_Us_takeFrom_38 : decode b_Us_takeFrom 38 = .ok (.iconst 4, 1) := by decide +kernel
theorem d_Us_takeFrom_39 : decode b_Us_takeFrom 39 = .ok (.invokestatic 34, 3) := by decide +kernel
theorem d_Us_takeFrom_42 : decode b_Us_takeFrom 42 = .ok (.aload_n 1, 1) := by decide +kernel
theorem d_Us_takeFrom_43 : decode b_Us_takeFrom 43 = .ok (.getfield 22, 3) := by decide +kernel
theorem d_Us_takeFrom_46 : decode b_Us_takeFrom 46 = .ok (.iconst 0, 1) := by decide +kernel
theorem d_Us_takeFrom_47 : decode b_Us_takeFrom 47 = .ok (.aload_n 0, 1) := by decide +kernel
theorem d_Us_takeFrom_48 : decode b_Us_takeFrom 48 = .ok (.getfield 22, 3) := by decide +kernel
theorem d_Us_takeFrom_51 : decode b_Us_takeFrom 51 = .ok (.iconst 0, 1) := by decide +kernel
theorem d_Us_takeFrom_52 : decode b_Us_takeFrom 52 = .ok (.iconst 4, 1) := by decide +kernel
theorem d_Us_takeFrom_53 : decode b_Us_takeFrom 53 = .ok (.invokestatic 34, 3) := by decide +kernel
theorem d_Us_takeFrom_56 : decode b_Us_takeFrom 56 = .ok (.aload_n 1, 1) := by decide +kernel
theorem d_Us_takeFrom_57 : decode b_Us_takeFrom 57 = .ok (.getfield 25, 3) := by decide +kernel
theorem d_Us_takeFrom_60 : decode b_Us_takeFrom 60 = .ok (.iconst 0, 1) := by decide +kernel
theorem d_Us_takeFrom_61 : decode b_Us_takeFrom 61 = .ok (.aload_n 0, 1) := by decide +kernel
theorem d_Us_takeFrom_62 : decode b_Us_takeFrom 62 = .ok (.getfield 25, 3) := by decide +kernel
theorem d_Us_takeFrom_65 : decode b_Us_takeFrom 65 = .ok (.iconst 0, 1) := by decide +kernel
theorem d_Us_takeFrom_66 : decode b_Us_takeFrom 66 = .ok (.iconst 4, 1) := by decide +kernel
theorem d_Us_takeFrom_67 : decode b_Us_takeFrom 67 = .ok (.invokestatic 34, 3) := by decide +kernel
theorem d_Us_takeFrom_70 : decode b_Us_takeFrom 70 = .ok (.aload_n 1, 1) := by decide +kernel
theorem d_Us_takeFrom_71 : decode b_Us_takeFrom 71 = .ok (.getfield 28, 3) := by decide +kernel
theorem d_Us_takeFrom_74 : decode b_Us_takeFrom 74 = .ok (.iconst 0, 1) := by decide +kernel
theorem d_Us_takeFrom_75 : decode b_Us_takeFrom 75 = .ok (.aload_n 0, 1) := by decide +kernel
theorem d_Us_takeFrom_76 : decode b_Us_takeFrom 76 = .ok (.getfield 28, 3) := by decide +kernel
theorem d_Us_takeFrom_79 : decode b_Us_takeFrom 79 = .ok (.iconst 0, 1) := by decide +kernel
theorem d_Us_takeFrom_80 : decode b_Us_takeFrom 80 = .ok (.iconst 4, 1) := by decide +kernel
theorem d_Us_takeFrom_81 : decode b_Us_takeFrom 81 = .ok (.invokestatic 34, 3) := by decide +kernel
theorem d_Us_takeFrom_84 : decode b_Us_takeFrom 84 = .ok (.aload_n 1, 1) := by decide +kernel
theorem d_Us_takeFrom_85 : decode b_Us_takeFrom 85 = .ok (.getfield 31, 3) := by decide +kernel
theorem d_Us_takeFrom_88 : decode b_Us_takeFrom 88 = .ok (.iconst 0, 1) := by decide +kernel
theorem d_Us_takeFrom_89 : decode b_Us_takeFrom 89 = .ok (.aload_n 0, 1) := by decide +kernel
theorem d_Us_takeFrom_90 : decode b_Us_takeFrom 90 = .ok (.getfield 31, 3) := by decide +kernel
theorem d_Us_takeFrom_93 : decode b_Us_takeFrom 93 = .ok (.iconst 0, 1) := by decide +kernel
theorem d_Us_takeFrom_94 : decode b_Us_takeFrom 94 = .ok (.iconst 4, 1) := by decide +kernel
theorem d_Us_takeFrom_95 : decode b_Us_takeFrom 95 = .ok (.invokestatic 34, 3) := by decide +kernel
theorem d_Us_takeFrom_98 : decode b_Us_takeFrom 98 = .ok (.return_, 1) := by decide +kernel
theorem d_Us_howMany_0 : decode b_Us_howMany 0 = .ok (.iconst 0, 1) := by decide +kernel
theorem d_Us_howMany_1 : decode b_Us_howMany 1 = .ok (.istore_n 1, 1) := by decide +kernel
theorem d_Us_howMany_2 : decode b_Us_howMany 2 = .ok (.iconst 0, 1) := by decide +kernel
theorem d_Us_howMany_3 : decode b_Us_howMany 3 = .ok (.istore_n 2, 1) := by decide +kernel
theorem d_Us_howMany_4 : decode b_Us_howMany 4 = .ok (.iload_n 2, 1) := by decide +kernel
theorem d_Us_howMany_5 : decode b_Us_howMany 5 = .ok (.iconst 4, 1) := by decide +kernel
theorem d_Us_howMany_6 : decode b_Us_howMany 6 = .ok (.if_icmp .ge 21, 3) := by decide +kernel
theorem d_Us_howMany_9 : decode b_Us_howMany 9 = .ok (.aload_n 0, 1) := by decide +kernel
theorem d_Us_howMany_10 : decode b_Us_howMany 10 = .ok (.getfield 9, 3) := by decide +kernel
theorem d_Us_howMany_13 : decode b_Us_howMany 13 = .ok (.iload_n 2, 1) := by decide +kernel
theorem d_Us_howMany_14 : decode b_Us_howMany 14 = .ok (.baload, 1) := by decide +kernel
theorem d_Us_howMany_15 : decode b_Us_howMany 15 = .ok (.ifCond .eq 6, 3) := by decide +kernel
theorem d_Us_howMany_18 : decode b_Us_howMany 18 = .ok (.iinc 1 1, 3) := by decide +kernel
theorem d_Us_howMany_21 : decode b_Us_howMany 21 = .ok (.iinc 2 1, 3) := by decide +kernel
theorem d_Us_howMany_24 : decode b_Us_howMany 24 = .ok (.goto (-20), 3) := by decide +kernel
theorem d_Us_howMany_27 : decode b_Us_howMany 27 = .ok (.iload_n 1, 1) := by decide +kernel
theorem d_Us_howMany_28 : decode b_Us_howMany 28 = .ok (.ireturn, 1) := by decide +kernel
theorem d_Us_isThere_0 : decode b_Us_isThere 0 = .ok (.aload_n 0, 1) := by decide +kernel
theorem d_Us_isThere_1 : decode b_Us_isThere 1 = .ok (.getfield 9, 3) := by decide +kernel
theorem d_Us_isThere_4 : decode b_Us_isThere 4 = .ok (.iload_n 1, 1) := by decide +kernel
theorem d_Us_isThere_5 : decode b_Us_isThere 5 = .ok (.baload, 1) := by decide +kernel
theorem d_Us_isThere_6 : decode b_Us_isThere 6 = .ok (.ireturn, 1) := by decide +kernel
theorem d_Us_add_0 : decode b_Us_add 0 = .ok (.aload_n 0, 1) := by decide +kernel
theorem d_Us_add_1 : decode b_Us_add 1 = .ok (.getfield 9, 3) := by decide +kernel
theorem d_Us_add_4 : decode b_Us_add 4 = .ok (.iload_n 1, 1) := by decide +kernel
theorem d_Us_add_5 : decode b_Us_add 5 = .ok (.iconst 1, 1) := by decide +kernel
theorem d_Us_add_6 : decode b_Us_add 6 = .ok (.bastore, 1) := by decide +kernel
theorem d_Us_add_7 : decode b_Us_add 7 = .ok (.aload_n 0, 1) := by decide +kernel
theorem d_Us_add_8 : decode b_Us_add 8 = .ok (.getfield 15, 3) := by decide +kernel
theorem d_Us_add_11 : decode b_Us_add 11 = .ok (.iload_n 1, 1) := by decide +kernel
theorem d_Us_add_12 : decode b_Us_add 12 = .ok (.iload_n 2, 1) := by decide +kernel
theorem d_Us_add_13 : decode b_Us_add 13 = .ok (.iastore, 1) := by decide +kernel
theorem d_Us_add_14 : decode b_Us_add 14 = .ok (.return_, 1) := by decide +kernel
theorem d_Us_setCategories_0 : decode b_Us_setCategories 0 = .ok (.aload_n 0, 1) := by decide +kernel
theorem d_Us_setCategories_1 : decode b_Us_setCategories 1 = .ok (.getfield 19, 3) := by decide +kernel
theorem d_Us_setCategories_4 : decode b_Us_setCategories 4 = .ok (.iload_n 1, 1) := by decide +kernel
theorem d_Us_setCategories_5 : decode b_Us_setCategories 5 = .ok (.iload_n 2, 1) := by decide +kernel
theorem d_Us_setCategories_6 : decode b_Us_setCategories 6 = .ok (.iastore, 1) := by decide +kernel
theorem d_Us_setCategories_7 : decode b_Us_setCategories 7 = .ok (.aload_n 0, 1) := by decide +kernel
theorem d_Us_setCategories_8 : decode b_Us_setCategories 8 = .ok (.getfield 22, 3) := by decide +kernel
theorem d_Us_setCategories_11 : decode b_Us_setCategories 11 = .ok (.iload_n 1, 1) := by decide +kernel
theorem d_Us_setCategories_12 : decode b_Us_setCategories 12 = .ok (.iload_n 3, 1) := by decide +kernel
theorem d_Us_setCategories_13 : decode b_Us_setCategories 13 = .ok (.iastore, 1) := by decide +kernel
theorem d_Us_setCategories_14 : decode b_Us_setCategories 14 = .ok (.return_, 1) := by decide +kernel
theorem d_Us_setObjects_0 : decode b_Us_setObjects 0 = .ok (.aload_n 0, 1) := by decide +kernel
theorem d_Us_setObjects_1 : decode b_Us_setObjects 1 = .ok (.getfield 25, 3) := by decide +kernel
theorem d_Us_setObjects_4 : decode b_Us_setObjects 4 = .ok (.iload_n 1, 1) := by decide +kernel
theorem d_Us_setObjects_5 : decode b_Us_setObjects 5 = .ok (.iload_n 2, 1) := by decide +kernel
theorem d_Us_setObjects_6 : decode b_Us_setObjects 6 = .ok (.iastore, 1) := by decide +kernel
theorem d_Us_setObjects_7 : decode b_Us_setObjects 7 = .ok (.aload_n 0, 1) := by decide +kernel
theorem d_Us_setObjects_8 : decode b_Us_setObjects 8 = .ok (.getfield 28, 3) := by decide +kernel
theorem d_Us_setObjects_11 : decode b_Us_setObjects 11 = .ok (.iload_n 1, 1) := by decide +kernel
theorem d_Us_setObjects_12 : decode b_Us_setObjects 12 = .ok (.iload_n 3, 1) := by decide +kernel
theorem d_Us_setObjects_13 : decode b_Us_setObjects 13 = .ok (.iastore, 1) := by decide +kernel
theorem d_Us_setObjects_14 : decode b_Us_setObjects 14 = .ok (.aload_n 0, 1) := by decide +kernel
theorem d_Us_setObjects_15 : decode b_Us_setObjects 15 = .ok (.getfield 31, 3) := by decide +kernel
theorem d_Us_setObjects_18 : decode b_Us_setObjects 18 = .ok (.iload_n 1, 1) := by decide +kernel
theorem d_Us_setObjects_19 : decode b_Us_setObjects 19 = .ok (.iload 4, 2) := by decide +kernel
theorem d_Us_setObjects_21 : decode b_Us_setObjects 21 = .ok (.iastore, 1) := by decide +kernel
theorem d_Us_setObjects_22 : decode b_Us_setObjects 22 = .ok (.return_, 1) := by decide +kernel
theorem d_Us_passwordOf_0 : decode b_Us_passwordOf 0 = .ok (.aload_n 0, 1) := by decide +kernel
theorem d_Us_passwordOf_1 : decode b_Us_passwordOf 1 = .ok (.getfield 15, 3) := by decide +kernel
theorem d_Us_passwordOf_4 : decode b_Us_passwordOf 4 = .ok (.iload_n 1, 1) := by decide +kernel
theorem d_Us_passwordOf_5 : decode b_Us_passwordOf 5 = .ok (.iaload, 1) := by decide +kernel
theorem d_Us_passwordOf_6 : decode b_Us_passwordOf 6 = .ok (.ireturn, 1) := by decide +kernel
theorem d_Us_firstCategoryOf_0 : decode b_Us_firstCategoryOf 0 = .ok (.aload_n 0, 1) := by decide +kernel
theorem d_Us_firstCategoryOf_1 : decode b_Us_firstCategoryOf 1 = .ok (.getfield 19, 3) := by decide +kernel
theorem d_Us_firstCategoryOf_4 : decode b_Us_firstCategoryOf 4 = .ok (.iload_n 1, 1) := by decide +kernel
theorem d_Us_firstCategoryOf_5 : decode b_Us_firstCategoryOf 5 = .ok (.iaload, 1) := by decide +kernel
theorem d_Us_firstCategoryOf_6 : decode b_Us_firstCategoryOf 6 = .ok (.ireturn, 1) := by decide +kernel
theorem d_Us_secondCategoryOf_0 : decode b_Us_secondCategoryOf 0 = .ok (.aload_n 0, 1) := by decide +kernel
theorem d_Us_secondCategoryOf_1 : decode b_Us_secondCategoryOf 1 = .ok (.getfield 22, 3) := by decide +kernel
theorem d_Us_secondCategoryOf_4 : decode b_Us_secondCategoryOf 4 = .ok (.iload_n 1, 1) := by decide +kernel
theorem d_Us_secondCategoryOf_5 : decode b_Us_secondCategoryOf 5 = .ok (.iaload, 1) := by decide +kernel
theorem d_Us_secondCategoryOf_6 : decode b_Us_secondCategoryOf 6 = .ok (.ireturn, 1) := by decide +kernel
theorem d_Us_homeOf_0 : decode b_Us_homeOf 0 = .ok (.aload_n 0, 1) := by decide +kernel
theorem d_Us_homeOf_1 : decode b_Us_homeOf 1 = .ok (.getfield 25, 3) := by decide +kernel
theorem d_Us_homeOf_4 : decode b_Us_homeOf 4 = .ok (.iload_n 1, 1) := by decide +kernel
theorem d_Us_homeOf_5 : decode b_Us_homeOf 5 = .ok (.iaload, 1) := by decide +kernel
theorem d_Us_homeOf_6 : decode b_Us_homeOf 6 = .ok (.ireturn, 1) := by decide +kernel
theorem d_Us_directoryOf_0 : decode b_Us_directoryOf 0 = .ok (.aload_n 0, 1) := by decide +kernel
theorem d_Us_directoryOf_1 : decode b_Us_directoryOf 1 = .ok (.getfield 28, 3) := by decide +kernel
theorem d_Us_directoryOf_4 : decode b_Us_directoryOf 4 = .ok (.iload_n 1, 1) := by decide +kernel
theorem d_Us_directoryOf_5 : decode b_Us_directoryOf 5 = .ok (.iaload, 1) := by decide +kernel
theorem d_Us_directoryOf_6 : decode b_Us_directoryOf 6 = .ok (.ireturn, 1) := by decide +kernel
theorem d_Us_gateOf_0 : decode b_Us_gateOf 0 = .ok (.aload_n 0, 1) := by decide +kernel
theorem d_Us_gateOf_1 : decode b_Us_gateOf 1 = .ok (.getfield 31, 3) := by decide +kernel
theorem d_Us_gateOf_4 : decode b_Us_gateOf 4 = .ok (.iload_n 1, 1) := by decide +kernel
theorem d_Us_gateOf_5 : decode b_Us_gateOf 5 = .ok (.iaload, 1) := by decide +kernel
theorem d_Us_gateOf_6 : decode b_Us_gateOf 6 = .ok (.ireturn, 1) := by decide +kernel
