theorem d_Ke_init_0 : decode b_Ke_init 0 = .ok (.aload_n 0, 1) := by decide +kernel
theorem d_Ke_init_1 : decode b_Ke_init 1 = .ok (.invokespecial 1, 3) := by decide +kernel
theorem d_Ke_init_4 : decode b_Ke_init 4 = .ok (.aload_n 0, 1) := by decide +kernel
theorem d_Ke_init_5 : decode b_Ke_init 5 = .ok (.new 7, 3) := by decide +kernel
theorem d_Ke_init_8 : decode b_Ke_init 8 = .ok (.dup, 1) := by decide +kernel
theorem d_Ke_init_9 : decode b_Ke_init 9 = .ok (.invokespecial 9, 3) := by decide +kernel
theorem d_Ke_init_12 : decode b_Ke_init 12 = .ok (.putfield 10, 3) := by decide +kernel
theorem d_Ke_init_15 : decode b_Ke_init 15 = .ok (.aload_n 0, 1) := by decide +kernel
theorem d_Ke_init_16 : decode b_Ke_init 16 = .ok (.new 7, 3) := by decide +kernel
theorem d_Ke_init_19 : decode b_Ke_init 19 = .ok (.dup, 1) := by decide +kernel
theorem d_Ke_init_20 : decode b_Ke_init 20 = .ok (.invokespecial 9, 3) := by decide +kernel
theorem d_Ke_init_23 : decode b_Ke_init 23 = .ok (.putfield 16, 3) := by decide +kernel
theorem d_Ke_init_26 : decode b_Ke_init 26 = .ok (.aload_n 0, 1) := by decide +kernel
theorem d_Ke_init_27 : decode b_Ke_init 27 = .ok (.aload_n 0, 1) := by decide +kernel
theorem d_Ke_init_28 : decode b_Ke_init 28 = .ok (.getfield 10, 3) := by decide +kernel
theorem d_Ke_init_31 : decode b_Ke_init 31 = .ok (.getfield 19, 3) := by decide +kernel
theorem d_Ke_init_34 : decode b_Ke_init 34 = .ok (.putfield 23, 3) := by decide +kernel
theorem d_Ke_init_37 : decode b_Ke_init 37 = .ok (.aload_n 0, 1) := by decide +kernel
theorem d_Ke_init_38 : decode b_Ke_init 38 = .ok (.aload_n 0, 1) := by decide +kernel
theorem d_Ke_init_39 : decode b_Ke_init 39 = .ok (.getfield 10, 3) := by decide +kernel
theorem d_Ke_init_42 : decode b_Ke_init 42 = .ok (.getfield 24, 3) := by decide +kernel
theorem d_Ke_init_45 : decode b_Ke_init 45 = .ok (.putfield 28, 3) := by decide +kernel
theorem d_Ke_init_48 : decode b_Ke_init 48 = .ok (.aload_n 0, 1) := by decide +kernel
theorem d_Ke_init_49 : decode b_Ke_init 49 = .ok (.aload_n 0, 1) := by decide +kernel
theorem d_Ke_init_50 : decode b_Ke_init 50 = .ok (.getfield 10, 3) := by decide +kernel
theorem d_Ke_init_53 : decode b_Ke_init 53 = .ok (.getfield 29, 3) := by decide +kernel
theorem d_Ke_init_56 : decode b_Ke_init 56 = .ok (.putfield 33, 3) := by decide +kernel
theorem d_Ke_init_59 : decode b_Ke_init 59 = .ok (.return_, 1) := by decide +kernel
theorem d_Ke_label_0 : decode b_Ke_label 0 = .ok (.aload_n 0, 1) := by decide +kernel
theorem d_Ke_label_1 : decode b_Ke_label 1 = .ok (.getfield 23, 3) := by decide +kernel
theorem d_Ke_label_4 : decode b_Ke_label 4 = .ok (.iload_n 1, 1) := by decide +kernel
theorem d_Ke_label_5 : decode b_Ke_label 5 = .ok (.invokevirtual 34, 3) := by decide +kernel
theorem d_Ke_label_8 : decode b_Ke_label 8 = .ok (.ifCond .eq 26, 3) := by decide +kernel
theorem d_Ke_label_11 : decode b_Ke_label 11 = .ok (.iload_n 2, 1) := by decide +kernel
theorem d_Ke_label_12 : decode b_Ke_label 12 = .ok (.iconst 0, 1) := by decide +kernel
theorem d_Ke_label_13 : decode b_Ke_label 13 = .ok (.bipush 7, 2) := by decide +kernel
theorem d_Ke_label_15 : decode b_Ke_label 15 = .ok (.invokestatic 40, 3) := by decide +kernel
theorem d_Ke_label_18 : decode b_Ke_label 18 = .ok (.ifCond .eq 16, 3) := by decide +kernel
theorem d_Ke_label_21 : decode b_Ke_label 21 = .ok (.iload_n 3, 1) := by decide +kernel
theorem d_Ke_label_22 : decode b_Ke_label 22 = .ok (.iconst 0, 1) := by decide +kernel
theorem d_Ke_label_23 : decode b_Ke_label 23 = .ok (.iconst 4, 1) := by decide +kernel
theorem d_Ke_label_24 : decode b_Ke_label 24 = .ok (.invokestatic 40, 3) := by decide +kernel
theorem d_Ke_label_27 : decode b_Ke_label 27 = .ok (.ifCond .eq 7, 3) := by decide +kernel
theorem d_Ke_label_30 : decode b_Ke_label 30 = .ok (.iconst 1, 1) := by decide +kernel
theorem d_Ke_label_31 : decode b_Ke_label 31 = .ok (.goto 4, 3) := by decide +kernel
theorem d_Ke_label_34 : decode b_Ke_label 34 = .ok (.iconst 0, 1) := by decide +kernel
theorem d_Ke_label_35 : decode b_Ke_label 35 = .ok (.invokestatic 44, 3) := by decide +kernel
theorem d_Ke_label_38 : decode b_Ke_label 38 = .ok (.aload_n 0, 1) := by decide +kernel
theorem d_Ke_label_39 : decode b_Ke_label 39 = .ok (.getfield 23, 3) := by decide +kernel
theorem d_Ke_label_42 : decode b_Ke_label 42 = .ok (.iload_n 1, 1) := by decide +kernel
theorem d_Ke_label_43 : decode b_Ke_label 43 = .ok (.iload_n 2, 1) := by decide +kernel
theorem d_Ke_label_44 : decode b_Ke_label 44 = .ok (.iload_n 3, 1) := by decide +kernel
theorem d_Ke_label_45 : decode b_Ke_label 45 = .ok (.invokevirtual 48, 3) := by decide +kernel
theorem d_Ke_label_48 : decode b_Ke_label 48 = .ok (.istore 4, 2) := by decide +kernel
theorem d_Ke_label_50 : decode b_Ke_label 50 = .ok (.aload_n 0, 1) := by decide +kernel
theorem d_Ke_label_51 : decode b_Ke_label 51 = .ok (.getfield 23, 3) := by decide +kernel
theorem d_Ke_label_54 : decode b_Ke_label 54 = .ok (.iload 4, 2) := by decide +kernel
theorem d_Ke_label_56 : decode b_Ke_label 56 = .ok (.invokevirtual 52, 3) := by decide +kernel
theorem d_Ke_label_59 : decode b_Ke_label 59 = .ok (.aload_n 0, 1) := by decide +kernel
theorem d_Ke_label_60 : decode b_Ke_label 60 = .ok (.getfield 23, 3) := by decide +kernel
theorem d_Ke_label_63 : decode b_Ke_label 63 = .ok (.invokevirtual 56, 3) := by decide +kernel
theorem d_Ke_label_66 : decode b_Ke_label 66 = .ok (.if_icmp .gt 7, 3) := by decide +kernel
theorem d_Ke_label_69 : decode b_Ke_label 69 = .ok (.iconst 1, 1) := by decide +kernel
theorem d_Ke_label_70 : decode b_Ke_label 70 = .ok (.goto 4, 3) := by decide +kernel
theorem d_Ke_label_73 : decode b_Ke_label 73 = .ok (.iconst 0, 1) := by decide +kernel
theorem d_Ke_label_74 : decode b_Ke_label 74 = .ok (.invokestatic 60, 3) := by decide +kernel
theorem d_Ke_label_77 : decode b_Ke_label 77 = .ok (.aload_n 0, 1) := by decide +kernel
theorem d_Ke_label_78 : decode b_Ke_label 78 = .ok (.getfield 23, 3) := by decide +kernel
theorem d_Ke_label_81 : decode b_Ke_label 81 = .ok (.iload 4, 2) := by decide +kernel
theorem d_Ke_label_83 : decode b_Ke_label 83 = .ok (.invokevirtual 63, 3) := by decide +kernel
theorem d_Ke_label_86 : decode b_Ke_label 86 = .ok (.ireturn, 1) := by decide +kernel
theorem d_Ke_level_0 : decode b_Ke_level 0 = .ok (.aload_n 0, 1) := by decide +kernel
theorem d_Ke_level_1 : decode b_Ke_level 1 = .ok (.getfield 23, 3) := by decide +kernel
theorem d_Ke_level_4 : decode b_Ke_level 4 = .ok (.iload_n 1, 1) := by decide +kernel
theorem d_Ke_level_5 : decode b_Ke_level 5 = .ok (.invokevirtual 34, 3) := by decide +kernel
theorem d_Ke_level_8 : decode b_Ke_level 8 = .ok (.ifCond .eq 17, 3) := by decide +kernel
theorem d_Ke_level_11 : decode b_Ke_level 11 = .ok (.iload_n 2, 1) := by decide +kernel
theorem d_Ke_level_12 : decode b_Ke_level 12 = .ok (.iconst 0, 1) := by decide +kernel
theorem d_Ke_level_13 : decode b_Ke_level 13 = .ok (.bipush 7, 2) := by decide +kernel
theorem d_Ke_level_15 : decode b_Ke_level 15 = .ok (.invokestatic 40, 3) := by decide +kernel
theorem d_Ke_level_18 : decode b_Ke_level 18 = .ok (.ifCond .eq 7, 3) := by decide +kernel
theorem d_Ke_level_21 : decode b_Ke_level 21 = .ok (.iconst 1, 1) := by decide +kernel
theorem d_Ke_level_22 : decode b_Ke_level 22 = .ok (.goto 4, 3) := by decide +kernel
theorem d_Ke_level_25 : decode b_Ke_level 25 = .ok (.iconst 0, 1) := by decide +kernel
theorem d_Ke_level_26 : decode b_Ke_level 26 = .ok (.invokestatic 44, 3) := by decide +kernel
theorem d_Ke_level_29 : decode b_Ke_level 29 = .ok (.aload_n 0, 1) := by decide +kernel
theorem d_Ke_level_30 : decode b_Ke_level 30 = .ok (.getfield 23, 3) := by decide +kernel
theorem d_Ke_level_33 : decode b_Ke_level 33 = .ok (.iload_n 1, 1) := by decide +kernel
theorem d_Ke_level_34 : decode b_Ke_level 34 = .ok (.iload_n 2, 1) := by decide +kernel
theorem d_Ke_level_35 : decode b_Ke_level 35 = .ok (.invokevirtual 66, 3) := by decide +kernel
theorem d_Ke_level_38 : decode b_Ke_level 38 = .ok (.ireturn, 1) := by decide +kernel
theorem d_Ke_fits_0 : decode b_Ke_fits 0 = .ok (.aload_n 0, 1) := by decide +kernel
theorem d_Ke_fits_1 : decode b_Ke_fits 1 = .ok (.getfield 23, 3) := by decide +kernel
theorem d_Ke_fits_4 : decode b_Ke_fits 4 = .ok (.iload_n 1, 1) := by decide +kernel
theorem d_Ke_fits_5 : decode b_Ke_fits 5 = .ok (.invokevirtual 34, 3) := by decide +kernel
theorem d_Ke_fits_8 : decode b_Ke_fits 8 = .ok (.ifCond .eq 18, 3) := by decide +kernel
theorem d_Ke_fits_11 : decode b_Ke_fits 11 = .ok (.aload_n 0, 1) := by decide +kernel
theorem d_Ke_fits_12 : decode b_Ke_fits 12 = .ok (.getfield 23, 3) := by decide +kernel
theorem d_Ke_fits_15 : decode b_Ke_fits 15 = .ok (.iload_n 2, 1) := by decide +kernel
theorem d_Ke_fits_16 : decode b_Ke_fits 16 = .ok (.invokevirtual 34, 3) := by decide +kernel
theorem d_Ke_fits_19 : decode b_Ke_fits 19 = .ok (.ifCond .eq 7, 3) := by decide +kernel
theorem d_Ke_fits_22 : decode b_Ke_fits 22 = .ok (.iconst 1, 1) := by decide +kernel
theorem d_Ke_fits_23 : decode b_Ke_fits 23 = .ok (.goto 4, 3) := by decide +kernel
theorem d_Ke_fits_26 : decode b_Ke_fits 26 = .ok (.iconst 0, 1) := by decide +kernel
theorem d_Ke_fits_27 : decode b_Ke_fits 27 = .ok (.invokestatic 44, 3) := by decide +kernel
theorem d_Ke_fits_30 : decode b_Ke_fits 30 = .ok (.iload_n 3, 1) := by decide +kernel
theorem d_Ke_fits_31 : decode b_Ke_fits 31 = .ok (.ifCond .eq 15, 3) := by decide +kernel
theorem d_Ke_fits_34 : decode b_Ke_fits 34 = .ok (.aload_n 0, 1) := by decide +kernel
theorem d_Ke_fits_35 : decode b_Ke_fits 35 = .ok (.getfield 23, 3) := by decide +kernel
theorem d_Ke_fits_38 : decode b_Ke_fits 38 = .ok (.iload_n 1, 1) := by decide +kernel
theorem d_Ke_fits_39 : decode b_Ke_fits 39 = .ok (.iload_n 2, 1) := by decide +kernel
theorem d_Ke_fits_40 : decode b_Ke_fits 40 = .ok (.invokevirtual 70, 3) := by decide +kernel
theorem d_Ke_fits_43 : decode b_Ke_fits 43 = .ok (.goto 12, 3) := by decide +kernel
theorem d_Ke_fits_46 : decode b_Ke_fits 46 = .ok (.aload_n 0, 1) := by decide +kernel
theorem d_Ke_fits_47 : decode b_Ke_fits 47 = .ok (.getfield 23, 3) := by decide +kernel
theorem d_Ke_fits_50 : decode b_Ke_fits 50 = .ok (.iload_n 1, 1) := by decide +kernel
theorem d_Ke_fits_51 : decode b_Ke_fits 51 = .ok (.iload_n 2, 1) := by decide +kernel
theorem d_Ke_fits_52 : decode b_Ke_fits 52 = .ok (.invokevirtual 74, 3) := by decide +kernel
theorem d_Ke_fits_55 : decode b_Ke_fits 55 = .ok (.ireturn, 1) := by decide +kernel
theorem d_Ke_category_0 : decode b_Ke_category 0 = .ok (.aload_n 0, 1) := by decide +kernel
theorem d_Ke_category_1 : decode b_Ke_category 1 = .ok (.iload_n 1, 1) := by decide +kernel
theorem d_Ke_category_2 : decode b_Ke_category 2 = .ok (.invokevirtual 77, 3) := by decide +kernel
theorem d_Ke_category_5 : decode b_Ke_category 5 = .ok (.aload_n 0, 1) := by decide +kernel
theorem d_Ke_category_6 : decode b_Ke_category 6 = .ok (.getfield 10, 3) := by decide +kernel
theorem d_Ke_category_9 : decode b_Ke_category 9 = .ok (.getfield 81, 3) := by decide +kernel
theorem d_Ke_category_12 : decode b_Ke_category 12 = .ok (.bipush 8, 2) := by decide +kernel
theorem d_Ke_category_14 : decode b_Ke_category 14 = .ok (.if_icmp .ge 7, 3) := by decide +kernel
theorem d_Ke_category_17 : decode b_Ke_category 17 = .ok (.iconst 1, 1) := by decide +kernel
theorem d_Ke_category_18 : decode b_Ke_category 18 = .ok (.goto 4, 3) := by decide +kernel
theorem d_Ke_category_21 : decode b_Ke_category 21 = .ok (.iconst 0, 1) := by decide +kernel
theorem d_Ke_category_22 : decode b_Ke_category 22 = .ok (.invokestatic 60, 3) := by decide +kernel
theorem d_Ke_category_25 : decode b_Ke_category 25 = .ok (.aload_n 0, 1) := by decide +kernel
theorem d_Ke_category_26 : decode b_Ke_category 26 = .ok (.getfield 10, 3) := by decide +kernel
theorem d_Ke_category_29 : decode b_Ke_category 29 = .ok (.getfield 81, 3) := by decide +kernel
theorem d_Ke_category_32 : decode b_Ke_category 32 = .ok (.istore_n 2, 1) := by decide +kernel
theorem d_Ke_category_33 : decode b_Ke_category 33 = .ok (.aload_n 0, 1) := by decide +kernel
theorem d_Ke_category_34 : decode b_Ke_category 34 = .ok (.getfield 23, 3) := by decide +kernel
theorem d_Ke_category_37 : decode b_Ke_category 37 = .ok (.aload_n 0, 1) := by decide +kernel
theorem d_Ke_category_38 : decode b_Ke_category 38 = .ok (.getfield 28, 3) := by decide +kernel
theorem d_Ke_category_41 : decode b_Ke_category 41 = .ok (.iload_n 1, 1) := by decide +kernel
theorem d_Ke_category_42 : decode b_Ke_category 42 = .ok (.invokevirtual 85, 3) := by decide +kernel
theorem d_Ke_category_45 : decode b_Ke_category 45 = .ok (.iload_n 2, 1) := by decide +kernel
theorem d_Ke_category_46 : decode b_Ke_category 46 = .ok (.iconst 4, 1) := by decide +kernel
theorem d_Ke_category_47 : decode b_Ke_category 47 = .ok (.invokevirtual 48, 3) := by decide +kernel
theorem d_Ke_category_50 : decode b_Ke_category 50 = .ok (.istore_n 3, 1) := by decide +kernel
theorem d_Ke_category_51 : decode b_Ke_category 51 = .ok (.aload_n 0, 1) := by decide +kernel
theorem d_Ke_category_52 : decode b_Ke_category 52 = .ok (.getfield 23, 3) := by decide +kernel
theorem d_Ke_category_55 : decode b_Ke_category 55 = .ok (.aload_n 0, 1) := by decide +kernel
theorem d_Ke_category_56 : decode b_Ke_category 56 = .ok (.getfield 28, 3) := by decide +kernel
theorem d_Ke_category_59 : decode b_Ke_category 59 = .ok (.iload_n 1, 1) := by decide +kernel
theorem d_Ke_category_60 : decode b_Ke_category 60 = .ok (.invokevirtual 90, 3) := by decide +kernel
theorem d_Ke_category_63 : decode b_Ke_category 63 = .ok (.iload_n 2, 1) := by decide +kernel
theorem d_Ke_category_64 : decode b_Ke_category 64 = .ok (.iconst 3, 1) := by decide +kernel
theorem d_Ke_category_65 : decode b_Ke_category 65 = .ok (.invokevirtual 48, 3) := by decide +kernel
theorem d_Ke_category_68 : decode b_Ke_category 68 = .ok (.istore 4, 2) := by decide +kernel
theorem d_Ke_category_70 : decode b_Ke_category 70 = .ok (.aload_n 0, 1) := by decide +kernel
theorem d_Ke_category_71 : decode b_Ke_category 71 = .ok (.getfield 23, 3) := by decide +kernel
theorem d_Ke_category_74 : decode b_Ke_category 74 = .ok (.iload_n 3, 1) := by decide +kernel
theorem d_Ke_category_75 : decode b_Ke_category 75 = .ok (.invokevirtual 52, 3) := by decide +kernel
theorem d_Ke_category_78 : decode b_Ke_category 78 = .ok (.aload_n 0, 1) := by decide +kernel
theorem d_Ke_category_79 : decode b_Ke_category 79 = .ok (.getfield 23, 3) := by decide +kernel
theorem d_Ke_category_82 : decode b_Ke_category 82 = .ok (.iload 4, 2) := by decide +kernel
theorem d_Ke_category_84 : decode b_Ke_category 84 = .ok (.invokevirtual 52, 3) := by decide +kernel
theorem d_Ke_category_87 : decode b_Ke_category 87 = .ok (.iadd, 1) := by decide +kernel
theorem d_Ke_category_88 : decode b_Ke_category 88 = .ok (.aload_n 0, 1) := by decide +kernel
theorem d_Ke_category_89 : decode b_Ke_category 89 = .ok (.getfield 23, 3) := by decide +kernel
theorem d_Ke_category_92 : decode b_Ke_category 92 = .ok (.invokevirtual 56, 3) := by decide +kernel
theorem d_Ke_category_95 : decode b_Ke_category 95 = .ok (.if_icmp .gt 7, 3) := by decide +kernel
theorem d_Ke_category_98 : decode b_Ke_category 98 = .ok (.iconst 1, 1) := by decide +kernel
theorem d_Ke_category_99 : decode b_Ke_category 99 = .ok (.goto 4, 3) := by decide +kernel
theorem d_Ke_category_102 : decode b_Ke_category 102 = .ok (.iconst 0, 1) := by decide +kernel
theorem d_Ke_category_103 : decode b_Ke_category 103 = .ok (.invokestatic 60, 3) := by decide +kernel
theorem d_Ke_category_106 : decode b_Ke_category 106 = .ok (.aload_n 0, 1) := by decide +kernel
theorem d_Ke_category_107 : decode b_Ke_category 107 = .ok (.getfield 28, 3) := by decide +kernel
theorem d_Ke_category_110 : decode b_Ke_category 110 = .ok (.iload_n 1, 1) := by decide +kernel
theorem d_Ke_category_111 : decode b_Ke_category 111 = .ok (.aload_n 0, 1) := by decide +kernel
theorem d_Ke_category_112 : decode b_Ke_category 112 = .ok (.getfield 23, 3) := by decide +kernel
theorem d_Ke_category_115 : decode b_Ke_category 115 = .ok (.iload_n 3, 1) := by decide +kernel
theorem d_Ke_category_116 : decode b_Ke_category 116 = .ok (.invokevirtual 63, 3) := by decide +kernel
theorem d_Ke_category_119 : decode b_Ke_category 119 = .ok (.invokevirtual 93, 3) := by decide +kernel
theorem d_Ke_category_122 : decode b_Ke_category 122 = .ok (.aload_n 0, 1) := by decide +kernel
theorem d_Ke_category_123 : decode b_Ke_category 123 = .ok (.getfield 28, 3) := by decide +kernel
theorem d_Ke_category_126 : decode b_Ke_category 126 = .ok (.iload_n 1, 1) := by decide +kernel
theorem d_Ke_category_127 : decode b_Ke_category 127 = .ok (.aload_n 0, 1) := by decide +kernel
theorem d_Ke_category_128 : decode b_Ke_category 128 = .ok (.getfield 23, 3) := by decide +kernel
theorem d_Ke_category_131 : decode b_Ke_category 131 = .ok (.iload 4, 2) := by decide +kernel
theorem d_Ke_category_133 : decode b_Ke_category 133 = .ok (.invokevirtual 63, 3) := by decide +kernel
theorem d_Ke_category_136 : decode b_Ke_category 136 = .ok (.invokevirtual 97, 3) := by decide +kernel
theorem d_Ke_category_139 : decode b_Ke_category 139 = .ok (.aload_n 0, 1) := by decide +kernel
theorem d_Ke_category_140 : decode b_Ke_category 140 = .ok (.getfield 10, 3) := by decide +kernel
theorem d_Ke_category_143 : decode b_Ke_category 143 = .ok (.iload_n 2, 1) := by decide +kernel
theorem d_Ke_category_144 : decode b_Ke_category 144 = .ok (.iconst 1, 1) := by decide +kernel
theorem d_Ke_category_145 : decode b_Ke_category 145 = .ok (.iadd, 1) := by decide +kernel
theorem d_Ke_category_146 : decode b_Ke_category 146 = .ok (.putfield 81, 3) := by decide +kernel
theorem d_Ke_category_149 : decode b_Ke_category 149 = .ok (.iload_n 2, 1) := by decide +kernel
theorem d_Ke_category_150 : decode b_Ke_category 150 = .ok (.ireturn, 1) := by decide +kernel
theorem d_Ke_container_0 : decode b_Ke_container 0 = .ok (.aload_n 0, 1) := by decide +kernel
theorem d_Ke_container_1 : decode b_Ke_container 1 = .ok (.getfield 23, 3) := by decide +kernel
theorem d_Ke_container_4 : decode b_Ke_container 4 = .ok (.iload_n 3, 1) := by decide +kernel
theorem d_Ke_container_5 : decode b_Ke_container 5 = .ok (.invokevirtual 100, 3) := by decide +kernel
theorem d_Ke_container_8 : decode b_Ke_container 8 = .ok (.ifCond .eq 19, 3) := by decide +kernel
theorem d_Ke_container_11 : decode b_Ke_container 11 = .ok (.iload 4, 2) := by decide +kernel
theorem d_Ke_container_13 : decode b_Ke_container 13 = .ok (.iconst 1, 1) := by decide +kernel
theorem d_Ke_container_14 : decode b_Ke_container 14 = .ok (.sipush 200, 3) := by decide +kernel
theorem d_Ke_container_17 : decode b_Ke_container 17 = .ok (.invokestatic 40, 3) := by decide +kernel
theorem d_Ke_container_20 : decode b_Ke_container 20 = .ok (.ifCond .eq 7, 3) := by decide +kernel
theorem d_Ke_container_23 : decode b_Ke_container 23 = .ok (.iconst 1, 1) := by decide +kernel
theorem d_Ke_container_24 : decode b_Ke_container 24 = .ok (.goto 4, 3) := by decide +kernel
theorem d_Ke_container_27 : decode b_Ke_container 27 = .ok (.iconst 0, 1) := by decide +kernel
theorem d_Ke_container_28 : decode b_Ke_container 28 = .ok (.invokestatic 44, 3) := by decide +kernel
theorem d_Ke_container_31 : decode b_Ke_container 31 = .ok (.aload_n 0, 1) := by decide +kernel
theorem d_Ke_container_32 : decode b_Ke_container 32 = .ok (.iload_n 1, 1) := by decide +kernel
theorem d_Ke_container_33 : decode b_Ke_container 33 = .ok (.iload_n 2, 1) := by decide +kernel
theorem d_Ke_container_34 : decode b_Ke_container 34 = .ok (.invokevirtual 103, 3) := by decide +kernel
theorem d_Ke_container_37 : decode b_Ke_container 37 = .ok (.aload_n 0, 1) := by decide +kernel
theorem d_Ke_container_38 : decode b_Ke_container 38 = .ok (.iload_n 1, 1) := by decide +kernel
theorem d_Ke_container_39 : decode b_Ke_container 39 = .ok (.iload_n 2, 1) := by decide +kernel
theorem d_Ke_container_40 : decode b_Ke_container 40 = .ok (.iload_n 3, 1) := by decide +kernel
theorem d_Ke_container_41 : decode b_Ke_container 41 = .ok (.invokevirtual 106, 3) := by decide +kernel
theorem d_Ke_container_44 : decode b_Ke_container 44 = .ok (.aload_n 0, 1) := by decide +kernel
theorem d_Ke_container_45 : decode b_Ke_container 45 = .ok (.iload_n 2, 1) := by decide +kernel
theorem d_Ke_container_46 : decode b_Ke_container 46 = .ok (.iload 4, 2) := by decide +kernel
theorem d_Ke_container_48 : decode b_Ke_container 48 = .ok (.invokevirtual 110, 3) := by decide +kernel
theorem d_Ke_container_51 : decode b_Ke_container 51 = .ok (.aload_n 0, 1) := by decide +kernel
theorem d_Ke_container_52 : decode b_Ke_container 52 = .ok (.getfield 28, 3) := by decide +kernel
theorem d_Ke_container_55 : decode b_Ke_container 55 = .ok (.iconst 0, 1) := by decide +kernel
theorem d_Ke_container_56 : decode b_Ke_container 56 = .ok (.iload_n 2, 1) := by decide +kernel
theorem d_Ke_container_57 : decode b_Ke_container 57 = .ok (.iload_n 3, 1) := by decide +kernel
theorem d_Ke_container_58 : decode b_Ke_container 58 = .ok (.iload 4, 2) := by decide +kernel
theorem d_Ke_container_60 : decode b_Ke_container 60 = .ok (.invokevirtual 113, 3) := by decide +kernel
theorem d_Ke_container_63 : decode b_Ke_container 63 = .ok (.ireturn, 1) := by decide +kernel
theorem d_Ke_segment_0 : decode b_Ke_segment 0 = .ok (.aload_n 0, 1) := by decide +kernel
theorem d_Ke_segment_1 : decode b_Ke_segment 1 = .ok (.getfield 23, 3) := by decide +kernel
theorem d_Ke_segment_4 : decode b_Ke_segment 4 = .ok (.iload_n 3, 1) := by decide +kernel
theorem d_Ke_segment_5 : decode b_Ke_segment 5 = .ok (.invokevirtual 100, 3) := by decide +kernel
theorem d_Ke_segment_8 : decode b_Ke_segment 8 = .ok (.ifCond .eq 18, 3) := by decide +kernel
theorem d_Ke_segment_11 : decode b_Ke_segment 11 = .ok (.iload 4, 2) := by decide +kernel
theorem d_Ke_segment_13 : decode b_Ke_segment 13 = .ok (.iconst 1, 1) := by decide +kernel
theorem d_Ke_segment_14 : decode b_Ke_segment 14 = .ok (.bipush 8, 2) := by decide +kernel
theorem d_Ke_segment_16 : decode b_Ke_segment 16 = .ok (.invokestatic 40, 3) := by decide +kernel
theorem d_Ke_segment_19 : decode b_Ke_segment 19 = .ok (.ifCond .eq 7, 3) := by decide +kernel
theorem d_Ke_segment_22 : decode b_Ke_segment 22 = .ok (.iconst 1, 1) := by decide +kernel
theorem d_Ke_segment_23 : decode b_Ke_segment 23 = .ok (.goto 4, 3) := by decide +kernel
theorem d_Ke_segment_26 : decode b_Ke_segment 26 = .ok (.iconst 0, 1) := by decide +kernel
theorem d_Ke_segment_27 : decode b_Ke_segment 27 = .ok (.invokestatic 44, 3) := by decide +kernel
theorem d_Ke_segment_30 : decode b_Ke_segment 30 = .ok (.aload_n 0, 1) := by decide +kernel
theorem d_Ke_segment_31 : decode b_Ke_segment 31 = .ok (.iload_n 1, 1) := by decide +kernel
theorem d_Ke_segment_32 : decode b_Ke_segment 32 = .ok (.iload_n 2, 1) := by decide +kernel
theorem d_Ke_segment_33 : decode b_Ke_segment 33 = .ok (.invokevirtual 103, 3) := by decide +kernel
theorem d_Ke_segment_36 : decode b_Ke_segment 36 = .ok (.aload_n 0, 1) := by decide +kernel
theorem d_Ke_segment_37 : decode b_Ke_segment 37 = .ok (.iload_n 1, 1) := by decide +kernel
theorem d_Ke_segment_38 : decode b_Ke_segment 38 = .ok (.iload_n 2, 1) := by decide +kernel
theorem d_Ke_segment_39 : decode b_Ke_segment 39 = .ok (.iload_n 3, 1) := by decide +kernel
theorem d_Ke_segment_40 : decode b_Ke_segment 40 = .ok (.invokevirtual 106, 3) := by decide +kernel
theorem d_Ke_segment_43 : decode b_Ke_segment 43 = .ok (.aload_n 0, 1) := by decide +kernel
theorem d_Ke_segment_44 : decode b_Ke_segment 44 = .ok (.iload_n 2, 1) := by decide +kernel
theorem d_Ke_segment_45 : decode b_Ke_segment 45 = .ok (.iconst 1, 1) := by decide +kernel
theorem d_Ke_segment_46 : decode b_Ke_segment 46 = .ok (.iload 4, 2) := by decide +kernel
theorem d_Ke_segment_48 : decode b_Ke_segment 48 = .ok (.iadd, 1) := by decide +kernel
theorem d_Ke_segment_49 : decode b_Ke_segment 49 = .ok (.invokevirtual 110, 3) := by decide +kernel
theorem d_Ke_segment_52 : decode b_Ke_segment 52 = .ok (.aload_n 0, 1) := by decide +kernel
theorem d_Ke_segment_53 : decode b_Ke_segment 53 = .ok (.getfield 28, 3) := by decide +kernel
theorem d_Ke_segment_56 : decode b_Ke_segment 56 = .ok (.iconst 1, 1) := by decide +kernel
theorem d_Ke_segment_57 : decode b_Ke_segment 57 = .ok (.iload_n 2, 1) := by decide +kernel
theorem d_Ke_segment_58 : decode b_Ke_segment 58 = .ok (.iload_n 3, 1) := by decide +kernel
theorem d_Ke_segment_59 : decode b_Ke_segment 59 = .ok (.iconst 1, 1) := by decide +kernel
theorem d_Ke_segment_60 : decode b_Ke_segment 60 = .ok (.iload 4, 2) := by decide +kernel
theorem d_Ke_segment_62 : decode b_Ke_segment 62 = .ok (.iadd, 1) := by decide +kernel
theorem d_Ke_segment_63 : decode b_Ke_segment 63 = .ok (.invokevirtual 113, 3) := by decide +kernel
theorem d_Ke_segment_66 : decode b_Ke_segment 66 = .ok (.istore 5, 2) := by decide +kernel
theorem d_Ke_segment_68 : decode b_Ke_segment 68 = .ok (.aload_n 0, 1) := by decide +kernel
theorem d_Ke_segment_69 : decode b_Ke_segment 69 = .ok (.getfield 28, 3) := by decide +kernel
theorem d_Ke_segment_72 : decode b_Ke_segment 72 = .ok (.iload 5, 2) := by decide +kernel
theorem d_Ke_segment_74 : decode b_Ke_segment 74 = .ok (.iload 4, 2) := by decide +kernel
theorem d_Ke_segment_76 : decode b_Ke_segment 76 = .ok (.invokevirtual 117, 3) := by decide +kernel
theorem d_Ke_segment_79 : decode b_Ke_segment 79 = .ok (.iload 5, 2) := by decide +kernel
theorem d_Ke_segment_81 : decode b_Ke_segment 81 = .ok (.ireturn, 1) := by decide +kernel
theorem d_Ke_gate_0 : decode b_Ke_gate 0 = .ok (.aload_n 0, 1) := by decide +kernel
theorem d_Ke_gate_1 : decode b_Ke_gate 1 = .ok (.getfield 23, 3) := by decide +kernel
theorem d_Ke_gate_4 : decode b_Ke_gate 4 = .ok (.iload_n 3, 1) := by decide +kernel
theorem d_Ke_gate_5 : decode b_Ke_gate 5 = .ok (.invokevirtual 34, 3) := by decide +kernel
theorem d_Ke_gate_8 : decode b_Ke_gate 8 = .ok (.ifCond .eq 19, 3) := by decide +kernel
theorem d_Ke_gate_11 : decode b_Ke_gate 11 = .ok (.aload_n 0, 1) := by decide +kernel
theorem d_Ke_gate_12 : decode b_Ke_gate 12 = .ok (.getfield 23, 3) := by decide +kernel
theorem d_Ke_gate_15 : decode b_Ke_gate 15 = .ok (.iload 4, 2) := by decide +kernel
theorem d_Ke_gate_17 : decode b_Ke_gate 17 = .ok (.invokevirtual 100, 3) := by decide +kernel
theorem d_Ke_gate_20 : decode b_Ke_gate 20 = .ok (.ifCond .eq 7, 3) := by decide +kernel
theorem d_Ke_gate_23 : decode b_Ke_gate 23 = .ok (.iconst 1, 1) := by decide +kernel
theorem d_Ke_gate_24 : decode b_Ke_gate 24 = .ok (.goto 4, 3) := by decide +kernel
theorem d_Ke_gate_27 : decode b_Ke_gate 27 = .ok (.iconst 0, 1) := by decide +kernel
theorem d_Ke_gate_28 : decode b_Ke_gate 28 = .ok (.invokestatic 44, 3) := by decide +kernel
theorem d_Ke_gate_31 : decode b_Ke_gate 31 = .ok (.aload_n 0, 1) := by decide +kernel
theorem d_Ke_gate_32 : decode b_Ke_gate 32 = .ok (.iload_n 1, 1) := by decide +kernel
theorem d_Ke_gate_33 : decode b_Ke_gate 33 = .ok (.iload_n 2, 1) := by decide +kernel
theorem d_Ke_gate_34 : decode b_Ke_gate 34 = .ok (.invokevirtual 103, 3) := by decide +kernel
theorem d_Ke_gate_37 : decode b_Ke_gate 37 = .ok (.aload_n 0, 1) := by decide +kernel
theorem d_Ke_gate_38 : decode b_Ke_gate 38 = .ok (.iload_n 1, 1) := by decide +kernel
theorem d_Ke_gate_39 : decode b_Ke_gate 39 = .ok (.iload_n 2, 1) := by decide +kernel
theorem d_Ke_gate_40 : decode b_Ke_gate 40 = .ok (.iload_n 3, 1) := by decide +kernel
theorem d_Ke_gate_41 : decode b_Ke_gate 41 = .ok (.invokevirtual 106, 3) := by decide +kernel
theorem d_Ke_gate_44 : decode b_Ke_gate 44 = .ok (.aload_n 0, 1) := by decide +kernel
theorem d_Ke_gate_45 : decode b_Ke_gate 45 = .ok (.iload_n 2, 1) := by decide +kernel
theorem d_Ke_gate_46 : decode b_Ke_gate 46 = .ok (.iconst 2, 1) := by decide +kernel
theorem d_Ke_gate_47 : decode b_Ke_gate 47 = .ok (.invokevirtual 110, 3) := by decide +kernel
theorem d_Ke_gate_50 : decode b_Ke_gate 50 = .ok (.aload_n 0, 1) := by decide +kernel
theorem d_Ke_gate_51 : decode b_Ke_gate 51 = .ok (.getfield 28, 3) := by decide +kernel
theorem d_Ke_gate_54 : decode b_Ke_gate 54 = .ok (.iconst 2, 1) := by decide +kernel
theorem d_Ke_gate_55 : decode b_Ke_gate 55 = .ok (.iload_n 2, 1) := by decide +kernel
theorem d_Ke_gate_56 : decode b_Ke_gate 56 = .ok (.iload_n 3, 1) := by decide +kernel
theorem d_Ke_gate_57 : decode b_Ke_gate 57 = .ok (.iconst 2, 1) := by decide +kernel
theorem d_Ke_gate_58 : decode b_Ke_gate 58 = .ok (.invokevirtual 113, 3) := by decide +kernel
theorem d_Ke_gate_61 : decode b_Ke_gate 61 = .ok (.istore 6, 2) := by decide +kernel
theorem d_Ke_gate_63 : decode b_Ke_gate 63 = .ok (.aload_n 0, 1) := by decide +kernel
theorem d_Ke_gate_64 : decode b_Ke_gate 64 = .ok (.getfield 28, 3) := by decide +kernel
theorem d_Ke_gate_67 : decode b_Ke_gate 67 = .ok (.iload 6, 2) := by decide +kernel
theorem d_Ke_gate_69 : decode b_Ke_gate 69 = .ok (.aload_n 0, 1) := by decide +kernel
theorem d_Ke_gate_70 : decode b_Ke_gate 70 = .ok (.getfield 28, 3) := by decide +kernel
theorem d_Ke_gate_73 : decode b_Ke_gate 73 = .ok (.iload_n 1, 1) := by decide +kernel
theorem d_Ke_gate_74 : decode b_Ke_gate 74 = .ok (.invokevirtual 90, 3) := by decide +kernel
theorem d_Ke_gate_77 : decode b_Ke_gate 77 = .ok (.invokevirtual 97, 3) := by decide +kernel
theorem d_Ke_gate_80 : decode b_Ke_gate 80 = .ok (.aload_n 0, 1) := by decide +kernel
theorem d_Ke_gate_81 : decode b_Ke_gate 81 = .ok (.getfield 28, 3) := by decide +kernel
theorem d_Ke_gate_84 : decode b_Ke_gate 84 = .ok (.iload 6, 2) := by decide +kernel
theorem d_Ke_gate_86 : decode b_Ke_gate 86 = .ok (.iload 4, 2) := by decide +kernel
theorem d_Ke_gate_88 : decode b_Ke_gate 88 = .ok (.iload 5, 2) := by decide +kernel
theorem d_Ke_gate_90 : decode b_Ke_gate 90 = .ok (.invokevirtual 120, 3) := by decide +kernel
theorem d_Ke_gate_93 : decode b_Ke_gate 93 = .ok (.iload 6, 2) := by decide +kernel
theorem d_Ke_gate_95 : decode b_Ke_gate 95 = .ok (.ireturn, 1) := by decide +kernel
theorem d_Ke_thread_0 : decode b_Ke_thread 0 = .ok (.aload_n 0, 1) := by decide +kernel
theorem d_Ke_thread_1 : decode b_Ke_thread 1 = .ok (.getfield 23, 3) := by decide +kernel
theorem d_Ke_thread_4 : decode b_Ke_thread 4 = .ok (.iload_n 3, 1) := by decide +kernel
theorem d_Ke_thread_5 : decode b_Ke_thread 5 = .ok (.invokevirtual 34, 3) := by decide +kernel
theorem d_Ke_thread_8 : decode b_Ke_thread 8 = .ok (.ifCond .eq 19, 3) := by decide +kernel
theorem d_Ke_thread_11 : decode b_Ke_thread 11 = .ok (.aload_n 0, 1) := by decide +kernel
theorem d_Ke_thread_12 : decode b_Ke_thread 12 = .ok (.getfield 23, 3) := by decide +kernel
theorem d_Ke_thread_15 : decode b_Ke_thread 15 = .ok (.iload 4, 2) := by decide +kernel
theorem d_Ke_thread_17 : decode b_Ke_thread 17 = .ok (.invokevirtual 100, 3) := by decide +kernel
theorem d_Ke_thread_20 : decode b_Ke_thread 20 = .ok (.ifCond .eq 7, 3) := by decide +kernel
theorem d_Ke_thread_23 : decode b_Ke_thread 23 = .ok (.iconst 1, 1) := by decide +kernel
theorem d_Ke_thread_24 : decode b_Ke_thread 24 = .ok (.goto 4, 3) := by decide +kernel
theorem d_Ke_thread_27 : decode b_Ke_thread 27 = .ok (.iconst 0, 1) := by decide +kernel
theorem d_Ke_thread_28 : decode b_Ke_thread 28 = .ok (.invokestatic 44, 3) := by decide +kernel
theorem d_Ke_thread_31 : decode b_Ke_thread 31 = .ok (.aload_n 0, 1) := by decide +kernel
theorem d_Ke_thread_32 : decode b_Ke_thread 32 = .ok (.iload_n 1, 1) := by decide +kernel
theorem d_Ke_thread_33 : decode b_Ke_thread 33 = .ok (.iload_n 2, 1) := by decide +kernel
theorem d_Ke_thread_34 : decode b_Ke_thread 34 = .ok (.invokevirtual 103, 3) := by decide +kernel
theorem d_Ke_thread_37 : decode b_Ke_thread 37 = .ok (.aload_n 0, 1) := by decide +kernel
theorem d_Ke_thread_38 : decode b_Ke_thread 38 = .ok (.iload_n 1, 1) := by decide +kernel
theorem d_Ke_thread_39 : decode b_Ke_thread 39 = .ok (.iload_n 2, 1) := by decide +kernel
theorem d_Ke_thread_40 : decode b_Ke_thread 40 = .ok (.iload_n 3, 1) := by decide +kernel
theorem d_Ke_thread_41 : decode b_Ke_thread 41 = .ok (.invokevirtual 106, 3) := by decide +kernel
theorem d_Ke_thread_44 : decode b_Ke_thread 44 = .ok (.aload_n 0, 1) := by decide +kernel
theorem d_Ke_thread_45 : decode b_Ke_thread 45 = .ok (.getfield 23, 3) := by decide +kernel
theorem d_Ke_thread_48 : decode b_Ke_thread 48 = .ok (.iload 4, 2) := by decide +kernel
theorem d_Ke_thread_50 : decode b_Ke_thread 50 = .ok (.aload_n 0, 1) := by decide +kernel
theorem d_Ke_thread_51 : decode b_Ke_thread 51 = .ok (.getfield 28, 3) := by decide +kernel
theorem d_Ke_thread_54 : decode b_Ke_thread 54 = .ok (.iload_n 1, 1) := by decide +kernel
theorem d_Ke_thread_55 : decode b_Ke_thread 55 = .ok (.invokevirtual 90, 3) := by decide +kernel
theorem d_Ke_thread_58 : decode b_Ke_thread 58 = .ok (.invokevirtual 74, 3) := by decide +kernel
theorem d_Ke_thread_61 : decode b_Ke_thread 61 = .ok (.invokestatic 123, 3) := by decide +kernel
theorem d_Ke_thread_64 : decode b_Ke_thread 64 = .ok (.aload_n 0, 1) := by decide +kernel
theorem d_Ke_thread_65 : decode b_Ke_thread 65 = .ok (.getfield 23, 3) := by decide +kernel
theorem d_Ke_thread_68 : decode b_Ke_thread 68 = .ok (.iload_n 3, 1) := by decide +kernel
theorem d_Ke_thread_69 : decode b_Ke_thread 69 = .ok (.iload 4, 2) := by decide +kernel
theorem d_Ke_thread_71 : decode b_Ke_thread 71 = .ok (.invokevirtual 74, 3) := by decide +kernel
theorem d_Ke_thread_74 : decode b_Ke_thread 74 = .ok (.invokestatic 123, 3) := by decide +kernel
theorem d_Ke_thread_77 : decode b_Ke_thread 77 = .ok (.aload_n 0, 1) := by decide +kernel
theorem d_Ke_thread_78 : decode b_Ke_thread 78 = .ok (.iload_n 2, 1) := by decide +kernel
theorem d_Ke_thread_79 : decode b_Ke_thread 79 = .ok (.iconst 2, 1) := by decide +kernel
theorem d_Ke_thread_80 : decode b_Ke_thread 80 = .ok (.invokevirtual 110, 3) := by decide +kernel
theorem d_Ke_thread_83 : decode b_Ke_thread 83 = .ok (.aload_n 0, 1) := by decide +kernel
theorem d_Ke_thread_84 : decode b_Ke_thread 84 = .ok (.getfield 28, 3) := by decide +kernel
theorem d_Ke_thread_87 : decode b_Ke_thread 87 = .ok (.iconst 3, 1) := by decide +kernel
theorem d_Ke_thread_88 : decode b_Ke_thread 88 = .ok (.iload_n 2, 1) := by decide +kernel
theorem d_Ke_thread_89 : decode b_Ke_thread 89 = .ok (.iload_n 3, 1) := by decide +kernel
theorem d_Ke_thread_90 : decode b_Ke_thread 90 = .ok (.iconst 2, 1) := by decide +kernel
theorem d_Ke_thread_91 : decode b_Ke_thread 91 = .ok (.invokevirtual 113, 3) := by decide +kernel
theorem d_Ke_thread_94 : decode b_Ke_thread 94 = .ok (.istore 5, 2) := by decide +kernel
theorem d_Ke_thread_96 : decode b_Ke_thread 96 = .ok (.aload_n 0, 1) := by decide +kernel
theorem d_Ke_thread_97 : decode b_Ke_thread 97 = .ok (.getfield 28, 3) := by decide +kernel
theorem d_Ke_thread_100 : decode b_Ke_thread 100 = .ok (.iload 5, 2) := by decide +kernel
theorem d_Ke_thread_102 : decode b_Ke_thread 102 = .ok (.iload 4, 2) := by decide +kernel
theorem d_Ke_thread_104 : decode b_Ke_thread 104 = .ok (.invokevirtual 97, 3) := by decide +kernel
theorem d_Ke_thread_107 : decode b_Ke_thread 107 = .ok (.iload 5, 2) := by decide +kernel
theorem d_Ke_thread_109 : decode b_Ke_thread 109 = .ok (.ireturn, 1) := by decide +kernel
theorem d_Ke_read_0 : decode b_Ke_read 0 = .ok (.aload_n 0, 1) := by decide +kernel
theorem d_Ke_read_1 : decode b_Ke_read 1 = .ok (.iload_n 1, 1) := by decide +kernel
theorem d_Ke_read_2 : decode b_Ke_read 2 = .ok (.iload_n 2, 1) := by decide +kernel
theorem d_Ke_read_3 : decode b_Ke_read 3 = .ok (.iload_n 3, 1) := by decide +kernel
theorem d_Ke_read_4 : decode b_Ke_read 4 = .ok (.iload 4, 2) := by decide +kernel
theorem d_Ke_read_6 : decode b_Ke_read 6 = .ok (.invokevirtual 126, 3) := by decide +kernel
theorem d_Ke_read_9 : decode b_Ke_read 9 = .ok (.aload_n 0, 1) := by decide +kernel
theorem d_Ke_read_10 : decode b_Ke_read 10 = .ok (.iload_n 1, 1) := by decide +kernel
theorem d_Ke_read_11 : decode b_Ke_read 11 = .ok (.iload_n 2, 1) := by decide +kernel
theorem d_Ke_read_12 : decode b_Ke_read 12 = .ok (.invokevirtual 130, 3) := by decide +kernel
theorem d_Ke_read_15 : decode b_Ke_read 15 = .ok (.ifCond .eq 16, 3) := by decide +kernel
theorem d_Ke_read_18 : decode b_Ke_read 18 = .ok (.aload_n 0, 1) := by decide +kernel
theorem d_Ke_read_19 : decode b_Ke_read 19 = .ok (.iload_n 1, 1) := by decide +kernel
theorem d_Ke_read_20 : decode b_Ke_read 20 = .ok (.iload_n 3, 1) := by decide +kernel
theorem d_Ke_read_21 : decode b_Ke_read 21 = .ok (.invokevirtual 130, 3) := by decide +kernel
theorem d_Ke_read_24 : decode b_Ke_read 24 = .ok (.ifCond .eq 7, 3) := by decide +kernel
theorem d_Ke_read_27 : decode b_Ke_read 27 = .ok (.iconst 1, 1) := by decide +kernel
theorem d_Ke_read_28 : decode b_Ke_read 28 = .ok (.goto 4, 3) := by decide +kernel
theorem d_Ke_read_31 : decode b_Ke_read 31 = .ok (.iconst 0, 1) := by decide +kernel
theorem d_Ke_read_32 : decode b_Ke_read 32 = .ok (.invokestatic 123, 3) := by decide +kernel
theorem d_Ke_read_35 : decode b_Ke_read 35 = .ok (.aload_n 0, 1) := by decide +kernel
theorem d_Ke_read_36 : decode b_Ke_read 36 = .ok (.getfield 28, 3) := by decide +kernel
theorem d_Ke_read_39 : decode b_Ke_read 39 = .ok (.iload_n 3, 1) := by decide +kernel
theorem d_Ke_read_40 : decode b_Ke_read 40 = .ok (.iload 4, 2) := by decide +kernel
theorem d_Ke_read_42 : decode b_Ke_read 42 = .ok (.invokevirtual 133, 3) := by decide +kernel
theorem d_Ke_read_45 : decode b_Ke_read 45 = .ok (.ireturn, 1) := by decide +kernel
theorem d_Ke_write_0 : decode b_Ke_write 0 = .ok (.aload_n 0, 1) := by decide +kernel
theorem d_Ke_write_1 : decode b_Ke_write 1 = .ok (.iload_n 1, 1) := by decide +kernel
theorem d_Ke_write_2 : decode b_Ke_write 2 = .ok (.iload_n 2, 1) := by decide +kernel
theorem d_Ke_write_3 : decode b_Ke_write 3 = .ok (.iload_n 3, 1) := by decide +kernel
theorem d_Ke_write_4 : decode b_Ke_write 4 = .ok (.iload 4, 2) := by decide +kernel
theorem d_Ke_write_6 : decode b_Ke_write 6 = .ok (.invokevirtual 126, 3) := by decide +kernel
theorem d_Ke_write_9 : decode b_Ke_write 9 = .ok (.aload_n 0, 1) := by decide +kernel
theorem d_Ke_write_10 : decode b_Ke_write 10 = .ok (.iload_n 1, 1) := by decide +kernel
theorem d_Ke_write_11 : decode b_Ke_write 11 = .ok (.iload_n 2, 1) := by decide +kernel
theorem d_Ke_write_12 : decode b_Ke_write 12 = .ok (.invokevirtual 130, 3) := by decide +kernel
theorem d_Ke_write_15 : decode b_Ke_write 15 = .ok (.ifCond .eq 16, 3) := by decide +kernel
theorem d_Ke_write_18 : decode b_Ke_write 18 = .ok (.aload_n 0, 1) := by decide +kernel
theorem d_Ke_write_19 : decode b_Ke_write 19 = .ok (.iload_n 1, 1) := by decide +kernel
theorem d_Ke_write_20 : decode b_Ke_write 20 = .ok (.iload_n 3, 1) := by decide +kernel
theorem d_Ke_write_21 : decode b_Ke_write 21 = .ok (.invokevirtual 136, 3) := by decide +kernel
theorem d_Ke_write_24 : decode b_Ke_write 24 = .ok (.ifCond .eq 7, 3) := by decide +kernel
theorem d_Ke_write_27 : decode b_Ke_write 27 = .ok (.iconst 1, 1) := by decide +kernel
theorem d_Ke_write_28 : decode b_Ke_write 28 = .ok (.goto 4, 3) := by decide +kernel
theorem d_Ke_write_31 : decode b_Ke_write 31 = .ok (.iconst 0, 1) := by decide +kernel
theorem d_Ke_write_32 : decode b_Ke_write 32 = .ok (.invokestatic 123, 3) := by decide +kernel
theorem d_Ke_write_35 : decode b_Ke_write 35 = .ok (.aload_n 0, 1) := by decide +kernel
theorem d_Ke_write_36 : decode b_Ke_write 36 = .ok (.getfield 28, 3) := by decide +kernel
theorem d_Ke_write_39 : decode b_Ke_write 39 = .ok (.iload_n 3, 1) := by decide +kernel
theorem d_Ke_write_40 : decode b_Ke_write 40 = .ok (.iload 4, 2) := by decide +kernel
theorem d_Ke_write_42 : decode b_Ke_write 42 = .ok (.invokevirtual 133, 3) := by decide +kernel
theorem d_Ke_write_45 : decode b_Ke_write 45 = .ok (.istore 6, 2) := by decide +kernel
theorem d_Ke_write_47 : decode b_Ke_write 47 = .ok (.aload_n 0, 1) := by decide +kernel
theorem d_Ke_write_48 : decode b_Ke_write 48 = .ok (.getfield 28, 3) := by decide +kernel
theorem d_Ke_write_51 : decode b_Ke_write 51 = .ok (.iload_n 3, 1) := by decide +kernel
theorem d_Ke_write_52 : decode b_Ke_write 52 = .ok (.iload 4, 2) := by decide +kernel
theorem d_Ke_write_54 : decode b_Ke_write 54 = .ok (.iload 5, 2) := by decide +kernel
theorem d_Ke_write_56 : decode b_Ke_write 56 = .ok (.invokevirtual 139, 3) := by decide +kernel
theorem d_Ke_write_59 : decode b_Ke_write 59 = .ok (.iload 6, 2) := by decide +kernel
theorem d_Ke_write_61 : decode b_Ke_write 61 = .ok (.ireturn, 1) := by decide +kernel
theorem d_Ke_move_0 : decode b_Ke_move 0 = .ok (.iload 4, 2) := by decide +kernel
theorem d_Ke_move_2 : decode b_Ke_move 2 = .ok (.sipush (-200), 3) := by decide +kernel
theorem d_Ke_move_5 : decode b_Ke_move 5 = .ok (.sipush 200, 3) := by decide +kernel
theorem d_Ke_move_8 : decode b_Ke_move 8 = .ok (.invokestatic 40, 3) := by decide +kernel
theorem d_Ke_move_11 : decode b_Ke_move 11 = .ok (.invokestatic 44, 3) := by decide +kernel
theorem d_Ke_move_14 : decode b_Ke_move 14 = .ok (.aload_n 0, 1) := by decide +kernel
theorem d_Ke_move_15 : decode b_Ke_move 15 = .ok (.iload_n 1, 1) := by decide +kernel
theorem d_Ke_move_16 : decode b_Ke_move 16 = .ok (.iload_n 2, 1) := by decide +kernel
theorem d_Ke_move_17 : decode b_Ke_move 17 = .ok (.iload_n 3, 1) := by decide +kernel
theorem d_Ke_move_18 : decode b_Ke_move 18 = .ok (.invokevirtual 142, 3) := by decide +kernel
theorem d_Ke_move_21 : decode b_Ke_move 21 = .ok (.aload_n 0, 1) := by decide +kernel
theorem d_Ke_move_22 : decode b_Ke_move 22 = .ok (.iload_n 1, 1) := by decide +kernel
theorem d_Ke_move_23 : decode b_Ke_move 23 = .ok (.iload_n 2, 1) := by decide +kernel
theorem d_Ke_move_24 : decode b_Ke_move 24 = .ok (.invokevirtual 136, 3) := by decide +kernel
theorem d_Ke_move_27 : decode b_Ke_move 27 = .ok (.ifCond .eq 16, 3) := by decide +kernel
theorem d_Ke_move_30 : decode b_Ke_move 30 = .ok (.aload_n 0, 1) := by decide +kernel
theorem d_Ke_move_31 : decode b_Ke_move 31 = .ok (.iload_n 1, 1) := by decide +kernel
theorem d_Ke_move_32 : decode b_Ke_move 32 = .ok (.iload_n 3, 1) := by decide +kernel
theorem d_Ke_move_33 : decode b_Ke_move 33 = .ok (.invokevirtual 136, 3) := by decide +kernel
theorem d_Ke_move_36 : decode b_Ke_move 36 = .ok (.ifCond .eq 7, 3) := by decide +kernel
theorem d_Ke_move_39 : decode b_Ke_move 39 = .ok (.iconst 1, 1) := by decide +kernel
theorem d_Ke_move_40 : decode b_Ke_move 40 = .ok (.goto 4, 3) := by decide +kernel
theorem d_Ke_move_43 : decode b_Ke_move 43 = .ok (.iconst 0, 1) := by decide +kernel
theorem d_Ke_move_44 : decode b_Ke_move 44 = .ok (.invokestatic 123, 3) := by decide +kernel
theorem d_Ke_move_47 : decode b_Ke_move 47 = .ok (.aload_n 0, 1) := by decide +kernel
theorem d_Ke_move_48 : decode b_Ke_move 48 = .ok (.getfield 28, 3) := by decide +kernel
theorem d_Ke_move_51 : decode b_Ke_move 51 = .ok (.iload_n 3, 1) := by decide +kernel
theorem d_Ke_move_52 : decode b_Ke_move 52 = .ok (.invokevirtual 145, 3) := by decide +kernel
theorem d_Ke_move_55 : decode b_Ke_move 55 = .ok (.iload 4, 2) := by decide +kernel
theorem d_Ke_move_57 : decode b_Ke_move 57 = .ok (.iadd, 1) := by decide +kernel
theorem d_Ke_move_58 : decode b_Ke_move 58 = .ok (.istore 5, 2) := by decide +kernel
theorem d_Ke_move_60 : decode b_Ke_move 60 = .ok (.iload 5, 2) := by decide +kernel
theorem d_Ke_move_62 : decode b_Ke_move 62 = .ok (.aload_n 0, 1) := by decide +kernel
theorem d_Ke_move_63 : decode b_Ke_move 63 = .ok (.getfield 28, 3) := by decide +kernel
theorem d_Ke_move_66 : decode b_Ke_move 66 = .ok (.iload_n 3, 1) := by decide +kernel
theorem d_Ke_move_67 : decode b_Ke_move 67 = .ok (.invokevirtual 148, 3) := by decide +kernel
theorem d_Ke_move_70 : decode b_Ke_move 70 = .ok (.if_icmp .lt 29, 3) := by decide +kernel
theorem d_Ke_move_73 : decode b_Ke_move 73 = .ok (.aload_n 0, 1) := by decide +kernel
theorem d_Ke_move_74 : decode b_Ke_move 74 = .ok (.getfield 28, 3) := by decide +kernel
theorem d_Ke_move_77 : decode b_Ke_move 77 = .ok (.iload_n 2, 1) := by decide +kernel
theorem d_Ke_move_78 : decode b_Ke_move 78 = .ok (.invokevirtual 145, 3) := by decide +kernel
theorem d_Ke_move_81 : decode b_Ke_move 81 = .ok (.aload_n 0, 1) := by decide +kernel
theorem d_Ke_move_82 : decode b_Ke_move 82 = .ok (.getfield 28, 3) := by decide +kernel
theorem d_Ke_move_85 : decode b_Ke_move 85 = .ok (.iload_n 2, 1) := by decide +kernel
theorem d_Ke_move_86 : decode b_Ke_move 86 = .ok (.invokevirtual 148, 3) := by decide +kernel
theorem d_Ke_move_89 : decode b_Ke_move 89 = .ok (.iload 4, 2) := by decide +kernel
theorem d_Ke_move_91 : decode b_Ke_move 91 = .ok (.iadd, 1) := by decide +kernel
theorem d_Ke_move_92 : decode b_Ke_move 92 = .ok (.if_icmp .lt 7, 3) := by decide +kernel
theorem d_Ke_move_95 : decode b_Ke_move 95 = .ok (.iconst 1, 1) := by decide +kernel
theorem d_Ke_move_96 : decode b_Ke_move 96 = .ok (.goto 4, 3) := by decide +kernel
theorem d_Ke_move_99 : decode b_Ke_move 99 = .ok (.iconst 0, 1) := by decide +kernel
theorem d_Ke_move_100 : decode b_Ke_move 100 = .ok (.invokestatic 60, 3) := by decide +kernel
theorem d_Ke_move_103 : decode b_Ke_move 103 = .ok (.aload_n 0, 1) := by decide +kernel
theorem d_Ke_move_104 : decode b_Ke_move 104 = .ok (.getfield 28, 3) := by decide +kernel
theorem d_Ke_move_107 : decode b_Ke_move 107 = .ok (.iload_n 3, 1) := by decide +kernel
theorem d_Ke_move_108 : decode b_Ke_move 108 = .ok (.iload 5, 2) := by decide +kernel
theorem d_Ke_move_110 : decode b_Ke_move 110 = .ok (.invokevirtual 151, 3) := by decide +kernel
theorem d_Ke_move_113 : decode b_Ke_move 113 = .ok (.iload 5, 2) := by decide +kernel
theorem d_Ke_move_115 : decode b_Ke_move 115 = .ok (.ireturn, 1) := by decide +kernel
theorem d_Ke_drop_0 : decode b_Ke_drop 0 = .ok (.aload_n 0, 1) := by decide +kernel
theorem d_Ke_drop_1 : decode b_Ke_drop 1 = .ok (.iload_n 1, 1) := by decide +kernel
theorem d_Ke_drop_2 : decode b_Ke_drop 2 = .ok (.iload_n 2, 1) := by decide +kernel
theorem d_Ke_drop_3 : decode b_Ke_drop 3 = .ok (.iload_n 3, 1) := by decide +kernel
theorem d_Ke_drop_4 : decode b_Ke_drop 4 = .ok (.invokevirtual 142, 3) := by decide +kernel
theorem d_Ke_drop_7 : decode b_Ke_drop 7 = .ok (.aload_n 0, 1) := by decide +kernel
theorem d_Ke_drop_8 : decode b_Ke_drop 8 = .ok (.iload_n 1, 1) := by decide +kernel
theorem d_Ke_drop_9 : decode b_Ke_drop 9 = .ok (.iload_n 2, 1) := by decide +kernel
theorem d_Ke_drop_10 : decode b_Ke_drop 10 = .ok (.invokevirtual 136, 3) := by decide +kernel
theorem d_Ke_drop_13 : decode b_Ke_drop 13 = .ok (.invokestatic 123, 3) := by decide +kernel
theorem d_Ke_drop_16 : decode b_Ke_drop 16 = .ok (.aload_n 0, 1) := by decide +kernel
theorem d_Ke_drop_17 : decode b_Ke_drop 17 = .ok (.getfield 28, 3) := by decide +kernel
theorem d_Ke_drop_20 : decode b_Ke_drop 20 = .ok (.iload_n 3, 1) := by decide +kernel
theorem d_Ke_drop_21 : decode b_Ke_drop 21 = .ok (.invokevirtual 154, 3) := by decide +kernel
theorem d_Ke_drop_24 : decode b_Ke_drop 24 = .ok (.ireturn, 1) := by decide +kernel
theorem d_Ke_become_0 : decode b_Ke_become 0 = .ok (.aload_n 0, 1) := by decide +kernel
theorem d_Ke_become_1 : decode b_Ke_become 1 = .ok (.getfield 23, 3) := by decide +kernel
theorem d_Ke_become_4 : decode b_Ke_become 4 = .ok (.iload_n 2, 1) := by decide +kernel
theorem d_Ke_become_5 : decode b_Ke_become 5 = .ok (.invokevirtual 34, 3) := by decide +kernel
theorem d_Ke_become_8 : decode b_Ke_become 8 = .ok (.invokestatic 44, 3) := by decide +kernel
theorem d_Ke_become_11 : decode b_Ke_become 11 = .ok (.aload_n 0, 1) := by decide +kernel
theorem d_Ke_become_12 : decode b_Ke_become 12 = .ok (.iload_n 1, 1) := by decide +kernel
theorem d_Ke_become_13 : decode b_Ke_become 13 = .ok (.invokevirtual 77, 3) := by decide +kernel
theorem d_Ke_become_16 : decode b_Ke_become 16 = .ok (.aload_n 0, 1) := by decide +kernel
theorem d_Ke_become_17 : decode b_Ke_become 17 = .ok (.iload_n 1, 1) := by decide +kernel
theorem d_Ke_become_18 : decode b_Ke_become 18 = .ok (.iload_n 2, 1) := by decide +kernel
theorem d_Ke_become_19 : decode b_Ke_become 19 = .ok (.invokevirtual 157, 3) := by decide +kernel
theorem d_Ke_become_22 : decode b_Ke_become 22 = .ok (.invokestatic 123, 3) := by decide +kernel
theorem d_Ke_become_25 : decode b_Ke_become 25 = .ok (.aload_n 0, 1) := by decide +kernel
theorem d_Ke_become_26 : decode b_Ke_become 26 = .ok (.getfield 28, 3) := by decide +kernel
theorem d_Ke_become_29 : decode b_Ke_become 29 = .ok (.iload_n 1, 1) := by decide +kernel
theorem d_Ke_become_30 : decode b_Ke_become 30 = .ok (.iload_n 2, 1) := by decide +kernel
theorem d_Ke_become_31 : decode b_Ke_become 31 = .ok (.invokevirtual 93, 3) := by decide +kernel
theorem d_Ke_become_34 : decode b_Ke_become 34 = .ok (.iconst 0, 1) := by decide +kernel
theorem d_Ke_become_35 : decode b_Ke_become 35 = .ok (.ireturn, 1) := by decide +kernel
theorem d_Ke_lower_0 : decode b_Ke_lower 0 = .ok (.aload_n 0, 1) := by decide +kernel
theorem d_Ke_lower_1 : decode b_Ke_lower 1 = .ok (.getfield 23, 3) := by decide +kernel
theorem d_Ke_lower_4 : decode b_Ke_lower 4 = .ok (.iload_n 2, 1) := by decide +kernel
theorem d_Ke_lower_5 : decode b_Ke_lower 5 = .ok (.invokevirtual 100, 3) := by decide +kernel
theorem d_Ke_lower_8 : decode b_Ke_lower 8 = .ok (.invokestatic 44, 3) := by decide +kernel
theorem d_Ke_lower_11 : decode b_Ke_lower 11 = .ok (.aload_n 0, 1) := by decide +kernel
theorem d_Ke_lower_12 : decode b_Ke_lower 12 = .ok (.iload_n 1, 1) := by decide +kernel
theorem d_Ke_lower_13 : decode b_Ke_lower 13 = .ok (.invokevirtual 77, 3) := by decide +kernel
theorem d_Ke_lower_16 : decode b_Ke_lower 16 = .ok (.aload_n 0, 1) := by decide +kernel
theorem d_Ke_lower_17 : decode b_Ke_lower 17 = .ok (.getfield 23, 3) := by decide +kernel
theorem d_Ke_lower_20 : decode b_Ke_lower 20 = .ok (.iload_n 2, 1) := by decide +kernel
theorem d_Ke_lower_21 : decode b_Ke_lower 21 = .ok (.aload_n 0, 1) := by decide +kernel
theorem d_Ke_lower_22 : decode b_Ke_lower 22 = .ok (.getfield 28, 3) := by decide +kernel
theorem d_Ke_lower_25 : decode b_Ke_lower 25 = .ok (.iload_n 1, 1) := by decide +kernel
theorem d_Ke_lower_26 : decode b_Ke_lower 26 = .ok (.invokevirtual 90, 3) := by decide +kernel
theorem d_Ke_lower_29 : decode b_Ke_lower 29 = .ok (.invokevirtual 74, 3) := by decide +kernel
theorem d_Ke_lower_32 : decode b_Ke_lower 32 = .ok (.invokestatic 123, 3) := by decide +kernel
theorem d_Ke_lower_35 : decode b_Ke_lower 35 = .ok (.aload_n 0, 1) := by decide +kernel
theorem d_Ke_lower_36 : decode b_Ke_lower 36 = .ok (.getfield 23, 3) := by decide +kernel
theorem d_Ke_lower_39 : decode b_Ke_lower 39 = .ok (.aload_n 0, 1) := by decide +kernel
theorem d_Ke_lower_40 : decode b_Ke_lower 40 = .ok (.getfield 28, 3) := by decide +kernel
theorem d_Ke_lower_43 : decode b_Ke_lower 43 = .ok (.iload_n 1, 1) := by decide +kernel
theorem d_Ke_lower_44 : decode b_Ke_lower 44 = .ok (.invokevirtual 85, 3) := by decide +kernel
theorem d_Ke_lower_47 : decode b_Ke_lower 47 = .ok (.iload_n 2, 1) := by decide +kernel
theorem d_Ke_lower_48 : decode b_Ke_lower 48 = .ok (.invokevirtual 74, 3) := by decide +kernel
theorem d_Ke_lower_51 : decode b_Ke_lower 51 = .ok (.invokestatic 123, 3) := by decide +kernel
theorem d_Ke_lower_54 : decode b_Ke_lower 54 = .ok (.aload_n 0, 1) := by decide +kernel
theorem d_Ke_lower_55 : decode b_Ke_lower 55 = .ok (.getfield 28, 3) := by decide +kernel
theorem d_Ke_lower_58 : decode b_Ke_lower 58 = .ok (.iload_n 1, 1) := by decide +kernel
theorem d_Ke_lower_59 : decode b_Ke_lower 59 = .ok (.iload_n 2, 1) := by decide +kernel
theorem d_Ke_lower_60 : decode b_Ke_lower 60 = .ok (.invokevirtual 97, 3) := by decide +kernel
theorem d_Ke_lower_63 : decode b_Ke_lower 63 = .ok (.iconst 0, 1) := by decide +kernel
theorem d_Ke_lower_64 : decode b_Ke_lower 64 = .ok (.ireturn, 1) := by decide +kernel
theorem d_Ke_enter_0 : decode b_Ke_enter 0 = .ok (.aload_n 0, 1) := by decide +kernel
theorem d_Ke_enter_1 : decode b_Ke_enter 1 = .ok (.getfield 23, 3) := by decide +kernel
theorem d_Ke_enter_4 : decode b_Ke_enter 4 = .ok (.iload 4, 2) := by decide +kernel
theorem d_Ke_enter_6 : decode b_Ke_enter 6 = .ok (.invokevirtual 34, 3) := by decide +kernel
theorem d_Ke_enter_9 : decode b_Ke_enter 9 = .ok (.ifCond .eq 19, 3) := by decide +kernel
theorem d_Ke_enter_12 : decode b_Ke_enter 12 = .ok (.aload_n 0, 1) := by decide +kernel
theorem d_Ke_enter_13 : decode b_Ke_enter 13 = .ok (.getfield 23, 3) := by decide +kernel
theorem d_Ke_enter_16 : decode b_Ke_enter 16 = .ok (.iload 5, 2) := by decide +kernel
theorem d_Ke_enter_18 : decode b_Ke_enter 18 = .ok (.invokevirtual 100, 3) := by decide +kernel
theorem d_Ke_enter_21 : decode b_Ke_enter 21 = .ok (.ifCond .eq 7, 3) := by decide +kernel
theorem d_Ke_enter_24 : decode b_Ke_enter 24 = .ok (.iconst 1, 1) := by decide +kernel
theorem d_Ke_enter_25 : decode b_Ke_enter 25 = .ok (.goto 4, 3) := by decide +kernel
theorem d_Ke_enter_28 : decode b_Ke_enter 28 = .ok (.iconst 0, 1) := by decide +kernel
theorem d_Ke_enter_29 : decode b_Ke_enter 29 = .ok (.invokestatic 44, 3) := by decide +kernel
theorem d_Ke_enter_32 : decode b_Ke_enter 32 = .ok (.aload_n 0, 1) := by decide +kernel
theorem d_Ke_enter_33 : decode b_Ke_enter 33 = .ok (.iload_n 1, 1) := by decide +kernel
theorem d_Ke_enter_34 : decode b_Ke_enter 34 = .ok (.iload_n 2, 1) := by decide +kernel
theorem d_Ke_enter_35 : decode b_Ke_enter 35 = .ok (.iload_n 3, 1) := by decide +kernel
theorem d_Ke_enter_36 : decode b_Ke_enter 36 = .ok (.invokevirtual 160, 3) := by decide +kernel
theorem d_Ke_enter_39 : decode b_Ke_enter 39 = .ok (.aload_n 0, 1) := by decide +kernel
theorem d_Ke_enter_40 : decode b_Ke_enter 40 = .ok (.getfield 28, 3) := by decide +kernel
theorem d_Ke_enter_43 : decode b_Ke_enter 43 = .ok (.iload_n 1, 1) := by decide +kernel
theorem d_Ke_enter_44 : decode b_Ke_enter 44 = .ok (.iconst 3, 1) := by decide +kernel
theorem d_Ke_enter_45 : decode b_Ke_enter 45 = .ok (.invokevirtual 163, 3) := by decide +kernel
theorem d_Ke_enter_48 : decode b_Ke_enter 48 = .ok (.ifCond .eq 31, 3) := by decide +kernel
theorem d_Ke_enter_51 : decode b_Ke_enter 51 = .ok (.aload_n 0, 1) := by decide +kernel
theorem d_Ke_enter_52 : decode b_Ke_enter 52 = .ok (.getfield 28, 3) := by decide +kernel
theorem d_Ke_enter_55 : decode b_Ke_enter 55 = .ok (.iload_n 2, 1) := by decide +kernel
theorem d_Ke_enter_56 : decode b_Ke_enter 56 = .ok (.iconst 0, 1) := by decide +kernel
theorem d_Ke_enter_57 : decode b_Ke_enter 57 = .ok (.invokevirtual 163, 3) := by decide +kernel
theorem d_Ke_enter_60 : decode b_Ke_enter 60 = .ok (.ifCond .eq 19, 3) := by decide +kernel
theorem d_Ke_enter_63 : decode b_Ke_enter 63 = .ok (.aload_n 0, 1) := by decide +kernel
theorem d_Ke_enter_64 : decode b_Ke_enter 64 = .ok (.getfield 28, 3) := by decide +kernel
theorem d_Ke_enter_67 : decode b_Ke_enter 67 = .ok (.iload_n 3, 1) := by decide +kernel
theorem d_Ke_enter_68 : decode b_Ke_enter 68 = .ok (.iconst 2, 1) := by decide +kernel
theorem d_Ke_enter_69 : decode b_Ke_enter 69 = .ok (.invokevirtual 163, 3) := by decide +kernel
theorem d_Ke_enter_72 : decode b_Ke_enter 72 = .ok (.ifCond .eq 7, 3) := by decide +kernel
theorem d_Ke_enter_75 : decode b_Ke_enter 75 = .ok (.iconst 1, 1) := by decide +kernel
theorem d_Ke_enter_76 : decode b_Ke_enter 76 = .ok (.goto 4, 3) := by decide +kernel
theorem d_Ke_enter_79 : decode b_Ke_enter 79 = .ok (.iconst 0, 1) := by decide +kernel
theorem d_Ke_enter_80 : decode b_Ke_enter 80 = .ok (.invokestatic 44, 3) := by decide +kernel
theorem d_Ke_enter_83 : decode b_Ke_enter 83 = .ok (.aload_n 0, 1) := by decide +kernel
theorem d_Ke_enter_84 : decode b_Ke_enter 84 = .ok (.getfield 28, 3) := by decide +kernel
theorem d_Ke_enter_87 : decode b_Ke_enter 87 = .ok (.iload_n 3, 1) := by decide +kernel
theorem d_Ke_enter_88 : decode b_Ke_enter 88 = .ok (.iload_n 2, 1) := by decide +kernel
theorem d_Ke_enter_89 : decode b_Ke_enter 89 = .ok (.invokevirtual 166, 3) := by decide +kernel
theorem d_Ke_enter_92 : decode b_Ke_enter 92 = .ok (.invokestatic 169, 3) := by decide +kernel
theorem d_Ke_enter_95 : decode b_Ke_enter 95 = .ok (.aload_n 0, 1) := by decide +kernel
theorem d_Ke_enter_96 : decode b_Ke_enter 96 = .ok (.iload_n 1, 1) := by decide +kernel
theorem d_Ke_enter_97 : decode b_Ke_enter 97 = .ok (.iload_n 2, 1) := by decide +kernel
theorem d_Ke_enter_98 : decode b_Ke_enter 98 = .ok (.invokevirtual 130, 3) := by decide +kernel
theorem d_Ke_enter_101 : decode b_Ke_enter 101 = .ok (.ifCond .eq 33, 3) := by decide +kernel
theorem d_Ke_enter_104 : decode b_Ke_enter 104 = .ok (.aload_n 0, 1) := by decide +kernel
theorem d_Ke_enter_105 : decode b_Ke_enter 105 = .ok (.getfield 23, 3) := by decide +kernel
theorem d_Ke_enter_108 : decode b_Ke_enter 108 = .ok (.aload_n 0, 1) := by decide +kernel
theorem d_Ke_enter_109 : decode b_Ke_enter 109 = .ok (.getfield 28, 3) := by decide +kernel
theorem d_Ke_enter_112 : decode b_Ke_enter 112 = .ok (.iload_n 1, 1) := by decide +kernel
theorem d_Ke_enter_113 : decode b_Ke_enter 113 = .ok (.invokevirtual 85, 3) := by decide +kernel
theorem d_Ke_enter_116 : decode b_Ke_enter 116 = .ok (.aload_n 0, 1) := by decide +kernel
theorem d_Ke_enter_117 : decode b_Ke_enter 117 = .ok (.getfield 28, 3) := by decide +kernel
theorem d_Ke_enter_120 : decode b_Ke_enter 120 = .ok (.iload_n 3, 1) := by decide +kernel
theorem d_Ke_enter_121 : decode b_Ke_enter 121 = .ok (.invokevirtual 172, 3) := by decide +kernel
theorem d_Ke_enter_124 : decode b_Ke_enter 124 = .ok (.invokevirtual 74, 3) := by decide +kernel
theorem d_Ke_enter_127 : decode b_Ke_enter 127 = .ok (.ifCond .eq 7, 3) := by decide +kernel
theorem d_Ke_enter_130 : decode b_Ke_enter 130 = .ok (.iconst 1, 1) := by decide +kernel
theorem d_Ke_enter_131 : decode b_Ke_enter 131 = .ok (.goto 4, 3) := by decide +kernel
theorem d_Ke_enter_134 : decode b_Ke_enter 134 = .ok (.iconst 0, 1) := by decide +kernel
theorem d_Ke_enter_135 : decode b_Ke_enter 135 = .ok (.invokestatic 123, 3) := by decide +kernel
theorem d_Ke_enter_138 : decode b_Ke_enter 138 = .ok (.aload_n 0, 1) := by decide +kernel
theorem d_Ke_enter_139 : decode b_Ke_enter 139 = .ok (.getfield 23, 3) := by decide +kernel
theorem d_Ke_enter_142 : decode b_Ke_enter 142 = .ok (.iload 4, 2) := by decide +kernel
theorem d_Ke_enter_144 : decode b_Ke_enter 144 = .ok (.aload_n 0, 1) := by decide +kernel
theorem d_Ke_enter_145 : decode b_Ke_enter 145 = .ok (.getfield 28, 3) := by decide +kernel
theorem d_Ke_enter_148 : decode b_Ke_enter 148 = .ok (.iload_n 1, 1) := by decide +kernel
theorem d_Ke_enter_149 : decode b_Ke_enter 149 = .ok (.invokevirtual 85, 3) := by decide +kernel
theorem d_Ke_enter_152 : decode b_Ke_enter 152 = .ok (.aload_n 0, 1) := by decide +kernel
theorem d_Ke_enter_153 : decode b_Ke_enter 153 = .ok (.getfield 28, 3) := by decide +kernel
theorem d_Ke_enter_156 : decode b_Ke_enter 156 = .ok (.iload_n 3, 1) := by decide +kernel
theorem d_Ke_enter_157 : decode b_Ke_enter 157 = .ok (.invokevirtual 85, 3) := by decide +kernel
theorem d_Ke_enter_160 : decode b_Ke_enter 160 = .ok (.invokevirtual 175, 3) := by decide +kernel
theorem d_Ke_enter_163 : decode b_Ke_enter 163 = .ok (.invokestatic 123, 3) := by decide +kernel
theorem d_Ke_enter_166 : decode b_Ke_enter 166 = .ok (.aload_n 0, 1) := by decide +kernel
theorem d_Ke_enter_167 : decode b_Ke_enter 167 = .ok (.getfield 23, 3) := by decide +kernel
theorem d_Ke_enter_170 : decode b_Ke_enter 170 = .ok (.iload 4, 2) := by decide +kernel
theorem d_Ke_enter_172 : decode b_Ke_enter 172 = .ok (.iload 5, 2) := by decide +kernel
theorem d_Ke_enter_174 : decode b_Ke_enter 174 = .ok (.invokevirtual 74, 3) := by decide +kernel
theorem d_Ke_enter_177 : decode b_Ke_enter 177 = .ok (.invokestatic 123, 3) := by decide +kernel
theorem d_Ke_enter_180 : decode b_Ke_enter 180 = .ok (.aload_n 0, 1) := by decide +kernel
theorem d_Ke_enter_181 : decode b_Ke_enter 181 = .ok (.getfield 23, 3) := by decide +kernel
theorem d_Ke_enter_184 : decode b_Ke_enter 184 = .ok (.iload 5, 2) := by decide +kernel
theorem d_Ke_enter_186 : decode b_Ke_enter 186 = .ok (.aload_n 0, 1) := by decide +kernel
theorem d_Ke_enter_187 : decode b_Ke_enter 187 = .ok (.getfield 28, 3) := by decide +kernel
theorem d_Ke_enter_190 : decode b_Ke_enter 190 = .ok (.iload_n 1, 1) := by decide +kernel
theorem d_Ke_enter_191 : decode b_Ke_enter 191 = .ok (.invokevirtual 90, 3) := by decide +kernel
theorem d_Ke_enter_194 : decode b_Ke_enter 194 = .ok (.aload_n 0, 1) := by decide +kernel
theorem d_Ke_enter_195 : decode b_Ke_enter 195 = .ok (.getfield 28, 3) := by decide +kernel
theorem d_Ke_enter_198 : decode b_Ke_enter 198 = .ok (.iload_n 3, 1) := by decide +kernel
theorem d_Ke_enter_199 : decode b_Ke_enter 199 = .ok (.invokevirtual 90, 3) := by decide +kernel
theorem d_Ke_enter_202 : decode b_Ke_enter 202 = .ok (.invokevirtual 178, 3) := by decide +kernel
theorem d_Ke_enter_205 : decode b_Ke_enter 205 = .ok (.invokestatic 123, 3) := by decide +kernel
theorem d_Ke_enter_208 : decode b_Ke_enter 208 = .ok (.aload_n 0, 1) := by decide +kernel
theorem d_Ke_enter_209 : decode b_Ke_enter 209 = .ok (.getfield 28, 3) := by decide +kernel
theorem d_Ke_enter_212 : decode b_Ke_enter 212 = .ok (.iload_n 1, 1) := by decide +kernel
theorem d_Ke_enter_213 : decode b_Ke_enter 213 = .ok (.iload 4, 2) := by decide +kernel
theorem d_Ke_enter_215 : decode b_Ke_enter 215 = .ok (.invokevirtual 93, 3) := by decide +kernel
theorem d_Ke_enter_218 : decode b_Ke_enter 218 = .ok (.aload_n 0, 1) := by decide +kernel
theorem d_Ke_enter_219 : decode b_Ke_enter 219 = .ok (.getfield 28, 3) := by decide +kernel
theorem d_Ke_enter_222 : decode b_Ke_enter 222 = .ok (.iload_n 1, 1) := by decide +kernel
theorem d_Ke_enter_223 : decode b_Ke_enter 223 = .ok (.iload 5, 2) := by decide +kernel
theorem d_Ke_enter_225 : decode b_Ke_enter 225 = .ok (.invokevirtual 97, 3) := by decide +kernel
theorem d_Ke_enter_228 : decode b_Ke_enter 228 = .ok (.aload_n 0, 1) := by decide +kernel
theorem d_Ke_enter_229 : decode b_Ke_enter 229 = .ok (.getfield 28, 3) := by decide +kernel
theorem d_Ke_enter_232 : decode b_Ke_enter 232 = .ok (.iload_n 3, 1) := by decide +kernel
theorem d_Ke_enter_233 : decode b_Ke_enter 233 = .ok (.invokevirtual 181, 3) := by decide +kernel
theorem d_Ke_enter_236 : decode b_Ke_enter 236 = .ok (.ireturn, 1) := by decide +kernel
theorem d_Ke_user_0 : decode b_Ke_user 0 = .ok (.iload_n 2, 1) := by decide +kernel
theorem d_Ke_user_1 : decode b_Ke_user 1 = .ok (.iconst 0, 1) := by decide +kernel
theorem d_Ke_user_2 : decode b_Ke_user 2 = .ok (.iconst 3, 1) := by decide +kernel
theorem d_Ke_user_3 : decode b_Ke_user 3 = .ok (.invokestatic 40, 3) := by decide +kernel
theorem d_Ke_user_6 : decode b_Ke_user 6 = .ok (.ifCond .eq 18, 3) := by decide +kernel
theorem d_Ke_user_9 : decode b_Ke_user 9 = .ok (.aload_n 0, 1) := by decide +kernel
theorem d_Ke_user_10 : decode b_Ke_user 10 = .ok (.getfield 33, 3) := by decide +kernel
theorem d_Ke_user_13 : decode b_Ke_user 13 = .ok (.iload_n 2, 1) := by decide +kernel
theorem d_Ke_user_14 : decode b_Ke_user 14 = .ok (.invokevirtual 184, 3) := by decide +kernel
theorem d_Ke_user_17 : decode b_Ke_user 17 = .ok (.ifCond .ne 7, 3) := by decide +kernel
theorem d_Ke_user_20 : decode b_Ke_user 20 = .ok (.iconst 1, 1) := by decide +kernel
theorem d_Ke_user_21 : decode b_Ke_user 21 = .ok (.goto 4, 3) := by decide +kernel
theorem d_Ke_user_24 : decode b_Ke_user 24 = .ok (.iconst 0, 1) := by decide +kernel
theorem d_Ke_user_25 : decode b_Ke_user 25 = .ok (.invokestatic 44, 3) := by decide +kernel
theorem d_Ke_user_28 : decode b_Ke_user 28 = .ok (.aload_n 0, 1) := by decide +kernel
theorem d_Ke_user_29 : decode b_Ke_user 29 = .ok (.iload_n 1, 1) := by decide +kernel
theorem d_Ke_user_30 : decode b_Ke_user 30 = .ok (.invokevirtual 189, 3) := by decide +kernel
theorem d_Ke_user_33 : decode b_Ke_user 33 = .ok (.istore 4, 2) := by decide +kernel
theorem d_Ke_user_35 : decode b_Ke_user 35 = .ok (.aload_n 0, 1) := by decide +kernel
theorem d_Ke_user_36 : decode b_Ke_user 36 = .ok (.iload_n 1, 1) := by decide +kernel
theorem d_Ke_user_37 : decode b_Ke_user 37 = .ok (.invokevirtual 189, 3) := by decide +kernel
theorem d_Ke_user_40 : decode b_Ke_user 40 = .ok (.istore 5, 2) := by decide +kernel
theorem d_Ke_user_42 : decode b_Ke_user 42 = .ok (.aload_n 0, 1) := by decide +kernel
theorem d_Ke_user_43 : decode b_Ke_user 43 = .ok (.aload_n 0, 1) := by decide +kernel
theorem d_Ke_user_44 : decode b_Ke_user 44 = .ok (.iconst 0, 1) := by decide +kernel
theorem d_Ke_user_45 : decode b_Ke_user 45 = .ok (.iload 4, 2) := by decide +kernel
theorem d_Ke_user_47 : decode b_Ke_user 47 = .ok (.iconst 3, 1) := by decide +kernel
theorem d_Ke_user_48 : decode b_Ke_user 48 = .ok (.invokevirtual 192, 3) := by decide +kernel
theorem d_Ke_user_51 : decode b_Ke_user 51 = .ok (.iload 5, 2) := by decide +kernel
theorem d_Ke_user_53 : decode b_Ke_user 53 = .ok (.iconst 0, 1) := by decide +kernel
theorem d_Ke_user_54 : decode b_Ke_user 54 = .ok (.invokevirtual 192, 3) := by decide +kernel
theorem d_Ke_user_57 : decode b_Ke_user 57 = .ok (.istore 6, 2) := by decide +kernel
theorem d_Ke_user_59 : decode b_Ke_user 59 = .ok (.aload_n 0, 1) := by decide +kernel
theorem d_Ke_user_60 : decode b_Ke_user 60 = .ok (.iload_n 1, 1) := by decide +kernel
theorem d_Ke_user_61 : decode b_Ke_user 61 = .ok (.iconst 1, 1) := by decide +kernel
theorem d_Ke_user_62 : decode b_Ke_user 62 = .ok (.iload 6, 2) := by decide +kernel
theorem d_Ke_user_64 : decode b_Ke_user 64 = .ok (.bipush 40, 2) := by decide +kernel
theorem d_Ke_user_66 : decode b_Ke_user 66 = .ok (.invokevirtual 195, 3) := by decide +kernel
theorem d_Ke_user_69 : decode b_Ke_user 69 = .ok (.istore 7, 2) := by decide +kernel
theorem d_Ke_user_71 : decode b_Ke_user 71 = .ok (.aload_n 0, 1) := by decide +kernel
theorem d_Ke_user_72 : decode b_Ke_user 72 = .ok (.iload_n 1, 1) := by decide +kernel
theorem d_Ke_user_73 : decode b_Ke_user 73 = .ok (.iload 7, 2) := by decide +kernel
theorem d_Ke_user_75 : decode b_Ke_user 75 = .ok (.iload 6, 2) := by decide +kernel
theorem d_Ke_user_77 : decode b_Ke_user 77 = .ok (.iconst 4, 1) := by decide +kernel
theorem d_Ke_user_78 : decode b_Ke_user 78 = .ok (.invokevirtual 198, 3) := by decide +kernel
theorem d_Ke_user_81 : decode b_Ke_user 81 = .ok (.istore 8, 2) := by decide +kernel
theorem d_Ke_user_83 : decode b_Ke_user 83 = .ok (.aload_n 0, 1) := by decide +kernel
theorem d_Ke_user_84 : decode b_Ke_user 84 = .ok (.aload_n 0, 1) := by decide +kernel
theorem d_Ke_user_85 : decode b_Ke_user 85 = .ok (.iconst 0, 1) := by decide +kernel
theorem d_Ke_user_86 : decode b_Ke_user 86 = .ok (.iload 4, 2) := by decide +kernel
theorem d_Ke_user_88 : decode b_Ke_user 88 = .ok (.iconst 4, 1) := by decide +kernel
theorem d_Ke_user_89 : decode b_Ke_user 89 = .ok (.invokevirtual 192, 3) := by decide +kernel
theorem d_Ke_user_92 : decode b_Ke_user 92 = .ok (.iload 5, 2) := by decide +kernel
theorem d_Ke_user_94 : decode b_Ke_user 94 = .ok (.iconst 4, 1) := by decide +kernel
theorem d_Ke_user_95 : decode b_Ke_user 95 = .ok (.invokevirtual 192, 3) := by decide +kernel
theorem d_Ke_user_98 : decode b_Ke_user 98 = .ok (.istore 9, 2) := by decide +kernel
theorem d_Ke_user_100 : decode b_Ke_user 100 = .ok (.aload_n 0, 1) := by decide +kernel
theorem d_Ke_user_101 : decode b_Ke_user 101 = .ok (.iload_n 1, 1) := by decide +kernel
theorem d_Ke_user_102 : decode b_Ke_user 102 = .ok (.iconst 1, 1) := by decide +kernel
theorem d_Ke_user_103 : decode b_Ke_user 103 = .ok (.iload 9, 2) := by decide +kernel
theorem d_Ke_user_105 : decode b_Ke_user 105 = .ok (.iconst 1, 1) := by decide +kernel
theorem d_Ke_user_106 : decode b_Ke_user 106 = .ok (.iload_n 2, 1) := by decide +kernel
theorem d_Ke_user_107 : decode b_Ke_user 107 = .ok (.invokevirtual 201, 3) := by decide +kernel
theorem d_Ke_user_110 : decode b_Ke_user 110 = .ok (.istore 10, 2) := by decide +kernel
theorem d_Ke_user_112 : decode b_Ke_user 112 = .ok (.aload_n 0, 1) := by decide +kernel
theorem d_Ke_user_113 : decode b_Ke_user 113 = .ok (.getfield 33, 3) := by decide +kernel
theorem d_Ke_user_116 : decode b_Ke_user 116 = .ok (.iload_n 2, 1) := by decide +kernel
theorem d_Ke_user_117 : decode b_Ke_user 117 = .ok (.iload 4, 2) := by decide +kernel
theorem d_Ke_user_119 : decode b_Ke_user 119 = .ok (.iload 5, 2) := by decide +kernel
theorem d_Ke_user_121 : decode b_Ke_user 121 = .ok (.invokevirtual 205, 3) := by decide +kernel
theorem d_Ke_user_124 : decode b_Ke_user 124 = .ok (.aload_n 0, 1) := by decide +kernel
theorem d_Ke_user_125 : decode b_Ke_user 125 = .ok (.getfield 33, 3) := by decide +kernel
theorem d_Ke_user_128 : decode b_Ke_user 128 = .ok (.iload_n 2, 1) := by decide +kernel
theorem d_Ke_user_129 : decode b_Ke_user 129 = .ok (.iload 7, 2) := by decide +kernel
theorem d_Ke_user_131 : decode b_Ke_user 131 = .ok (.iload 8, 2) := by decide +kernel
theorem d_Ke_user_133 : decode b_Ke_user 133 = .ok (.iload 10, 2) := by decide +kernel
theorem d_Ke_user_135 : decode b_Ke_user 135 = .ok (.invokevirtual 208, 3) := by decide +kernel
theorem d_Ke_user_138 : decode b_Ke_user 138 = .ok (.aload_n 0, 1) := by decide +kernel
theorem d_Ke_user_139 : decode b_Ke_user 139 = .ok (.getfield 33, 3) := by decide +kernel
theorem d_Ke_user_142 : decode b_Ke_user 142 = .ok (.iload_n 2, 1) := by decide +kernel
theorem d_Ke_user_143 : decode b_Ke_user 143 = .ok (.iload_n 3, 1) := by decide +kernel
theorem d_Ke_user_144 : decode b_Ke_user 144 = .ok (.invokevirtual 211, 3) := by decide +kernel
theorem d_Ke_user_147 : decode b_Ke_user 147 = .ok (.iload 7, 2) := by decide +kernel
theorem d_Ke_user_149 : decode b_Ke_user 149 = .ok (.ireturn, 1) := by decide +kernel
theorem d_Ke_login_0 : decode b_Ke_login 0 = .ok (.iload_n 2, 1) := by decide +kernel
theorem d_Ke_login_1 : decode b_Ke_login 1 = .ok (.iconst 0, 1) := by decide +kernel
theorem d_Ke_login_2 : decode b_Ke_login 2 = .ok (.iconst 3, 1) := by decide +kernel
theorem d_Ke_login_3 : decode b_Ke_login 3 = .ok (.invokestatic 40, 3) := by decide +kernel
theorem d_Ke_login_6 : decode b_Ke_login 6 = .ok (.invokestatic 44, 3) := by decide +kernel
theorem d_Ke_login_9 : decode b_Ke_login 9 = .ok (.aload_n 0, 1) := by decide +kernel
theorem d_Ke_login_10 : decode b_Ke_login 10 = .ok (.getfield 33, 3) := by decide +kernel
theorem d_Ke_login_13 : decode b_Ke_login 13 = .ok (.iload_n 2, 1) := by decide +kernel
theorem d_Ke_login_14 : decode b_Ke_login 14 = .ok (.invokevirtual 184, 3) := by decide +kernel
theorem d_Ke_login_17 : decode b_Ke_login 17 = .ok (.invokestatic 169, 3) := by decide +kernel
theorem d_Ke_login_20 : decode b_Ke_login 20 = .ok (.aload_n 0, 1) := by decide +kernel
theorem d_Ke_login_21 : decode b_Ke_login 21 = .ok (.getfield 33, 3) := by decide +kernel
theorem d_Ke_login_24 : decode b_Ke_login 24 = .ok (.iload_n 2, 1) := by decide +kernel
theorem d_Ke_login_25 : decode b_Ke_login 25 = .ok (.invokevirtual 213, 3) := by decide +kernel
theorem d_Ke_login_28 : decode b_Ke_login 28 = .ok (.iload_n 3, 1) := by decide +kernel
theorem d_Ke_login_29 : decode b_Ke_login 29 = .ok (.if_icmp .ne 7, 3) := by decide +kernel
theorem d_Ke_login_32 : decode b_Ke_login 32 = .ok (.iconst 1, 1) := by decide +kernel
theorem d_Ke_login_33 : decode b_Ke_login 33 = .ok (.goto 4, 3) := by decide +kernel
theorem d_Ke_login_36 : decode b_Ke_login 36 = .ok (.iconst 0, 1) := by decide +kernel
theorem d_Ke_login_37 : decode b_Ke_login 37 = .ok (.invokestatic 123, 3) := by decide +kernel
theorem d_Ke_login_40 : decode b_Ke_login 40 = .ok (.aload_n 0, 1) := by decide +kernel
theorem d_Ke_login_41 : decode b_Ke_login 41 = .ok (.iload_n 1, 1) := by decide +kernel
theorem d_Ke_login_42 : decode b_Ke_login 42 = .ok (.invokevirtual 77, 3) := by decide +kernel
theorem d_Ke_login_45 : decode b_Ke_login 45 = .ok (.aload_n 0, 1) := by decide +kernel
theorem d_Ke_login_46 : decode b_Ke_login 46 = .ok (.getfield 33, 3) := by decide +kernel
theorem d_Ke_login_49 : decode b_Ke_login 49 = .ok (.iload_n 2, 1) := by decide +kernel
theorem d_Ke_login_50 : decode b_Ke_login 50 = .ok (.invokevirtual 216, 3) := by decide +kernel
theorem d_Ke_login_53 : decode b_Ke_login 53 = .ok (.istore 4, 2) := by decide +kernel
theorem d_Ke_login_55 : decode b_Ke_login 55 = .ok (.aload_n 0, 1) := by decide +kernel
theorem d_Ke_login_56 : decode b_Ke_login 56 = .ok (.getfield 33, 3) := by decide +kernel
theorem d_Ke_login_59 : decode b_Ke_login 59 = .ok (.iload_n 2, 1) := by decide +kernel
theorem d_Ke_login_60 : decode b_Ke_login 60 = .ok (.invokevirtual 219, 3) := by decide +kernel
theorem d_Ke_login_63 : decode b_Ke_login 63 = .ok (.istore 5, 2) := by decide +kernel
theorem d_Ke_login_65 : decode b_Ke_login 65 = .ok (.aload_n 0, 1) := by decide +kernel
theorem d_Ke_login_66 : decode b_Ke_login 66 = .ok (.aload_n 0, 1) := by decide +kernel
theorem d_Ke_login_67 : decode b_Ke_login 67 = .ok (.aload_n 0, 1) := by decide +kernel
theorem d_Ke_login_68 : decode b_Ke_login 68 = .ok (.getfield 28, 3) := by decide +kernel
theorem d_Ke_login_71 : decode b_Ke_login 71 = .ok (.iload_n 1, 1) := by decide +kernel
theorem d_Ke_login_72 : decode b_Ke_login 72 = .ok (.invokevirtual 85, 3) := by decide +kernel
theorem d_Ke_login_75 : decode b_Ke_login 75 = .ok (.iload 4, 2) := by decide +kernel
theorem d_Ke_login_77 : decode b_Ke_login 77 = .ok (.iconst 4, 1) := by decide +kernel
theorem d_Ke_login_78 : decode b_Ke_login 78 = .ok (.invokevirtual 192, 3) := by decide +kernel
theorem d_Ke_login_81 : decode b_Ke_login 81 = .ok (.iload 5, 2) := by decide +kernel
theorem d_Ke_login_83 : decode b_Ke_login 83 = .ok (.iconst 4, 1) := by decide +kernel
theorem d_Ke_login_84 : decode b_Ke_login 84 = .ok (.invokevirtual 192, 3) := by decide +kernel
theorem d_Ke_login_87 : decode b_Ke_login 87 = .ok (.istore 6, 2) := by decide +kernel
theorem d_Ke_login_89 : decode b_Ke_login 89 = .ok (.aload_n 0, 1) := by decide +kernel
theorem d_Ke_login_90 : decode b_Ke_login 90 = .ok (.aload_n 0, 1) := by decide +kernel
theorem d_Ke_login_91 : decode b_Ke_login 91 = .ok (.aload_n 0, 1) := by decide +kernel
theorem d_Ke_login_92 : decode b_Ke_login 92 = .ok (.getfield 28, 3) := by decide +kernel
theorem d_Ke_login_95 : decode b_Ke_login 95 = .ok (.iload_n 1, 1) := by decide +kernel
theorem d_Ke_login_96 : decode b_Ke_login 96 = .ok (.invokevirtual 90, 3) := by decide +kernel
theorem d_Ke_login_99 : decode b_Ke_login 99 = .ok (.iload 4, 2) := by decide +kernel
theorem d_Ke_login_101 : decode b_Ke_login 101 = .ok (.iconst 3, 1) := by decide +kernel
theorem d_Ke_login_102 : decode b_Ke_login 102 = .ok (.invokevirtual 192, 3) := by decide +kernel
theorem d_Ke_login_105 : decode b_Ke_login 105 = .ok (.iload 5, 2) := by decide +kernel
theorem d_Ke_login_107 : decode b_Ke_login 107 = .ok (.iconst 3, 1) := by decide +kernel
theorem d_Ke_login_108 : decode b_Ke_login 108 = .ok (.invokevirtual 192, 3) := by decide +kernel
theorem d_Ke_login_111 : decode b_Ke_login 111 = .ok (.istore 7, 2) := by decide +kernel
theorem d_Ke_login_113 : decode b_Ke_login 113 = .ok (.aload_n 0, 1) := by decide +kernel
theorem d_Ke_login_114 : decode b_Ke_login 114 = .ok (.iload_n 1, 1) := by decide +kernel
theorem d_Ke_login_115 : decode b_Ke_login 115 = .ok (.iconst 1, 1) := by decide +kernel
theorem d_Ke_login_116 : decode b_Ke_login 116 = .ok (.aload_n 0, 1) := by decide +kernel
theorem d_Ke_login_117 : decode b_Ke_login 117 = .ok (.getfield 33, 3) := by decide +kernel
theorem d_Ke_login_120 : decode b_Ke_login 120 = .ok (.iload_n 2, 1) := by decide +kernel
theorem d_Ke_login_121 : decode b_Ke_login 121 = .ok (.invokevirtual 222, 3) := by decide +kernel
theorem d_Ke_login_124 : decode b_Ke_login 124 = .ok (.iload 6, 2) := by decide +kernel
theorem d_Ke_login_126 : decode b_Ke_login 126 = .ok (.iload 7, 2) := by decide +kernel
theorem d_Ke_login_128 : decode b_Ke_login 128 = .ok (.invokevirtual 225, 3) := by decide +kernel
theorem d_Ke_login_131 : decode b_Ke_login 131 = .ok (.ireturn, 1) := by decide +kernel
theorem d_Ke_file_0 : decode b_Ke_file 0 = .ok (.iload_n 2, 1) := by decide +kernel
theorem d_Ke_file_1 : decode b_Ke_file 1 = .ok (.iconst 0, 1) := by decide +kernel
theorem d_Ke_file_2 : decode b_Ke_file 2 = .ok (.iconst 3, 1) := by decide +kernel
theorem d_Ke_file_3 : decode b_Ke_file 3 = .ok (.invokestatic 40, 3) := by decide +kernel
theorem d_Ke_file_6 : decode b_Ke_file 6 = .ok (.ifCond .eq 27, 3) := by decide +kernel
theorem d_Ke_file_9 : decode b_Ke_file 9 = .ok (.iload_n 3, 1) := by decide +kernel
theorem d_Ke_file_10 : decode b_Ke_file 10 = .ok (.iconst 0, 1) := by decide +kernel
theorem d_Ke_file_11 : decode b_Ke_file 11 = .ok (.iconst 3, 1) := by decide +kernel
theorem d_Ke_file_12 : decode b_Ke_file 12 = .ok (.invokestatic 40, 3) := by decide +kernel
theorem d_Ke_file_15 : decode b_Ke_file 15 = .ok (.ifCond .eq 18, 3) := by decide +kernel
theorem d_Ke_file_18 : decode b_Ke_file 18 = .ok (.iload 4, 2) := by decide +kernel
theorem d_Ke_file_20 : decode b_Ke_file 20 = .ok (.iconst 1, 1) := by decide +kernel
theorem d_Ke_file_21 : decode b_Ke_file 21 = .ok (.bipush 8, 2) := by decide +kernel
theorem d_Ke_file_23 : decode b_Ke_file 23 = .ok (.invokestatic 40, 3) := by decide +kernel
theorem d_Ke_file_26 : decode b_Ke_file 26 = .ok (.ifCond .eq 7, 3) := by decide +kernel
theorem d_Ke_file_29 : decode b_Ke_file 29 = .ok (.iconst 1, 1) := by decide +kernel
theorem d_Ke_file_30 : decode b_Ke_file 30 = .ok (.goto 4, 3) := by decide +kernel
theorem d_Ke_file_33 : decode b_Ke_file 33 = .ok (.iconst 0, 1) := by decide +kernel
theorem d_Ke_file_34 : decode b_Ke_file 34 = .ok (.invokestatic 44, 3) := by decide +kernel
theorem d_Ke_file_37 : decode b_Ke_file 37 = .ok (.aload_n 0, 1) := by decide +kernel
theorem d_Ke_file_38 : decode b_Ke_file 38 = .ok (.getfield 33, 3) := by decide +kernel
theorem d_Ke_file_41 : decode b_Ke_file 41 = .ok (.iload_n 2, 1) := by decide +kernel
theorem d_Ke_file_42 : decode b_Ke_file 42 = .ok (.invokevirtual 184, 3) := by decide +kernel
theorem d_Ke_file_45 : decode b_Ke_file 45 = .ok (.invokestatic 169, 3) := by decide +kernel
theorem d_Ke_file_48 : decode b_Ke_file 48 = .ok (.aload_n 0, 1) := by decide +kernel
theorem d_Ke_file_49 : decode b_Ke_file 49 = .ok (.getfield 33, 3) := by decide +kernel
theorem d_Ke_file_52 : decode b_Ke_file 52 = .ok (.iload_n 2, 1) := by decide +kernel
theorem d_Ke_file_53 : decode b_Ke_file 53 = .ok (.invokevirtual 228, 3) := by decide +kernel
theorem d_Ke_file_56 : decode b_Ke_file 56 = .ok (.istore 5, 2) := by decide +kernel
theorem d_Ke_file_58 : decode b_Ke_file 58 = .ok (.aload_n 0, 1) := by decide +kernel
theorem d_Ke_file_59 : decode b_Ke_file 59 = .ok (.getfield 33, 3) := by decide +kernel
theorem d_Ke_file_62 : decode b_Ke_file 62 = .ok (.iload_n 2, 1) := by decide +kernel
theorem d_Ke_file_63 : decode b_Ke_file 63 = .ok (.invokevirtual 231, 3) := by decide +kernel
theorem d_Ke_file_66 : decode b_Ke_file 66 = .ok (.istore 6, 2) := by decide +kernel
theorem d_Ke_file_68 : decode b_Ke_file 68 = .ok (.aload_n 0, 1) := by decide +kernel
theorem d_Ke_file_69 : decode b_Ke_file 69 = .ok (.iload_n 1, 1) := by decide +kernel
theorem d_Ke_file_70 : decode b_Ke_file 70 = .ok (.iload 5, 2) := by decide +kernel
theorem d_Ke_file_72 : decode b_Ke_file 72 = .ok (.iload 6, 2) := by decide +kernel
theorem d_Ke_file_74 : decode b_Ke_file 74 = .ok (.iload_n 3, 1) := by decide +kernel
theorem d_Ke_file_75 : decode b_Ke_file 75 = .ok (.invokevirtual 234, 3) := by decide +kernel
theorem d_Ke_file_78 : decode b_Ke_file 78 = .ok (.istore 7, 2) := by decide +kernel
theorem d_Ke_file_80 : decode b_Ke_file 80 = .ok (.iload 7, 2) := by decide +kernel
theorem d_Ke_file_82 : decode b_Ke_file 82 = .ok (.ifCond .eq 13, 3) := by decide +kernel
theorem d_Ke_file_85 : decode b_Ke_file 85 = .ok (.aload_n 0, 1) := by decide +kernel
theorem d_Ke_file_86 : decode b_Ke_file 86 = .ok (.iload_n 1, 1) := by decide +kernel
theorem d_Ke_file_87 : decode b_Ke_file 87 = .ok (.iload 5, 2) := by decide +kernel
theorem d_Ke_file_89 : decode b_Ke_file 89 = .ok (.iload 7, 2) := by decide +kernel
theorem d_Ke_file_91 : decode b_Ke_file 91 = .ok (.invokevirtual 237, 3) := by decide +kernel
theorem d_Ke_file_94 : decode b_Ke_file 94 = .ok (.pop, 1) := by decide +kernel
theorem d_Ke_file_95 : decode b_Ke_file 95 = .ok (.aload_n 0, 1) := by decide +kernel
theorem d_Ke_file_96 : decode b_Ke_file 96 = .ok (.iload_n 1, 1) := by decide +kernel
theorem d_Ke_file_97 : decode b_Ke_file 97 = .ok (.iload 5, 2) := by decide +kernel
theorem d_Ke_file_99 : decode b_Ke_file 99 = .ok (.aload_n 0, 1) := by decide +kernel
theorem d_Ke_file_100 : decode b_Ke_file 100 = .ok (.getfield 28, 3) := by decide +kernel
theorem d_Ke_file_103 : decode b_Ke_file 103 = .ok (.iload 5, 2) := by decide +kernel
theorem d_Ke_file_105 : decode b_Ke_file 105 = .ok (.invokevirtual 85, 3) := by decide +kernel
theorem d_Ke_file_108 : decode b_Ke_file 108 = .ok (.iload 4, 2) := by decide +kernel
theorem d_Ke_file_110 : decode b_Ke_file 110 = .ok (.invokevirtual 198, 3) := by decide +kernel
theorem d_Ke_file_113 : decode b_Ke_file 113 = .ok (.istore 8, 2) := by decide +kernel
theorem d_Ke_file_115 : decode b_Ke_file 115 = .ok (.aload_n 0, 1) := by decide +kernel
theorem d_Ke_file_116 : decode b_Ke_file 116 = .ok (.iload_n 1, 1) := by decide +kernel
theorem d_Ke_file_117 : decode b_Ke_file 117 = .ok (.iload 5, 2) := by decide +kernel
theorem d_Ke_file_119 : decode b_Ke_file 119 = .ok (.iload 6, 2) := by decide +kernel
theorem d_Ke_file_121 : decode b_Ke_file 121 = .ok (.iload_n 3, 1) := by decide +kernel
theorem d_Ke_file_122 : decode b_Ke_file 122 = .ok (.iload 8, 2) := by decide +kernel
theorem d_Ke_file_124 : decode b_Ke_file 124 = .ok (.invokevirtual 240, 3) := by decide +kernel
theorem d_Ke_file_127 : decode b_Ke_file 127 = .ok (.pop, 1) := by decide +kernel
theorem d_Ke_file_128 : decode b_Ke_file 128 = .ok (.iload 8, 2) := by decide +kernel
theorem d_Ke_file_130 : decode b_Ke_file 130 = .ok (.ireturn, 1) := by decide +kernel
theorem d_Ke_access_0 : decode b_Ke_access 0 = .ok (.iload_n 2, 1) := by decide +kernel
theorem d_Ke_access_1 : decode b_Ke_access 1 = .ok (.iconst 0, 1) := by decide +kernel
theorem d_Ke_access_2 : decode b_Ke_access 2 = .ok (.iconst 3, 1) := by decide +kernel
theorem d_Ke_access_3 : decode b_Ke_access 3 = .ok (.invokestatic 40, 3) := by decide +kernel
theorem d_Ke_access_6 : decode b_Ke_access 6 = .ok (.ifCond .eq 16, 3) := by decide +kernel
theorem d_Ke_access_9 : decode b_Ke_access 9 = .ok (.iload_n 3, 1) := by decide +kernel
theorem d_Ke_access_10 : decode b_Ke_access 10 = .ok (.iconst 0, 1) := by decide +kernel
theorem d_Ke_access_11 : decode b_Ke_access 11 = .ok (.iconst 3, 1) := by decide +kernel
theorem d_Ke_access_12 : decode b_Ke_access 12 = .ok (.invokestatic 40, 3) := by decide +kernel
theorem d_Ke_access_15 : decode b_Ke_access 15 = .ok (.ifCond .eq 7, 3) := by decide +kernel
theorem d_Ke_access_18 : decode b_Ke_access 18 = .ok (.iconst 1, 1) := by decide +kernel
theorem d_Ke_access_19 : decode b_Ke_access 19 = .ok (.goto 4, 3) := by decide +kernel
theorem d_Ke_access_22 : decode b_Ke_access 22 = .ok (.iconst 0, 1) := by decide +kernel
theorem d_Ke_access_23 : decode b_Ke_access 23 = .ok (.invokestatic 44, 3) := by decide +kernel
theorem d_Ke_access_26 : decode b_Ke_access 26 = .ok (.aload_n 0, 1) := by decide +kernel
theorem d_Ke_access_27 : decode b_Ke_access 27 = .ok (.getfield 33, 3) := by decide +kernel
theorem d_Ke_access_30 : decode b_Ke_access 30 = .ok (.iload_n 2, 1) := by decide +kernel
theorem d_Ke_access_31 : decode b_Ke_access 31 = .ok (.invokevirtual 184, 3) := by decide +kernel
theorem d_Ke_access_34 : decode b_Ke_access 34 = .ok (.invokestatic 169, 3) := by decide +kernel
theorem d_Ke_access_37 : decode b_Ke_access 37 = .ok (.aload_n 0, 1) := by decide +kernel
theorem d_Ke_access_38 : decode b_Ke_access 38 = .ok (.getfield 33, 3) := by decide +kernel
theorem d_Ke_access_41 : decode b_Ke_access 41 = .ok (.iload_n 2, 1) := by decide +kernel
theorem d_Ke_access_42 : decode b_Ke_access 42 = .ok (.invokevirtual 228, 3) := by decide +kernel
theorem d_Ke_access_45 : decode b_Ke_access 45 = .ok (.istore 7, 2) := by decide +kernel
theorem d_Ke_access_47 : decode b_Ke_access 47 = .ok (.aload_n 0, 1) := by decide +kernel
theorem d_Ke_access_48 : decode b_Ke_access 48 = .ok (.iload_n 1, 1) := by decide +kernel
theorem d_Ke_access_49 : decode b_Ke_access 49 = .ok (.iload 7, 2) := by decide +kernel
theorem d_Ke_access_51 : decode b_Ke_access 51 = .ok (.aload_n 0, 1) := by decide +kernel
theorem d_Ke_access_52 : decode b_Ke_access 52 = .ok (.getfield 33, 3) := by decide +kernel
theorem d_Ke_access_55 : decode b_Ke_access 55 = .ok (.iload_n 2, 1) := by decide +kernel
theorem d_Ke_access_56 : decode b_Ke_access 56 = .ok (.invokevirtual 231, 3) := by decide +kernel
theorem d_Ke_access_59 : decode b_Ke_access 59 = .ok (.iload_n 3, 1) := by decide +kernel
theorem d_Ke_access_60 : decode b_Ke_access 60 = .ok (.invokevirtual 234, 3) := by decide +kernel
theorem d_Ke_access_63 : decode b_Ke_access 63 = .ok (.istore 8, 2) := by decide +kernel
theorem d_Ke_access_65 : decode b_Ke_access 65 = .ok (.iload 8, 2) := by decide +kernel
theorem d_Ke_access_67 : decode b_Ke_access 67 = .ok (.ifCond .eq 7, 3) := by decide +kernel
theorem d_Ke_access_70 : decode b_Ke_access 70 = .ok (.iconst 1, 1) := by decide +kernel
theorem d_Ke_access_71 : decode b_Ke_access 71 = .ok (.goto 4, 3) := by decide +kernel
theorem d_Ke_access_74 : decode b_Ke_access 74 = .ok (.iconst 0, 1) := by decide +kernel
theorem d_Ke_access_75 : decode b_Ke_access 75 = .ok (.invokestatic 169, 3) := by decide +kernel
theorem d_Ke_access_78 : decode b_Ke_access 78 = .ok (.iload 5, 2) := by decide +kernel
theorem d_Ke_access_80 : decode b_Ke_access 80 = .ok (.ifCond .eq 19, 3) := by decide +kernel
theorem d_Ke_access_83 : decode b_Ke_access 83 = .ok (.aload_n 0, 1) := by decide +kernel
theorem d_Ke_access_84 : decode b_Ke_access 84 = .ok (.iload_n 1, 1) := by decide +kernel
theorem d_Ke_access_85 : decode b_Ke_access 85 = .ok (.iload 7, 2) := by decide +kernel
theorem d_Ke_access_87 : decode b_Ke_access 87 = .ok (.iload 8, 2) := by decide +kernel
theorem d_Ke_access_89 : decode b_Ke_access 89 = .ok (.iload 4, 2) := by decide +kernel
theorem d_Ke_access_91 : decode b_Ke_access 91 = .ok (.iload 6, 2) := by decide +kernel
theorem d_Ke_access_93 : decode b_Ke_access 93 = .ok (.invokevirtual 240, 3) := by decide +kernel
theorem d_Ke_access_96 : decode b_Ke_access 96 = .ok (.goto 14, 3) := by decide +kernel
theorem d_Ke_access_99 : decode b_Ke_access 99 = .ok (.aload_n 0, 1) := by decide +kernel
theorem d_Ke_access_100 : decode b_Ke_access 100 = .ok (.iload_n 1, 1) := by decide +kernel
theorem d_Ke_access_101 : decode b_Ke_access 101 = .ok (.iload 7, 2) := by decide +kernel
theorem d_Ke_access_103 : decode b_Ke_access 103 = .ok (.iload 8, 2) := by decide +kernel
theorem d_Ke_access_105 : decode b_Ke_access 105 = .ok (.iload 4, 2) := by decide +kernel
theorem d_Ke_access_107 : decode b_Ke_access 107 = .ok (.invokevirtual 234, 3) := by decide +kernel
theorem d_Ke_access_110 : decode b_Ke_access 110 = .ok (.ireturn, 1) := by decide +kernel
theorem d_Ke_snapshot_0 : decode b_Ke_snapshot 0 = .ok (.aload_n 0, 1) := by decide +kernel
theorem d_Ke_snapshot_1 : decode b_Ke_snapshot 1 = .ok (.getfield 16, 3) := by decide +kernel
theorem d_Ke_snapshot_4 : decode b_Ke_snapshot 4 = .ok (.aload_n 0, 1) := by decide +kernel
theorem d_Ke_snapshot_5 : decode b_Ke_snapshot 5 = .ok (.getfield 10, 3) := by decide +kernel
theorem d_Ke_snapshot_8 : decode b_Ke_snapshot 8 = .ok (.invokevirtual 243, 3) := by decide +kernel
theorem d_Ke_snapshot_11 : decode b_Ke_snapshot 11 = .ok (.aload_n 0, 1) := by decide +kernel
theorem d_Ke_snapshot_12 : decode b_Ke_snapshot 12 = .ok (.getfield 28, 3) := by decide +kernel
theorem d_Ke_snapshot_15 : decode b_Ke_snapshot 15 = .ok (.invokevirtual 247, 3) := by decide +kernel
theorem d_Ke_snapshot_18 : decode b_Ke_snapshot 18 = .ok (.ireturn, 1) := by decide +kernel
theorem d_Ke_crash_0 : decode b_Ke_crash 0 = .ok (.aload_n 0, 1) := by decide +kernel
theorem d_Ke_crash_1 : decode b_Ke_crash 1 = .ok (.getfield 10, 3) := by decide +kernel
theorem d_Ke_crash_4 : decode b_Ke_crash 4 = .ok (.aload_n 0, 1) := by decide +kernel
theorem d_Ke_crash_5 : decode b_Ke_crash 5 = .ok (.getfield 16, 3) := by decide +kernel
theorem d_Ke_crash_8 : decode b_Ke_crash 8 = .ok (.invokevirtual 243, 3) := by decide +kernel
theorem d_Ke_crash_11 : decode b_Ke_crash 11 = .ok (.aload_n 0, 1) := by decide +kernel
theorem d_Ke_crash_12 : decode b_Ke_crash 12 = .ok (.getfield 28, 3) := by decide +kernel
theorem d_Ke_crash_15 : decode b_Ke_crash 15 = .ok (.invokevirtual 247, 3) := by decide +kernel
theorem d_Ke_crash_18 : decode b_Ke_crash 18 = .ok (.ireturn, 1) := by decide +kernel
theorem d_Ke_object_0 : decode b_Ke_object 0 = .ok (.iload_n 2, 1) := by decide +kernel
theorem d_Ke_object_1 : decode b_Ke_object 1 = .ok (.iconst 0, 1) := by decide +kernel
theorem d_Ke_object_2 : decode b_Ke_object 2 = .ok (.bipush 6, 2) := by decide +kernel
theorem d_Ke_object_4 : decode b_Ke_object 4 = .ok (.invokestatic 40, 3) := by decide +kernel
theorem d_Ke_object_7 : decode b_Ke_object 7 = .ok (.invokestatic 44, 3) := by decide +kernel
theorem d_Ke_object_10 : decode b_Ke_object 10 = .ok (.aload_n 0, 1) := by decide +kernel
theorem d_Ke_object_11 : decode b_Ke_object 11 = .ok (.getfield 28, 3) := by decide +kernel
theorem d_Ke_object_14 : decode b_Ke_object 14 = .ok (.iload_n 1, 1) := by decide +kernel
theorem d_Ke_object_15 : decode b_Ke_object 15 = .ok (.invokevirtual 250, 3) := by decide +kernel
theorem d_Ke_object_18 : decode b_Ke_object 18 = .ok (.invokestatic 169, 3) := by decide +kernel
theorem d_Ke_object_21 : decode b_Ke_object 21 = .ok (.iload_n 2, 1) := by decide +kernel
theorem d_Ke_object_22 : decode b_Ke_object 22 = .ok (.tableswitch 92 0 5 #[38, 47, 56, 65, 74, 83], 38) := by decide +kernel
theorem d_Ke_object_60 : decode b_Ke_object 60 = .ok (.aload_n 0, 1) := by decide +kernel
theorem d_Ke_object_61 : decode b_Ke_object 61 = .ok (.getfield 28, 3) := by decide +kernel
theorem d_Ke_object_64 : decode b_Ke_object 64 = .ok (.iload_n 1, 1) := by decide +kernel
theorem d_Ke_object_65 : decode b_Ke_object 65 = .ok (.invokevirtual 251, 3) := by decide +kernel
theorem d_Ke_object_68 : decode b_Ke_object 68 = .ok (.ireturn, 1) := by decide +kernel
theorem d_Ke_object_69 : decode b_Ke_object 69 = .ok (.aload_n 0, 1) := by decide +kernel
theorem d_Ke_object_70 : decode b_Ke_object 70 = .ok (.getfield 28, 3) := by decide +kernel
theorem d_Ke_object_73 : decode b_Ke_object 73 = .ok (.iload_n 1, 1) := by decide +kernel
theorem d_Ke_object_74 : decode b_Ke_object 74 = .ok (.invokevirtual 85, 3) := by decide +kernel
theorem d_Ke_object_77 : decode b_Ke_object 77 = .ok (.ireturn, 1) := by decide +kernel
theorem d_Ke_object_78 : decode b_Ke_object 78 = .ok (.aload_n 0, 1) := by decide +kernel
theorem d_Ke_object_79 : decode b_Ke_object 79 = .ok (.getfield 28, 3) := by decide +kernel
theorem d_Ke_object_82 : decode b_Ke_object 82 = .ok (.iload_n 1, 1) := by decide +kernel
theorem d_Ke_object_83 : decode b_Ke_object 83 = .ok (.invokevirtual 145, 3) := by decide +kernel
theorem d_Ke_object_86 : decode b_Ke_object 86 = .ok (.ireturn, 1) := by decide +kernel
theorem d_Ke_object_87 : decode b_Ke_object 87 = .ok (.aload_n 0, 1) := by decide +kernel
theorem d_Ke_object_88 : decode b_Ke_object 88 = .ok (.getfield 28, 3) := by decide +kernel
theorem d_Ke_object_91 : decode b_Ke_object 91 = .ok (.iload_n 1, 1) := by decide +kernel
theorem d_Ke_object_92 : decode b_Ke_object 92 = .ok (.invokevirtual 148, 3) := by decide +kernel
theorem d_Ke_object_95 : decode b_Ke_object 95 = .ok (.ireturn, 1) := by decide +kernel
theorem d_Ke_object_96 : decode b_Ke_object 96 = .ok (.aload_n 0, 1) := by decide +kernel
theorem d_Ke_object_97 : decode b_Ke_object 97 = .ok (.getfield 28, 3) := by decide +kernel
theorem d_Ke_object_100 : decode b_Ke_object 100 = .ok (.iload_n 1, 1) := by decide +kernel
theorem d_Ke_object_101 : decode b_Ke_object 101 = .ok (.invokevirtual 254, 3) := by decide +kernel
theorem d_Ke_object_104 : decode b_Ke_object 104 = .ok (.ireturn, 1) := by decide +kernel
theorem d_Ke_object_105 : decode b_Ke_object 105 = .ok (.aload_n 0, 1) := by decide +kernel
theorem d_Ke_object_106 : decode b_Ke_object 106 = .ok (.getfield 28, 3) := by decide +kernel
theorem d_Ke_object_109 : decode b_Ke_object 109 = .ok (.iload_n 1, 1) := by decide +kernel
theorem d_Ke_object_110 : decode b_Ke_object 110 = .ok (.invokevirtual 90, 3) := by decide +kernel
theorem d_Ke_object_113 : decode b_Ke_object 113 = .ok (.ireturn, 1) := by decide +kernel
theorem d_Ke_object_114 : decode b_Ke_object 114 = .ok (.aload_n 0, 1) := by decide +kernel
theorem d_Ke_object_115 : decode b_Ke_object 115 = .ok (.getfield 28, 3) := by decide +kernel
theorem d_Ke_object_118 : decode b_Ke_object 118 = .ok (.iload_n 1, 1) := by decide +kernel
theorem d_Ke_object_119 : decode b_Ke_object 119 = .ok (.invokevirtual 257, 3) := by decide +kernel
theorem d_Ke_object_122 : decode b_Ke_object 122 = .ok (.ireturn, 1) := by decide +kernel
theorem d_Ke_in_0 : decode b_Ke_in 0 = .ok (.aload_n 0, 1) := by decide +kernel
theorem d_Ke_in_1 : decode b_Ke_in 1 = .ok (.getfield 28, 3) := by decide +kernel
theorem d_Ke_in_4 : decode b_Ke_in 4 = .ok (.iload_n 1, 1) := by decide +kernel
theorem d_Ke_in_5 : decode b_Ke_in 5 = .ok (.invokevirtual 250, 3) := by decide +kernel
theorem d_Ke_in_8 : decode b_Ke_in 8 = .ok (.invokestatic 169, 3) := by decide +kernel
theorem d_Ke_in_11 : decode b_Ke_in 11 = .ok (.aload_n 0, 1) := by decide +kernel
theorem d_Ke_in_12 : decode b_Ke_in 12 = .ok (.getfield 28, 3) := by decide +kernel
theorem d_Ke_in_15 : decode b_Ke_in 15 = .ok (.iload_n 1, 1) := by decide +kernel
theorem d_Ke_in_16 : decode b_Ke_in 16 = .ok (.iconst 0, 1) := by decide +kernel
theorem d_Ke_in_17 : decode b_Ke_in 17 = .ok (.invokevirtual 163, 3) := by decide +kernel
theorem d_Ke_in_20 : decode b_Ke_in 20 = .ok (.invokestatic 44, 3) := by decide +kernel
theorem d_Ke_in_23 : decode b_Ke_in 23 = .ok (.aload_n 0, 1) := by decide +kernel
theorem d_Ke_in_24 : decode b_Ke_in 24 = .ok (.getfield 28, 3) := by decide +kernel
theorem d_Ke_in_27 : decode b_Ke_in 27 = .ok (.iload_n 1, 1) := by decide +kernel
theorem d_Ke_in_28 : decode b_Ke_in 28 = .ok (.iload_n 2, 1) := by decide +kernel
theorem d_Ke_in_29 : decode b_Ke_in 29 = .ok (.invokevirtual 260, 3) := by decide +kernel
theorem d_Ke_in_32 : decode b_Ke_in 32 = .ok (.istore_n 3, 1) := by decide +kernel
theorem d_Ke_in_33 : decode b_Ke_in 33 = .ok (.iload_n 3, 1) := by decide +kernel
theorem d_Ke_in_34 : decode b_Ke_in 34 = .ok (.ifCond .eq 7, 3) := by decide +kernel
theorem d_Ke_in_37 : decode b_Ke_in 37 = .ok (.iconst 1, 1) := by decide +kernel
theorem d_Ke_in_38 : decode b_Ke_in 38 = .ok (.goto 4, 3) := by decide +kernel
theorem d_Ke_in_41 : decode b_Ke_in 41 = .ok (.iconst 0, 1) := by decide +kernel
theorem d_Ke_in_42 : decode b_Ke_in 42 = .ok (.invokestatic 169, 3) := by decide +kernel
theorem d_Ke_in_45 : decode b_Ke_in 45 = .ok (.iload_n 3, 1) := by decide +kernel
theorem d_Ke_in_46 : decode b_Ke_in 46 = .ok (.ireturn, 1) := by decide +kernel
theorem d_Ke_count_0 : decode b_Ke_count 0 = .ok (.iload_n 1, 1) := by decide +kernel
theorem d_Ke_count_1 : decode b_Ke_count 1 = .ok (.tableswitch 63 0 3 #[31, 39, 47, 55], 31) := by decide +kernel
theorem d_Ke_count_32 : decode b_Ke_count 32 = .ok (.aload_n 0, 1) := by decide +kernel
theorem d_Ke_count_33 : decode b_Ke_count 33 = .ok (.getfield 28, 3) := by decide +kernel
theorem d_Ke_count_36 : decode b_Ke_count 36 = .ok (.invokevirtual 247, 3) := by decide +kernel
theorem d_Ke_count_39 : decode b_Ke_count 39 = .ok (.ireturn, 1) := by decide +kernel
theorem d_Ke_count_40 : decode b_Ke_count 40 = .ok (.aload_n 0, 1) := by decide +kernel
theorem d_Ke_count_41 : decode b_Ke_count 41 = .ok (.getfield 23, 3) := by decide +kernel
theorem d_Ke_count_44 : decode b_Ke_count 44 = .ok (.invokevirtual 263, 3) := by decide +kernel
theorem d_Ke_count_47 : decode b_Ke_count 47 = .ok (.ireturn, 1) := by decide +kernel
theorem d_Ke_count_48 : decode b_Ke_count 48 = .ok (.aload_n 0, 1) := by decide +kernel
theorem d_Ke_count_49 : decode b_Ke_count 49 = .ok (.getfield 10, 3) := by decide +kernel
theorem d_Ke_count_52 : decode b_Ke_count 52 = .ok (.getfield 81, 3) := by decide +kernel
theorem d_Ke_count_55 : decode b_Ke_count 55 = .ok (.ireturn, 1) := by decide +kernel
theorem d_Ke_count_56 : decode b_Ke_count 56 = .ok (.aload_n 0, 1) := by decide +kernel
theorem d_Ke_count_57 : decode b_Ke_count 57 = .ok (.getfield 33, 3) := by decide +kernel
theorem d_Ke_count_60 : decode b_Ke_count 60 = .ok (.invokevirtual 264, 3) := by decide +kernel
theorem d_Ke_count_63 : decode b_Ke_count 63 = .ok (.ireturn, 1) := by decide +kernel
theorem d_Ke_count_64 : decode b_Ke_count 64 = .ok (.iconst (-1), 1) := by decide +kernel
theorem d_Ke_count_65 : decode b_Ke_count 65 = .ok (.ireturn, 1) := by decide +kernel
theorem d_Ke_maySee_0 : decode b_Ke_maySee 0 = .ok (.aload_n 0, 1) := by decide +kernel
theorem d_Ke_maySee_1 : decode b_Ke_maySee 1 = .ok (.getfield 23, 3) := by decide +kernel
theorem d_Ke_maySee_4 : decode b_Ke_maySee 4 = .ok (.aload_n 0, 1) := by decide +kernel
theorem d_Ke_maySee_5 : decode b_Ke_maySee 5 = .ok (.getfield 28, 3) := by decide +kernel
theorem d_Ke_maySee_8 : decode b_Ke_maySee 8 = .ok (.iload_n 2, 1) := by decide +kernel
theorem d_Ke_maySee_9 : decode b_Ke_maySee 9 = .ok (.invokevirtual 85, 3) := by decide +kernel
theorem d_Ke_maySee_12 : decode b_Ke_maySee 12 = .ok (.aload_n 0, 1) := by decide +kernel
theorem d_Ke_maySee_13 : decode b_Ke_maySee 13 = .ok (.getfield 28, 3) := by decide +kernel
theorem d_Ke_maySee_16 : decode b_Ke_maySee 16 = .ok (.iload_n 1, 1) := by decide +kernel
theorem d_Ke_maySee_17 : decode b_Ke_maySee 17 = .ok (.invokevirtual 85, 3) := by decide +kernel
theorem d_Ke_maySee_20 : decode b_Ke_maySee 20 = .ok (.invokevirtual 70, 3) := by decide +kernel
theorem d_Ke_maySee_23 : decode b_Ke_maySee 23 = .ok (.ireturn, 1) := by decide +kernel
theorem d_Ke_mayChange_0 : decode b_Ke_mayChange 0 = .ok (.aload_n 0, 1) := by decide +kernel
theorem d_Ke_mayChange_1 : decode b_Ke_mayChange 1 = .ok (.iload_n 1, 1) := by decide +kernel
theorem d_Ke_mayChange_2 : decode b_Ke_mayChange 2 = .ok (.iload_n 2, 1) := by decide +kernel
theorem d_Ke_mayChange_3 : decode b_Ke_mayChange 3 = .ok (.invokevirtual 130, 3) := by decide +kernel
theorem d_Ke_mayChange_6 : decode b_Ke_mayChange 6 = .ok (.ifCond .eq 33, 3) := by decide +kernel
theorem d_Ke_mayChange_9 : decode b_Ke_mayChange 9 = .ok (.aload_n 0, 1) := by decide +kernel
theorem d_Ke_mayChange_10 : decode b_Ke_mayChange 10 = .ok (.getfield 23, 3) := by decide +kernel
theorem d_Ke_mayChange_13 : decode b_Ke_mayChange 13 = .ok (.aload_n 0, 1) := by decide +kernel
theorem d_Ke_mayChange_14 : decode b_Ke_mayChange 14 = .ok (.getfield 28, 3) := by decide +kernel
theorem d_Ke_mayChange_17 : decode b_Ke_mayChange 17 = .ok (.iload_n 1, 1) := by decide +kernel
theorem d_Ke_mayChange_18 : decode b_Ke_mayChange 18 = .ok (.invokevirtual 85, 3) := by decide +kernel
theorem d_Ke_mayChange_21 : decode b_Ke_mayChange 21 = .ok (.aload_n 0, 1) := by decide +kernel
theorem d_Ke_mayChange_22 : decode b_Ke_mayChange 22 = .ok (.getfield 28, 3) := by decide +kernel
theorem d_Ke_mayChange_25 : decode b_Ke_mayChange 25 = .ok (.iload_n 2, 1) := by decide +kernel
theorem d_Ke_mayChange_26 : decode b_Ke_mayChange 26 = .ok (.invokevirtual 85, 3) := by decide +kernel
theorem d_Ke_mayChange_29 : decode b_Ke_mayChange 29 = .ok (.invokevirtual 74, 3) := by decide +kernel
theorem d_Ke_mayChange_32 : decode b_Ke_mayChange 32 = .ok (.ifCond .eq 7, 3) := by decide +kernel
theorem d_Ke_mayChange_35 : decode b_Ke_mayChange 35 = .ok (.iconst 1, 1) := by decide +kernel
theorem d_Ke_mayChange_36 : decode b_Ke_mayChange 36 = .ok (.goto 4, 3) := by decide +kernel
theorem d_Ke_mayChange_39 : decode b_Ke_mayChange 39 = .ok (.iconst 0, 1) := by decide +kernel
theorem d_Ke_mayChange_40 : decode b_Ke_mayChange 40 = .ok (.ireturn, 1) := by decide +kernel
theorem d_Ke_mayBear_0 : decode b_Ke_mayBear 0 = .ok (.aload_n 0, 1) := by decide +kernel
theorem d_Ke_mayBear_1 : decode b_Ke_mayBear 1 = .ok (.getfield 28, 3) := by decide +kernel
theorem d_Ke_mayBear_4 : decode b_Ke_mayBear 4 = .ok (.iload_n 1, 1) := by decide +kernel
theorem d_Ke_mayBear_5 : decode b_Ke_mayBear 5 = .ok (.invokevirtual 85, 3) := by decide +kernel
theorem d_Ke_mayBear_8 : decode b_Ke_mayBear 8 = .ok (.istore_n 3, 1) := by decide +kernel
theorem d_Ke_mayBear_9 : decode b_Ke_mayBear 9 = .ok (.aload_n 0, 1) := by decide +kernel
theorem d_Ke_mayBear_10 : decode b_Ke_mayBear 10 = .ok (.getfield 23, 3) := by decide +kernel
theorem d_Ke_mayBear_13 : decode b_Ke_mayBear 13 = .ok (.iload_n 3, 1) := by decide +kernel
theorem d_Ke_mayBear_14 : decode b_Ke_mayBear 14 = .ok (.iload_n 2, 1) := by decide +kernel
theorem d_Ke_mayBear_15 : decode b_Ke_mayBear 15 = .ok (.invokevirtual 74, 3) := by decide +kernel
theorem d_Ke_mayBear_18 : decode b_Ke_mayBear 18 = .ok (.ifCond .eq 38, 3) := by decide +kernel
theorem d_Ke_mayBear_21 : decode b_Ke_mayBear 21 = .ok (.aload_n 0, 1) := by decide +kernel
theorem d_Ke_mayBear_22 : decode b_Ke_mayBear 22 = .ok (.getfield 23, 3) := by decide +kernel
theorem d_Ke_mayBear_25 : decode b_Ke_mayBear 25 = .ok (.iload_n 2, 1) := by decide +kernel
theorem d_Ke_mayBear_26 : decode b_Ke_mayBear 26 = .ok (.aload_n 0, 1) := by decide +kernel
theorem d_Ke_mayBear_27 : decode b_Ke_mayBear 27 = .ok (.getfield 28, 3) := by decide +kernel
theorem d_Ke_mayBear_30 : decode b_Ke_mayBear 30 = .ok (.iload_n 1, 1) := by decide +kernel
theorem d_Ke_mayBear_31 : decode b_Ke_mayBear 31 = .ok (.invokevirtual 90, 3) := by decide +kernel
theorem d_Ke_mayBear_34 : decode b_Ke_mayBear 34 = .ok (.invokevirtual 74, 3) := by decide +kernel
theorem d_Ke_mayBear_37 : decode b_Ke_mayBear 37 = .ok (.ifCond .eq 19, 3) := by decide +kernel
theorem d_Ke_mayBear_40 : decode b_Ke_mayBear 40 = .ok (.aload_n 0, 1) := by decide +kernel
theorem d_Ke_mayBear_41 : decode b_Ke_mayBear 41 = .ok (.getfield 23, 3) := by decide +kernel
theorem d_Ke_mayBear_44 : decode b_Ke_mayBear 44 = .ok (.iload_n 2, 1) := by decide +kernel
theorem d_Ke_mayBear_45 : decode b_Ke_mayBear 45 = .ok (.iload_n 3, 1) := by decide +kernel
theorem d_Ke_mayBear_46 : decode b_Ke_mayBear 46 = .ok (.invokevirtual 265, 3) := by decide +kernel
theorem d_Ke_mayBear_49 : decode b_Ke_mayBear 49 = .ok (.ifCond .eq 7, 3) := by decide +kernel
theorem d_Ke_mayBear_52 : decode b_Ke_mayBear 52 = .ok (.iconst 1, 1) := by decide +kernel
theorem d_Ke_mayBear_53 : decode b_Ke_mayBear 53 = .ok (.goto 4, 3) := by decide +kernel
theorem d_Ke_mayBear_56 : decode b_Ke_mayBear 56 = .ok (.iconst 0, 1) := by decide +kernel
theorem d_Ke_mayBear_57 : decode b_Ke_mayBear 57 = .ok (.ireturn, 1) := by decide +kernel
theorem d_Ke_isBetween_0 : decode b_Ke_isBetween 0 = .ok (.iload_n 0, 1) := by decide +kernel
theorem d_Ke_isBetween_1 : decode b_Ke_isBetween 1 = .ok (.iload_n 1, 1) := by decide +kernel
theorem d_Ke_isBetween_2 : decode b_Ke_isBetween 2 = .ok (.if_icmp .lt 12, 3) := by decide +kernel
theorem d_Ke_isBetween_5 : decode b_Ke_isBetween 5 = .ok (.iload_n 0, 1) := by decide +kernel
theorem d_Ke_isBetween_6 : decode b_Ke_isBetween 6 = .ok (.iload_n 2, 1) := by decide +kernel
theorem d_Ke_isBetween_7 : decode b_Ke_isBetween 7 = .ok (.if_icmp .gt 7, 3) := by decide +kernel
theorem d_Ke_isBetween_10 : decode b_Ke_isBetween 10 = .ok (.iconst 1, 1) := by decide +kernel
theorem d_Ke_isBetween_11 : decode b_Ke_isBetween 11 = .ok (.goto 4, 3) := by decide +kernel
theorem d_Ke_isBetween_14 : decode b_Ke_isBetween 14 = .ok (.iconst 0, 1) := by decide +kernel
theorem d_Ke_isBetween_15 : decode b_Ke_isBetween 15 = .ok (.ireturn, 1) := by decide +kernel
theorem d_Ke_needNumber_0 : decode b_Ke_needNumber 0 = .ok (.iload_n 0, 1) := by decide +kernel
theorem d_Ke_needNumber_1 : decode b_Ke_needNumber 1 = .ok (.ifCond .ne 11, 3) := by decide +kernel
theorem d_Ke_needNumber_4 : decode b_Ke_needNumber 4 = .ok (.new 268, 3) := by decide +kernel
theorem d_Ke_needNumber_7 : decode b_Ke_needNumber 7 = .ok (.dup, 1) := by decide +kernel
theorem d_Ke_needNumber_8 : decode b_Ke_needNumber 8 = .ok (.invokespecial 270, 3) := by decide +kernel
theorem d_Ke_needNumber_11 : decode b_Ke_needNumber 11 = .ok (.athrow, 1) := by decide +kernel
theorem d_Ke_needNumber_12 : decode b_Ke_needNumber 12 = .ok (.return_, 1) := by decide +kernel
theorem d_Ke_needFound_0 : decode b_Ke_needFound 0 = .ok (.iload_n 0, 1) := by decide +kernel
theorem d_Ke_needFound_1 : decode b_Ke_needFound 1 = .ok (.ifCond .ne 11, 3) := by decide +kernel
theorem d_Ke_needFound_4 : decode b_Ke_needFound 4 = .ok (.new 271, 3) := by decide +kernel
theorem d_Ke_needFound_7 : decode b_Ke_needFound 7 = .ok (.dup, 1) := by decide +kernel
theorem d_Ke_needFound_8 : decode b_Ke_needFound 8 = .ok (.invokespecial 273, 3) := by decide +kernel
theorem d_Ke_needFound_11 : decode b_Ke_needFound 11 = .ok (.athrow, 1) := by decide +kernel
theorem d_Ke_needFound_12 : decode b_Ke_needFound 12 = .ok (.return_, 1) := by decide +kernel
theorem d_Ke_needAllowed_0 : decode b_Ke_needAllowed 0 = .ok (.iload_n 0, 1) := by decide +kernel
theorem d_Ke_needAllowed_1 : decode b_Ke_needAllowed 1 = .ok (.ifCond .ne 11, 3) := by decide +kernel
theorem d_Ke_needAllowed_4 : decode b_Ke_needAllowed 4 = .ok (.new 274, 3) := by decide +kernel
theorem d_Ke_needAllowed_7 : decode b_Ke_needAllowed 7 = .ok (.dup, 1) := by decide +kernel
theorem d_Ke_needAllowed_8 : decode b_Ke_needAllowed 8 = .ok (.invokespecial 276, 3) := by decide +kernel
theorem d_Ke_needAllowed_11 : decode b_Ke_needAllowed 11 = .ok (.athrow, 1) := by decide +kernel
theorem d_Ke_needAllowed_12 : decode b_Ke_needAllowed 12 = .ok (.return_, 1) := by decide +kernel
theorem d_Ke_needRoom_0 : decode b_Ke_needRoom 0 = .ok (.iload_n 0, 1) := by decide +kernel
theorem d_Ke_needRoom_1 : decode b_Ke_needRoom 1 = .ok (.ifCond .ne 11, 3) := by decide +kernel
theorem d_Ke_needRoom_4 : decode b_Ke_needRoom 4 = .ok (.new 277, 3) := by decide +kernel
theorem d_Ke_needRoom_7 : decode b_Ke_needRoom 7 = .ok (.dup, 1) := by decide +kernel
theorem d_Ke_needRoom_8 : decode b_Ke_needRoom 8 = .ok (.invokespecial 279, 3) := by decide +kernel
theorem d_Ke_needRoom_11 : decode b_Ke_needRoom 11 = .ok (.athrow, 1) := by decide +kernel
theorem d_Ke_needRoom_12 : decode b_Ke_needRoom 12 = .ok (.return_, 1) := by decide +kernel
theorem d_Ke_needThread_0 : decode b_Ke_needThread 0 = .ok (.aload_n 0, 1) := by decide +kernel
theorem d_Ke_needThread_1 : decode b_Ke_needThread 1 = .ok (.getfield 28, 3) := by decide +kernel
theorem d_Ke_needThread_4 : decode b_Ke_needThread 4 = .ok (.iload_n 1, 1) := by decide +kernel
theorem d_Ke_needThread_5 : decode b_Ke_needThread 5 = .ok (.invokevirtual 250, 3) := by decide +kernel
theorem d_Ke_needThread_8 : decode b_Ke_needThread 8 = .ok (.invokestatic 169, 3) := by decide +kernel
theorem d_Ke_needThread_11 : decode b_Ke_needThread 11 = .ok (.aload_n 0, 1) := by decide +kernel
theorem d_Ke_needThread_12 : decode b_Ke_needThread 12 = .ok (.getfield 28, 3) := by decide +kernel
theorem d_Ke_needThread_15 : decode b_Ke_needThread 15 = .ok (.iload_n 1, 1) := by decide +kernel
theorem d_Ke_needThread_16 : decode b_Ke_needThread 16 = .ok (.iconst 3, 1) := by decide +kernel
theorem d_Ke_needThread_17 : decode b_Ke_needThread 17 = .ok (.invokevirtual 163, 3) := by decide +kernel
theorem d_Ke_needThread_20 : decode b_Ke_needThread 20 = .ok (.invokestatic 44, 3) := by decide +kernel
theorem d_Ke_needThread_23 : decode b_Ke_needThread 23 = .ok (.return_, 1) := by decide +kernel
theorem d_Ke_needThreadAndContainer_0 : decode b_Ke_needThreadAndContainer 0 = .ok (.aload_n 0, 1) := by decide +kernel
theorem d_Ke_needThreadAndContainer_1 : decode b_Ke_needThreadAndContainer 1 = .ok (.getfield 28, 3) := by decide +kernel
theorem d_Ke_needThreadAndContainer_4 : decode b_Ke_needThreadAndContainer 4 = .ok (.iload_n 1, 1) := by decide +kernel
theorem d_Ke_needThreadAndContainer_5 : decode b_Ke_needThreadAndContainer 5 = .ok (.invokevirtual 250, 3) := by decide +kernel
theorem d_Ke_needThreadAndContainer_8 : decode b_Ke_needThreadAndContainer 8 = .ok (.ifCond .eq 18, 3) := by decide +kernel
theorem d_Ke_needThreadAndContainer_11 : decode b_Ke_needThreadAndContainer 11 = .ok (.aload_n 0, 1) := by decide +kernel
theorem d_Ke_needThreadAndContainer_12 : decode b_Ke_needThreadAndContainer 12 = .ok (.getfield 28, 3) := by decide +kernel
theorem d_Ke_needThreadAndContainer_15 : decode b_Ke_needThreadAndContainer 15 = .ok (.iload_n 2, 1) := by decide +kernel
theorem d_Ke_needThreadAndContainer_16 : decode b_Ke_needThreadAndContainer 16 = .ok (.invokevirtual 250, 3) := by decide +kernel
theorem d_Ke_needThreadAndContainer_19 : decode b_Ke_needThreadAndContainer 19 = .ok (.ifCond .eq 7, 3) := by decide +kernel
theorem d_Ke_needThreadAndContainer_22 : decode b_Ke_needThreadAndContainer 22 = .ok (.iconst 1, 1) := by decide +kernel
theorem d_Ke_needThreadAndContainer_23 : decode b_Ke_needThreadAndContainer 23 = .ok (.goto 4, 3) := by decide +kernel
theorem d_Ke_needThreadAndContainer_26 : decode b_Ke_needThreadAndContainer 26 = .ok (.iconst 0, 1) := by decide +kernel
theorem d_Ke_needThreadAndContainer_27 : decode b_Ke_needThreadAndContainer 27 = .ok (.invokestatic 169, 3) := by decide +kernel
theorem d_Ke_needThreadAndContainer_30 : decode b_Ke_needThreadAndContainer 30 = .ok (.aload_n 0, 1) := by decide +kernel
theorem d_Ke_needThreadAndContainer_31 : decode b_Ke_needThreadAndContainer 31 = .ok (.getfield 28, 3) := by decide +kernel
theorem d_Ke_needThreadAndContainer_34 : decode b_Ke_needThreadAndContainer 34 = .ok (.iload_n 1, 1) := by decide +kernel
theorem d_Ke_needThreadAndContainer_35 : decode b_Ke_needThreadAndContainer 35 = .ok (.iconst 3, 1) := by decide +kernel
theorem d_Ke_needThreadAndContainer_36 : decode b_Ke_needThreadAndContainer 36 = .ok (.invokevirtual 163, 3) := by decide +kernel
theorem d_Ke_needThreadAndContainer_39 : decode b_Ke_needThreadAndContainer 39 = .ok (.ifCond .eq 19, 3) := by decide +kernel
theorem d_Ke_needThreadAndContainer_42 : decode b_Ke_needThreadAndContainer 42 = .ok (.aload_n 0, 1) := by decide +kernel
theorem d_Ke_needThreadAndContainer_43 : decode b_Ke_needThreadAndContainer 43 = .ok (.getfield 28, 3) := by decide +kernel
theorem d_Ke_needThreadAndContainer_46 : decode b_Ke_needThreadAndContainer 46 = .ok (.iload_n 2, 1) := by decide +kernel
theorem d_Ke_needThreadAndContainer_47 : decode b_Ke_needThreadAndContainer 47 = .ok (.iconst 0, 1) := by decide +kernel
theorem d_Ke_needThreadAndContainer_48 : decode b_Ke_needThreadAndContainer 48 = .ok (.invokevirtual 163, 3) := by decide +kernel
theorem d_Ke_needThreadAndContainer_51 : decode b_Ke_needThreadAndContainer 51 = .ok (.ifCond .eq 7, 3) := by decide +kernel
theorem d_Ke_needThreadAndContainer_54 : decode b_Ke_needThreadAndContainer 54 = .ok (.iconst 1, 1) := by decide +kernel
theorem d_Ke_needThreadAndContainer_55 : decode b_Ke_needThreadAndContainer 55 = .ok (.goto 4, 3) := by decide +kernel
theorem d_Ke_needThreadAndContainer_58 : decode b_Ke_needThreadAndContainer 58 = .ok (.iconst 0, 1) := by decide +kernel
theorem d_Ke_needThreadAndContainer_59 : decode b_Ke_needThreadAndContainer 59 = .ok (.invokestatic 44, 3) := by decide +kernel
theorem d_Ke_needThreadAndContainer_62 : decode b_Ke_needThreadAndContainer 62 = .ok (.return_, 1) := by decide +kernel
theorem d_Ke_needThere_0 : decode b_Ke_needThere 0 = .ok (.aload_n 0, 1) := by decide +kernel
theorem d_Ke_needThere_1 : decode b_Ke_needThere 1 = .ok (.getfield 28, 3) := by decide +kernel
theorem d_Ke_needThere_4 : decode b_Ke_needThere 4 = .ok (.iload_n 1, 1) := by decide +kernel
theorem d_Ke_needThere_5 : decode b_Ke_needThere 5 = .ok (.invokevirtual 250, 3) := by decide +kernel
theorem d_Ke_needThere_8 : decode b_Ke_needThere 8 = .ok (.ifCond .eq 29, 3) := by decide +kernel
theorem d_Ke_needThere_11 : decode b_Ke_needThere 11 = .ok (.aload_n 0, 1) := by decide +kernel
theorem d_Ke_needThere_12 : decode b_Ke_needThere 12 = .ok (.getfield 28, 3) := by decide +kernel
theorem d_Ke_needThere_15 : decode b_Ke_needThere 15 = .ok (.iload_n 2, 1) := by decide +kernel
theorem d_Ke_needThere_16 : decode b_Ke_needThere 16 = .ok (.invokevirtual 250, 3) := by decide +kernel
theorem d_Ke_needThere_19 : decode b_Ke_needThere 19 = .ok (.ifCond .eq 18, 3) := by decide +kernel
theorem d_Ke_needThere_22 : decode b_Ke_needThere 22 = .ok (.aload_n 0, 1) := by decide +kernel
theorem d_Ke_needThere_23 : decode b_Ke_needThere 23 = .ok (.getfield 28, 3) := by decide +kernel
theorem d_Ke_needThere_26 : decode b_Ke_needThere 26 = .ok (.iload_n 3, 1) := by decide +kernel
theorem d_Ke_needThere_27 : decode b_Ke_needThere 27 = .ok (.invokevirtual 250, 3) := by decide +kernel
theorem d_Ke_needThere_30 : decode b_Ke_needThere 30 = .ok (.ifCond .eq 7, 3) := by decide +kernel
theorem d_Ke_needThere_33 : decode b_Ke_needThere 33 = .ok (.iconst 1, 1) := by decide +kernel
theorem d_Ke_needThere_34 : decode b_Ke_needThere 34 = .ok (.goto 4, 3) := by decide +kernel
theorem d_Ke_needThere_37 : decode b_Ke_needThere 37 = .ok (.iconst 0, 1) := by decide +kernel
theorem d_Ke_needThere_38 : decode b_Ke_needThere 38 = .ok (.invokestatic 169, 3) := by decide +kernel
theorem d_Ke_needThere_41 : decode b_Ke_needThere 41 = .ok (.return_, 1) := by decide +kernel
theorem d_Ke_needObjectIn_0 : decode b_Ke_needObjectIn 0 = .ok (.aload_n 0, 1) := by decide +kernel
theorem d_Ke_needObjectIn_1 : decode b_Ke_needObjectIn 1 = .ok (.iload_n 1, 1) := by decide +kernel
theorem d_Ke_needObjectIn_2 : decode b_Ke_needObjectIn 2 = .ok (.iload_n 2, 1) := by decide +kernel
theorem d_Ke_needObjectIn_3 : decode b_Ke_needObjectIn 3 = .ok (.iload_n 3, 1) := by decide +kernel
theorem d_Ke_needObjectIn_4 : decode b_Ke_needObjectIn 4 = .ok (.invokevirtual 160, 3) := by decide +kernel
theorem d_Ke_needObjectIn_7 : decode b_Ke_needObjectIn 7 = .ok (.aload_n 0, 1) := by decide +kernel
theorem d_Ke_needObjectIn_8 : decode b_Ke_needObjectIn 8 = .ok (.getfield 28, 3) := by decide +kernel
theorem d_Ke_needObjectIn_11 : decode b_Ke_needObjectIn 11 = .ok (.iload_n 1, 1) := by decide +kernel
theorem d_Ke_needObjectIn_12 : decode b_Ke_needObjectIn 12 = .ok (.iconst 3, 1) := by decide +kernel
theorem d_Ke_needObjectIn_13 : decode b_Ke_needObjectIn 13 = .ok (.invokevirtual 163, 3) := by decide +kernel
theorem d_Ke_needObjectIn_16 : decode b_Ke_needObjectIn 16 = .ok (.ifCond .eq 19, 3) := by decide +kernel
theorem d_Ke_needObjectIn_19 : decode b_Ke_needObjectIn 19 = .ok (.aload_n 0, 1) := by decide +kernel
theorem d_Ke_needObjectIn_20 : decode b_Ke_needObjectIn 20 = .ok (.getfield 28, 3) := by decide +kernel
theorem d_Ke_needObjectIn_23 : decode b_Ke_needObjectIn 23 = .ok (.iload_n 2, 1) := by decide +kernel
theorem d_Ke_needObjectIn_24 : decode b_Ke_needObjectIn 24 = .ok (.iconst 0, 1) := by decide +kernel
theorem d_Ke_needObjectIn_25 : decode b_Ke_needObjectIn 25 = .ok (.invokevirtual 163, 3) := by decide +kernel
theorem d_Ke_needObjectIn_28 : decode b_Ke_needObjectIn 28 = .ok (.ifCond .eq 7, 3) := by decide +kernel
theorem d_Ke_needObjectIn_31 : decode b_Ke_needObjectIn 31 = .ok (.iconst 1, 1) := by decide +kernel
theorem d_Ke_needObjectIn_32 : decode b_Ke_needObjectIn 32 = .ok (.goto 4, 3) := by decide +kernel
theorem d_Ke_needObjectIn_35 : decode b_Ke_needObjectIn 35 = .ok (.iconst 0, 1) := by decide +kernel
theorem d_Ke_needObjectIn_36 : decode b_Ke_needObjectIn 36 = .ok (.invokestatic 44, 3) := by decide +kernel
theorem d_Ke_needObjectIn_39 : decode b_Ke_needObjectIn 39 = .ok (.aload_n 0, 1) := by decide +kernel
theorem d_Ke_needObjectIn_40 : decode b_Ke_needObjectIn 40 = .ok (.getfield 28, 3) := by decide +kernel
theorem d_Ke_needObjectIn_43 : decode b_Ke_needObjectIn 43 = .ok (.iload_n 3, 1) := by decide +kernel
theorem d_Ke_needObjectIn_44 : decode b_Ke_needObjectIn 44 = .ok (.iload_n 2, 1) := by decide +kernel
theorem d_Ke_needObjectIn_45 : decode b_Ke_needObjectIn 45 = .ok (.invokevirtual 166, 3) := by decide +kernel
theorem d_Ke_needObjectIn_48 : decode b_Ke_needObjectIn 48 = .ok (.invokestatic 169, 3) := by decide +kernel
theorem d_Ke_needObjectIn_51 : decode b_Ke_needObjectIn 51 = .ok (.return_, 1) := by decide +kernel
theorem d_Ke_needCell_0 : decode b_Ke_needCell 0 = .ok (.iload 4, 2) := by decide +kernel
theorem d_Ke_needCell_2 : decode b_Ke_needCell 2 = .ok (.iconst 0, 1) := by decide +kernel
theorem d_Ke_needCell_3 : decode b_Ke_needCell 3 = .ok (.bipush 7, 2) := by decide +kernel
theorem d_Ke_needCell_5 : decode b_Ke_needCell 5 = .ok (.invokestatic 40, 3) := by decide +kernel
theorem d_Ke_needCell_8 : decode b_Ke_needCell 8 = .ok (.invokestatic 44, 3) := by decide +kernel
theorem d_Ke_needCell_11 : decode b_Ke_needCell 11 = .ok (.aload_n 0, 1) := by decide +kernel
theorem d_Ke_needCell_12 : decode b_Ke_needCell 12 = .ok (.iload_n 1, 1) := by decide +kernel
theorem d_Ke_needCell_13 : decode b_Ke_needCell 13 = .ok (.iload_n 2, 1) := by decide +kernel
theorem d_Ke_needCell_14 : decode b_Ke_needCell 14 = .ok (.iload_n 3, 1) := by decide +kernel
theorem d_Ke_needCell_15 : decode b_Ke_needCell 15 = .ok (.invokevirtual 160, 3) := by decide +kernel
theorem d_Ke_needCell_18 : decode b_Ke_needCell 18 = .ok (.aload_n 0, 1) := by decide +kernel
theorem d_Ke_needCell_19 : decode b_Ke_needCell 19 = .ok (.getfield 28, 3) := by decide +kernel
theorem d_Ke_needCell_22 : decode b_Ke_needCell 22 = .ok (.iload_n 1, 1) := by decide +kernel
theorem d_Ke_needCell_23 : decode b_Ke_needCell 23 = .ok (.iconst 3, 1) := by decide +kernel
theorem d_Ke_needCell_24 : decode b_Ke_needCell 24 = .ok (.invokevirtual 163, 3) := by decide +kernel
theorem d_Ke_needCell_27 : decode b_Ke_needCell 27 = .ok (.ifCond .eq 31, 3) := by decide +kernel
theorem d_Ke_needCell_30 : decode b_Ke_needCell 30 = .ok (.aload_n 0, 1) := by decide +kernel
theorem d_Ke_needCell_31 : decode b_Ke_needCell 31 = .ok (.getfield 28, 3) := by decide +kernel
theorem d_Ke_needCell_34 : decode b_Ke_needCell 34 = .ok (.iload_n 2, 1) := by decide +kernel
theorem d_Ke_needCell_35 : decode b_Ke_needCell 35 = .ok (.iconst 0, 1) := by decide +kernel
theorem d_Ke_needCell_36 : decode b_Ke_needCell 36 = .ok (.invokevirtual 163, 3) := by decide +kernel
theorem d_Ke_needCell_39 : decode b_Ke_needCell 39 = .ok (.ifCond .eq 19, 3) := by decide +kernel
theorem d_Ke_needCell_42 : decode b_Ke_needCell 42 = .ok (.aload_n 0, 1) := by decide +kernel
theorem d_Ke_needCell_43 : decode b_Ke_needCell 43 = .ok (.getfield 28, 3) := by decide +kernel
theorem d_Ke_needCell_46 : decode b_Ke_needCell 46 = .ok (.iload_n 3, 1) := by decide +kernel
theorem d_Ke_needCell_47 : decode b_Ke_needCell 47 = .ok (.iconst 1, 1) := by decide +kernel
theorem d_Ke_needCell_48 : decode b_Ke_needCell 48 = .ok (.invokevirtual 163, 3) := by decide +kernel
theorem d_Ke_needCell_51 : decode b_Ke_needCell 51 = .ok (.ifCond .eq 7, 3) := by decide +kernel
theorem d_Ke_needCell_54 : decode b_Ke_needCell 54 = .ok (.iconst 1, 1) := by decide +kernel
theorem d_Ke_needCell_55 : decode b_Ke_needCell 55 = .ok (.goto 4, 3) := by decide +kernel
theorem d_Ke_needCell_58 : decode b_Ke_needCell 58 = .ok (.iconst 0, 1) := by decide +kernel
theorem d_Ke_needCell_59 : decode b_Ke_needCell 59 = .ok (.invokestatic 44, 3) := by decide +kernel
theorem d_Ke_needCell_62 : decode b_Ke_needCell 62 = .ok (.aload_n 0, 1) := by decide +kernel
theorem d_Ke_needCell_63 : decode b_Ke_needCell 63 = .ok (.getfield 28, 3) := by decide +kernel
theorem d_Ke_needCell_66 : decode b_Ke_needCell 66 = .ok (.iload_n 3, 1) := by decide +kernel
theorem d_Ke_needCell_67 : decode b_Ke_needCell 67 = .ok (.iload_n 2, 1) := by decide +kernel
theorem d_Ke_needCell_68 : decode b_Ke_needCell 68 = .ok (.invokevirtual 166, 3) := by decide +kernel
theorem d_Ke_needCell_71 : decode b_Ke_needCell 71 = .ok (.ifCond .eq 20, 3) := by decide +kernel
theorem d_Ke_needCell_74 : decode b_Ke_needCell 74 = .ok (.iload 4, 2) := by decide +kernel
theorem d_Ke_needCell_76 : decode b_Ke_needCell 76 = .ok (.aload_n 0, 1) := by decide +kernel
theorem d_Ke_needCell_77 : decode b_Ke_needCell 77 = .ok (.getfield 28, 3) := by decide +kernel
theorem d_Ke_needCell_80 : decode b_Ke_needCell 80 = .ok (.iload_n 3, 1) := by decide +kernel
theorem d_Ke_needCell_81 : decode b_Ke_needCell 81 = .ok (.invokevirtual 257, 3) := by decide +kernel
theorem d_Ke_needCell_84 : decode b_Ke_needCell 84 = .ok (.if_icmp .ge 7, 3) := by decide +kernel
theorem d_Ke_needCell_87 : decode b_Ke_needCell 87 = .ok (.iconst 1, 1) := by decide +kernel
theorem d_Ke_needCell_88 : decode b_Ke_needCell 88 = .ok (.goto 4, 3) := by decide +kernel
theorem d_Ke_needCell_91 : decode b_Ke_needCell 91 = .ok (.iconst 0, 1) := by decide +kernel
theorem d_Ke_needCell_92 : decode b_Ke_needCell 92 = .ok (.invokestatic 169, 3) := by decide +kernel
theorem d_Ke_needCell_95 : decode b_Ke_needCell 95 = .ok (.return_, 1) := by decide +kernel
theorem d_Ke_needMayMake_0 : decode b_Ke_needMayMake 0 = .ok (.aload_n 0, 1) := by decide +kernel
theorem d_Ke_needMayMake_1 : decode b_Ke_needMayMake 1 = .ok (.iload_n 1, 1) := by decide +kernel
theorem d_Ke_needMayMake_2 : decode b_Ke_needMayMake 2 = .ok (.iload_n 2, 1) := by decide +kernel
theorem d_Ke_needMayMake_3 : decode b_Ke_needMayMake 3 = .ok (.invokevirtual 136, 3) := by decide +kernel
theorem d_Ke_needMayMake_6 : decode b_Ke_needMayMake 6 = .ok (.ifCond .eq 16, 3) := by decide +kernel
theorem d_Ke_needMayMake_9 : decode b_Ke_needMayMake 9 = .ok (.aload_n 0, 1) := by decide +kernel
theorem d_Ke_needMayMake_10 : decode b_Ke_needMayMake 10 = .ok (.iload_n 1, 1) := by decide +kernel
theorem d_Ke_needMayMake_11 : decode b_Ke_needMayMake 11 = .ok (.iload_n 3, 1) := by decide +kernel
theorem d_Ke_needMayMake_12 : decode b_Ke_needMayMake 12 = .ok (.invokevirtual 157, 3) := by decide +kernel
theorem d_Ke_needMayMake_15 : decode b_Ke_needMayMake 15 = .ok (.ifCond .eq 7, 3) := by decide +kernel
theorem d_Ke_needMayMake_18 : decode b_Ke_needMayMake 18 = .ok (.iconst 1, 1) := by decide +kernel
theorem d_Ke_needMayMake_19 : decode b_Ke_needMayMake 19 = .ok (.goto 4, 3) := by decide +kernel
theorem d_Ke_needMayMake_22 : decode b_Ke_needMayMake 22 = .ok (.iconst 0, 1) := by decide +kernel
theorem d_Ke_needMayMake_23 : decode b_Ke_needMayMake 23 = .ok (.invokestatic 123, 3) := by decide +kernel
theorem d_Ke_needMayMake_26 : decode b_Ke_needMayMake 26 = .ok (.return_, 1) := by decide +kernel
theorem d_Ke_needRoomIn_0 : decode b_Ke_needRoomIn 0 = .ok (.aload_n 0, 1) := by decide +kernel
theorem d_Ke_needRoomIn_1 : decode b_Ke_needRoomIn 1 = .ok (.getfield 28, 3) := by decide +kernel
theorem d_Ke_needRoomIn_4 : decode b_Ke_needRoomIn 4 = .ok (.iload_n 1, 1) := by decide +kernel
theorem d_Ke_needRoomIn_5 : decode b_Ke_needRoomIn 5 = .ok (.invokevirtual 145, 3) := by decide +kernel
theorem d_Ke_needRoomIn_8 : decode b_Ke_needRoomIn 8 = .ok (.aload_n 0, 1) := by decide +kernel
theorem d_Ke_needRoomIn_9 : decode b_Ke_needRoomIn 9 = .ok (.getfield 28, 3) := by decide +kernel
theorem d_Ke_needRoomIn_12 : decode b_Ke_needRoomIn 12 = .ok (.iload_n 1, 1) := by decide +kernel
theorem d_Ke_needRoomIn_13 : decode b_Ke_needRoomIn 13 = .ok (.invokevirtual 148, 3) := by decide +kernel
theorem d_Ke_needRoomIn_16 : decode b_Ke_needRoomIn 16 = .ok (.iload_n 2, 1) := by decide +kernel
theorem d_Ke_needRoomIn_17 : decode b_Ke_needRoomIn 17 = .ok (.iadd, 1) := by decide +kernel
theorem d_Ke_needRoomIn_18 : decode b_Ke_needRoomIn 18 = .ok (.if_icmp .lt 7, 3) := by decide +kernel
theorem d_Ke_needRoomIn_21 : decode b_Ke_needRoomIn 21 = .ok (.iconst 1, 1) := by decide +kernel
theorem d_Ke_needRoomIn_22 : decode b_Ke_needRoomIn 22 = .ok (.goto 4, 3) := by decide +kernel
theorem d_Ke_needRoomIn_25 : decode b_Ke_needRoomIn 25 = .ok (.iconst 0, 1) := by decide +kernel
theorem d_Ke_needRoomIn_26 : decode b_Ke_needRoomIn 26 = .ok (.invokestatic 60, 3) := by decide +kernel
theorem d_Ke_needRoomIn_29 : decode b_Ke_needRoomIn 29 = .ok (.aload_n 0, 1) := by decide +kernel
theorem d_Ke_needRoomIn_30 : decode b_Ke_needRoomIn 30 = .ok (.getfield 28, 3) := by decide +kernel
theorem d_Ke_needRoomIn_33 : decode b_Ke_needRoomIn 33 = .ok (.invokevirtual 280, 3) := by decide +kernel
theorem d_Ke_needRoomIn_36 : decode b_Ke_needRoomIn 36 = .ok (.ifCond .eq 20, 3) := by decide +kernel
theorem d_Ke_needRoomIn_39 : decode b_Ke_needRoomIn 39 = .ok (.aload_n 0, 1) := by decide +kernel
theorem d_Ke_needRoomIn_40 : decode b_Ke_needRoomIn 40 = .ok (.getfield 28, 3) := by decide +kernel
theorem d_Ke_needRoomIn_43 : decode b_Ke_needRoomIn 43 = .ok (.iload_n 1, 1) := by decide +kernel
theorem d_Ke_needRoomIn_44 : decode b_Ke_needRoomIn 44 = .ok (.invokevirtual 284, 3) := by decide +kernel
theorem d_Ke_needRoomIn_47 : decode b_Ke_needRoomIn 47 = .ok (.bipush 12, 2) := by decide +kernel
theorem d_Ke_needRoomIn_49 : decode b_Ke_needRoomIn 49 = .ok (.if_icmp .ge 7, 3) := by decide +kernel
theorem d_Ke_needRoomIn_52 : decode b_Ke_needRoomIn 52 = .ok (.iconst 1, 1) := by decide +kernel
theorem d_Ke_needRoomIn_53 : decode b_Ke_needRoomIn 53 = .ok (.goto 4, 3) := by decide +kernel
theorem d_Ke_needRoomIn_56 : decode b_Ke_needRoomIn 56 = .ok (.iconst 0, 1) := by decide +kernel
theorem d_Ke_needRoomIn_57 : decode b_Ke_needRoomIn 57 = .ok (.invokestatic 60, 3) := by decide +kernel
theorem d_Ke_needRoomIn_60 : decode b_Ke_needRoomIn 60 = .ok (.return_, 1) := by decide +kernel
