theorem d_La_label_0 : decode b_La_label 0 = .ok (.aload 4, 2) := by decide +kernel
theorem d_La_label_2 : decode b_La_label 2 = .ok (.iconst 0, 1) := by decide +kernel
theorem d_La_label_3 : decode b_La_label 3 = .ok (.aload_n 0, 1) := by decide +kernel
theorem d_La_label_4 : decode b_La_label 4 = .ok (.iload_n 1, 1) := by decide +kernel
theorem d_La_label_5 : decode b_La_label 5 = .ok (.iload_n 2, 1) := by decide +kernel
theorem d_La_label_6 : decode b_La_label 6 = .ok (.iload_n 3, 1) := by decide +kernel
theorem d_La_label_7 : decode b_La_label 7 = .ok (.invokevirtual 7, 3) := by decide +kernel
theorem d_La_label_10 : decode b_La_label 10 = .ok (.i2l, 1) := by decide +kernel
theorem d_La_label_11 : decode b_La_label 11 = .ok (.lastore, 1) := by decide +kernel
theorem d_La_label_12 : decode b_La_label 12 = .ok (.goto 19, 3) := by decide +kernel
theorem d_La_label_15 : decode b_La_label 15 = .ok (.astore 5, 2) := by decide +kernel
theorem d_La_label_17 : decode b_La_label 17 = .ok (.iconst 1, 1) := by decide +kernel
theorem d_La_label_18 : decode b_La_label 18 = .ok (.ireturn, 1) := by decide +kernel
theorem d_La_label_19 : decode b_La_label 19 = .ok (.astore 5, 2) := by decide +kernel
theorem d_La_label_21 : decode b_La_label 21 = .ok (.iconst 2, 1) := by decide +kernel
theorem d_La_label_22 : decode b_La_label 22 = .ok (.ireturn, 1) := by decide +kernel
theorem d_La_label_23 : decode b_La_label 23 = .ok (.astore 5, 2) := by decide +kernel
theorem d_La_label_25 : decode b_La_label 25 = .ok (.iconst 3, 1) := by decide +kernel
theorem d_La_label_26 : decode b_La_label 26 = .ok (.ireturn, 1) := by decide +kernel
theorem d_La_label_27 : decode b_La_label 27 = .ok (.astore 5, 2) := by decide +kernel
theorem d_La_label_29 : decode b_La_label 29 = .ok (.iconst 4, 1) := by decide +kernel
theorem d_La_label_30 : decode b_La_label 30 = .ok (.ireturn, 1) := by decide +kernel
theorem d_La_label_31 : decode b_La_label 31 = .ok (.iconst 0, 1) := by decide +kernel
theorem d_La_label_32 : decode b_La_label 32 = .ok (.ireturn, 1) := by decide +kernel
theorem d_La_level_0 : decode b_La_level 0 = .ok (.aload_n 3, 1) := by decide +kernel
theorem d_La_level_1 : decode b_La_level 1 = .ok (.iconst 0, 1) := by decide +kernel
theorem d_La_level_2 : decode b_La_level 2 = .ok (.aload_n 0, 1) := by decide +kernel
theorem d_La_level_3 : decode b_La_level 3 = .ok (.iload_n 1, 1) := by decide +kernel
theorem d_La_level_4 : decode b_La_level 4 = .ok (.iload_n 2, 1) := by decide +kernel
theorem d_La_level_5 : decode b_La_level 5 = .ok (.invokevirtual 21, 3) := by decide +kernel
theorem d_La_level_8 : decode b_La_level 8 = .ok (.i2l, 1) := by decide +kernel
theorem d_La_level_9 : decode b_La_level 9 = .ok (.lastore, 1) := by decide +kernel
theorem d_La_level_10 : decode b_La_level 10 = .ok (.goto 19, 3) := by decide +kernel
theorem d_La_level_13 : decode b_La_level 13 = .ok (.astore 4, 2) := by decide +kernel
theorem d_La_level_15 : decode b_La_level 15 = .ok (.iconst 1, 1) := by decide +kernel
theorem d_La_level_16 : decode b_La_level 16 = .ok (.ireturn, 1) := by decide +kernel
theorem d_La_level_17 : decode b_La_level 17 = .ok (.astore 4, 2) := by decide +kernel
theorem d_La_level_19 : decode b_La_level 19 = .ok (.iconst 2, 1) := by decide +kernel
theorem d_La_level_20 : decode b_La_level 20 = .ok (.ireturn, 1) := by decide +kernel
theorem d_La_level_21 : decode b_La_level 21 = .ok (.astore 4, 2) := by decide +kernel
theorem d_La_level_23 : decode b_La_level 23 = .ok (.iconst 3, 1) := by decide +kernel
theorem d_La_level_24 : decode b_La_level 24 = .ok (.ireturn, 1) := by decide +kernel
theorem d_La_level_25 : decode b_La_level 25 = .ok (.astore 4, 2) := by decide +kernel
theorem d_La_level_27 : decode b_La_level 27 = .ok (.iconst 4, 1) := by decide +kernel
theorem d_La_level_28 : decode b_La_level 28 = .ok (.ireturn, 1) := by decide +kernel
theorem d_La_level_29 : decode b_La_level 29 = .ok (.iconst 0, 1) := by decide +kernel
theorem d_La_level_30 : decode b_La_level 30 = .ok (.ireturn, 1) := by decide +kernel
theorem d_La_fits_0 : decode b_La_fits 0 = .ok (.aload 4, 2) := by decide +kernel
theorem d_La_fits_2 : decode b_La_fits 2 = .ok (.iconst 0, 1) := by decide +kernel
theorem d_La_fits_3 : decode b_La_fits 3 = .ok (.aload_n 0, 1) := by decide +kernel
theorem d_La_fits_4 : decode b_La_fits 4 = .ok (.iload_n 1, 1) := by decide +kernel
theorem d_La_fits_5 : decode b_La_fits 5 = .ok (.iload_n 2, 1) := by decide +kernel
theorem d_La_fits_6 : decode b_La_fits 6 = .ok (.iload_n 3, 1) := by decide +kernel
theorem d_La_fits_7 : decode b_La_fits 7 = .ok (.invokevirtual 25, 3) := by decide +kernel
theorem d_La_fits_10 : decode b_La_fits 10 = .ok (.ifCond .eq 7, 3) := by decide +kernel
theorem d_La_fits_13 : decode b_La_fits 13 = .ok (.lconst 1, 1) := by decide +kernel
theorem d_La_fits_14 : decode b_La_fits 14 = .ok (.goto 4, 3) := by decide +kernel
theorem d_La_fits_17 : decode b_La_fits 17 = .ok (.lconst 0, 1) := by decide +kernel
theorem d_La_fits_18 : decode b_La_fits 18 = .ok (.lastore, 1) := by decide +kernel
theorem d_La_fits_19 : decode b_La_fits 19 = .ok (.goto 19, 3) := by decide +kernel
theorem d_La_fits_22 : decode b_La_fits 22 = .ok (.astore 5, 2) := by decide +kernel
theorem d_La_fits_24 : decode b_La_fits 24 = .ok (.iconst 1, 1) := by decide +kernel
theorem d_La_fits_25 : decode b_La_fits 25 = .ok (.ireturn, 1) := by decide +kernel
theorem d_La_fits_26 : decode b_La_fits 26 = .ok (.astore 5, 2) := by decide +kernel
theorem d_La_fits_28 : decode b_La_fits 28 = .ok (.iconst 2, 1) := by decide +kernel
theorem d_La_fits_29 : decode b_La_fits 29 = .ok (.ireturn, 1) := by decide +kernel
theorem d_La_fits_30 : decode b_La_fits 30 = .ok (.astore 5, 2) := by decide +kernel
theorem d_La_fits_32 : decode b_La_fits 32 = .ok (.iconst 3, 1) := by decide +kernel
theorem d_La_fits_33 : decode b_La_fits 33 = .ok (.ireturn, 1) := by decide +kernel
theorem d_La_fits_34 : decode b_La_fits 34 = .ok (.astore 5, 2) := by decide +kernel
theorem d_La_fits_36 : decode b_La_fits 36 = .ok (.iconst 4, 1) := by decide +kernel
theorem d_La_fits_37 : decode b_La_fits 37 = .ok (.ireturn, 1) := by decide +kernel
theorem d_La_fits_38 : decode b_La_fits 38 = .ok (.iconst 0, 1) := by decide +kernel
theorem d_La_fits_39 : decode b_La_fits 39 = .ok (.ireturn, 1) := by decide +kernel
theorem d_La_category_0 : decode b_La_category 0 = .ok (.aload_n 2, 1) := by decide +kernel
theorem d_La_category_1 : decode b_La_category 1 = .ok (.iconst 0, 1) := by decide +kernel
theorem d_La_category_2 : decode b_La_category 2 = .ok (.aload_n 0, 1) := by decide +kernel
theorem d_La_category_3 : decode b_La_category 3 = .ok (.iload_n 1, 1) := by decide +kernel
theorem d_La_category_4 : decode b_La_category 4 = .ok (.invokevirtual 29, 3) := by decide +kernel
theorem d_La_category_7 : decode b_La_category 7 = .ok (.i2l, 1) := by decide +kernel
theorem d_La_category_8 : decode b_La_category 8 = .ok (.lastore, 1) := by decide +kernel
theorem d_La_category_9 : decode b_La_category 9 = .ok (.goto 15, 3) := by decide +kernel
theorem d_La_category_12 : decode b_La_category 12 = .ok (.astore_n 3, 1) := by decide +kernel
theorem d_La_category_13 : decode b_La_category 13 = .ok (.iconst 1, 1) := by decide +kernel
theorem d_La_category_14 : decode b_La_category 14 = .ok (.ireturn, 1) := by decide +kernel
theorem d_La_category_15 : decode b_La_category 15 = .ok (.astore_n 3, 1) := by decide +kernel
theorem d_La_category_16 : decode b_La_category 16 = .ok (.iconst 2, 1) := by decide +kernel
theorem d_La_category_17 : decode b_La_category 17 = .ok (.ireturn, 1) := by decide +kernel
theorem d_La_category_18 : decode b_La_category 18 = .ok (.astore_n 3, 1) := by decide +kernel
theorem d_La_category_19 : decode b_La_category 19 = .ok (.iconst 3, 1) := by decide +kernel
theorem d_La_category_20 : decode b_La_category 20 = .ok (.ireturn, 1) := by decide +kernel
theorem d_La_category_21 : decode b_La_category 21 = .ok (.astore_n 3, 1) := by decide +kernel
theorem d_La_category_22 : decode b_La_category 22 = .ok (.iconst 4, 1) := by decide +kernel
theorem d_La_category_23 : decode b_La_category 23 = .ok (.ireturn, 1) := by decide +kernel
theorem d_La_category_24 : decode b_La_category 24 = .ok (.iconst 0, 1) := by decide +kernel
theorem d_La_category_25 : decode b_La_category 25 = .ok (.ireturn, 1) := by decide +kernel
theorem d_La_container_0 : decode b_La_container 0 = .ok (.aload 5, 2) := by decide +kernel
theorem d_La_container_2 : decode b_La_container 2 = .ok (.iconst 0, 1) := by decide +kernel
theorem d_La_container_3 : decode b_La_container 3 = .ok (.aload_n 0, 1) := by decide +kernel
theorem d_La_container_4 : decode b_La_container 4 = .ok (.iload_n 1, 1) := by decide +kernel
theorem d_La_container_5 : decode b_La_container 5 = .ok (.iload_n 2, 1) := by decide +kernel
theorem d_La_container_6 : decode b_La_container 6 = .ok (.iload_n 3, 1) := by decide +kernel
theorem d_La_container_7 : decode b_La_container 7 = .ok (.iload 4, 2) := by decide +kernel
theorem d_La_container_9 : decode b_La_container 9 = .ok (.invokevirtual 33, 3) := by decide +kernel
theorem d_La_container_12 : decode b_La_container 12 = .ok (.i2l, 1) := by decide +kernel
theorem d_La_container_13 : decode b_La_container 13 = .ok (.lastore, 1) := by decide +kernel
theorem d_La_container_14 : decode b_La_container 14 = .ok (.goto 19, 3) := by decide +kernel
theorem d_La_container_17 : decode b_La_container 17 = .ok (.astore 6, 2) := by decide +kernel
theorem d_La_container_19 : decode b_La_container 19 = .ok (.iconst 1, 1) := by decide +kernel
theorem d_La_container_20 : decode b_La_container 20 = .ok (.ireturn, 1) := by decide +kernel
theorem d_La_container_21 : decode b_La_container 21 = .ok (.astore 6, 2) := by decide +kernel
theorem d_La_container_23 : decode b_La_container 23 = .ok (.iconst 2, 1) := by decide +kernel
theorem d_La_container_24 : decode b_La_container 24 = .ok (.ireturn, 1) := by decide +kernel
theorem d_La_container_25 : decode b_La_container 25 = .ok (.astore 6, 2) := by decide +kernel
theorem d_La_container_27 : decode b_La_container 27 = .ok (.iconst 3, 1) := by decide +kernel
theorem d_La_container_28 : decode b_La_container 28 = .ok (.ireturn, 1) := by decide +kernel
theorem d_La_container_29 : decode b_La_container 29 = .ok (.astore 6, 2) := by decide +kernel
theorem d_La_container_31 : decode b_La_container 31 = .ok (.iconst 4, 1) := by decide +kernel
theorem d_La_container_32 : decode b_La_container 32 = .ok (.ireturn, 1) := by decide +kernel
theorem d_La_container_33 : decode b_La_container 33 = .ok (.iconst 0, 1) := by decide +kernel
theorem d_La_container_34 : decode b_La_container 34 = .ok (.ireturn, 1) := by decide +kernel
theorem d_La_segment_0 : decode b_La_segment 0 = .ok (.aload 5, 2) := by decide +kernel
theorem d_La_segment_2 : decode b_La_segment 2 = .ok (.iconst 0, 1) := by decide +kernel
theorem d_La_segment_3 : decode b_La_segment 3 = .ok (.aload_n 0, 1) := by decide +kernel
theorem d_La_segment_4 : decode b_La_segment 4 = .ok (.iload_n 1, 1) := by decide +kernel
theorem d_La_segment_5 : decode b_La_segment 5 = .ok (.iload_n 2, 1) := by decide +kernel
theorem d_La_segment_6 : decode b_La_segment 6 = .ok (.iload_n 3, 1) := by decide +kernel
theorem d_La_segment_7 : decode b_La_segment 7 = .ok (.iload 4, 2) := by decide +kernel
theorem d_La_segment_9 : decode b_La_segment 9 = .ok (.invokevirtual 37, 3) := by decide +kernel
theorem d_La_segment_12 : decode b_La_segment 12 = .ok (.i2l, 1) := by decide +kernel
theorem d_La_segment_13 : decode b_La_segment 13 = .ok (.lastore, 1) := by decide +kernel
theorem d_La_segment_14 : decode b_La_segment 14 = .ok (.goto 19, 3) := by decide +kernel
theorem d_La_segment_17 : decode b_La_segment 17 = .ok (.astore 6, 2) := by decide +kernel
theorem d_La_segment_19 : decode b_La_segment 19 = .ok (.iconst 1, 1) := by decide +kernel
theorem d_La_segment_20 : decode b_La_segment 20 = .ok (.ireturn, 1) := by decide +kernel
theorem d_La_segment_21 : decode b_La_segment 21 = .ok (.astore 6, 2) := by decide +kernel
theorem d_La_segment_23 : decode b_La_segment 23 = .ok (.iconst 2, 1) := by decide +kernel
theorem d_La_segment_24 : decode b_La_segment 24 = .ok (.ireturn, 1) := by decide +kernel
theorem d_La_segment_25 : decode b_La_segment 25 = .ok (.astore 6, 2) := by decide +kernel
theorem d_La_segment_27 : decode b_La_segment 27 = .ok (.iconst 3, 1) := by decide +kernel
theorem d_La_segment_28 : decode b_La_segment 28 = .ok (.ireturn, 1) := by decide +kernel
theorem d_La_segment_29 : decode b_La_segment 29 = .ok (.astore 6, 2) := by decide +kernel
theorem d_La_segment_31 : decode b_La_segment 31 = .ok (.iconst 4, 1) := by decide +kernel
theorem d_La_segment_32 : decode b_La_segment 32 = .ok (.ireturn, 1) := by decide +kernel
theorem d_La_segment_33 : decode b_La_segment 33 = .ok (.iconst 0, 1) := by decide +kernel
theorem d_La_segment_34 : decode b_La_segment 34 = .ok (.ireturn, 1) := by decide +kernel
theorem d_La_gate_0 : decode b_La_gate 0 = .ok (.aload 6, 2) := by decide +kernel
theorem d_La_gate_2 : decode b_La_gate 2 = .ok (.iconst 0, 1) := by decide +kernel
theorem d_La_gate_3 : decode b_La_gate 3 = .ok (.aload_n 0, 1) := by decide +kernel
theorem d_La_gate_4 : decode b_La_gate 4 = .ok (.iload_n 1, 1) := by decide +kernel
theorem d_La_gate_5 : decode b_La_gate 5 = .ok (.iload_n 2, 1) := by decide +kernel
theorem d_La_gate_6 : decode b_La_gate 6 = .ok (.iload_n 3, 1) := by decide +kernel
theorem d_La_gate_7 : decode b_La_gate 7 = .ok (.iload 4, 2) := by decide +kernel
theorem d_La_gate_9 : decode b_La_gate 9 = .ok (.iload 5, 2) := by decide +kernel
theorem d_La_gate_11 : decode b_La_gate 11 = .ok (.invokevirtual 40, 3) := by decide +kernel
theorem d_La_gate_14 : decode b_La_gate 14 = .ok (.i2l, 1) := by decide +kernel
theorem d_La_gate_15 : decode b_La_gate 15 = .ok (.lastore, 1) := by decide +kernel
theorem d_La_gate_16 : decode b_La_gate 16 = .ok (.goto 19, 3) := by decide +kernel
theorem d_La_gate_19 : decode b_La_gate 19 = .ok (.astore 7, 2) := by decide +kernel
theorem d_La_gate_21 : decode b_La_gate 21 = .ok (.iconst 1, 1) := by decide +kernel
theorem d_La_gate_22 : decode b_La_gate 22 = .ok (.ireturn, 1) := by decide +kernel
theorem d_La_gate_23 : decode b_La_gate 23 = .ok (.astore 7, 2) := by decide +kernel
theorem d_La_gate_25 : decode b_La_gate 25 = .ok (.iconst 2, 1) := by decide +kernel
theorem d_La_gate_26 : decode b_La_gate 26 = .ok (.ireturn, 1) := by decide +kernel
theorem d_La_gate_27 : decode b_La_gate 27 = .ok (.astore 7, 2) := by decide +kernel
theorem d_La_gate_29 : decode b_La_gate 29 = .ok (.iconst 3, 1) := by decide +kernel
theorem d_La_gate_30 : decode b_La_gate 30 = .ok (.ireturn, 1) := by decide +kernel
theorem d_La_gate_31 : decode b_La_gate 31 = .ok (.astore 7, 2) := by decide +kernel
theorem d_La_gate_33 : decode b_La_gate 33 = .ok (.iconst 4, 1) := by decide +kernel
theorem d_La_gate_34 : decode b_La_gate 34 = .ok (.ireturn, 1) := by decide +kernel
theorem d_La_gate_35 : decode b_La_gate 35 = .ok (.iconst 0, 1) := by decide +kernel
theorem d_La_gate_36 : decode b_La_gate 36 = .ok (.ireturn, 1) := by decide +kernel
theorem d_La_thread_0 : decode b_La_thread 0 = .ok (.aload 5, 2) := by decide +kernel
theorem d_La_thread_2 : decode b_La_thread 2 = .ok (.iconst 0, 1) := by decide +kernel
theorem d_La_thread_3 : decode b_La_thread 3 = .ok (.aload_n 0, 1) := by decide +kernel
theorem d_La_thread_4 : decode b_La_thread 4 = .ok (.iload_n 1, 1) := by decide +kernel
theorem d_La_thread_5 : decode b_La_thread 5 = .ok (.iload_n 2, 1) := by decide +kernel
theorem d_La_thread_6 : decode b_La_thread 6 = .ok (.iload_n 3, 1) := by decide +kernel
theorem d_La_thread_7 : decode b_La_thread 7 = .ok (.iload 4, 2) := by decide +kernel
theorem d_La_thread_9 : decode b_La_thread 9 = .ok (.invokevirtual 44, 3) := by decide +kernel
theorem d_La_thread_12 : decode b_La_thread 12 = .ok (.i2l, 1) := by decide +kernel
theorem d_La_thread_13 : decode b_La_thread 13 = .ok (.lastore, 1) := by decide +kernel
theorem d_La_thread_14 : decode b_La_thread 14 = .ok (.goto 19, 3) := by decide +kernel
theorem d_La_thread_17 : decode b_La_thread 17 = .ok (.astore 6, 2) := by decide +kernel
theorem d_La_thread_19 : decode b_La_thread 19 = .ok (.iconst 1, 1) := by decide +kernel
theorem d_La_thread_20 : decode b_La_thread 20 = .ok (.ireturn, 1) := by decide +kernel
theorem d_La_thread_21 : decode b_La_thread 21 = .ok (.astore 6, 2) := by decide +kernel
theorem d_La_thread_23 : decode b_La_thread 23 = .ok (.iconst 2, 1) := by decide +kernel
theorem d_La_thread_24 : decode b_La_thread 24 = .ok (.ireturn, 1) := by decide +kernel
theorem d_La_thread_25 : decode b_La_thread 25 = .ok (.astore 6, 2) := by decide +kernel
theorem d_La_thread_27 : decode b_La_thread 27 = .ok (.iconst 3, 1) := by decide +kernel
theorem d_La_thread_28 : decode b_La_thread 28 = .ok (.ireturn, 1) := by decide +kernel
theorem d_La_thread_29 : decode b_La_thread 29 = .ok (.astore 6, 2) := by decide +kernel
theorem d_La_thread_31 : decode b_La_thread 31 = .ok (.iconst 4, 1) := by decide +kernel
theorem d_La_thread_32 : decode b_La_thread 32 = .ok (.ireturn, 1) := by decide +kernel
theorem d_La_thread_33 : decode b_La_thread 33 = .ok (.iconst 0, 1) := by decide +kernel
theorem d_La_thread_34 : decode b_La_thread 34 = .ok (.ireturn, 1) := by decide +kernel
theorem d_La_read_0 : decode b_La_read 0 = .ok (.aload 5, 2) := by decide +kernel
theorem d_La_read_2 : decode b_La_read 2 = .ok (.iconst 0, 1) := by decide +kernel
theorem d_La_read_3 : decode b_La_read 3 = .ok (.aload_n 0, 1) := by decide +kernel
theorem d_La_read_4 : decode b_La_read 4 = .ok (.iload_n 1, 1) := by decide +kernel
theorem d_La_read_5 : decode b_La_read 5 = .ok (.iload_n 2, 1) := by decide +kernel
theorem d_La_read_6 : decode b_La_read 6 = .ok (.iload_n 3, 1) := by decide +kernel
theorem d_La_read_7 : decode b_La_read 7 = .ok (.iload 4, 2) := by decide +kernel
theorem d_La_read_9 : decode b_La_read 9 = .ok (.invokevirtual 47, 3) := by decide +kernel
theorem d_La_read_12 : decode b_La_read 12 = .ok (.i2l, 1) := by decide +kernel
theorem d_La_read_13 : decode b_La_read 13 = .ok (.lastore, 1) := by decide +kernel
theorem d_La_read_14 : decode b_La_read 14 = .ok (.goto 19, 3) := by decide +kernel
theorem d_La_read_17 : decode b_La_read 17 = .ok (.astore 6, 2) := by decide +kernel
theorem d_La_read_19 : decode b_La_read 19 = .ok (.iconst 1, 1) := by decide +kernel
theorem d_La_read_20 : decode b_La_read 20 = .ok (.ireturn, 1) := by decide +kernel
theorem d_La_read_21 : decode b_La_read 21 = .ok (.astore 6, 2) := by decide +kernel
theorem d_La_read_23 : decode b_La_read 23 = .ok (.iconst 2, 1) := by decide +kernel
theorem d_La_read_24 : decode b_La_read 24 = .ok (.ireturn, 1) := by decide +kernel
theorem d_La_read_25 : decode b_La_read 25 = .ok (.astore 6, 2) := by decide +kernel
theorem d_La_read_27 : decode b_La_read 27 = .ok (.iconst 3, 1) := by decide +kernel
theorem d_La_read_28 : decode b_La_read 28 = .ok (.ireturn, 1) := by decide +kernel
theorem d_La_read_29 : decode b_La_read 29 = .ok (.astore 6, 2) := by decide +kernel
theorem d_La_read_31 : decode b_La_read 31 = .ok (.iconst 4, 1) := by decide +kernel
theorem d_La_read_32 : decode b_La_read 32 = .ok (.ireturn, 1) := by decide +kernel
theorem d_La_read_33 : decode b_La_read 33 = .ok (.iconst 0, 1) := by decide +kernel
theorem d_La_read_34 : decode b_La_read 34 = .ok (.ireturn, 1) := by decide +kernel
theorem d_La_write_0 : decode b_La_write 0 = .ok (.aload 6, 2) := by decide +kernel
theorem d_La_write_2 : decode b_La_write 2 = .ok (.iconst 0, 1) := by decide +kernel
theorem d_La_write_3 : decode b_La_write 3 = .ok (.aload_n 0, 1) := by decide +kernel
theorem d_La_write_4 : decode b_La_write 4 = .ok (.iload_n 1, 1) := by decide +kernel
theorem d_La_write_5 : decode b_La_write 5 = .ok (.iload_n 2, 1) := by decide +kernel
theorem d_La_write_6 : decode b_La_write 6 = .ok (.iload_n 3, 1) := by decide +kernel
theorem d_La_write_7 : decode b_La_write 7 = .ok (.iload 4, 2) := by decide +kernel
theorem d_La_write_9 : decode b_La_write 9 = .ok (.iload 5, 2) := by decide +kernel
theorem d_La_write_11 : decode b_La_write 11 = .ok (.invokevirtual 50, 3) := by decide +kernel
theorem d_La_write_14 : decode b_La_write 14 = .ok (.i2l, 1) := by decide +kernel
theorem d_La_write_15 : decode b_La_write 15 = .ok (.lastore, 1) := by decide +kernel
theorem d_La_write_16 : decode b_La_write 16 = .ok (.goto 19, 3) := by decide +kernel
theorem d_La_write_19 : decode b_La_write 19 = .ok (.astore 7, 2) := by decide +kernel
theorem d_La_write_21 : decode b_La_write 21 = .ok (.iconst 1, 1) := by decide +kernel
theorem d_La_write_22 : decode b_La_write 22 = .ok (.ireturn, 1) := by decide +kernel
theorem d_La_write_23 : decode b_La_write 23 = .ok (.astore 7, 2) := by decide +kernel
theorem d_La_write_25 : decode b_La_write 25 = .ok (.iconst 2, 1) := by decide +kernel
theorem d_La_write_26 : decode b_La_write 26 = .ok (.ireturn, 1) := by decide +kernel
theorem d_La_write_27 : decode b_La_write 27 = .ok (.astore 7, 2) := by decide +kernel
theorem d_La_write_29 : decode b_La_write 29 = .ok (.iconst 3, 1) := by decide +kernel
theorem d_La_write_30 : decode b_La_write 30 = .ok (.ireturn, 1) := by decide +kernel
theorem d_La_write_31 : decode b_La_write 31 = .ok (.astore 7, 2) := by decide +kernel
theorem d_La_write_33 : decode b_La_write 33 = .ok (.iconst 4, 1) := by decide +kernel
theorem d_La_write_34 : decode b_La_write 34 = .ok (.ireturn, 1) := by decide +kernel
theorem d_La_write_35 : decode b_La_write 35 = .ok (.iconst 0, 1) := by decide +kernel
theorem d_La_write_36 : decode b_La_write 36 = .ok (.ireturn, 1) := by decide +kernel
theorem d_La_move_0 : decode b_La_move 0 = .ok (.aload 5, 2) := by decide +kernel
theorem d_La_move_2 : decode b_La_move 2 = .ok (.iconst 0, 1) := by decide +kernel
theorem d_La_move_3 : decode b_La_move 3 = .ok (.aload_n 0, 1) := by decide +kernel
theorem d_La_move_4 : decode b_La_move 4 = .ok (.iload_n 1, 1) := by decide +kernel
theorem d_La_move_5 : decode b_La_move 5 = .ok (.iload_n 2, 1) := by decide +kernel
theorem d_La_move_6 : decode b_La_move 6 = .ok (.iload_n 3, 1) := by decide +kernel
theorem d_La_move_7 : decode b_La_move 7 = .ok (.iload 4, 2) := by decide +kernel
theorem d_La_move_9 : decode b_La_move 9 = .ok (.invokevirtual 53, 3) := by decide +kernel
theorem d_La_move_12 : decode b_La_move 12 = .ok (.i2l, 1) := by decide +kernel
theorem d_La_move_13 : decode b_La_move 13 = .ok (.lastore, 1) := by decide +kernel
theorem d_La_move_14 : decode b_La_move 14 = .ok (.goto 19, 3) := by decide +kernel
theorem d_La_move_17 : decode b_La_move 17 = .ok (.astore 6, 2) := by decide +kernel
theorem d_La_move_19 : decode b_La_move 19 = .ok (.iconst 1, 1) := by decide +kernel
theorem d_La_move_20 : decode b_La_move 20 = .ok (.ireturn, 1) := by decide +kernel
theorem d_La_move_21 : decode b_La_move 21 = .ok (.astore 6, 2) := by decide +kernel
theorem d_La_move_23 : decode b_La_move 23 = .ok (.iconst 2, 1) := by decide +kernel
theorem d_La_move_24 : decode b_La_move 24 = .ok (.ireturn, 1) := by decide +kernel
theorem d_La_move_25 : decode b_La_move 25 = .ok (.astore 6, 2) := by decide +kernel
theorem d_La_move_27 : decode b_La_move 27 = .ok (.iconst 3, 1) := by decide +kernel
theorem d_La_move_28 : decode b_La_move 28 = .ok (.ireturn, 1) := by decide +kernel
theorem d_La_move_29 : decode b_La_move 29 = .ok (.astore 6, 2) := by decide +kernel
theorem d_La_move_31 : decode b_La_move 31 = .ok (.iconst 4, 1) := by decide +kernel
theorem d_La_move_32 : decode b_La_move 32 = .ok (.ireturn, 1) := by decide +kernel
theorem d_La_move_33 : decode b_La_move 33 = .ok (.iconst 0, 1) := by decide +kernel
theorem d_La_move_34 : decode b_La_move 34 = .ok (.ireturn, 1) := by decide +kernel
theorem d_La_drop_0 : decode b_La_drop 0 = .ok (.aload 4, 2) := by decide +kernel
theorem d_La_drop_2 : decode b_La_drop 2 = .ok (.iconst 0, 1) := by decide +kernel
theorem d_La_drop_3 : decode b_La_drop 3 = .ok (.aload_n 0, 1) := by decide +kernel
theorem d_La_drop_4 : decode b_La_drop 4 = .ok (.iload_n 1, 1) := by decide +kernel
theorem d_La_drop_5 : decode b_La_drop 5 = .ok (.iload_n 2, 1) := by decide +kernel
theorem d_La_drop_6 : decode b_La_drop 6 = .ok (.iload_n 3, 1) := by decide +kernel
theorem d_La_drop_7 : decode b_La_drop 7 = .ok (.invokevirtual 56, 3) := by decide +kernel
theorem d_La_drop_10 : decode b_La_drop 10 = .ok (.i2l, 1) := by decide +kernel
theorem d_La_drop_11 : decode b_La_drop 11 = .ok (.lastore, 1) := by decide +kernel
theorem d_La_drop_12 : decode b_La_drop 12 = .ok (.goto 19, 3) := by decide +kernel
theorem d_La_drop_15 : decode b_La_drop 15 = .ok (.astore 5, 2) := by decide +kernel
theorem d_La_drop_17 : decode b_La_drop 17 = .ok (.iconst 1, 1) := by decide +kernel
theorem d_La_drop_18 : decode b_La_drop 18 = .ok (.ireturn, 1) := by decide +kernel
theorem d_La_drop_19 : decode b_La_drop 19 = .ok (.astore 5, 2) := by decide +kernel
theorem d_La_drop_21 : decode b_La_drop 21 = .ok (.iconst 2, 1) := by decide +kernel
theorem d_La_drop_22 : decode b_La_drop 22 = .ok (.ireturn, 1) := by decide +kernel
theorem d_La_drop_23 : decode b_La_drop 23 = .ok (.astore 5, 2) := by decide +kernel
theorem d_La_drop_25 : decode b_La_drop 25 = .ok (.iconst 3, 1) := by decide +kernel
theorem d_La_drop_26 : decode b_La_drop 26 = .ok (.ireturn, 1) := by decide +kernel
theorem d_La_drop_27 : decode b_La_drop 27 = .ok (.astore 5, 2) := by decide +kernel
theorem d_La_drop_29 : decode b_La_drop 29 = .ok (.iconst 4, 1) := by decide +kernel
theorem d_La_drop_30 : decode b_La_drop 30 = .ok (.ireturn, 1) := by decide +kernel
theorem d_La_drop_31 : decode b_La_drop 31 = .ok (.iconst 0, 1) := by decide +kernel
theorem d_La_drop_32 : decode b_La_drop 32 = .ok (.ireturn, 1) := by decide +kernel
theorem d_La_become_0 : decode b_La_become 0 = .ok (.aload_n 3, 1) := by decide +kernel
theorem d_La_become_1 : decode b_La_become 1 = .ok (.iconst 0, 1) := by decide +kernel
theorem d_La_become_2 : decode b_La_become 2 = .ok (.aload_n 0, 1) := by decide +kernel
theorem d_La_become_3 : decode b_La_become 3 = .ok (.iload_n 1, 1) := by decide +kernel
theorem d_La_become_4 : decode b_La_become 4 = .ok (.iload_n 2, 1) := by decide +kernel
theorem d_La_become_5 : decode b_La_become 5 = .ok (.invokevirtual 59, 3) := by decide +kernel
theorem d_La_become_8 : decode b_La_become 8 = .ok (.i2l, 1) := by decide +kernel
theorem d_La_become_9 : decode b_La_become 9 = .ok (.lastore, 1) := by decide +kernel
theorem d_La_become_10 : decode b_La_become 10 = .ok (.goto 19, 3) := by decide +kernel
theorem d_La_become_13 : decode b_La_become 13 = .ok (.astore 4, 2) := by decide +kernel
theorem d_La_become_15 : decode b_La_become 15 = .ok (.iconst 1, 1) := by decide +kernel
theorem d_La_become_16 : decode b_La_become 16 = .ok (.ireturn, 1) := by decide +kernel
theorem d_La_become_17 : decode b_La_become 17 = .ok (.astore 4, 2) := by decide +kernel
theorem d_La_become_19 : decode b_La_become 19 = .ok (.iconst 2, 1) := by decide +kernel
theorem d_La_become_20 : decode b_La_become 20 = .ok (.ireturn, 1) := by decide +kernel
theorem d_La_become_21 : decode b_La_become 21 = .ok (.astore 4, 2) := by decide +kernel
theorem d_La_become_23 : decode b_La_become 23 = .ok (.iconst 3, 1) := by decide +kernel
theorem d_La_become_24 : decode b_La_become 24 = .ok (.ireturn, 1) := by decide +kernel
theorem d_La_become_25 : decode b_La_become 25 = .ok (.astore 4, 2) := by decide +kernel
theorem d_La_become_27 : decode b_La_become 27 = .ok (.iconst 4, 1) := by decide +kernel
theorem d_La_become_28 : decode b_La_become 28 = .ok (.ireturn, 1) := by decide +kernel
theorem d_La_become_29 : decode b_La_become 29 = .ok (.iconst 0, 1) := by decide +kernel
theorem d_La_become_30 : decode b_La_become 30 = .ok (.ireturn, 1) := by decide +kernel
theorem d_La_lower_0 : decode b_La_lower 0 = .ok (.aload_n 3, 1) := by decide +kernel
theorem d_La_lower_1 : decode b_La_lower 1 = .ok (.iconst 0, 1) := by decide +kernel
theorem d_La_lower_2 : decode b_La_lower 2 = .ok (.aload_n 0, 1) := by decide +kernel
theorem d_La_lower_3 : decode b_La_lower 3 = .ok (.iload_n 1, 1) := by decide +kernel
theorem d_La_lower_4 : decode b_La_lower 4 = .ok (.iload_n 2, 1) := by decide +kernel
theorem d_La_lower_5 : decode b_La_lower 5 = .ok (.invokevirtual 62, 3) := by decide +kernel
theorem d_La_lower_8 : decode b_La_lower 8 = .ok (.i2l, 1) := by decide +kernel
theorem d_La_lower_9 : decode b_La_lower 9 = .ok (.lastore, 1) := by decide +kernel
theorem d_La_lower_10 : decode b_La_lower 10 = .ok (.goto 19, 3) := by decide +kernel
theorem d_La_lower_13 : decode b_La_lower 13 = .ok (.astore 4, 2) := by decide +kernel
theorem d_La_lower_15 : decode b_La_lower 15 = .ok (.iconst 1, 1) := by decide +kernel
theorem d_La_lower_16 : decode b_La_lower 16 = .ok (.ireturn, 1) := by decide +kernel
theorem d_La_lower_17 : decode b_La_lower 17 = .ok (.astore 4, 2) := by decide +kernel
theorem d_La_lower_19 : decode b_La_lower 19 = .ok (.iconst 2, 1) := by decide +kernel
theorem d_La_lower_20 : decode b_La_lower 20 = .ok (.ireturn, 1) := by decide +kernel
theorem d_La_lower_21 : decode b_La_lower 21 = .ok (.astore 4, 2) := by decide +kernel
theorem d_La_lower_23 : decode b_La_lower 23 = .ok (.iconst 3, 1) := by decide +kernel
theorem d_La_lower_24 : decode b_La_lower 24 = .ok (.ireturn, 1) := by decide +kernel
theorem d_La_lower_25 : decode b_La_lower 25 = .ok (.astore 4, 2) := by decide +kernel
theorem d_La_lower_27 : decode b_La_lower 27 = .ok (.iconst 4, 1) := by decide +kernel
theorem d_La_lower_28 : decode b_La_lower 28 = .ok (.ireturn, 1) := by decide +kernel
theorem d_La_lower_29 : decode b_La_lower 29 = .ok (.iconst 0, 1) := by decide +kernel
theorem d_La_lower_30 : decode b_La_lower 30 = .ok (.ireturn, 1) := by decide +kernel
theorem d_La_enter_0 : decode b_La_enter 0 = .ok (.aload 6, 2) := by decide +kernel
theorem d_La_enter_2 : decode b_La_enter 2 = .ok (.iconst 0, 1) := by decide +kernel
theorem d_La_enter_3 : decode b_La_enter 3 = .ok (.aload_n 0, 1) := by decide +kernel
theorem d_La_enter_4 : decode b_La_enter 4 = .ok (.iload_n 1, 1) := by decide +kernel
theorem d_La_enter_5 : decode b_La_enter 5 = .ok (.iload_n 2, 1) := by decide +kernel
theorem d_La_enter_6 : decode b_La_enter 6 = .ok (.iload_n 3, 1) := by decide +kernel
theorem d_La_enter_7 : decode b_La_enter 7 = .ok (.iload 4, 2) := by decide +kernel
theorem d_La_enter_9 : decode b_La_enter 9 = .ok (.iload 5, 2) := by decide +kernel
theorem d_La_enter_11 : decode b_La_enter 11 = .ok (.invokevirtual 65, 3) := by decide +kernel
theorem d_La_enter_14 : decode b_La_enter 14 = .ok (.i2l, 1) := by decide +kernel
theorem d_La_enter_15 : decode b_La_enter 15 = .ok (.lastore, 1) := by decide +kernel
theorem d_La_enter_16 : decode b_La_enter 16 = .ok (.goto 19, 3) := by decide +kernel
theorem d_La_enter_19 : decode b_La_enter 19 = .ok (.astore 7, 2) := by decide +kernel
theorem d_La_enter_21 : decode b_La_enter 21 = .ok (.iconst 1, 1) := by decide +kernel
theorem d_La_enter_22 : decode b_La_enter 22 = .ok (.ireturn, 1) := by decide +kernel
theorem d_La_enter_23 : decode b_La_enter 23 = .ok (.astore 7, 2) := by decide +kernel
theorem d_La_enter_25 : decode b_La_enter 25 = .ok (.iconst 2, 1) := by decide +kernel
theorem d_La_enter_26 : decode b_La_enter 26 = .ok (.ireturn, 1) := by decide +kernel
theorem d_La_enter_27 : decode b_La_enter 27 = .ok (.astore 7, 2) := by decide +kernel
theorem d_La_enter_29 : decode b_La_enter 29 = .ok (.iconst 3, 1) := by decide +kernel
theorem d_La_enter_30 : decode b_La_enter 30 = .ok (.ireturn, 1) := by decide +kernel
theorem d_La_enter_31 : decode b_La_enter 31 = .ok (.astore 7, 2) := by decide +kernel
theorem d_La_enter_33 : decode b_La_enter 33 = .ok (.iconst 4, 1) := by decide +kernel
theorem d_La_enter_34 : decode b_La_enter 34 = .ok (.ireturn, 1) := by decide +kernel
theorem d_La_enter_35 : decode b_La_enter 35 = .ok (.iconst 0, 1) := by decide +kernel
theorem d_La_enter_36 : decode b_La_enter 36 = .ok (.ireturn, 1) := by decide +kernel
theorem d_La_user_0 : decode b_La_user 0 = .ok (.aload 4, 2) := by decide +kernel
theorem d_La_user_2 : decode b_La_user 2 = .ok (.iconst 0, 1) := by decide +kernel
theorem d_La_user_3 : decode b_La_user 3 = .ok (.aload_n 0, 1) := by decide +kernel
theorem d_La_user_4 : decode b_La_user 4 = .ok (.iload_n 1, 1) := by decide +kernel
theorem d_La_user_5 : decode b_La_user 5 = .ok (.iload_n 2, 1) := by decide +kernel
theorem d_La_user_6 : decode b_La_user 6 = .ok (.iload_n 3, 1) := by decide +kernel
theorem d_La_user_7 : decode b_La_user 7 = .ok (.invokevirtual 68, 3) := by decide +kernel
theorem d_La_user_10 : decode b_La_user 10 = .ok (.i2l, 1) := by decide +kernel
theorem d_La_user_11 : decode b_La_user 11 = .ok (.lastore, 1) := by decide +kernel
theorem d_La_user_12 : decode b_La_user 12 = .ok (.goto 19, 3) := by decide +kernel
theorem d_La_user_15 : decode b_La_user 15 = .ok (.astore 5, 2) := by decide +kernel
theorem d_La_user_17 : decode b_La_user 17 = .ok (.iconst 1, 1) := by decide +kernel
theorem d_La_user_18 : decode b_La_user 18 = .ok (.ireturn, 1) := by decide +kernel
theorem d_La_user_19 : decode b_La_user 19 = .ok (.astore 5, 2) := by decide +kernel
theorem d_La_user_21 : decode b_La_user 21 = .ok (.iconst 2, 1) := by decide +kernel
theorem d_La_user_22 : decode b_La_user 22 = .ok (.ireturn, 1) := by decide +kernel
theorem d_La_user_23 : decode b_La_user 23 = .ok (.astore 5, 2) := by decide +kernel
theorem d_La_user_25 : decode b_La_user 25 = .ok (.iconst 3, 1) := by decide +kernel
theorem d_La_user_26 : decode b_La_user 26 = .ok (.ireturn, 1) := by decide +kernel
theorem d_La_user_27 : decode b_La_user 27 = .ok (.astore 5, 2) := by decide +kernel
theorem d_La_user_29 : decode b_La_user 29 = .ok (.iconst 4, 1) := by decide +kernel
theorem d_La_user_30 : decode b_La_user 30 = .ok (.ireturn, 1) := by decide +kernel
theorem d_La_user_31 : decode b_La_user 31 = .ok (.iconst 0, 1) := by decide +kernel
theorem d_La_user_32 : decode b_La_user 32 = .ok (.ireturn, 1) := by decide +kernel
theorem d_La_login_0 : decode b_La_login 0 = .ok (.aload 4, 2) := by decide +kernel
theorem d_La_login_2 : decode b_La_login 2 = .ok (.iconst 0, 1) := by decide +kernel
theorem d_La_login_3 : decode b_La_login 3 = .ok (.aload_n 0, 1) := by decide +kernel
theorem d_La_login_4 : decode b_La_login 4 = .ok (.iload_n 1, 1) := by decide +kernel
theorem d_La_login_5 : decode b_La_login 5 = .ok (.iload_n 2, 1) := by decide +kernel
theorem d_La_login_6 : decode b_La_login 6 = .ok (.iload_n 3, 1) := by decide +kernel
theorem d_La_login_7 : decode b_La_login 7 = .ok (.invokevirtual 71, 3) := by decide +kernel
theorem d_La_login_10 : decode b_La_login 10 = .ok (.i2l, 1) := by decide +kernel
theorem d_La_login_11 : decode b_La_login 11 = .ok (.lastore, 1) := by decide +kernel
theorem d_La_login_12 : decode b_La_login 12 = .ok (.goto 19, 3) := by decide +kernel
theorem d_La_login_15 : decode b_La_login 15 = .ok (.astore 5, 2) := by decide +kernel
theorem d_La_login_17 : decode b_La_login 17 = .ok (.iconst 1, 1) := by decide +kernel
theorem d_La_login_18 : decode b_La_login 18 = .ok (.ireturn, 1) := by decide +kernel
theorem d_La_login_19 : decode b_La_login 19 = .ok (.astore 5, 2) := by decide +kernel
theorem d_La_login_21 : decode b_La_login 21 = .ok (.iconst 2, 1) := by decide +kernel
theorem d_La_login_22 : decode b_La_login 22 = .ok (.ireturn, 1) := by decide +kernel
theorem d_La_login_23 : decode b_La_login 23 = .ok (.astore 5, 2) := by decide +kernel
theorem d_La_login_25 : decode b_La_login 25 = .ok (.iconst 3, 1) := by decide +kernel
theorem d_La_login_26 : decode b_La_login 26 = .ok (.ireturn, 1) := by decide +kernel
theorem d_La_login_27 : decode b_La_login 27 = .ok (.astore 5, 2) := by decide +kernel
theorem d_La_login_29 : decode b_La_login 29 = .ok (.iconst 4, 1) := by decide +kernel
theorem d_La_login_30 : decode b_La_login 30 = .ok (.ireturn, 1) := by decide +kernel
theorem d_La_login_31 : decode b_La_login 31 = .ok (.iconst 0, 1) := by decide +kernel
theorem d_La_login_32 : decode b_La_login 32 = .ok (.ireturn, 1) := by decide +kernel
theorem d_La_file_0 : decode b_La_file 0 = .ok (.aload 5, 2) := by decide +kernel
theorem d_La_file_2 : decode b_La_file 2 = .ok (.iconst 0, 1) := by decide +kernel
theorem d_La_file_3 : decode b_La_file 3 = .ok (.aload_n 0, 1) := by decide +kernel
theorem d_La_file_4 : decode b_La_file 4 = .ok (.iload_n 1, 1) := by decide +kernel
theorem d_La_file_5 : decode b_La_file 5 = .ok (.iload_n 2, 1) := by decide +kernel
theorem d_La_file_6 : decode b_La_file 6 = .ok (.iload_n 3, 1) := by decide +kernel
theorem d_La_file_7 : decode b_La_file 7 = .ok (.iload 4, 2) := by decide +kernel
theorem d_La_file_9 : decode b_La_file 9 = .ok (.invokevirtual 74, 3) := by decide +kernel
theorem d_La_file_12 : decode b_La_file 12 = .ok (.i2l, 1) := by decide +kernel
theorem d_La_file_13 : decode b_La_file 13 = .ok (.lastore, 1) := by decide +kernel
theorem d_La_file_14 : decode b_La_file 14 = .ok (.goto 19, 3) := by decide +kernel
theorem d_La_file_17 : decode b_La_file 17 = .ok (.astore 6, 2) := by decide +kernel
theorem d_La_file_19 : decode b_La_file 19 = .ok (.iconst 1, 1) := by decide +kernel
theorem d_La_file_20 : decode b_La_file 20 = .ok (.ireturn, 1) := by decide +kernel
theorem d_La_file_21 : decode b_La_file 21 = .ok (.astore 6, 2) := by decide +kernel
theorem d_La_file_23 : decode b_La_file 23 = .ok (.iconst 2, 1) := by decide +kernel
theorem d_La_file_24 : decode b_La_file 24 = .ok (.ireturn, 1) := by decide +kernel
theorem d_La_file_25 : decode b_La_file 25 = .ok (.astore 6, 2) := by decide +kernel
theorem d_La_file_27 : decode b_La_file 27 = .ok (.iconst 3, 1) := by decide +kernel
theorem d_La_file_28 : decode b_La_file 28 = .ok (.ireturn, 1) := by decide +kernel
theorem d_La_file_29 : decode b_La_file 29 = .ok (.astore 6, 2) := by decide +kernel
theorem d_La_file_31 : decode b_La_file 31 = .ok (.iconst 4, 1) := by decide +kernel
theorem d_La_file_32 : decode b_La_file 32 = .ok (.ireturn, 1) := by decide +kernel
theorem d_La_file_33 : decode b_La_file 33 = .ok (.iconst 0, 1) := by decide +kernel
theorem d_La_file_34 : decode b_La_file 34 = .ok (.ireturn, 1) := by decide +kernel
theorem d_La_access_0 : decode b_La_access 0 = .ok (.aload 7, 2) := by decide +kernel
theorem d_La_access_2 : decode b_La_access 2 = .ok (.iconst 0, 1) := by decide +kernel
theorem d_La_access_3 : decode b_La_access 3 = .ok (.aload_n 0, 1) := by decide +kernel
theorem d_La_access_4 : decode b_La_access 4 = .ok (.iload_n 1, 1) := by decide +kernel
theorem d_La_access_5 : decode b_La_access 5 = .ok (.iload_n 2, 1) := by decide +kernel
theorem d_La_access_6 : decode b_La_access 6 = .ok (.iload_n 3, 1) := by decide +kernel
theorem d_La_access_7 : decode b_La_access 7 = .ok (.iload 4, 2) := by decide +kernel
theorem d_La_access_9 : decode b_La_access 9 = .ok (.iload 5, 2) := by decide +kernel
theorem d_La_access_11 : decode b_La_access 11 = .ok (.iload 6, 2) := by decide +kernel
theorem d_La_access_13 : decode b_La_access 13 = .ok (.invokevirtual 77, 3) := by decide +kernel
theorem d_La_access_16 : decode b_La_access 16 = .ok (.i2l, 1) := by decide +kernel
theorem d_La_access_17 : decode b_La_access 17 = .ok (.lastore, 1) := by decide +kernel
theorem d_La_access_18 : decode b_La_access 18 = .ok (.goto 19, 3) := by decide +kernel
theorem d_La_access_21 : decode b_La_access 21 = .ok (.astore 8, 2) := by decide +kernel
theorem d_La_access_23 : decode b_La_access 23 = .ok (.iconst 1, 1) := by decide +kernel
theorem d_La_access_24 : decode b_La_access 24 = .ok (.ireturn, 1) := by decide +kernel
theorem d_La_access_25 : decode b_La_access 25 = .ok (.astore 8, 2) := by decide +kernel
theorem d_La_access_27 : decode b_La_access 27 = .ok (.iconst 2, 1) := by decide +kernel
theorem d_La_access_28 : decode b_La_access 28 = .ok (.ireturn, 1) := by decide +kernel
theorem d_La_access_29 : decode b_La_access 29 = .ok (.astore 8, 2) := by decide +kernel
theorem d_La_access_31 : decode b_La_access 31 = .ok (.iconst 3, 1) := by decide +kernel
theorem d_La_access_32 : decode b_La_access 32 = .ok (.ireturn, 1) := by decide +kernel
theorem d_La_access_33 : decode b_La_access 33 = .ok (.astore 8, 2) := by decide +kernel
theorem d_La_access_35 : decode b_La_access 35 = .ok (.iconst 4, 1) := by decide +kernel
theorem d_La_access_36 : decode b_La_access 36 = .ok (.ireturn, 1) := by decide +kernel
theorem d_La_access_37 : decode b_La_access 37 = .ok (.iconst 0, 1) := by decide +kernel
theorem d_La_access_38 : decode b_La_access 38 = .ok (.ireturn, 1) := by decide +kernel
theorem d_La_object_0 : decode b_La_object 0 = .ok (.aload_n 3, 1) := by decide +kernel
theorem d_La_object_1 : decode b_La_object 1 = .ok (.iconst 0, 1) := by decide +kernel
theorem d_La_object_2 : decode b_La_object 2 = .ok (.aload_n 0, 1) := by decide +kernel
theorem d_La_object_3 : decode b_La_object 3 = .ok (.iload_n 1, 1) := by decide +kernel
theorem d_La_object_4 : decode b_La_object 4 = .ok (.iload_n 2, 1) := by decide +kernel
theorem d_La_object_5 : decode b_La_object 5 = .ok (.invokevirtual 81, 3) := by decide +kernel
theorem d_La_object_8 : decode b_La_object 8 = .ok (.i2l, 1) := by decide +kernel
theorem d_La_object_9 : decode b_La_object 9 = .ok (.lastore, 1) := by decide +kernel
theorem d_La_object_10 : decode b_La_object 10 = .ok (.goto 19, 3) := by decide +kernel
theorem d_La_object_13 : decode b_La_object 13 = .ok (.astore 4, 2) := by decide +kernel
theorem d_La_object_15 : decode b_La_object 15 = .ok (.iconst 1, 1) := by decide +kernel
theorem d_La_object_16 : decode b_La_object 16 = .ok (.ireturn, 1) := by decide +kernel
theorem d_La_object_17 : decode b_La_object 17 = .ok (.astore 4, 2) := by decide +kernel
theorem d_La_object_19 : decode b_La_object 19 = .ok (.iconst 2, 1) := by decide +kernel
theorem d_La_object_20 : decode b_La_object 20 = .ok (.ireturn, 1) := by decide +kernel
theorem d_La_object_21 : decode b_La_object 21 = .ok (.astore 4, 2) := by decide +kernel
theorem d_La_object_23 : decode b_La_object 23 = .ok (.iconst 3, 1) := by decide +kernel
theorem d_La_object_24 : decode b_La_object 24 = .ok (.ireturn, 1) := by decide +kernel
theorem d_La_object_25 : decode b_La_object 25 = .ok (.astore 4, 2) := by decide +kernel
theorem d_La_object_27 : decode b_La_object 27 = .ok (.iconst 4, 1) := by decide +kernel
theorem d_La_object_28 : decode b_La_object 28 = .ok (.ireturn, 1) := by decide +kernel
theorem d_La_object_29 : decode b_La_object 29 = .ok (.iconst 0, 1) := by decide +kernel
theorem d_La_object_30 : decode b_La_object 30 = .ok (.ireturn, 1) := by decide +kernel
theorem d_La_in_0 : decode b_La_in 0 = .ok (.aload_n 3, 1) := by decide +kernel
theorem d_La_in_1 : decode b_La_in 1 = .ok (.iconst 0, 1) := by decide +kernel
theorem d_La_in_2 : decode b_La_in 2 = .ok (.aload_n 0, 1) := by decide +kernel
theorem d_La_in_3 : decode b_La_in 3 = .ok (.iload_n 1, 1) := by decide +kernel
theorem d_La_in_4 : decode b_La_in 4 = .ok (.iload_n 2, 1) := by decide +kernel
theorem d_La_in_5 : decode b_La_in 5 = .ok (.invokevirtual 84, 3) := by decide +kernel
theorem d_La_in_8 : decode b_La_in 8 = .ok (.i2l, 1) := by decide +kernel
theorem d_La_in_9 : decode b_La_in 9 = .ok (.lastore, 1) := by decide +kernel
theorem d_La_in_10 : decode b_La_in 10 = .ok (.goto 19, 3) := by decide +kernel
theorem d_La_in_13 : decode b_La_in 13 = .ok (.astore 4, 2) := by decide +kernel
theorem d_La_in_15 : decode b_La_in 15 = .ok (.iconst 1, 1) := by decide +kernel
theorem d_La_in_16 : decode b_La_in 16 = .ok (.ireturn, 1) := by decide +kernel
theorem d_La_in_17 : decode b_La_in 17 = .ok (.astore 4, 2) := by decide +kernel
theorem d_La_in_19 : decode b_La_in 19 = .ok (.iconst 2, 1) := by decide +kernel
theorem d_La_in_20 : decode b_La_in 20 = .ok (.ireturn, 1) := by decide +kernel
theorem d_La_in_21 : decode b_La_in 21 = .ok (.astore 4, 2) := by decide +kernel
theorem d_La_in_23 : decode b_La_in 23 = .ok (.iconst 3, 1) := by decide +kernel
theorem d_La_in_24 : decode b_La_in 24 = .ok (.ireturn, 1) := by decide +kernel
theorem d_La_in_25 : decode b_La_in 25 = .ok (.astore 4, 2) := by decide +kernel
theorem d_La_in_27 : decode b_La_in 27 = .ok (.iconst 4, 1) := by decide +kernel
theorem d_La_in_28 : decode b_La_in 28 = .ok (.ireturn, 1) := by decide +kernel
theorem d_La_in_29 : decode b_La_in 29 = .ok (.iconst 0, 1) := by decide +kernel
theorem d_La_in_30 : decode b_La_in 30 = .ok (.ireturn, 1) := by decide +kernel
