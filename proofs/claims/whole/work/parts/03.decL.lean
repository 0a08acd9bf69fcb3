theorem d_L_make_0 : decode b_L_make 0 = .ok (.aload_n 3, 1) := by decide +kernel
theorem d_L_make_1 : decode b_L_make 1 = .ok (.iconst 0, 1) := by decide +kernel
theorem d_L_make_2 : decode b_L_make 2 = .ok (.aload_n 0, 1) := by decide +kernel
theorem d_L_make_3 : decode b_L_make 3 = .ok (.iload_n 1, 1) := by decide +kernel
theorem d_L_make_4 : decode b_L_make 4 = .ok (.iload_n 2, 1) := by decide +kernel
theorem d_L_make_5 : decode b_L_make 5 = .ok (.invokevirtual 7, 3) := by decide +kernel
theorem d_L_make_8 : decode b_L_make 8 = .ok (.i2l, 1) := by decide +kernel
theorem d_L_make_9 : decode b_L_make 9 = .ok (.lastore, 1) := by decide +kernel
theorem d_L_make_10 : decode b_L_make 10 = .ok (.goto 15, 3) := by decide +kernel
theorem d_L_make_13 : decode b_L_make 13 = .ok (.astore 4, 2) := by decide +kernel
theorem d_L_make_15 : decode b_L_make 15 = .ok (.iconst 1, 1) := by decide +kernel
theorem d_L_make_16 : decode b_L_make 16 = .ok (.ireturn, 1) := by decide +kernel
theorem d_L_make_17 : decode b_L_make 17 = .ok (.astore 4, 2) := by decide +kernel
theorem d_L_make_19 : decode b_L_make 19 = .ok (.iconst 2, 1) := by decide +kernel
theorem d_L_make_20 : decode b_L_make 20 = .ok (.ireturn, 1) := by decide +kernel
theorem d_L_make_21 : decode b_L_make 21 = .ok (.astore 4, 2) := by decide +kernel
theorem d_L_make_23 : decode b_L_make 23 = .ok (.iconst 3, 1) := by decide +kernel
theorem d_L_make_24 : decode b_L_make 24 = .ok (.ireturn, 1) := by decide +kernel
theorem d_L_make_25 : decode b_L_make 25 = .ok (.iconst 0, 1) := by decide +kernel
theorem d_L_make_26 : decode b_L_make 26 = .ok (.ireturn, 1) := by decide +kernel
theorem d_L_pages_0 : decode b_L_pages 0 = .ok (.aload_n 2, 1) := by decide +kernel
theorem d_L_pages_1 : decode b_L_pages 1 = .ok (.iconst 0, 1) := by decide +kernel
theorem d_L_pages_2 : decode b_L_pages 2 = .ok (.aload_n 0, 1) := by decide +kernel
theorem d_L_pages_3 : decode b_L_pages 3 = .ok (.iload_n 1, 1) := by decide +kernel
theorem d_L_pages_4 : decode b_L_pages 4 = .ok (.invokevirtual 19, 3) := by decide +kernel
theorem d_L_pages_7 : decode b_L_pages 7 = .ok (.i2l, 1) := by decide +kernel
theorem d_L_pages_8 : decode b_L_pages 8 = .ok (.lastore, 1) := by decide +kernel
theorem d_L_pages_9 : decode b_L_pages 9 = .ok (.goto 6, 3) := by decide +kernel
theorem d_L_pages_12 : decode b_L_pages 12 = .ok (.astore_n 3, 1) := by decide +kernel
theorem d_L_pages_13 : decode b_L_pages 13 = .ok (.iconst 1, 1) := by decide +kernel
theorem d_L_pages_14 : decode b_L_pages 14 = .ok (.ireturn, 1) := by decide +kernel
theorem d_L_pages_15 : decode b_L_pages 15 = .ok (.iconst 0, 1) := by decide +kernel
theorem d_L_pages_16 : decode b_L_pages 16 = .ok (.ireturn, 1) := by decide +kernel
theorem d_L_grow_0 : decode b_L_grow 0 = .ok (.aload_n 3, 1) := by decide +kernel
theorem d_L_grow_1 : decode b_L_grow 1 = .ok (.iconst 0, 1) := by decide +kernel
theorem d_L_grow_2 : decode b_L_grow 2 = .ok (.aload_n 0, 1) := by decide +kernel
theorem d_L_grow_3 : decode b_L_grow 3 = .ok (.iload_n 1, 1) := by decide +kernel
theorem d_L_grow_4 : decode b_L_grow 4 = .ok (.iload_n 2, 1) := by decide +kernel
theorem d_L_grow_5 : decode b_L_grow 5 = .ok (.invokevirtual 23, 3) := by decide +kernel
theorem d_L_grow_8 : decode b_L_grow 8 = .ok (.i2l, 1) := by decide +kernel
theorem d_L_grow_9 : decode b_L_grow 9 = .ok (.lastore, 1) := by decide +kernel
theorem d_L_grow_10 : decode b_L_grow 10 = .ok (.goto 7, 3) := by decide +kernel
theorem d_L_grow_13 : decode b_L_grow 13 = .ok (.astore 4, 2) := by decide +kernel
theorem d_L_grow_15 : decode b_L_grow 15 = .ok (.iconst 1, 1) := by decide +kernel
theorem d_L_grow_16 : decode b_L_grow 16 = .ok (.ireturn, 1) := by decide +kernel
theorem d_L_grow_17 : decode b_L_grow 17 = .ok (.iconst 0, 1) := by decide +kernel
theorem d_L_grow_18 : decode b_L_grow 18 = .ok (.ireturn, 1) := by decide +kernel
theorem d_L_fits_0 : decode b_L_fits 0 = .ok (.aload 4, 2) := by decide +kernel
theorem d_L_fits_2 : decode b_L_fits 2 = .ok (.iconst 0, 1) := by decide +kernel
theorem d_L_fits_3 : decode b_L_fits 3 = .ok (.aload_n 0, 1) := by decide +kernel
theorem d_L_fits_4 : decode b_L_fits 4 = .ok (.iload_n 1, 1) := by decide +kernel
theorem d_L_fits_5 : decode b_L_fits 5 = .ok (.iload_n 2, 1) := by decide +kernel
theorem d_L_fits_6 : decode b_L_fits 6 = .ok (.iload_n 3, 1) := by decide +kernel
theorem d_L_fits_7 : decode b_L_fits 7 = .ok (.invokevirtual 26, 3) := by decide +kernel
theorem d_L_fits_10 : decode b_L_fits 10 = .ok (.ifCond .eq 7, 3) := by decide +kernel
theorem d_L_fits_13 : decode b_L_fits 13 = .ok (.lconst 1, 1) := by decide +kernel
theorem d_L_fits_14 : decode b_L_fits 14 = .ok (.goto 4, 3) := by decide +kernel
theorem d_L_fits_17 : decode b_L_fits 17 = .ok (.lconst 0, 1) := by decide +kernel
theorem d_L_fits_18 : decode b_L_fits 18 = .ok (.lastore, 1) := by decide +kernel
theorem d_L_fits_19 : decode b_L_fits 19 = .ok (.goto 7, 3) := by decide +kernel
theorem d_L_fits_22 : decode b_L_fits 22 = .ok (.astore 5, 2) := by decide +kernel
theorem d_L_fits_24 : decode b_L_fits 24 = .ok (.iconst 1, 1) := by decide +kernel
theorem d_L_fits_25 : decode b_L_fits 25 = .ok (.ireturn, 1) := by decide +kernel
theorem d_L_fits_26 : decode b_L_fits 26 = .ok (.iconst 0, 1) := by decide +kernel
theorem d_L_fits_27 : decode b_L_fits 27 = .ok (.ireturn, 1) := by decide +kernel
theorem d_L_load_0 : decode b_L_load 0 = .ok (.aload 5, 2) := by decide +kernel
theorem d_L_load_2 : decode b_L_load 2 = .ok (.iconst 0, 1) := by decide +kernel
theorem d_L_load_3 : decode b_L_load 3 = .ok (.aload_n 0, 1) := by decide +kernel
theorem d_L_load_4 : decode b_L_load 4 = .ok (.iload_n 1, 1) := by decide +kernel
theorem d_L_load_5 : decode b_L_load 5 = .ok (.iload_n 2, 1) := by decide +kernel
theorem d_L_load_6 : decode b_L_load 6 = .ok (.iload_n 3, 1) := by decide +kernel
theorem d_L_load_7 : decode b_L_load 7 = .ok (.iload 4, 2) := by decide +kernel
theorem d_L_load_9 : decode b_L_load 9 = .ok (.invokevirtual 30, 3) := by decide +kernel
theorem d_L_load_12 : decode b_L_load 12 = .ok (.lastore, 1) := by decide +kernel
theorem d_L_load_13 : decode b_L_load 13 = .ok (.goto 11, 3) := by decide +kernel
theorem d_L_load_16 : decode b_L_load 16 = .ok (.astore 6, 2) := by decide +kernel
theorem d_L_load_18 : decode b_L_load 18 = .ok (.iconst 1, 1) := by decide +kernel
theorem d_L_load_19 : decode b_L_load 19 = .ok (.ireturn, 1) := by decide +kernel
theorem d_L_load_20 : decode b_L_load 20 = .ok (.astore 6, 2) := by decide +kernel
theorem d_L_load_22 : decode b_L_load 22 = .ok (.iconst 2, 1) := by decide +kernel
theorem d_L_load_23 : decode b_L_load 23 = .ok (.ireturn, 1) := by decide +kernel
theorem d_L_load_24 : decode b_L_load 24 = .ok (.iconst 0, 1) := by decide +kernel
theorem d_L_load_25 : decode b_L_load 25 = .ok (.ireturn, 1) := by decide +kernel
theorem d_L_store_0 : decode b_L_store 0 = .ok (.aload_n 0, 1) := by decide +kernel
theorem d_L_store_1 : decode b_L_store 1 = .ok (.iload_n 1, 1) := by decide +kernel
theorem d_L_store_2 : decode b_L_store 2 = .ok (.iload_n 2, 1) := by decide +kernel
theorem d_L_store_3 : decode b_L_store 3 = .ok (.iload_n 3, 1) := by decide +kernel
theorem d_L_store_4 : decode b_L_store 4 = .ok (.iload 4, 2) := by decide +kernel
theorem d_L_store_6 : decode b_L_store 6 = .ok (.lload 5, 2) := by decide +kernel
theorem d_L_store_8 : decode b_L_store 8 = .ok (.invokevirtual 36, 3) := by decide +kernel
theorem d_L_store_11 : decode b_L_store 11 = .ok (.goto 11, 3) := by decide +kernel
theorem d_L_store_14 : decode b_L_store 14 = .ok (.astore 7, 2) := by decide +kernel
theorem d_L_store_16 : decode b_L_store 16 = .ok (.iconst 1, 1) := by decide +kernel
theorem d_L_store_17 : decode b_L_store 17 = .ok (.ireturn, 1) := by decide +kernel
theorem d_L_store_18 : decode b_L_store 18 = .ok (.astore 7, 2) := by decide +kernel
theorem d_L_store_20 : decode b_L_store 20 = .ok (.iconst 2, 1) := by decide +kernel
theorem d_L_store_21 : decode b_L_store 21 = .ok (.ireturn, 1) := by decide +kernel
theorem d_L_store_22 : decode b_L_store 22 = .ok (.iconst 0, 1) := by decide +kernel
theorem d_L_store_23 : decode b_L_store 23 = .ok (.ireturn, 1) := by decide +kernel
theorem d_L_copy_0 : decode b_L_copy 0 = .ok (.aload_n 0, 1) := by decide +kernel
theorem d_L_copy_1 : decode b_L_copy 1 = .ok (.iload_n 1, 1) := by decide +kernel
theorem d_L_copy_2 : decode b_L_copy 2 = .ok (.iload_n 2, 1) := by decide +kernel
theorem d_L_copy_3 : decode b_L_copy 3 = .ok (.iload_n 3, 1) := by decide +kernel
theorem d_L_copy_4 : decode b_L_copy 4 = .ok (.iload 4, 2) := by decide +kernel
theorem d_L_copy_6 : decode b_L_copy 6 = .ok (.iload 5, 2) := by decide +kernel
theorem d_L_copy_8 : decode b_L_copy 8 = .ok (.invokevirtual 40, 3) := by decide +kernel
theorem d_L_copy_11 : decode b_L_copy 11 = .ok (.goto 11, 3) := by decide +kernel
theorem d_L_copy_14 : decode b_L_copy 14 = .ok (.astore 6, 2) := by decide +kernel
theorem d_L_copy_16 : decode b_L_copy 16 = .ok (.iconst 1, 1) := by decide +kernel
theorem d_L_copy_17 : decode b_L_copy 17 = .ok (.ireturn, 1) := by decide +kernel
theorem d_L_copy_18 : decode b_L_copy 18 = .ok (.astore 6, 2) := by decide +kernel
theorem d_L_copy_20 : decode b_L_copy 20 = .ok (.iconst 2, 1) := by decide +kernel
theorem d_L_copy_21 : decode b_L_copy 21 = .ok (.ireturn, 1) := by decide +kernel
theorem d_L_copy_22 : decode b_L_copy 22 = .ok (.iconst 0, 1) := by decide +kernel
theorem d_L_copy_23 : decode b_L_copy 23 = .ok (.ireturn, 1) := by decide +kernel
theorem d_L_sum_0 : decode b_L_sum 0 = .ok (.aload 4, 2) := by decide +kernel
theorem d_L_sum_2 : decode b_L_sum 2 = .ok (.iconst 0, 1) := by decide +kernel
theorem d_L_sum_3 : decode b_L_sum 3 = .ok (.aload_n 0, 1) := by decide +kernel
theorem d_L_sum_4 : decode b_L_sum 4 = .ok (.iload_n 1, 1) := by decide +kernel
theorem d_L_sum_5 : decode b_L_sum 5 = .ok (.iload_n 2, 1) := by decide +kernel
theorem d_L_sum_6 : decode b_L_sum 6 = .ok (.iload_n 3, 1) := by decide +kernel
theorem d_L_sum_7 : decode b_L_sum 7 = .ok (.invokevirtual 44, 3) := by decide +kernel
theorem d_L_sum_10 : decode b_L_sum 10 = .ok (.i2l, 1) := by decide +kernel
theorem d_L_sum_11 : decode b_L_sum 11 = .ok (.lastore, 1) := by decide +kernel
theorem d_L_sum_12 : decode b_L_sum 12 = .ok (.goto 11, 3) := by decide +kernel
theorem d_L_sum_15 : decode b_L_sum 15 = .ok (.astore 5, 2) := by decide +kernel
theorem d_L_sum_17 : decode b_L_sum 17 = .ok (.iconst 1, 1) := by decide +kernel
theorem d_L_sum_18 : decode b_L_sum 18 = .ok (.ireturn, 1) := by decide +kernel
theorem d_L_sum_19 : decode b_L_sum 19 = .ok (.astore 5, 2) := by decide +kernel
theorem d_L_sum_21 : decode b_L_sum 21 = .ok (.iconst 2, 1) := by decide +kernel
theorem d_L_sum_22 : decode b_L_sum 22 = .ok (.ireturn, 1) := by decide +kernel
theorem d_L_sum_23 : decode b_L_sum 23 = .ok (.iconst 0, 1) := by decide +kernel
theorem d_L_sum_24 : decode b_L_sum 24 = .ok (.ireturn, 1) := by decide +kernel
