theorem d_P_init_0 : decode b_P_init 0 = .ok (.aload_n 0, 1) := by decide +kernel
theorem d_P_init_1 : decode b_P_init 1 = .ok (.invokespecial 3, 3) := by decide +kernel
theorem d_P_init_4 : decode b_P_init 4 = .ok (.aload_n 0, 1) := by decide +kernel
theorem d_P_init_5 : decode b_P_init 5 = .ok (.bipush 24, 2) := by decide +kernel
theorem d_P_init_7 : decode b_P_init 7 = .ok (.anewarray 9, 3) := by decide +kernel
theorem d_P_init_10 : decode b_P_init 10 = .ok (.putfield 11, 3) := by decide +kernel
theorem d_P_init_13 : decode b_P_init 13 = .ok (.aload_n 0, 1) := by decide +kernel
theorem d_P_init_14 : decode b_P_init 14 = .ok (.sipush 4096, 3) := by decide +kernel
theorem d_P_init_17 : decode b_P_init 17 = .ok (.newarray .byte, 2) := by decide +kernel
theorem d_P_init_19 : decode b_P_init 19 = .ok (.putfield 15, 3) := by decide +kernel
theorem d_P_init_22 : decode b_P_init 22 = .ok (.aload_n 0, 1) := by decide +kernel
theorem d_P_init_23 : decode b_P_init 23 = .ok (.iconst 0, 1) := by decide +kernel
theorem d_P_init_24 : decode b_P_init 24 = .ok (.putfield 19, 3) := by decide +kernel
theorem d_P_init_27 : decode b_P_init 27 = .ok (.aload_n 0, 1) := by decide +kernel
theorem d_P_init_28 : decode b_P_init 28 = .ok (.iconst 0, 1) := by decide +kernel
theorem d_P_init_29 : decode b_P_init 29 = .ok (.putfield 23, 3) := by decide +kernel
theorem d_P_init_32 : decode b_P_init 32 = .ok (.return_, 1) := by decide +kernel
theorem d_P_make_0 : decode b_P_make 0 = .ok (.iload_n 1, 1) := by decide +kernel
theorem d_P_make_1 : decode b_P_make 1 = .ok (.ifCond .lt 9, 3) := by decide +kernel
theorem d_P_make_4 : decode b_P_make 4 = .ok (.iload_n 1, 1) := by decide +kernel
theorem d_P_make_5 : decode b_P_make 5 = .ok (.ldc 26, 2) := by decide +kernel
theorem d_P_make_7 : decode b_P_make 7 = .ok (.if_icmp .le 13, 3) := by decide +kernel
theorem d_P_make_10 : decode b_P_make 10 = .ok (.new 27, 3) := by decide +kernel
theorem d_P_make_13 : decode b_P_make 13 = .ok (.dup, 1) := by decide +kernel
theorem d_P_make_14 : decode b_P_make 14 = .ok (.ldc 29, 2) := by decide +kernel
theorem d_P_make_16 : decode b_P_make 16 = .ok (.invokespecial 31, 3) := by decide +kernel
theorem d_P_make_19 : decode b_P_make 19 = .ok (.athrow, 1) := by decide +kernel
theorem d_P_make_20 : decode b_P_make 20 = .ok (.iload_n 2, 1) := by decide +kernel
theorem d_P_make_21 : decode b_P_make 21 = .ok (.iconst (-1), 1) := by decide +kernel
theorem d_P_make_22 : decode b_P_make 22 = .ok (.if_icmp .eq 24, 3) := by decide +kernel
theorem d_P_make_25 : decode b_P_make 25 = .ok (.iload_n 2, 1) := by decide +kernel
theorem d_P_make_26 : decode b_P_make 26 = .ok (.iload_n 1, 1) := by decide +kernel
theorem d_P_make_27 : decode b_P_make 27 = .ok (.if_icmp .lt 9, 3) := by decide +kernel
theorem d_P_make_30 : decode b_P_make 30 = .ok (.iload_n 2, 1) := by decide +kernel
theorem d_P_make_31 : decode b_P_make 31 = .ok (.ldc 26, 2) := by decide +kernel
theorem d_P_make_33 : decode b_P_make 33 = .ok (.if_icmp .le 13, 3) := by decide +kernel
theorem d_P_make_36 : decode b_P_make 36 = .ok (.new 27, 3) := by decide +kernel
theorem d_P_make_39 : decode b_P_make 39 = .ok (.dup, 1) := by decide +kernel
theorem d_P_make_40 : decode b_P_make 40 = .ok (.ldc 34, 2) := by decide +kernel
theorem d_P_make_42 : decode b_P_make 42 = .ok (.invokespecial 31, 3) := by decide +kernel
theorem d_P_make_45 : decode b_P_make 45 = .ok (.athrow, 1) := by decide +kernel
theorem d_P_make_46 : decode b_P_make 46 = .ok (.aload_n 0, 1) := by decide +kernel
theorem d_P_make_47 : decode b_P_make 47 = .ok (.getfield 19, 3) := by decide +kernel
theorem d_P_make_50 : decode b_P_make 50 = .ok (.aload_n 0, 1) := by decide +kernel
theorem d_P_make_51 : decode b_P_make 51 = .ok (.getfield 11, 3) := by decide +kernel
theorem d_P_make_54 : decode b_P_make 54 = .ok (.arraylength, 1) := by decide +kernel
theorem d_P_make_55 : decode b_P_make 55 = .ok (.if_icmp .lt 13, 3) := by decide +kernel
theorem d_P_make_58 : decode b_P_make 58 = .ok (.new 36, 3) := by decide +kernel
theorem d_P_make_61 : decode b_P_make 61 = .ok (.dup, 1) := by decide +kernel
theorem d_P_make_62 : decode b_P_make 62 = .ok (.ldc 38, 2) := by decide +kernel
theorem d_P_make_64 : decode b_P_make 64 = .ok (.invokespecial 40, 3) := by decide +kernel
theorem d_P_make_67 : decode b_P_make 67 = .ok (.athrow, 1) := by decide +kernel
theorem d_P_make_68 : decode b_P_make 68 = .ok (.iload_n 1, 1) := by decide +kernel
theorem d_P_make_69 : decode b_P_make 69 = .ok (.bipush 16, 2) := by decide +kernel
theorem d_P_make_71 : decode b_P_make 71 = .ok (.aload_n 0, 1) := by decide +kernel
theorem d_P_make_72 : decode b_P_make 72 = .ok (.getfield 23, 3) := by decide +kernel
theorem d_P_make_75 : decode b_P_make 75 = .ok (.isub, 1) := by decide +kernel
theorem d_P_make_76 : decode b_P_make 76 = .ok (.if_icmp .le 13, 3) := by decide +kernel
theorem d_P_make_79 : decode b_P_make 79 = .ok (.new 41, 3) := by decide +kernel
theorem d_P_make_82 : decode b_P_make 82 = .ok (.dup, 1) := by decide +kernel
theorem d_P_make_83 : decode b_P_make 83 = .ok (.ldc 43, 2) := by decide +kernel
theorem d_P_make_85 : decode b_P_make 85 = .ok (.invokespecial 45, 3) := by decide +kernel
theorem d_P_make_88 : decode b_P_make 88 = .ok (.athrow, 1) := by decide +kernel
theorem d_P_make_89 : decode b_P_make 89 = .ok (.aload_n 0, 1) := by decide +kernel
theorem d_P_make_90 : decode b_P_make 90 = .ok (.getfield 19, 3) := by decide +kernel
theorem d_P_make_93 : decode b_P_make 93 = .ok (.istore_n 3, 1) := by decide +kernel
theorem d_P_make_94 : decode b_P_make 94 = .ok (.aload_n 0, 1) := by decide +kernel
theorem d_P_make_95 : decode b_P_make 95 = .ok (.getfield 11, 3) := by decide +kernel
theorem d_P_make_98 : decode b_P_make 98 = .ok (.iload_n 3, 1) := by decide +kernel
theorem d_P_make_99 : decode b_P_make 99 = .ok (.new 9, 3) := by decide +kernel
theorem d_P_make_102 : decode b_P_make 102 = .ok (.dup, 1) := by decide +kernel
theorem d_P_make_103 : decode b_P_make 103 = .ok (.iload_n 1, 1) := by decide +kernel
theorem d_P_make_104 : decode b_P_make 104 = .ok (.iload_n 2, 1) := by decide +kernel
theorem d_P_make_105 : decode b_P_make 105 = .ok (.invokespecial 46, 3) := by decide +kernel
theorem d_P_make_108 : decode b_P_make 108 = .ok (.aastore, 1) := by decide +kernel
theorem d_P_make_109 : decode b_P_make 109 = .ok (.aload_n 0, 1) := by decide +kernel
theorem d_P_make_110 : decode b_P_make 110 = .ok (.iload_n 3, 1) := by decide +kernel
theorem d_P_make_111 : decode b_P_make 111 = .ok (.iconst 1, 1) := by decide +kernel
theorem d_P_make_112 : decode b_P_make 112 = .ok (.iadd, 1) := by decide +kernel
theorem d_P_make_113 : decode b_P_make 113 = .ok (.putfield 19, 3) := by decide +kernel
theorem d_P_make_116 : decode b_P_make 116 = .ok (.aload_n 0, 1) := by decide +kernel
theorem d_P_make_117 : decode b_P_make 117 = .ok (.dup, 1) := by decide +kernel
theorem d_P_make_118 : decode b_P_make 118 = .ok (.getfield 23, 3) := by decide +kernel
theorem d_P_make_121 : decode b_P_make 121 = .ok (.iload_n 1, 1) := by decide +kernel
theorem d_P_make_122 : decode b_P_make 122 = .ok (.iadd, 1) := by decide +kernel
theorem d_P_make_123 : decode b_P_make 123 = .ok (.putfield 23, 3) := by decide +kernel
theorem d_P_make_126 : decode b_P_make 126 = .ok (.iload_n 3, 1) := by decide +kernel
theorem d_P_make_127 : decode b_P_make 127 = .ok (.ireturn, 1) := by decide +kernel
theorem d_P_pages_0 : decode b_P_pages 0 = .ok (.aload_n 0, 1) := by decide +kernel
theorem d_P_pages_1 : decode b_P_pages 1 = .ok (.iload_n 1, 1) := by decide +kernel
theorem d_P_pages_2 : decode b_P_pages 2 = .ok (.invokevirtual 49, 3) := by decide +kernel
theorem d_P_pages_5 : decode b_P_pages 5 = .ok (.getfield 53, 3) := by decide +kernel
theorem d_P_pages_8 : decode b_P_pages 8 = .ok (.ireturn, 1) := by decide +kernel
theorem d_P_grow_0 : decode b_P_grow 0 = .ok (.aload_n 0, 1) := by decide +kernel
theorem d_P_grow_1 : decode b_P_grow 1 = .ok (.iload_n 1, 1) := by decide +kernel
theorem d_P_grow_2 : decode b_P_grow 2 = .ok (.invokevirtual 49, 3) := by decide +kernel
theorem d_P_grow_5 : decode b_P_grow 5 = .ok (.astore_n 3, 1) := by decide +kernel
theorem d_P_grow_6 : decode b_P_grow 6 = .ok (.iload_n 2, 1) := by decide +kernel
theorem d_P_grow_7 : decode b_P_grow 7 = .ok (.invokestatic 56, 3) := by decide +kernel
theorem d_P_grow_10 : decode b_P_grow 10 = .ok (.lstore 4, 2) := by decide +kernel
theorem d_P_grow_12 : decode b_P_grow 12 = .ok (.aload_n 3, 1) := by decide +kernel
theorem d_P_grow_13 : decode b_P_grow 13 = .ok (.getfield 53, 3) := by decide +kernel
theorem d_P_grow_16 : decode b_P_grow 16 = .ok (.istore 6, 2) := by decide +kernel
theorem d_P_grow_18 : decode b_P_grow 18 = .ok (.iload 6, 2) := by decide +kernel
theorem d_P_grow_20 : decode b_P_grow 20 = .ok (.i2l, 1) := by decide +kernel
theorem d_P_grow_21 : decode b_P_grow 21 = .ok (.lload 4, 2) := by decide +kernel
theorem d_P_grow_23 : decode b_P_grow 23 = .ok (.ladd, 1) := by decide +kernel
theorem d_P_grow_24 : decode b_P_grow 24 = .ok (.aload_n 3, 1) := by decide +kernel
theorem d_P_grow_25 : decode b_P_grow 25 = .ok (.invokevirtual 60, 3) := by decide +kernel
theorem d_P_grow_28 : decode b_P_grow 28 = .ok (.i2l, 1) := by decide +kernel
theorem d_P_grow_29 : decode b_P_grow 29 = .ok (.lcmp, 1) := by decide +kernel
theorem d_P_grow_30 : decode b_P_grow 30 = .ok (.ifCond .gt 18, 3) := by decide +kernel
theorem d_P_grow_33 : decode b_P_grow 33 = .ok (.aload_n 0, 1) := by decide +kernel
theorem d_P_grow_34 : decode b_P_grow 34 = .ok (.getfield 23, 3) := by decide +kernel
theorem d_P_grow_37 : decode b_P_grow 37 = .ok (.i2l, 1) := by decide +kernel
theorem d_P_grow_38 : decode b_P_grow 38 = .ok (.lload 4, 2) := by decide +kernel
theorem d_P_grow_40 : decode b_P_grow 40 = .ok (.ladd, 1) := by decide +kernel
theorem d_P_grow_41 : decode b_P_grow 41 = .ok (.ldc2_w 64, 3) := by decide +kernel
theorem d_P_grow_44 : decode b_P_grow 44 = .ok (.lcmp, 1) := by decide +kernel
theorem d_P_grow_45 : decode b_P_grow 45 = .ok (.ifCond .le 5, 3) := by decide +kernel
theorem d_P_grow_48 : decode b_P_grow 48 = .ok (.iconst (-1), 1) := by decide +kernel
theorem d_P_grow_49 : decode b_P_grow 49 = .ok (.ireturn, 1) := by decide +kernel
theorem d_P_grow_50 : decode b_P_grow 50 = .ok (.aload_n 3, 1) := by decide +kernel
theorem d_P_grow_51 : decode b_P_grow 51 = .ok (.iload 6, 2) := by decide +kernel
theorem d_P_grow_53 : decode b_P_grow 53 = .ok (.iload_n 2, 1) := by decide +kernel
theorem d_P_grow_54 : decode b_P_grow 54 = .ok (.iadd, 1) := by decide +kernel
theorem d_P_grow_55 : decode b_P_grow 55 = .ok (.putfield 53, 3) := by decide +kernel
theorem d_P_grow_58 : decode b_P_grow 58 = .ok (.aload_n 0, 1) := by decide +kernel
theorem d_P_grow_59 : decode b_P_grow 59 = .ok (.dup, 1) := by decide +kernel
theorem d_P_grow_60 : decode b_P_grow 60 = .ok (.getfield 23, 3) := by decide +kernel
theorem d_P_grow_63 : decode b_P_grow 63 = .ok (.iload_n 2, 1) := by decide +kernel
theorem d_P_grow_64 : decode b_P_grow 64 = .ok (.iadd, 1) := by decide +kernel
theorem d_P_grow_65 : decode b_P_grow 65 = .ok (.putfield 23, 3) := by decide +kernel
theorem d_P_grow_68 : decode b_P_grow 68 = .ok (.iload 6, 2) := by decide +kernel
theorem d_P_grow_70 : decode b_P_grow 70 = .ok (.ireturn, 1) := by decide +kernel
theorem d_P_fits_0 : decode b_P_fits 0 = .ok (.aload_n 0, 1) := by decide +kernel
theorem d_P_fits_1 : decode b_P_fits 1 = .ok (.iload_n 1, 1) := by decide +kernel
theorem d_P_fits_2 : decode b_P_fits 2 = .ok (.invokevirtual 49, 3) := by decide +kernel
theorem d_P_fits_5 : decode b_P_fits 5 = .ok (.astore 4, 2) := by decide +kernel
theorem d_P_fits_7 : decode b_P_fits 7 = .ok (.aload 4, 2) := by decide +kernel
theorem d_P_fits_9 : decode b_P_fits 9 = .ok (.getfield 53, 3) := by decide +kernel
theorem d_P_fits_12 : decode b_P_fits 12 = .ok (.iload_n 2, 1) := by decide +kernel
theorem d_P_fits_13 : decode b_P_fits 13 = .ok (.if_icmp .ge 5, 3) := by decide +kernel
theorem d_P_fits_16 : decode b_P_fits 16 = .ok (.iconst 0, 1) := by decide +kernel
theorem d_P_fits_17 : decode b_P_fits 17 = .ok (.ireturn, 1) := by decide +kernel
theorem d_P_fits_18 : decode b_P_fits 18 = .ok (.iload_n 3, 1) := by decide +kernel
theorem d_P_fits_19 : decode b_P_fits 19 = .ok (.iconst (-1), 1) := by decide +kernel
theorem d_P_fits_20 : decode b_P_fits 20 = .ok (.if_icmp .eq 21, 3) := by decide +kernel
theorem d_P_fits_23 : decode b_P_fits 23 = .ok (.aload 4, 2) := by decide +kernel
theorem d_P_fits_25 : decode b_P_fits 25 = .ok (.getfield 66, 3) := by decide +kernel
theorem d_P_fits_28 : decode b_P_fits 28 = .ok (.iconst (-1), 1) := by decide +kernel
theorem d_P_fits_29 : decode b_P_fits 29 = .ok (.if_icmp .eq 16, 3) := by decide +kernel
theorem d_P_fits_32 : decode b_P_fits 32 = .ok (.aload 4, 2) := by decide +kernel
theorem d_P_fits_34 : decode b_P_fits 34 = .ok (.getfield 66, 3) := by decide +kernel
theorem d_P_fits_37 : decode b_P_fits 37 = .ok (.iload_n 3, 1) := by decide +kernel
theorem d_P_fits_38 : decode b_P_fits 38 = .ok (.if_icmp .gt 7, 3) := by decide +kernel
theorem d_P_fits_41 : decode b_P_fits 41 = .ok (.iconst 1, 1) := by decide +kernel
theorem d_P_fits_42 : decode b_P_fits 42 = .ok (.goto 4, 3) := by decide +kernel
theorem d_P_fits_45 : decode b_P_fits 45 = .ok (.iconst 0, 1) := by decide +kernel
theorem d_P_fits_46 : decode b_P_fits 46 = .ok (.ireturn, 1) := by decide +kernel
theorem d_P_load_0 : decode b_P_load 0 = .ok (.aload_n 0, 1) := by decide +kernel
theorem d_P_load_1 : decode b_P_load 1 = .ok (.iload_n 1, 1) := by decide +kernel
theorem d_P_load_2 : decode b_P_load 2 = .ok (.invokevirtual 49, 3) := by decide +kernel
theorem d_P_load_5 : decode b_P_load 5 = .ok (.astore 5, 2) := by decide +kernel
theorem d_P_load_7 : decode b_P_load 7 = .ok (.iload_n 2, 1) := by decide +kernel
theorem d_P_load_8 : decode b_P_load 8 = .ok (.bipush 40, 2) := by decide +kernel
theorem d_P_load_10 : decode b_P_load 10 = .ok (.getstatic 69, 3) := by decide +kernel
theorem d_P_load_13 : decode b_P_load 13 = .ok (.arraylength, 1) := by decide +kernel
theorem d_P_load_14 : decode b_P_load 14 = .ok (.invokestatic 73, 3) := by decide +kernel
theorem d_P_load_17 : decode b_P_load 17 = .ok (.istore 6, 2) := by decide +kernel
theorem d_P_load_19 : decode b_P_load 19 = .ok (.getstatic 69, 3) := by decide +kernel
theorem d_P_load_22 : decode b_P_load 22 = .ok (.iload 6, 2) := by decide +kernel
theorem d_P_load_24 : decode b_P_load 24 = .ok (.iaload, 1) := by decide +kernel
theorem d_P_load_25 : decode b_P_load 25 = .ok (.istore 7, 2) := by decide +kernel
theorem d_P_load_27 : decode b_P_load 27 = .ok (.aload 5, 2) := by decide +kernel
theorem d_P_load_29 : decode b_P_load 29 = .ok (.iload_n 3, 1) := by decide +kernel
theorem d_P_load_30 : decode b_P_load 30 = .ok (.iload 4, 2) := by decide +kernel
theorem d_P_load_32 : decode b_P_load 32 = .ok (.iload 7, 2) := by decide +kernel
theorem d_P_load_34 : decode b_P_load 34 = .ok (.invokestatic 77, 3) := by decide +kernel
theorem d_P_load_37 : decode b_P_load 37 = .ok (.istore 8, 2) := by decide +kernel
theorem d_P_load_39 : decode b_P_load 39 = .ok (.aload 5, 2) := by decide +kernel
theorem d_P_load_41 : decode b_P_load 41 = .ok (.iload 8, 2) := by decide +kernel
theorem d_P_load_43 : decode b_P_load 43 = .ok (.iload 7, 2) := by decide +kernel
theorem d_P_load_45 : decode b_P_load 45 = .ok (.invokevirtual 81, 3) := by decide +kernel
theorem d_P_load_48 : decode b_P_load 48 = .ok (.lstore 9, 2) := by decide +kernel
theorem d_P_load_50 : decode b_P_load 50 = .ok (.getstatic 85, 3) := by decide +kernel
theorem d_P_load_53 : decode b_P_load 53 = .ok (.iload 6, 2) := by decide +kernel
theorem d_P_load_55 : decode b_P_load 55 = .ok (.iaload, 1) := by decide +kernel
theorem d_P_load_56 : decode b_P_load 56 = .ok (.iconst 1, 1) := by decide +kernel
theorem d_P_load_57 : decode b_P_load 57 = .ok (.if_icmp .ne 12, 3) := by decide +kernel
theorem d_P_load_60 : decode b_P_load 60 = .ok (.lload 9, 2) := by decide +kernel
theorem d_P_load_62 : decode b_P_load 62 = .ok (.iload 7, 2) := by decide +kernel
theorem d_P_load_64 : decode b_P_load 64 = .ok (.invokestatic 88, 3) := by decide +kernel
theorem d_P_load_67 : decode b_P_load 67 = .ok (.lstore 9, 2) := by decide +kernel
theorem d_P_load_69 : decode b_P_load 69 = .ok (.getstatic 92, 3) := by decide +kernel
theorem d_P_load_72 : decode b_P_load 72 = .ok (.iload 6, 2) := by decide +kernel
theorem d_P_load_74 : decode b_P_load 74 = .ok (.iaload, 1) := by decide +kernel
theorem d_P_load_75 : decode b_P_load 75 = .ok (.iconst 4, 1) := by decide +kernel
theorem d_P_load_76 : decode b_P_load 76 = .ok (.if_icmp .ne 12, 3) := by decide +kernel
theorem d_P_load_79 : decode b_P_load 79 = .ok (.lload 9, 2) := by decide +kernel
theorem d_P_load_81 : decode b_P_load 81 = .ok (.ldc2_w 95, 3) := by decide +kernel
theorem d_P_load_84 : decode b_P_load 84 = .ok (.land, 1) := by decide +kernel
theorem d_P_load_85 : decode b_P_load 85 = .ok (.goto 5, 3) := by decide +kernel
theorem d_P_load_88 : decode b_P_load 88 = .ok (.lload 9, 2) := by decide +kernel
theorem d_P_load_90 : decode b_P_load 90 = .ok (.lreturn, 1) := by decide +kernel
theorem d_P_store_0 : decode b_P_store 0 = .ok (.aload_n 0, 1) := by decide +kernel
theorem d_P_store_1 : decode b_P_store 1 = .ok (.iload_n 1, 1) := by decide +kernel
theorem d_P_store_2 : decode b_P_store 2 = .ok (.invokevirtual 49, 3) := by decide +kernel
theorem d_P_store_5 : decode b_P_store 5 = .ok (.astore 7, 2) := by decide +kernel
theorem d_P_store_7 : decode b_P_store 7 = .ok (.getstatic 97, 3) := by decide +kernel
theorem d_P_store_10 : decode b_P_store 10 = .ok (.iload_n 2, 1) := by decide +kernel
theorem d_P_store_11 : decode b_P_store 11 = .ok (.bipush 54, 2) := by decide +kernel
theorem d_P_store_13 : decode b_P_store 13 = .ok (.getstatic 97, 3) := by decide +kernel
theorem d_P_store_16 : decode b_P_store 16 = .ok (.arraylength, 1) := by decide +kernel
theorem d_P_store_17 : decode b_P_store 17 = .ok (.invokestatic 73, 3) := by decide +kernel
theorem d_P_store_20 : decode b_P_store 20 = .ok (.iaload, 1) := by decide +kernel
theorem d_P_store_21 : decode b_P_store 21 = .ok (.istore 8, 2) := by decide +kernel
theorem d_P_store_23 : decode b_P_store 23 = .ok (.aload 7, 2) := by decide +kernel
theorem d_P_store_25 : decode b_P_store 25 = .ok (.iload_n 3, 1) := by decide +kernel
theorem d_P_store_26 : decode b_P_store 26 = .ok (.iload 4, 2) := by decide +kernel
theorem d_P_store_28 : decode b_P_store 28 = .ok (.iload 8, 2) := by decide +kernel
theorem d_P_store_30 : decode b_P_store 30 = .ok (.invokestatic 77, 3) := by decide +kernel
theorem d_P_store_33 : decode b_P_store 33 = .ok (.istore 9, 2) := by decide +kernel
theorem d_P_store_35 : decode b_P_store 35 = .ok (.aload 7, 2) := by decide +kernel
theorem d_P_store_37 : decode b_P_store 37 = .ok (.iload 9, 2) := by decide +kernel
theorem d_P_store_39 : decode b_P_store 39 = .ok (.iload 8, 2) := by decide +kernel
theorem d_P_store_41 : decode b_P_store 41 = .ok (.lload 5, 2) := by decide +kernel
theorem d_P_store_43 : decode b_P_store 43 = .ok (.invokevirtual 100, 3) := by decide +kernel
theorem d_P_store_46 : decode b_P_store 46 = .ok (.return_, 1) := by decide +kernel
theorem d_P_copy_0 : decode b_P_copy 0 = .ok (.aload_n 0, 1) := by decide +kernel
theorem d_P_copy_1 : decode b_P_copy 1 = .ok (.iload_n 1, 1) := by decide +kernel
theorem d_P_copy_2 : decode b_P_copy 2 = .ok (.invokevirtual 49, 3) := by decide +kernel
theorem d_P_copy_5 : decode b_P_copy 5 = .ok (.astore 6, 2) := by decide +kernel
theorem d_P_copy_7 : decode b_P_copy 7 = .ok (.aload_n 0, 1) := by decide +kernel
theorem d_P_copy_8 : decode b_P_copy 8 = .ok (.iload_n 3, 1) := by decide +kernel
theorem d_P_copy_9 : decode b_P_copy 9 = .ok (.invokevirtual 49, 3) := by decide +kernel
theorem d_P_copy_12 : decode b_P_copy 12 = .ok (.astore 7, 2) := by decide +kernel
theorem d_P_copy_14 : decode b_P_copy 14 = .ok (.iload 5, 2) := by decide +kernel
theorem d_P_copy_16 : decode b_P_copy 16 = .ok (.sipush 4096, 3) := by decide +kernel
theorem d_P_copy_19 : decode b_P_copy 19 = .ok (.invokestatic 104, 3) := by decide +kernel
theorem d_P_copy_22 : decode b_P_copy 22 = .ok (.iload 5, 2) := by decide +kernel
theorem d_P_copy_24 : decode b_P_copy 24 = .ok (.ifCond .ne 4, 3) := by decide +kernel
theorem d_P_copy_27 : decode b_P_copy 27 = .ok (.return_, 1) := by decide +kernel
theorem d_P_copy_28 : decode b_P_copy 28 = .ok (.aload 6, 2) := by decide +kernel
theorem d_P_copy_30 : decode b_P_copy 30 = .ok (.iload_n 2, 1) := by decide +kernel
theorem d_P_copy_31 : decode b_P_copy 31 = .ok (.i2l, 1) := by decide +kernel
theorem d_P_copy_32 : decode b_P_copy 32 = .ok (.iload 5, 2) := by decide +kernel
theorem d_P_copy_34 : decode b_P_copy 34 = .ok (.invokestatic 107, 3) := by decide +kernel
theorem d_P_copy_37 : decode b_P_copy 37 = .ok (.aload 7, 2) := by decide +kernel
theorem d_P_copy_39 : decode b_P_copy 39 = .ok (.iload 4, 2) := by decide +kernel
theorem d_P_copy_41 : decode b_P_copy 41 = .ok (.i2l, 1) := by decide +kernel
theorem d_P_copy_42 : decode b_P_copy 42 = .ok (.iload 5, 2) := by decide +kernel
theorem d_P_copy_44 : decode b_P_copy 44 = .ok (.invokestatic 107, 3) := by decide +kernel
theorem d_P_copy_47 : decode b_P_copy 47 = .ok (.aload 6, 2) := by decide +kernel
theorem d_P_copy_49 : decode b_P_copy 49 = .ok (.aload_n 0, 1) := by decide +kernel
theorem d_P_copy_50 : decode b_P_copy 50 = .ok (.getfield 15, 3) := by decide +kernel
theorem d_P_copy_53 : decode b_P_copy 53 = .ok (.iload_n 2, 1) := by decide +kernel
theorem d_P_copy_54 : decode b_P_copy 54 = .ok (.iload 5, 2) := by decide +kernel
theorem d_P_copy_56 : decode b_P_copy 56 = .ok (.invokevirtual 111, 3) := by decide +kernel
theorem d_P_copy_59 : decode b_P_copy 59 = .ok (.aload 7, 2) := by decide +kernel
theorem d_P_copy_61 : decode b_P_copy 61 = .ok (.aload_n 0, 1) := by decide +kernel
theorem d_P_copy_62 : decode b_P_copy 62 = .ok (.getfield 15, 3) := by decide +kernel
theorem d_P_copy_65 : decode b_P_copy 65 = .ok (.iload 4, 2) := by decide +kernel
theorem d_P_copy_67 : decode b_P_copy 67 = .ok (.iload 5, 2) := by decide +kernel
theorem d_P_copy_69 : decode b_P_copy 69 = .ok (.invokevirtual 115, 3) := by decide +kernel
theorem d_P_copy_72 : decode b_P_copy 72 = .ok (.return_, 1) := by decide +kernel
theorem d_P_sum_0 : decode b_P_sum 0 = .ok (.aload_n 0, 1) := by decide +kernel
theorem d_P_sum_1 : decode b_P_sum 1 = .ok (.iload_n 1, 1) := by decide +kernel
theorem d_P_sum_2 : decode b_P_sum 2 = .ok (.invokevirtual 49, 3) := by decide +kernel
theorem d_P_sum_5 : decode b_P_sum 5 = .ok (.astore 4, 2) := by decide +kernel
theorem d_P_sum_7 : decode b_P_sum 7 = .ok (.iload_n 3, 1) := by decide +kernel
theorem d_P_sum_8 : decode b_P_sum 8 = .ok (.ldc 26, 2) := by decide +kernel
theorem d_P_sum_10 : decode b_P_sum 10 = .ok (.invokestatic 104, 3) := by decide +kernel
theorem d_P_sum_13 : decode b_P_sum 13 = .ok (.iload_n 3, 1) := by decide +kernel
theorem d_P_sum_14 : decode b_P_sum 14 = .ok (.ifCond .ne 5, 3) := by decide +kernel
theorem d_P_sum_17 : decode b_P_sum 17 = .ok (.iconst 0, 1) := by decide +kernel
theorem d_P_sum_18 : decode b_P_sum 18 = .ok (.ireturn, 1) := by decide +kernel
theorem d_P_sum_19 : decode b_P_sum 19 = .ok (.aload 4, 2) := by decide +kernel
theorem d_P_sum_21 : decode b_P_sum 21 = .ok (.iload_n 2, 1) := by decide +kernel
theorem d_P_sum_22 : decode b_P_sum 22 = .ok (.i2l, 1) := by decide +kernel
theorem d_P_sum_23 : decode b_P_sum 23 = .ok (.iload_n 3, 1) := by decide +kernel
theorem d_P_sum_24 : decode b_P_sum 24 = .ok (.invokestatic 107, 3) := by decide +kernel
theorem d_P_sum_27 : decode b_P_sum 27 = .ok (.aload 4, 2) := by decide +kernel
theorem d_P_sum_29 : decode b_P_sum 29 = .ok (.iload_n 2, 1) := by decide +kernel
theorem d_P_sum_30 : decode b_P_sum 30 = .ok (.iload_n 3, 1) := by decide +kernel
theorem d_P_sum_31 : decode b_P_sum 31 = .ok (.invokevirtual 118, 3) := by decide +kernel
theorem d_P_sum_34 : decode b_P_sum 34 = .ok (.ireturn, 1) := by decide +kernel
theorem d_P_memoryOf_0 : decode b_P_memoryOf 0 = .ok (.iload_n 1, 1) := by decide +kernel
theorem d_P_memoryOf_1 : decode b_P_memoryOf 1 = .ok (.ifCond .lt 21, 3) := by decide +kernel
theorem d_P_memoryOf_4 : decode b_P_memoryOf 4 = .ok (.iload_n 1, 1) := by decide +kernel
theorem d_P_memoryOf_5 : decode b_P_memoryOf 5 = .ok (.aload_n 0, 1) := by decide +kernel
theorem d_P_memoryOf_6 : decode b_P_memoryOf 6 = .ok (.getfield 11, 3) := by decide +kernel
theorem d_P_memoryOf_9 : decode b_P_memoryOf 9 = .ok (.arraylength, 1) := by decide +kernel
theorem d_P_memoryOf_10 : decode b_P_memoryOf 10 = .ok (.if_icmp .ge 12, 3) := by decide +kernel
theorem d_P_memoryOf_13 : decode b_P_memoryOf 13 = .ok (.aload_n 0, 1) := by decide +kernel
theorem d_P_memoryOf_14 : decode b_P_memoryOf 14 = .ok (.getfield 11, 3) := by decide +kernel
theorem d_P_memoryOf_17 : decode b_P_memoryOf 17 = .ok (.iload_n 1, 1) := by decide +kernel
theorem d_P_memoryOf_18 : decode b_P_memoryOf 18 = .ok (.aaload, 1) := by decide +kernel
theorem d_P_memoryOf_19 : decode b_P_memoryOf 19 = .ok (.ifnonnull 13, 3) := by decide +kernel
theorem d_P_memoryOf_22 : decode b_P_memoryOf 22 = .ok (.new 27, 3) := by decide +kernel
theorem d_P_memoryOf_25 : decode b_P_memoryOf 25 = .ok (.dup, 1) := by decide +kernel
theorem d_P_memoryOf_26 : decode b_P_memoryOf 26 = .ok (.ldc 122, 2) := by decide +kernel
theorem d_P_memoryOf_28 : decode b_P_memoryOf 28 = .ok (.invokespecial 31, 3) := by decide +kernel
theorem d_P_memoryOf_31 : decode b_P_memoryOf 31 = .ok (.athrow, 1) := by decide +kernel
theorem d_P_memoryOf_32 : decode b_P_memoryOf 32 = .ok (.aload_n 0, 1) := by decide +kernel
theorem d_P_memoryOf_33 : decode b_P_memoryOf 33 = .ok (.getfield 11, 3) := by decide +kernel
theorem d_P_memoryOf_36 : decode b_P_memoryOf 36 = .ok (.iload_n 1, 1) := by decide +kernel
theorem d_P_memoryOf_37 : decode b_P_memoryOf 37 = .ok (.aaload, 1) := by decide +kernel
theorem d_P_memoryOf_38 : decode b_P_memoryOf 38 = .ok (.areturn, 1) := by decide +kernel
theorem d_P_kindOf_0 : decode b_P_kindOf 0 = .ok (.iload_n 0, 1) := by decide +kernel
theorem d_P_kindOf_1 : decode b_P_kindOf 1 = .ok (.iload_n 1, 1) := by decide +kernel
theorem d_P_kindOf_2 : decode b_P_kindOf 2 = .ok (.if_icmp .lt 10, 3) := by decide +kernel
theorem d_P_kindOf_5 : decode b_P_kindOf 5 = .ok (.iload_n 0, 1) := by decide +kernel
theorem d_P_kindOf_6 : decode b_P_kindOf 6 = .ok (.iload_n 1, 1) := by decide +kernel
theorem d_P_kindOf_7 : decode b_P_kindOf 7 = .ok (.iload_n 2, 1) := by decide +kernel
theorem d_P_kindOf_8 : decode b_P_kindOf 8 = .ok (.iadd, 1) := by decide +kernel
theorem d_P_kindOf_9 : decode b_P_kindOf 9 = .ok (.if_icmp .lt 13, 3) := by decide +kernel
theorem d_P_kindOf_12 : decode b_P_kindOf 12 = .ok (.new 27, 3) := by decide +kernel
theorem d_P_kindOf_15 : decode b_P_kindOf 15 = .ok (.dup, 1) := by decide +kernel
theorem d_P_kindOf_16 : decode b_P_kindOf 16 = .ok (.ldc 124, 2) := by decide +kernel
theorem d_P_kindOf_18 : decode b_P_kindOf 18 = .ok (.invokespecial 31, 3) := by decide +kernel
theorem d_P_kindOf_21 : decode b_P_kindOf 21 = .ok (.athrow, 1) := by decide +kernel
theorem d_P_kindOf_22 : decode b_P_kindOf 22 = .ok (.iload_n 0, 1) := by decide +kernel
theorem d_P_kindOf_23 : decode b_P_kindOf 23 = .ok (.iload_n 1, 1) := by decide +kernel
theorem d_P_kindOf_24 : decode b_P_kindOf 24 = .ok (.isub, 1) := by decide +kernel
theorem d_P_kindOf_25 : decode b_P_kindOf 25 = .ok (.ireturn, 1) := by decide +kernel
theorem d_P_placeOf_0 : decode b_P_placeOf 0 = .ok (.iload_n 1, 1) := by decide +kernel
theorem d_P_placeOf_1 : decode b_P_placeOf 1 = .ok (.invokestatic 56, 3) := by decide +kernel
theorem d_P_placeOf_4 : decode b_P_placeOf 4 = .ok (.iload_n 2, 1) := by decide +kernel
theorem d_P_placeOf_5 : decode b_P_placeOf 5 = .ok (.invokestatic 56, 3) := by decide +kernel
theorem d_P_placeOf_8 : decode b_P_placeOf 8 = .ok (.ladd, 1) := by decide +kernel
theorem d_P_placeOf_9 : decode b_P_placeOf 9 = .ok (.lstore 4, 2) := by decide +kernel
theorem d_P_placeOf_11 : decode b_P_placeOf 11 = .ok (.aload_n 0, 1) := by decide +kernel
theorem d_P_placeOf_12 : decode b_P_placeOf 12 = .ok (.lload 4, 2) := by decide +kernel
theorem d_P_placeOf_14 : decode b_P_placeOf 14 = .ok (.iload_n 3, 1) := by decide +kernel
theorem d_P_placeOf_15 : decode b_P_placeOf 15 = .ok (.invokestatic 107, 3) := by decide +kernel
theorem d_P_placeOf_18 : decode b_P_placeOf 18 = .ok (.lload 4, 2) := by decide +kernel
theorem d_P_placeOf_20 : decode b_P_placeOf 20 = .ok (.l2i, 1) := by decide +kernel
theorem d_P_placeOf_21 : decode b_P_placeOf 21 = .ok (.ireturn, 1) := by decide +kernel
theorem d_P_checkCount_0 : decode b_P_checkCount 0 = .ok (.iload_n 0, 1) := by decide +kernel
theorem d_P_checkCount_1 : decode b_P_checkCount 1 = .ok (.ifCond .lt 8, 3) := by decide +kernel
theorem d_P_checkCount_4 : decode b_P_checkCount 4 = .ok (.iload_n 0, 1) := by decide +kernel
theorem d_P_checkCount_5 : decode b_P_checkCount 5 = .ok (.iload_n 1, 1) := by decide +kernel
theorem d_P_checkCount_6 : decode b_P_checkCount 6 = .ok (.if_icmp .le 13, 3) := by decide +kernel
theorem d_P_checkCount_9 : decode b_P_checkCount 9 = .ok (.new 27, 3) := by decide +kernel
theorem d_P_checkCount_12 : decode b_P_checkCount 12 = .ok (.dup, 1) := by decide +kernel
theorem d_P_checkCount_13 : decode b_P_checkCount 13 = .ok (.ldc 126, 2) := by decide +kernel
theorem d_P_checkCount_15 : decode b_P_checkCount 15 = .ok (.invokespecial 31, 3) := by decide +kernel
theorem d_P_checkCount_18 : decode b_P_checkCount 18 = .ok (.athrow, 1) := by decide +kernel
theorem d_P_checkCount_19 : decode b_P_checkCount 19 = .ok (.return_, 1) := by decide +kernel
theorem d_P_checkThere_0 : decode b_P_checkThere 0 = .ok (.lload_n 1, 1) := by decide +kernel
theorem d_P_checkThere_1 : decode b_P_checkThere 1 = .ok (.lconst 0, 1) := by decide +kernel
theorem d_P_checkThere_2 : decode b_P_checkThere 2 = .ok (.lcmp, 1) := by decide +kernel
theorem d_P_checkThere_3 : decode b_P_checkThere 3 = .ok (.ifCond .lt 15, 3) := by decide +kernel
theorem d_P_checkThere_6 : decode b_P_checkThere 6 = .ok (.lload_n 1, 1) := by decide +kernel
theorem d_P_checkThere_7 : decode b_P_checkThere 7 = .ok (.iload_n 3, 1) := by decide +kernel
theorem d_P_checkThere_8 : decode b_P_checkThere 8 = .ok (.i2l, 1) := by decide +kernel
theorem d_P_checkThere_9 : decode b_P_checkThere 9 = .ok (.ladd, 1) := by decide +kernel
theorem d_P_checkThere_10 : decode b_P_checkThere 10 = .ok (.aload_n 0, 1) := by decide +kernel
theorem d_P_checkThere_11 : decode b_P_checkThere 11 = .ok (.invokevirtual 128, 3) := by decide +kernel
theorem d_P_checkThere_14 : decode b_P_checkThere 14 = .ok (.lcmp, 1) := by decide +kernel
theorem d_P_checkThere_15 : decode b_P_checkThere 15 = .ok (.ifCond .le 13, 3) := by decide +kernel
theorem d_P_checkThere_18 : decode b_P_checkThere 18 = .ok (.new 132, 3) := by decide +kernel
theorem d_P_checkThere_21 : decode b_P_checkThere 21 = .ok (.dup, 1) := by decide +kernel
theorem d_P_checkThere_22 : decode b_P_checkThere 22 = .ok (.ldc 134, 2) := by decide +kernel
theorem d_P_checkThere_24 : decode b_P_checkThere 24 = .ok (.invokespecial 136, 3) := by decide +kernel
theorem d_P_checkThere_27 : decode b_P_checkThere 27 = .ok (.athrow, 1) := by decide +kernel
theorem d_P_checkThere_28 : decode b_P_checkThere 28 = .ok (.return_, 1) := by decide +kernel
theorem d_P_withoutSign_0 : decode b_P_withoutSign 0 = .ok (.iload_n 0, 1) := by decide +kernel
theorem d_P_withoutSign_1 : decode b_P_withoutSign 1 = .ok (.i2l, 1) := by decide +kernel
theorem d_P_withoutSign_2 : decode b_P_withoutSign 2 = .ok (.ldc2_w 95, 3) := by decide +kernel
theorem d_P_withoutSign_5 : decode b_P_withoutSign 5 = .ok (.land, 1) := by decide +kernel
theorem d_P_withoutSign_6 : decode b_P_withoutSign 6 = .ok (.lreturn, 1) := by decide +kernel
theorem d_P_withSign_0 : decode b_P_withSign 0 = .ok (.bipush 8, 2) := by decide +kernel
theorem d_P_withSign_2 : decode b_P_withSign 2 = .ok (.bipush 8, 2) := by decide +kernel
theorem d_P_withSign_4 : decode b_P_withSign 4 = .ok (.iload_n 2, 1) := by decide +kernel
theorem d_P_withSign_5 : decode b_P_withSign 5 = .ok (.isub, 1) := by decide +kernel
theorem d_P_withSign_6 : decode b_P_withSign 6 = .ok (.imul, 1) := by decide +kernel
theorem d_P_withSign_7 : decode b_P_withSign 7 = .ok (.istore_n 3, 1) := by decide +kernel
theorem d_P_withSign_8 : decode b_P_withSign 8 = .ok (.lload_n 0, 1) := by decide +kernel
theorem d_P_withSign_9 : decode b_P_withSign 9 = .ok (.iload_n 3, 1) := by decide +kernel
theorem d_P_withSign_10 : decode b_P_withSign 10 = .ok (.lshl, 1) := by decide +kernel
theorem d_P_withSign_11 : decode b_P_withSign 11 = .ok (.iload_n 3, 1) := by decide +kernel
theorem d_P_withSign_12 : decode b_P_withSign 12 = .ok (.lshr, 1) := by decide +kernel
theorem d_P_withSign_13 : decode b_P_withSign 13 = .ok (.lreturn, 1) := by decide +kernel
