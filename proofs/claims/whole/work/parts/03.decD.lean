theorem d_D_init_0 : decode b_D_init 0 = .ok (.aload_n 0, 1) := by decide +kernel
theorem d_D_init_1 : decode b_D_init 1 = .ok (.invokespecial 1, 3) := by decide +kernel
theorem d_D_init_4 : decode b_D_init 4 = .ok (.aload_n 0, 1) := by decide +kernel
theorem d_D_init_5 : decode b_D_init 5 = .ok (.bipush 24, 2) := by decide +kernel
theorem d_D_init_7 : decode b_D_init 7 = .ok (.newarray .int, 2) := by decide +kernel
theorem d_D_init_9 : decode b_D_init 9 = .ok (.putfield 9, 3) := by decide +kernel
theorem d_D_init_12 : decode b_D_init 12 = .ok (.aload_n 0, 1) := by decide +kernel
theorem d_D_init_13 : decode b_D_init 13 = .ok (.bipush 16, 2) := by decide +kernel
theorem d_D_init_15 : decode b_D_init 15 = .ok (.newarray .int, 2) := by decide +kernel
theorem d_D_init_17 : decode b_D_init 17 = .ok (.putfield 13, 3) := by decide +kernel
theorem d_D_init_20 : decode b_D_init 20 = .ok (.aload_n 0, 1) := by decide +kernel
theorem d_D_init_21 : decode b_D_init 21 = .ok (.bipush 16, 2) := by decide +kernel
theorem d_D_init_23 : decode b_D_init 23 = .ok (.newarray .int, 2) := by decide +kernel
theorem d_D_init_25 : decode b_D_init 25 = .ok (.putfield 16, 3) := by decide +kernel
theorem d_D_init_28 : decode b_D_init 28 = .ok (.aload_n 0, 1) := by decide +kernel
theorem d_D_init_29 : decode b_D_init 29 = .ok (.sipush 1024, 3) := by decide +kernel
theorem d_D_init_32 : decode b_D_init 32 = .ok (.anewarray 19, 3) := by decide +kernel
theorem d_D_init_35 : decode b_D_init 35 = .ok (.putfield 21, 3) := by decide +kernel
theorem d_D_init_38 : decode b_D_init 38 = .ok (.aload_n 0, 1) := by decide +kernel
theorem d_D_init_39 : decode b_D_init 39 = .ok (.sipush 4096, 3) := by decide +kernel
theorem d_D_init_42 : decode b_D_init 42 = .ok (.newarray .int, 2) := by decide +kernel
theorem d_D_init_44 : decode b_D_init 44 = .ok (.putfield 25, 3) := by decide +kernel
theorem d_D_init_47 : decode b_D_init 47 = .ok (.return_, 1) := by decide +kernel
theorem d_D_thrown_0 : decode b_D_thrown 0 = .ok (.aload_n 0, 1) := by decide +kernel
theorem d_D_thrown_1 : decode b_D_thrown 1 = .ok (.getfield 28, 3) := by decide +kernel
theorem d_D_thrown_4 : decode b_D_thrown 4 = .ok (.ireturn, 1) := by decide +kernel
theorem d_D_isMemory_0 : decode b_D_isMemory 0 = .ok (.iload_n 1, 1) := by decide +kernel
theorem d_D_isMemory_1 : decode b_D_isMemory 1 = .ok (.ifCond .lt 15, 3) := by decide +kernel
theorem d_D_isMemory_4 : decode b_D_isMemory 4 = .ok (.iload_n 1, 1) := by decide +kernel
theorem d_D_isMemory_5 : decode b_D_isMemory 5 = .ok (.aload_n 0, 1) := by decide +kernel
theorem d_D_isMemory_6 : decode b_D_isMemory 6 = .ok (.getfield 32, 3) := by decide +kernel
theorem d_D_isMemory_9 : decode b_D_isMemory 9 = .ok (.if_icmp .ge 7, 3) := by decide +kernel
theorem d_D_isMemory_12 : decode b_D_isMemory 12 = .ok (.iconst 1, 1) := by decide +kernel
theorem d_D_isMemory_13 : decode b_D_isMemory 13 = .ok (.goto 4, 3) := by decide +kernel
theorem d_D_isMemory_16 : decode b_D_isMemory 16 = .ok (.iconst 0, 1) := by decide +kernel
theorem d_D_isMemory_17 : decode b_D_isMemory 17 = .ok (.ireturn, 1) := by decide +kernel
theorem d_D_count_0 : decode b_D_count 0 = .ok (.iconst 0, 1) := by decide +kernel
theorem d_D_count_1 : decode b_D_count 1 = .ok (.istore_n 2, 1) := by decide +kernel
theorem d_D_count_2 : decode b_D_count 2 = .ok (.iconst 0, 1) := by decide +kernel
theorem d_D_count_3 : decode b_D_count 3 = .ok (.istore_n 3, 1) := by decide +kernel
theorem d_D_count_4 : decode b_D_count 4 = .ok (.iload_n 3, 1) := by decide +kernel
theorem d_D_count_5 : decode b_D_count 5 = .ok (.aload_n 0, 1) := by decide +kernel
theorem d_D_count_6 : decode b_D_count 6 = .ok (.getfield 35, 3) := by decide +kernel
theorem d_D_count_9 : decode b_D_count 9 = .ok (.if_icmp .ge 27, 3) := by decide +kernel
theorem d_D_count_12 : decode b_D_count 12 = .ok (.aload_n 0, 1) := by decide +kernel
theorem d_D_count_13 : decode b_D_count 13 = .ok (.getfield 13, 3) := by decide +kernel
theorem d_D_count_16 : decode b_D_count 16 = .ok (.iload_n 3, 1) := by decide +kernel
theorem d_D_count_17 : decode b_D_count 17 = .ok (.iaload, 1) := by decide +kernel
theorem d_D_count_18 : decode b_D_count 18 = .ok (.iload_n 1, 1) := by decide +kernel
theorem d_D_count_19 : decode b_D_count 19 = .ok (.if_icmp .ne 9, 3) := by decide +kernel
theorem d_D_count_22 : decode b_D_count 22 = .ok (.iload_n 2, 1) := by decide +kernel
theorem d_D_count_23 : decode b_D_count 23 = .ok (.iconst 1, 1) := by decide +kernel
theorem d_D_count_24 : decode b_D_count 24 = .ok (.iadd, 1) := by decide +kernel
theorem d_D_count_25 : decode b_D_count 25 = .ok (.goto 4, 3) := by decide +kernel
theorem d_D_count_28 : decode b_D_count 28 = .ok (.iload_n 2, 1) := by decide +kernel
theorem d_D_count_29 : decode b_D_count 29 = .ok (.istore_n 2, 1) := by decide +kernel
theorem d_D_count_30 : decode b_D_count 30 = .ok (.iinc 3 1, 3) := by decide +kernel
theorem d_D_count_33 : decode b_D_count 33 = .ok (.goto (-29), 3) := by decide +kernel
theorem d_D_count_36 : decode b_D_count 36 = .ok (.iload_n 2, 1) := by decide +kernel
theorem d_D_count_37 : decode b_D_count 37 = .ok (.ireturn, 1) := by decide +kernel
theorem d_D_add_0 : decode b_D_add 0 = .ok (.aload_n 0, 1) := by decide +kernel
theorem d_D_add_1 : decode b_D_add 1 = .ok (.getfield 13, 3) := by decide +kernel
theorem d_D_add_4 : decode b_D_add 4 = .ok (.aload_n 0, 1) := by decide +kernel
theorem d_D_add_5 : decode b_D_add 5 = .ok (.getfield 35, 3) := by decide +kernel
theorem d_D_add_8 : decode b_D_add 8 = .ok (.iload_n 1, 1) := by decide +kernel
theorem d_D_add_9 : decode b_D_add 9 = .ok (.iastore, 1) := by decide +kernel
theorem d_D_add_10 : decode b_D_add 10 = .ok (.aload_n 0, 1) := by decide +kernel
theorem d_D_add_11 : decode b_D_add 11 = .ok (.getfield 16, 3) := by decide +kernel
theorem d_D_add_14 : decode b_D_add 14 = .ok (.aload_n 0, 1) := by decide +kernel
theorem d_D_add_15 : decode b_D_add 15 = .ok (.getfield 35, 3) := by decide +kernel
theorem d_D_add_18 : decode b_D_add 18 = .ok (.iload_n 2, 1) := by decide +kernel
theorem d_D_add_19 : decode b_D_add 19 = .ok (.iastore, 1) := by decide +kernel
theorem d_D_add_20 : decode b_D_add 20 = .ok (.aload_n 0, 1) := by decide +kernel
theorem d_D_add_21 : decode b_D_add 21 = .ok (.dup, 1) := by decide +kernel
theorem d_D_add_22 : decode b_D_add 22 = .ok (.getfield 35, 3) := by decide +kernel
theorem d_D_add_25 : decode b_D_add 25 = .ok (.iconst 1, 1) := by decide +kernel
theorem d_D_add_26 : decode b_D_add 26 = .ok (.iadd, 1) := by decide +kernel
theorem d_D_add_27 : decode b_D_add 27 = .ok (.putfield 35, 3) := by decide +kernel
theorem d_D_add_30 : decode b_D_add 30 = .ok (.return_, 1) := by decide +kernel
theorem d_D_rowOf_0 : decode b_D_rowOf 0 = .ok (.lload_n 2, 1) := by decide +kernel
theorem d_D_rowOf_1 : decode b_D_rowOf 1 = .ok (.ldc2_w 38, 3) := by decide +kernel
theorem d_D_rowOf_4 : decode b_D_rowOf 4 = .ok (.ldiv, 1) := by decide +kernel
theorem d_D_rowOf_5 : decode b_D_rowOf 5 = .ok (.l2i, 1) := by decide +kernel
theorem d_D_rowOf_6 : decode b_D_rowOf 6 = .ok (.istore 4, 2) := by decide +kernel
theorem d_D_rowOf_8 : decode b_D_rowOf 8 = .ok (.iconst 0, 1) := by decide +kernel
theorem d_D_rowOf_9 : decode b_D_rowOf 9 = .ok (.istore 5, 2) := by decide +kernel
theorem d_D_rowOf_11 : decode b_D_rowOf 11 = .ok (.iconst 0, 1) := by decide +kernel
theorem d_D_rowOf_12 : decode b_D_rowOf 12 = .ok (.istore 6, 2) := by decide +kernel
theorem d_D_rowOf_14 : decode b_D_rowOf 14 = .ok (.iload 6, 2) := by decide +kernel
theorem d_D_rowOf_16 : decode b_D_rowOf 16 = .ok (.aload_n 0, 1) := by decide +kernel
theorem d_D_rowOf_17 : decode b_D_rowOf 17 = .ok (.getfield 35, 3) := by decide +kernel
theorem d_D_rowOf_20 : decode b_D_rowOf 20 = .ok (.if_icmp .ge 41, 3) := by decide +kernel
theorem d_D_rowOf_23 : decode b_D_rowOf 23 = .ok (.aload_n 0, 1) := by decide +kernel
theorem d_D_rowOf_24 : decode b_D_rowOf 24 = .ok (.getfield 13, 3) := by decide +kernel
theorem d_D_rowOf_27 : decode b_D_rowOf 27 = .ok (.iload 6, 2) := by decide +kernel
theorem d_D_rowOf_29 : decode b_D_rowOf 29 = .ok (.iaload, 1) := by decide +kernel
theorem d_D_rowOf_30 : decode b_D_rowOf 30 = .ok (.iload_n 1, 1) := by decide +kernel
theorem d_D_rowOf_31 : decode b_D_rowOf 31 = .ok (.if_icmp .ne 20, 3) := by decide +kernel
theorem d_D_rowOf_34 : decode b_D_rowOf 34 = .ok (.aload_n 0, 1) := by decide +kernel
theorem d_D_rowOf_35 : decode b_D_rowOf 35 = .ok (.getfield 16, 3) := by decide +kernel
theorem d_D_rowOf_38 : decode b_D_rowOf 38 = .ok (.iload 6, 2) := by decide +kernel
theorem d_D_rowOf_40 : decode b_D_rowOf 40 = .ok (.iaload, 1) := by decide +kernel
theorem d_D_rowOf_41 : decode b_D_rowOf 41 = .ok (.iload 4, 2) := by decide +kernel
theorem d_D_rowOf_43 : decode b_D_rowOf 43 = .ok (.if_icmp .ne 8, 3) := by decide +kernel
theorem d_D_rowOf_46 : decode b_D_rowOf 46 = .ok (.iload 6, 2) := by decide +kernel
theorem d_D_rowOf_48 : decode b_D_rowOf 48 = .ok (.goto 5, 3) := by decide +kernel
theorem d_D_rowOf_51 : decode b_D_rowOf 51 = .ok (.iload 5, 2) := by decide +kernel
theorem d_D_rowOf_53 : decode b_D_rowOf 53 = .ok (.istore 5, 2) := by decide +kernel
theorem d_D_rowOf_55 : decode b_D_rowOf 55 = .ok (.iinc 6 1, 3) := by decide +kernel
theorem d_D_rowOf_58 : decode b_D_rowOf 58 = .ok (.goto (-44), 3) := by decide +kernel
theorem d_D_rowOf_61 : decode b_D_rowOf 61 = .ok (.bipush 64, 2) := by decide +kernel
theorem d_D_rowOf_63 : decode b_D_rowOf 63 = .ok (.iload 5, 2) := by decide +kernel
theorem d_D_rowOf_65 : decode b_D_rowOf 65 = .ok (.imul, 1) := by decide +kernel
theorem d_D_rowOf_66 : decode b_D_rowOf 66 = .ok (.lload_n 2, 1) := by decide +kernel
theorem d_D_rowOf_67 : decode b_D_rowOf 67 = .ok (.ldc2_w 38, 3) := by decide +kernel
theorem d_D_rowOf_70 : decode b_D_rowOf 70 = .ok (.lrem, 1) := by decide +kernel
theorem d_D_rowOf_71 : decode b_D_rowOf 71 = .ok (.l2i, 1) := by decide +kernel
theorem d_D_rowOf_72 : decode b_D_rowOf 72 = .ok (.sipush 1024, 3) := by decide +kernel
theorem d_D_rowOf_75 : decode b_D_rowOf 75 = .ok (.idiv, 1) := by decide +kernel
theorem d_D_rowOf_76 : decode b_D_rowOf 76 = .ok (.iadd, 1) := by decide +kernel
theorem d_D_rowOf_77 : decode b_D_rowOf 77 = .ok (.ireturn, 1) := by decide +kernel
theorem d_D_get_0 : decode b_D_get 0 = .ok (.aload_n 0, 1) := by decide +kernel
theorem d_D_get_1 : decode b_D_get 1 = .ok (.getfield 21, 3) := by decide +kernel
theorem d_D_get_4 : decode b_D_get 4 = .ok (.aload_n 0, 1) := by decide +kernel
theorem d_D_get_5 : decode b_D_get 5 = .ok (.iload_n 1, 1) := by decide +kernel
theorem d_D_get_6 : decode b_D_get 6 = .ok (.lload_n 2, 1) := by decide +kernel
theorem d_D_get_7 : decode b_D_get 7 = .ok (.invokevirtual 40, 3) := by decide +kernel
theorem d_D_get_10 : decode b_D_get 10 = .ok (.aaload, 1) := by decide +kernel
theorem d_D_get_11 : decode b_D_get 11 = .ok (.astore 4, 2) := by decide +kernel
theorem d_D_get_13 : decode b_D_get 13 = .ok (.aload 4, 2) := by decide +kernel
theorem d_D_get_15 : decode b_D_get 15 = .ok (.ifnonnull 7, 3) := by decide +kernel
theorem d_D_get_18 : decode b_D_get 18 = .ok (.iconst 0, 1) := by decide +kernel
theorem d_D_get_19 : decode b_D_get 19 = .ok (.goto 16, 3) := by decide +kernel
theorem d_D_get_22 : decode b_D_get 22 = .ok (.aload 4, 2) := by decide +kernel
theorem d_D_get_24 : decode b_D_get 24 = .ok (.lload_n 2, 1) := by decide +kernel
theorem d_D_get_25 : decode b_D_get 25 = .ok (.ldc2_w 44, 3) := by decide +kernel
theorem d_D_get_28 : decode b_D_get 28 = .ok (.lrem, 1) := by decide +kernel
theorem d_D_get_29 : decode b_D_get 29 = .ok (.l2i, 1) := by decide +kernel
theorem d_D_get_30 : decode b_D_get 30 = .ok (.baload, 1) := by decide +kernel
theorem d_D_get_31 : decode b_D_get 31 = .ok (.sipush 255, 3) := by decide +kernel
theorem d_D_get_34 : decode b_D_get 34 = .ok (.iand, 1) := by decide +kernel
theorem d_D_get_35 : decode b_D_get 35 = .ok (.ireturn, 1) := by decide +kernel
theorem d_D_put_0 : decode b_D_put 0 = .ok (.aload_n 0, 1) := by decide +kernel
theorem d_D_put_1 : decode b_D_put 1 = .ok (.iload_n 1, 1) := by decide +kernel
theorem d_D_put_2 : decode b_D_put 2 = .ok (.lload_n 2, 1) := by decide +kernel
theorem d_D_put_3 : decode b_D_put 3 = .ok (.invokevirtual 40, 3) := by decide +kernel
theorem d_D_put_6 : decode b_D_put 6 = .ok (.istore 5, 2) := by decide +kernel
theorem d_D_put_8 : decode b_D_put 8 = .ok (.aload_n 0, 1) := by decide +kernel
theorem d_D_put_9 : decode b_D_put 9 = .ok (.getfield 21, 3) := by decide +kernel
theorem d_D_put_12 : decode b_D_put 12 = .ok (.iload 5, 2) := by decide +kernel
theorem d_D_put_14 : decode b_D_put 14 = .ok (.aaload, 1) := by decide +kernel
theorem d_D_put_15 : decode b_D_put 15 = .ok (.ifnonnull 20, 3) := by decide +kernel
theorem d_D_put_18 : decode b_D_put 18 = .ok (.iload 4, 2) := by decide +kernel
theorem d_D_put_20 : decode b_D_put 20 = .ok (.ifCond .eq 15, 3) := by decide +kernel
theorem d_D_put_23 : decode b_D_put 23 = .ok (.aload_n 0, 1) := by decide +kernel
theorem d_D_put_24 : decode b_D_put 24 = .ok (.getfield 21, 3) := by decide +kernel
theorem d_D_put_27 : decode b_D_put 27 = .ok (.iload 5, 2) := by decide +kernel
theorem d_D_put_29 : decode b_D_put 29 = .ok (.sipush 1024, 3) := by decide +kernel
theorem d_D_put_32 : decode b_D_put 32 = .ok (.newarray .byte, 2) := by decide +kernel
theorem d_D_put_34 : decode b_D_put 34 = .ok (.aastore, 1) := by decide +kernel
theorem d_D_put_35 : decode b_D_put 35 = .ok (.aload_n 0, 1) := by decide +kernel
theorem d_D_put_36 : decode b_D_put 36 = .ok (.getfield 21, 3) := by decide +kernel
theorem d_D_put_39 : decode b_D_put 39 = .ok (.iload 5, 2) := by decide +kernel
theorem d_D_put_41 : decode b_D_put 41 = .ok (.aaload, 1) := by decide +kernel
theorem d_D_put_42 : decode b_D_put 42 = .ok (.ifnull 20, 3) := by decide +kernel
theorem d_D_put_45 : decode b_D_put 45 = .ok (.aload_n 0, 1) := by decide +kernel
theorem d_D_put_46 : decode b_D_put 46 = .ok (.getfield 21, 3) := by decide +kernel
theorem d_D_put_49 : decode b_D_put 49 = .ok (.iload 5, 2) := by decide +kernel
theorem d_D_put_51 : decode b_D_put 51 = .ok (.aaload, 1) := by decide +kernel
theorem d_D_put_52 : decode b_D_put 52 = .ok (.lload_n 2, 1) := by decide +kernel
theorem d_D_put_53 : decode b_D_put 53 = .ok (.ldc2_w 44, 3) := by decide +kernel
theorem d_D_put_56 : decode b_D_put 56 = .ok (.lrem, 1) := by decide +kernel
theorem d_D_put_57 : decode b_D_put 57 = .ok (.l2i, 1) := by decide +kernel
theorem d_D_put_58 : decode b_D_put 58 = .ok (.iload 4, 2) := by decide +kernel
theorem d_D_put_60 : decode b_D_put 60 = .ok (.i2b, 1) := by decide +kernel
theorem d_D_put_61 : decode b_D_put 61 = .ok (.bastore, 1) := by decide +kernel
theorem d_D_put_62 : decode b_D_put 62 = .ok (.return_, 1) := by decide +kernel
theorem d_D_make_0 : decode b_D_make 0 = .ok (.iload_n 1, 1) := by decide +kernel
theorem d_D_make_1 : decode b_D_make 1 = .ok (.ifCond .lt 29, 3) := by decide +kernel
theorem d_D_make_4 : decode b_D_make 4 = .ok (.iload_n 1, 1) := by decide +kernel
theorem d_D_make_5 : decode b_D_make 5 = .ok (.ldc 46, 2) := by decide +kernel
theorem d_D_make_7 : decode b_D_make 7 = .ok (.if_icmp .gt 23, 3) := by decide +kernel
theorem d_D_make_10 : decode b_D_make 10 = .ok (.iload_n 2, 1) := by decide +kernel
theorem d_D_make_11 : decode b_D_make 11 = .ok (.iconst (-1), 1) := by decide +kernel
theorem d_D_make_12 : decode b_D_make 12 = .ok (.if_icmp .eq 14, 3) := by decide +kernel
theorem d_D_make_15 : decode b_D_make 15 = .ok (.iload_n 2, 1) := by decide +kernel
theorem d_D_make_16 : decode b_D_make 16 = .ok (.iload_n 1, 1) := by decide +kernel
theorem d_D_make_17 : decode b_D_make 17 = .ok (.if_icmp .lt 13, 3) := by decide +kernel
theorem d_D_make_20 : decode b_D_make 20 = .ok (.iload_n 2, 1) := by decide +kernel
theorem d_D_make_21 : decode b_D_make 21 = .ok (.ldc 46, 2) := by decide +kernel
theorem d_D_make_23 : decode b_D_make 23 = .ok (.if_icmp .gt 7, 3) := by decide +kernel
theorem d_D_make_26 : decode b_D_make 26 = .ok (.iconst 1, 1) := by decide +kernel
theorem d_D_make_27 : decode b_D_make 27 = .ok (.goto 4, 3) := by decide +kernel
theorem d_D_make_30 : decode b_D_make 30 = .ok (.iconst 0, 1) := by decide +kernel
theorem d_D_make_31 : decode b_D_make 31 = .ok (.istore_n 3, 1) := by decide +kernel
theorem d_D_make_32 : decode b_D_make 32 = .ok (.aload_n 0, 1) := by decide +kernel
theorem d_D_make_33 : decode b_D_make 33 = .ok (.iload_n 3, 1) := by decide +kernel
theorem d_D_make_34 : decode b_D_make 34 = .ok (.ifCond .ne 7, 3) := by decide +kernel
theorem d_D_make_37 : decode b_D_make 37 = .ok (.iconst 1, 1) := by decide +kernel
theorem d_D_make_38 : decode b_D_make 38 = .ok (.goto 32, 3) := by decide +kernel
theorem d_D_make_41 : decode b_D_make 41 = .ok (.aload_n 0, 1) := by decide +kernel
theorem d_D_make_42 : decode b_D_make 42 = .ok (.getfield 32, 3) := by decide +kernel
theorem d_D_make_45 : decode b_D_make 45 = .ok (.bipush 24, 2) := by decide +kernel
theorem d_D_make_47 : decode b_D_make 47 = .ok (.if_icmp .ne 7, 3) := by decide +kernel
theorem d_D_make_50 : decode b_D_make 50 = .ok (.iconst 2, 1) := by decide +kernel
theorem d_D_make_51 : decode b_D_make 51 = .ok (.goto 19, 3) := by decide +kernel
theorem d_D_make_54 : decode b_D_make 54 = .ok (.aload_n 0, 1) := by decide +kernel
theorem d_D_make_55 : decode b_D_make 55 = .ok (.getfield 35, 3) := by decide +kernel
theorem d_D_make_58 : decode b_D_make 58 = .ok (.iload_n 1, 1) := by decide +kernel
theorem d_D_make_59 : decode b_D_make 59 = .ok (.iadd, 1) := by decide +kernel
theorem d_D_make_60 : decode b_D_make 60 = .ok (.bipush 16, 2) := by decide +kernel
theorem d_D_make_62 : decode b_D_make 62 = .ok (.if_icmp .le 7, 3) := by decide +kernel
theorem d_D_make_65 : decode b_D_make 65 = .ok (.iconst 3, 1) := by decide +kernel
theorem d_D_make_66 : decode b_D_make 66 = .ok (.goto 4, 3) := by decide +kernel
theorem d_D_make_69 : decode b_D_make 69 = .ok (.iconst 0, 1) := by decide +kernel
theorem d_D_make_70 : decode b_D_make 70 = .ok (.putfield 28, 3) := by decide +kernel
theorem d_D_make_73 : decode b_D_make 73 = .ok (.aload_n 0, 1) := by decide +kernel
theorem d_D_make_74 : decode b_D_make 74 = .ok (.getfield 28, 3) := by decide +kernel
theorem d_D_make_77 : decode b_D_make 77 = .ok (.ifCond .le 5, 3) := by decide +kernel
theorem d_D_make_80 : decode b_D_make 80 = .ok (.iconst 0, 1) := by decide +kernel
theorem d_D_make_81 : decode b_D_make 81 = .ok (.ireturn, 1) := by decide +kernel
theorem d_D_make_82 : decode b_D_make 82 = .ok (.iconst 0, 1) := by decide +kernel
theorem d_D_make_83 : decode b_D_make 83 = .ok (.istore 4, 2) := by decide +kernel
theorem d_D_make_85 : decode b_D_make 85 = .ok (.iload 4, 2) := by decide +kernel
theorem d_D_make_87 : decode b_D_make 87 = .ok (.iload_n 1, 1) := by decide +kernel
theorem d_D_make_88 : decode b_D_make 88 = .ok (.if_icmp .ge 19, 3) := by decide +kernel
theorem d_D_make_91 : decode b_D_make 91 = .ok (.aload_n 0, 1) := by decide +kernel
theorem d_D_make_92 : decode b_D_make 92 = .ok (.aload_n 0, 1) := by decide +kernel
theorem d_D_make_93 : decode b_D_make 93 = .ok (.getfield 32, 3) := by decide +kernel
theorem d_D_make_96 : decode b_D_make 96 = .ok (.iload 4, 2) := by decide +kernel
theorem d_D_make_98 : decode b_D_make 98 = .ok (.invokevirtual 47, 3) := by decide +kernel
theorem d_D_make_101 : decode b_D_make 101 = .ok (.iinc 4 1, 3) := by decide +kernel
theorem d_D_make_104 : decode b_D_make 104 = .ok (.goto (-19), 3) := by decide +kernel
theorem d_D_make_107 : decode b_D_make 107 = .ok (.aload_n 0, 1) := by decide +kernel
theorem d_D_make_108 : decode b_D_make 108 = .ok (.getfield 9, 3) := by decide +kernel
theorem d_D_make_111 : decode b_D_make 111 = .ok (.aload_n 0, 1) := by decide +kernel
theorem d_D_make_112 : decode b_D_make 112 = .ok (.getfield 32, 3) := by decide +kernel
theorem d_D_make_115 : decode b_D_make 115 = .ok (.iload_n 2, 1) := by decide +kernel
theorem d_D_make_116 : decode b_D_make 116 = .ok (.iastore, 1) := by decide +kernel
theorem d_D_make_117 : decode b_D_make 117 = .ok (.aload_n 0, 1) := by decide +kernel
theorem d_D_make_118 : decode b_D_make 118 = .ok (.dup, 1) := by decide +kernel
theorem d_D_make_119 : decode b_D_make 119 = .ok (.getfield 32, 3) := by decide +kernel
theorem d_D_make_122 : decode b_D_make 122 = .ok (.iconst 1, 1) := by decide +kernel
theorem d_D_make_123 : decode b_D_make 123 = .ok (.iadd, 1) := by decide +kernel
theorem d_D_make_124 : decode b_D_make 124 = .ok (.putfield 32, 3) := by decide +kernel
theorem d_D_make_127 : decode b_D_make 127 = .ok (.aload_n 0, 1) := by decide +kernel
theorem d_D_make_128 : decode b_D_make 128 = .ok (.getfield 32, 3) := by decide +kernel
theorem d_D_make_131 : decode b_D_make 131 = .ok (.iconst 1, 1) := by decide +kernel
theorem d_D_make_132 : decode b_D_make 132 = .ok (.isub, 1) := by decide +kernel
theorem d_D_make_133 : decode b_D_make 133 = .ok (.ireturn, 1) := by decide +kernel
theorem d_D_pages_0 : decode b_D_pages 0 = .ok (.aload_n 0, 1) := by decide +kernel
theorem d_D_pages_1 : decode b_D_pages 1 = .ok (.aload_n 0, 1) := by decide +kernel
theorem d_D_pages_2 : decode b_D_pages 2 = .ok (.iload_n 1, 1) := by decide +kernel
theorem d_D_pages_3 : decode b_D_pages 3 = .ok (.invokevirtual 51, 3) := by decide +kernel
theorem d_D_pages_6 : decode b_D_pages 6 = .ok (.ifCond .eq 7, 3) := by decide +kernel
theorem d_D_pages_9 : decode b_D_pages 9 = .ok (.iconst 0, 1) := by decide +kernel
theorem d_D_pages_10 : decode b_D_pages 10 = .ok (.goto 4, 3) := by decide +kernel
theorem d_D_pages_13 : decode b_D_pages 13 = .ok (.iconst 1, 1) := by decide +kernel
theorem d_D_pages_14 : decode b_D_pages 14 = .ok (.putfield 28, 3) := by decide +kernel
theorem d_D_pages_17 : decode b_D_pages 17 = .ok (.aload_n 0, 1) := by decide +kernel
theorem d_D_pages_18 : decode b_D_pages 18 = .ok (.getfield 28, 3) := by decide +kernel
theorem d_D_pages_21 : decode b_D_pages 21 = .ok (.ifCond .le 7, 3) := by decide +kernel
theorem d_D_pages_24 : decode b_D_pages 24 = .ok (.iconst 0, 1) := by decide +kernel
theorem d_D_pages_25 : decode b_D_pages 25 = .ok (.goto 8, 3) := by decide +kernel
theorem d_D_pages_28 : decode b_D_pages 28 = .ok (.aload_n 0, 1) := by decide +kernel
theorem d_D_pages_29 : decode b_D_pages 29 = .ok (.iload_n 1, 1) := by decide +kernel
theorem d_D_pages_30 : decode b_D_pages 30 = .ok (.invokevirtual 55, 3) := by decide +kernel
theorem d_D_pages_33 : decode b_D_pages 33 = .ok (.ireturn, 1) := by decide +kernel
theorem d_D_grow_0 : decode b_D_grow 0 = .ok (.aload_n 0, 1) := by decide +kernel
theorem d_D_grow_1 : decode b_D_grow 1 = .ok (.aload_n 0, 1) := by decide +kernel
theorem d_D_grow_2 : decode b_D_grow 2 = .ok (.iload_n 1, 1) := by decide +kernel
theorem d_D_grow_3 : decode b_D_grow 3 = .ok (.invokevirtual 51, 3) := by decide +kernel
theorem d_D_grow_6 : decode b_D_grow 6 = .ok (.ifCond .eq 7, 3) := by decide +kernel
theorem d_D_grow_9 : decode b_D_grow 9 = .ok (.iconst 0, 1) := by decide +kernel
theorem d_D_grow_10 : decode b_D_grow 10 = .ok (.goto 4, 3) := by decide +kernel
theorem d_D_grow_13 : decode b_D_grow 13 = .ok (.iconst 1, 1) := by decide +kernel
theorem d_D_grow_14 : decode b_D_grow 14 = .ok (.putfield 28, 3) := by decide +kernel
theorem d_D_grow_17 : decode b_D_grow 17 = .ok (.aload_n 0, 1) := by decide +kernel
theorem d_D_grow_18 : decode b_D_grow 18 = .ok (.getfield 28, 3) := by decide +kernel
theorem d_D_grow_21 : decode b_D_grow 21 = .ok (.ifCond .le 5, 3) := by decide +kernel
theorem d_D_grow_24 : decode b_D_grow 24 = .ok (.iconst 0, 1) := by decide +kernel
theorem d_D_grow_25 : decode b_D_grow 25 = .ok (.ireturn, 1) := by decide +kernel
theorem d_D_grow_26 : decode b_D_grow 26 = .ok (.aload_n 0, 1) := by decide +kernel
theorem d_D_grow_27 : decode b_D_grow 27 = .ok (.iload_n 1, 1) := by decide +kernel
theorem d_D_grow_28 : decode b_D_grow 28 = .ok (.invokevirtual 55, 3) := by decide +kernel
theorem d_D_grow_31 : decode b_D_grow 31 = .ok (.istore_n 3, 1) := by decide +kernel
theorem d_D_grow_32 : decode b_D_grow 32 = .ok (.iload_n 2, 1) := by decide +kernel
theorem d_D_grow_33 : decode b_D_grow 33 = .ok (.ifCond .ge 12, 3) := by decide +kernel
theorem d_D_grow_36 : decode b_D_grow 36 = .ok (.iload_n 2, 1) := by decide +kernel
theorem d_D_grow_37 : decode b_D_grow 37 = .ok (.i2l, 1) := by decide +kernel
theorem d_D_grow_38 : decode b_D_grow 38 = .ok (.ldc2_w 59, 3) := by decide +kernel
theorem d_D_grow_41 : decode b_D_grow 41 = .ok (.ladd, 1) := by decide +kernel
theorem d_D_grow_42 : decode b_D_grow 42 = .ok (.goto 5, 3) := by decide +kernel
theorem d_D_grow_45 : decode b_D_grow 45 = .ok (.iload_n 2, 1) := by decide +kernel
theorem d_D_grow_46 : decode b_D_grow 46 = .ok (.i2l, 1) := by decide +kernel
theorem d_D_grow_47 : decode b_D_grow 47 = .ok (.lstore 4, 2) := by decide +kernel
theorem d_D_grow_49 : decode b_D_grow 49 = .ok (.iload_n 3, 1) := by decide +kernel
theorem d_D_grow_50 : decode b_D_grow 50 = .ok (.i2l, 1) := by decide +kernel
theorem d_D_grow_51 : decode b_D_grow 51 = .ok (.lload 4, 2) := by decide +kernel
theorem d_D_grow_53 : decode b_D_grow 53 = .ok (.ladd, 1) := by decide +kernel
theorem d_D_grow_54 : decode b_D_grow 54 = .ok (.aload_n 0, 1) := by decide +kernel
theorem d_D_grow_55 : decode b_D_grow 55 = .ok (.getfield 9, 3) := by decide +kernel
theorem d_D_grow_58 : decode b_D_grow 58 = .ok (.iload_n 1, 1) := by decide +kernel
theorem d_D_grow_59 : decode b_D_grow 59 = .ok (.iaload, 1) := by decide +kernel
theorem d_D_grow_60 : decode b_D_grow 60 = .ok (.iconst (-1), 1) := by decide +kernel
theorem d_D_grow_61 : decode b_D_grow 61 = .ok (.if_icmp .ne 8, 3) := by decide +kernel
theorem d_D_grow_64 : decode b_D_grow 64 = .ok (.ldc 46, 2) := by decide +kernel
theorem d_D_grow_66 : decode b_D_grow 66 = .ok (.goto 9, 3) := by decide +kernel
theorem d_D_grow_69 : decode b_D_grow 69 = .ok (.aload_n 0, 1) := by decide +kernel
theorem d_D_grow_70 : decode b_D_grow 70 = .ok (.getfield 9, 3) := by decide +kernel
theorem d_D_grow_73 : decode b_D_grow 73 = .ok (.iload_n 1, 1) := by decide +kernel
theorem d_D_grow_74 : decode b_D_grow 74 = .ok (.iaload, 1) := by decide +kernel
theorem d_D_grow_75 : decode b_D_grow 75 = .ok (.i2l, 1) := by decide +kernel
theorem d_D_grow_76 : decode b_D_grow 76 = .ok (.lcmp, 1) := by decide +kernel
theorem d_D_grow_77 : decode b_D_grow 77 = .ok (.ifCond .gt 18, 3) := by decide +kernel
theorem d_D_grow_80 : decode b_D_grow 80 = .ok (.aload_n 0, 1) := by decide +kernel
theorem d_D_grow_81 : decode b_D_grow 81 = .ok (.getfield 35, 3) := by decide +kernel
theorem d_D_grow_84 : decode b_D_grow 84 = .ok (.i2l, 1) := by decide +kernel
theorem d_D_grow_85 : decode b_D_grow 85 = .ok (.lload 4, 2) := by decide +kernel
theorem d_D_grow_87 : decode b_D_grow 87 = .ok (.ladd, 1) := by decide +kernel
theorem d_D_grow_88 : decode b_D_grow 88 = .ok (.ldc2_w 61, 3) := by decide +kernel
theorem d_D_grow_91 : decode b_D_grow 91 = .ok (.lcmp, 1) := by decide +kernel
theorem d_D_grow_92 : decode b_D_grow 92 = .ok (.ifCond .le 5, 3) := by decide +kernel
theorem d_D_grow_95 : decode b_D_grow 95 = .ok (.iconst (-1), 1) := by decide +kernel
theorem d_D_grow_96 : decode b_D_grow 96 = .ok (.ireturn, 1) := by decide +kernel
theorem d_D_grow_97 : decode b_D_grow 97 = .ok (.iconst 0, 1) := by decide +kernel
theorem d_D_grow_98 : decode b_D_grow 98 = .ok (.istore 6, 2) := by decide +kernel
theorem d_D_grow_100 : decode b_D_grow 100 = .ok (.iload 6, 2) := by decide +kernel
theorem d_D_grow_102 : decode b_D_grow 102 = .ok (.iload_n 2, 1) := by decide +kernel
theorem d_D_grow_103 : decode b_D_grow 103 = .ok (.if_icmp .ge 18, 3) := by decide +kernel
theorem d_D_grow_106 : decode b_D_grow 106 = .ok (.aload_n 0, 1) := by decide +kernel
theorem d_D_grow_107 : decode b_D_grow 107 = .ok (.iload_n 1, 1) := by decide +kernel
theorem d_D_grow_108 : decode b_D_grow 108 = .ok (.iload_n 3, 1) := by decide +kernel
theorem d_D_grow_109 : decode b_D_grow 109 = .ok (.iload 6, 2) := by decide +kernel
theorem d_D_grow_111 : decode b_D_grow 111 = .ok (.iadd, 1) := by decide +kernel
theorem d_D_grow_112 : decode b_D_grow 112 = .ok (.invokevirtual 47, 3) := by decide +kernel
theorem d_D_grow_115 : decode b_D_grow 115 = .ok (.iinc 6 1, 3) := by decide +kernel
theorem d_D_grow_118 : decode b_D_grow 118 = .ok (.goto (-18), 3) := by decide +kernel
theorem d_D_grow_121 : decode b_D_grow 121 = .ok (.iload_n 3, 1) := by decide +kernel
theorem d_D_grow_122 : decode b_D_grow 122 = .ok (.ireturn, 1) := by decide +kernel
theorem d_D_fits_0 : decode b_D_fits 0 = .ok (.aload_n 0, 1) := by decide +kernel
theorem d_D_fits_1 : decode b_D_fits 1 = .ok (.aload_n 0, 1) := by decide +kernel
theorem d_D_fits_2 : decode b_D_fits 2 = .ok (.iload_n 1, 1) := by decide +kernel
theorem d_D_fits_3 : decode b_D_fits 3 = .ok (.invokevirtual 51, 3) := by decide +kernel
theorem d_D_fits_6 : decode b_D_fits 6 = .ok (.ifCond .eq 7, 3) := by decide +kernel
theorem d_D_fits_9 : decode b_D_fits 9 = .ok (.iconst 0, 1) := by decide +kernel
theorem d_D_fits_10 : decode b_D_fits 10 = .ok (.goto 4, 3) := by decide +kernel
theorem d_D_fits_13 : decode b_D_fits 13 = .ok (.iconst 1, 1) := by decide +kernel
theorem d_D_fits_14 : decode b_D_fits 14 = .ok (.putfield 28, 3) := by decide +kernel
theorem d_D_fits_17 : decode b_D_fits 17 = .ok (.aload_n 0, 1) := by decide +kernel
theorem d_D_fits_18 : decode b_D_fits 18 = .ok (.getfield 28, 3) := by decide +kernel
theorem d_D_fits_21 : decode b_D_fits 21 = .ok (.ifCond .ne 41, 3) := by decide +kernel
theorem d_D_fits_24 : decode b_D_fits 24 = .ok (.aload_n 0, 1) := by decide +kernel
theorem d_D_fits_25 : decode b_D_fits 25 = .ok (.iload_n 1, 1) := by decide +kernel
theorem d_D_fits_26 : decode b_D_fits 26 = .ok (.invokevirtual 55, 3) := by decide +kernel
theorem d_D_fits_29 : decode b_D_fits 29 = .ok (.iload_n 2, 1) := by decide +kernel
theorem d_D_fits_30 : decode b_D_fits 30 = .ok (.if_icmp .lt 32, 3) := by decide +kernel
theorem d_D_fits_33 : decode b_D_fits 33 = .ok (.iload_n 3, 1) := by decide +kernel
theorem d_D_fits_34 : decode b_D_fits 34 = .ok (.iconst (-1), 1) := by decide +kernel
theorem d_D_fits_35 : decode b_D_fits 35 = .ok (.if_icmp .eq 23, 3) := by decide +kernel
theorem d_D_fits_38 : decode b_D_fits 38 = .ok (.aload_n 0, 1) := by decide +kernel
theorem d_D_fits_39 : decode b_D_fits 39 = .ok (.getfield 9, 3) := by decide +kernel
theorem d_D_fits_42 : decode b_D_fits 42 = .ok (.iload_n 1, 1) := by decide +kernel
theorem d_D_fits_43 : decode b_D_fits 43 = .ok (.iaload, 1) := by decide +kernel
theorem d_D_fits_44 : decode b_D_fits 44 = .ok (.iconst (-1), 1) := by decide +kernel
theorem d_D_fits_45 : decode b_D_fits 45 = .ok (.if_icmp .eq 17, 3) := by decide +kernel
theorem d_D_fits_48 : decode b_D_fits 48 = .ok (.aload_n 0, 1) := by decide +kernel
theorem d_D_fits_49 : decode b_D_fits 49 = .ok (.getfield 9, 3) := by decide +kernel
theorem d_D_fits_52 : decode b_D_fits 52 = .ok (.iload_n 1, 1) := by decide +kernel
theorem d_D_fits_53 : decode b_D_fits 53 = .ok (.iaload, 1) := by decide +kernel
theorem d_D_fits_54 : decode b_D_fits 54 = .ok (.iload_n 3, 1) := by decide +kernel
theorem d_D_fits_55 : decode b_D_fits 55 = .ok (.if_icmp .gt 7, 3) := by decide +kernel
theorem d_D_fits_58 : decode b_D_fits 58 = .ok (.iconst 1, 1) := by decide +kernel
theorem d_D_fits_59 : decode b_D_fits 59 = .ok (.goto 4, 3) := by decide +kernel
theorem d_D_fits_62 : decode b_D_fits 62 = .ok (.iconst 0, 1) := by decide +kernel
theorem d_D_fits_63 : decode b_D_fits 63 = .ok (.ireturn, 1) := by decide +kernel
theorem d_D_size_0 : decode b_D_size 0 = .ok (.iload_n 0, 1) := by decide +kernel
theorem d_D_size_1 : decode b_D_size 1 = .ok (.tableswitch 114 40 62 #[110, 107, 110, 107, 114, 114, 112, 112, 114, 114, 112, 112, 110, 110, 110, 107, 110, 107, 114, 112, 114, 112, 110], 107) := by decide +kernel
theorem d_D_size_108 : decode b_D_size 108 = .ok (.bipush 8, 2) := by decide +kernel
theorem d_D_size_110 : decode b_D_size 110 = .ok (.ireturn, 1) := by decide +kernel
theorem d_D_size_111 : decode b_D_size 111 = .ok (.iconst 4, 1) := by decide +kernel
theorem d_D_size_112 : decode b_D_size 112 = .ok (.ireturn, 1) := by decide +kernel
theorem d_D_size_113 : decode b_D_size 113 = .ok (.iconst 2, 1) := by decide +kernel
theorem d_D_size_114 : decode b_D_size 114 = .ok (.ireturn, 1) := by decide +kernel
theorem d_D_size_115 : decode b_D_size 115 = .ok (.iconst 1, 1) := by decide +kernel
theorem d_D_size_116 : decode b_D_size 116 = .ok (.ireturn, 1) := by decide +kernel
theorem d_D_isWhole_0 : decode b_D_isWhole 0 = .ok (.iload_n 1, 1) := by decide +kernel
theorem d_D_isWhole_1 : decode b_D_isWhole 1 = .ok (.ifCond .eq 23, 3) := by decide +kernel
theorem d_D_isWhole_4 : decode b_D_isWhole 4 = .ok (.iload_n 0, 1) := by decide +kernel
theorem d_D_isWhole_5 : decode b_D_isWhole 5 = .ok (.bipush 54, 2) := by decide +kernel
theorem d_D_isWhole_7 : decode b_D_isWhole 7 = .ok (.if_icmp .lt 13, 3) := by decide +kernel
theorem d_D_isWhole_10 : decode b_D_isWhole 10 = .ok (.iload_n 0, 1) := by decide +kernel
theorem d_D_isWhole_11 : decode b_D_isWhole 11 = .ok (.bipush 62, 2) := by decide +kernel
theorem d_D_isWhole_13 : decode b_D_isWhole 13 = .ok (.if_icmp .gt 7, 3) := by decide +kernel
theorem d_D_isWhole_16 : decode b_D_isWhole 16 = .ok (.iconst 1, 1) := by decide +kernel
theorem d_D_isWhole_17 : decode b_D_isWhole 17 = .ok (.goto 24, 3) := by decide +kernel
theorem d_D_isWhole_20 : decode b_D_isWhole 20 = .ok (.iconst 0, 1) := by decide +kernel
theorem d_D_isWhole_21 : decode b_D_isWhole 21 = .ok (.goto 20, 3) := by decide +kernel
theorem d_D_isWhole_24 : decode b_D_isWhole 24 = .ok (.iload_n 0, 1) := by decide +kernel
theorem d_D_isWhole_25 : decode b_D_isWhole 25 = .ok (.bipush 40, 2) := by decide +kernel
theorem d_D_isWhole_27 : decode b_D_isWhole 27 = .ok (.if_icmp .lt 13, 3) := by decide +kernel
theorem d_D_isWhole_30 : decode b_D_isWhole 30 = .ok (.iload_n 0, 1) := by decide +kernel
theorem d_D_isWhole_31 : decode b_D_isWhole 31 = .ok (.bipush 53, 2) := by decide +kernel
theorem d_D_isWhole_33 : decode b_D_isWhole 33 = .ok (.if_icmp .gt 7, 3) := by decide +kernel
theorem d_D_isWhole_36 : decode b_D_isWhole 36 = .ok (.iconst 1, 1) := by decide +kernel
theorem d_D_isWhole_37 : decode b_D_isWhole 37 = .ok (.goto 4, 3) := by decide +kernel
theorem d_D_isWhole_40 : decode b_D_isWhole 40 = .ok (.iconst 0, 1) := by decide +kernel
theorem d_D_isWhole_41 : decode b_D_isWhole 41 = .ok (.ireturn, 1) := by decide +kernel
theorem d_D_place_0 : decode b_D_place 0 = .ok (.iload_n 0, 1) := by decide +kernel
theorem d_D_place_1 : decode b_D_place 1 = .ok (.i2l, 1) := by decide +kernel
theorem d_D_place_2 : decode b_D_place 2 = .ok (.ldc2_w 63, 3) := by decide +kernel
theorem d_D_place_5 : decode b_D_place 5 = .ok (.land, 1) := by decide +kernel
theorem d_D_place_6 : decode b_D_place 6 = .ok (.iload_n 1, 1) := by decide +kernel
theorem d_D_place_7 : decode b_D_place 7 = .ok (.i2l, 1) := by decide +kernel
theorem d_D_place_8 : decode b_D_place 8 = .ok (.ldc2_w 63, 3) := by decide +kernel
theorem d_D_place_11 : decode b_D_place 11 = .ok (.land, 1) := by decide +kernel
theorem d_D_place_12 : decode b_D_place 12 = .ok (.ladd, 1) := by decide +kernel
theorem d_D_place_13 : decode b_D_place 13 = .ok (.lreturn, 1) := by decide +kernel
theorem d_D_isThere_0 : decode b_D_isThere 0 = .ok (.iload 4, 2) := by decide +kernel
theorem d_D_isThere_2 : decode b_D_isThere 2 = .ok (.ifCond .eq 28, 3) := by decide +kernel
theorem d_D_isThere_5 : decode b_D_isThere 5 = .ok (.lload_n 2, 1) := by decide +kernel
theorem d_D_isThere_6 : decode b_D_isThere 6 = .ok (.lconst 0, 1) := by decide +kernel
theorem d_D_isThere_7 : decode b_D_isThere 7 = .ok (.lcmp, 1) := by decide +kernel
theorem d_D_isThere_8 : decode b_D_isThere 8 = .ok (.ifCond .lt 26, 3) := by decide +kernel
theorem d_D_isThere_11 : decode b_D_isThere 11 = .ok (.lload_n 2, 1) := by decide +kernel
theorem d_D_isThere_12 : decode b_D_isThere 12 = .ok (.iload 4, 2) := by decide +kernel
theorem d_D_isThere_14 : decode b_D_isThere 14 = .ok (.i2l, 1) := by decide +kernel
theorem d_D_isThere_15 : decode b_D_isThere 15 = .ok (.ladd, 1) := by decide +kernel
theorem d_D_isThere_16 : decode b_D_isThere 16 = .ok (.ldc2_w 38, 3) := by decide +kernel
theorem d_D_isThere_19 : decode b_D_isThere 19 = .ok (.aload_n 0, 1) := by decide +kernel
theorem d_D_isThere_20 : decode b_D_isThere 20 = .ok (.iload_n 1, 1) := by decide +kernel
theorem d_D_isThere_21 : decode b_D_isThere 21 = .ok (.invokevirtual 55, 3) := by decide +kernel
theorem d_D_isThere_24 : decode b_D_isThere 24 = .ok (.i2l, 1) := by decide +kernel
theorem d_D_isThere_25 : decode b_D_isThere 25 = .ok (.lmul, 1) := by decide +kernel
theorem d_D_isThere_26 : decode b_D_isThere 26 = .ok (.lcmp, 1) := by decide +kernel
theorem d_D_isThere_27 : decode b_D_isThere 27 = .ok (.ifCond .gt 7, 3) := by decide +kernel
theorem d_D_isThere_30 : decode b_D_isThere 30 = .ok (.iconst 1, 1) := by decide +kernel
theorem d_D_isThere_31 : decode b_D_isThere 31 = .ok (.goto 4, 3) := by decide +kernel
theorem d_D_isThere_34 : decode b_D_isThere 34 = .ok (.iconst 0, 1) := by decide +kernel
theorem d_D_isThere_35 : decode b_D_isThere 35 = .ok (.ireturn, 1) := by decide +kernel
theorem d_D_load_0 : decode b_D_load 0 = .ok (.iload_n 3, 1) := by decide +kernel
theorem d_D_load_1 : decode b_D_load 1 = .ok (.iload 4, 2) := by decide +kernel
theorem d_D_load_3 : decode b_D_load 3 = .ok (.invokestatic 65, 3) := by decide +kernel
theorem d_D_load_6 : decode b_D_load 6 = .ok (.lstore 5, 2) := by decide +kernel
theorem d_D_load_8 : decode b_D_load 8 = .ok (.iload_n 2, 1) := by decide +kernel
theorem d_D_load_9 : decode b_D_load 9 = .ok (.invokestatic 69, 3) := by decide +kernel
theorem d_D_load_12 : decode b_D_load 12 = .ok (.istore 7, 2) := by decide +kernel
theorem d_D_load_14 : decode b_D_load 14 = .ok (.aload_n 0, 1) := by decide +kernel
theorem d_D_load_15 : decode b_D_load 15 = .ok (.aload_n 0, 1) := by decide +kernel
theorem d_D_load_16 : decode b_D_load 16 = .ok (.iload_n 1, 1) := by decide +kernel
theorem d_D_load_17 : decode b_D_load 17 = .ok (.invokevirtual 51, 3) := by decide +kernel
theorem d_D_load_20 : decode b_D_load 20 = .ok (.ifCond .eq 11, 3) := by decide +kernel
theorem d_D_load_23 : decode b_D_load 23 = .ok (.iload_n 2, 1) := by decide +kernel
theorem d_D_load_24 : decode b_D_load 24 = .ok (.iconst 0, 1) := by decide +kernel
theorem d_D_load_25 : decode b_D_load 25 = .ok (.invokestatic 72, 3) := by decide +kernel
theorem d_D_load_28 : decode b_D_load 28 = .ok (.ifCond .ne 7, 3) := by decide +kernel
theorem d_D_load_31 : decode b_D_load 31 = .ok (.iconst 1, 1) := by decide +kernel
theorem d_D_load_32 : decode b_D_load 32 = .ok (.goto 20, 3) := by decide +kernel
theorem d_D_load_35 : decode b_D_load 35 = .ok (.aload_n 0, 1) := by decide +kernel
theorem d_D_load_36 : decode b_D_load 36 = .ok (.iload_n 1, 1) := by decide +kernel
theorem d_D_load_37 : decode b_D_load 37 = .ok (.lload 5, 2) := by decide +kernel
theorem d_D_load_39 : decode b_D_load 39 = .ok (.iload 7, 2) := by decide +kernel
theorem d_D_load_41 : decode b_D_load 41 = .ok (.invokevirtual 76, 3) := by decide +kernel
theorem d_D_load_44 : decode b_D_load 44 = .ok (.ifCond .ne 7, 3) := by decide +kernel
theorem d_D_load_47 : decode b_D_load 47 = .ok (.iconst 2, 1) := by decide +kernel
theorem d_D_load_48 : decode b_D_load 48 = .ok (.goto 4, 3) := by decide +kernel
theorem d_D_load_51 : decode b_D_load 51 = .ok (.iconst 0, 1) := by decide +kernel
theorem d_D_load_52 : decode b_D_load 52 = .ok (.putfield 28, 3) := by decide +kernel
theorem d_D_load_55 : decode b_D_load 55 = .ok (.aload_n 0, 1) := by decide +kernel
theorem d_D_load_56 : decode b_D_load 56 = .ok (.getfield 28, 3) := by decide +kernel
theorem d_D_load_59 : decode b_D_load 59 = .ok (.ifCond .le 5, 3) := by decide +kernel
theorem d_D_load_62 : decode b_D_load 62 = .ok (.lconst 0, 1) := by decide +kernel
theorem d_D_load_63 : decode b_D_load 63 = .ok (.lreturn, 1) := by decide +kernel
theorem d_D_load_64 : decode b_D_load 64 = .ok (.lconst 0, 1) := by decide +kernel
theorem d_D_load_65 : decode b_D_load 65 = .ok (.lstore 8, 2) := by decide +kernel
theorem d_D_load_67 : decode b_D_load 67 = .ok (.iconst 0, 1) := by decide +kernel
theorem d_D_load_68 : decode b_D_load 68 = .ok (.istore 10, 2) := by decide +kernel
theorem d_D_load_70 : decode b_D_load 70 = .ok (.iload 10, 2) := by decide +kernel
theorem d_D_load_72 : decode b_D_load 72 = .ok (.iload 7, 2) := by decide +kernel
theorem d_D_load_74 : decode b_D_load 74 = .ok (.if_icmp .ge 32, 3) := by decide +kernel
theorem d_D_load_77 : decode b_D_load 77 = .ok (.lload 8, 2) := by decide +kernel
theorem d_D_load_79 : decode b_D_load 79 = .ok (.aload_n 0, 1) := by decide +kernel
theorem d_D_load_80 : decode b_D_load 80 = .ok (.iload_n 1, 1) := by decide +kernel
theorem d_D_load_81 : decode b_D_load 81 = .ok (.lload 5, 2) := by decide +kernel
theorem d_D_load_83 : decode b_D_load 83 = .ok (.iload 10, 2) := by decide +kernel
theorem d_D_load_85 : decode b_D_load 85 = .ok (.i2l, 1) := by decide +kernel
theorem d_D_load_86 : decode b_D_load 86 = .ok (.ladd, 1) := by decide +kernel
theorem d_D_load_87 : decode b_D_load 87 = .ok (.invokevirtual 80, 3) := by decide +kernel
theorem d_D_load_90 : decode b_D_load 90 = .ok (.i2l, 1) := by decide +kernel
theorem d_D_load_91 : decode b_D_load 91 = .ok (.bipush 8, 2) := by decide +kernel
theorem d_D_load_93 : decode b_D_load 93 = .ok (.iload 10, 2) := by decide +kernel
theorem d_D_load_95 : decode b_D_load 95 = .ok (.imul, 1) := by decide +kernel
theorem d_D_load_96 : decode b_D_load 96 = .ok (.lshl, 1) := by decide +kernel
theorem d_D_load_97 : decode b_D_load 97 = .ok (.ladd, 1) := by decide +kernel
theorem d_D_load_98 : decode b_D_load 98 = .ok (.lstore 8, 2) := by decide +kernel
theorem d_D_load_100 : decode b_D_load 100 = .ok (.iinc 10 1, 3) := by decide +kernel
theorem d_D_load_103 : decode b_D_load 103 = .ok (.goto (-33), 3) := by decide +kernel
theorem d_D_load_106 : decode b_D_load 106 = .ok (.iload_n 2, 1) := by decide +kernel
theorem d_D_load_107 : decode b_D_load 107 = .ok (.bipush 44, 2) := by decide +kernel
theorem d_D_load_109 : decode b_D_load 109 = .ok (.if_icmp .lt 13, 3) := by decide +kernel
theorem d_D_load_112 : decode b_D_load 112 = .ok (.iload_n 2, 1) := by decide +kernel
theorem d_D_load_113 : decode b_D_load 113 = .ok (.iconst 2, 1) := by decide +kernel
theorem d_D_load_114 : decode b_D_load 114 = .ok (.irem, 1) := by decide +kernel
theorem d_D_load_115 : decode b_D_load 115 = .ok (.ifCond .ne 7, 3) := by decide +kernel
theorem d_D_load_118 : decode b_D_load 118 = .ok (.iconst 1, 1) := by decide +kernel
theorem d_D_load_119 : decode b_D_load 119 = .ok (.goto 4, 3) := by decide +kernel
theorem d_D_load_122 : decode b_D_load 122 = .ok (.iconst 0, 1) := by decide +kernel
theorem d_D_load_123 : decode b_D_load 123 = .ok (.istore 10, 2) := by decide +kernel
theorem d_D_load_125 : decode b_D_load 125 = .ok (.iload 10, 2) := by decide +kernel
theorem d_D_load_127 : decode b_D_load 127 = .ok (.ifCond .eq 24, 3) := by decide +kernel
theorem d_D_load_130 : decode b_D_load 130 = .ok (.lload 8, 2) := by decide +kernel
theorem d_D_load_132 : decode b_D_load 132 = .ok (.bipush 8, 2) := by decide +kernel
theorem d_D_load_134 : decode b_D_load 134 = .ok (.iload 7, 2) := by decide +kernel
theorem d_D_load_136 : decode b_D_load 136 = .ok (.imul, 1) := by decide +kernel
theorem d_D_load_137 : decode b_D_load 137 = .ok (.iconst 1, 1) := by decide +kernel
theorem d_D_load_138 : decode b_D_load 138 = .ok (.isub, 1) := by decide +kernel
theorem d_D_load_139 : decode b_D_load 139 = .ok (.lshr, 1) := by decide +kernel
theorem d_D_load_140 : decode b_D_load 140 = .ok (.lconst 1, 1) := by decide +kernel
theorem d_D_load_141 : decode b_D_load 141 = .ok (.land, 1) := by decide +kernel
theorem d_D_load_142 : decode b_D_load 142 = .ok (.lconst 1, 1) := by decide +kernel
theorem d_D_load_143 : decode b_D_load 143 = .ok (.lcmp, 1) := by decide +kernel
theorem d_D_load_144 : decode b_D_load 144 = .ok (.ifCond .ne 7, 3) := by decide +kernel
theorem d_D_load_147 : decode b_D_load 147 = .ok (.iconst 1, 1) := by decide +kernel
theorem d_D_load_148 : decode b_D_load 148 = .ok (.goto 4, 3) := by decide +kernel
theorem d_D_load_151 : decode b_D_load 151 = .ok (.iconst 0, 1) := by decide +kernel
theorem d_D_load_152 : decode b_D_load 152 = .ok (.istore 11, 2) := by decide +kernel
theorem d_D_load_154 : decode b_D_load 154 = .ok (.iload 11, 2) := by decide +kernel
theorem d_D_load_156 : decode b_D_load 156 = .ok (.ifCond .eq 16, 3) := by decide +kernel
theorem d_D_load_159 : decode b_D_load 159 = .ok (.lload 8, 2) := by decide +kernel
theorem d_D_load_161 : decode b_D_load 161 = .ok (.lconst 1, 1) := by decide +kernel
theorem d_D_load_162 : decode b_D_load 162 = .ok (.bipush 8, 2) := by decide +kernel
theorem d_D_load_164 : decode b_D_load 164 = .ok (.iload 7, 2) := by decide +kernel
theorem d_D_load_166 : decode b_D_load 166 = .ok (.imul, 1) := by decide +kernel
theorem d_D_load_167 : decode b_D_load 167 = .ok (.lshl, 1) := by decide +kernel
theorem d_D_load_168 : decode b_D_load 168 = .ok (.lsub, 1) := by decide +kernel
theorem d_D_load_169 : decode b_D_load 169 = .ok (.goto 5, 3) := by decide +kernel
theorem d_D_load_172 : decode b_D_load 172 = .ok (.lload 8, 2) := by decide +kernel
theorem d_D_load_174 : decode b_D_load 174 = .ok (.lstore 8, 2) := by decide +kernel
theorem d_D_load_176 : decode b_D_load 176 = .ok (.iload_n 2, 1) := by decide +kernel
theorem d_D_load_177 : decode b_D_load 177 = .ok (.bipush 41, 2) := by decide +kernel
theorem d_D_load_179 : decode b_D_load 179 = .ok (.if_icmp .eq 15, 3) := by decide +kernel
theorem d_D_load_182 : decode b_D_load 182 = .ok (.iload_n 2, 1) := by decide +kernel
theorem d_D_load_183 : decode b_D_load 183 = .ok (.bipush 43, 2) := by decide +kernel
theorem d_D_load_185 : decode b_D_load 185 = .ok (.if_icmp .eq 9, 3) := by decide +kernel
theorem d_D_load_188 : decode b_D_load 188 = .ok (.iload_n 2, 1) := by decide +kernel
theorem d_D_load_189 : decode b_D_load 189 = .ok (.bipush 48, 2) := by decide +kernel
theorem d_D_load_191 : decode b_D_load 191 = .ok (.if_icmp .lt 7, 3) := by decide +kernel
theorem d_D_load_194 : decode b_D_load 194 = .ok (.iconst 1, 1) := by decide +kernel
theorem d_D_load_195 : decode b_D_load 195 = .ok (.goto 4, 3) := by decide +kernel
theorem d_D_load_198 : decode b_D_load 198 = .ok (.iconst 0, 1) := by decide +kernel
theorem d_D_load_199 : decode b_D_load 199 = .ok (.istore 12, 2) := by decide +kernel
theorem d_D_load_201 : decode b_D_load 201 = .ok (.iload 12, 2) := by decide +kernel
theorem d_D_load_203 : decode b_D_load 203 = .ok (.ifCond .eq 8, 3) := by decide +kernel
theorem d_D_load_206 : decode b_D_load 206 = .ok (.lload 8, 2) := by decide +kernel
theorem d_D_load_208 : decode b_D_load 208 = .ok (.goto 9, 3) := by decide +kernel
theorem d_D_load_211 : decode b_D_load 211 = .ok (.lload 8, 2) := by decide +kernel
theorem d_D_load_213 : decode b_D_load 213 = .ok (.ldc2_w 63, 3) := by decide +kernel
theorem d_D_load_216 : decode b_D_load 216 = .ok (.land, 1) := by decide +kernel
theorem d_D_load_217 : decode b_D_load 217 = .ok (.lreturn, 1) := by decide +kernel
theorem d_D_store_0 : decode b_D_store 0 = .ok (.iload_n 3, 1) := by decide +kernel
theorem d_D_store_1 : decode b_D_store 1 = .ok (.iload 4, 2) := by decide +kernel
theorem d_D_store_3 : decode b_D_store 3 = .ok (.invokestatic 65, 3) := by decide +kernel
theorem d_D_store_6 : decode b_D_store 6 = .ok (.lstore 7, 2) := by decide +kernel
theorem d_D_store_8 : decode b_D_store 8 = .ok (.iload_n 2, 1) := by decide +kernel
theorem d_D_store_9 : decode b_D_store 9 = .ok (.invokestatic 69, 3) := by decide +kernel
theorem d_D_store_12 : decode b_D_store 12 = .ok (.istore 9, 2) := by decide +kernel
theorem d_D_store_14 : decode b_D_store 14 = .ok (.aload_n 0, 1) := by decide +kernel
theorem d_D_store_15 : decode b_D_store 15 = .ok (.aload_n 0, 1) := by decide +kernel
theorem d_D_store_16 : decode b_D_store 16 = .ok (.iload_n 1, 1) := by decide +kernel
theorem d_D_store_17 : decode b_D_store 17 = .ok (.invokevirtual 51, 3) := by decide +kernel
theorem d_D_store_20 : decode b_D_store 20 = .ok (.ifCond .eq 11, 3) := by decide +kernel
theorem d_D_store_23 : decode b_D_store 23 = .ok (.iload_n 2, 1) := by decide +kernel
theorem d_D_store_24 : decode b_D_store 24 = .ok (.iconst 1, 1) := by decide +kernel
theorem d_D_store_25 : decode b_D_store 25 = .ok (.invokestatic 72, 3) := by decide +kernel
theorem d_D_store_28 : decode b_D_store 28 = .ok (.ifCond .ne 7, 3) := by decide +kernel
theorem d_D_store_31 : decode b_D_store 31 = .ok (.iconst 1, 1) := by decide +kernel
theorem d_D_store_32 : decode b_D_store 32 = .ok (.goto 20, 3) := by decide +kernel
theorem d_D_store_35 : decode b_D_store 35 = .ok (.aload_n 0, 1) := by decide +kernel
theorem d_D_store_36 : decode b_D_store 36 = .ok (.iload_n 1, 1) := by decide +kernel
theorem d_D_store_37 : decode b_D_store 37 = .ok (.lload 7, 2) := by decide +kernel
theorem d_D_store_39 : decode b_D_store 39 = .ok (.iload 9, 2) := by decide +kernel
theorem d_D_store_41 : decode b_D_store 41 = .ok (.invokevirtual 76, 3) := by decide +kernel
theorem d_D_store_44 : decode b_D_store 44 = .ok (.ifCond .ne 7, 3) := by decide +kernel
theorem d_D_store_47 : decode b_D_store 47 = .ok (.iconst 2, 1) := by decide +kernel
theorem d_D_store_48 : decode b_D_store 48 = .ok (.goto 4, 3) := by decide +kernel
theorem d_D_store_51 : decode b_D_store 51 = .ok (.iconst 0, 1) := by decide +kernel
theorem d_D_store_52 : decode b_D_store 52 = .ok (.putfield 28, 3) := by decide +kernel
theorem d_D_store_55 : decode b_D_store 55 = .ok (.iconst 0, 1) := by decide +kernel
theorem d_D_store_56 : decode b_D_store 56 = .ok (.istore 10, 2) := by decide +kernel
theorem d_D_store_58 : decode b_D_store 58 = .ok (.iload 10, 2) := by decide +kernel
theorem d_D_store_60 : decode b_D_store 60 = .ok (.iload 9, 2) := by decide +kernel
theorem d_D_store_62 : decode b_D_store 62 = .ok (.if_icmp .ge 40, 3) := by decide +kernel
theorem d_D_store_65 : decode b_D_store 65 = .ok (.aload_n 0, 1) := by decide +kernel
theorem d_D_store_66 : decode b_D_store 66 = .ok (.getfield 28, 3) := by decide +kernel
theorem d_D_store_69 : decode b_D_store 69 = .ok (.ifCond .ne 33, 3) := by decide +kernel
theorem d_D_store_72 : decode b_D_store 72 = .ok (.aload_n 0, 1) := by decide +kernel
theorem d_D_store_73 : decode b_D_store 73 = .ok (.iload_n 1, 1) := by decide +kernel
theorem d_D_store_74 : decode b_D_store 74 = .ok (.lload 7, 2) := by decide +kernel
theorem d_D_store_76 : decode b_D_store 76 = .ok (.iload 10, 2) := by decide +kernel
theorem d_D_store_78 : decode b_D_store 78 = .ok (.i2l, 1) := by decide +kernel
theorem d_D_store_79 : decode b_D_store 79 = .ok (.ladd, 1) := by decide +kernel
theorem d_D_store_80 : decode b_D_store 80 = .ok (.lload 5, 2) := by decide +kernel
theorem d_D_store_82 : decode b_D_store 82 = .ok (.bipush 8, 2) := by decide +kernel
theorem d_D_store_84 : decode b_D_store 84 = .ok (.iload 10, 2) := by decide +kernel
theorem d_D_store_86 : decode b_D_store 86 = .ok (.imul, 1) := by decide +kernel
theorem d_D_store_87 : decode b_D_store 87 = .ok (.lshr, 1) := by decide +kernel
theorem d_D_store_88 : decode b_D_store 88 = .ok (.ldc2_w 83, 3) := by decide +kernel
theorem d_D_store_91 : decode b_D_store 91 = .ok (.land, 1) := by decide +kernel
theorem d_D_store_92 : decode b_D_store 92 = .ok (.l2i, 1) := by decide +kernel
theorem d_D_store_93 : decode b_D_store 93 = .ok (.invokevirtual 85, 3) := by decide +kernel
theorem d_D_store_96 : decode b_D_store 96 = .ok (.iinc 10 1, 3) := by decide +kernel
theorem d_D_store_99 : decode b_D_store 99 = .ok (.goto (-41), 3) := by decide +kernel
theorem d_D_store_102 : decode b_D_store 102 = .ok (.return_, 1) := by decide +kernel
theorem d_D_copy_0 : decode b_D_copy 0 = .ok (.aload_n 0, 1) := by decide +kernel
theorem d_D_copy_1 : decode b_D_copy 1 = .ok (.iload_n 1, 1) := by decide +kernel
theorem d_D_copy_2 : decode b_D_copy 2 = .ok (.invokevirtual 51, 3) := by decide +kernel
theorem d_D_copy_5 : decode b_D_copy 5 = .ok (.ifCond .eq 28, 3) := by decide +kernel
theorem d_D_copy_8 : decode b_D_copy 8 = .ok (.aload_n 0, 1) := by decide +kernel
theorem d_D_copy_9 : decode b_D_copy 9 = .ok (.iload_n 3, 1) := by decide +kernel
theorem d_D_copy_10 : decode b_D_copy 10 = .ok (.invokevirtual 51, 3) := by decide +kernel
theorem d_D_copy_13 : decode b_D_copy 13 = .ok (.ifCond .eq 20, 3) := by decide +kernel
theorem d_D_copy_16 : decode b_D_copy 16 = .ok (.iload 5, 2) := by decide +kernel
theorem d_D_copy_18 : decode b_D_copy 18 = .ok (.ifCond .lt 15, 3) := by decide +kernel
theorem d_D_copy_21 : decode b_D_copy 21 = .ok (.iload 5, 2) := by decide +kernel
theorem d_D_copy_23 : decode b_D_copy 23 = .ok (.sipush 4096, 3) := by decide +kernel
theorem d_D_copy_26 : decode b_D_copy 26 = .ok (.if_icmp .gt 7, 3) := by decide +kernel
theorem d_D_copy_29 : decode b_D_copy 29 = .ok (.iconst 1, 1) := by decide +kernel
theorem d_D_copy_30 : decode b_D_copy 30 = .ok (.goto 4, 3) := by decide +kernel
theorem d_D_copy_33 : decode b_D_copy 33 = .ok (.iconst 0, 1) := by decide +kernel
theorem d_D_copy_34 : decode b_D_copy 34 = .ok (.istore 6, 2) := by decide +kernel
theorem d_D_copy_36 : decode b_D_copy 36 = .ok (.aload_n 0, 1) := by decide +kernel
theorem d_D_copy_37 : decode b_D_copy 37 = .ok (.iload 6, 2) := by decide +kernel
theorem d_D_copy_39 : decode b_D_copy 39 = .ok (.ifCond .ne 7, 3) := by decide +kernel
theorem d_D_copy_42 : decode b_D_copy 42 = .ok (.iconst 1, 1) := by decide +kernel
theorem d_D_copy_43 : decode b_D_copy 43 = .ok (.goto 33, 3) := by decide +kernel
theorem d_D_copy_46 : decode b_D_copy 46 = .ok (.aload_n 0, 1) := by decide +kernel
theorem d_D_copy_47 : decode b_D_copy 47 = .ok (.iload_n 1, 1) := by decide +kernel
theorem d_D_copy_48 : decode b_D_copy 48 = .ok (.iload_n 2, 1) := by decide +kernel
theorem d_D_copy_49 : decode b_D_copy 49 = .ok (.i2l, 1) := by decide +kernel
theorem d_D_copy_50 : decode b_D_copy 50 = .ok (.iload 5, 2) := by decide +kernel
theorem d_D_copy_52 : decode b_D_copy 52 = .ok (.invokevirtual 76, 3) := by decide +kernel
theorem d_D_copy_55 : decode b_D_copy 55 = .ok (.ifCond .eq 16, 3) := by decide +kernel
theorem d_D_copy_58 : decode b_D_copy 58 = .ok (.aload_n 0, 1) := by decide +kernel
theorem d_D_copy_59 : decode b_D_copy 59 = .ok (.iload_n 3, 1) := by decide +kernel
theorem d_D_copy_60 : decode b_D_copy 60 = .ok (.iload 4, 2) := by decide +kernel
theorem d_D_copy_62 : decode b_D_copy 62 = .ok (.i2l, 1) := by decide +kernel
theorem d_D_copy_63 : decode b_D_copy 63 = .ok (.iload 5, 2) := by decide +kernel
theorem d_D_copy_65 : decode b_D_copy 65 = .ok (.invokevirtual 76, 3) := by decide +kernel
theorem d_D_copy_68 : decode b_D_copy 68 = .ok (.ifCond .ne 7, 3) := by decide +kernel
theorem d_D_copy_71 : decode b_D_copy 71 = .ok (.iconst 2, 1) := by decide +kernel
theorem d_D_copy_72 : decode b_D_copy 72 = .ok (.goto 4, 3) := by decide +kernel
theorem d_D_copy_75 : decode b_D_copy 75 = .ok (.iconst 0, 1) := by decide +kernel
theorem d_D_copy_76 : decode b_D_copy 76 = .ok (.putfield 28, 3) := by decide +kernel
theorem d_D_copy_79 : decode b_D_copy 79 = .ok (.aload_n 0, 1) := by decide +kernel
theorem d_D_copy_80 : decode b_D_copy 80 = .ok (.getfield 28, 3) := by decide +kernel
theorem d_D_copy_83 : decode b_D_copy 83 = .ok (.ifCond .le 4, 3) := by decide +kernel
theorem d_D_copy_86 : decode b_D_copy 86 = .ok (.return_, 1) := by decide +kernel
theorem d_D_copy_87 : decode b_D_copy 87 = .ok (.iconst 0, 1) := by decide +kernel
theorem d_D_copy_88 : decode b_D_copy 88 = .ok (.istore 7, 2) := by decide +kernel
theorem d_D_copy_90 : decode b_D_copy 90 = .ok (.iload 7, 2) := by decide +kernel
theorem d_D_copy_92 : decode b_D_copy 92 = .ok (.iload 5, 2) := by decide +kernel
theorem d_D_copy_94 : decode b_D_copy 94 = .ok (.if_icmp .ge 27, 3) := by decide +kernel
theorem d_D_copy_97 : decode b_D_copy 97 = .ok (.aload_n 0, 1) := by decide +kernel
theorem d_D_copy_98 : decode b_D_copy 98 = .ok (.getfield 25, 3) := by decide +kernel
theorem d_D_copy_101 : decode b_D_copy 101 = .ok (.iload 7, 2) := by decide +kernel
theorem d_D_copy_103 : decode b_D_copy 103 = .ok (.aload_n 0, 1) := by decide +kernel
theorem d_D_copy_104 : decode b_D_copy 104 = .ok (.iload_n 1, 1) := by decide +kernel
theorem d_D_copy_105 : decode b_D_copy 105 = .ok (.iload_n 2, 1) := by decide +kernel
theorem d_D_copy_106 : decode b_D_copy 106 = .ok (.i2l, 1) := by decide +kernel
theorem d_D_copy_107 : decode b_D_copy 107 = .ok (.iload 7, 2) := by decide +kernel
theorem d_D_copy_109 : decode b_D_copy 109 = .ok (.i2l, 1) := by decide +kernel
theorem d_D_copy_110 : decode b_D_copy 110 = .ok (.ladd, 1) := by decide +kernel
theorem d_D_copy_111 : decode b_D_copy 111 = .ok (.invokevirtual 80, 3) := by decide +kernel
theorem d_D_copy_114 : decode b_D_copy 114 = .ok (.iastore, 1) := by decide +kernel
theorem d_D_copy_115 : decode b_D_copy 115 = .ok (.iinc 7 1, 3) := by decide +kernel
theorem d_D_copy_118 : decode b_D_copy 118 = .ok (.goto (-28), 3) := by decide +kernel
theorem d_D_copy_121 : decode b_D_copy 121 = .ok (.iconst 0, 1) := by decide +kernel
theorem d_D_copy_122 : decode b_D_copy 122 = .ok (.istore 7, 2) := by decide +kernel
theorem d_D_copy_124 : decode b_D_copy 124 = .ok (.iload 7, 2) := by decide +kernel
theorem d_D_copy_126 : decode b_D_copy 126 = .ok (.iload 5, 2) := by decide +kernel
theorem d_D_copy_128 : decode b_D_copy 128 = .ok (.if_icmp .ge 28, 3) := by decide +kernel
theorem d_D_copy_131 : decode b_D_copy 131 = .ok (.aload_n 0, 1) := by decide +kernel
theorem d_D_copy_132 : decode b_D_copy 132 = .ok (.iload_n 3, 1) := by decide +kernel
theorem d_D_copy_133 : decode b_D_copy 133 = .ok (.iload 4, 2) := by decide +kernel
theorem d_D_copy_135 : decode b_D_copy 135 = .ok (.i2l, 1) := by decide +kernel
theorem d_D_copy_136 : decode b_D_copy 136 = .ok (.iload 7, 2) := by decide +kernel
theorem d_D_copy_138 : decode b_D_copy 138 = .ok (.i2l, 1) := by decide +kernel
theorem d_D_copy_139 : decode b_D_copy 139 = .ok (.ladd, 1) := by decide +kernel
theorem d_D_copy_140 : decode b_D_copy 140 = .ok (.aload_n 0, 1) := by decide +kernel
theorem d_D_copy_141 : decode b_D_copy 141 = .ok (.getfield 25, 3) := by decide +kernel
theorem d_D_copy_144 : decode b_D_copy 144 = .ok (.iload 7, 2) := by decide +kernel
theorem d_D_copy_146 : decode b_D_copy 146 = .ok (.iaload, 1) := by decide +kernel
theorem d_D_copy_147 : decode b_D_copy 147 = .ok (.invokevirtual 85, 3) := by decide +kernel
theorem d_D_copy_150 : decode b_D_copy 150 = .ok (.iinc 7 1, 3) := by decide +kernel
theorem d_D_copy_153 : decode b_D_copy 153 = .ok (.goto (-29), 3) := by decide +kernel
theorem d_D_copy_156 : decode b_D_copy 156 = .ok (.return_, 1) := by decide +kernel
theorem d_D_sum_0 : decode b_D_sum 0 = .ok (.aload_n 0, 1) := by decide +kernel
theorem d_D_sum_1 : decode b_D_sum 1 = .ok (.aload_n 0, 1) := by decide +kernel
theorem d_D_sum_2 : decode b_D_sum 2 = .ok (.iload_n 1, 1) := by decide +kernel
theorem d_D_sum_3 : decode b_D_sum 3 = .ok (.invokevirtual 51, 3) := by decide +kernel
theorem d_D_sum_6 : decode b_D_sum 6 = .ok (.ifCond .eq 13, 3) := by decide +kernel
theorem d_D_sum_9 : decode b_D_sum 9 = .ok (.iload_n 3, 1) := by decide +kernel
theorem d_D_sum_10 : decode b_D_sum 10 = .ok (.ifCond .lt 9, 3) := by decide +kernel
theorem d_D_sum_13 : decode b_D_sum 13 = .ok (.iload_n 3, 1) := by decide +kernel
theorem d_D_sum_14 : decode b_D_sum 14 = .ok (.ldc 46, 2) := by decide +kernel
theorem d_D_sum_16 : decode b_D_sum 16 = .ok (.if_icmp .le 7, 3) := by decide +kernel
theorem d_D_sum_19 : decode b_D_sum 19 = .ok (.iconst 1, 1) := by decide +kernel
theorem d_D_sum_20 : decode b_D_sum 20 = .ok (.goto 19, 3) := by decide +kernel
theorem d_D_sum_23 : decode b_D_sum 23 = .ok (.aload_n 0, 1) := by decide +kernel
theorem d_D_sum_24 : decode b_D_sum 24 = .ok (.iload_n 1, 1) := by decide +kernel
theorem d_D_sum_25 : decode b_D_sum 25 = .ok (.iload_n 2, 1) := by decide +kernel
theorem d_D_sum_26 : decode b_D_sum 26 = .ok (.i2l, 1) := by decide +kernel
theorem d_D_sum_27 : decode b_D_sum 27 = .ok (.iload_n 3, 1) := by decide +kernel
theorem d_D_sum_28 : decode b_D_sum 28 = .ok (.invokevirtual 76, 3) := by decide +kernel
theorem d_D_sum_31 : decode b_D_sum 31 = .ok (.ifCond .ne 7, 3) := by decide +kernel
theorem d_D_sum_34 : decode b_D_sum 34 = .ok (.iconst 2, 1) := by decide +kernel
theorem d_D_sum_35 : decode b_D_sum 35 = .ok (.goto 4, 3) := by decide +kernel
theorem d_D_sum_38 : decode b_D_sum 38 = .ok (.iconst 0, 1) := by decide +kernel
theorem d_D_sum_39 : decode b_D_sum 39 = .ok (.putfield 28, 3) := by decide +kernel
theorem d_D_sum_42 : decode b_D_sum 42 = .ok (.iconst 0, 1) := by decide +kernel
theorem d_D_sum_43 : decode b_D_sum 43 = .ok (.istore 4, 2) := by decide +kernel
theorem d_D_sum_45 : decode b_D_sum 45 = .ok (.iconst 0, 1) := by decide +kernel
theorem d_D_sum_46 : decode b_D_sum 46 = .ok (.istore 5, 2) := by decide +kernel
theorem d_D_sum_48 : decode b_D_sum 48 = .ok (.iload 5, 2) := by decide +kernel
theorem d_D_sum_50 : decode b_D_sum 50 = .ok (.iload_n 3, 1) := by decide +kernel
theorem d_D_sum_51 : decode b_D_sum 51 = .ok (.if_icmp .ge 37, 3) := by decide +kernel
theorem d_D_sum_54 : decode b_D_sum 54 = .ok (.aload_n 0, 1) := by decide +kernel
theorem d_D_sum_55 : decode b_D_sum 55 = .ok (.getfield 28, 3) := by decide +kernel
theorem d_D_sum_58 : decode b_D_sum 58 = .ok (.ifCond .ne 30, 3) := by decide +kernel
theorem d_D_sum_61 : decode b_D_sum 61 = .ok (.iload 4, 2) := by decide +kernel
theorem d_D_sum_63 : decode b_D_sum 63 = .ok (.aload_n 0, 1) := by decide +kernel
theorem d_D_sum_64 : decode b_D_sum 64 = .ok (.iload_n 1, 1) := by decide +kernel
theorem d_D_sum_65 : decode b_D_sum 65 = .ok (.iload_n 2, 1) := by decide +kernel
theorem d_D_sum_66 : decode b_D_sum 66 = .ok (.i2l, 1) := by decide +kernel
theorem d_D_sum_67 : decode b_D_sum 67 = .ok (.iload 5, 2) := by decide +kernel
theorem d_D_sum_69 : decode b_D_sum 69 = .ok (.i2l, 1) := by decide +kernel
theorem d_D_sum_70 : decode b_D_sum 70 = .ok (.ladd, 1) := by decide +kernel
theorem d_D_sum_71 : decode b_D_sum 71 = .ok (.invokevirtual 80, 3) := by decide +kernel
theorem d_D_sum_74 : decode b_D_sum 74 = .ok (.iload_n 3, 1) := by decide +kernel
theorem d_D_sum_75 : decode b_D_sum 75 = .ok (.iload 5, 2) := by decide +kernel
theorem d_D_sum_77 : decode b_D_sum 77 = .ok (.isub, 1) := by decide +kernel
theorem d_D_sum_78 : decode b_D_sum 78 = .ok (.imul, 1) := by decide +kernel
theorem d_D_sum_79 : decode b_D_sum 79 = .ok (.iadd, 1) := by decide +kernel
theorem d_D_sum_80 : decode b_D_sum 80 = .ok (.istore 4, 2) := by decide +kernel
theorem d_D_sum_82 : decode b_D_sum 82 = .ok (.iinc 5 1, 3) := by decide +kernel
theorem d_D_sum_85 : decode b_D_sum 85 = .ok (.goto (-37), 3) := by decide +kernel
theorem d_D_sum_88 : decode b_D_sum 88 = .ok (.iload 4, 2) := by decide +kernel
theorem d_D_sum_90 : decode b_D_sum 90 = .ok (.ireturn, 1) := by decide +kernel
