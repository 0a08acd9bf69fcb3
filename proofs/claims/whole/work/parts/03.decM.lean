theorem d_M_init_0 : decode b_M_init 0 = .ok (.aload_n 0, 1) := by decide +kernel
theorem d_M_init_1 : decode b_M_init 1 = .ok (.invokespecial 3, 3) := by decide +kernel
theorem d_M_init_4 : decode b_M_init 4 = .ok (.aload_n 0, 1) := by decide +kernel
theorem d_M_init_5 : decode b_M_init 5 = .ok (.iload_n 2, 1) := by decide +kernel
theorem d_M_init_6 : decode b_M_init 6 = .ok (.putfield 9, 3) := by decide +kernel
theorem d_M_init_9 : decode b_M_init 9 = .ok (.aload_n 0, 1) := by decide +kernel
theorem d_M_init_10 : decode b_M_init 10 = .ok (.iload_n 1, 1) := by decide +kernel
theorem d_M_init_11 : decode b_M_init 11 = .ok (.putfield 15, 3) := by decide +kernel
theorem d_M_init_14 : decode b_M_init 14 = .ok (.iload_n 2, 1) := by decide +kernel
theorem d_M_init_15 : decode b_M_init 15 = .ok (.iconst (-1), 1) := by decide +kernel
theorem d_M_init_16 : decode b_M_init 16 = .ok (.if_icmp .ne 8, 3) := by decide +kernel
theorem d_M_init_19 : decode b_M_init 19 = .ok (.bipush 16, 2) := by decide +kernel
theorem d_M_init_21 : decode b_M_init 21 = .ok (.goto 9, 3) := by decide +kernel
theorem d_M_init_24 : decode b_M_init 24 = .ok (.iload_n 2, 1) := by decide +kernel
theorem d_M_init_25 : decode b_M_init 25 = .ok (.bipush 16, 2) := by decide +kernel
theorem d_M_init_27 : decode b_M_init 27 = .ok (.invokestatic 18, 3) := by decide +kernel
theorem d_M_init_30 : decode b_M_init 30 = .ok (.istore_n 3, 1) := by decide +kernel
theorem d_M_init_31 : decode b_M_init 31 = .ok (.aload_n 0, 1) := by decide +kernel
theorem d_M_init_32 : decode b_M_init 32 = .ok (.iload_n 3, 1) := by decide +kernel
theorem d_M_init_33 : decode b_M_init 33 = .ok (.iconst 0, 1) := by decide +kernel
theorem d_M_init_34 : decode b_M_init 34 = .ok (.invokestatic 24, 3) := by decide +kernel
theorem d_M_init_37 : decode b_M_init 37 = .ok (.bipush 64, 2) := by decide +kernel
theorem d_M_init_39 : decode b_M_init 39 = .ok (.imul, 1) := by decide +kernel
theorem d_M_init_40 : decode b_M_init 40 = .ok (.anewarray 27, 3) := by decide +kernel
theorem d_M_init_43 : decode b_M_init 43 = .ok (.putfield 29, 3) := by decide +kernel
theorem d_M_init_46 : decode b_M_init 46 = .ok (.return_, 1) := by decide +kernel
theorem d_M_pageLimit_0 : decode b_M_pageLimit 0 = .ok (.aload_n 0, 1) := by decide +kernel
theorem d_M_pageLimit_1 : decode b_M_pageLimit 1 = .ok (.getfield 9, 3) := by decide +kernel
theorem d_M_pageLimit_4 : decode b_M_pageLimit 4 = .ok (.iconst (-1), 1) := by decide +kernel
theorem d_M_pageLimit_5 : decode b_M_pageLimit 5 = .ok (.if_icmp .ne 8, 3) := by decide +kernel
theorem d_M_pageLimit_8 : decode b_M_pageLimit 8 = .ok (.ldc 33, 2) := by decide +kernel
theorem d_M_pageLimit_10 : decode b_M_pageLimit 10 = .ok (.goto 7, 3) := by decide +kernel
theorem d_M_pageLimit_13 : decode b_M_pageLimit 13 = .ok (.aload_n 0, 1) := by decide +kernel
theorem d_M_pageLimit_14 : decode b_M_pageLimit 14 = .ok (.getfield 9, 3) := by decide +kernel
theorem d_M_pageLimit_17 : decode b_M_pageLimit 17 = .ok (.ireturn, 1) := by decide +kernel
theorem d_M_size_0 : decode b_M_size 0 = .ok (.aload_n 0, 1) := by decide +kernel
theorem d_M_size_1 : decode b_M_size 1 = .ok (.getfield 15, 3) := by decide +kernel
theorem d_M_size_4 : decode b_M_size 4 = .ok (.i2l, 1) := by decide +kernel
theorem d_M_size_5 : decode b_M_size 5 = .ok (.ldc2_w 34, 3) := by decide +kernel
theorem d_M_size_8 : decode b_M_size 8 = .ok (.lmul, 1) := by decide +kernel
theorem d_M_size_9 : decode b_M_size 9 = .ok (.lreturn, 1) := by decide +kernel
theorem d_M_numberAt_0 : decode b_M_numberAt 0 = .ok (.lconst 0, 1) := by decide +kernel
theorem d_M_numberAt_1 : decode b_M_numberAt 1 = .ok (.lstore_n 3, 1) := by decide +kernel
theorem d_M_numberAt_2 : decode b_M_numberAt 2 = .ok (.iconst 0, 1) := by decide +kernel
theorem d_M_numberAt_3 : decode b_M_numberAt 3 = .ok (.istore 5, 2) := by decide +kernel
theorem d_M_numberAt_5 : decode b_M_numberAt 5 = .ok (.iload 5, 2) := by decide +kernel
theorem d_M_numberAt_7 : decode b_M_numberAt 7 = .ok (.iload_n 2, 1) := by decide +kernel
theorem d_M_numberAt_8 : decode b_M_numberAt 8 = .ok (.if_icmp .ge 27, 3) := by decide +kernel
theorem d_M_numberAt_11 : decode b_M_numberAt 11 = .ok (.lload_n 3, 1) := by decide +kernel
theorem d_M_numberAt_12 : decode b_M_numberAt 12 = .ok (.aload_n 0, 1) := by decide +kernel
theorem d_M_numberAt_13 : decode b_M_numberAt 13 = .ok (.iload_n 1, 1) := by decide +kernel
theorem d_M_numberAt_14 : decode b_M_numberAt 14 = .ok (.iload 5, 2) := by decide +kernel
theorem d_M_numberAt_16 : decode b_M_numberAt 16 = .ok (.iadd, 1) := by decide +kernel
theorem d_M_numberAt_17 : decode b_M_numberAt 17 = .ok (.invokevirtual 36, 3) := by decide +kernel
theorem d_M_numberAt_20 : decode b_M_numberAt 20 = .ok (.i2l, 1) := by decide +kernel
theorem d_M_numberAt_21 : decode b_M_numberAt 21 = .ok (.bipush 8, 2) := by decide +kernel
theorem d_M_numberAt_23 : decode b_M_numberAt 23 = .ok (.iload 5, 2) := by decide +kernel
theorem d_M_numberAt_25 : decode b_M_numberAt 25 = .ok (.imul, 1) := by decide +kernel
theorem d_M_numberAt_26 : decode b_M_numberAt 26 = .ok (.lshl, 1) := by decide +kernel
theorem d_M_numberAt_27 : decode b_M_numberAt 27 = .ok (.lor, 1) := by decide +kernel
theorem d_M_numberAt_28 : decode b_M_numberAt 28 = .ok (.lstore_n 3, 1) := by decide +kernel
theorem d_M_numberAt_29 : decode b_M_numberAt 29 = .ok (.iinc 5 1, 3) := by decide +kernel
theorem d_M_numberAt_32 : decode b_M_numberAt 32 = .ok (.goto (-27), 3) := by decide +kernel
theorem d_M_numberAt_35 : decode b_M_numberAt 35 = .ok (.lload_n 3, 1) := by decide +kernel
theorem d_M_numberAt_36 : decode b_M_numberAt 36 = .ok (.lreturn, 1) := by decide +kernel
theorem d_M_putNumber_0 : decode b_M_putNumber 0 = .ok (.iconst 0, 1) := by decide +kernel
theorem d_M_putNumber_1 : decode b_M_putNumber 1 = .ok (.istore 5, 2) := by decide +kernel
theorem d_M_putNumber_3 : decode b_M_putNumber 3 = .ok (.iload 5, 2) := by decide +kernel
theorem d_M_putNumber_5 : decode b_M_putNumber 5 = .ok (.iload_n 2, 1) := by decide +kernel
theorem d_M_putNumber_6 : decode b_M_putNumber 6 = .ok (.if_icmp .ge 26, 3) := by decide +kernel
theorem d_M_putNumber_9 : decode b_M_putNumber 9 = .ok (.aload_n 0, 1) := by decide +kernel
theorem d_M_putNumber_10 : decode b_M_putNumber 10 = .ok (.iload_n 1, 1) := by decide +kernel
theorem d_M_putNumber_11 : decode b_M_putNumber 11 = .ok (.iload 5, 2) := by decide +kernel
theorem d_M_putNumber_13 : decode b_M_putNumber 13 = .ok (.iadd, 1) := by decide +kernel
theorem d_M_putNumber_14 : decode b_M_putNumber 14 = .ok (.lload_n 3, 1) := by decide +kernel
theorem d_M_putNumber_15 : decode b_M_putNumber 15 = .ok (.bipush 8, 2) := by decide +kernel
theorem d_M_putNumber_17 : decode b_M_putNumber 17 = .ok (.iload 5, 2) := by decide +kernel
theorem d_M_putNumber_19 : decode b_M_putNumber 19 = .ok (.imul, 1) := by decide +kernel
theorem d_M_putNumber_20 : decode b_M_putNumber 20 = .ok (.lushr, 1) := by decide +kernel
theorem d_M_putNumber_21 : decode b_M_putNumber 21 = .ok (.l2i, 1) := by decide +kernel
theorem d_M_putNumber_22 : decode b_M_putNumber 22 = .ok (.i2b, 1) := by decide +kernel
theorem d_M_putNumber_23 : decode b_M_putNumber 23 = .ok (.invokevirtual 40, 3) := by decide +kernel
theorem d_M_putNumber_26 : decode b_M_putNumber 26 = .ok (.iinc 5 1, 3) := by decide +kernel
theorem d_M_putNumber_29 : decode b_M_putNumber 29 = .ok (.goto (-26), 3) := by decide +kernel
theorem d_M_putNumber_32 : decode b_M_putNumber 32 = .ok (.return_, 1) := by decide +kernel
theorem d_M_readInto_0 : decode b_M_readInto 0 = .ok (.iload_n 2, 1) := by decide +kernel
theorem d_M_readInto_1 : decode b_M_readInto 1 = .ok (.sipush 1024, 3) := by decide +kernel
theorem d_M_readInto_4 : decode b_M_readInto 4 = .ok (.idiv, 1) := by decide +kernel
theorem d_M_readInto_5 : decode b_M_readInto 5 = .ok (.istore 4, 2) := by decide +kernel
theorem d_M_readInto_7 : decode b_M_readInto 7 = .ok (.iload 4, 2) := by decide +kernel
theorem d_M_readInto_9 : decode b_M_readInto 9 = .ok (.iload_n 2, 1) := by decide +kernel
theorem d_M_readInto_10 : decode b_M_readInto 10 = .ok (.iload_n 3, 1) := by decide +kernel
theorem d_M_readInto_11 : decode b_M_readInto 11 = .ok (.iadd, 1) := by decide +kernel
theorem d_M_readInto_12 : decode b_M_readInto 12 = .ok (.iconst 1, 1) := by decide +kernel
theorem d_M_readInto_13 : decode b_M_readInto 13 = .ok (.isub, 1) := by decide +kernel
theorem d_M_readInto_14 : decode b_M_readInto 14 = .ok (.sipush 1024, 3) := by decide +kernel
theorem d_M_readInto_17 : decode b_M_readInto 17 = .ok (.idiv, 1) := by decide +kernel
theorem d_M_readInto_18 : decode b_M_readInto 18 = .ok (.if_icmp .gt 92, 3) := by decide +kernel
theorem d_M_readInto_21 : decode b_M_readInto 21 = .ok (.iload_n 2, 1) := by decide +kernel
theorem d_M_readInto_22 : decode b_M_readInto 22 = .ok (.iload 4, 2) := by decide +kernel
theorem d_M_readInto_24 : decode b_M_readInto 24 = .ok (.sipush 1024, 3) := by decide +kernel
theorem d_M_readInto_27 : decode b_M_readInto 27 = .ok (.imul, 1) := by decide +kernel
theorem d_M_readInto_28 : decode b_M_readInto 28 = .ok (.invokestatic 24, 3) := by decide +kernel
theorem d_M_readInto_31 : decode b_M_readInto 31 = .ok (.istore 5, 2) := by decide +kernel
theorem d_M_readInto_33 : decode b_M_readInto 33 = .ok (.iload_n 2, 1) := by decide +kernel
theorem d_M_readInto_34 : decode b_M_readInto 34 = .ok (.iload_n 3, 1) := by decide +kernel
theorem d_M_readInto_35 : decode b_M_readInto 35 = .ok (.iadd, 1) := by decide +kernel
theorem d_M_readInto_36 : decode b_M_readInto 36 = .ok (.iload 4, 2) := by decide +kernel
theorem d_M_readInto_38 : decode b_M_readInto 38 = .ok (.iconst 1, 1) := by decide +kernel
theorem d_M_readInto_39 : decode b_M_readInto 39 = .ok (.iadd, 1) := by decide +kernel
theorem d_M_readInto_40 : decode b_M_readInto 40 = .ok (.sipush 1024, 3) := by decide +kernel
theorem d_M_readInto_43 : decode b_M_readInto 43 = .ok (.imul, 1) := by decide +kernel
theorem d_M_readInto_44 : decode b_M_readInto 44 = .ok (.invokestatic 18, 3) := by decide +kernel
theorem d_M_readInto_47 : decode b_M_readInto 47 = .ok (.istore 6, 2) := by decide +kernel
theorem d_M_readInto_49 : decode b_M_readInto 49 = .ok (.aload_n 0, 1) := by decide +kernel
theorem d_M_readInto_50 : decode b_M_readInto 50 = .ok (.iload 4, 2) := by decide +kernel
theorem d_M_readInto_52 : decode b_M_readInto 52 = .ok (.invokevirtual 44, 3) := by decide +kernel
theorem d_M_readInto_55 : decode b_M_readInto 55 = .ok (.astore 7, 2) := by decide +kernel
theorem d_M_readInto_57 : decode b_M_readInto 57 = .ok (.aload 7, 2) := by decide +kernel
theorem d_M_readInto_59 : decode b_M_readInto 59 = .ok (.ifnonnull 18, 3) := by decide +kernel
theorem d_M_readInto_62 : decode b_M_readInto 62 = .ok (.aload_n 1, 1) := by decide +kernel
theorem d_M_readInto_63 : decode b_M_readInto 63 = .ok (.iload 5, 2) := by decide +kernel
theorem d_M_readInto_65 : decode b_M_readInto 65 = .ok (.iload_n 2, 1) := by decide +kernel
theorem d_M_readInto_66 : decode b_M_readInto 66 = .ok (.isub, 1) := by decide +kernel
theorem d_M_readInto_67 : decode b_M_readInto 67 = .ok (.iload 6, 2) := by decide +kernel
theorem d_M_readInto_69 : decode b_M_readInto 69 = .ok (.iload_n 2, 1) := by decide +kernel
theorem d_M_readInto_70 : decode b_M_readInto 70 = .ok (.isub, 1) := by decide +kernel
theorem d_M_readInto_71 : decode b_M_readInto 71 = .ok (.invokestatic 48, 3) := by decide +kernel
theorem d_M_readInto_74 : decode b_M_readInto 74 = .ok (.goto 30, 3) := by decide +kernel
theorem d_M_readInto_77 : decode b_M_readInto 77 = .ok (.aload 7, 2) := by decide +kernel
theorem d_M_readInto_79 : decode b_M_readInto 79 = .ok (.getfield 52, 3) := by decide +kernel
theorem d_M_readInto_82 : decode b_M_readInto 82 = .ok (.iload 5, 2) := by decide +kernel
theorem d_M_readInto_84 : decode b_M_readInto 84 = .ok (.iload 4, 2) := by decide +kernel
theorem d_M_readInto_86 : decode b_M_readInto 86 = .ok (.sipush 1024, 3) := by decide +kernel
theorem d_M_readInto_89 : decode b_M_readInto 89 = .ok (.imul, 1) := by decide +kernel
theorem d_M_readInto_90 : decode b_M_readInto 90 = .ok (.isub, 1) := by decide +kernel
theorem d_M_readInto_91 : decode b_M_readInto 91 = .ok (.aload_n 1, 1) := by decide +kernel
theorem d_M_readInto_92 : decode b_M_readInto 92 = .ok (.iload 5, 2) := by decide +kernel
theorem d_M_readInto_94 : decode b_M_readInto 94 = .ok (.iload_n 2, 1) := by decide +kernel
theorem d_M_readInto_95 : decode b_M_readInto 95 = .ok (.isub, 1) := by decide +kernel
theorem d_M_readInto_96 : decode b_M_readInto 96 = .ok (.iload 6, 2) := by decide +kernel
theorem d_M_readInto_98 : decode b_M_readInto 98 = .ok (.iload 5, 2) := by decide +kernel
theorem d_M_readInto_100 : decode b_M_readInto 100 = .ok (.isub, 1) := by decide +kernel
theorem d_M_readInto_101 : decode b_M_readInto 101 = .ok (.invokestatic 56, 3) := by decide +kernel
theorem d_M_readInto_104 : decode b_M_readInto 104 = .ok (.iinc 4 1, 3) := by decide +kernel
theorem d_M_readInto_107 : decode b_M_readInto 107 = .ok (.goto (-100), 3) := by decide +kernel
theorem d_M_readInto_110 : decode b_M_readInto 110 = .ok (.return_, 1) := by decide +kernel
theorem d_M_clear_0 : decode b_M_clear 0 = .ok (.iload_n 1, 1) := by decide +kernel
theorem d_M_clear_1 : decode b_M_clear 1 = .ok (.iconst 0, 1) := by decide +kernel
theorem d_M_clear_2 : decode b_M_clear 2 = .ok (.invokestatic 24, 3) := by decide +kernel
theorem d_M_clear_5 : decode b_M_clear 5 = .ok (.istore_n 3, 1) := by decide +kernel
theorem d_M_clear_6 : decode b_M_clear 6 = .ok (.iload_n 3, 1) := by decide +kernel
theorem d_M_clear_7 : decode b_M_clear 7 = .ok (.iload_n 2, 1) := by decide +kernel
theorem d_M_clear_8 : decode b_M_clear 8 = .ok (.aload_n 0, 1) := by decide +kernel
theorem d_M_clear_9 : decode b_M_clear 9 = .ok (.arraylength, 1) := by decide +kernel
theorem d_M_clear_10 : decode b_M_clear 10 = .ok (.invokestatic 18, 3) := by decide +kernel
theorem d_M_clear_13 : decode b_M_clear 13 = .ok (.if_icmp .ge 13, 3) := by decide +kernel
theorem d_M_clear_16 : decode b_M_clear 16 = .ok (.aload_n 0, 1) := by decide +kernel
theorem d_M_clear_17 : decode b_M_clear 17 = .ok (.iload_n 3, 1) := by decide +kernel
theorem d_M_clear_18 : decode b_M_clear 18 = .ok (.iconst 0, 1) := by decide +kernel
theorem d_M_clear_19 : decode b_M_clear 19 = .ok (.bastore, 1) := by decide +kernel
theorem d_M_clear_20 : decode b_M_clear 20 = .ok (.iinc 3 1, 3) := by decide +kernel
theorem d_M_clear_23 : decode b_M_clear 23 = .ok (.goto (-17), 3) := by decide +kernel
theorem d_M_clear_26 : decode b_M_clear 26 = .ok (.return_, 1) := by decide +kernel
theorem d_M_writeFrom_0 : decode b_M_writeFrom 0 = .ok (.iload_n 2, 1) := by decide +kernel
theorem d_M_writeFrom_1 : decode b_M_writeFrom 1 = .ok (.sipush 1024, 3) := by decide +kernel
theorem d_M_writeFrom_4 : decode b_M_writeFrom 4 = .ok (.idiv, 1) := by decide +kernel
theorem d_M_writeFrom_5 : decode b_M_writeFrom 5 = .ok (.istore 4, 2) := by decide +kernel
theorem d_M_writeFrom_7 : decode b_M_writeFrom 7 = .ok (.iload 4, 2) := by decide +kernel
theorem d_M_writeFrom_9 : decode b_M_writeFrom 9 = .ok (.iload_n 2, 1) := by decide +kernel
theorem d_M_writeFrom_10 : decode b_M_writeFrom 10 = .ok (.iload_n 3, 1) := by decide +kernel
theorem d_M_writeFrom_11 : decode b_M_writeFrom 11 = .ok (.iadd, 1) := by decide +kernel
theorem d_M_writeFrom_12 : decode b_M_writeFrom 12 = .ok (.iconst 1, 1) := by decide +kernel
theorem d_M_writeFrom_13 : decode b_M_writeFrom 13 = .ok (.isub, 1) := by decide +kernel
theorem d_M_writeFrom_14 : decode b_M_writeFrom 14 = .ok (.sipush 1024, 3) := by decide +kernel
theorem d_M_writeFrom_17 : decode b_M_writeFrom 17 = .ok (.idiv, 1) := by decide +kernel
theorem d_M_writeFrom_18 : decode b_M_writeFrom 18 = .ok (.if_icmp .gt 77, 3) := by decide +kernel
theorem d_M_writeFrom_21 : decode b_M_writeFrom 21 = .ok (.iload_n 2, 1) := by decide +kernel
theorem d_M_writeFrom_22 : decode b_M_writeFrom 22 = .ok (.iload 4, 2) := by decide +kernel
theorem d_M_writeFrom_24 : decode b_M_writeFrom 24 = .ok (.sipush 1024, 3) := by decide +kernel
theorem d_M_writeFrom_27 : decode b_M_writeFrom 27 = .ok (.imul, 1) := by decide +kernel
theorem d_M_writeFrom_28 : decode b_M_writeFrom 28 = .ok (.invokestatic 24, 3) := by decide +kernel
theorem d_M_writeFrom_31 : decode b_M_writeFrom 31 = .ok (.istore 5, 2) := by decide +kernel
theorem d_M_writeFrom_33 : decode b_M_writeFrom 33 = .ok (.iload_n 2, 1) := by decide +kernel
theorem d_M_writeFrom_34 : decode b_M_writeFrom 34 = .ok (.iload_n 3, 1) := by decide +kernel
theorem d_M_writeFrom_35 : decode b_M_writeFrom 35 = .ok (.iadd, 1) := by decide +kernel
theorem d_M_writeFrom_36 : decode b_M_writeFrom 36 = .ok (.iload 4, 2) := by decide +kernel
theorem d_M_writeFrom_38 : decode b_M_writeFrom 38 = .ok (.iconst 1, 1) := by decide +kernel
theorem d_M_writeFrom_39 : decode b_M_writeFrom 39 = .ok (.iadd, 1) := by decide +kernel
theorem d_M_writeFrom_40 : decode b_M_writeFrom 40 = .ok (.sipush 1024, 3) := by decide +kernel
theorem d_M_writeFrom_43 : decode b_M_writeFrom 43 = .ok (.imul, 1) := by decide +kernel
theorem d_M_writeFrom_44 : decode b_M_writeFrom 44 = .ok (.invokestatic 18, 3) := by decide +kernel
theorem d_M_writeFrom_47 : decode b_M_writeFrom 47 = .ok (.istore 6, 2) := by decide +kernel
theorem d_M_writeFrom_49 : decode b_M_writeFrom 49 = .ok (.aload_n 0, 1) := by decide +kernel
theorem d_M_writeFrom_50 : decode b_M_writeFrom 50 = .ok (.iload 4, 2) := by decide +kernel
theorem d_M_writeFrom_52 : decode b_M_writeFrom 52 = .ok (.invokevirtual 62, 3) := by decide +kernel
theorem d_M_writeFrom_55 : decode b_M_writeFrom 55 = .ok (.astore 7, 2) := by decide +kernel
theorem d_M_writeFrom_57 : decode b_M_writeFrom 57 = .ok (.aload 7, 2) := by decide +kernel
theorem d_M_writeFrom_59 : decode b_M_writeFrom 59 = .ok (.ifnull 30, 3) := by decide +kernel
theorem d_M_writeFrom_62 : decode b_M_writeFrom 62 = .ok (.aload_n 1, 1) := by decide +kernel
theorem d_M_writeFrom_63 : decode b_M_writeFrom 63 = .ok (.iload 5, 2) := by decide +kernel
theorem d_M_writeFrom_65 : decode b_M_writeFrom 65 = .ok (.iload_n 2, 1) := by decide +kernel
theorem d_M_writeFrom_66 : decode b_M_writeFrom 66 = .ok (.isub, 1) := by decide +kernel
theorem d_M_writeFrom_67 : decode b_M_writeFrom 67 = .ok (.aload 7, 2) := by decide +kernel
theorem d_M_writeFrom_69 : decode b_M_writeFrom 69 = .ok (.getfield 52, 3) := by decide +kernel
theorem d_M_writeFrom_72 : decode b_M_writeFrom 72 = .ok (.iload 5, 2) := by decide +kernel
theorem d_M_writeFrom_74 : decode b_M_writeFrom 74 = .ok (.iload 4, 2) := by decide +kernel
theorem d_M_writeFrom_76 : decode b_M_writeFrom 76 = .ok (.sipush 1024, 3) := by decide +kernel
theorem d_M_writeFrom_79 : decode b_M_writeFrom 79 = .ok (.imul, 1) := by decide +kernel
theorem d_M_writeFrom_80 : decode b_M_writeFrom 80 = .ok (.isub, 1) := by decide +kernel
theorem d_M_writeFrom_81 : decode b_M_writeFrom 81 = .ok (.iload 6, 2) := by decide +kernel
theorem d_M_writeFrom_83 : decode b_M_writeFrom 83 = .ok (.iload 5, 2) := by decide +kernel
theorem d_M_writeFrom_85 : decode b_M_writeFrom 85 = .ok (.isub, 1) := by decide +kernel
theorem d_M_writeFrom_86 : decode b_M_writeFrom 86 = .ok (.invokestatic 56, 3) := by decide +kernel
theorem d_M_writeFrom_89 : decode b_M_writeFrom 89 = .ok (.iinc 4 1, 3) := by decide +kernel
theorem d_M_writeFrom_92 : decode b_M_writeFrom 92 = .ok (.goto (-85), 3) := by decide +kernel
theorem d_M_writeFrom_95 : decode b_M_writeFrom 95 = .ok (.return_, 1) := by decide +kernel
theorem d_M_weighedSum_0 : decode b_M_weighedSum 0 = .ok (.iconst 0, 1) := by decide +kernel
theorem d_M_weighedSum_1 : decode b_M_weighedSum 1 = .ok (.istore_n 3, 1) := by decide +kernel
theorem d_M_weighedSum_2 : decode b_M_weighedSum 2 = .ok (.iload_n 1, 1) := by decide +kernel
theorem d_M_weighedSum_3 : decode b_M_weighedSum 3 = .ok (.sipush 1024, 3) := by decide +kernel
theorem d_M_weighedSum_6 : decode b_M_weighedSum 6 = .ok (.idiv, 1) := by decide +kernel
theorem d_M_weighedSum_7 : decode b_M_weighedSum 7 = .ok (.istore 4, 2) := by decide +kernel
theorem d_M_weighedSum_9 : decode b_M_weighedSum 9 = .ok (.iload 4, 2) := by decide +kernel
theorem d_M_weighedSum_11 : decode b_M_weighedSum 11 = .ok (.iload_n 1, 1) := by decide +kernel
theorem d_M_weighedSum_12 : decode b_M_weighedSum 12 = .ok (.iload_n 2, 1) := by decide +kernel
theorem d_M_weighedSum_13 : decode b_M_weighedSum 13 = .ok (.iadd, 1) := by decide +kernel
theorem d_M_weighedSum_14 : decode b_M_weighedSum 14 = .ok (.iconst 1, 1) := by decide +kernel
theorem d_M_weighedSum_15 : decode b_M_weighedSum 15 = .ok (.isub, 1) := by decide +kernel
theorem d_M_weighedSum_16 : decode b_M_weighedSum 16 = .ok (.sipush 1024, 3) := by decide +kernel
theorem d_M_weighedSum_19 : decode b_M_weighedSum 19 = .ok (.idiv, 1) := by decide +kernel
theorem d_M_weighedSum_20 : decode b_M_weighedSum 20 = .ok (.if_icmp .gt 82, 3) := by decide +kernel
theorem d_M_weighedSum_23 : decode b_M_weighedSum 23 = .ok (.aload_n 0, 1) := by decide +kernel
theorem d_M_weighedSum_24 : decode b_M_weighedSum 24 = .ok (.iload 4, 2) := by decide +kernel
theorem d_M_weighedSum_26 : decode b_M_weighedSum 26 = .ok (.invokevirtual 44, 3) := by decide +kernel
theorem d_M_weighedSum_29 : decode b_M_weighedSum 29 = .ok (.astore 5, 2) := by decide +kernel
theorem d_M_weighedSum_31 : decode b_M_weighedSum 31 = .ok (.aload 5, 2) := by decide +kernel
theorem d_M_weighedSum_33 : decode b_M_weighedSum 33 = .ok (.ifnull 63, 3) := by decide +kernel
theorem d_M_weighedSum_36 : decode b_M_weighedSum 36 = .ok (.iload_n 1, 1) := by decide +kernel
theorem d_M_weighedSum_37 : decode b_M_weighedSum 37 = .ok (.iload 4, 2) := by decide +kernel
theorem d_M_weighedSum_39 : decode b_M_weighedSum 39 = .ok (.sipush 1024, 3) := by decide +kernel
theorem d_M_weighedSum_42 : decode b_M_weighedSum 42 = .ok (.imul, 1) := by decide +kernel
theorem d_M_weighedSum_43 : decode b_M_weighedSum 43 = .ok (.invokestatic 24, 3) := by decide +kernel
theorem d_M_weighedSum_46 : decode b_M_weighedSum 46 = .ok (.istore 6, 2) := by decide +kernel
theorem d_M_weighedSum_48 : decode b_M_weighedSum 48 = .ok (.iload_n 1, 1) := by decide +kernel
theorem d_M_weighedSum_49 : decode b_M_weighedSum 49 = .ok (.iload_n 2, 1) := by decide +kernel
theorem d_M_weighedSum_50 : decode b_M_weighedSum 50 = .ok (.iadd, 1) := by decide +kernel
theorem d_M_weighedSum_51 : decode b_M_weighedSum 51 = .ok (.iload 4, 2) := by decide +kernel
theorem d_M_weighedSum_53 : decode b_M_weighedSum 53 = .ok (.iconst 1, 1) := by decide +kernel
theorem d_M_weighedSum_54 : decode b_M_weighedSum 54 = .ok (.iadd, 1) := by decide +kernel
theorem d_M_weighedSum_55 : decode b_M_weighedSum 55 = .ok (.sipush 1024, 3) := by decide +kernel
theorem d_M_weighedSum_58 : decode b_M_weighedSum 58 = .ok (.imul, 1) := by decide +kernel
theorem d_M_weighedSum_59 : decode b_M_weighedSum 59 = .ok (.invokestatic 18, 3) := by decide +kernel
theorem d_M_weighedSum_62 : decode b_M_weighedSum 62 = .ok (.istore 7, 2) := by decide +kernel
theorem d_M_weighedSum_64 : decode b_M_weighedSum 64 = .ok (.iload_n 3, 1) := by decide +kernel
theorem d_M_weighedSum_65 : decode b_M_weighedSum 65 = .ok (.aload 5, 2) := by decide +kernel
theorem d_M_weighedSum_67 : decode b_M_weighedSum 67 = .ok (.iload 6, 2) := by decide +kernel
theorem d_M_weighedSum_69 : decode b_M_weighedSum 69 = .ok (.iload 4, 2) := by decide +kernel
theorem d_M_weighedSum_71 : decode b_M_weighedSum 71 = .ok (.sipush 1024, 3) := by decide +kernel
theorem d_M_weighedSum_74 : decode b_M_weighedSum 74 = .ok (.imul, 1) := by decide +kernel
theorem d_M_weighedSum_75 : decode b_M_weighedSum 75 = .ok (.isub, 1) := by decide +kernel
theorem d_M_weighedSum_76 : decode b_M_weighedSum 76 = .ok (.iload 7, 2) := by decide +kernel
theorem d_M_weighedSum_78 : decode b_M_weighedSum 78 = .ok (.iload 4, 2) := by decide +kernel
theorem d_M_weighedSum_80 : decode b_M_weighedSum 80 = .ok (.sipush 1024, 3) := by decide +kernel
theorem d_M_weighedSum_83 : decode b_M_weighedSum 83 = .ok (.imul, 1) := by decide +kernel
theorem d_M_weighedSum_84 : decode b_M_weighedSum 84 = .ok (.isub, 1) := by decide +kernel
theorem d_M_weighedSum_85 : decode b_M_weighedSum 85 = .ok (.iload_n 1, 1) := by decide +kernel
theorem d_M_weighedSum_86 : decode b_M_weighedSum 86 = .ok (.iload_n 2, 1) := by decide +kernel
theorem d_M_weighedSum_87 : decode b_M_weighedSum 87 = .ok (.iadd, 1) := by decide +kernel
theorem d_M_weighedSum_88 : decode b_M_weighedSum 88 = .ok (.iload 6, 2) := by decide +kernel
theorem d_M_weighedSum_90 : decode b_M_weighedSum 90 = .ok (.isub, 1) := by decide +kernel
theorem d_M_weighedSum_91 : decode b_M_weighedSum 91 = .ok (.invokevirtual 65, 3) := by decide +kernel
theorem d_M_weighedSum_94 : decode b_M_weighedSum 94 = .ok (.iadd, 1) := by decide +kernel
theorem d_M_weighedSum_95 : decode b_M_weighedSum 95 = .ok (.istore_n 3, 1) := by decide +kernel
theorem d_M_weighedSum_96 : decode b_M_weighedSum 96 = .ok (.iinc 4 1, 3) := by decide +kernel
theorem d_M_weighedSum_99 : decode b_M_weighedSum 99 = .ok (.goto (-90), 3) := by decide +kernel
theorem d_M_weighedSum_102 : decode b_M_weighedSum 102 = .ok (.iload_n 3, 1) := by decide +kernel
theorem d_M_weighedSum_103 : decode b_M_weighedSum 103 = .ok (.ireturn, 1) := by decide +kernel
theorem d_M_byteAt_0 : decode b_M_byteAt 0 = .ok (.aload_n 0, 1) := by decide +kernel
theorem d_M_byteAt_1 : decode b_M_byteAt 1 = .ok (.iload_n 1, 1) := by decide +kernel
theorem d_M_byteAt_2 : decode b_M_byteAt 2 = .ok (.sipush 1024, 3) := by decide +kernel
theorem d_M_byteAt_5 : decode b_M_byteAt 5 = .ok (.idiv, 1) := by decide +kernel
theorem d_M_byteAt_6 : decode b_M_byteAt 6 = .ok (.invokevirtual 44, 3) := by decide +kernel
theorem d_M_byteAt_9 : decode b_M_byteAt 9 = .ok (.astore_n 2, 1) := by decide +kernel
theorem d_M_byteAt_10 : decode b_M_byteAt 10 = .ok (.aload_n 2, 1) := by decide +kernel
theorem d_M_byteAt_11 : decode b_M_byteAt 11 = .ok (.ifnull 7, 3) := by decide +kernel
theorem d_M_byteAt_14 : decode b_M_byteAt 14 = .ok (.iload_n 1, 1) := by decide +kernel
theorem d_M_byteAt_15 : decode b_M_byteAt 15 = .ok (.ifCond .ge 7, 3) := by decide +kernel
theorem d_M_byteAt_18 : decode b_M_byteAt 18 = .ok (.iconst 0, 1) := by decide +kernel
theorem d_M_byteAt_19 : decode b_M_byteAt 19 = .ok (.goto 17, 3) := by decide +kernel
theorem d_M_byteAt_22 : decode b_M_byteAt 22 = .ok (.aload_n 2, 1) := by decide +kernel
theorem d_M_byteAt_23 : decode b_M_byteAt 23 = .ok (.getfield 52, 3) := by decide +kernel
theorem d_M_byteAt_26 : decode b_M_byteAt 26 = .ok (.iload_n 1, 1) := by decide +kernel
theorem d_M_byteAt_27 : decode b_M_byteAt 27 = .ok (.sipush 1024, 3) := by decide +kernel
theorem d_M_byteAt_30 : decode b_M_byteAt 30 = .ok (.irem, 1) := by decide +kernel
theorem d_M_byteAt_31 : decode b_M_byteAt 31 = .ok (.baload, 1) := by decide +kernel
theorem d_M_byteAt_32 : decode b_M_byteAt 32 = .ok (.sipush 255, 3) := by decide +kernel
theorem d_M_byteAt_35 : decode b_M_byteAt 35 = .ok (.iand, 1) := by decide +kernel
theorem d_M_byteAt_36 : decode b_M_byteAt 36 = .ok (.ireturn, 1) := by decide +kernel
theorem d_M_putByte_0 : decode b_M_putByte 0 = .ok (.aload_n 0, 1) := by decide +kernel
theorem d_M_putByte_1 : decode b_M_putByte 1 = .ok (.iload_n 1, 1) := by decide +kernel
theorem d_M_putByte_2 : decode b_M_putByte 2 = .ok (.sipush 1024, 3) := by decide +kernel
theorem d_M_putByte_5 : decode b_M_putByte 5 = .ok (.idiv, 1) := by decide +kernel
theorem d_M_putByte_6 : decode b_M_putByte 6 = .ok (.invokevirtual 62, 3) := by decide +kernel
theorem d_M_putByte_9 : decode b_M_putByte 9 = .ok (.astore_n 3, 1) := by decide +kernel
theorem d_M_putByte_10 : decode b_M_putByte 10 = .ok (.aload_n 3, 1) := by decide +kernel
theorem d_M_putByte_11 : decode b_M_putByte 11 = .ok (.ifnull 18, 3) := by decide +kernel
theorem d_M_putByte_14 : decode b_M_putByte 14 = .ok (.iload_n 1, 1) := by decide +kernel
theorem d_M_putByte_15 : decode b_M_putByte 15 = .ok (.ifCond .lt 14, 3) := by decide +kernel
theorem d_M_putByte_18 : decode b_M_putByte 18 = .ok (.aload_n 3, 1) := by decide +kernel
theorem d_M_putByte_19 : decode b_M_putByte 19 = .ok (.getfield 52, 3) := by decide +kernel
theorem d_M_putByte_22 : decode b_M_putByte 22 = .ok (.iload_n 1, 1) := by decide +kernel
theorem d_M_putByte_23 : decode b_M_putByte 23 = .ok (.sipush 1024, 3) := by decide +kernel
theorem d_M_putByte_26 : decode b_M_putByte 26 = .ok (.irem, 1) := by decide +kernel
theorem d_M_putByte_27 : decode b_M_putByte 27 = .ok (.iload_n 2, 1) := by decide +kernel
theorem d_M_putByte_28 : decode b_M_putByte 28 = .ok (.bastore, 1) := by decide +kernel
theorem d_M_putByte_29 : decode b_M_putByte 29 = .ok (.return_, 1) := by decide +kernel
theorem d_M_rowOrNull_0 : decode b_M_rowOrNull 0 = .ok (.iload_n 1, 1) := by decide +kernel
theorem d_M_rowOrNull_1 : decode b_M_rowOrNull 1 = .ok (.ifCond .lt 12, 3) := by decide +kernel
theorem d_M_rowOrNull_4 : decode b_M_rowOrNull 4 = .ok (.iload_n 1, 1) := by decide +kernel
theorem d_M_rowOrNull_5 : decode b_M_rowOrNull 5 = .ok (.aload_n 0, 1) := by decide +kernel
theorem d_M_rowOrNull_6 : decode b_M_rowOrNull 6 = .ok (.getfield 29, 3) := by decide +kernel
theorem d_M_rowOrNull_9 : decode b_M_rowOrNull 9 = .ok (.arraylength, 1) := by decide +kernel
theorem d_M_rowOrNull_10 : decode b_M_rowOrNull 10 = .ok (.if_icmp .lt 7, 3) := by decide +kernel
theorem d_M_rowOrNull_13 : decode b_M_rowOrNull 13 = .ok (.aconst_null, 1) := by decide +kernel
theorem d_M_rowOrNull_14 : decode b_M_rowOrNull 14 = .ok (.goto 9, 3) := by decide +kernel
theorem d_M_rowOrNull_17 : decode b_M_rowOrNull 17 = .ok (.aload_n 0, 1) := by decide +kernel
theorem d_M_rowOrNull_18 : decode b_M_rowOrNull 18 = .ok (.getfield 29, 3) := by decide +kernel
theorem d_M_rowOrNull_21 : decode b_M_rowOrNull 21 = .ok (.iload_n 1, 1) := by decide +kernel
theorem d_M_rowOrNull_22 : decode b_M_rowOrNull 22 = .ok (.aaload, 1) := by decide +kernel
theorem d_M_rowOrNull_23 : decode b_M_rowOrNull 23 = .ok (.areturn, 1) := by decide +kernel
theorem d_M_rowToWrite_0 : decode b_M_rowToWrite 0 = .ok (.iload_n 1, 1) := by decide +kernel
theorem d_M_rowToWrite_1 : decode b_M_rowToWrite 1 = .ok (.ifCond .lt 12, 3) := by decide +kernel
theorem d_M_rowToWrite_4 : decode b_M_rowToWrite 4 = .ok (.iload_n 1, 1) := by decide +kernel
theorem d_M_rowToWrite_5 : decode b_M_rowToWrite 5 = .ok (.aload_n 0, 1) := by decide +kernel
theorem d_M_rowToWrite_6 : decode b_M_rowToWrite 6 = .ok (.getfield 29, 3) := by decide +kernel
theorem d_M_rowToWrite_9 : decode b_M_rowToWrite 9 = .ok (.arraylength, 1) := by decide +kernel
theorem d_M_rowToWrite_10 : decode b_M_rowToWrite 10 = .ok (.if_icmp .lt 5, 3) := by decide +kernel
theorem d_M_rowToWrite_13 : decode b_M_rowToWrite 13 = .ok (.aconst_null, 1) := by decide +kernel
theorem d_M_rowToWrite_14 : decode b_M_rowToWrite 14 = .ok (.areturn, 1) := by decide +kernel
theorem d_M_rowToWrite_15 : decode b_M_rowToWrite 15 = .ok (.aload_n 0, 1) := by decide +kernel
theorem d_M_rowToWrite_16 : decode b_M_rowToWrite 16 = .ok (.getfield 29, 3) := by decide +kernel
theorem d_M_rowToWrite_19 : decode b_M_rowToWrite 19 = .ok (.iload_n 1, 1) := by decide +kernel
theorem d_M_rowToWrite_20 : decode b_M_rowToWrite 20 = .ok (.aaload, 1) := by decide +kernel
theorem d_M_rowToWrite_21 : decode b_M_rowToWrite 21 = .ok (.ifnonnull 16, 3) := by decide +kernel
theorem d_M_rowToWrite_24 : decode b_M_rowToWrite 24 = .ok (.aload_n 0, 1) := by decide +kernel
theorem d_M_rowToWrite_25 : decode b_M_rowToWrite 25 = .ok (.getfield 29, 3) := by decide +kernel
theorem d_M_rowToWrite_28 : decode b_M_rowToWrite 28 = .ok (.iload_n 1, 1) := by decide +kernel
theorem d_M_rowToWrite_29 : decode b_M_rowToWrite 29 = .ok (.new 27, 3) := by decide +kernel
theorem d_M_rowToWrite_32 : decode b_M_rowToWrite 32 = .ok (.dup, 1) := by decide +kernel
theorem d_M_rowToWrite_33 : decode b_M_rowToWrite 33 = .ok (.invokespecial 69, 3) := by decide +kernel
theorem d_M_rowToWrite_36 : decode b_M_rowToWrite 36 = .ok (.aastore, 1) := by decide +kernel
theorem d_M_rowToWrite_37 : decode b_M_rowToWrite 37 = .ok (.aload_n 0, 1) := by decide +kernel
theorem d_M_rowToWrite_38 : decode b_M_rowToWrite 38 = .ok (.getfield 29, 3) := by decide +kernel
theorem d_M_rowToWrite_41 : decode b_M_rowToWrite 41 = .ok (.iload_n 1, 1) := by decide +kernel
theorem d_M_rowToWrite_42 : decode b_M_rowToWrite 42 = .ok (.aaload, 1) := by decide +kernel
theorem d_M_rowToWrite_43 : decode b_M_rowToWrite 43 = .ok (.areturn, 1) := by decide +kernel
