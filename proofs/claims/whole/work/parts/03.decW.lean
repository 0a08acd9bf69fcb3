theorem d_W_init_0 : decode b_W_init 0 = .ok (.aload_n 0, 1) := by decide +kernel
theorem d_W_init_1 : decode b_W_init 1 = .ok (.invokespecial 3, 3) := by decide +kernel
theorem d_W_init_4 : decode b_W_init 4 = .ok (.aload_n 0, 1) := by decide +kernel
theorem d_W_init_5 : decode b_W_init 5 = .ok (.sipush 1024, 3) := by decide +kernel
theorem d_W_init_8 : decode b_W_init 8 = .ok (.newarray .byte, 2) := by decide +kernel
theorem d_W_init_10 : decode b_W_init 10 = .ok (.putfield 9, 3) := by decide +kernel
theorem d_W_init_13 : decode b_W_init 13 = .ok (.return_, 1) := by decide +kernel
theorem d_W_weighedPart_0 : decode b_W_weighedPart 0 = .ok (.iconst 0, 1) := by decide +kernel
theorem d_W_weighedPart_1 : decode b_W_weighedPart 1 = .ok (.istore 4, 2) := by decide +kernel
theorem d_W_weighedPart_3 : decode b_W_weighedPart 3 = .ok (.iload_n 3, 1) := by decide +kernel
theorem d_W_weighedPart_4 : decode b_W_weighedPart 4 = .ok (.istore 5, 2) := by decide +kernel
theorem d_W_weighedPart_6 : decode b_W_weighedPart 6 = .ok (.iload_n 1, 1) := by decide +kernel
theorem d_W_weighedPart_7 : decode b_W_weighedPart 7 = .ok (.iconst 0, 1) := by decide +kernel
theorem d_W_weighedPart_8 : decode b_W_weighedPart 8 = .ok (.invokestatic 15, 3) := by decide +kernel
theorem d_W_weighedPart_11 : decode b_W_weighedPart 11 = .ok (.istore 6, 2) := by decide +kernel
theorem d_W_weighedPart_13 : decode b_W_weighedPart 13 = .ok (.iload 6, 2) := by decide +kernel
theorem d_W_weighedPart_15 : decode b_W_weighedPart 15 = .ok (.iload_n 2, 1) := by decide +kernel
theorem d_W_weighedPart_16 : decode b_W_weighedPart 16 = .ok (.aload_n 0, 1) := by decide +kernel
theorem d_W_weighedPart_17 : decode b_W_weighedPart 17 = .ok (.getfield 9, 3) := by decide +kernel
theorem d_W_weighedPart_20 : decode b_W_weighedPart 20 = .ok (.arraylength, 1) := by decide +kernel
theorem d_W_weighedPart_21 : decode b_W_weighedPart 21 = .ok (.invokestatic 21, 3) := by decide +kernel
theorem d_W_weighedPart_24 : decode b_W_weighedPart 24 = .ok (.if_icmp .ge 31, 3) := by decide +kernel
theorem d_W_weighedPart_27 : decode b_W_weighedPart 27 = .ok (.iload 4, 2) := by decide +kernel
theorem d_W_weighedPart_29 : decode b_W_weighedPart 29 = .ok (.aload_n 0, 1) := by decide +kernel
theorem d_W_weighedPart_30 : decode b_W_weighedPart 30 = .ok (.getfield 9, 3) := by decide +kernel
theorem d_W_weighedPart_33 : decode b_W_weighedPart 33 = .ok (.iload 6, 2) := by decide +kernel
theorem d_W_weighedPart_35 : decode b_W_weighedPart 35 = .ok (.baload, 1) := by decide +kernel
theorem d_W_weighedPart_36 : decode b_W_weighedPart 36 = .ok (.sipush 255, 3) := by decide +kernel
theorem d_W_weighedPart_39 : decode b_W_weighedPart 39 = .ok (.iand, 1) := by decide +kernel
theorem d_W_weighedPart_40 : decode b_W_weighedPart 40 = .ok (.iload 5, 2) := by decide +kernel
theorem d_W_weighedPart_42 : decode b_W_weighedPart 42 = .ok (.imul, 1) := by decide +kernel
theorem d_W_weighedPart_43 : decode b_W_weighedPart 43 = .ok (.iadd, 1) := by decide +kernel
theorem d_W_weighedPart_44 : decode b_W_weighedPart 44 = .ok (.istore 4, 2) := by decide +kernel
theorem d_W_weighedPart_46 : decode b_W_weighedPart 46 = .ok (.iinc 5 (-1), 3) := by decide +kernel
theorem d_W_weighedPart_49 : decode b_W_weighedPart 49 = .ok (.iinc 6 1, 3) := by decide +kernel
theorem d_W_weighedPart_52 : decode b_W_weighedPart 52 = .ok (.goto (-39), 3) := by decide +kernel
theorem d_W_weighedPart_55 : decode b_W_weighedPart 55 = .ok (.iload 4, 2) := by decide +kernel
theorem d_W_weighedPart_57 : decode b_W_weighedPart 57 = .ok (.ireturn, 1) := by decide +kernel
