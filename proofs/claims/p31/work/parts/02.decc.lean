theorem dX0_init_0 : decode cX0_init 0 = .ok (.aload_n 0, 1) := by decide +kernel
theorem dX0_init_1 : decode cX0_init 1 = .ok (.invokespecial 1, 3) := by decide +kernel
theorem dX0_init_4 : decode cX0_init 4 = .ok (.aload_n 0, 1) := by decide +kernel
theorem dX0_init_5 : decode cX0_init 5 = .ok (.ldc 7, 2) := by decide +kernel
theorem dX0_init_7 : decode cX0_init 7 = .ok (.putfield 8, 3) := by decide +kernel
theorem dX0_init_10 : decode cX0_init 10 = .ok (.return_, 1) := by decide +kernel
theorem dX0_copyFrom_0 : decode cX0_copyFrom 0 = .ok (.aload_n 0, 1) := by decide +kernel
theorem dX0_copyFrom_1 : decode cX0_copyFrom 1 = .ok (.aload_n 1, 1) := by decide +kernel
theorem dX0_copyFrom_2 : decode cX0_copyFrom 2 = .ok (.getfield 8, 3) := by decide +kernel
theorem dX0_copyFrom_5 : decode cX0_copyFrom 5 = .ok (.putfield 8, 3) := by decide +kernel
theorem dX0_copyFrom_8 : decode cX0_copyFrom 8 = .ok (.aload_n 0, 1) := by decide +kernel
theorem dX0_copyFrom_9 : decode cX0_copyFrom 9 = .ok (.aload_n 1, 1) := by decide +kernel
theorem dX0_copyFrom_10 : decode cX0_copyFrom 10 = .ok (.getfield 14, 3) := by decide +kernel
theorem dX0_copyFrom_13 : decode cX0_copyFrom 13 = .ok (.putfield 14, 3) := by decide +kernel
theorem dX0_copyFrom_16 : decode cX0_copyFrom 16 = .ok (.aload_n 0, 1) := by decide +kernel
theorem dX0_copyFrom_17 : decode cX0_copyFrom 17 = .ok (.aload_n 1, 1) := by decide +kernel
theorem dX0_copyFrom_18 : decode cX0_copyFrom 18 = .ok (.getfield 18, 3) := by decide +kernel
theorem dX0_copyFrom_21 : decode cX0_copyFrom 21 = .ok (.putfield 18, 3) := by decide +kernel
theorem dX0_copyFrom_24 : decode cX0_copyFrom 24 = .ok (.aload_n 0, 1) := by decide +kernel
theorem dX0_copyFrom_25 : decode cX0_copyFrom 25 = .ok (.aload_n 1, 1) := by decide +kernel
theorem dX0_copyFrom_26 : decode cX0_copyFrom 26 = .ok (.getfield 21, 3) := by decide +kernel
theorem dX0_copyFrom_29 : decode cX0_copyFrom 29 = .ok (.putfield 21, 3) := by decide +kernel
theorem dX0_copyFrom_32 : decode cX0_copyFrom 32 = .ok (.aload_n 0, 1) := by decide +kernel
theorem dX0_copyFrom_33 : decode cX0_copyFrom 33 = .ok (.aload_n 1, 1) := by decide +kernel
theorem dX0_copyFrom_34 : decode cX0_copyFrom 34 = .ok (.getfield 24, 3) := by decide +kernel
theorem dX0_copyFrom_37 : decode cX0_copyFrom 37 = .ok (.putfield 24, 3) := by decide +kernel
theorem dX0_copyFrom_40 : decode cX0_copyFrom 40 = .ok (.aload_n 0, 1) := by decide +kernel
theorem dX0_copyFrom_41 : decode cX0_copyFrom 41 = .ok (.aload_n 1, 1) := by decide +kernel
theorem dX0_copyFrom_42 : decode cX0_copyFrom 42 = .ok (.getfield 27, 3) := by decide +kernel
theorem dX0_copyFrom_45 : decode cX0_copyFrom 45 = .ok (.putfield 27, 3) := by decide +kernel
theorem dX0_copyFrom_48 : decode cX0_copyFrom 48 = .ok (.aload_n 0, 1) := by decide +kernel
theorem dX0_copyFrom_49 : decode cX0_copyFrom 49 = .ok (.aload_n 1, 1) := by decide +kernel
theorem dX0_copyFrom_50 : decode cX0_copyFrom 50 = .ok (.getfield 30, 3) := by decide +kernel
theorem dX0_copyFrom_53 : decode cX0_copyFrom 53 = .ok (.putfield 30, 3) := by decide +kernel
theorem dX0_copyFrom_56 : decode cX0_copyFrom 56 = .ok (.return_, 1) := by decide +kernel
theorem dX0_inner_0 : decode cX0_inner 0 = .ok (.aload_n 0, 1) := by decide +kernel
theorem dX0_inner_1 : decode cX0_inner 1 = .ok (.getfield 14, 3) := by decide +kernel
theorem dX0_inner_4 : decode cX0_inner 4 = .ok (.l2d, 1) := by decide +kernel
theorem dX0_inner_5 : decode cX0_inner 5 = .ok (.aload_n 0, 1) := by decide +kernel
theorem dX0_inner_6 : decode cX0_inner 6 = .ok (.getfield 8, 3) := by decide +kernel
theorem dX0_inner_9 : decode cX0_inner 9 = .ok (.i2d, 1) := by decide +kernel
theorem dX0_inner_10 : decode cX0_inner 10 = .ok (.ddiv, 1) := by decide +kernel
theorem dX0_inner_11 : decode cX0_inner 11 = .ok (.dreturn, 1) := by decide +kernel
theorem dX0_flowThrough_0 : decode cX0_flowThrough 0 = .ok (.lload_n 1, 1) := by decide +kernel
theorem dX0_flowThrough_1 : decode cX0_flowThrough 1 = .ok (.lconst 0, 1) := by decide +kernel
theorem dX0_flowThrough_2 : decode cX0_flowThrough 2 = .ok (.lcmp, 1) := by decide +kernel
theorem dX0_flowThrough_3 : decode cX0_flowThrough 3 = .ok (.ifCond .le 26, 3) := by decide +kernel
theorem dX0_flowThrough_6 : decode cX0_flowThrough 6 = .ok (.aload_n 0, 1) := by decide +kernel
theorem dX0_flowThrough_7 : decode cX0_flowThrough 7 = .ok (.dup, 1) := by decide +kernel
theorem dX0_flowThrough_8 : decode cX0_flowThrough 8 = .ok (.getfield 14, 3) := by decide +kernel
theorem dX0_flowThrough_11 : decode cX0_flowThrough 11 = .ok (.lload_n 1, 1) := by decide +kernel
theorem dX0_flowThrough_12 : decode cX0_flowThrough 12 = .ok (.ladd, 1) := by decide +kernel
theorem dX0_flowThrough_13 : decode cX0_flowThrough 13 = .ok (.putfield 14, 3) := by decide +kernel
theorem dX0_flowThrough_16 : decode cX0_flowThrough 16 = .ok (.aload_n 0, 1) := by decide +kernel
theorem dX0_flowThrough_17 : decode cX0_flowThrough 17 = .ok (.dup, 1) := by decide +kernel
theorem dX0_flowThrough_18 : decode cX0_flowThrough 18 = .ok (.getfield 18, 3) := by decide +kernel
theorem dX0_flowThrough_21 : decode cX0_flowThrough 21 = .ok (.lload_n 1, 1) := by decide +kernel
theorem dX0_flowThrough_22 : decode cX0_flowThrough 22 = .ok (.ladd, 1) := by decide +kernel
theorem dX0_flowThrough_23 : decode cX0_flowThrough 23 = .ok (.putfield 18, 3) := by decide +kernel
theorem dX0_flowThrough_26 : decode cX0_flowThrough 26 = .ok (.goto 18, 3) := by decide +kernel
theorem dX0_flowThrough_29 : decode cX0_flowThrough 29 = .ok (.aload_n 0, 1) := by decide +kernel
theorem dX0_flowThrough_30 : decode cX0_flowThrough 30 = .ok (.dup, 1) := by decide +kernel
theorem dX0_flowThrough_31 : decode cX0_flowThrough 31 = .ok (.getfield 21, 3) := by decide +kernel
theorem dX0_flowThrough_34 : decode cX0_flowThrough 34 = .ok (.aload_n 0, 1) := by decide +kernel
theorem dX0_flowThrough_35 : decode cX0_flowThrough 35 = .ok (.lload_n 1, 1) := by decide +kernel
theorem dX0_flowThrough_36 : decode cX0_flowThrough 36 = .ok (.lneg, 1) := by decide +kernel
theorem dX0_flowThrough_37 : decode cX0_flowThrough 37 = .ok (.invokevirtual 33, 3) := by decide +kernel
theorem dX0_flowThrough_40 : decode cX0_flowThrough 40 = .ok (.ladd, 1) := by decide +kernel
theorem dX0_flowThrough_41 : decode cX0_flowThrough 41 = .ok (.putfield 21, 3) := by decide +kernel
theorem dX0_flowThrough_44 : decode cX0_flowThrough 44 = .ok (.return_, 1) := by decide +kernel
theorem dX0_flowOver_0 : decode cX0_flowOver 0 = .ok (.aload_n 0, 1) := by decide +kernel
theorem dX0_flowOver_1 : decode cX0_flowOver 1 = .ok (.dup, 1) := by decide +kernel
theorem dX0_flowOver_2 : decode cX0_flowOver 2 = .ok (.getfield 14, 3) := by decide +kernel
theorem dX0_flowOver_5 : decode cX0_flowOver 5 = .ok (.lload_n 1, 1) := by decide +kernel
theorem dX0_flowOver_6 : decode cX0_flowOver 6 = .ok (.ladd, 1) := by decide +kernel
theorem dX0_flowOver_7 : decode cX0_flowOver 7 = .ok (.putfield 14, 3) := by decide +kernel
theorem dX0_flowOver_10 : decode cX0_flowOver 10 = .ok (.aload_n 0, 1) := by decide +kernel
theorem dX0_flowOver_11 : decode cX0_flowOver 11 = .ok (.dup, 1) := by decide +kernel
theorem dX0_flowOver_12 : decode cX0_flowOver 12 = .ok (.getfield 24, 3) := by decide +kernel
theorem dX0_flowOver_15 : decode cX0_flowOver 15 = .ok (.lload_n 1, 1) := by decide +kernel
theorem dX0_flowOver_16 : decode cX0_flowOver 16 = .ok (.ladd, 1) := by decide +kernel
theorem dX0_flowOver_17 : decode cX0_flowOver 17 = .ok (.putfield 24, 3) := by decide +kernel
theorem dX0_flowOver_20 : decode cX0_flowOver 20 = .ok (.return_, 1) := by decide +kernel
theorem dX0_bring_0 : decode cX0_bring 0 = .ok (.aload_n 0, 1) := by decide +kernel
theorem dX0_bring_1 : decode cX0_bring 1 = .ok (.dup, 1) := by decide +kernel
theorem dX0_bring_2 : decode cX0_bring 2 = .ok (.getfield 14, 3) := by decide +kernel
theorem dX0_bring_5 : decode cX0_bring 5 = .ok (.lload_n 1, 1) := by decide +kernel
theorem dX0_bring_6 : decode cX0_bring 6 = .ok (.ladd, 1) := by decide +kernel
theorem dX0_bring_7 : decode cX0_bring 7 = .ok (.putfield 14, 3) := by decide +kernel
theorem dX0_bring_10 : decode cX0_bring 10 = .ok (.aload_n 0, 1) := by decide +kernel
theorem dX0_bring_11 : decode cX0_bring 11 = .ok (.dup, 1) := by decide +kernel
theorem dX0_bring_12 : decode cX0_bring 12 = .ok (.getfield 27, 3) := by decide +kernel
theorem dX0_bring_15 : decode cX0_bring 15 = .ok (.lload_n 1, 1) := by decide +kernel
theorem dX0_bring_16 : decode cX0_bring 16 = .ok (.ladd, 1) := by decide +kernel
theorem dX0_bring_17 : decode cX0_bring 17 = .ok (.putfield 27, 3) := by decide +kernel
theorem dX0_bring_20 : decode cX0_bring 20 = .ok (.return_, 1) := by decide +kernel
theorem dX0_pumpOut_0 : decode cX0_pumpOut 0 = .ok (.aload_n 0, 1) := by decide +kernel
theorem dX0_pumpOut_1 : decode cX0_pumpOut 1 = .ok (.dup, 1) := by decide +kernel
theorem dX0_pumpOut_2 : decode cX0_pumpOut 2 = .ok (.getfield 30, 3) := by decide +kernel
theorem dX0_pumpOut_5 : decode cX0_pumpOut 5 = .ok (.aload_n 0, 1) := by decide +kernel
theorem dX0_pumpOut_6 : decode cX0_pumpOut 6 = .ok (.lload_n 1, 1) := by decide +kernel
theorem dX0_pumpOut_7 : decode cX0_pumpOut 7 = .ok (.invokevirtual 33, 3) := by decide +kernel
theorem dX0_pumpOut_10 : decode cX0_pumpOut 10 = .ok (.ladd, 1) := by decide +kernel
theorem dX0_pumpOut_11 : decode cX0_pumpOut 11 = .ok (.putfield 30, 3) := by decide +kernel
theorem dX0_pumpOut_14 : decode cX0_pumpOut 14 = .ok (.return_, 1) := by decide +kernel
theorem dX0_take_0 : decode cX0_take 0 = .ok (.lload_n 1, 1) := by decide +kernel
theorem dX0_take_1 : decode cX0_take 1 = .ok (.aload_n 0, 1) := by decide +kernel
theorem dX0_take_2 : decode cX0_take 2 = .ok (.getfield 14, 3) := by decide +kernel
theorem dX0_take_5 : decode cX0_take 5 = .ok (.invokestatic 37, 3) := by decide +kernel
theorem dX0_take_8 : decode cX0_take 8 = .ok (.lstore_n 3, 1) := by decide +kernel
theorem dX0_take_9 : decode cX0_take 9 = .ok (.aload_n 0, 1) := by decide +kernel
theorem dX0_take_10 : decode cX0_take 10 = .ok (.dup, 1) := by decide +kernel
theorem dX0_take_11 : decode cX0_take 11 = .ok (.getfield 14, 3) := by decide +kernel
theorem dX0_take_14 : decode cX0_take 14 = .ok (.lload_n 3, 1) := by decide +kernel
theorem dX0_take_15 : decode cX0_take 15 = .ok (.lsub, 1) := by decide +kernel
theorem dX0_take_16 : decode cX0_take 16 = .ok (.putfield 14, 3) := by decide +kernel
theorem dX0_take_19 : decode cX0_take 19 = .ok (.lload_n 3, 1) := by decide +kernel
theorem dX0_take_20 : decode cX0_take 20 = .ok (.lreturn, 1) := by decide +kernel
theorem dX1_init_0 : decode cX1_init 0 = .ok (.aload_n 0, 1) := by decide +kernel
theorem dX1_init_1 : decode cX1_init 1 = .ok (.invokespecial 1, 3) := by decide +kernel
theorem dX1_init_4 : decode cX1_init 4 = .ok (.aload_n 0, 1) := by decide +kernel
theorem dX1_init_5 : decode cX1_init 5 = .ok (.bipush 6, 2) := by decide +kernel
theorem dX1_init_7 : decode cX1_init 7 = .ok (.newarray .int, 2) := by decide +kernel
theorem dX1_init_9 : decode cX1_init 9 = .ok (.putfield 9, 3) := by decide +kernel
theorem dX1_init_12 : decode cX1_init 12 = .ok (.aload_n 0, 1) := by decide +kernel
theorem dX1_init_13 : decode cX1_init 13 = .ok (.bipush 6, 2) := by decide +kernel
theorem dX1_init_15 : decode cX1_init 15 = .ok (.newarray .boolean, 2) := by decide +kernel
theorem dX1_init_17 : decode cX1_init 17 = .ok (.putfield 13, 3) := by decide +kernel
theorem dX1_init_20 : decode cX1_init 20 = .ok (.return_, 1) := by decide +kernel
theorem dX1_copyFrom_0 : decode cX1_copyFrom 0 = .ok (.aload_n 0, 1) := by decide +kernel
theorem dX1_copyFrom_1 : decode cX1_copyFrom 1 = .ok (.aload_n 1, 1) := by decide +kernel
theorem dX1_copyFrom_2 : decode cX1_copyFrom 2 = .ok (.getfield 17, 3) := by decide +kernel
theorem dX1_copyFrom_5 : decode cX1_copyFrom 5 = .ok (.putfield 17, 3) := by decide +kernel
theorem dX1_copyFrom_8 : decode cX1_copyFrom 8 = .ok (.aload_n 1, 1) := by decide +kernel
theorem dX1_copyFrom_9 : decode cX1_copyFrom 9 = .ok (.getfield 9, 3) := by decide +kernel
theorem dX1_copyFrom_12 : decode cX1_copyFrom 12 = .ok (.iconst 0, 1) := by decide +kernel
theorem dX1_copyFrom_13 : decode cX1_copyFrom 13 = .ok (.aload_n 0, 1) := by decide +kernel
theorem dX1_copyFrom_14 : decode cX1_copyFrom 14 = .ok (.getfield 9, 3) := by decide +kernel
theorem dX1_copyFrom_17 : decode cX1_copyFrom 17 = .ok (.iconst 0, 1) := by decide +kernel
theorem dX1_copyFrom_18 : decode cX1_copyFrom 18 = .ok (.bipush 6, 2) := by decide +kernel
theorem dX1_copyFrom_20 : decode cX1_copyFrom 20 = .ok (.invokestatic 21, 3) := by decide +kernel
theorem dX1_copyFrom_23 : decode cX1_copyFrom 23 = .ok (.aload_n 1, 1) := by decide +kernel
theorem dX1_copyFrom_24 : decode cX1_copyFrom 24 = .ok (.getfield 13, 3) := by decide +kernel
theorem dX1_copyFrom_27 : decode cX1_copyFrom 27 = .ok (.iconst 0, 1) := by decide +kernel
theorem dX1_copyFrom_28 : decode cX1_copyFrom 28 = .ok (.aload_n 0, 1) := by decide +kernel
theorem dX1_copyFrom_29 : decode cX1_copyFrom 29 = .ok (.getfield 13, 3) := by decide +kernel
theorem dX1_copyFrom_32 : decode cX1_copyFrom 32 = .ok (.iconst 0, 1) := by decide +kernel
theorem dX1_copyFrom_33 : decode cX1_copyFrom 33 = .ok (.bipush 6, 2) := by decide +kernel
theorem dX1_copyFrom_35 : decode cX1_copyFrom 35 = .ok (.invokestatic 21, 3) := by decide +kernel
theorem dX1_copyFrom_38 : decode cX1_copyFrom 38 = .ok (.return_, 1) := by decide +kernel
theorem dX1_isFull_0 : decode cX1_isFull 0 = .ok (.aload_n 0, 1) := by decide +kernel
theorem dX1_isFull_1 : decode cX1_isFull 1 = .ok (.getfield 17, 3) := by decide +kernel
theorem dX1_isFull_4 : decode cX1_isFull 4 = .ok (.bipush 6, 2) := by decide +kernel
theorem dX1_isFull_6 : decode cX1_isFull 6 = .ok (.if_icmp .lt 7, 3) := by decide +kernel
theorem dX1_isFull_9 : decode cX1_isFull 9 = .ok (.iconst 1, 1) := by decide +kernel
theorem dX1_isFull_10 : decode cX1_isFull 10 = .ok (.goto 4, 3) := by decide +kernel
theorem dX1_isFull_13 : decode cX1_isFull 13 = .ok (.iconst 0, 1) := by decide +kernel
theorem dX1_isFull_14 : decode cX1_isFull 14 = .ok (.ireturn, 1) := by decide +kernel
theorem dX1_has_0 : decode cX1_has 0 = .ok (.iload_n 1, 1) := by decide +kernel
theorem dX1_has_1 : decode cX1_has 1 = .ok (.ifCond .lt 15, 3) := by decide +kernel
theorem dX1_has_4 : decode cX1_has 4 = .ok (.iload_n 1, 1) := by decide +kernel
theorem dX1_has_5 : decode cX1_has 5 = .ok (.aload_n 0, 1) := by decide +kernel
theorem dX1_has_6 : decode cX1_has 6 = .ok (.getfield 17, 3) := by decide +kernel
theorem dX1_has_9 : decode cX1_has 9 = .ok (.if_icmp .ge 7, 3) := by decide +kernel
theorem dX1_has_12 : decode cX1_has 12 = .ok (.iconst 1, 1) := by decide +kernel
theorem dX1_has_13 : decode cX1_has 13 = .ok (.goto 4, 3) := by decide +kernel
theorem dX1_has_16 : decode cX1_has 16 = .ok (.iconst 0, 1) := by decide +kernel
theorem dX1_has_17 : decode cX1_has 17 = .ok (.ireturn, 1) := by decide +kernel
theorem dX1_add_0 : decode cX1_add 0 = .ok (.aload_n 0, 1) := by decide +kernel
theorem dX1_add_1 : decode cX1_add 1 = .ok (.getfield 17, 3) := by decide +kernel
theorem dX1_add_4 : decode cX1_add 4 = .ok (.istore_n 2, 1) := by decide +kernel
theorem dX1_add_5 : decode cX1_add 5 = .ok (.aload_n 0, 1) := by decide +kernel
theorem dX1_add_6 : decode cX1_add 6 = .ok (.getfield 9, 3) := by decide +kernel
theorem dX1_add_9 : decode cX1_add 9 = .ok (.iload_n 2, 1) := by decide +kernel
theorem dX1_add_10 : decode cX1_add 10 = .ok (.iload_n 1, 1) := by decide +kernel
theorem dX1_add_11 : decode cX1_add 11 = .ok (.iastore, 1) := by decide +kernel
theorem dX1_add_12 : decode cX1_add 12 = .ok (.aload_n 0, 1) := by decide +kernel
theorem dX1_add_13 : decode cX1_add 13 = .ok (.getfield 13, 3) := by decide +kernel
theorem dX1_add_16 : decode cX1_add 16 = .ok (.iload_n 2, 1) := by decide +kernel
theorem dX1_add_17 : decode cX1_add 17 = .ok (.iconst 0, 1) := by decide +kernel
theorem dX1_add_18 : decode cX1_add 18 = .ok (.bastore, 1) := by decide +kernel
theorem dX1_add_19 : decode cX1_add 19 = .ok (.aload_n 0, 1) := by decide +kernel
theorem dX1_add_20 : decode cX1_add 20 = .ok (.dup, 1) := by decide +kernel
theorem dX1_add_21 : decode cX1_add 21 = .ok (.getfield 17, 3) := by decide +kernel
theorem dX1_add_24 : decode cX1_add 24 = .ok (.iconst 1, 1) := by decide +kernel
theorem dX1_add_25 : decode cX1_add 25 = .ok (.iadd, 1) := by decide +kernel
theorem dX1_add_26 : decode cX1_add 26 = .ok (.putfield 17, 3) := by decide +kernel
theorem dX1_add_29 : decode cX1_add 29 = .ok (.iload_n 2, 1) := by decide +kernel
theorem dX1_add_30 : decode cX1_add 30 = .ok (.ireturn, 1) := by decide +kernel
theorem dX1_weightForClosing_0 : decode cX1_weightForClosing 0 = .ok (.iconst 0, 1) := by decide +kernel
theorem dX1_weightForClosing_1 : decode cX1_weightForClosing 1 = .ok (.istore_n 1, 1) := by decide +kernel
theorem dX1_weightForClosing_2 : decode cX1_weightForClosing 2 = .ok (.iconst 0, 1) := by decide +kernel
theorem dX1_weightForClosing_3 : decode cX1_weightForClosing 3 = .ok (.istore_n 2, 1) := by decide +kernel
theorem dX1_weightForClosing_4 : decode cX1_weightForClosing 4 = .ok (.iload_n 2, 1) := by decide +kernel
theorem dX1_weightForClosing_5 : decode cX1_weightForClosing 5 = .ok (.aload_n 0, 1) := by decide +kernel
theorem dX1_weightForClosing_6 : decode cX1_weightForClosing 6 = .ok (.getfield 17, 3) := by decide +kernel
theorem dX1_weightForClosing_9 : decode cX1_weightForClosing 9 = .ok (.if_icmp .ge 27, 3) := by decide +kernel
theorem dX1_weightForClosing_12 : decode cX1_weightForClosing 12 = .ok (.aload_n 0, 1) := by decide +kernel
theorem dX1_weightForClosing_13 : decode cX1_weightForClosing 13 = .ok (.getfield 13, 3) := by decide +kernel
theorem dX1_weightForClosing_16 : decode cX1_weightForClosing 16 = .ok (.iload_n 2, 1) := by decide +kernel
theorem dX1_weightForClosing_17 : decode cX1_weightForClosing 17 = .ok (.baload, 1) := by decide +kernel
theorem dX1_weightForClosing_18 : decode cX1_weightForClosing 18 = .ok (.ifCond .eq 12, 3) := by decide +kernel
theorem dX1_weightForClosing_21 : decode cX1_weightForClosing 21 = .ok (.iload_n 1, 1) := by decide +kernel
theorem dX1_weightForClosing_22 : decode cX1_weightForClosing 22 = .ok (.aload_n 0, 1) := by decide +kernel
theorem dX1_weightForClosing_23 : decode cX1_weightForClosing 23 = .ok (.getfield 9, 3) := by decide +kernel
theorem dX1_weightForClosing_26 : decode cX1_weightForClosing 26 = .ok (.iload_n 2, 1) := by decide +kernel
theorem dX1_weightForClosing_27 : decode cX1_weightForClosing 27 = .ok (.iaload, 1) := by decide +kernel
theorem dX1_weightForClosing_28 : decode cX1_weightForClosing 28 = .ok (.iadd, 1) := by decide +kernel
theorem dX1_weightForClosing_29 : decode cX1_weightForClosing 29 = .ok (.istore_n 1, 1) := by decide +kernel
theorem dX1_weightForClosing_30 : decode cX1_weightForClosing 30 = .ok (.iinc 2 1, 3) := by decide +kernel
theorem dX1_weightForClosing_33 : decode cX1_weightForClosing 33 = .ok (.goto (-29), 3) := by decide +kernel
theorem dX1_weightForClosing_36 : decode cX1_weightForClosing 36 = .ok (.iload_n 1, 1) := by decide +kernel
theorem dX1_weightForClosing_37 : decode cX1_weightForClosing 37 = .ok (.ireturn, 1) := by decide +kernel
theorem dX1_weightOfAll_0 : decode cX1_weightOfAll 0 = .ok (.iconst 0, 1) := by decide +kernel
theorem dX1_weightOfAll_1 : decode cX1_weightOfAll 1 = .ok (.istore_n 1, 1) := by decide +kernel
theorem dX1_weightOfAll_2 : decode cX1_weightOfAll 2 = .ok (.iconst 0, 1) := by decide +kernel
theorem dX1_weightOfAll_3 : decode cX1_weightOfAll 3 = .ok (.istore_n 2, 1) := by decide +kernel
theorem dX1_weightOfAll_4 : decode cX1_weightOfAll 4 = .ok (.iload_n 2, 1) := by decide +kernel
theorem dX1_weightOfAll_5 : decode cX1_weightOfAll 5 = .ok (.aload_n 0, 1) := by decide +kernel
theorem dX1_weightOfAll_6 : decode cX1_weightOfAll 6 = .ok (.getfield 17, 3) := by decide +kernel
theorem dX1_weightOfAll_9 : decode cX1_weightOfAll 9 = .ok (.if_icmp .ge 18, 3) := by decide +kernel
theorem dX1_weightOfAll_12 : decode cX1_weightOfAll 12 = .ok (.iload_n 1, 1) := by decide +kernel
theorem dX1_weightOfAll_13 : decode cX1_weightOfAll 13 = .ok (.aload_n 0, 1) := by decide +kernel
theorem dX1_weightOfAll_14 : decode cX1_weightOfAll 14 = .ok (.getfield 9, 3) := by decide +kernel
theorem dX1_weightOfAll_17 : decode cX1_weightOfAll 17 = .ok (.iload_n 2, 1) := by decide +kernel
theorem dX1_weightOfAll_18 : decode cX1_weightOfAll 18 = .ok (.iaload, 1) := by decide +kernel
theorem dX1_weightOfAll_19 : decode cX1_weightOfAll 19 = .ok (.iadd, 1) := by decide +kernel
theorem dX1_weightOfAll_20 : decode cX1_weightOfAll 20 = .ok (.istore_n 1, 1) := by decide +kernel
theorem dX1_weightOfAll_21 : decode cX1_weightOfAll 21 = .ok (.iinc 2 1, 3) := by decide +kernel
theorem dX1_weightOfAll_24 : decode cX1_weightOfAll 24 = .ok (.goto (-20), 3) := by decide +kernel
theorem dX1_weightOfAll_27 : decode cX1_weightOfAll 27 = .ok (.iload_n 1, 1) := by decide +kernel
theorem dX1_weightOfAll_28 : decode cX1_weightOfAll 28 = .ok (.ireturn, 1) := by decide +kernel
theorem dX1_allowClosing_0 : decode cX1_allowClosing 0 = .ok (.iconst 2, 1) := by decide +kernel
theorem dX1_allowClosing_1 : decode cX1_allowClosing 1 = .ok (.aload_n 0, 1) := by decide +kernel
theorem dX1_allowClosing_2 : decode cX1_allowClosing 2 = .ok (.invokevirtual 27, 3) := by decide +kernel
theorem dX1_allowClosing_5 : decode cX1_allowClosing 5 = .ok (.imul, 1) := by decide +kernel
theorem dX1_allowClosing_6 : decode cX1_allowClosing 6 = .ok (.aload_n 0, 1) := by decide +kernel
theorem dX1_allowClosing_7 : decode cX1_allowClosing 7 = .ok (.invokevirtual 31, 3) := by decide +kernel
theorem dX1_allowClosing_10 : decode cX1_allowClosing 10 = .ok (.if_icmp .le 7, 3) := by decide +kernel
theorem dX1_allowClosing_13 : decode cX1_allowClosing 13 = .ok (.iconst 1, 1) := by decide +kernel
theorem dX1_allowClosing_14 : decode cX1_allowClosing 14 = .ok (.goto 4, 3) := by decide +kernel
theorem dX1_allowClosing_17 : decode cX1_allowClosing 17 = .ok (.iconst 0, 1) := by decide +kernel
theorem dX1_allowClosing_18 : decode cX1_allowClosing 18 = .ok (.ireturn, 1) := by decide +kernel
theorem dX2_init_0 : decode cX2_init 0 = .ok (.aload_n 0, 1) := by decide +kernel
theorem dX2_init_1 : decode cX2_init 1 = .ok (.invokespecial 1, 3) := by decide +kernel
theorem dX2_init_4 : decode cX2_init 4 = .ok (.aload_n 0, 1) := by decide +kernel
theorem dX2_init_5 : decode cX2_init 5 = .ok (.iconst 5, 1) := by decide +kernel
theorem dX2_init_6 : decode cX2_init 6 = .ok (.anewarray 9, 3) := by decide +kernel
theorem dX2_init_9 : decode cX2_init 9 = .ok (.putfield 11, 3) := by decide +kernel
theorem dX2_init_12 : decode cX2_init 12 = .ok (.return_, 1) := by decide +kernel
theorem dX2_record_0 : decode cX2_record 0 = .ok (.aload_n 0, 1) := by decide +kernel
theorem dX2_record_1 : decode cX2_record 1 = .ok (.getfield 15, 3) := by decide +kernel
theorem dX2_record_4 : decode cX2_record 4 = .ok (.aload_n 0, 1) := by decide +kernel
theorem dX2_record_5 : decode cX2_record 5 = .ok (.getfield 19, 3) := by decide +kernel
theorem dX2_record_8 : decode cX2_record 8 = .ok (.iadd, 1) := by decide +kernel
theorem dX2_record_9 : decode cX2_record 9 = .ok (.iconst 5, 1) := by decide +kernel
theorem dX2_record_10 : decode cX2_record 10 = .ok (.invokestatic 22, 3) := by decide +kernel
theorem dX2_record_13 : decode cX2_record 13 = .ok (.istore_n 2, 1) := by decide +kernel
theorem dX2_record_14 : decode cX2_record 14 = .ok (.aload_n 0, 1) := by decide +kernel
theorem dX2_record_15 : decode cX2_record 15 = .ok (.getfield 11, 3) := by decide +kernel
theorem dX2_record_18 : decode cX2_record 18 = .ok (.iload_n 2, 1) := by decide +kernel
theorem dX2_record_19 : decode cX2_record 19 = .ok (.aaload, 1) := by decide +kernel
theorem dX2_record_20 : decode cX2_record 20 = .ok (.astore_n 3, 1) := by decide +kernel
theorem dX2_record_21 : decode cX2_record 21 = .ok (.aload_n 3, 1) := by decide +kernel
theorem dX2_record_22 : decode cX2_record 22 = .ok (.ifnonnull 18, 3) := by decide +kernel
theorem dX2_record_25 : decode cX2_record 25 = .ok (.new 9, 3) := by decide +kernel
theorem dX2_record_28 : decode cX2_record 28 = .ok (.dup, 1) := by decide +kernel
theorem dX2_record_29 : decode cX2_record 29 = .ok (.invokespecial 28, 3) := by decide +kernel
theorem dX2_record_32 : decode cX2_record 32 = .ok (.astore_n 3, 1) := by decide +kernel
theorem dX2_record_33 : decode cX2_record 33 = .ok (.aload_n 0, 1) := by decide +kernel
theorem dX2_record_34 : decode cX2_record 34 = .ok (.getfield 11, 3) := by decide +kernel
theorem dX2_record_37 : decode cX2_record 37 = .ok (.iload_n 2, 1) := by decide +kernel
theorem dX2_record_38 : decode cX2_record 38 = .ok (.aload_n 3, 1) := by decide +kernel
theorem dX2_record_39 : decode cX2_record 39 = .ok (.aastore, 1) := by decide +kernel
theorem dX2_record_40 : decode cX2_record 40 = .ok (.aload_n 3, 1) := by decide +kernel
theorem dX2_record_41 : decode cX2_record 41 = .ok (.aload_n 1, 1) := by decide +kernel
theorem dX2_record_42 : decode cX2_record 42 = .ok (.invokevirtual 29, 3) := by decide +kernel
theorem dX2_record_45 : decode cX2_record 45 = .ok (.aload_n 0, 1) := by decide +kernel
theorem dX2_record_46 : decode cX2_record 46 = .ok (.getfield 19, 3) := by decide +kernel
theorem dX2_record_49 : decode cX2_record 49 = .ok (.iconst 5, 1) := by decide +kernel
theorem dX2_record_50 : decode cX2_record 50 = .ok (.if_icmp .ge 16, 3) := by decide +kernel
theorem dX2_record_53 : decode cX2_record 53 = .ok (.aload_n 0, 1) := by decide +kernel
theorem dX2_record_54 : decode cX2_record 54 = .ok (.dup, 1) := by decide +kernel
theorem dX2_record_55 : decode cX2_record 55 = .ok (.getfield 19, 3) := by decide +kernel
theorem dX2_record_58 : decode cX2_record 58 = .ok (.iconst 1, 1) := by decide +kernel
theorem dX2_record_59 : decode cX2_record 59 = .ok (.iadd, 1) := by decide +kernel
theorem dX2_record_60 : decode cX2_record 60 = .ok (.putfield 19, 3) := by decide +kernel
theorem dX2_record_63 : decode cX2_record 63 = .ok (.goto 17, 3) := by decide +kernel
theorem dX2_record_66 : decode cX2_record 66 = .ok (.aload_n 0, 1) := by decide +kernel
theorem dX2_record_67 : decode cX2_record 67 = .ok (.aload_n 0, 1) := by decide +kernel
theorem dX2_record_68 : decode cX2_record 68 = .ok (.getfield 15, 3) := by decide +kernel
theorem dX2_record_71 : decode cX2_record 71 = .ok (.iconst 1, 1) := by decide +kernel
theorem dX2_record_72 : decode cX2_record 72 = .ok (.iadd, 1) := by decide +kernel
theorem dX2_record_73 : decode cX2_record 73 = .ok (.iconst 5, 1) := by decide +kernel
theorem dX2_record_74 : decode cX2_record 74 = .ok (.invokestatic 22, 3) := by decide +kernel
theorem dX2_record_77 : decode cX2_record 77 = .ok (.putfield 15, 3) := by decide +kernel
theorem dX2_record_80 : decode cX2_record 80 = .ok (.return_, 1) := by decide +kernel
theorem dX2_takeLatest_0 : decode cX2_takeLatest 0 = .ok (.aload_n 0, 1) := by decide +kernel
theorem dX2_takeLatest_1 : decode cX2_takeLatest 1 = .ok (.getfield 19, 3) := by decide +kernel
theorem dX2_takeLatest_4 : decode cX2_takeLatest 4 = .ok (.ifCond .ne 5, 3) := by decide +kernel
theorem dX2_takeLatest_7 : decode cX2_takeLatest 7 = .ok (.iconst 0, 1) := by decide +kernel
theorem dX2_takeLatest_8 : decode cX2_takeLatest 8 = .ok (.ireturn, 1) := by decide +kernel
theorem dX2_takeLatest_9 : decode cX2_takeLatest 9 = .ok (.aload_n 0, 1) := by decide +kernel
theorem dX2_takeLatest_10 : decode cX2_takeLatest 10 = .ok (.getfield 11, 3) := by decide +kernel
theorem dX2_takeLatest_13 : decode cX2_takeLatest 13 = .ok (.aload_n 0, 1) := by decide +kernel
theorem dX2_takeLatest_14 : decode cX2_takeLatest 14 = .ok (.getfield 15, 3) := by decide +kernel
theorem dX2_takeLatest_17 : decode cX2_takeLatest 17 = .ok (.aload_n 0, 1) := by decide +kernel
theorem dX2_takeLatest_18 : decode cX2_takeLatest 18 = .ok (.getfield 19, 3) := by decide +kernel
theorem dX2_takeLatest_21 : decode cX2_takeLatest 21 = .ok (.iadd, 1) := by decide +kernel
theorem dX2_takeLatest_22 : decode cX2_takeLatest 22 = .ok (.iconst 1, 1) := by decide +kernel
theorem dX2_takeLatest_23 : decode cX2_takeLatest 23 = .ok (.isub, 1) := by decide +kernel
theorem dX2_takeLatest_24 : decode cX2_takeLatest 24 = .ok (.iconst 5, 1) := by decide +kernel
theorem dX2_takeLatest_25 : decode cX2_takeLatest 25 = .ok (.invokestatic 22, 3) := by decide +kernel
theorem dX2_takeLatest_28 : decode cX2_takeLatest 28 = .ok (.aaload, 1) := by decide +kernel
theorem dX2_takeLatest_29 : decode cX2_takeLatest 29 = .ok (.astore_n 2, 1) := by decide +kernel
theorem dX2_takeLatest_30 : decode cX2_takeLatest 30 = .ok (.aload_n 2, 1) := by decide +kernel
theorem dX2_takeLatest_31 : decode cX2_takeLatest 31 = .ok (.ifnonnull 5, 3) := by decide +kernel
theorem dX2_takeLatest_34 : decode cX2_takeLatest 34 = .ok (.iconst 0, 1) := by decide +kernel
theorem dX2_takeLatest_35 : decode cX2_takeLatest 35 = .ok (.ireturn, 1) := by decide +kernel
theorem dX2_takeLatest_36 : decode cX2_takeLatest 36 = .ok (.aload_n 0, 1) := by decide +kernel
theorem dX2_takeLatest_37 : decode cX2_takeLatest 37 = .ok (.dup, 1) := by decide +kernel
theorem dX2_takeLatest_38 : decode cX2_takeLatest 38 = .ok (.getfield 19, 3) := by decide +kernel
theorem dX2_takeLatest_41 : decode cX2_takeLatest 41 = .ok (.iconst 1, 1) := by decide +kernel
theorem dX2_takeLatest_42 : decode cX2_takeLatest 42 = .ok (.isub, 1) := by decide +kernel
theorem dX2_takeLatest_43 : decode cX2_takeLatest 43 = .ok (.putfield 19, 3) := by decide +kernel
theorem dX2_takeLatest_46 : decode cX2_takeLatest 46 = .ok (.aload_n 1, 1) := by decide +kernel
theorem dX2_takeLatest_47 : decode cX2_takeLatest 47 = .ok (.aload_n 2, 1) := by decide +kernel
theorem dX2_takeLatest_48 : decode cX2_takeLatest 48 = .ok (.invokevirtual 29, 3) := by decide +kernel
theorem dX2_takeLatest_51 : decode cX2_takeLatest 51 = .ok (.iconst 1, 1) := by decide +kernel
theorem dX2_takeLatest_52 : decode cX2_takeLatest 52 = .ok (.ireturn, 1) := by decide +kernel
theorem dX3_isLevel_0 : decode cX3_isLevel 0 = .ok (.lload_n 0, 1) := by decide +kernel
theorem dX3_isLevel_1 : decode cX3_isLevel 1 = .ok (.lconst 0, 1) := by decide +kernel
theorem dX3_isLevel_2 : decode cX3_isLevel 2 = .ok (.lcmp, 1) := by decide +kernel
theorem dX3_isLevel_3 : decode cX3_isLevel 3 = .ok (.ifCond .ge 23, 3) := by decide +kernel
theorem dX3_isLevel_6 : decode cX3_isLevel 6 = .ok (.lload_n 0, 1) := by decide +kernel
theorem dX3_isLevel_7 : decode cX3_isLevel 7 = .ok (.ldc2_w 9, 3) := by decide +kernel
theorem dX3_isLevel_10 : decode cX3_isLevel 10 = .ok (.land, 1) := by decide +kernel
theorem dX3_isLevel_11 : decode cX3_isLevel 11 = .ok (.ldc2_w 11, 3) := by decide +kernel
theorem dX3_isLevel_14 : decode cX3_isLevel 14 = .ok (.lcmp, 1) := by decide +kernel
theorem dX3_isLevel_15 : decode cX3_isLevel 15 = .ok (.ifCond .gt 7, 3) := by decide +kernel
theorem dX3_isLevel_18 : decode cX3_isLevel 18 = .ok (.iconst 1, 1) := by decide +kernel
theorem dX3_isLevel_19 : decode cX3_isLevel 19 = .ok (.goto 20, 3) := by decide +kernel
theorem dX3_isLevel_22 : decode cX3_isLevel 22 = .ok (.iconst 0, 1) := by decide +kernel
theorem dX3_isLevel_23 : decode cX3_isLevel 23 = .ok (.goto 16, 3) := by decide +kernel
theorem dX3_isLevel_26 : decode cX3_isLevel 26 = .ok (.lload_n 0, 1) := by decide +kernel
theorem dX3_isLevel_27 : decode cX3_isLevel 27 = .ok (.ldc2_w 13, 3) := by decide +kernel
theorem dX3_isLevel_30 : decode cX3_isLevel 30 = .ok (.lcmp, 1) := by decide +kernel
theorem dX3_isLevel_31 : decode cX3_isLevel 31 = .ok (.ifCond .gt 7, 3) := by decide +kernel
theorem dX3_isLevel_34 : decode cX3_isLevel 34 = .ok (.iconst 1, 1) := by decide +kernel
theorem dX3_isLevel_35 : decode cX3_isLevel 35 = .ok (.goto 4, 3) := by decide +kernel
theorem dX3_isLevel_38 : decode cX3_isLevel 38 = .ok (.iconst 0, 1) := by decide +kernel
theorem dX3_isLevel_39 : decode cX3_isLevel 39 = .ok (.ireturn, 1) := by decide +kernel
theorem dX3_isCrest_0 : decode cX3_isCrest 0 = .ok (.lload_n 0, 1) := by decide +kernel
theorem dX3_isCrest_1 : decode cX3_isCrest 1 = .ok (.lconst 0, 1) := by decide +kernel
theorem dX3_isCrest_2 : decode cX3_isCrest 2 = .ok (.lcmp, 1) := by decide +kernel
theorem dX3_isCrest_3 : decode cX3_isCrest 3 = .ok (.ifCond .lt 15, 3) := by decide +kernel
theorem dX3_isCrest_6 : decode cX3_isCrest 6 = .ok (.lload_n 0, 1) := by decide +kernel
theorem dX3_isCrest_7 : decode cX3_isCrest 7 = .ok (.ldc2_w 13, 3) := by decide +kernel
theorem dX3_isCrest_10 : decode cX3_isCrest 10 = .ok (.lcmp, 1) := by decide +kernel
theorem dX3_isCrest_11 : decode cX3_isCrest 11 = .ok (.ifCond .gt 7, 3) := by decide +kernel
theorem dX3_isCrest_14 : decode cX3_isCrest 14 = .ok (.iconst 1, 1) := by decide +kernel
theorem dX3_isCrest_15 : decode cX3_isCrest 15 = .ok (.goto 4, 3) := by decide +kernel
theorem dX3_isCrest_18 : decode cX3_isCrest 18 = .ok (.iconst 0, 1) := by decide +kernel
theorem dX3_isCrest_19 : decode cX3_isCrest 19 = .ok (.ireturn, 1) := by decide +kernel
theorem dX3_isSame_0 : decode cX3_isSame 0 = .ok (.lload_n 0, 1) := by decide +kernel
theorem dX3_isSame_1 : decode cX3_isSame 1 = .ok (.lload_n 2, 1) := by decide +kernel
theorem dX3_isSame_2 : decode cX3_isSame 2 = .ok (.lcmp, 1) := by decide +kernel
theorem dX3_isSame_3 : decode cX3_isSame 3 = .ok (.ifCond .eq 15, 3) := by decide +kernel
theorem dX3_isSame_6 : decode cX3_isSame 6 = .ok (.lload_n 0, 1) := by decide +kernel
theorem dX3_isSame_7 : decode cX3_isSame 7 = .ok (.lload_n 2, 1) := by decide +kernel
theorem dX3_isSame_8 : decode cX3_isSame 8 = .ok (.lor, 1) := by decide +kernel
theorem dX3_isSame_9 : decode cX3_isSame 9 = .ok (.ldc2_w 9, 3) := by decide +kernel
theorem dX3_isSame_12 : decode cX3_isSame 12 = .ok (.land, 1) := by decide +kernel
theorem dX3_isSame_13 : decode cX3_isSame 13 = .ok (.lconst 0, 1) := by decide +kernel
theorem dX3_isSame_14 : decode cX3_isSame 14 = .ok (.lcmp, 1) := by decide +kernel
theorem dX3_isSame_15 : decode cX3_isSame 15 = .ok (.ifCond .ne 7, 3) := by decide +kernel
theorem dX3_isSame_18 : decode cX3_isSame 18 = .ok (.iconst 1, 1) := by decide +kernel
theorem dX3_isSame_19 : decode cX3_isSame 19 = .ok (.goto 4, 3) := by decide +kernel
theorem dX3_isSame_22 : decode cX3_isSame 22 = .ok (.iconst 0, 1) := by decide +kernel
theorem dX3_isSame_23 : decode cX3_isSame 23 = .ok (.ireturn, 1) := by decide +kernel
theorem dX3_ofBits_0 : decode cX3_ofBits 0 = .ok (.lload_n 0, 1) := by decide +kernel
theorem dX3_ofBits_1 : decode cX3_ofBits 1 = .ok (.ldc2_w 9, 3) := by decide +kernel
theorem dX3_ofBits_4 : decode cX3_ofBits 4 = .ok (.land, 1) := by decide +kernel
theorem dX3_ofBits_5 : decode cX3_ofBits 5 = .ok (.invokestatic 15, 3) := by decide +kernel
theorem dX3_ofBits_8 : decode cX3_ofBits 8 = .ok (.dstore_n 2, 1) := by decide +kernel
theorem dX3_ofBits_9 : decode cX3_ofBits 9 = .ok (.lload_n 0, 1) := by decide +kernel
theorem dX3_ofBits_10 : decode cX3_ofBits 10 = .ok (.lconst 0, 1) := by decide +kernel
theorem dX3_ofBits_11 : decode cX3_ofBits 11 = .ok (.lcmp, 1) := by decide +kernel
theorem dX3_ofBits_12 : decode cX3_ofBits 12 = .ok (.ifCond .ge 8, 3) := by decide +kernel
theorem dX3_ofBits_15 : decode cX3_ofBits 15 = .ok (.dload_n 2, 1) := by decide +kernel
theorem dX3_ofBits_16 : decode cX3_ofBits 16 = .ok (.dneg, 1) := by decide +kernel
theorem dX3_ofBits_17 : decode cX3_ofBits 17 = .ok (.goto 4, 3) := by decide +kernel
theorem dX3_ofBits_20 : decode cX3_ofBits 20 = .ok (.dload_n 2, 1) := by decide +kernel
theorem dX3_ofBits_21 : decode cX3_ofBits 21 = .ok (.dreturn, 1) := by decide +kernel
theorem dX3_sizeOf_0 : decode cX3_sizeOf 0 = .ok (.lload_n 0, 1) := by decide +kernel
theorem dX3_sizeOf_1 : decode cX3_sizeOf 1 = .ok (.lconst 0, 1) := by decide +kernel
theorem dX3_sizeOf_2 : decode cX3_sizeOf 2 = .ok (.lcmp, 1) := by decide +kernel
theorem dX3_sizeOf_3 : decode cX3_sizeOf 3 = .ok (.ifCond .ne 5, 3) := by decide +kernel
theorem dX3_sizeOf_6 : decode cX3_sizeOf 6 = .ok (.dconst 0, 1) := by decide +kernel
theorem dX3_sizeOf_7 : decode cX3_sizeOf 7 = .ok (.dreturn, 1) := by decide +kernel
theorem dX3_sizeOf_8 : decode cX3_sizeOf 8 = .ok (.lload_n 0, 1) := by decide +kernel
theorem dX3_sizeOf_9 : decode cX3_sizeOf 9 = .ok (.bipush 52, 2) := by decide +kernel
theorem dX3_sizeOf_11 : decode cX3_sizeOf 11 = .ok (.lushr, 1) := by decide +kernel
theorem dX3_sizeOf_12 : decode cX3_sizeOf 12 = .ok (.l2i, 1) := by decide +kernel
theorem dX3_sizeOf_13 : decode cX3_sizeOf 13 = .ok (.istore_n 2, 1) := by decide +kernel
theorem dX3_sizeOf_14 : decode cX3_sizeOf 14 = .ok (.lload_n 0, 1) := by decide +kernel
theorem dX3_sizeOf_15 : decode cX3_sizeOf 15 = .ok (.ldc2_w 19, 3) := by decide +kernel
theorem dX3_sizeOf_18 : decode cX3_sizeOf 18 = .ok (.land, 1) := by decide +kernel
theorem dX3_sizeOf_19 : decode cX3_sizeOf 19 = .ok (.lstore_n 3, 1) := by decide +kernel
theorem dX3_sizeOf_20 : decode cX3_sizeOf 20 = .ok (.iload_n 2, 1) := by decide +kernel
theorem dX3_sizeOf_21 : decode cX3_sizeOf 21 = .ok (.ifCond .ne 7, 3) := by decide +kernel
theorem dX3_sizeOf_24 : decode cX3_sizeOf 24 = .ok (.lload_n 3, 1) := by decide +kernel
theorem dX3_sizeOf_25 : decode cX3_sizeOf 25 = .ok (.goto 8, 3) := by decide +kernel
theorem dX3_sizeOf_28 : decode cX3_sizeOf 28 = .ok (.lload_n 3, 1) := by decide +kernel
theorem dX3_sizeOf_29 : decode cX3_sizeOf 29 = .ok (.ldc2_w 21, 3) := by decide +kernel
theorem dX3_sizeOf_32 : decode cX3_sizeOf 32 = .ok (.lor, 1) := by decide +kernel
theorem dX3_sizeOf_33 : decode cX3_sizeOf 33 = .ok (.lstore 5, 2) := by decide +kernel
theorem dX3_sizeOf_35 : decode cX3_sizeOf 35 = .ok (.sipush 1075, 3) := by decide +kernel
theorem dX3_sizeOf_38 : decode cX3_sizeOf 38 = .ok (.iload_n 2, 1) := by decide +kernel
theorem dX3_sizeOf_39 : decode cX3_sizeOf 39 = .ok (.iconst 1, 1) := by decide +kernel
theorem dX3_sizeOf_40 : decode cX3_sizeOf 40 = .ok (.invokestatic 23, 3) := by decide +kernel
theorem dX3_sizeOf_43 : decode cX3_sizeOf 43 = .ok (.isub, 1) := by decide +kernel
theorem dX3_sizeOf_44 : decode cX3_sizeOf 44 = .ok (.istore 7, 2) := by decide +kernel
theorem dX3_sizeOf_46 : decode cX3_sizeOf 46 = .ok (.lload 5, 2) := by decide +kernel
theorem dX3_sizeOf_48 : decode cX3_sizeOf 48 = .ok (.l2d, 1) := by decide +kernel
theorem dX3_sizeOf_49 : decode cX3_sizeOf 49 = .ok (.dstore 8, 2) := by decide +kernel
theorem dX3_sizeOf_51 : decode cX3_sizeOf 51 = .ok (.iload 7, 2) := by decide +kernel
theorem dX3_sizeOf_53 : decode cX3_sizeOf 53 = .ok (.bipush 32, 2) := by decide +kernel
theorem dX3_sizeOf_55 : decode cX3_sizeOf 55 = .ok (.if_icmp .le 17, 3) := by decide +kernel
theorem dX3_sizeOf_58 : decode cX3_sizeOf 58 = .ok (.dload 8, 2) := by decide +kernel
theorem dX3_sizeOf_60 : decode cX3_sizeOf 60 = .ok (.ldc2_w 29, 3) := by decide +kernel
theorem dX3_sizeOf_63 : decode cX3_sizeOf 63 = .ok (.ddiv, 1) := by decide +kernel
theorem dX3_sizeOf_64 : decode cX3_sizeOf 64 = .ok (.dstore 8, 2) := by decide +kernel
theorem dX3_sizeOf_66 : decode cX3_sizeOf 66 = .ok (.iinc 7 (-32), 3) := by decide +kernel
theorem dX3_sizeOf_69 : decode cX3_sizeOf 69 = .ok (.goto (-18), 3) := by decide +kernel
theorem dX3_sizeOf_72 : decode cX3_sizeOf 72 = .ok (.dload 8, 2) := by decide +kernel
theorem dX3_sizeOf_74 : decode cX3_sizeOf 74 = .ok (.lconst 1, 1) := by decide +kernel
theorem dX3_sizeOf_75 : decode cX3_sizeOf 75 = .ok (.iload 7, 2) := by decide +kernel
theorem dX3_sizeOf_77 : decode cX3_sizeOf 77 = .ok (.lshl, 1) := by decide +kernel
theorem dX3_sizeOf_78 : decode cX3_sizeOf 78 = .ok (.l2d, 1) := by decide +kernel
theorem dX3_sizeOf_79 : decode cX3_sizeOf 79 = .ok (.ddiv, 1) := by decide +kernel
theorem dX3_sizeOf_80 : decode cX3_sizeOf 80 = .ok (.dreturn, 1) := by decide +kernel
theorem dX3_bitsOfTenths_0 : decode cX3_bitsOfTenths 0 = .ok (.iload_n 0, 1) := by decide +kernel
theorem dX3_bitsOfTenths_1 : decode cX3_bitsOfTenths 1 = .ok (.ifCond .ne 5, 3) := by decide +kernel
theorem dX3_bitsOfTenths_4 : decode cX3_bitsOfTenths 4 = .ok (.lconst 0, 1) := by decide +kernel
theorem dX3_bitsOfTenths_5 : decode cX3_bitsOfTenths 5 = .ok (.lreturn, 1) := by decide +kernel
theorem dX3_bitsOfTenths_6 : decode cX3_bitsOfTenths 6 = .ok (.bipush 49, 2) := by decide +kernel
theorem dX3_bitsOfTenths_8 : decode cX3_bitsOfTenths 8 = .ok (.istore_n 1, 1) := by decide +kernel
theorem dX3_bitsOfTenths_9 : decode cX3_bitsOfTenths 9 = .ok (.iload_n 0, 1) := by decide +kernel
theorem dX3_bitsOfTenths_10 : decode cX3_bitsOfTenths 10 = .ok (.invokestatic 31, 3) := by decide +kernel
theorem dX3_bitsOfTenths_13 : decode cX3_bitsOfTenths 13 = .ok (.i2d, 1) := by decide +kernel
theorem dX3_bitsOfTenths_14 : decode cX3_bitsOfTenths 14 = .ok (.ldc2_w 35, 3) := by decide +kernel
theorem dX3_bitsOfTenths_17 : decode cX3_bitsOfTenths 17 = .ok (.ddiv, 1) := by decide +kernel
theorem dX3_bitsOfTenths_18 : decode cX3_bitsOfTenths 18 = .ok (.lconst 1, 1) := by decide +kernel
theorem dX3_bitsOfTenths_19 : decode cX3_bitsOfTenths 19 = .ok (.iload_n 1, 1) := by decide +kernel
theorem dX3_bitsOfTenths_20 : decode cX3_bitsOfTenths 20 = .ok (.lshl, 1) := by decide +kernel
theorem dX3_bitsOfTenths_21 : decode cX3_bitsOfTenths 21 = .ok (.l2d, 1) := by decide +kernel
theorem dX3_bitsOfTenths_22 : decode cX3_bitsOfTenths 22 = .ok (.dmul, 1) := by decide +kernel
theorem dX3_bitsOfTenths_23 : decode cX3_bitsOfTenths 23 = .ok (.dstore_n 2, 1) := by decide +kernel
theorem dX3_bitsOfTenths_24 : decode cX3_bitsOfTenths 24 = .ok (.iload_n 1, 1) := by decide +kernel
theorem dX3_bitsOfTenths_25 : decode cX3_bitsOfTenths 25 = .ok (.bipush 60, 2) := by decide +kernel
theorem dX3_bitsOfTenths_27 : decode cX3_bitsOfTenths 27 = .ok (.if_icmp .ge 23, 3) := by decide +kernel
theorem dX3_bitsOfTenths_30 : decode cX3_bitsOfTenths 30 = .ok (.dload_n 2, 1) := by decide +kernel
theorem dX3_bitsOfTenths_31 : decode cX3_bitsOfTenths 31 = .ok (.ldc2_w 37, 3) := by decide +kernel
theorem dX3_bitsOfTenths_34 : decode cX3_bitsOfTenths 34 = .ok (.dcmp .g, 1) := by decide +kernel
theorem dX3_bitsOfTenths_35 : decode cX3_bitsOfTenths 35 = .ok (.ifCond .ge 15, 3) := by decide +kernel
theorem dX3_bitsOfTenths_38 : decode cX3_bitsOfTenths 38 = .ok (.dload_n 2, 1) := by decide +kernel
theorem dX3_bitsOfTenths_39 : decode cX3_bitsOfTenths 39 = .ok (.ldc2_w 39, 3) := by decide +kernel
theorem dX3_bitsOfTenths_42 : decode cX3_bitsOfTenths 42 = .ok (.dmul, 1) := by decide +kernel
theorem dX3_bitsOfTenths_43 : decode cX3_bitsOfTenths 43 = .ok (.dstore_n 2, 1) := by decide +kernel
theorem dX3_bitsOfTenths_44 : decode cX3_bitsOfTenths 44 = .ok (.iinc 1 1, 3) := by decide +kernel
theorem dX3_bitsOfTenths_47 : decode cX3_bitsOfTenths 47 = .ok (.goto (-23), 3) := by decide +kernel
theorem dX3_bitsOfTenths_50 : decode cX3_bitsOfTenths 50 = .ok (.sipush 1075, 3) := by decide +kernel
theorem dX3_bitsOfTenths_53 : decode cX3_bitsOfTenths 53 = .ok (.iload_n 1, 1) := by decide +kernel
theorem dX3_bitsOfTenths_54 : decode cX3_bitsOfTenths 54 = .ok (.isub, 1) := by decide +kernel
theorem dX3_bitsOfTenths_55 : decode cX3_bitsOfTenths 55 = .ok (.i2l, 1) := by decide +kernel
theorem dX3_bitsOfTenths_56 : decode cX3_bitsOfTenths 56 = .ok (.lstore 4, 2) := by decide +kernel
theorem dX3_bitsOfTenths_58 : decode cX3_bitsOfTenths 58 = .ok (.lload 4, 2) := by decide +kernel
theorem dX3_bitsOfTenths_60 : decode cX3_bitsOfTenths 60 = .ok (.bipush 52, 2) := by decide +kernel
theorem dX3_bitsOfTenths_62 : decode cX3_bitsOfTenths 62 = .ok (.lshl, 1) := by decide +kernel
theorem dX3_bitsOfTenths_63 : decode cX3_bitsOfTenths 63 = .ok (.dload_n 2, 1) := by decide +kernel
theorem dX3_bitsOfTenths_64 : decode cX3_bitsOfTenths 64 = .ok (.d2l, 1) := by decide +kernel
theorem dX3_bitsOfTenths_65 : decode cX3_bitsOfTenths 65 = .ok (.ldc2_w 19, 3) := by decide +kernel
theorem dX3_bitsOfTenths_68 : decode cX3_bitsOfTenths 68 = .ok (.land, 1) := by decide +kernel
theorem dX3_bitsOfTenths_69 : decode cX3_bitsOfTenths 69 = .ok (.lor, 1) := by decide +kernel
theorem dX3_bitsOfTenths_70 : decode cX3_bitsOfTenths 70 = .ok (.lstore 6, 2) := by decide +kernel
theorem dX3_bitsOfTenths_72 : decode cX3_bitsOfTenths 72 = .ok (.iload_n 0, 1) := by decide +kernel
theorem dX3_bitsOfTenths_73 : decode cX3_bitsOfTenths 73 = .ok (.ifCond .ge 12, 3) := by decide +kernel
theorem dX3_bitsOfTenths_76 : decode cX3_bitsOfTenths 76 = .ok (.lload 6, 2) := by decide +kernel
theorem dX3_bitsOfTenths_78 : decode cX3_bitsOfTenths 78 = .ok (.ldc2_w 41, 3) := by decide +kernel
theorem dX3_bitsOfTenths_81 : decode cX3_bitsOfTenths 81 = .ok (.lor, 1) := by decide +kernel
theorem dX3_bitsOfTenths_82 : decode cX3_bitsOfTenths 82 = .ok (.goto 5, 3) := by decide +kernel
theorem dX3_bitsOfTenths_85 : decode cX3_bitsOfTenths 85 = .ok (.lload 6, 2) := by decide +kernel
theorem dX3_bitsOfTenths_87 : decode cX3_bitsOfTenths 87 = .ok (.lreturn, 1) := by decide +kernel
theorem dX4_init_0 : decode cX4_init 0 = .ok (.aload_n 0, 1) := by decide +kernel
theorem dX4_init_1 : decode cX4_init 1 = .ok (.invokespecial 1, 3) := by decide +kernel
theorem dX4_init_4 : decode cX4_init 4 = .ok (.aload_n 0, 1) := by decide +kernel
theorem dX4_init_5 : decode cX4_init 5 = .ok (.bipush 100, 2) := by decide +kernel
theorem dX4_init_7 : decode cX4_init 7 = .ok (.putfield 7, 3) := by decide +kernel
theorem dX4_init_10 : decode cX4_init 10 = .ok (.aload_n 0, 1) := by decide +kernel
theorem dX4_init_11 : decode cX4_init 11 = .ok (.bipush 6, 2) := by decide +kernel
theorem dX4_init_13 : decode cX4_init 13 = .ok (.newarray .int, 2) := by decide +kernel
theorem dX4_init_15 : decode cX4_init 15 = .ok (.putfield 13, 3) := by decide +kernel
theorem dX4_init_18 : decode cX4_init 18 = .ok (.aload_n 0, 1) := by decide +kernel
theorem dX4_init_19 : decode cX4_init 19 = .ok (.bipush 6, 2) := by decide +kernel
theorem dX4_init_21 : decode cX4_init 21 = .ok (.newarray .int, 2) := by decide +kernel
theorem dX4_init_23 : decode cX4_init 23 = .ok (.putfield 17, 3) := by decide +kernel
theorem dX4_init_26 : decode cX4_init 26 = .ok (.aload_n 0, 1) := by decide +kernel
theorem dX4_init_27 : decode cX4_init 27 = .ok (.bipush 6, 2) := by decide +kernel
theorem dX4_init_29 : decode cX4_init 29 = .ok (.newarray .boolean, 2) := by decide +kernel
theorem dX4_init_31 : decode cX4_init 31 = .ok (.putfield 20, 3) := by decide +kernel
theorem dX4_init_34 : decode cX4_init 34 = .ok (.aload_n 0, 1) := by decide +kernel
theorem dX4_init_35 : decode cX4_init 35 = .ok (.bipush 6, 2) := by decide +kernel
theorem dX4_init_37 : decode cX4_init 37 = .ok (.newarray .int, 2) := by decide +kernel
theorem dX4_init_39 : decode cX4_init 39 = .ok (.putfield 24, 3) := by decide +kernel
theorem dX4_init_42 : decode cX4_init 42 = .ok (.return_, 1) := by decide +kernel
theorem dX4_copyFrom_0 : decode cX4_copyFrom 0 = .ok (.aload_n 0, 1) := by decide +kernel
theorem dX4_copyFrom_1 : decode cX4_copyFrom 1 = .ok (.aload_n 1, 1) := by decide +kernel
theorem dX4_copyFrom_2 : decode cX4_copyFrom 2 = .ok (.getfield 27, 3) := by decide +kernel
theorem dX4_copyFrom_5 : decode cX4_copyFrom 5 = .ok (.putfield 27, 3) := by decide +kernel
theorem dX4_copyFrom_8 : decode cX4_copyFrom 8 = .ok (.aload_n 0, 1) := by decide +kernel
theorem dX4_copyFrom_9 : decode cX4_copyFrom 9 = .ok (.aload_n 1, 1) := by decide +kernel
theorem dX4_copyFrom_10 : decode cX4_copyFrom 10 = .ok (.getfield 7, 3) := by decide +kernel
theorem dX4_copyFrom_13 : decode cX4_copyFrom 13 = .ok (.putfield 7, 3) := by decide +kernel
theorem dX4_copyFrom_16 : decode cX4_copyFrom 16 = .ok (.aload_n 0, 1) := by decide +kernel
theorem dX4_copyFrom_17 : decode cX4_copyFrom 17 = .ok (.aload_n 1, 1) := by decide +kernel
theorem dX4_copyFrom_18 : decode cX4_copyFrom 18 = .ok (.getfield 30, 3) := by decide +kernel
theorem dX4_copyFrom_21 : decode cX4_copyFrom 21 = .ok (.putfield 30, 3) := by decide +kernel
theorem dX4_copyFrom_24 : decode cX4_copyFrom 24 = .ok (.aload_n 1, 1) := by decide +kernel
theorem dX4_copyFrom_25 : decode cX4_copyFrom 25 = .ok (.getfield 13, 3) := by decide +kernel
theorem dX4_copyFrom_28 : decode cX4_copyFrom 28 = .ok (.iconst 0, 1) := by decide +kernel
theorem dX4_copyFrom_29 : decode cX4_copyFrom 29 = .ok (.aload_n 0, 1) := by decide +kernel
theorem dX4_copyFrom_30 : decode cX4_copyFrom 30 = .ok (.getfield 13, 3) := by decide +kernel
theorem dX4_copyFrom_33 : decode cX4_copyFrom 33 = .ok (.iconst 0, 1) := by decide +kernel
theorem dX4_copyFrom_34 : decode cX4_copyFrom 34 = .ok (.bipush 6, 2) := by decide +kernel
theorem dX4_copyFrom_36 : decode cX4_copyFrom 36 = .ok (.invokestatic 33, 3) := by decide +kernel
theorem dX4_copyFrom_39 : decode cX4_copyFrom 39 = .ok (.aload_n 1, 1) := by decide +kernel
theorem dX4_copyFrom_40 : decode cX4_copyFrom 40 = .ok (.getfield 17, 3) := by decide +kernel
theorem dX4_copyFrom_43 : decode cX4_copyFrom 43 = .ok (.iconst 0, 1) := by decide +kernel
theorem dX4_copyFrom_44 : decode cX4_copyFrom 44 = .ok (.aload_n 0, 1) := by decide +kernel
theorem dX4_copyFrom_45 : decode cX4_copyFrom 45 = .ok (.getfield 17, 3) := by decide +kernel
theorem dX4_copyFrom_48 : decode cX4_copyFrom 48 = .ok (.iconst 0, 1) := by decide +kernel
theorem dX4_copyFrom_49 : decode cX4_copyFrom 49 = .ok (.bipush 6, 2) := by decide +kernel
theorem dX4_copyFrom_51 : decode cX4_copyFrom 51 = .ok (.invokestatic 33, 3) := by decide +kernel
theorem dX4_copyFrom_54 : decode cX4_copyFrom 54 = .ok (.aload_n 1, 1) := by decide +kernel
theorem dX4_copyFrom_55 : decode cX4_copyFrom 55 = .ok (.getfield 20, 3) := by decide +kernel
theorem dX4_copyFrom_58 : decode cX4_copyFrom 58 = .ok (.iconst 0, 1) := by decide +kernel
theorem dX4_copyFrom_59 : decode cX4_copyFrom 59 = .ok (.aload_n 0, 1) := by decide +kernel
theorem dX4_copyFrom_60 : decode cX4_copyFrom 60 = .ok (.getfield 20, 3) := by decide +kernel
theorem dX4_copyFrom_63 : decode cX4_copyFrom 63 = .ok (.iconst 0, 1) := by decide +kernel
theorem dX4_copyFrom_64 : decode cX4_copyFrom 64 = .ok (.bipush 6, 2) := by decide +kernel
theorem dX4_copyFrom_66 : decode cX4_copyFrom 66 = .ok (.invokestatic 33, 3) := by decide +kernel
theorem dX4_copyFrom_69 : decode cX4_copyFrom 69 = .ok (.aload_n 1, 1) := by decide +kernel
theorem dX4_copyFrom_70 : decode cX4_copyFrom 70 = .ok (.getfield 24, 3) := by decide +kernel
theorem dX4_copyFrom_73 : decode cX4_copyFrom 73 = .ok (.iconst 0, 1) := by decide +kernel
theorem dX4_copyFrom_74 : decode cX4_copyFrom 74 = .ok (.aload_n 0, 1) := by decide +kernel
theorem dX4_copyFrom_75 : decode cX4_copyFrom 75 = .ok (.getfield 24, 3) := by decide +kernel
theorem dX4_copyFrom_78 : decode cX4_copyFrom 78 = .ok (.iconst 0, 1) := by decide +kernel
theorem dX4_copyFrom_79 : decode cX4_copyFrom 79 = .ok (.bipush 6, 2) := by decide +kernel
theorem dX4_copyFrom_81 : decode cX4_copyFrom 81 = .ok (.invokestatic 33, 3) := by decide +kernel
theorem dX4_copyFrom_84 : decode cX4_copyFrom 84 = .ok (.return_, 1) := by decide +kernel
theorem dX4_isFull_0 : decode cX4_isFull 0 = .ok (.aload_n 0, 1) := by decide +kernel
theorem dX4_isFull_1 : decode cX4_isFull 1 = .ok (.getfield 27, 3) := by decide +kernel
theorem dX4_isFull_4 : decode cX4_isFull 4 = .ok (.bipush 6, 2) := by decide +kernel
theorem dX4_isFull_6 : decode cX4_isFull 6 = .ok (.if_icmp .lt 7, 3) := by decide +kernel
theorem dX4_isFull_9 : decode cX4_isFull 9 = .ok (.iconst 1, 1) := by decide +kernel
theorem dX4_isFull_10 : decode cX4_isFull 10 = .ok (.goto 4, 3) := by decide +kernel
theorem dX4_isFull_13 : decode cX4_isFull 13 = .ok (.iconst 0, 1) := by decide +kernel
theorem dX4_isFull_14 : decode cX4_isFull 14 = .ok (.ireturn, 1) := by decide +kernel
theorem dX4_has_0 : decode cX4_has 0 = .ok (.iload_n 1, 1) := by decide +kernel
theorem dX4_has_1 : decode cX4_has 1 = .ok (.ifCond .lt 15, 3) := by decide +kernel
theorem dX4_has_4 : decode cX4_has 4 = .ok (.iload_n 1, 1) := by decide +kernel
theorem dX4_has_5 : decode cX4_has 5 = .ok (.aload_n 0, 1) := by decide +kernel
theorem dX4_has_6 : decode cX4_has 6 = .ok (.getfield 27, 3) := by decide +kernel
theorem dX4_has_9 : decode cX4_has 9 = .ok (.if_icmp .ge 7, 3) := by decide +kernel
theorem dX4_has_12 : decode cX4_has 12 = .ok (.iconst 1, 1) := by decide +kernel
theorem dX4_has_13 : decode cX4_has 13 = .ok (.goto 4, 3) := by decide +kernel
theorem dX4_has_16 : decode cX4_has 16 = .ok (.iconst 0, 1) := by decide +kernel
theorem dX4_has_17 : decode cX4_has 17 = .ok (.ireturn, 1) := by decide +kernel
theorem dX4_add_0 : decode cX4_add 0 = .ok (.aload_n 0, 1) := by decide +kernel
theorem dX4_add_1 : decode cX4_add 1 = .ok (.getfield 27, 3) := by decide +kernel
theorem dX4_add_4 : decode cX4_add 4 = .ok (.istore_n 3, 1) := by decide +kernel
theorem dX4_add_5 : decode cX4_add 5 = .ok (.aload_n 0, 1) := by decide +kernel
theorem dX4_add_6 : decode cX4_add 6 = .ok (.getfield 13, 3) := by decide +kernel
theorem dX4_add_9 : decode cX4_add 9 = .ok (.iload_n 3, 1) := by decide +kernel
theorem dX4_add_10 : decode cX4_add 10 = .ok (.iload_n 1, 1) := by decide +kernel
theorem dX4_add_11 : decode cX4_add 11 = .ok (.iastore, 1) := by decide +kernel
theorem dX4_add_12 : decode cX4_add 12 = .ok (.aload_n 0, 1) := by decide +kernel
theorem dX4_add_13 : decode cX4_add 13 = .ok (.getfield 17, 3) := by decide +kernel
theorem dX4_add_16 : decode cX4_add 16 = .ok (.iload_n 3, 1) := by decide +kernel
theorem dX4_add_17 : decode cX4_add 17 = .ok (.iload_n 2, 1) := by decide +kernel
theorem dX4_add_18 : decode cX4_add 18 = .ok (.iastore, 1) := by decide +kernel
theorem dX4_add_19 : decode cX4_add 19 = .ok (.aload_n 0, 1) := by decide +kernel
theorem dX4_add_20 : decode cX4_add 20 = .ok (.getfield 20, 3) := by decide +kernel
theorem dX4_add_23 : decode cX4_add 23 = .ok (.iload_n 3, 1) := by decide +kernel
theorem dX4_add_24 : decode cX4_add 24 = .ok (.iconst 0, 1) := by decide +kernel
theorem dX4_add_25 : decode cX4_add 25 = .ok (.bastore, 1) := by decide +kernel
theorem dX4_add_26 : decode cX4_add 26 = .ok (.aload_n 0, 1) := by decide +kernel
theorem dX4_add_27 : decode cX4_add 27 = .ok (.getfield 24, 3) := by decide +kernel
theorem dX4_add_30 : decode cX4_add 30 = .ok (.iload_n 3, 1) := by decide +kernel
theorem dX4_add_31 : decode cX4_add 31 = .ok (.iconst 0, 1) := by decide +kernel
theorem dX4_add_32 : decode cX4_add 32 = .ok (.iastore, 1) := by decide +kernel
theorem dX4_add_33 : decode cX4_add 33 = .ok (.aload_n 0, 1) := by decide +kernel
theorem dX4_add_34 : decode cX4_add 34 = .ok (.dup, 1) := by decide +kernel
theorem dX4_add_35 : decode cX4_add 35 = .ok (.getfield 27, 3) := by decide +kernel
theorem dX4_add_38 : decode cX4_add 38 = .ok (.iconst 1, 1) := by decide +kernel
theorem dX4_add_39 : decode cX4_add 39 = .ok (.iadd, 1) := by decide +kernel
theorem dX4_add_40 : decode cX4_add 40 = .ok (.putfield 27, 3) := by decide +kernel
theorem dX4_add_43 : decode cX4_add 43 = .ok (.iload_n 3, 1) := by decide +kernel
theorem dX4_add_44 : decode cX4_add 44 = .ok (.ireturn, 1) := by decide +kernel
theorem dX4_countOn_0 : decode cX4_countOn 0 = .ok (.iconst 0, 1) := by decide +kernel
theorem dX4_countOn_1 : decode cX4_countOn 1 = .ok (.istore_n 1, 1) := by decide +kernel
theorem dX4_countOn_2 : decode cX4_countOn 2 = .ok (.iconst 0, 1) := by decide +kernel
theorem dX4_countOn_3 : decode cX4_countOn 3 = .ok (.istore_n 2, 1) := by decide +kernel
theorem dX4_countOn_4 : decode cX4_countOn 4 = .ok (.iload_n 2, 1) := by decide +kernel
theorem dX4_countOn_5 : decode cX4_countOn 5 = .ok (.aload_n 0, 1) := by decide +kernel
theorem dX4_countOn_6 : decode cX4_countOn 6 = .ok (.getfield 27, 3) := by decide +kernel
theorem dX4_countOn_9 : decode cX4_countOn 9 = .ok (.if_icmp .ge 21, 3) := by decide +kernel
theorem dX4_countOn_12 : decode cX4_countOn 12 = .ok (.aload_n 0, 1) := by decide +kernel
theorem dX4_countOn_13 : decode cX4_countOn 13 = .ok (.getfield 20, 3) := by decide +kernel
theorem dX4_countOn_16 : decode cX4_countOn 16 = .ok (.iload_n 2, 1) := by decide +kernel
theorem dX4_countOn_17 : decode cX4_countOn 17 = .ok (.baload, 1) := by decide +kernel
theorem dX4_countOn_18 : decode cX4_countOn 18 = .ok (.ifCond .eq 6, 3) := by decide +kernel
theorem dX4_countOn_21 : decode cX4_countOn 21 = .ok (.iinc 1 1, 3) := by decide +kernel
theorem dX4_countOn_24 : decode cX4_countOn 24 = .ok (.iinc 2 1, 3) := by decide +kernel
theorem dX4_countOn_27 : decode cX4_countOn 27 = .ok (.goto (-23), 3) := by decide +kernel
theorem dX4_countOn_30 : decode cX4_countOn 30 = .ok (.iload_n 1, 1) := by decide +kernel
theorem dX4_countOn_31 : decode cX4_countOn 31 = .ok (.ireturn, 1) := by decide +kernel
theorem dX4_runsBeside_0 : decode cX4_runsBeside 0 = .ok (.aload_n 0, 1) := by decide +kernel
theorem dX4_runsBeside_1 : decode cX4_runsBeside 1 = .ok (.getfield 20, 3) := by decide +kernel
theorem dX4_runsBeside_4 : decode cX4_runsBeside 4 = .ok (.iload_n 2, 1) := by decide +kernel
theorem dX4_runsBeside_5 : decode cX4_runsBeside 5 = .ok (.baload, 1) := by decide +kernel
theorem dX4_runsBeside_6 : decode cX4_runsBeside 6 = .ok (.ifCond .eq 22, 3) := by decide +kernel
theorem dX4_runsBeside_9 : decode cX4_runsBeside 9 = .ok (.iload_n 1, 1) := by decide +kernel
theorem dX4_runsBeside_10 : decode cX4_runsBeside 10 = .ok (.aload_n 0, 1) := by decide +kernel
theorem dX4_runsBeside_11 : decode cX4_runsBeside 11 = .ok (.getfield 13, 3) := by decide +kernel
theorem dX4_runsBeside_14 : decode cX4_runsBeside 14 = .ok (.iload_n 2, 1) := by decide +kernel
theorem dX4_runsBeside_15 : decode cX4_runsBeside 15 = .ok (.iaload, 1) := by decide +kernel
theorem dX4_runsBeside_16 : decode cX4_runsBeside 16 = .ok (.iadd, 1) := by decide +kernel
theorem dX4_runsBeside_17 : decode cX4_runsBeside 17 = .ok (.aload_n 0, 1) := by decide +kernel
theorem dX4_runsBeside_18 : decode cX4_runsBeside 18 = .ok (.getfield 7, 3) := by decide +kernel
theorem dX4_runsBeside_21 : decode cX4_runsBeside 21 = .ok (.if_icmp .gt 7, 3) := by decide +kernel
theorem dX4_runsBeside_24 : decode cX4_runsBeside 24 = .ok (.iconst 1, 1) := by decide +kernel
theorem dX4_runsBeside_25 : decode cX4_runsBeside 25 = .ok (.goto 4, 3) := by decide +kernel
theorem dX4_runsBeside_28 : decode cX4_runsBeside 28 = .ok (.iconst 0, 1) := by decide +kernel
theorem dX4_runsBeside_29 : decode cX4_runsBeside 29 = .ok (.ireturn, 1) := by decide +kernel
theorem dX4_wouldRun_0 : decode cX4_wouldRun 0 = .ok (.iconst 0, 1) := by decide +kernel
theorem dX4_wouldRun_1 : decode cX4_wouldRun 1 = .ok (.istore_n 2, 1) := by decide +kernel
theorem dX4_wouldRun_2 : decode cX4_wouldRun 2 = .ok (.iconst 0, 1) := by decide +kernel
theorem dX4_wouldRun_3 : decode cX4_wouldRun 3 = .ok (.istore_n 3, 1) := by decide +kernel
theorem dX4_wouldRun_4 : decode cX4_wouldRun 4 = .ok (.iload_n 3, 1) := by decide +kernel
theorem dX4_wouldRun_5 : decode cX4_wouldRun 5 = .ok (.iload_n 1, 1) := by decide +kernel
theorem dX4_wouldRun_6 : decode cX4_wouldRun 6 = .ok (.if_icmp .ge 35, 3) := by decide +kernel
theorem dX4_wouldRun_9 : decode cX4_wouldRun 9 = .ok (.iload_n 3, 1) := by decide +kernel
theorem dX4_wouldRun_10 : decode cX4_wouldRun 10 = .ok (.aload_n 0, 1) := by decide +kernel
theorem dX4_wouldRun_11 : decode cX4_wouldRun 11 = .ok (.getfield 27, 3) := by decide +kernel
theorem dX4_wouldRun_14 : decode cX4_wouldRun 14 = .ok (.if_icmp .ge 27, 3) := by decide +kernel
theorem dX4_wouldRun_17 : decode cX4_wouldRun 17 = .ok (.aload_n 0, 1) := by decide +kernel
theorem dX4_wouldRun_18 : decode cX4_wouldRun 18 = .ok (.iload_n 2, 1) := by decide +kernel
theorem dX4_wouldRun_19 : decode cX4_wouldRun 19 = .ok (.iload_n 3, 1) := by decide +kernel
theorem dX4_wouldRun_20 : decode cX4_wouldRun 20 = .ok (.invokevirtual 39, 3) := by decide +kernel
theorem dX4_wouldRun_23 : decode cX4_wouldRun 23 = .ok (.ifCond .eq 12, 3) := by decide +kernel
theorem dX4_wouldRun_26 : decode cX4_wouldRun 26 = .ok (.iload_n 2, 1) := by decide +kernel
theorem dX4_wouldRun_27 : decode cX4_wouldRun 27 = .ok (.aload_n 0, 1) := by decide +kernel
theorem dX4_wouldRun_28 : decode cX4_wouldRun 28 = .ok (.getfield 13, 3) := by decide +kernel
theorem dX4_wouldRun_31 : decode cX4_wouldRun 31 = .ok (.iload_n 3, 1) := by decide +kernel
theorem dX4_wouldRun_32 : decode cX4_wouldRun 32 = .ok (.iaload, 1) := by decide +kernel
theorem dX4_wouldRun_33 : decode cX4_wouldRun 33 = .ok (.iadd, 1) := by decide +kernel
theorem dX4_wouldRun_34 : decode cX4_wouldRun 34 = .ok (.istore_n 2, 1) := by decide +kernel
theorem dX4_wouldRun_35 : decode cX4_wouldRun 35 = .ok (.iinc 3 1, 3) := by decide +kernel
theorem dX4_wouldRun_38 : decode cX4_wouldRun 38 = .ok (.goto (-34), 3) := by decide +kernel
theorem dX4_wouldRun_41 : decode cX4_wouldRun 41 = .ok (.aload_n 0, 1) := by decide +kernel
theorem dX4_wouldRun_42 : decode cX4_wouldRun 42 = .ok (.iload_n 2, 1) := by decide +kernel
theorem dX4_wouldRun_43 : decode cX4_wouldRun 43 = .ok (.iload_n 1, 1) := by decide +kernel
theorem dX4_wouldRun_44 : decode cX4_wouldRun 44 = .ok (.invokevirtual 39, 3) := by decide +kernel
theorem dX4_wouldRun_47 : decode cX4_wouldRun 47 = .ok (.ireturn, 1) := by decide +kernel
theorem dX4_run_0 : decode cX4_run 0 = .ok (.iconst 0, 1) := by decide +kernel
theorem dX4_run_1 : decode cX4_run 1 = .ok (.istore_n 2, 1) := by decide +kernel
theorem dX4_run_2 : decode cX4_run 2 = .ok (.aload_n 0, 1) := by decide +kernel
theorem dX4_run_3 : decode cX4_run 3 = .ok (.iconst 0, 1) := by decide +kernel
theorem dX4_run_4 : decode cX4_run 4 = .ok (.putfield 30, 3) := by decide +kernel
theorem dX4_run_7 : decode cX4_run 7 = .ok (.iconst 0, 1) := by decide +kernel
theorem dX4_run_8 : decode cX4_run 8 = .ok (.istore_n 3, 1) := by decide +kernel
theorem dX4_run_9 : decode cX4_run 9 = .ok (.iload_n 3, 1) := by decide +kernel
theorem dX4_run_10 : decode cX4_run 10 = .ok (.aload_n 0, 1) := by decide +kernel
theorem dX4_run_11 : decode cX4_run 11 = .ok (.getfield 27, 3) := by decide +kernel
theorem dX4_run_14 : decode cX4_run 14 = .ok (.if_icmp .ge 61, 3) := by decide +kernel
theorem dX4_run_17 : decode cX4_run 17 = .ok (.aload_n 0, 1) := by decide +kernel
theorem dX4_run_18 : decode cX4_run 18 = .ok (.iload_n 2, 1) := by decide +kernel
theorem dX4_run_19 : decode cX4_run 19 = .ok (.iload_n 3, 1) := by decide +kernel
theorem dX4_run_20 : decode cX4_run 20 = .ok (.invokevirtual 39, 3) := by decide +kernel
theorem dX4_run_23 : decode cX4_run 23 = .ok (.ifCond .eq 36, 3) := by decide +kernel
theorem dX4_run_26 : decode cX4_run 26 = .ok (.iload_n 2, 1) := by decide +kernel
theorem dX4_run_27 : decode cX4_run 27 = .ok (.aload_n 0, 1) := by decide +kernel
theorem dX4_run_28 : decode cX4_run 28 = .ok (.getfield 13, 3) := by decide +kernel
theorem dX4_run_31 : decode cX4_run 31 = .ok (.iload_n 3, 1) := by decide +kernel
theorem dX4_run_32 : decode cX4_run 32 = .ok (.iaload, 1) := by decide +kernel
theorem dX4_run_33 : decode cX4_run 33 = .ok (.iadd, 1) := by decide +kernel
theorem dX4_run_34 : decode cX4_run 34 = .ok (.istore_n 2, 1) := by decide +kernel
theorem dX4_run_35 : decode cX4_run 35 = .ok (.aload_n 0, 1) := by decide +kernel
theorem dX4_run_36 : decode cX4_run 36 = .ok (.getfield 24, 3) := by decide +kernel
theorem dX4_run_39 : decode cX4_run 39 = .ok (.iload_n 3, 1) := by decide +kernel
theorem dX4_run_40 : decode cX4_run 40 = .ok (.dup2, 1) := by decide +kernel
theorem dX4_run_41 : decode cX4_run 41 = .ok (.iaload, 1) := by decide +kernel
theorem dX4_run_42 : decode cX4_run 42 = .ok (.iconst 1, 1) := by decide +kernel
theorem dX4_run_43 : decode cX4_run 43 = .ok (.iadd, 1) := by decide +kernel
theorem dX4_run_44 : decode cX4_run 44 = .ok (.iastore, 1) := by decide +kernel
theorem dX4_run_45 : decode cX4_run 45 = .ok (.aload_n 1, 1) := by decide +kernel
theorem dX4_run_46 : decode cX4_run 46 = .ok (.aload_n 0, 1) := by decide +kernel
theorem dX4_run_47 : decode cX4_run 47 = .ok (.getfield 17, 3) := by decide +kernel
theorem dX4_run_50 : decode cX4_run 50 = .ok (.iload_n 3, 1) := by decide +kernel
theorem dX4_run_51 : decode cX4_run 51 = .ok (.iaload, 1) := by decide +kernel
theorem dX4_run_52 : decode cX4_run 52 = .ok (.i2l, 1) := by decide +kernel
theorem dX4_run_53 : decode cX4_run 53 = .ok (.invokevirtual 43, 3) := by decide +kernel
theorem dX4_run_56 : decode cX4_run 56 = .ok (.goto 13, 3) := by decide +kernel
theorem dX4_run_59 : decode cX4_run 59 = .ok (.aload_n 0, 1) := by decide +kernel
theorem dX4_run_60 : decode cX4_run 60 = .ok (.dup, 1) := by decide +kernel
theorem dX4_run_61 : decode cX4_run 61 = .ok (.getfield 30, 3) := by decide +kernel
theorem dX4_run_64 : decode cX4_run 64 = .ok (.iconst 1, 1) := by decide +kernel
theorem dX4_run_65 : decode cX4_run 65 = .ok (.iadd, 1) := by decide +kernel
theorem dX4_run_66 : decode cX4_run 66 = .ok (.putfield 30, 3) := by decide +kernel
theorem dX4_run_69 : decode cX4_run 69 = .ok (.iinc 3 1, 3) := by decide +kernel
theorem dX4_run_72 : decode cX4_run 72 = .ok (.goto (-63), 3) := by decide +kernel
theorem dX4_run_75 : decode cX4_run 75 = .ok (.return_, 1) := by decide +kernel
theorem dX5_init_0 : decode cX5_init 0 = .ok (.aload_n 0, 1) := by decide +kernel
theorem dX5_init_1 : decode cX5_init 1 = .ok (.invokespecial 3, 3) := by decide +kernel
theorem dX5_init_4 : decode cX5_init 4 = .ok (.aload_n 0, 1) := by decide +kernel
theorem dX5_init_5 : decode cX5_init 5 = .ok (.bipush 8, 2) := by decide +kernel
theorem dX5_init_7 : decode cX5_init 7 = .ok (.newarray .int, 2) := by decide +kernel
theorem dX5_init_9 : decode cX5_init 9 = .ok (.putfield 11, 3) := by decide +kernel
theorem dX5_init_12 : decode cX5_init 12 = .ok (.aload_n 0, 1) := by decide +kernel
theorem dX5_init_13 : decode cX5_init 13 = .ok (.bipush 8, 2) := by decide +kernel
theorem dX5_init_15 : decode cX5_init 15 = .ok (.newarray .double, 2) := by decide +kernel
theorem dX5_init_17 : decode cX5_init 17 = .ok (.putfield 15, 3) := by decide +kernel
theorem dX5_init_20 : decode cX5_init 20 = .ok (.aload_n 0, 1) := by decide +kernel
theorem dX5_init_21 : decode cX5_init 21 = .ok (.bipush 8, 2) := by decide +kernel
theorem dX5_init_23 : decode cX5_init 23 = .ok (.newarray .int, 2) := by decide +kernel
theorem dX5_init_25 : decode cX5_init 25 = .ok (.putfield 19, 3) := by decide +kernel
theorem dX5_init_28 : decode cX5_init 28 = .ok (.aload_n 0, 1) := by decide +kernel
theorem dX5_init_29 : decode cX5_init 29 = .ok (.bipush 8, 2) := by decide +kernel
theorem dX5_init_31 : decode cX5_init 31 = .ok (.newarray .int, 2) := by decide +kernel
theorem dX5_init_33 : decode cX5_init 33 = .ok (.putfield 22, 3) := by decide +kernel
theorem dX5_init_36 : decode cX5_init 36 = .ok (.aload_n 0, 1) := by decide +kernel
theorem dX5_init_37 : decode cX5_init 37 = .ok (.bipush 8, 2) := by decide +kernel
theorem dX5_init_39 : decode cX5_init 39 = .ok (.newarray .int, 2) := by decide +kernel
theorem dX5_init_41 : decode cX5_init 41 = .ok (.putfield 25, 3) := by decide +kernel
theorem dX5_init_44 : decode cX5_init 44 = .ok (.aload_n 0, 1) := by decide +kernel
theorem dX5_init_45 : decode cX5_init 45 = .ok (.bipush 8, 2) := by decide +kernel
theorem dX5_init_47 : decode cX5_init 47 = .ok (.newarray .int, 2) := by decide +kernel
theorem dX5_init_49 : decode cX5_init 49 = .ok (.putfield 28, 3) := by decide +kernel
theorem dX5_init_52 : decode cX5_init 52 = .ok (.aload_n 0, 1) := by decide +kernel
theorem dX5_init_53 : decode cX5_init 53 = .ok (.bipush 8, 2) := by decide +kernel
theorem dX5_init_55 : decode cX5_init 55 = .ok (.newarray .int, 2) := by decide +kernel
theorem dX5_init_57 : decode cX5_init 57 = .ok (.putfield 31, 3) := by decide +kernel
theorem dX5_init_60 : decode cX5_init 60 = .ok (.return_, 1) := by decide +kernel
theorem dX5_copyFrom_0 : decode cX5_copyFrom 0 = .ok (.aload_n 0, 1) := by decide +kernel
theorem dX5_copyFrom_1 : decode cX5_copyFrom 1 = .ok (.aload_n 1, 1) := by decide +kernel
theorem dX5_copyFrom_2 : decode cX5_copyFrom 2 = .ok (.getfield 34, 3) := by decide +kernel
theorem dX5_copyFrom_5 : decode cX5_copyFrom 5 = .ok (.putfield 34, 3) := by decide +kernel
theorem dX5_copyFrom_8 : decode cX5_copyFrom 8 = .ok (.aload_n 1, 1) := by decide +kernel
theorem dX5_copyFrom_9 : decode cX5_copyFrom 9 = .ok (.getfield 11, 3) := by decide +kernel
theorem dX5_copyFrom_12 : decode cX5_copyFrom 12 = .ok (.iconst 0, 1) := by decide +kernel
theorem dX5_copyFrom_13 : decode cX5_copyFrom 13 = .ok (.aload_n 0, 1) := by decide +kernel
theorem dX5_copyFrom_14 : decode cX5_copyFrom 14 = .ok (.getfield 11, 3) := by decide +kernel
theorem dX5_copyFrom_17 : decode cX5_copyFrom 17 = .ok (.iconst 0, 1) := by decide +kernel
theorem dX5_copyFrom_18 : decode cX5_copyFrom 18 = .ok (.bipush 8, 2) := by decide +kernel
theorem dX5_copyFrom_20 : decode cX5_copyFrom 20 = .ok (.invokestatic 38, 3) := by decide +kernel
theorem dX5_copyFrom_23 : decode cX5_copyFrom 23 = .ok (.aload_n 1, 1) := by decide +kernel
theorem dX5_copyFrom_24 : decode cX5_copyFrom 24 = .ok (.getfield 15, 3) := by decide +kernel
theorem dX5_copyFrom_27 : decode cX5_copyFrom 27 = .ok (.iconst 0, 1) := by decide +kernel
theorem dX5_copyFrom_28 : decode cX5_copyFrom 28 = .ok (.aload_n 0, 1) := by decide +kernel
theorem dX5_copyFrom_29 : decode cX5_copyFrom 29 = .ok (.getfield 15, 3) := by decide +kernel
theorem dX5_copyFrom_32 : decode cX5_copyFrom 32 = .ok (.iconst 0, 1) := by decide +kernel
theorem dX5_copyFrom_33 : decode cX5_copyFrom 33 = .ok (.bipush 8, 2) := by decide +kernel
theorem dX5_copyFrom_35 : decode cX5_copyFrom 35 = .ok (.invokestatic 38, 3) := by decide +kernel
theorem dX5_copyFrom_38 : decode cX5_copyFrom 38 = .ok (.aload_n 1, 1) := by decide +kernel
theorem dX5_copyFrom_39 : decode cX5_copyFrom 39 = .ok (.getfield 19, 3) := by decide +kernel
theorem dX5_copyFrom_42 : decode cX5_copyFrom 42 = .ok (.iconst 0, 1) := by decide +kernel
theorem dX5_copyFrom_43 : decode cX5_copyFrom 43 = .ok (.aload_n 0, 1) := by decide +kernel
theorem dX5_copyFrom_44 : decode cX5_copyFrom 44 = .ok (.getfield 19, 3) := by decide +kernel
theorem dX5_copyFrom_47 : decode cX5_copyFrom 47 = .ok (.iconst 0, 1) := by decide +kernel
theorem dX5_copyFrom_48 : decode cX5_copyFrom 48 = .ok (.bipush 8, 2) := by decide +kernel
theorem dX5_copyFrom_50 : decode cX5_copyFrom 50 = .ok (.invokestatic 38, 3) := by decide +kernel
theorem dX5_copyFrom_53 : decode cX5_copyFrom 53 = .ok (.aload_n 1, 1) := by decide +kernel
theorem dX5_copyFrom_54 : decode cX5_copyFrom 54 = .ok (.getfield 22, 3) := by decide +kernel
theorem dX5_copyFrom_57 : decode cX5_copyFrom 57 = .ok (.iconst 0, 1) := by decide +kernel
theorem dX5_copyFrom_58 : decode cX5_copyFrom 58 = .ok (.aload_n 0, 1) := by decide +kernel
theorem dX5_copyFrom_59 : decode cX5_copyFrom 59 = .ok (.getfield 22, 3) := by decide +kernel
theorem dX5_copyFrom_62 : decode cX5_copyFrom 62 = .ok (.iconst 0, 1) := by decide +kernel
theorem dX5_copyFrom_63 : decode cX5_copyFrom 63 = .ok (.bipush 8, 2) := by decide +kernel
theorem dX5_copyFrom_65 : decode cX5_copyFrom 65 = .ok (.invokestatic 38, 3) := by decide +kernel
theorem dX5_copyFrom_68 : decode cX5_copyFrom 68 = .ok (.aload_n 1, 1) := by decide +kernel
theorem dX5_copyFrom_69 : decode cX5_copyFrom 69 = .ok (.getfield 25, 3) := by decide +kernel
theorem dX5_copyFrom_72 : decode cX5_copyFrom 72 = .ok (.iconst 0, 1) := by decide +kernel
theorem dX5_copyFrom_73 : decode cX5_copyFrom 73 = .ok (.aload_n 0, 1) := by decide +kernel
theorem dX5_copyFrom_74 : decode cX5_copyFrom 74 = .ok (.getfield 25, 3) := by decide +kernel
theorem dX5_copyFrom_77 : decode cX5_copyFrom 77 = .ok (.iconst 0, 1) := by decide +kernel
theorem dX5_copyFrom_78 : decode cX5_copyFrom 78 = .ok (.bipush 8, 2) := by decide +kernel
theorem dX5_copyFrom_80 : decode cX5_copyFrom 80 = .ok (.invokestatic 38, 3) := by decide +kernel
theorem dX5_copyFrom_83 : decode cX5_copyFrom 83 = .ok (.aload_n 1, 1) := by decide +kernel
theorem dX5_copyFrom_84 : decode cX5_copyFrom 84 = .ok (.getfield 28, 3) := by decide +kernel
theorem dX5_copyFrom_87 : decode cX5_copyFrom 87 = .ok (.iconst 0, 1) := by decide +kernel
theorem dX5_copyFrom_88 : decode cX5_copyFrom 88 = .ok (.aload_n 0, 1) := by decide +kernel
theorem dX5_copyFrom_89 : decode cX5_copyFrom 89 = .ok (.getfield 28, 3) := by decide +kernel
theorem dX5_copyFrom_92 : decode cX5_copyFrom 92 = .ok (.iconst 0, 1) := by decide +kernel
theorem dX5_copyFrom_93 : decode cX5_copyFrom 93 = .ok (.bipush 8, 2) := by decide +kernel
theorem dX5_copyFrom_95 : decode cX5_copyFrom 95 = .ok (.invokestatic 38, 3) := by decide +kernel
theorem dX5_copyFrom_98 : decode cX5_copyFrom 98 = .ok (.aload_n 1, 1) := by decide +kernel
theorem dX5_copyFrom_99 : decode cX5_copyFrom 99 = .ok (.getfield 31, 3) := by decide +kernel
theorem dX5_copyFrom_102 : decode cX5_copyFrom 102 = .ok (.iconst 0, 1) := by decide +kernel
theorem dX5_copyFrom_103 : decode cX5_copyFrom 103 = .ok (.aload_n 0, 1) := by decide +kernel
theorem dX5_copyFrom_104 : decode cX5_copyFrom 104 = .ok (.getfield 31, 3) := by decide +kernel
theorem dX5_copyFrom_107 : decode cX5_copyFrom 107 = .ok (.iconst 0, 1) := by decide +kernel
theorem dX5_copyFrom_108 : decode cX5_copyFrom 108 = .ok (.bipush 8, 2) := by decide +kernel
theorem dX5_copyFrom_110 : decode cX5_copyFrom 110 = .ok (.invokestatic 38, 3) := by decide +kernel
theorem dX5_copyFrom_113 : decode cX5_copyFrom 113 = .ok (.return_, 1) := by decide +kernel
theorem dX5_isFull_0 : decode cX5_isFull 0 = .ok (.aload_n 0, 1) := by decide +kernel
theorem dX5_isFull_1 : decode cX5_isFull 1 = .ok (.getfield 34, 3) := by decide +kernel
theorem dX5_isFull_4 : decode cX5_isFull 4 = .ok (.bipush 8, 2) := by decide +kernel
theorem dX5_isFull_6 : decode cX5_isFull 6 = .ok (.if_icmp .lt 7, 3) := by decide +kernel
theorem dX5_isFull_9 : decode cX5_isFull 9 = .ok (.iconst 1, 1) := by decide +kernel
theorem dX5_isFull_10 : decode cX5_isFull 10 = .ok (.goto 4, 3) := by decide +kernel
theorem dX5_isFull_13 : decode cX5_isFull 13 = .ok (.iconst 0, 1) := by decide +kernel
theorem dX5_isFull_14 : decode cX5_isFull 14 = .ok (.ireturn, 1) := by decide +kernel
theorem dX5_has_0 : decode cX5_has 0 = .ok (.iload_n 1, 1) := by decide +kernel
theorem dX5_has_1 : decode cX5_has 1 = .ok (.ifCond .lt 15, 3) := by decide +kernel
theorem dX5_has_4 : decode cX5_has 4 = .ok (.iload_n 1, 1) := by decide +kernel
theorem dX5_has_5 : decode cX5_has 5 = .ok (.aload_n 0, 1) := by decide +kernel
theorem dX5_has_6 : decode cX5_has 6 = .ok (.getfield 34, 3) := by decide +kernel
theorem dX5_has_9 : decode cX5_has 9 = .ok (.if_icmp .ge 7, 3) := by decide +kernel
theorem dX5_has_12 : decode cX5_has 12 = .ok (.iconst 1, 1) := by decide +kernel
theorem dX5_has_13 : decode cX5_has 13 = .ok (.goto 4, 3) := by decide +kernel
theorem dX5_has_16 : decode cX5_has 16 = .ok (.iconst 0, 1) := by decide +kernel
theorem dX5_has_17 : decode cX5_has 17 = .ok (.ireturn, 1) := by decide +kernel
theorem dX5_add_0 : decode cX5_add 0 = .ok (.aload_n 0, 1) := by decide +kernel
theorem dX5_add_1 : decode cX5_add 1 = .ok (.getfield 34, 3) := by decide +kernel
theorem dX5_add_4 : decode cX5_add 4 = .ok (.istore 6, 2) := by decide +kernel
theorem dX5_add_6 : decode cX5_add 6 = .ok (.aload_n 0, 1) := by decide +kernel
theorem dX5_add_7 : decode cX5_add 7 = .ok (.getfield 11, 3) := by decide +kernel
theorem dX5_add_10 : decode cX5_add 10 = .ok (.iload 6, 2) := by decide +kernel
theorem dX5_add_12 : decode cX5_add 12 = .ok (.iload_n 1, 1) := by decide +kernel
theorem dX5_add_13 : decode cX5_add 13 = .ok (.iastore, 1) := by decide +kernel
theorem dX5_add_14 : decode cX5_add 14 = .ok (.aload_n 0, 1) := by decide +kernel
theorem dX5_add_15 : decode cX5_add 15 = .ok (.getfield 15, 3) := by decide +kernel
theorem dX5_add_18 : decode cX5_add 18 = .ok (.iload 6, 2) := by decide +kernel
theorem dX5_add_20 : decode cX5_add 20 = .ok (.dload_n 2, 1) := by decide +kernel
theorem dX5_add_21 : decode cX5_add 21 = .ok (.dastore, 1) := by decide +kernel
theorem dX5_add_22 : decode cX5_add 22 = .ok (.aload_n 0, 1) := by decide +kernel
theorem dX5_add_23 : decode cX5_add 23 = .ok (.getfield 19, 3) := by decide +kernel
theorem dX5_add_26 : decode cX5_add 26 = .ok (.iload 6, 2) := by decide +kernel
theorem dX5_add_28 : decode cX5_add 28 = .ok (.iload 4, 2) := by decide +kernel
theorem dX5_add_30 : decode cX5_add 30 = .ok (.iastore, 1) := by decide +kernel
theorem dX5_add_31 : decode cX5_add 31 = .ok (.aload_n 0, 1) := by decide +kernel
theorem dX5_add_32 : decode cX5_add 32 = .ok (.getfield 22, 3) := by decide +kernel
theorem dX5_add_35 : decode cX5_add 35 = .ok (.iload 6, 2) := by decide +kernel
theorem dX5_add_37 : decode cX5_add 37 = .ok (.iload 5, 2) := by decide +kernel
theorem dX5_add_39 : decode cX5_add 39 = .ok (.iastore, 1) := by decide +kernel
theorem dX5_add_40 : decode cX5_add 40 = .ok (.aload_n 0, 1) := by decide +kernel
theorem dX5_add_41 : decode cX5_add 41 = .ok (.getfield 25, 3) := by decide +kernel
theorem dX5_add_44 : decode cX5_add 44 = .ok (.iload 6, 2) := by decide +kernel
theorem dX5_add_46 : decode cX5_add 46 = .ok (.iconst 0, 1) := by decide +kernel
theorem dX5_add_47 : decode cX5_add 47 = .ok (.iastore, 1) := by decide +kernel
theorem dX5_add_48 : decode cX5_add 48 = .ok (.aload_n 0, 1) := by decide +kernel
theorem dX5_add_49 : decode cX5_add 49 = .ok (.getfield 28, 3) := by decide +kernel
theorem dX5_add_52 : decode cX5_add 52 = .ok (.iload 6, 2) := by decide +kernel
theorem dX5_add_54 : decode cX5_add 54 = .ok (.iconst 0, 1) := by decide +kernel
theorem dX5_add_55 : decode cX5_add 55 = .ok (.iastore, 1) := by decide +kernel
theorem dX5_add_56 : decode cX5_add 56 = .ok (.aload_n 0, 1) := by decide +kernel
theorem dX5_add_57 : decode cX5_add 57 = .ok (.getfield 31, 3) := by decide +kernel
theorem dX5_add_60 : decode cX5_add 60 = .ok (.iload 6, 2) := by decide +kernel
theorem dX5_add_62 : decode cX5_add 62 = .ok (.iconst 0, 1) := by decide +kernel
theorem dX5_add_63 : decode cX5_add 63 = .ok (.iastore, 1) := by decide +kernel
theorem dX5_add_64 : decode cX5_add 64 = .ok (.aload_n 0, 1) := by decide +kernel
theorem dX5_add_65 : decode cX5_add 65 = .ok (.dup, 1) := by decide +kernel
theorem dX5_add_66 : decode cX5_add 66 = .ok (.getfield 34, 3) := by decide +kernel
theorem dX5_add_69 : decode cX5_add 69 = .ok (.iconst 1, 1) := by decide +kernel
theorem dX5_add_70 : decode cX5_add 70 = .ok (.iadd, 1) := by decide +kernel
theorem dX5_add_71 : decode cX5_add 71 = .ok (.putfield 34, 3) := by decide +kernel
theorem dX5_add_74 : decode cX5_add 74 = .ok (.iload 6, 2) := by decide +kernel
theorem dX5_add_76 : decode cX5_add 76 = .ok (.ireturn, 1) := by decide +kernel
theorem dX5_isMoving_0 : decode cX5_isMoving 0 = .ok (.aload_n 0, 1) := by decide +kernel
theorem dX5_isMoving_1 : decode cX5_isMoving 1 = .ok (.getfield 25, 3) := by decide +kernel
theorem dX5_isMoving_4 : decode cX5_isMoving 4 = .ok (.iload_n 1, 1) := by decide +kernel
theorem dX5_isMoving_5 : decode cX5_isMoving 5 = .ok (.iaload, 1) := by decide +kernel
theorem dX5_isMoving_6 : decode cX5_isMoving 6 = .ok (.iconst 1, 1) := by decide +kernel
theorem dX5_isMoving_7 : decode cX5_isMoving 7 = .ok (.if_icmp .eq 13, 3) := by decide +kernel
theorem dX5_isMoving_10 : decode cX5_isMoving 10 = .ok (.aload_n 0, 1) := by decide +kernel
theorem dX5_isMoving_11 : decode cX5_isMoving 11 = .ok (.getfield 25, 3) := by decide +kernel
theorem dX5_isMoving_14 : decode cX5_isMoving 14 = .ok (.iload_n 1, 1) := by decide +kernel
theorem dX5_isMoving_15 : decode cX5_isMoving 15 = .ok (.iaload, 1) := by decide +kernel
theorem dX5_isMoving_16 : decode cX5_isMoving 16 = .ok (.iconst 3, 1) := by decide +kernel
theorem dX5_isMoving_17 : decode cX5_isMoving 17 = .ok (.if_icmp .ne 7, 3) := by decide +kernel
theorem dX5_isMoving_20 : decode cX5_isMoving 20 = .ok (.iconst 1, 1) := by decide +kernel
theorem dX5_isMoving_21 : decode cX5_isMoving 21 = .ok (.goto 4, 3) := by decide +kernel
theorem dX5_isMoving_24 : decode cX5_isMoving 24 = .ok (.iconst 0, 1) := by decide +kernel
theorem dX5_isMoving_25 : decode cX5_isMoving 25 = .ok (.ireturn, 1) := by decide +kernel
theorem dX5_isClosed_0 : decode cX5_isClosed 0 = .ok (.aload_n 0, 1) := by decide +kernel
theorem dX5_isClosed_1 : decode cX5_isClosed 1 = .ok (.getfield 25, 3) := by decide +kernel
theorem dX5_isClosed_4 : decode cX5_isClosed 4 = .ok (.iload_n 1, 1) := by decide +kernel
theorem dX5_isClosed_5 : decode cX5_isClosed 5 = .ok (.iaload, 1) := by decide +kernel
theorem dX5_isClosed_6 : decode cX5_isClosed 6 = .ok (.iconst 2, 1) := by decide +kernel
theorem dX5_isClosed_7 : decode cX5_isClosed 7 = .ok (.if_icmp .ne 7, 3) := by decide +kernel
theorem dX5_isClosed_10 : decode cX5_isClosed 10 = .ok (.iconst 1, 1) := by decide +kernel
theorem dX5_isClosed_11 : decode cX5_isClosed 11 = .ok (.goto 4, 3) := by decide +kernel
theorem dX5_isClosed_14 : decode cX5_isClosed 14 = .ok (.iconst 0, 1) := by decide +kernel
theorem dX5_isClosed_15 : decode cX5_isClosed 15 = .ok (.ireturn, 1) := by decide +kernel
theorem dX5_moving_0 : decode cX5_moving 0 = .ok (.iconst 0, 1) := by decide +kernel
theorem dX5_moving_1 : decode cX5_moving 1 = .ok (.istore_n 1, 1) := by decide +kernel
theorem dX5_moving_2 : decode cX5_moving 2 = .ok (.iload_n 1, 1) := by decide +kernel
theorem dX5_moving_3 : decode cX5_moving 3 = .ok (.aload_n 0, 1) := by decide +kernel
theorem dX5_moving_4 : decode cX5_moving 4 = .ok (.getfield 34, 3) := by decide +kernel
theorem dX5_moving_7 : decode cX5_moving 7 = .ok (.if_icmp .ge 19, 3) := by decide +kernel
theorem dX5_moving_10 : decode cX5_moving 10 = .ok (.aload_n 0, 1) := by decide +kernel
theorem dX5_moving_11 : decode cX5_moving 11 = .ok (.iload_n 1, 1) := by decide +kernel
theorem dX5_moving_12 : decode cX5_moving 12 = .ok (.invokevirtual 44, 3) := by decide +kernel
theorem dX5_moving_15 : decode cX5_moving 15 = .ok (.ifCond .eq 5, 3) := by decide +kernel
theorem dX5_moving_18 : decode cX5_moving 18 = .ok (.iload_n 1, 1) := by decide +kernel
theorem dX5_moving_19 : decode cX5_moving 19 = .ok (.ireturn, 1) := by decide +kernel
theorem dX5_moving_20 : decode cX5_moving 20 = .ok (.iinc 1 1, 3) := by decide +kernel
theorem dX5_moving_23 : decode cX5_moving 23 = .ok (.goto (-21), 3) := by decide +kernel
theorem dX5_moving_26 : decode cX5_moving 26 = .ok (.bipush (-5), 2) := by decide +kernel
theorem dX5_moving_28 : decode cX5_moving 28 = .ok (.ireturn, 1) := by decide +kernel
theorem dX5_lowestOpen_0 : decode cX5_lowestOpen 0 = .ok (.iconst 0, 1) := by decide +kernel
theorem dX5_lowestOpen_1 : decode cX5_lowestOpen 1 = .ok (.istore_n 1, 1) := by decide +kernel
theorem dX5_lowestOpen_2 : decode cX5_lowestOpen 2 = .ok (.iload_n 1, 1) := by decide +kernel
theorem dX5_lowestOpen_3 : decode cX5_lowestOpen 3 = .ok (.aload_n 0, 1) := by decide +kernel
theorem dX5_lowestOpen_4 : decode cX5_lowestOpen 4 = .ok (.getfield 34, 3) := by decide +kernel
theorem dX5_lowestOpen_7 : decode cX5_lowestOpen 7 = .ok (.if_icmp .ge 20, 3) := by decide +kernel
theorem dX5_lowestOpen_10 : decode cX5_lowestOpen 10 = .ok (.aload_n 0, 1) := by decide +kernel
theorem dX5_lowestOpen_11 : decode cX5_lowestOpen 11 = .ok (.getfield 25, 3) := by decide +kernel
theorem dX5_lowestOpen_14 : decode cX5_lowestOpen 14 = .ok (.iload_n 1, 1) := by decide +kernel
theorem dX5_lowestOpen_15 : decode cX5_lowestOpen 15 = .ok (.iaload, 1) := by decide +kernel
theorem dX5_lowestOpen_16 : decode cX5_lowestOpen 16 = .ok (.ifCond .ne 5, 3) := by decide +kernel
theorem dX5_lowestOpen_19 : decode cX5_lowestOpen 19 = .ok (.iload_n 1, 1) := by decide +kernel
theorem dX5_lowestOpen_20 : decode cX5_lowestOpen 20 = .ok (.ireturn, 1) := by decide +kernel
theorem dX5_lowestOpen_21 : decode cX5_lowestOpen 21 = .ok (.iinc 1 1, 3) := by decide +kernel
theorem dX5_lowestOpen_24 : decode cX5_lowestOpen 24 = .ok (.goto (-22), 3) := by decide +kernel
theorem dX5_lowestOpen_27 : decode cX5_lowestOpen 27 = .ok (.bipush (-5), 2) := by decide +kernel
theorem dX5_lowestOpen_29 : decode cX5_lowestOpen 29 = .ok (.ireturn, 1) := by decide +kernel
theorem dX5_highestClosed_0 : decode cX5_highestClosed 0 = .ok (.aload_n 0, 1) := by decide +kernel
theorem dX5_highestClosed_1 : decode cX5_highestClosed 1 = .ok (.getfield 34, 3) := by decide +kernel
theorem dX5_highestClosed_4 : decode cX5_highestClosed 4 = .ok (.iconst 1, 1) := by decide +kernel
theorem dX5_highestClosed_5 : decode cX5_highestClosed 5 = .ok (.isub, 1) := by decide +kernel
theorem dX5_highestClosed_6 : decode cX5_highestClosed 6 = .ok (.istore_n 1, 1) := by decide +kernel
theorem dX5_highestClosed_7 : decode cX5_highestClosed 7 = .ok (.iload_n 1, 1) := by decide +kernel
theorem dX5_highestClosed_8 : decode cX5_highestClosed 8 = .ok (.ifCond .lt 19, 3) := by decide +kernel
theorem dX5_highestClosed_11 : decode cX5_highestClosed 11 = .ok (.aload_n 0, 1) := by decide +kernel
theorem dX5_highestClosed_12 : decode cX5_highestClosed 12 = .ok (.iload_n 1, 1) := by decide +kernel
theorem dX5_highestClosed_13 : decode cX5_highestClosed 13 = .ok (.invokevirtual 48, 3) := by decide +kernel
theorem dX5_highestClosed_16 : decode cX5_highestClosed 16 = .ok (.ifCond .eq 5, 3) := by decide +kernel
theorem dX5_highestClosed_19 : decode cX5_highestClosed 19 = .ok (.iload_n 1, 1) := by decide +kernel
theorem dX5_highestClosed_20 : decode cX5_highestClosed 20 = .ok (.ireturn, 1) := by decide +kernel
theorem dX5_highestClosed_21 : decode cX5_highestClosed 21 = .ok (.iinc 1 (-1), 3) := by decide +kernel
theorem dX5_highestClosed_24 : decode cX5_highestClosed 24 = .ok (.goto (-17), 3) := by decide +kernel
theorem dX5_highestClosed_27 : decode cX5_highestClosed 27 = .ok (.bipush (-5), 2) := by decide +kernel
theorem dX5_highestClosed_29 : decode cX5_highestClosed 29 = .ok (.ireturn, 1) := by decide +kernel
theorem dX5_countIn_0 : decode cX5_countIn 0 = .ok (.iconst 0, 1) := by decide +kernel
theorem dX5_countIn_1 : decode cX5_countIn 1 = .ok (.istore_n 2, 1) := by decide +kernel
theorem dX5_countIn_2 : decode cX5_countIn 2 = .ok (.iconst 0, 1) := by decide +kernel
theorem dX5_countIn_3 : decode cX5_countIn 3 = .ok (.istore_n 3, 1) := by decide +kernel
theorem dX5_countIn_4 : decode cX5_countIn 4 = .ok (.iload_n 3, 1) := by decide +kernel
theorem dX5_countIn_5 : decode cX5_countIn 5 = .ok (.aload_n 0, 1) := by decide +kernel
theorem dX5_countIn_6 : decode cX5_countIn 6 = .ok (.getfield 34, 3) := by decide +kernel
theorem dX5_countIn_9 : decode cX5_countIn 9 = .ok (.if_icmp .ge 22, 3) := by decide +kernel
theorem dX5_countIn_12 : decode cX5_countIn 12 = .ok (.aload_n 0, 1) := by decide +kernel
theorem dX5_countIn_13 : decode cX5_countIn 13 = .ok (.getfield 25, 3) := by decide +kernel
theorem dX5_countIn_16 : decode cX5_countIn 16 = .ok (.iload_n 3, 1) := by decide +kernel
theorem dX5_countIn_17 : decode cX5_countIn 17 = .ok (.iaload, 1) := by decide +kernel
theorem dX5_countIn_18 : decode cX5_countIn 18 = .ok (.iload_n 1, 1) := by decide +kernel
theorem dX5_countIn_19 : decode cX5_countIn 19 = .ok (.if_icmp .ne 6, 3) := by decide +kernel
theorem dX5_countIn_22 : decode cX5_countIn 22 = .ok (.iinc 2 1, 3) := by decide +kernel
theorem dX5_countIn_25 : decode cX5_countIn 25 = .ok (.iinc 3 1, 3) := by decide +kernel
theorem dX5_countIn_28 : decode cX5_countIn 28 = .ok (.goto (-24), 3) := by decide +kernel
theorem dX5_countIn_31 : decode cX5_countIn 31 = .ok (.iload_n 2, 1) := by decide +kernel
theorem dX5_countIn_32 : decode cX5_countIn 32 = .ok (.ireturn, 1) := by decide +kernel
theorem dX5_areAllShut_0 : decode cX5_areAllShut 0 = .ok (.aload_n 0, 1) := by decide +kernel
theorem dX5_areAllShut_1 : decode cX5_areAllShut 1 = .ok (.iconst 2, 1) := by decide +kernel
theorem dX5_areAllShut_2 : decode cX5_areAllShut 2 = .ok (.invokevirtual 51, 3) := by decide +kernel
theorem dX5_areAllShut_5 : decode cX5_areAllShut 5 = .ok (.aload_n 0, 1) := by decide +kernel
theorem dX5_areAllShut_6 : decode cX5_areAllShut 6 = .ok (.iconst 4, 1) := by decide +kernel
theorem dX5_areAllShut_7 : decode cX5_areAllShut 7 = .ok (.invokevirtual 51, 3) := by decide +kernel
theorem dX5_areAllShut_10 : decode cX5_areAllShut 10 = .ok (.iadd, 1) := by decide +kernel
theorem dX5_areAllShut_11 : decode cX5_areAllShut 11 = .ok (.aload_n 0, 1) := by decide +kernel
theorem dX5_areAllShut_12 : decode cX5_areAllShut 12 = .ok (.getfield 34, 3) := by decide +kernel
theorem dX5_areAllShut_15 : decode cX5_areAllShut 15 = .ok (.if_icmp .ne 7, 3) := by decide +kernel
theorem dX5_areAllShut_18 : decode cX5_areAllShut 18 = .ok (.iconst 1, 1) := by decide +kernel
theorem dX5_areAllShut_19 : decode cX5_areAllShut 19 = .ok (.goto 4, 3) := by decide +kernel
theorem dX5_areAllShut_22 : decode cX5_areAllShut 22 = .ok (.iconst 0, 1) := by decide +kernel
theorem dX5_areAllShut_23 : decode cX5_areAllShut 23 = .ok (.ireturn, 1) := by decide +kernel
theorem dX5_renew_0 : decode cX5_renew 0 = .ok (.aload_n 0, 1) := by decide +kernel
theorem dX5_renew_1 : decode cX5_renew 1 = .ok (.getfield 25, 3) := by decide +kernel
theorem dX5_renew_4 : decode cX5_renew 4 = .ok (.iload_n 1, 1) := by decide +kernel
theorem dX5_renew_5 : decode cX5_renew 5 = .ok (.iconst 0, 1) := by decide +kernel
theorem dX5_renew_6 : decode cX5_renew 6 = .ok (.iastore, 1) := by decide +kernel
theorem dX5_renew_7 : decode cX5_renew 7 = .ok (.aload_n 0, 1) := by decide +kernel
theorem dX5_renew_8 : decode cX5_renew 8 = .ok (.getfield 31, 3) := by decide +kernel
theorem dX5_renew_11 : decode cX5_renew 11 = .ok (.iload_n 1, 1) := by decide +kernel
theorem dX5_renew_12 : decode cX5_renew 12 = .ok (.iconst 0, 1) := by decide +kernel
theorem dX5_renew_13 : decode cX5_renew 13 = .ok (.iastore, 1) := by decide +kernel
theorem dX5_renew_14 : decode cX5_renew 14 = .ok (.return_, 1) := by decide +kernel
theorem dX5_startClosing_0 : decode cX5_startClosing 0 = .ok (.aload_n 0, 1) := by decide +kernel
theorem dX5_startClosing_1 : decode cX5_startClosing 1 = .ok (.getfield 31, 3) := by decide +kernel
theorem dX5_startClosing_4 : decode cX5_startClosing 4 = .ok (.iload_n 1, 1) := by decide +kernel
theorem dX5_startClosing_5 : decode cX5_startClosing 5 = .ok (.iaload, 1) := by decide +kernel
theorem dX5_startClosing_6 : decode cX5_startClosing 6 = .ok (.aload_n 0, 1) := by decide +kernel
theorem dX5_startClosing_7 : decode cX5_startClosing 7 = .ok (.getfield 22, 3) := by decide +kernel
theorem dX5_startClosing_10 : decode cX5_startClosing 10 = .ok (.iload_n 1, 1) := by decide +kernel
theorem dX5_startClosing_11 : decode cX5_startClosing 11 = .ok (.iaload, 1) := by decide +kernel
theorem dX5_startClosing_12 : decode cX5_startClosing 12 = .ok (.if_icmp .lt 12, 3) := by decide +kernel
theorem dX5_startClosing_15 : decode cX5_startClosing 15 = .ok (.aload_n 0, 1) := by decide +kernel
theorem dX5_startClosing_16 : decode cX5_startClosing 16 = .ok (.getfield 25, 3) := by decide +kernel
theorem dX5_startClosing_19 : decode cX5_startClosing 19 = .ok (.iload_n 1, 1) := by decide +kernel
theorem dX5_startClosing_20 : decode cX5_startClosing 20 = .ok (.iconst 4, 1) := by decide +kernel
theorem dX5_startClosing_21 : decode cX5_startClosing 21 = .ok (.iastore, 1) := by decide +kernel
theorem dX5_startClosing_22 : decode cX5_startClosing 22 = .ok (.iconst 1, 1) := by decide +kernel
theorem dX5_startClosing_23 : decode cX5_startClosing 23 = .ok (.ireturn, 1) := by decide +kernel
theorem dX5_startClosing_24 : decode cX5_startClosing 24 = .ok (.aload_n 0, 1) := by decide +kernel
theorem dX5_startClosing_25 : decode cX5_startClosing 25 = .ok (.getfield 25, 3) := by decide +kernel
theorem dX5_startClosing_28 : decode cX5_startClosing 28 = .ok (.iload_n 1, 1) := by decide +kernel
theorem dX5_startClosing_29 : decode cX5_startClosing 29 = .ok (.iconst 1, 1) := by decide +kernel
theorem dX5_startClosing_30 : decode cX5_startClosing 30 = .ok (.iastore, 1) := by decide +kernel
theorem dX5_startClosing_31 : decode cX5_startClosing 31 = .ok (.aload_n 0, 1) := by decide +kernel
theorem dX5_startClosing_32 : decode cX5_startClosing 32 = .ok (.getfield 28, 3) := by decide +kernel
theorem dX5_startClosing_35 : decode cX5_startClosing 35 = .ok (.iload_n 1, 1) := by decide +kernel
theorem dX5_startClosing_36 : decode cX5_startClosing 36 = .ok (.aload_n 0, 1) := by decide +kernel
theorem dX5_startClosing_37 : decode cX5_startClosing 37 = .ok (.getfield 19, 3) := by decide +kernel
theorem dX5_startClosing_40 : decode cX5_startClosing 40 = .ok (.iload_n 1, 1) := by decide +kernel
theorem dX5_startClosing_41 : decode cX5_startClosing 41 = .ok (.iaload, 1) := by decide +kernel
theorem dX5_startClosing_42 : decode cX5_startClosing 42 = .ok (.iastore, 1) := by decide +kernel
theorem dX5_startClosing_43 : decode cX5_startClosing 43 = .ok (.iconst 0, 1) := by decide +kernel
theorem dX5_startClosing_44 : decode cX5_startClosing 44 = .ok (.ireturn, 1) := by decide +kernel
theorem dX5_startOpening_0 : decode cX5_startOpening 0 = .ok (.aload_n 0, 1) := by decide +kernel
theorem dX5_startOpening_1 : decode cX5_startOpening 1 = .ok (.getfield 25, 3) := by decide +kernel
theorem dX5_startOpening_4 : decode cX5_startOpening 4 = .ok (.iload_n 1, 1) := by decide +kernel
theorem dX5_startOpening_5 : decode cX5_startOpening 5 = .ok (.iconst 3, 1) := by decide +kernel
theorem dX5_startOpening_6 : decode cX5_startOpening 6 = .ok (.iastore, 1) := by decide +kernel
theorem dX5_startOpening_7 : decode cX5_startOpening 7 = .ok (.aload_n 0, 1) := by decide +kernel
theorem dX5_startOpening_8 : decode cX5_startOpening 8 = .ok (.getfield 28, 3) := by decide +kernel
theorem dX5_startOpening_11 : decode cX5_startOpening 11 = .ok (.iload_n 1, 1) := by decide +kernel
theorem dX5_startOpening_12 : decode cX5_startOpening 12 = .ok (.aload_n 0, 1) := by decide +kernel
theorem dX5_startOpening_13 : decode cX5_startOpening 13 = .ok (.getfield 19, 3) := by decide +kernel
theorem dX5_startOpening_16 : decode cX5_startOpening 16 = .ok (.iload_n 1, 1) := by decide +kernel
theorem dX5_startOpening_17 : decode cX5_startOpening 17 = .ok (.iaload, 1) := by decide +kernel
theorem dX5_startOpening_18 : decode cX5_startOpening 18 = .ok (.iastore, 1) := by decide +kernel
theorem dX5_startOpening_19 : decode cX5_startOpening 19 = .ok (.return_, 1) := by decide +kernel
theorem dX5_goOn_0 : decode cX5_goOn 0 = .ok (.aload_n 0, 1) := by decide +kernel
theorem dX5_goOn_1 : decode cX5_goOn 1 = .ok (.invokevirtual 55, 3) := by decide +kernel
theorem dX5_goOn_4 : decode cX5_goOn 4 = .ok (.istore_n 1, 1) := by decide +kernel
theorem dX5_goOn_5 : decode cX5_goOn 5 = .ok (.iload_n 1, 1) := by decide +kernel
theorem dX5_goOn_6 : decode cX5_goOn 6 = .ok (.ifCond .ge 4, 3) := by decide +kernel
theorem dX5_goOn_9 : decode cX5_goOn 9 = .ok (.return_, 1) := by decide +kernel
theorem dX5_goOn_10 : decode cX5_goOn 10 = .ok (.aload_n 0, 1) := by decide +kernel
theorem dX5_goOn_11 : decode cX5_goOn 11 = .ok (.getfield 28, 3) := by decide +kernel
theorem dX5_goOn_14 : decode cX5_goOn 14 = .ok (.iload_n 1, 1) := by decide +kernel
theorem dX5_goOn_15 : decode cX5_goOn 15 = .ok (.dup2, 1) := by decide +kernel
theorem dX5_goOn_16 : decode cX5_goOn 16 = .ok (.iaload, 1) := by decide +kernel
theorem dX5_goOn_17 : decode cX5_goOn 17 = .ok (.iconst 1, 1) := by decide +kernel
theorem dX5_goOn_18 : decode cX5_goOn 18 = .ok (.isub, 1) := by decide +kernel
theorem dX5_goOn_19 : decode cX5_goOn 19 = .ok (.iastore, 1) := by decide +kernel
theorem dX5_goOn_20 : decode cX5_goOn 20 = .ok (.aload_n 0, 1) := by decide +kernel
theorem dX5_goOn_21 : decode cX5_goOn 21 = .ok (.getfield 28, 3) := by decide +kernel
theorem dX5_goOn_24 : decode cX5_goOn 24 = .ok (.iload_n 1, 1) := by decide +kernel
theorem dX5_goOn_25 : decode cX5_goOn 25 = .ok (.iaload, 1) := by decide +kernel
theorem dX5_goOn_26 : decode cX5_goOn 26 = .ok (.ifCond .le 4, 3) := by decide +kernel
theorem dX5_goOn_29 : decode cX5_goOn 29 = .ok (.return_, 1) := by decide +kernel
theorem dX5_goOn_30 : decode cX5_goOn 30 = .ok (.aload_n 0, 1) := by decide +kernel
theorem dX5_goOn_31 : decode cX5_goOn 31 = .ok (.getfield 25, 3) := by decide +kernel
theorem dX5_goOn_34 : decode cX5_goOn 34 = .ok (.iload_n 1, 1) := by decide +kernel
theorem dX5_goOn_35 : decode cX5_goOn 35 = .ok (.iaload, 1) := by decide +kernel
theorem dX5_goOn_36 : decode cX5_goOn 36 = .ok (.iconst 1, 1) := by decide +kernel
theorem dX5_goOn_37 : decode cX5_goOn 37 = .ok (.if_icmp .ne 23, 3) := by decide +kernel
theorem dX5_goOn_40 : decode cX5_goOn 40 = .ok (.aload_n 0, 1) := by decide +kernel
theorem dX5_goOn_41 : decode cX5_goOn 41 = .ok (.getfield 25, 3) := by decide +kernel
theorem dX5_goOn_44 : decode cX5_goOn 44 = .ok (.iload_n 1, 1) := by decide +kernel
theorem dX5_goOn_45 : decode cX5_goOn 45 = .ok (.iconst 2, 1) := by decide +kernel
theorem dX5_goOn_46 : decode cX5_goOn 46 = .ok (.iastore, 1) := by decide +kernel
theorem dX5_goOn_47 : decode cX5_goOn 47 = .ok (.aload_n 0, 1) := by decide +kernel
theorem dX5_goOn_48 : decode cX5_goOn 48 = .ok (.getfield 31, 3) := by decide +kernel
theorem dX5_goOn_51 : decode cX5_goOn 51 = .ok (.iload_n 1, 1) := by decide +kernel
theorem dX5_goOn_52 : decode cX5_goOn 52 = .ok (.dup2, 1) := by decide +kernel
theorem dX5_goOn_53 : decode cX5_goOn 53 = .ok (.iaload, 1) := by decide +kernel
theorem dX5_goOn_54 : decode cX5_goOn 54 = .ok (.iconst 1, 1) := by decide +kernel
theorem dX5_goOn_55 : decode cX5_goOn 55 = .ok (.iadd, 1) := by decide +kernel
theorem dX5_goOn_56 : decode cX5_goOn 56 = .ok (.iastore, 1) := by decide +kernel
theorem dX5_goOn_57 : decode cX5_goOn 57 = .ok (.goto 10, 3) := by decide +kernel
theorem dX5_goOn_60 : decode cX5_goOn 60 = .ok (.aload_n 0, 1) := by decide +kernel
theorem dX5_goOn_61 : decode cX5_goOn 61 = .ok (.getfield 25, 3) := by decide +kernel
theorem dX5_goOn_64 : decode cX5_goOn 64 = .ok (.iload_n 1, 1) := by decide +kernel
theorem dX5_goOn_65 : decode cX5_goOn 65 = .ok (.iconst 0, 1) := by decide +kernel
theorem dX5_goOn_66 : decode cX5_goOn 66 = .ok (.iastore, 1) := by decide +kernel
theorem dX5_goOn_67 : decode cX5_goOn 67 = .ok (.return_, 1) := by decide +kernel
theorem dX5_letThrough_0 : decode cX5_letThrough 0 = .ok (.aload_n 1, 1) := by decide +kernel
theorem dX5_letThrough_1 : decode cX5_letThrough 1 = .ok (.invokevirtual 59, 3) := by decide +kernel
theorem dX5_letThrough_4 : decode cX5_letThrough 4 = .ok (.dstore 4, 2) := by decide +kernel
theorem dX5_letThrough_6 : decode cX5_letThrough 6 = .ok (.iconst 0, 1) := by decide +kernel
theorem dX5_letThrough_7 : decode cX5_letThrough 7 = .ok (.istore 6, 2) := by decide +kernel
theorem dX5_letThrough_9 : decode cX5_letThrough 9 = .ok (.iload 6, 2) := by decide +kernel
theorem dX5_letThrough_11 : decode cX5_letThrough 11 = .ok (.aload_n 0, 1) := by decide +kernel
theorem dX5_letThrough_12 : decode cX5_letThrough 12 = .ok (.getfield 34, 3) := by decide +kernel
theorem dX5_letThrough_15 : decode cX5_letThrough 15 = .ok (.if_icmp .ge 40, 3) := by decide +kernel
theorem dX5_letThrough_18 : decode cX5_letThrough 18 = .ok (.aload_n 0, 1) := by decide +kernel
theorem dX5_letThrough_19 : decode cX5_letThrough 19 = .ok (.iload 6, 2) := by decide +kernel
theorem dX5_letThrough_21 : decode cX5_letThrough 21 = .ok (.invokevirtual 48, 3) := by decide +kernel
theorem dX5_letThrough_24 : decode cX5_letThrough 24 = .ok (.ifCond .ne 25, 3) := by decide +kernel
theorem dX5_letThrough_27 : decode cX5_letThrough 27 = .ok (.aload_n 1, 1) := by decide +kernel
theorem dX5_letThrough_28 : decode cX5_letThrough 28 = .ok (.aload_n 0, 1) := by decide +kernel
theorem dX5_letThrough_29 : decode cX5_letThrough 29 = .ok (.getfield 11, 3) := by decide +kernel
theorem dX5_letThrough_32 : decode cX5_letThrough 32 = .ok (.iload 6, 2) := by decide +kernel
theorem dX5_letThrough_34 : decode cX5_letThrough 34 = .ok (.iaload, 1) := by decide +kernel
theorem dX5_letThrough_35 : decode cX5_letThrough 35 = .ok (.i2d, 1) := by decide +kernel
theorem dX5_letThrough_36 : decode cX5_letThrough 36 = .ok (.ldc2_w 65, 3) := by decide +kernel
theorem dX5_letThrough_39 : decode cX5_letThrough 39 = .ok (.dmul, 1) := by decide +kernel
theorem dX5_letThrough_40 : decode cX5_letThrough 40 = .ok (.dload_n 2, 1) := by decide +kernel
theorem dX5_letThrough_41 : decode cX5_letThrough 41 = .ok (.dload 4, 2) := by decide +kernel
theorem dX5_letThrough_43 : decode cX5_letThrough 43 = .ok (.dsub, 1) := by decide +kernel
theorem dX5_letThrough_44 : decode cX5_letThrough 44 = .ok (.dmul, 1) := by decide +kernel
theorem dX5_letThrough_45 : decode cX5_letThrough 45 = .ok (.d2l, 1) := by decide +kernel
theorem dX5_letThrough_46 : decode cX5_letThrough 46 = .ok (.invokevirtual 67, 3) := by decide +kernel
theorem dX5_letThrough_49 : decode cX5_letThrough 49 = .ok (.iinc 6 1, 3) := by decide +kernel
theorem dX5_letThrough_52 : decode cX5_letThrough 52 = .ok (.goto (-43), 3) := by decide +kernel
theorem dX5_letThrough_55 : decode cX5_letThrough 55 = .ok (.iconst 0, 1) := by decide +kernel
theorem dX5_letThrough_56 : decode cX5_letThrough 56 = .ok (.istore 6, 2) := by decide +kernel
theorem dX5_letThrough_58 : decode cX5_letThrough 58 = .ok (.iload 6, 2) := by decide +kernel
theorem dX5_letThrough_60 : decode cX5_letThrough 60 = .ok (.aload_n 0, 1) := by decide +kernel
theorem dX5_letThrough_61 : decode cX5_letThrough 61 = .ok (.getfield 34, 3) := by decide +kernel
theorem dX5_letThrough_64 : decode cX5_letThrough 64 = .ok (.if_icmp .ge 57, 3) := by decide +kernel
theorem dX5_letThrough_67 : decode cX5_letThrough 67 = .ok (.aload_n 0, 1) := by decide +kernel
theorem dX5_letThrough_68 : decode cX5_letThrough 68 = .ok (.iload 6, 2) := by decide +kernel
theorem dX5_letThrough_70 : decode cX5_letThrough 70 = .ok (.invokevirtual 48, 3) := by decide +kernel
theorem dX5_letThrough_73 : decode cX5_letThrough 73 = .ok (.ifCond .eq 42, 3) := by decide +kernel
theorem dX5_letThrough_76 : decode cX5_letThrough 76 = .ok (.aload_n 0, 1) := by decide +kernel
theorem dX5_letThrough_77 : decode cX5_letThrough 77 = .ok (.getfield 15, 3) := by decide +kernel
theorem dX5_letThrough_80 : decode cX5_letThrough 80 = .ok (.iload 6, 2) := by decide +kernel
theorem dX5_letThrough_82 : decode cX5_letThrough 82 = .ok (.daload, 1) := by decide +kernel
theorem dX5_letThrough_83 : decode cX5_letThrough 83 = .ok (.dload_n 2, 1) := by decide +kernel
theorem dX5_letThrough_84 : decode cX5_letThrough 84 = .ok (.dcmp .g, 1) := by decide +kernel
theorem dX5_letThrough_85 : decode cX5_letThrough 85 = .ok (.ifCond .ge 30, 3) := by decide +kernel
theorem dX5_letThrough_88 : decode cX5_letThrough 88 = .ok (.aload_n 1, 1) := by decide +kernel
theorem dX5_letThrough_89 : decode cX5_letThrough 89 = .ok (.aload_n 0, 1) := by decide +kernel
theorem dX5_letThrough_90 : decode cX5_letThrough 90 = .ok (.getfield 11, 3) := by decide +kernel
theorem dX5_letThrough_93 : decode cX5_letThrough 93 = .ok (.iload 6, 2) := by decide +kernel
theorem dX5_letThrough_95 : decode cX5_letThrough 95 = .ok (.iaload, 1) := by decide +kernel
theorem dX5_letThrough_96 : decode cX5_letThrough 96 = .ok (.i2d, 1) := by decide +kernel
theorem dX5_letThrough_97 : decode cX5_letThrough 97 = .ok (.ldc2_w 71, 3) := by decide +kernel
theorem dX5_letThrough_100 : decode cX5_letThrough 100 = .ok (.dmul, 1) := by decide +kernel
theorem dX5_letThrough_101 : decode cX5_letThrough 101 = .ok (.dload_n 2, 1) := by decide +kernel
theorem dX5_letThrough_102 : decode cX5_letThrough 102 = .ok (.aload_n 0, 1) := by decide +kernel
theorem dX5_letThrough_103 : decode cX5_letThrough 103 = .ok (.getfield 15, 3) := by decide +kernel
theorem dX5_letThrough_106 : decode cX5_letThrough 106 = .ok (.iload 6, 2) := by decide +kernel
theorem dX5_letThrough_108 : decode cX5_letThrough 108 = .ok (.daload, 1) := by decide +kernel
theorem dX5_letThrough_109 : decode cX5_letThrough 109 = .ok (.dsub, 1) := by decide +kernel
theorem dX5_letThrough_110 : decode cX5_letThrough 110 = .ok (.dmul, 1) := by decide +kernel
theorem dX5_letThrough_111 : decode cX5_letThrough 111 = .ok (.d2l, 1) := by decide +kernel
theorem dX5_letThrough_112 : decode cX5_letThrough 112 = .ok (.invokevirtual 73, 3) := by decide +kernel
theorem dX5_letThrough_115 : decode cX5_letThrough 115 = .ok (.iinc 6 1, 3) := by decide +kernel
theorem dX5_letThrough_118 : decode cX5_letThrough 118 = .ok (.goto (-60), 3) := by decide +kernel
theorem dX5_letThrough_121 : decode cX5_letThrough 121 = .ok (.return_, 1) := by decide +kernel
theorem dX6_init_0 : decode cX6_init 0 = .ok (.aload_n 0, 1) := by decide +kernel
theorem dX6_init_1 : decode cX6_init 1 = .ok (.invokespecial 3, 3) := by decide +kernel
theorem dX6_init_4 : decode cX6_init 4 = .ok (.aload_n 0, 1) := by decide +kernel
theorem dX6_init_5 : decode cX6_init 5 = .ok (.new 9, 3) := by decide +kernel
theorem dX6_init_8 : decode cX6_init 8 = .ok (.dup, 1) := by decide +kernel
theorem dX6_init_9 : decode cX6_init 9 = .ok (.invokespecial 11, 3) := by decide +kernel
theorem dX6_init_12 : decode cX6_init 12 = .ok (.putfield 12, 3) := by decide +kernel
theorem dX6_init_15 : decode cX6_init 15 = .ok (.aload_n 0, 1) := by decide +kernel
theorem dX6_init_16 : decode cX6_init 16 = .ok (.new 18, 3) := by decide +kernel
theorem dX6_init_19 : decode cX6_init 19 = .ok (.dup, 1) := by decide +kernel
theorem dX6_init_20 : decode cX6_init 20 = .ok (.invokespecial 20, 3) := by decide +kernel
theorem dX6_init_23 : decode cX6_init 23 = .ok (.putfield 21, 3) := by decide +kernel
theorem dX6_init_26 : decode cX6_init 26 = .ok (.aload_n 0, 1) := by decide +kernel
theorem dX6_init_27 : decode cX6_init 27 = .ok (.new 25, 3) := by decide +kernel
theorem dX6_init_30 : decode cX6_init 30 = .ok (.dup, 1) := by decide +kernel
theorem dX6_init_31 : decode cX6_init 31 = .ok (.invokespecial 27, 3) := by decide +kernel
theorem dX6_init_34 : decode cX6_init 34 = .ok (.putfield 28, 3) := by decide +kernel
theorem dX6_init_37 : decode cX6_init 37 = .ok (.aload_n 0, 1) := by decide +kernel
theorem dX6_init_38 : decode cX6_init 38 = .ok (.new 32, 3) := by decide +kernel
theorem dX6_init_41 : decode cX6_init 41 = .ok (.dup, 1) := by decide +kernel
theorem dX6_init_42 : decode cX6_init 42 = .ok (.invokespecial 34, 3) := by decide +kernel
theorem dX6_init_45 : decode cX6_init 45 = .ok (.putfield 35, 3) := by decide +kernel
theorem dX6_init_48 : decode cX6_init 48 = .ok (.aload_n 0, 1) := by decide +kernel
theorem dX6_init_49 : decode cX6_init 49 = .ok (.new 39, 3) := by decide +kernel
theorem dX6_init_52 : decode cX6_init 52 = .ok (.dup, 1) := by decide +kernel
theorem dX6_init_53 : decode cX6_init 53 = .ok (.invokespecial 41, 3) := by decide +kernel
theorem dX6_init_56 : decode cX6_init 56 = .ok (.putfield 42, 3) := by decide +kernel
theorem dX6_init_59 : decode cX6_init 59 = .ok (.aload_n 0, 1) := by decide +kernel
theorem dX6_init_60 : decode cX6_init 60 = .ok (.bipush 24, 2) := by decide +kernel
theorem dX6_init_62 : decode cX6_init 62 = .ok (.newarray .long, 2) := by decide +kernel
theorem dX6_init_64 : decode cX6_init 64 = .ok (.putfield 46, 3) := by decide +kernel
theorem dX6_init_67 : decode cX6_init 67 = .ok (.aload_n 0, 1) := by decide +kernel
theorem dX6_init_68 : decode cX6_init 68 = .ok (.ldc2_w 50, 3) := by decide +kernel
theorem dX6_init_71 : decode cX6_init 71 = .ok (.putfield 52, 3) := by decide +kernel
theorem dX6_init_74 : decode cX6_init 74 = .ok (.aload_n 0, 1) := by decide +kernel
theorem dX6_init_75 : decode cX6_init 75 = .ok (.iconst 0, 1) := by decide +kernel
theorem dX6_init_76 : decode cX6_init 76 = .ok (.putfield 56, 3) := by decide +kernel
theorem dX6_init_79 : decode cX6_init 79 = .ok (.return_, 1) := by decide +kernel
theorem dX6_copyFrom_0 : decode cX6_copyFrom 0 = .ok (.aload_n 0, 1) := by decide +kernel
theorem dX6_copyFrom_1 : decode cX6_copyFrom 1 = .ok (.getfield 12, 3) := by decide +kernel
theorem dX6_copyFrom_4 : decode cX6_copyFrom 4 = .ok (.aload_n 1, 1) := by decide +kernel
theorem dX6_copyFrom_5 : decode cX6_copyFrom 5 = .ok (.getfield 12, 3) := by decide +kernel
theorem dX6_copyFrom_8 : decode cX6_copyFrom 8 = .ok (.invokevirtual 60, 3) := by decide +kernel
theorem dX6_copyFrom_11 : decode cX6_copyFrom 11 = .ok (.aload_n 0, 1) := by decide +kernel
theorem dX6_copyFrom_12 : decode cX6_copyFrom 12 = .ok (.getfield 21, 3) := by decide +kernel
theorem dX6_copyFrom_15 : decode cX6_copyFrom 15 = .ok (.aload_n 1, 1) := by decide +kernel
theorem dX6_copyFrom_16 : decode cX6_copyFrom 16 = .ok (.getfield 21, 3) := by decide +kernel
theorem dX6_copyFrom_19 : decode cX6_copyFrom 19 = .ok (.invokevirtual 64, 3) := by decide +kernel
theorem dX6_copyFrom_22 : decode cX6_copyFrom 22 = .ok (.aload_n 0, 1) := by decide +kernel
theorem dX6_copyFrom_23 : decode cX6_copyFrom 23 = .ok (.getfield 28, 3) := by decide +kernel
theorem dX6_copyFrom_26 : decode cX6_copyFrom 26 = .ok (.aload_n 1, 1) := by decide +kernel
theorem dX6_copyFrom_27 : decode cX6_copyFrom 27 = .ok (.getfield 28, 3) := by decide +kernel
theorem dX6_copyFrom_30 : decode cX6_copyFrom 30 = .ok (.invokevirtual 67, 3) := by decide +kernel
theorem dX6_copyFrom_33 : decode cX6_copyFrom 33 = .ok (.aload_n 0, 1) := by decide +kernel
theorem dX6_copyFrom_34 : decode cX6_copyFrom 34 = .ok (.getfield 35, 3) := by decide +kernel
theorem dX6_copyFrom_37 : decode cX6_copyFrom 37 = .ok (.aload_n 1, 1) := by decide +kernel
theorem dX6_copyFrom_38 : decode cX6_copyFrom 38 = .ok (.getfield 35, 3) := by decide +kernel
theorem dX6_copyFrom_41 : decode cX6_copyFrom 41 = .ok (.invokevirtual 70, 3) := by decide +kernel
theorem dX6_copyFrom_44 : decode cX6_copyFrom 44 = .ok (.aload_n 0, 1) := by decide +kernel
theorem dX6_copyFrom_45 : decode cX6_copyFrom 45 = .ok (.getfield 42, 3) := by decide +kernel
theorem dX6_copyFrom_48 : decode cX6_copyFrom 48 = .ok (.aload_n 1, 1) := by decide +kernel
theorem dX6_copyFrom_49 : decode cX6_copyFrom 49 = .ok (.getfield 42, 3) := by decide +kernel
theorem dX6_copyFrom_52 : decode cX6_copyFrom 52 = .ok (.invokevirtual 73, 3) := by decide +kernel
theorem dX6_copyFrom_55 : decode cX6_copyFrom 55 = .ok (.aload_n 1, 1) := by decide +kernel
theorem dX6_copyFrom_56 : decode cX6_copyFrom 56 = .ok (.getfield 46, 3) := by decide +kernel
theorem dX6_copyFrom_59 : decode cX6_copyFrom 59 = .ok (.iconst 0, 1) := by decide +kernel
theorem dX6_copyFrom_60 : decode cX6_copyFrom 60 = .ok (.aload_n 0, 1) := by decide +kernel
theorem dX6_copyFrom_61 : decode cX6_copyFrom 61 = .ok (.getfield 46, 3) := by decide +kernel
theorem dX6_copyFrom_64 : decode cX6_copyFrom 64 = .ok (.iconst 0, 1) := by decide +kernel
theorem dX6_copyFrom_65 : decode cX6_copyFrom 65 = .ok (.bipush 24, 2) := by decide +kernel
theorem dX6_copyFrom_67 : decode cX6_copyFrom 67 = .ok (.invokestatic 76, 3) := by decide +kernel
theorem dX6_copyFrom_70 : decode cX6_copyFrom 70 = .ok (.aload_n 0, 1) := by decide +kernel
theorem dX6_copyFrom_71 : decode cX6_copyFrom 71 = .ok (.aload_n 1, 1) := by decide +kernel
theorem dX6_copyFrom_72 : decode cX6_copyFrom 72 = .ok (.getfield 52, 3) := by decide +kernel
theorem dX6_copyFrom_75 : decode cX6_copyFrom 75 = .ok (.putfield 52, 3) := by decide +kernel
theorem dX6_copyFrom_78 : decode cX6_copyFrom 78 = .ok (.aload_n 0, 1) := by decide +kernel
theorem dX6_copyFrom_79 : decode cX6_copyFrom 79 = .ok (.aload_n 1, 1) := by decide +kernel
theorem dX6_copyFrom_80 : decode cX6_copyFrom 80 = .ok (.getfield 82, 3) := by decide +kernel
theorem dX6_copyFrom_83 : decode cX6_copyFrom 83 = .ok (.putfield 82, 3) := by decide +kernel
theorem dX6_copyFrom_86 : decode cX6_copyFrom 86 = .ok (.aload_n 0, 1) := by decide +kernel
theorem dX6_copyFrom_87 : decode cX6_copyFrom 87 = .ok (.aload_n 1, 1) := by decide +kernel
theorem dX6_copyFrom_88 : decode cX6_copyFrom 88 = .ok (.getfield 56, 3) := by decide +kernel
theorem dX6_copyFrom_91 : decode cX6_copyFrom 91 = .ok (.putfield 56, 3) := by decide +kernel
theorem dX6_copyFrom_94 : decode cX6_copyFrom 94 = .ok (.aload_n 0, 1) := by decide +kernel
theorem dX6_copyFrom_95 : decode cX6_copyFrom 95 = .ok (.aload_n 1, 1) := by decide +kernel
theorem dX6_copyFrom_96 : decode cX6_copyFrom 96 = .ok (.getfield 85, 3) := by decide +kernel
theorem dX6_copyFrom_99 : decode cX6_copyFrom 99 = .ok (.putfield 85, 3) := by decide +kernel
theorem dX6_copyFrom_102 : decode cX6_copyFrom 102 = .ok (.aload_n 0, 1) := by decide +kernel
theorem dX6_copyFrom_103 : decode cX6_copyFrom 103 = .ok (.aload_n 1, 1) := by decide +kernel
theorem dX6_copyFrom_104 : decode cX6_copyFrom 104 = .ok (.getfield 88, 3) := by decide +kernel
theorem dX6_copyFrom_107 : decode cX6_copyFrom 107 = .ok (.putfield 88, 3) := by decide +kernel
theorem dX6_copyFrom_110 : decode cX6_copyFrom 110 = .ok (.return_, 1) := by decide +kernel
theorem dX6_outer_0 : decode cX6_outer 0 = .ok (.aload_n 0, 1) := by decide +kernel
theorem dX6_outer_1 : decode cX6_outer 1 = .ok (.getfield 46, 3) := by decide +kernel
theorem dX6_outer_4 : decode cX6_outer 4 = .ok (.aload_n 0, 1) := by decide +kernel
theorem dX6_outer_5 : decode cX6_outer 5 = .ok (.getfield 82, 3) := by decide +kernel
theorem dX6_outer_8 : decode cX6_outer 8 = .ok (.bipush 24, 2) := by decide +kernel
theorem dX6_outer_10 : decode cX6_outer 10 = .ok (.invokestatic 91, 3) := by decide +kernel
theorem dX6_outer_13 : decode cX6_outer 13 = .ok (.laload, 1) := by decide +kernel
theorem dX6_outer_14 : decode cX6_outer 14 = .ok (.invokestatic 97, 3) := by decide +kernel
theorem dX6_outer_17 : decode cX6_outer 17 = .ok (.dreturn, 1) := by decide +kernel
theorem dX6_beginClosing_0 : decode cX6_beginClosing 0 = .ok (.aload_n 0, 1) := by decide +kernel
theorem dX6_beginClosing_1 : decode cX6_beginClosing 1 = .ok (.invokevirtual 103, 3) := by decide +kernel
theorem dX6_beginClosing_4 : decode cX6_beginClosing 4 = .ok (.aload_n 0, 1) := by decide +kernel
theorem dX6_beginClosing_5 : decode cX6_beginClosing 5 = .ok (.getfield 52, 3) := by decide +kernel
theorem dX6_beginClosing_8 : decode cX6_beginClosing 8 = .ok (.invokestatic 97, 3) := by decide +kernel
theorem dX6_beginClosing_11 : decode cX6_beginClosing 11 = .ok (.dcmp .g, 1) := by decide +kernel
theorem dX6_beginClosing_12 : decode cX6_beginClosing 12 = .ok (.ifCond .ge 7, 3) := by decide +kernel
theorem dX6_beginClosing_15 : decode cX6_beginClosing 15 = .ok (.iconst 1, 1) := by decide +kernel
theorem dX6_beginClosing_16 : decode cX6_beginClosing 16 = .ok (.goto 4, 3) := by decide +kernel
theorem dX6_beginClosing_19 : decode cX6_beginClosing 19 = .ok (.iconst 0, 1) := by decide +kernel
theorem dX6_beginClosing_20 : decode cX6_beginClosing 20 = .ok (.istore_n 1, 1) := by decide +kernel
theorem dX6_beginClosing_21 : decode cX6_beginClosing 21 = .ok (.aload_n 0, 1) := by decide +kernel
theorem dX6_beginClosing_22 : decode cX6_beginClosing 22 = .ok (.iconst 1, 1) := by decide +kernel
theorem dX6_beginClosing_23 : decode cX6_beginClosing 23 = .ok (.putfield 56, 3) := by decide +kernel
theorem dX6_beginClosing_26 : decode cX6_beginClosing 26 = .ok (.aload_n 0, 1) := by decide +kernel
theorem dX6_beginClosing_27 : decode cX6_beginClosing 27 = .ok (.dup, 1) := by decide +kernel
theorem dX6_beginClosing_28 : decode cX6_beginClosing 28 = .ok (.getfield 85, 3) := by decide +kernel
theorem dX6_beginClosing_31 : decode cX6_beginClosing 31 = .ok (.iconst 1, 1) := by decide +kernel
theorem dX6_beginClosing_32 : decode cX6_beginClosing 32 = .ok (.iadd, 1) := by decide +kernel
theorem dX6_beginClosing_33 : decode cX6_beginClosing 33 = .ok (.putfield 85, 3) := by decide +kernel
theorem dX6_beginClosing_36 : decode cX6_beginClosing 36 = .ok (.iload_n 1, 1) := by decide +kernel
theorem dX6_beginClosing_37 : decode cX6_beginClosing 37 = .ok (.ifCond .eq 13, 3) := by decide +kernel
theorem dX6_beginClosing_40 : decode cX6_beginClosing 40 = .ok (.aload_n 0, 1) := by decide +kernel
theorem dX6_beginClosing_41 : decode cX6_beginClosing 41 = .ok (.dup, 1) := by decide +kernel
theorem dX6_beginClosing_42 : decode cX6_beginClosing 42 = .ok (.getfield 88, 3) := by decide +kernel
theorem dX6_beginClosing_45 : decode cX6_beginClosing 45 = .ok (.iconst 1, 1) := by decide +kernel
theorem dX6_beginClosing_46 : decode cX6_beginClosing 46 = .ok (.iadd, 1) := by decide +kernel
theorem dX6_beginClosing_47 : decode cX6_beginClosing 47 = .ok (.putfield 88, 3) := by decide +kernel
theorem dX6_beginClosing_50 : decode cX6_beginClosing 50 = .ok (.iload_n 1, 1) := by decide +kernel
theorem dX6_beginClosing_51 : decode cX6_beginClosing 51 = .ok (.ireturn, 1) := by decide +kernel
theorem dX6_passHours_0 : decode cX6_passHours 0 = .ok (.iconst 0, 1) := by decide +kernel
theorem dX6_passHours_1 : decode cX6_passHours 1 = .ok (.istore_n 2, 1) := by decide +kernel
theorem dX6_passHours_2 : decode cX6_passHours 2 = .ok (.iconst 0, 1) := by decide +kernel
theorem dX6_passHours_3 : decode cX6_passHours 3 = .ok (.istore_n 3, 1) := by decide +kernel
theorem dX6_passHours_4 : decode cX6_passHours 4 = .ok (.iload_n 3, 1) := by decide +kernel
theorem dX6_passHours_5 : decode cX6_passHours 5 = .ok (.iload_n 1, 1) := by decide +kernel
theorem dX6_passHours_6 : decode cX6_passHours 6 = .ok (.if_icmp .ge 73, 3) := by decide +kernel
theorem dX6_passHours_9 : decode cX6_passHours 9 = .ok (.aload_n 0, 1) := by decide +kernel
theorem dX6_passHours_10 : decode cX6_passHours 10 = .ok (.invokevirtual 107, 3) := by decide +kernel
theorem dX6_passHours_13 : decode cX6_passHours 13 = .ok (.ifCond .eq 6, 3) := by decide +kernel
theorem dX6_passHours_16 : decode cX6_passHours 16 = .ok (.iinc 2 1, 3) := by decide +kernel
theorem dX6_passHours_19 : decode cX6_passHours 19 = .ok (.aload_n 0, 1) := by decide +kernel
theorem dX6_passHours_20 : decode cX6_passHours 20 = .ok (.getfield 12, 3) := by decide +kernel
theorem dX6_passHours_23 : decode cX6_passHours 23 = .ok (.aload_n 0, 1) := by decide +kernel
theorem dX6_passHours_24 : decode cX6_passHours 24 = .ok (.getfield 42, 3) := by decide +kernel
theorem dX6_passHours_27 : decode cX6_passHours 27 = .ok (.aload_n 0, 1) := by decide +kernel
theorem dX6_passHours_28 : decode cX6_passHours 28 = .ok (.invokevirtual 103, 3) := by decide +kernel
theorem dX6_passHours_31 : decode cX6_passHours 31 = .ok (.invokevirtual 111, 3) := by decide +kernel
theorem dX6_passHours_34 : decode cX6_passHours 34 = .ok (.aload_n 0, 1) := by decide +kernel
theorem dX6_passHours_35 : decode cX6_passHours 35 = .ok (.getfield 28, 3) := by decide +kernel
theorem dX6_passHours_38 : decode cX6_passHours 38 = .ok (.aload_n 0, 1) := by decide +kernel
theorem dX6_passHours_39 : decode cX6_passHours 39 = .ok (.getfield 42, 3) := by decide +kernel
theorem dX6_passHours_42 : decode cX6_passHours 42 = .ok (.invokevirtual 115, 3) := by decide +kernel
theorem dX6_passHours_45 : decode cX6_passHours 45 = .ok (.aload_n 0, 1) := by decide +kernel
theorem dX6_passHours_46 : decode cX6_passHours 46 = .ok (.getfield 35, 3) := by decide +kernel
theorem dX6_passHours_49 : decode cX6_passHours 49 = .ok (.aload_n 0, 1) := by decide +kernel
theorem dX6_passHours_50 : decode cX6_passHours 50 = .ok (.getfield 42, 3) := by decide +kernel
theorem dX6_passHours_53 : decode cX6_passHours 53 = .ok (.invokevirtual 118, 3) := by decide +kernel
theorem dX6_passHours_56 : decode cX6_passHours 56 = .ok (.aload_n 0, 1) := by decide +kernel
theorem dX6_passHours_57 : decode cX6_passHours 57 = .ok (.getfield 12, 3) := by decide +kernel
theorem dX6_passHours_60 : decode cX6_passHours 60 = .ok (.invokevirtual 121, 3) := by decide +kernel
theorem dX6_passHours_63 : decode cX6_passHours 63 = .ok (.aload_n 0, 1) := by decide +kernel
theorem dX6_passHours_64 : decode cX6_passHours 64 = .ok (.dup, 1) := by decide +kernel
theorem dX6_passHours_65 : decode cX6_passHours 65 = .ok (.getfield 82, 3) := by decide +kernel
theorem dX6_passHours_68 : decode cX6_passHours 68 = .ok (.iconst 1, 1) := by decide +kernel
theorem dX6_passHours_69 : decode cX6_passHours 69 = .ok (.iadd, 1) := by decide +kernel
theorem dX6_passHours_70 : decode cX6_passHours 70 = .ok (.putfield 82, 3) := by decide +kernel
theorem dX6_passHours_73 : decode cX6_passHours 73 = .ok (.iinc 3 1, 3) := by decide +kernel
theorem dX6_passHours_76 : decode cX6_passHours 76 = .ok (.goto (-72), 3) := by decide +kernel
theorem dX6_passHours_79 : decode cX6_passHours 79 = .ok (.iload_n 2, 1) := by decide +kernel
theorem dX6_passHours_80 : decode cX6_passHours 80 = .ok (.ireturn, 1) := by decide +kernel
theorem dX6_startNext_0 : decode cX6_startNext 0 = .ok (.aload_n 0, 1) := by decide +kernel
theorem dX6_startNext_1 : decode cX6_startNext 1 = .ok (.getfield 56, 3) := by decide +kernel
theorem dX6_startNext_4 : decode cX6_startNext 4 = .ok (.ifCond .eq 15, 3) := by decide +kernel
theorem dX6_startNext_7 : decode cX6_startNext 7 = .ok (.aload_n 0, 1) := by decide +kernel
theorem dX6_startNext_8 : decode cX6_startNext 8 = .ok (.getfield 12, 3) := by decide +kernel
theorem dX6_startNext_11 : decode cX6_startNext 11 = .ok (.invokevirtual 124, 3) := by decide +kernel
theorem dX6_startNext_14 : decode cX6_startNext 14 = .ok (.bipush (-5), 2) := by decide +kernel
theorem dX6_startNext_16 : decode cX6_startNext 16 = .ok (.if_icmp .eq 5, 3) := by decide +kernel
theorem dX6_startNext_19 : decode cX6_startNext 19 = .ok (.iconst 0, 1) := by decide +kernel
theorem dX6_startNext_20 : decode cX6_startNext 20 = .ok (.ireturn, 1) := by decide +kernel
theorem dX6_startNext_21 : decode cX6_startNext 21 = .ok (.aload_n 0, 1) := by decide +kernel
theorem dX6_startNext_22 : decode cX6_startNext 22 = .ok (.getfield 56, 3) := by decide +kernel
theorem dX6_startNext_25 : decode cX6_startNext 25 = .ok (.iconst 1, 1) := by decide +kernel
theorem dX6_startNext_26 : decode cX6_startNext 26 = .ok (.if_icmp .ne 7, 3) := by decide +kernel
theorem dX6_startNext_29 : decode cX6_startNext 29 = .ok (.iconst 1, 1) := by decide +kernel
theorem dX6_startNext_30 : decode cX6_startNext 30 = .ok (.goto 4, 3) := by decide +kernel
theorem dX6_startNext_33 : decode cX6_startNext 33 = .ok (.iconst 0, 1) := by decide +kernel
theorem dX6_startNext_34 : decode cX6_startNext 34 = .ok (.istore_n 1, 1) := by decide +kernel
theorem dX6_startNext_35 : decode cX6_startNext 35 = .ok (.iload_n 1, 1) := by decide +kernel
theorem dX6_startNext_36 : decode cX6_startNext 36 = .ok (.ifCond .eq 13, 3) := by decide +kernel
theorem dX6_startNext_39 : decode cX6_startNext 39 = .ok (.aload_n 0, 1) := by decide +kernel
theorem dX6_startNext_40 : decode cX6_startNext 40 = .ok (.getfield 12, 3) := by decide +kernel
theorem dX6_startNext_43 : decode cX6_startNext 43 = .ok (.invokevirtual 128, 3) := by decide +kernel
theorem dX6_startNext_46 : decode cX6_startNext 46 = .ok (.goto 10, 3) := by decide +kernel
theorem dX6_startNext_49 : decode cX6_startNext 49 = .ok (.aload_n 0, 1) := by decide +kernel
theorem dX6_startNext_50 : decode cX6_startNext 50 = .ok (.getfield 12, 3) := by decide +kernel
theorem dX6_startNext_53 : decode cX6_startNext 53 = .ok (.invokevirtual 131, 3) := by decide +kernel
theorem dX6_startNext_56 : decode cX6_startNext 56 = .ok (.istore_n 2, 1) := by decide +kernel
theorem dX6_startNext_57 : decode cX6_startNext 57 = .ok (.iload_n 2, 1) := by decide +kernel
theorem dX6_startNext_58 : decode cX6_startNext 58 = .ok (.ifCond .ge 10, 3) := by decide +kernel
theorem dX6_startNext_61 : decode cX6_startNext 61 = .ok (.aload_n 0, 1) := by decide +kernel
theorem dX6_startNext_62 : decode cX6_startNext 62 = .ok (.iconst 0, 1) := by decide +kernel
theorem dX6_startNext_63 : decode cX6_startNext 63 = .ok (.putfield 56, 3) := by decide +kernel
theorem dX6_startNext_66 : decode cX6_startNext 66 = .ok (.iconst 0, 1) := by decide +kernel
theorem dX6_startNext_67 : decode cX6_startNext 67 = .ok (.ireturn, 1) := by decide +kernel
theorem dX6_startNext_68 : decode cX6_startNext 68 = .ok (.iload_n 1, 1) := by decide +kernel
theorem dX6_startNext_69 : decode cX6_startNext 69 = .ok (.ifCond .eq 12, 3) := by decide +kernel
theorem dX6_startNext_72 : decode cX6_startNext 72 = .ok (.aload_n 0, 1) := by decide +kernel
theorem dX6_startNext_73 : decode cX6_startNext 73 = .ok (.getfield 12, 3) := by decide +kernel
theorem dX6_startNext_76 : decode cX6_startNext 76 = .ok (.iload_n 2, 1) := by decide +kernel
theorem dX6_startNext_77 : decode cX6_startNext 77 = .ok (.invokevirtual 134, 3) := by decide +kernel
theorem dX6_startNext_80 : decode cX6_startNext 80 = .ok (.ireturn, 1) := by decide +kernel
theorem dX6_startNext_81 : decode cX6_startNext 81 = .ok (.aload_n 0, 1) := by decide +kernel
theorem dX6_startNext_82 : decode cX6_startNext 82 = .ok (.getfield 12, 3) := by decide +kernel
theorem dX6_startNext_85 : decode cX6_startNext 85 = .ok (.iload_n 2, 1) := by decide +kernel
theorem dX6_startNext_86 : decode cX6_startNext 86 = .ok (.invokevirtual 138, 3) := by decide +kernel
theorem dX6_startNext_89 : decode cX6_startNext 89 = .ok (.iconst 0, 1) := by decide +kernel
theorem dX6_startNext_90 : decode cX6_startNext 90 = .ok (.ireturn, 1) := by decide +kernel
theorem dX7_init_0 : decode cX7_init 0 = .ok (.aload_n 0, 1) := by decide +kernel
theorem dX7_init_1 : decode cX7_init 1 = .ok (.invokespecial 1, 3) := by decide +kernel
theorem dX7_init_4 : decode cX7_init 4 = .ok (.aload_n 0, 1) := by decide +kernel
theorem dX7_init_5 : decode cX7_init 5 = .ok (.iconst 4, 1) := by decide +kernel
theorem dX7_init_6 : decode cX7_init 6 = .ok (.newarray .int, 2) := by decide +kernel
theorem dX7_init_8 : decode cX7_init 8 = .ok (.putfield 9, 3) := by decide +kernel
theorem dX7_init_11 : decode cX7_init 11 = .ok (.return_, 1) := by decide +kernel
theorem dX7_copyFrom_0 : decode cX7_copyFrom 0 = .ok (.aload_n 0, 1) := by decide +kernel
theorem dX7_copyFrom_1 : decode cX7_copyFrom 1 = .ok (.aload_n 1, 1) := by decide +kernel
theorem dX7_copyFrom_2 : decode cX7_copyFrom 2 = .ok (.getfield 13, 3) := by decide +kernel
theorem dX7_copyFrom_5 : decode cX7_copyFrom 5 = .ok (.putfield 13, 3) := by decide +kernel
theorem dX7_copyFrom_8 : decode cX7_copyFrom 8 = .ok (.aload_n 1, 1) := by decide +kernel
theorem dX7_copyFrom_9 : decode cX7_copyFrom 9 = .ok (.getfield 9, 3) := by decide +kernel
theorem dX7_copyFrom_12 : decode cX7_copyFrom 12 = .ok (.iconst 0, 1) := by decide +kernel
theorem dX7_copyFrom_13 : decode cX7_copyFrom 13 = .ok (.aload_n 0, 1) := by decide +kernel
theorem dX7_copyFrom_14 : decode cX7_copyFrom 14 = .ok (.getfield 9, 3) := by decide +kernel
theorem dX7_copyFrom_17 : decode cX7_copyFrom 17 = .ok (.iconst 0, 1) := by decide +kernel
theorem dX7_copyFrom_18 : decode cX7_copyFrom 18 = .ok (.iconst 4, 1) := by decide +kernel
theorem dX7_copyFrom_19 : decode cX7_copyFrom 19 = .ok (.invokestatic 17, 3) := by decide +kernel
theorem dX7_copyFrom_22 : decode cX7_copyFrom 22 = .ok (.return_, 1) := by decide +kernel
theorem dX7_isFull_0 : decode cX7_isFull 0 = .ok (.aload_n 0, 1) := by decide +kernel
theorem dX7_isFull_1 : decode cX7_isFull 1 = .ok (.getfield 13, 3) := by decide +kernel
theorem dX7_isFull_4 : decode cX7_isFull 4 = .ok (.iconst 4, 1) := by decide +kernel
theorem dX7_isFull_5 : decode cX7_isFull 5 = .ok (.if_icmp .lt 7, 3) := by decide +kernel
theorem dX7_isFull_8 : decode cX7_isFull 8 = .ok (.iconst 1, 1) := by decide +kernel
theorem dX7_isFull_9 : decode cX7_isFull 9 = .ok (.goto 4, 3) := by decide +kernel
theorem dX7_isFull_12 : decode cX7_isFull 12 = .ok (.iconst 0, 1) := by decide +kernel
theorem dX7_isFull_13 : decode cX7_isFull 13 = .ok (.ireturn, 1) := by decide +kernel
theorem dX7_has_0 : decode cX7_has 0 = .ok (.iload_n 1, 1) := by decide +kernel
theorem dX7_has_1 : decode cX7_has 1 = .ok (.ifCond .lt 15, 3) := by decide +kernel
theorem dX7_has_4 : decode cX7_has 4 = .ok (.iload_n 1, 1) := by decide +kernel
theorem dX7_has_5 : decode cX7_has 5 = .ok (.aload_n 0, 1) := by decide +kernel
theorem dX7_has_6 : decode cX7_has 6 = .ok (.getfield 13, 3) := by decide +kernel
theorem dX7_has_9 : decode cX7_has 9 = .ok (.if_icmp .ge 7, 3) := by decide +kernel
theorem dX7_has_12 : decode cX7_has 12 = .ok (.iconst 1, 1) := by decide +kernel
theorem dX7_has_13 : decode cX7_has 13 = .ok (.goto 4, 3) := by decide +kernel
theorem dX7_has_16 : decode cX7_has 16 = .ok (.iconst 0, 1) := by decide +kernel
theorem dX7_has_17 : decode cX7_has 17 = .ok (.ireturn, 1) := by decide +kernel
theorem dX7_add_0 : decode cX7_add 0 = .ok (.aload_n 0, 1) := by decide +kernel
theorem dX7_add_1 : decode cX7_add 1 = .ok (.getfield 13, 3) := by decide +kernel
theorem dX7_add_4 : decode cX7_add 4 = .ok (.istore_n 2, 1) := by decide +kernel
theorem dX7_add_5 : decode cX7_add 5 = .ok (.aload_n 0, 1) := by decide +kernel
theorem dX7_add_6 : decode cX7_add 6 = .ok (.getfield 9, 3) := by decide +kernel
theorem dX7_add_9 : decode cX7_add 9 = .ok (.iload_n 2, 1) := by decide +kernel
theorem dX7_add_10 : decode cX7_add 10 = .ok (.iload_n 1, 1) := by decide +kernel
theorem dX7_add_11 : decode cX7_add 11 = .ok (.iastore, 1) := by decide +kernel
theorem dX7_add_12 : decode cX7_add 12 = .ok (.aload_n 0, 1) := by decide +kernel
theorem dX7_add_13 : decode cX7_add 13 = .ok (.dup, 1) := by decide +kernel
theorem dX7_add_14 : decode cX7_add 14 = .ok (.getfield 13, 3) := by decide +kernel
theorem dX7_add_17 : decode cX7_add 17 = .ok (.iconst 1, 1) := by decide +kernel
theorem dX7_add_18 : decode cX7_add 18 = .ok (.iadd, 1) := by decide +kernel
theorem dX7_add_19 : decode cX7_add 19 = .ok (.putfield 13, 3) := by decide +kernel
theorem dX7_add_22 : decode cX7_add 22 = .ok (.iload_n 2, 1) := by decide +kernel
theorem dX7_add_23 : decode cX7_add 23 = .ok (.ireturn, 1) := by decide +kernel
theorem dX7_bringTo_0 : decode cX7_bringTo 0 = .ok (.iconst 0, 1) := by decide +kernel
theorem dX7_bringTo_1 : decode cX7_bringTo 1 = .ok (.istore_n 2, 1) := by decide +kernel
theorem dX7_bringTo_2 : decode cX7_bringTo 2 = .ok (.iload_n 2, 1) := by decide +kernel
theorem dX7_bringTo_3 : decode cX7_bringTo 3 = .ok (.aload_n 0, 1) := by decide +kernel
theorem dX7_bringTo_4 : decode cX7_bringTo 4 = .ok (.getfield 13, 3) := by decide +kernel
theorem dX7_bringTo_7 : decode cX7_bringTo 7 = .ok (.if_icmp .ge 20, 3) := by decide +kernel
theorem dX7_bringTo_10 : decode cX7_bringTo 10 = .ok (.aload_n 1, 1) := by decide +kernel
theorem dX7_bringTo_11 : decode cX7_bringTo 11 = .ok (.aload_n 0, 1) := by decide +kernel
theorem dX7_bringTo_12 : decode cX7_bringTo 12 = .ok (.getfield 9, 3) := by decide +kernel
theorem dX7_bringTo_15 : decode cX7_bringTo 15 = .ok (.iload_n 2, 1) := by decide +kernel
theorem dX7_bringTo_16 : decode cX7_bringTo 16 = .ok (.iaload, 1) := by decide +kernel
theorem dX7_bringTo_17 : decode cX7_bringTo 17 = .ok (.i2l, 1) := by decide +kernel
theorem dX7_bringTo_18 : decode cX7_bringTo 18 = .ok (.invokevirtual 23, 3) := by decide +kernel
theorem dX7_bringTo_21 : decode cX7_bringTo 21 = .ok (.iinc 2 1, 3) := by decide +kernel
theorem dX7_bringTo_24 : decode cX7_bringTo 24 = .ok (.goto (-22), 3) := by decide +kernel
theorem dX7_bringTo_27 : decode cX7_bringTo 27 = .ok (.return_, 1) := by decide +kernel
theorem dX8_init_0 : decode cX8_init 0 = .ok (.aload_n 0, 1) := by decide +kernel
theorem dX8_init_1 : decode cX8_init 1 = .ok (.invokespecial 3, 3) := by decide +kernel
theorem dX8_init_4 : decode cX8_init 4 = .ok (.aload_n 0, 1) := by decide +kernel
theorem dX8_init_5 : decode cX8_init 5 = .ok (.bipush 60, 2) := by decide +kernel
theorem dX8_init_7 : decode cX8_init 7 = .ok (.newarray .char, 2) := by decide +kernel
theorem dX8_init_9 : decode cX8_init 9 = .ok (.putfield 11, 3) := by decide +kernel
theorem dX8_init_12 : decode cX8_init 12 = .ok (.aload_n 0, 1) := by decide +kernel
theorem dX8_init_13 : decode cX8_init 13 = .ok (.bipush 15, 2) := by decide +kernel
theorem dX8_init_15 : decode cX8_init 15 = .ok (.newarray .int, 2) := by decide +kernel
theorem dX8_init_17 : decode cX8_init 17 = .ok (.putfield 15, 3) := by decide +kernel
theorem dX8_init_20 : decode cX8_init 20 = .ok (.return_, 1) := by decide +kernel
theorem dX8_fault_0 : decode cX8_fault 0 = .ok (.iconst 0, 1) := by decide +kernel
theorem dX8_fault_1 : decode cX8_fault 1 = .ok (.istore_n 1, 1) := by decide +kernel
theorem dX8_fault_2 : decode cX8_fault 2 = .ok (.iconst 0, 1) := by decide +kernel
theorem dX8_fault_3 : decode cX8_fault 3 = .ok (.istore_n 2, 1) := by decide +kernel
theorem dX8_fault_4 : decode cX8_fault 4 = .ok (.iload_n 2, 1) := by decide +kernel
theorem dX8_fault_5 : decode cX8_fault 5 = .ok (.aload_n 0, 1) := by decide +kernel
theorem dX8_fault_6 : decode cX8_fault 6 = .ok (.getfield 19, 3) := by decide +kernel
theorem dX8_fault_9 : decode cX8_fault 9 = .ok (.if_icmp .ge 28, 3) := by decide +kernel
theorem dX8_fault_12 : decode cX8_fault 12 = .ok (.iload_n 1, 1) := by decide +kernel
theorem dX8_fault_13 : decode cX8_fault 13 = .ok (.aload_n 0, 1) := by decide +kernel
theorem dX8_fault_14 : decode cX8_fault 14 = .ok (.getfield 11, 3) := by decide +kernel
theorem dX8_fault_17 : decode cX8_fault 17 = .ok (.iload_n 2, 1) := by decide +kernel
theorem dX8_fault_18 : decode cX8_fault 18 = .ok (.caload, 1) := by decide +kernel
theorem dX8_fault_19 : decode cX8_fault 19 = .ok (.invokestatic 23, 3) := by decide +kernel
theorem dX8_fault_22 : decode cX8_fault 22 = .ok (.istore_n 1, 1) := by decide +kernel
theorem dX8_fault_23 : decode cX8_fault 23 = .ok (.iload_n 1, 1) := by decide +kernel
theorem dX8_fault_24 : decode cX8_fault 24 = .ok (.bipush (-5), 2) := by decide +kernel
theorem dX8_fault_26 : decode cX8_fault 26 = .ok (.if_icmp .ne 5, 3) := by decide +kernel
theorem dX8_fault_29 : decode cX8_fault 29 = .ok (.iload_n 2, 1) := by decide +kernel
theorem dX8_fault_30 : decode cX8_fault 30 = .ok (.ireturn, 1) := by decide +kernel
theorem dX8_fault_31 : decode cX8_fault 31 = .ok (.iinc 2 1, 3) := by decide +kernel
theorem dX8_fault_34 : decode cX8_fault 34 = .ok (.goto (-30), 3) := by decide +kernel
theorem dX8_fault_37 : decode cX8_fault 37 = .ok (.iload_n 1, 1) := by decide +kernel
theorem dX8_fault_38 : decode cX8_fault 38 = .ok (.iconst 4, 1) := by decide +kernel
theorem dX8_fault_39 : decode cX8_fault 39 = .ok (.if_icmp .ne 8, 3) := by decide +kernel
theorem dX8_fault_42 : decode cX8_fault 42 = .ok (.bipush (-5), 2) := by decide +kernel
theorem dX8_fault_44 : decode cX8_fault 44 = .ok (.goto 7, 3) := by decide +kernel
theorem dX8_fault_47 : decode cX8_fault 47 = .ok (.aload_n 0, 1) := by decide +kernel
theorem dX8_fault_48 : decode cX8_fault 48 = .ok (.getfield 19, 3) := by decide +kernel
theorem dX8_fault_51 : decode cX8_fault 51 = .ok (.ireturn, 1) := by decide +kernel
theorem dX8_placeBehind_0 : decode cX8_placeBehind 0 = .ok (.iload_n 0, 1) := by decide +kernel
theorem dX8_placeBehind_1 : decode cX8_placeBehind 1 = .ok (.tableswitch 94 0 3 #[31, 53, 67, 80], 31) := by decide +kernel
theorem dX8_placeBehind_32 : decode cX8_placeBehind 32 = .ok (.iload_n 1, 1) := by decide +kernel
theorem dX8_placeBehind_33 : decode cX8_placeBehind 33 = .ok (.bipush 45, 2) := by decide +kernel
theorem dX8_placeBehind_35 : decode cX8_placeBehind 35 = .ok (.if_icmp .ne 5, 3) := by decide +kernel
theorem dX8_placeBehind_38 : decode cX8_placeBehind 38 = .ok (.iconst 1, 1) := by decide +kernel
theorem dX8_placeBehind_39 : decode cX8_placeBehind 39 = .ok (.ireturn, 1) := by decide +kernel
theorem dX8_placeBehind_40 : decode cX8_placeBehind 40 = .ok (.iload_n 1, 1) := by decide +kernel
theorem dX8_placeBehind_41 : decode cX8_placeBehind 41 = .ok (.invokestatic 27, 3) := by decide +kernel
theorem dX8_placeBehind_44 : decode cX8_placeBehind 44 = .ok (.ifCond .eq 7, 3) := by decide +kernel
theorem dX8_placeBehind_47 : decode cX8_placeBehind 47 = .ok (.iconst 2, 1) := by decide +kernel
theorem dX8_placeBehind_48 : decode cX8_placeBehind 48 = .ok (.goto 5, 3) := by decide +kernel
theorem dX8_placeBehind_51 : decode cX8_placeBehind 51 = .ok (.bipush (-5), 2) := by decide +kernel
theorem dX8_placeBehind_53 : decode cX8_placeBehind 53 = .ok (.ireturn, 1) := by decide +kernel
theorem dX8_placeBehind_54 : decode cX8_placeBehind 54 = .ok (.iload_n 1, 1) := by decide +kernel
theorem dX8_placeBehind_55 : decode cX8_placeBehind 55 = .ok (.invokestatic 27, 3) := by decide +kernel
theorem dX8_placeBehind_58 : decode cX8_placeBehind 58 = .ok (.ifCond .eq 7, 3) := by decide +kernel
theorem dX8_placeBehind_61 : decode cX8_placeBehind 61 = .ok (.iconst 2, 1) := by decide +kernel
theorem dX8_placeBehind_62 : decode cX8_placeBehind 62 = .ok (.goto 5, 3) := by decide +kernel
theorem dX8_placeBehind_65 : decode cX8_placeBehind 65 = .ok (.bipush (-5), 2) := by decide +kernel
theorem dX8_placeBehind_67 : decode cX8_placeBehind 67 = .ok (.ireturn, 1) := by decide +kernel
theorem dX8_placeBehind_68 : decode cX8_placeBehind 68 = .ok (.iload_n 1, 1) := by decide +kernel
theorem dX8_placeBehind_69 : decode cX8_placeBehind 69 = .ok (.bipush 46, 2) := by decide +kernel
theorem dX8_placeBehind_71 : decode cX8_placeBehind 71 = .ok (.if_icmp .ne 7, 3) := by decide +kernel
theorem dX8_placeBehind_74 : decode cX8_placeBehind 74 = .ok (.iconst 3, 1) := by decide +kernel
theorem dX8_placeBehind_75 : decode cX8_placeBehind 75 = .ok (.goto 5, 3) := by decide +kernel
theorem dX8_placeBehind_78 : decode cX8_placeBehind 78 = .ok (.bipush (-5), 2) := by decide +kernel
theorem dX8_placeBehind_80 : decode cX8_placeBehind 80 = .ok (.ireturn, 1) := by decide +kernel
theorem dX8_placeBehind_81 : decode cX8_placeBehind 81 = .ok (.iload_n 1, 1) := by decide +kernel
theorem dX8_placeBehind_82 : decode cX8_placeBehind 82 = .ok (.invokestatic 27, 3) := by decide +kernel
theorem dX8_placeBehind_85 : decode cX8_placeBehind 85 = .ok (.ifCond .eq 7, 3) := by decide +kernel
theorem dX8_placeBehind_88 : decode cX8_placeBehind 88 = .ok (.iconst 4, 1) := by decide +kernel
theorem dX8_placeBehind_89 : decode cX8_placeBehind 89 = .ok (.goto 5, 3) := by decide +kernel
theorem dX8_placeBehind_92 : decode cX8_placeBehind 92 = .ok (.bipush (-5), 2) := by decide +kernel
theorem dX8_placeBehind_94 : decode cX8_placeBehind 94 = .ok (.ireturn, 1) := by decide +kernel
theorem dX8_placeBehind_95 : decode cX8_placeBehind 95 = .ok (.iload_n 1, 1) := by decide +kernel
theorem dX8_placeBehind_96 : decode cX8_placeBehind 96 = .ok (.bipush 44, 2) := by decide +kernel
theorem dX8_placeBehind_98 : decode cX8_placeBehind 98 = .ok (.if_icmp .ne 7, 3) := by decide +kernel
theorem dX8_placeBehind_101 : decode cX8_placeBehind 101 = .ok (.iconst 0, 1) := by decide +kernel
theorem dX8_placeBehind_102 : decode cX8_placeBehind 102 = .ok (.goto 5, 3) := by decide +kernel
theorem dX8_placeBehind_105 : decode cX8_placeBehind 105 = .ok (.bipush (-5), 2) := by decide +kernel
theorem dX8_placeBehind_107 : decode cX8_placeBehind 107 = .ok (.ireturn, 1) := by decide +kernel
theorem dX8_isDigit_0 : decode cX8_isDigit 0 = .ok (.iload_n 0, 1) := by decide +kernel
theorem dX8_isDigit_1 : decode cX8_isDigit 1 = .ok (.bipush 48, 2) := by decide +kernel
theorem dX8_isDigit_3 : decode cX8_isDigit 3 = .ok (.if_icmp .lt 13, 3) := by decide +kernel
theorem dX8_isDigit_6 : decode cX8_isDigit 6 = .ok (.iload_n 0, 1) := by decide +kernel
theorem dX8_isDigit_7 : decode cX8_isDigit 7 = .ok (.bipush 57, 2) := by decide +kernel
theorem dX8_isDigit_9 : decode cX8_isDigit 9 = .ok (.if_icmp .gt 7, 3) := by decide +kernel
theorem dX8_isDigit_12 : decode cX8_isDigit 12 = .ok (.iconst 1, 1) := by decide +kernel
theorem dX8_isDigit_13 : decode cX8_isDigit 13 = .ok (.goto 4, 3) := by decide +kernel
theorem dX8_isDigit_16 : decode cX8_isDigit 16 = .ok (.iconst 0, 1) := by decide +kernel
theorem dX8_isDigit_17 : decode cX8_isDigit 17 = .ok (.ireturn, 1) := by decide +kernel
theorem dX8_readTenths_0 : decode cX8_readTenths 0 = .ok (.aload_n 0, 1) := by decide +kernel
theorem dX8_readTenths_1 : decode cX8_readTenths 1 = .ok (.iconst 0, 1) := by decide +kernel
theorem dX8_readTenths_2 : decode cX8_readTenths 2 = .ok (.putfield 31, 3) := by decide +kernel
theorem dX8_readTenths_5 : decode cX8_readTenths 5 = .ok (.iconst 0, 1) := by decide +kernel
theorem dX8_readTenths_6 : decode cX8_readTenths 6 = .ok (.istore_n 1, 1) := by decide +kernel
theorem dX8_readTenths_7 : decode cX8_readTenths 7 = .ok (.iconst 0, 1) := by decide +kernel
theorem dX8_readTenths_8 : decode cX8_readTenths 8 = .ok (.istore_n 2, 1) := by decide +kernel
theorem dX8_readTenths_9 : decode cX8_readTenths 9 = .ok (.iconst 0, 1) := by decide +kernel
theorem dX8_readTenths_10 : decode cX8_readTenths 10 = .ok (.istore_n 3, 1) := by decide +kernel
theorem dX8_readTenths_11 : decode cX8_readTenths 11 = .ok (.iload_n 3, 1) := by decide +kernel
theorem dX8_readTenths_12 : decode cX8_readTenths 12 = .ok (.aload_n 0, 1) := by decide +kernel
theorem dX8_readTenths_13 : decode cX8_readTenths 13 = .ok (.getfield 19, 3) := by decide +kernel
theorem dX8_readTenths_16 : decode cX8_readTenths 16 = .ok (.if_icmp .ge 76, 3) := by decide +kernel
theorem dX8_readTenths_19 : decode cX8_readTenths 19 = .ok (.aload_n 0, 1) := by decide +kernel
theorem dX8_readTenths_20 : decode cX8_readTenths 20 = .ok (.getfield 11, 3) := by decide +kernel
theorem dX8_readTenths_23 : decode cX8_readTenths 23 = .ok (.iload_n 3, 1) := by decide +kernel
theorem dX8_readTenths_24 : decode cX8_readTenths 24 = .ok (.caload, 1) := by decide +kernel
theorem dX8_readTenths_25 : decode cX8_readTenths 25 = .ok (.istore 4, 2) := by decide +kernel
theorem dX8_readTenths_27 : decode cX8_readTenths 27 = .ok (.iload 4, 2) := by decide +kernel
theorem dX8_readTenths_29 : decode cX8_readTenths 29 = .ok (.bipush 45, 2) := by decide +kernel
theorem dX8_readTenths_31 : decode cX8_readTenths 31 = .ok (.if_icmp .ne 8, 3) := by decide +kernel
theorem dX8_readTenths_34 : decode cX8_readTenths 34 = .ok (.iconst 1, 1) := by decide +kernel
theorem dX8_readTenths_35 : decode cX8_readTenths 35 = .ok (.istore_n 2, 1) := by decide +kernel
theorem dX8_readTenths_36 : decode cX8_readTenths 36 = .ok (.goto 50, 3) := by decide +kernel
theorem dX8_readTenths_39 : decode cX8_readTenths 39 = .ok (.iload 4, 2) := by decide +kernel
theorem dX8_readTenths_41 : decode cX8_readTenths 41 = .ok (.invokestatic 27, 3) := by decide +kernel
theorem dX8_readTenths_44 : decode cX8_readTenths 44 = .ok (.ifCond .eq 17, 3) := by decide +kernel
theorem dX8_readTenths_47 : decode cX8_readTenths 47 = .ok (.iload_n 1, 1) := by decide +kernel
theorem dX8_readTenths_48 : decode cX8_readTenths 48 = .ok (.bipush 10, 2) := by decide +kernel
theorem dX8_readTenths_50 : decode cX8_readTenths 50 = .ok (.imul, 1) := by decide +kernel
theorem dX8_readTenths_51 : decode cX8_readTenths 51 = .ok (.iload 4, 2) := by decide +kernel
theorem dX8_readTenths_53 : decode cX8_readTenths 53 = .ok (.bipush 48, 2) := by decide +kernel
theorem dX8_readTenths_55 : decode cX8_readTenths 55 = .ok (.isub, 1) := by decide +kernel
theorem dX8_readTenths_56 : decode cX8_readTenths 56 = .ok (.iadd, 1) := by decide +kernel
theorem dX8_readTenths_57 : decode cX8_readTenths 57 = .ok (.istore_n 1, 1) := by decide +kernel
theorem dX8_readTenths_58 : decode cX8_readTenths 58 = .ok (.goto 28, 3) := by decide +kernel
theorem dX8_readTenths_61 : decode cX8_readTenths 61 = .ok (.iload 4, 2) := by decide +kernel
theorem dX8_readTenths_63 : decode cX8_readTenths 63 = .ok (.bipush 44, 2) := by decide +kernel
theorem dX8_readTenths_65 : decode cX8_readTenths 65 = .ok (.if_icmp .ne 21, 3) := by decide +kernel
theorem dX8_readTenths_68 : decode cX8_readTenths 68 = .ok (.aload_n 0, 1) := by decide +kernel
theorem dX8_readTenths_69 : decode cX8_readTenths 69 = .ok (.iload_n 2, 1) := by decide +kernel
theorem dX8_readTenths_70 : decode cX8_readTenths 70 = .ok (.ifCond .eq 8, 3) := by decide +kernel
theorem dX8_readTenths_73 : decode cX8_readTenths 73 = .ok (.iload_n 1, 1) := by decide +kernel
theorem dX8_readTenths_74 : decode cX8_readTenths 74 = .ok (.ineg, 1) := by decide +kernel
theorem dX8_readTenths_75 : decode cX8_readTenths 75 = .ok (.goto 4, 3) := by decide +kernel
theorem dX8_readTenths_78 : decode cX8_readTenths 78 = .ok (.iload_n 1, 1) := by decide +kernel
theorem dX8_readTenths_79 : decode cX8_readTenths 79 = .ok (.invokevirtual 34, 3) := by decide +kernel
theorem dX8_readTenths_82 : decode cX8_readTenths 82 = .ok (.iconst 0, 1) := by decide +kernel
theorem dX8_readTenths_83 : decode cX8_readTenths 83 = .ok (.istore_n 1, 1) := by decide +kernel
theorem dX8_readTenths_84 : decode cX8_readTenths 84 = .ok (.iconst 0, 1) := by decide +kernel
theorem dX8_readTenths_85 : decode cX8_readTenths 85 = .ok (.istore_n 2, 1) := by decide +kernel
theorem dX8_readTenths_86 : decode cX8_readTenths 86 = .ok (.iinc 3 1, 3) := by decide +kernel
theorem dX8_readTenths_89 : decode cX8_readTenths 89 = .ok (.goto (-78), 3) := by decide +kernel
theorem dX8_readTenths_92 : decode cX8_readTenths 92 = .ok (.aload_n 0, 1) := by decide +kernel
theorem dX8_readTenths_93 : decode cX8_readTenths 93 = .ok (.iload_n 2, 1) := by decide +kernel
theorem dX8_readTenths_94 : decode cX8_readTenths 94 = .ok (.ifCond .eq 8, 3) := by decide +kernel
theorem dX8_readTenths_97 : decode cX8_readTenths 97 = .ok (.iload_n 1, 1) := by decide +kernel
theorem dX8_readTenths_98 : decode cX8_readTenths 98 = .ok (.ineg, 1) := by decide +kernel
theorem dX8_readTenths_99 : decode cX8_readTenths 99 = .ok (.goto 4, 3) := by decide +kernel
theorem dX8_readTenths_102 : decode cX8_readTenths 102 = .ok (.iload_n 1, 1) := by decide +kernel
theorem dX8_readTenths_103 : decode cX8_readTenths 103 = .ok (.invokevirtual 34, 3) := by decide +kernel
theorem dX8_readTenths_106 : decode cX8_readTenths 106 = .ok (.aload_n 0, 1) := by decide +kernel
theorem dX8_readTenths_107 : decode cX8_readTenths 107 = .ok (.getfield 31, 3) := by decide +kernel
theorem dX8_readTenths_110 : decode cX8_readTenths 110 = .ok (.ireturn, 1) := by decide +kernel
theorem dX8_addLevel_0 : decode cX8_addLevel 0 = .ok (.aload_n 0, 1) := by decide +kernel
theorem dX8_addLevel_1 : decode cX8_addLevel 1 = .ok (.getfield 31, 3) := by decide +kernel
theorem dX8_addLevel_4 : decode cX8_addLevel 4 = .ok (.bipush 15, 2) := by decide +kernel
theorem dX8_addLevel_6 : decode cX8_addLevel 6 = .ok (.if_icmp .ge 23, 3) := by decide +kernel
theorem dX8_addLevel_9 : decode cX8_addLevel 9 = .ok (.aload_n 0, 1) := by decide +kernel
theorem dX8_addLevel_10 : decode cX8_addLevel 10 = .ok (.getfield 15, 3) := by decide +kernel
theorem dX8_addLevel_13 : decode cX8_addLevel 13 = .ok (.aload_n 0, 1) := by decide +kernel
theorem dX8_addLevel_14 : decode cX8_addLevel 14 = .ok (.getfield 31, 3) := by decide +kernel
theorem dX8_addLevel_17 : decode cX8_addLevel 17 = .ok (.iload_n 1, 1) := by decide +kernel
theorem dX8_addLevel_18 : decode cX8_addLevel 18 = .ok (.iastore, 1) := by decide +kernel
theorem dX8_addLevel_19 : decode cX8_addLevel 19 = .ok (.aload_n 0, 1) := by decide +kernel
theorem dX8_addLevel_20 : decode cX8_addLevel 20 = .ok (.dup, 1) := by decide +kernel
theorem dX8_addLevel_21 : decode cX8_addLevel 21 = .ok (.getfield 31, 3) := by decide +kernel
theorem dX8_addLevel_24 : decode cX8_addLevel 24 = .ok (.iconst 1, 1) := by decide +kernel
theorem dX8_addLevel_25 : decode cX8_addLevel 25 = .ok (.iadd, 1) := by decide +kernel
theorem dX8_addLevel_26 : decode cX8_addLevel 26 = .ok (.putfield 31, 3) := by decide +kernel
theorem dX8_addLevel_29 : decode cX8_addLevel 29 = .ok (.return_, 1) := by decide +kernel
theorem dX8_lowestTenths_0 : decode cX8_lowestTenths 0 = .ok (.iconst 0, 1) := by decide +kernel
theorem dX8_lowestTenths_1 : decode cX8_lowestTenths 1 = .ok (.istore_n 1, 1) := by decide +kernel
theorem dX8_lowestTenths_2 : decode cX8_lowestTenths 2 = .ok (.iconst 0, 1) := by decide +kernel
theorem dX8_lowestTenths_3 : decode cX8_lowestTenths 3 = .ok (.istore_n 2, 1) := by decide +kernel
theorem dX8_lowestTenths_4 : decode cX8_lowestTenths 4 = .ok (.iload_n 2, 1) := by decide +kernel
theorem dX8_lowestTenths_5 : decode cX8_lowestTenths 5 = .ok (.aload_n 0, 1) := by decide +kernel
theorem dX8_lowestTenths_6 : decode cX8_lowestTenths 6 = .ok (.getfield 31, 3) := by decide +kernel
theorem dX8_lowestTenths_9 : decode cX8_lowestTenths 9 = .ok (.if_icmp .ge 20, 3) := by decide +kernel
theorem dX8_lowestTenths_12 : decode cX8_lowestTenths 12 = .ok (.iload_n 1, 1) := by decide +kernel
theorem dX8_lowestTenths_13 : decode cX8_lowestTenths 13 = .ok (.aload_n 0, 1) := by decide +kernel
theorem dX8_lowestTenths_14 : decode cX8_lowestTenths 14 = .ok (.getfield 15, 3) := by decide +kernel
theorem dX8_lowestTenths_17 : decode cX8_lowestTenths 17 = .ok (.iload_n 2, 1) := by decide +kernel
theorem dX8_lowestTenths_18 : decode cX8_lowestTenths 18 = .ok (.iaload, 1) := by decide +kernel
theorem dX8_lowestTenths_19 : decode cX8_lowestTenths 19 = .ok (.invokestatic 38, 3) := by decide +kernel
theorem dX8_lowestTenths_22 : decode cX8_lowestTenths 22 = .ok (.istore_n 1, 1) := by decide +kernel
theorem dX8_lowestTenths_23 : decode cX8_lowestTenths 23 = .ok (.iinc 2 1, 3) := by decide +kernel
theorem dX8_lowestTenths_26 : decode cX8_lowestTenths 26 = .ok (.goto (-22), 3) := by decide +kernel
theorem dX8_lowestTenths_29 : decode cX8_lowestTenths 29 = .ok (.iload_n 1, 1) := by decide +kernel
theorem dX8_lowestTenths_30 : decode cX8_lowestTenths 30 = .ok (.ireturn, 1) := by decide +kernel
theorem dX9_init_0 : decode cX9_init 0 = .ok (.aload_n 0, 1) := by decide +kernel
theorem dX9_init_1 : decode cX9_init 1 = .ok (.invokespecial 1, 3) := by decide +kernel
theorem dX9_init_4 : decode cX9_init 4 = .ok (.aload_n 0, 1) := by decide +kernel
theorem dX9_init_5 : decode cX9_init 5 = .ok (.new 7, 3) := by decide +kernel
theorem dX9_init_8 : decode cX9_init 8 = .ok (.dup, 1) := by decide +kernel
theorem dX9_init_9 : decode cX9_init 9 = .ok (.invokespecial 9, 3) := by decide +kernel
theorem dX9_init_12 : decode cX9_init 12 = .ok (.putfield 10, 3) := by decide +kernel
theorem dX9_init_15 : decode cX9_init 15 = .ok (.aload_n 0, 1) := by decide +kernel
theorem dX9_init_16 : decode cX9_init 16 = .ok (.new 7, 3) := by decide +kernel
theorem dX9_init_19 : decode cX9_init 19 = .ok (.dup, 1) := by decide +kernel
theorem dX9_init_20 : decode cX9_init 20 = .ok (.invokespecial 9, 3) := by decide +kernel
theorem dX9_init_23 : decode cX9_init 23 = .ok (.putfield 16, 3) := by decide +kernel
theorem dX9_init_26 : decode cX9_init 26 = .ok (.aload_n 0, 1) := by decide +kernel
theorem dX9_init_27 : decode cX9_init 27 = .ok (.new 19, 3) := by decide +kernel
theorem dX9_init_30 : decode cX9_init 30 = .ok (.dup, 1) := by decide +kernel
theorem dX9_init_31 : decode cX9_init 31 = .ok (.invokespecial 21, 3) := by decide +kernel
theorem dX9_init_34 : decode cX9_init 34 = .ok (.putfield 22, 3) := by decide +kernel
theorem dX9_init_37 : decode cX9_init 37 = .ok (.aload_n 0, 1) := by decide +kernel
theorem dX9_init_38 : decode cX9_init 38 = .ok (.new 26, 3) := by decide +kernel
theorem dX9_init_41 : decode cX9_init 41 = .ok (.dup, 1) := by decide +kernel
theorem dX9_init_42 : decode cX9_init 42 = .ok (.invokespecial 28, 3) := by decide +kernel
theorem dX9_init_45 : decode cX9_init 45 = .ok (.putfield 29, 3) := by decide +kernel
theorem dX9_init_48 : decode cX9_init 48 = .ok (.return_, 1) := by decide +kernel
theorem dX9_addSection_0 : decode cX9_addSection 0 = .ok (.iload_n 1, 1) := by decide +kernel
theorem dX9_addSection_1 : decode cX9_addSection 1 = .ok (.iconst 1, 1) := by decide +kernel
theorem dX9_addSection_2 : decode cX9_addSection 2 = .ok (.bipush 50, 2) := by decide +kernel
theorem dX9_addSection_4 : decode cX9_addSection 4 = .ok (.invokestatic 33, 3) := by decide +kernel
theorem dX9_addSection_7 : decode cX9_addSection 7 = .ok (.ifCond .ne 32, 3) := by decide +kernel
theorem dX9_addSection_10 : decode cX9_addSection 10 = .ok (.lload_n 2, 1) := by decide +kernel
theorem dX9_addSection_11 : decode cX9_addSection 11 = .ok (.invokestatic 37, 3) := by decide +kernel
theorem dX9_addSection_14 : decode cX9_addSection 14 = .ok (.ifCond .eq 25, 3) := by decide +kernel
theorem dX9_addSection_17 : decode cX9_addSection 17 = .ok (.iload 4, 2) := by decide +kernel
theorem dX9_addSection_19 : decode cX9_addSection 19 = .ok (.iconst 1, 1) := by decide +kernel
theorem dX9_addSection_20 : decode cX9_addSection 20 = .ok (.bipush 6, 2) := by decide +kernel
theorem dX9_addSection_22 : decode cX9_addSection 22 = .ok (.invokestatic 33, 3) := by decide +kernel
theorem dX9_addSection_25 : decode cX9_addSection 25 = .ok (.ifCond .ne 14, 3) := by decide +kernel
theorem dX9_addSection_28 : decode cX9_addSection 28 = .ok (.iload 5, 2) := by decide +kernel
theorem dX9_addSection_30 : decode cX9_addSection 30 = .ok (.iconst 1, 1) := by decide +kernel
theorem dX9_addSection_31 : decode cX9_addSection 31 = .ok (.bipush 20, 2) := by decide +kernel
theorem dX9_addSection_33 : decode cX9_addSection 33 = .ok (.invokestatic 33, 3) := by decide +kernel
theorem dX9_addSection_36 : decode cX9_addSection 36 = .ok (.ifCond .eq 6, 3) := by decide +kernel
theorem dX9_addSection_39 : decode cX9_addSection 39 = .ok (.bipush (-2), 2) := by decide +kernel
theorem dX9_addSection_41 : decode cX9_addSection 41 = .ok (.ireturn, 1) := by decide +kernel
theorem dX9_addSection_42 : decode cX9_addSection 42 = .ok (.aload_n 0, 1) := by decide +kernel
theorem dX9_addSection_43 : decode cX9_addSection 43 = .ok (.getfield 10, 3) := by decide +kernel
theorem dX9_addSection_46 : decode cX9_addSection 46 = .ok (.getfield 43, 3) := by decide +kernel
theorem dX9_addSection_49 : decode cX9_addSection 49 = .ok (.invokevirtual 47, 3) := by decide +kernel
theorem dX9_addSection_52 : decode cX9_addSection 52 = .ok (.ifCond .eq 6, 3) := by decide +kernel
theorem dX9_addSection_55 : decode cX9_addSection 55 = .ok (.bipush (-3), 2) := by decide +kernel
theorem dX9_addSection_57 : decode cX9_addSection 57 = .ok (.ireturn, 1) := by decide +kernel
theorem dX9_addSection_58 : decode cX9_addSection 58 = .ok (.aload_n 0, 1) := by decide +kernel
theorem dX9_addSection_59 : decode cX9_addSection 59 = .ok (.getfield 22, 3) := by decide +kernel
theorem dX9_addSection_62 : decode cX9_addSection 62 = .ok (.aload_n 0, 1) := by decide +kernel
theorem dX9_addSection_63 : decode cX9_addSection 63 = .ok (.getfield 10, 3) := by decide +kernel
theorem dX9_addSection_66 : decode cX9_addSection 66 = .ok (.invokevirtual 53, 3) := by decide +kernel
theorem dX9_addSection_69 : decode cX9_addSection 69 = .ok (.aload_n 0, 1) := by decide +kernel
theorem dX9_addSection_70 : decode cX9_addSection 70 = .ok (.getfield 10, 3) := by decide +kernel
theorem dX9_addSection_73 : decode cX9_addSection 73 = .ok (.getfield 43, 3) := by decide +kernel
theorem dX9_addSection_76 : decode cX9_addSection 76 = .ok (.iload_n 1, 1) := by decide +kernel
theorem dX9_addSection_77 : decode cX9_addSection 77 = .ok (.lload_n 2, 1) := by decide +kernel
theorem dX9_addSection_78 : decode cX9_addSection 78 = .ok (.invokestatic 57, 3) := by decide +kernel
theorem dX9_addSection_81 : decode cX9_addSection 81 = .ok (.iload 4, 2) := by decide +kernel
theorem dX9_addSection_83 : decode cX9_addSection 83 = .ok (.iload 5, 2) := by decide +kernel
theorem dX9_addSection_85 : decode cX9_addSection 85 = .ok (.invokevirtual 61, 3) := by decide +kernel
theorem dX9_addSection_88 : decode cX9_addSection 88 = .ok (.ireturn, 1) := by decide +kernel
theorem dX9_addDistrict_0 : decode cX9_addDistrict 0 = .ok (.iload_n 1, 1) := by decide +kernel
theorem dX9_addDistrict_1 : decode cX9_addDistrict 1 = .ok (.iconst 1, 1) := by decide +kernel
theorem dX9_addDistrict_2 : decode cX9_addDistrict 2 = .ok (.bipush 99, 2) := by decide +kernel
theorem dX9_addDistrict_4 : decode cX9_addDistrict 4 = .ok (.invokestatic 33, 3) := by decide +kernel
theorem dX9_addDistrict_7 : decode cX9_addDistrict 7 = .ok (.ifCond .eq 6, 3) := by decide +kernel
theorem dX9_addDistrict_10 : decode cX9_addDistrict 10 = .ok (.bipush (-2), 2) := by decide +kernel
theorem dX9_addDistrict_12 : decode cX9_addDistrict 12 = .ok (.ireturn, 1) := by decide +kernel
theorem dX9_addDistrict_13 : decode cX9_addDistrict 13 = .ok (.aload_n 0, 1) := by decide +kernel
theorem dX9_addDistrict_14 : decode cX9_addDistrict 14 = .ok (.getfield 10, 3) := by decide +kernel
theorem dX9_addDistrict_17 : decode cX9_addDistrict 17 = .ok (.getfield 65, 3) := by decide +kernel
theorem dX9_addDistrict_20 : decode cX9_addDistrict 20 = .ok (.invokevirtual 69, 3) := by decide +kernel
theorem dX9_addDistrict_23 : decode cX9_addDistrict 23 = .ok (.ifCond .eq 6, 3) := by decide +kernel
theorem dX9_addDistrict_26 : decode cX9_addDistrict 26 = .ok (.bipush (-3), 2) := by decide +kernel
theorem dX9_addDistrict_28 : decode cX9_addDistrict 28 = .ok (.ireturn, 1) := by decide +kernel
theorem dX9_addDistrict_29 : decode cX9_addDistrict 29 = .ok (.aload_n 0, 1) := by decide +kernel
theorem dX9_addDistrict_30 : decode cX9_addDistrict 30 = .ok (.getfield 22, 3) := by decide +kernel
theorem dX9_addDistrict_33 : decode cX9_addDistrict 33 = .ok (.aload_n 0, 1) := by decide +kernel
theorem dX9_addDistrict_34 : decode cX9_addDistrict 34 = .ok (.getfield 10, 3) := by decide +kernel
theorem dX9_addDistrict_37 : decode cX9_addDistrict 37 = .ok (.invokevirtual 53, 3) := by decide +kernel
theorem dX9_addDistrict_40 : decode cX9_addDistrict 40 = .ok (.aload_n 0, 1) := by decide +kernel
theorem dX9_addDistrict_41 : decode cX9_addDistrict 41 = .ok (.getfield 10, 3) := by decide +kernel
theorem dX9_addDistrict_44 : decode cX9_addDistrict 44 = .ok (.getfield 65, 3) := by decide +kernel
theorem dX9_addDistrict_47 : decode cX9_addDistrict 47 = .ok (.iload_n 1, 1) := by decide +kernel
theorem dX9_addDistrict_48 : decode cX9_addDistrict 48 = .ok (.invokevirtual 72, 3) := by decide +kernel
theorem dX9_addDistrict_51 : decode cX9_addDistrict 51 = .ok (.ireturn, 1) := by decide +kernel
theorem dX9_addStream_0 : decode cX9_addStream 0 = .ok (.iload_n 1, 1) := by decide +kernel
theorem dX9_addStream_1 : decode cX9_addStream 1 = .ok (.iconst 0, 1) := by decide +kernel
theorem dX9_addStream_2 : decode cX9_addStream 2 = .ok (.ldc 75, 2) := by decide +kernel
theorem dX9_addStream_4 : decode cX9_addStream 4 = .ok (.invokestatic 33, 3) := by decide +kernel
theorem dX9_addStream_7 : decode cX9_addStream 7 = .ok (.ifCond .eq 6, 3) := by decide +kernel
theorem dX9_addStream_10 : decode cX9_addStream 10 = .ok (.bipush (-2), 2) := by decide +kernel
theorem dX9_addStream_12 : decode cX9_addStream 12 = .ok (.ireturn, 1) := by decide +kernel
theorem dX9_addStream_13 : decode cX9_addStream 13 = .ok (.aload_n 0, 1) := by decide +kernel
theorem dX9_addStream_14 : decode cX9_addStream 14 = .ok (.getfield 10, 3) := by decide +kernel
theorem dX9_addStream_17 : decode cX9_addStream 17 = .ok (.getfield 76, 3) := by decide +kernel
theorem dX9_addStream_20 : decode cX9_addStream 20 = .ok (.invokevirtual 80, 3) := by decide +kernel
theorem dX9_addStream_23 : decode cX9_addStream 23 = .ok (.ifCond .eq 6, 3) := by decide +kernel
theorem dX9_addStream_26 : decode cX9_addStream 26 = .ok (.bipush (-3), 2) := by decide +kernel
theorem dX9_addStream_28 : decode cX9_addStream 28 = .ok (.ireturn, 1) := by decide +kernel
theorem dX9_addStream_29 : decode cX9_addStream 29 = .ok (.aload_n 0, 1) := by decide +kernel
theorem dX9_addStream_30 : decode cX9_addStream 30 = .ok (.getfield 22, 3) := by decide +kernel
theorem dX9_addStream_33 : decode cX9_addStream 33 = .ok (.aload_n 0, 1) := by decide +kernel
theorem dX9_addStream_34 : decode cX9_addStream 34 = .ok (.getfield 10, 3) := by decide +kernel
theorem dX9_addStream_37 : decode cX9_addStream 37 = .ok (.invokevirtual 53, 3) := by decide +kernel
theorem dX9_addStream_40 : decode cX9_addStream 40 = .ok (.aload_n 0, 1) := by decide +kernel
theorem dX9_addStream_41 : decode cX9_addStream 41 = .ok (.getfield 10, 3) := by decide +kernel
theorem dX9_addStream_44 : decode cX9_addStream 44 = .ok (.getfield 76, 3) := by decide +kernel
theorem dX9_addStream_47 : decode cX9_addStream 47 = .ok (.iload_n 1, 1) := by decide +kernel
theorem dX9_addStream_48 : decode cX9_addStream 48 = .ok (.invokevirtual 83, 3) := by decide +kernel
theorem dX9_addStream_51 : decode cX9_addStream 51 = .ok (.ireturn, 1) := by decide +kernel
theorem dX9_addPump_0 : decode cX9_addPump 0 = .ok (.iload_n 1, 1) := by decide +kernel
theorem dX9_addPump_1 : decode cX9_addPump 1 = .ok (.iconst 1, 1) := by decide +kernel
theorem dX9_addPump_2 : decode cX9_addPump 2 = .ok (.bipush 99, 2) := by decide +kernel
theorem dX9_addPump_4 : decode cX9_addPump 4 = .ok (.invokestatic 33, 3) := by decide +kernel
theorem dX9_addPump_7 : decode cX9_addPump 7 = .ok (.ifCond .ne 13, 3) := by decide +kernel
theorem dX9_addPump_10 : decode cX9_addPump 10 = .ok (.iload_n 2, 1) := by decide +kernel
theorem dX9_addPump_11 : decode cX9_addPump 11 = .ok (.iconst 1, 1) := by decide +kernel
theorem dX9_addPump_12 : decode cX9_addPump 12 = .ok (.ldc 75, 2) := by decide +kernel
theorem dX9_addPump_14 : decode cX9_addPump 14 = .ok (.invokestatic 33, 3) := by decide +kernel
theorem dX9_addPump_17 : decode cX9_addPump 17 = .ok (.ifCond .eq 6, 3) := by decide +kernel
theorem dX9_addPump_20 : decode cX9_addPump 20 = .ok (.bipush (-2), 2) := by decide +kernel
theorem dX9_addPump_22 : decode cX9_addPump 22 = .ok (.ireturn, 1) := by decide +kernel
theorem dX9_addPump_23 : decode cX9_addPump 23 = .ok (.aload_n 0, 1) := by decide +kernel
theorem dX9_addPump_24 : decode cX9_addPump 24 = .ok (.getfield 10, 3) := by decide +kernel
theorem dX9_addPump_27 : decode cX9_addPump 27 = .ok (.getfield 84, 3) := by decide +kernel
theorem dX9_addPump_30 : decode cX9_addPump 30 = .ok (.invokevirtual 88, 3) := by decide +kernel
theorem dX9_addPump_33 : decode cX9_addPump 33 = .ok (.ifCond .eq 6, 3) := by decide +kernel
theorem dX9_addPump_36 : decode cX9_addPump 36 = .ok (.bipush (-3), 2) := by decide +kernel
theorem dX9_addPump_38 : decode cX9_addPump 38 = .ok (.ireturn, 1) := by decide +kernel
theorem dX9_addPump_39 : decode cX9_addPump 39 = .ok (.aload_n 0, 1) := by decide +kernel
theorem dX9_addPump_40 : decode cX9_addPump 40 = .ok (.getfield 22, 3) := by decide +kernel
theorem dX9_addPump_43 : decode cX9_addPump 43 = .ok (.aload_n 0, 1) := by decide +kernel
theorem dX9_addPump_44 : decode cX9_addPump 44 = .ok (.getfield 10, 3) := by decide +kernel
theorem dX9_addPump_47 : decode cX9_addPump 47 = .ok (.invokevirtual 53, 3) := by decide +kernel
theorem dX9_addPump_50 : decode cX9_addPump 50 = .ok (.aload_n 0, 1) := by decide +kernel
theorem dX9_addPump_51 : decode cX9_addPump 51 = .ok (.getfield 10, 3) := by decide +kernel
theorem dX9_addPump_54 : decode cX9_addPump 54 = .ok (.getfield 84, 3) := by decide +kernel
theorem dX9_addPump_57 : decode cX9_addPump 57 = .ok (.iload_n 1, 1) := by decide +kernel
theorem dX9_addPump_58 : decode cX9_addPump 58 = .ok (.iload_n 2, 1) := by decide +kernel
theorem dX9_addPump_59 : decode cX9_addPump 59 = .ok (.invokevirtual 91, 3) := by decide +kernel
theorem dX9_addPump_62 : decode cX9_addPump 62 = .ok (.ireturn, 1) := by decide +kernel
theorem dX9_setStream_0 : decode cX9_setStream 0 = .ok (.aload_n 0, 1) := by decide +kernel
theorem dX9_setStream_1 : decode cX9_setStream 1 = .ok (.getfield 10, 3) := by decide +kernel
theorem dX9_setStream_4 : decode cX9_setStream 4 = .ok (.getfield 76, 3) := by decide +kernel
theorem dX9_setStream_7 : decode cX9_setStream 7 = .ok (.iload_n 1, 1) := by decide +kernel
theorem dX9_setStream_8 : decode cX9_setStream 8 = .ok (.invokevirtual 94, 3) := by decide +kernel
theorem dX9_setStream_11 : decode cX9_setStream 11 = .ok (.ifCond .ne 5, 3) := by decide +kernel
theorem dX9_setStream_14 : decode cX9_setStream 14 = .ok (.iconst (-1), 1) := by decide +kernel
theorem dX9_setStream_15 : decode cX9_setStream 15 = .ok (.ireturn, 1) := by decide +kernel
theorem dX9_setStream_16 : decode cX9_setStream 16 = .ok (.iload_n 2, 1) := by decide +kernel
theorem dX9_setStream_17 : decode cX9_setStream 17 = .ok (.iconst 0, 1) := by decide +kernel
theorem dX9_setStream_18 : decode cX9_setStream 18 = .ok (.ldc 75, 2) := by decide +kernel
theorem dX9_setStream_20 : decode cX9_setStream 20 = .ok (.invokestatic 33, 3) := by decide +kernel
theorem dX9_setStream_23 : decode cX9_setStream 23 = .ok (.ifCond .eq 6, 3) := by decide +kernel
theorem dX9_setStream_26 : decode cX9_setStream 26 = .ok (.bipush (-2), 2) := by decide +kernel
theorem dX9_setStream_28 : decode cX9_setStream 28 = .ok (.ireturn, 1) := by decide +kernel
theorem dX9_setStream_29 : decode cX9_setStream 29 = .ok (.aload_n 0, 1) := by decide +kernel
theorem dX9_setStream_30 : decode cX9_setStream 30 = .ok (.getfield 10, 3) := by decide +kernel
theorem dX9_setStream_33 : decode cX9_setStream 33 = .ok (.getfield 76, 3) := by decide +kernel
theorem dX9_setStream_36 : decode cX9_setStream 36 = .ok (.getfield 98, 3) := by decide +kernel
theorem dX9_setStream_39 : decode cX9_setStream 39 = .ok (.iload_n 1, 1) := by decide +kernel
theorem dX9_setStream_40 : decode cX9_setStream 40 = .ok (.iaload, 1) := by decide +kernel
theorem dX9_setStream_41 : decode cX9_setStream 41 = .ok (.istore_n 3, 1) := by decide +kernel
theorem dX9_setStream_42 : decode cX9_setStream 42 = .ok (.iload_n 3, 1) := by decide +kernel
theorem dX9_setStream_43 : decode cX9_setStream 43 = .ok (.iload_n 2, 1) := by decide +kernel
theorem dX9_setStream_44 : decode cX9_setStream 44 = .ok (.if_icmp .ne 6, 3) := by decide +kernel
theorem dX9_setStream_47 : decode cX9_setStream 47 = .ok (.bipush (-5), 2) := by decide +kernel
theorem dX9_setStream_49 : decode cX9_setStream 49 = .ok (.ireturn, 1) := by decide +kernel
theorem dX9_setStream_50 : decode cX9_setStream 50 = .ok (.aload_n 0, 1) := by decide +kernel
theorem dX9_setStream_51 : decode cX9_setStream 51 = .ok (.getfield 22, 3) := by decide +kernel
theorem dX9_setStream_54 : decode cX9_setStream 54 = .ok (.aload_n 0, 1) := by decide +kernel
theorem dX9_setStream_55 : decode cX9_setStream 55 = .ok (.getfield 10, 3) := by decide +kernel
theorem dX9_setStream_58 : decode cX9_setStream 58 = .ok (.invokevirtual 53, 3) := by decide +kernel
theorem dX9_setStream_61 : decode cX9_setStream 61 = .ok (.aload_n 0, 1) := by decide +kernel
theorem dX9_setStream_62 : decode cX9_setStream 62 = .ok (.getfield 10, 3) := by decide +kernel
theorem dX9_setStream_65 : decode cX9_setStream 65 = .ok (.getfield 76, 3) := by decide +kernel
theorem dX9_setStream_68 : decode cX9_setStream 68 = .ok (.getfield 98, 3) := by decide +kernel
theorem dX9_setStream_71 : decode cX9_setStream 71 = .ok (.iload_n 1, 1) := by decide +kernel
theorem dX9_setStream_72 : decode cX9_setStream 72 = .ok (.iload_n 2, 1) := by decide +kernel
theorem dX9_setStream_73 : decode cX9_setStream 73 = .ok (.iastore, 1) := by decide +kernel
theorem dX9_setStream_74 : decode cX9_setStream 74 = .ok (.iload_n 3, 1) := by decide +kernel
theorem dX9_setStream_75 : decode cX9_setStream 75 = .ok (.ireturn, 1) := by decide +kernel
theorem dX9_switchPump_0 : decode cX9_switchPump 0 = .ok (.aload_n 0, 1) := by decide +kernel
theorem dX9_switchPump_1 : decode cX9_switchPump 1 = .ok (.getfield 10, 3) := by decide +kernel
theorem dX9_switchPump_4 : decode cX9_switchPump 4 = .ok (.getfield 84, 3) := by decide +kernel
theorem dX9_switchPump_7 : decode cX9_switchPump 7 = .ok (.iload_n 1, 1) := by decide +kernel
theorem dX9_switchPump_8 : decode cX9_switchPump 8 = .ok (.invokevirtual 102, 3) := by decide +kernel
theorem dX9_switchPump_11 : decode cX9_switchPump 11 = .ok (.ifCond .ne 5, 3) := by decide +kernel
theorem dX9_switchPump_14 : decode cX9_switchPump 14 = .ok (.iconst (-1), 1) := by decide +kernel
theorem dX9_switchPump_15 : decode cX9_switchPump 15 = .ok (.ireturn, 1) := by decide +kernel
theorem dX9_switchPump_16 : decode cX9_switchPump 16 = .ok (.aload_n 0, 1) := by decide +kernel
theorem dX9_switchPump_17 : decode cX9_switchPump 17 = .ok (.getfield 10, 3) := by decide +kernel
theorem dX9_switchPump_20 : decode cX9_switchPump 20 = .ok (.getfield 84, 3) := by decide +kernel
theorem dX9_switchPump_23 : decode cX9_switchPump 23 = .ok (.getfield 103, 3) := by decide +kernel
theorem dX9_switchPump_26 : decode cX9_switchPump 26 = .ok (.iload_n 1, 1) := by decide +kernel
theorem dX9_switchPump_27 : decode cX9_switchPump 27 = .ok (.baload, 1) := by decide +kernel
theorem dX9_switchPump_28 : decode cX9_switchPump 28 = .ok (.iload_n 2, 1) := by decide +kernel
theorem dX9_switchPump_29 : decode cX9_switchPump 29 = .ok (.if_icmp .ne 6, 3) := by decide +kernel
theorem dX9_switchPump_32 : decode cX9_switchPump 32 = .ok (.bipush (-5), 2) := by decide +kernel
theorem dX9_switchPump_34 : decode cX9_switchPump 34 = .ok (.ireturn, 1) := by decide +kernel
theorem dX9_switchPump_35 : decode cX9_switchPump 35 = .ok (.aload_n 0, 1) := by decide +kernel
theorem dX9_switchPump_36 : decode cX9_switchPump 36 = .ok (.getfield 22, 3) := by decide +kernel
theorem dX9_switchPump_39 : decode cX9_switchPump 39 = .ok (.aload_n 0, 1) := by decide +kernel
theorem dX9_switchPump_40 : decode cX9_switchPump 40 = .ok (.getfield 10, 3) := by decide +kernel
theorem dX9_switchPump_43 : decode cX9_switchPump 43 = .ok (.invokevirtual 53, 3) := by decide +kernel
theorem dX9_switchPump_46 : decode cX9_switchPump 46 = .ok (.aload_n 0, 1) := by decide +kernel
theorem dX9_switchPump_47 : decode cX9_switchPump 47 = .ok (.getfield 10, 3) := by decide +kernel
theorem dX9_switchPump_50 : decode cX9_switchPump 50 = .ok (.getfield 84, 3) := by decide +kernel
theorem dX9_switchPump_53 : decode cX9_switchPump 53 = .ok (.getfield 103, 3) := by decide +kernel
theorem dX9_switchPump_56 : decode cX9_switchPump 56 = .ok (.iload_n 1, 1) := by decide +kernel
theorem dX9_switchPump_57 : decode cX9_switchPump 57 = .ok (.iload_n 2, 1) := by decide +kernel
theorem dX9_switchPump_58 : decode cX9_switchPump 58 = .ok (.bastore, 1) := by decide +kernel
theorem dX9_switchPump_59 : decode cX9_switchPump 59 = .ok (.aload_n 0, 1) := by decide +kernel
theorem dX9_switchPump_60 : decode cX9_switchPump 60 = .ok (.getfield 10, 3) := by decide +kernel
theorem dX9_switchPump_63 : decode cX9_switchPump 63 = .ok (.getfield 84, 3) := by decide +kernel
theorem dX9_switchPump_66 : decode cX9_switchPump 66 = .ok (.invokevirtual 107, 3) := by decide +kernel
theorem dX9_switchPump_69 : decode cX9_switchPump 69 = .ok (.ireturn, 1) := by decide +kernel
theorem dX9_set_0 : decode cX9_set 0 = .ok (.iload_n 1, 1) := by decide +kernel
theorem dX9_set_1 : decode cX9_set 1 = .ok (.lookupswitch 39 #[(0, 27), (1, 33)], 27) := by decide +kernel
theorem dX9_set_28 : decode cX9_set 28 = .ok (.aload_n 0, 1) := by decide +kernel
theorem dX9_set_29 : decode cX9_set 29 = .ok (.iload_n 2, 1) := by decide +kernel
theorem dX9_set_30 : decode cX9_set 30 = .ok (.invokevirtual 111, 3) := by decide +kernel
theorem dX9_set_33 : decode cX9_set 33 = .ok (.ireturn, 1) := by decide +kernel
theorem dX9_set_34 : decode cX9_set 34 = .ok (.aload_n 0, 1) := by decide +kernel
theorem dX9_set_35 : decode cX9_set 35 = .ok (.iload_n 2, 1) := by decide +kernel
theorem dX9_set_36 : decode cX9_set 36 = .ok (.invokevirtual 114, 3) := by decide +kernel
theorem dX9_set_39 : decode cX9_set 39 = .ok (.ireturn, 1) := by decide +kernel
theorem dX9_set_40 : decode cX9_set 40 = .ok (.bipush (-2), 2) := by decide +kernel
theorem dX9_set_42 : decode cX9_set 42 = .ok (.ireturn, 1) := by decide +kernel
theorem dX9_setArea_0 : decode cX9_setArea 0 = .ok (.iload_n 1, 1) := by decide +kernel
theorem dX9_setArea_1 : decode cX9_setArea 1 = .ok (.sipush 1000, 3) := by decide +kernel
theorem dX9_setArea_4 : decode cX9_setArea 4 = .ok (.ldc 117, 2) := by decide +kernel
theorem dX9_setArea_6 : decode cX9_setArea 6 = .ok (.invokestatic 33, 3) := by decide +kernel
theorem dX9_setArea_9 : decode cX9_setArea 9 = .ok (.ifCond .eq 6, 3) := by decide +kernel
theorem dX9_setArea_12 : decode cX9_setArea 12 = .ok (.bipush (-2), 2) := by decide +kernel
theorem dX9_setArea_14 : decode cX9_setArea 14 = .ok (.ireturn, 1) := by decide +kernel
theorem dX9_setArea_15 : decode cX9_setArea 15 = .ok (.aload_n 0, 1) := by decide +kernel
theorem dX9_setArea_16 : decode cX9_setArea 16 = .ok (.getfield 10, 3) := by decide +kernel
theorem dX9_setArea_19 : decode cX9_setArea 19 = .ok (.getfield 118, 3) := by decide +kernel
theorem dX9_setArea_22 : decode cX9_setArea 22 = .ok (.getfield 122, 3) := by decide +kernel
theorem dX9_setArea_25 : decode cX9_setArea 25 = .ok (.istore_n 2, 1) := by decide +kernel
theorem dX9_setArea_26 : decode cX9_setArea 26 = .ok (.iload_n 2, 1) := by decide +kernel
theorem dX9_setArea_27 : decode cX9_setArea 27 = .ok (.iload_n 1, 1) := by decide +kernel
theorem dX9_setArea_28 : decode cX9_setArea 28 = .ok (.if_icmp .ne 6, 3) := by decide +kernel
theorem dX9_setArea_31 : decode cX9_setArea 31 = .ok (.bipush (-5), 2) := by decide +kernel
theorem dX9_setArea_33 : decode cX9_setArea 33 = .ok (.ireturn, 1) := by decide +kernel
theorem dX9_setArea_34 : decode cX9_setArea 34 = .ok (.aload_n 0, 1) := by decide +kernel
theorem dX9_setArea_35 : decode cX9_setArea 35 = .ok (.getfield 22, 3) := by decide +kernel
theorem dX9_setArea_38 : decode cX9_setArea 38 = .ok (.aload_n 0, 1) := by decide +kernel
theorem dX9_setArea_39 : decode cX9_setArea 39 = .ok (.getfield 10, 3) := by decide +kernel
theorem dX9_setArea_42 : decode cX9_setArea 42 = .ok (.invokevirtual 53, 3) := by decide +kernel
theorem dX9_setArea_45 : decode cX9_setArea 45 = .ok (.aload_n 0, 1) := by decide +kernel
theorem dX9_setArea_46 : decode cX9_setArea 46 = .ok (.getfield 10, 3) := by decide +kernel
theorem dX9_setArea_49 : decode cX9_setArea 49 = .ok (.getfield 118, 3) := by decide +kernel
theorem dX9_setArea_52 : decode cX9_setArea 52 = .ok (.iload_n 1, 1) := by decide +kernel
theorem dX9_setArea_53 : decode cX9_setArea 53 = .ok (.putfield 122, 3) := by decide +kernel
theorem dX9_setArea_56 : decode cX9_setArea 56 = .ok (.iload_n 2, 1) := by decide +kernel
theorem dX9_setArea_57 : decode cX9_setArea 57 = .ok (.ireturn, 1) := by decide +kernel
theorem dX9_setLimit_0 : decode cX9_setLimit 0 = .ok (.iload_n 1, 1) := by decide +kernel
theorem dX9_setLimit_1 : decode cX9_setLimit 1 = .ok (.iconst 0, 1) := by decide +kernel
theorem dX9_setLimit_2 : decode cX9_setLimit 2 = .ok (.sipush 600, 3) := by decide +kernel
theorem dX9_setLimit_5 : decode cX9_setLimit 5 = .ok (.invokestatic 33, 3) := by decide +kernel
theorem dX9_setLimit_8 : decode cX9_setLimit 8 = .ok (.ifCond .eq 6, 3) := by decide +kernel
theorem dX9_setLimit_11 : decode cX9_setLimit 11 = .ok (.bipush (-2), 2) := by decide +kernel
theorem dX9_setLimit_13 : decode cX9_setLimit 13 = .ok (.ireturn, 1) := by decide +kernel
theorem dX9_setLimit_14 : decode cX9_setLimit 14 = .ok (.aload_n 0, 1) := by decide +kernel
theorem dX9_setLimit_15 : decode cX9_setLimit 15 = .ok (.getfield 10, 3) := by decide +kernel
theorem dX9_setLimit_18 : decode cX9_setLimit 18 = .ok (.getfield 84, 3) := by decide +kernel
theorem dX9_setLimit_21 : decode cX9_setLimit 21 = .ok (.getfield 128, 3) := by decide +kernel
theorem dX9_setLimit_24 : decode cX9_setLimit 24 = .ok (.istore_n 2, 1) := by decide +kernel
theorem dX9_setLimit_25 : decode cX9_setLimit 25 = .ok (.iload_n 2, 1) := by decide +kernel
theorem dX9_setLimit_26 : decode cX9_setLimit 26 = .ok (.iload_n 1, 1) := by decide +kernel
theorem dX9_setLimit_27 : decode cX9_setLimit 27 = .ok (.if_icmp .ne 6, 3) := by decide +kernel
theorem dX9_setLimit_30 : decode cX9_setLimit 30 = .ok (.bipush (-5), 2) := by decide +kernel
theorem dX9_setLimit_32 : decode cX9_setLimit 32 = .ok (.ireturn, 1) := by decide +kernel
theorem dX9_setLimit_33 : decode cX9_setLimit 33 = .ok (.aload_n 0, 1) := by decide +kernel
theorem dX9_setLimit_34 : decode cX9_setLimit 34 = .ok (.getfield 22, 3) := by decide +kernel
theorem dX9_setLimit_37 : decode cX9_setLimit 37 = .ok (.aload_n 0, 1) := by decide +kernel
theorem dX9_setLimit_38 : decode cX9_setLimit 38 = .ok (.getfield 10, 3) := by decide +kernel
theorem dX9_setLimit_41 : decode cX9_setLimit 41 = .ok (.invokevirtual 53, 3) := by decide +kernel
theorem dX9_setLimit_44 : decode cX9_setLimit 44 = .ok (.aload_n 0, 1) := by decide +kernel
theorem dX9_setLimit_45 : decode cX9_setLimit 45 = .ok (.getfield 10, 3) := by decide +kernel
theorem dX9_setLimit_48 : decode cX9_setLimit 48 = .ok (.getfield 84, 3) := by decide +kernel
theorem dX9_setLimit_51 : decode cX9_setLimit 51 = .ok (.iload_n 1, 1) := by decide +kernel
theorem dX9_setLimit_52 : decode cX9_setLimit 52 = .ok (.putfield 128, 3) := by decide +kernel
theorem dX9_setLimit_55 : decode cX9_setLimit 55 = .ok (.iload_n 2, 1) := by decide +kernel
theorem dX9_setLimit_56 : decode cX9_setLimit 56 = .ok (.ireturn, 1) := by decide +kernel
theorem dX9_setAlarm_0 : decode cX9_setAlarm 0 = .ok (.lload_n 1, 1) := by decide +kernel
theorem dX9_setAlarm_1 : decode cX9_setAlarm 1 = .ok (.invokestatic 131, 3) := by decide +kernel
theorem dX9_setAlarm_4 : decode cX9_setAlarm 4 = .ok (.ifCond .ne 6, 3) := by decide +kernel
theorem dX9_setAlarm_7 : decode cX9_setAlarm 7 = .ok (.bipush (-2), 2) := by decide +kernel
theorem dX9_setAlarm_9 : decode cX9_setAlarm 9 = .ok (.ireturn, 1) := by decide +kernel
theorem dX9_setAlarm_10 : decode cX9_setAlarm 10 = .ok (.lload_n 1, 1) := by decide +kernel
theorem dX9_setAlarm_11 : decode cX9_setAlarm 11 = .ok (.aload_n 0, 1) := by decide +kernel
theorem dX9_setAlarm_12 : decode cX9_setAlarm 12 = .ok (.getfield 10, 3) := by decide +kernel
theorem dX9_setAlarm_15 : decode cX9_setAlarm 15 = .ok (.getfield 134, 3) := by decide +kernel
theorem dX9_setAlarm_18 : decode cX9_setAlarm 18 = .ok (.invokestatic 138, 3) := by decide +kernel
theorem dX9_setAlarm_21 : decode cX9_setAlarm 21 = .ok (.ifCond .eq 6, 3) := by decide +kernel
theorem dX9_setAlarm_24 : decode cX9_setAlarm 24 = .ok (.bipush (-5), 2) := by decide +kernel
theorem dX9_setAlarm_26 : decode cX9_setAlarm 26 = .ok (.ireturn, 1) := by decide +kernel
theorem dX9_setAlarm_27 : decode cX9_setAlarm 27 = .ok (.aload_n 0, 1) := by decide +kernel
theorem dX9_setAlarm_28 : decode cX9_setAlarm 28 = .ok (.getfield 22, 3) := by decide +kernel
theorem dX9_setAlarm_31 : decode cX9_setAlarm 31 = .ok (.aload_n 0, 1) := by decide +kernel
theorem dX9_setAlarm_32 : decode cX9_setAlarm 32 = .ok (.getfield 10, 3) := by decide +kernel
theorem dX9_setAlarm_35 : decode cX9_setAlarm 35 = .ok (.invokevirtual 53, 3) := by decide +kernel
theorem dX9_setAlarm_38 : decode cX9_setAlarm 38 = .ok (.aload_n 0, 1) := by decide +kernel
theorem dX9_setAlarm_39 : decode cX9_setAlarm 39 = .ok (.getfield 10, 3) := by decide +kernel
theorem dX9_setAlarm_42 : decode cX9_setAlarm 42 = .ok (.lload_n 1, 1) := by decide +kernel
theorem dX9_setAlarm_43 : decode cX9_setAlarm 43 = .ok (.putfield 134, 3) := by decide +kernel
theorem dX9_setAlarm_46 : decode cX9_setAlarm 46 = .ok (.iconst 1, 1) := by decide +kernel
theorem dX9_setAlarm_47 : decode cX9_setAlarm 47 = .ok (.ireturn, 1) := by decide +kernel
theorem dX9_setTide_0 : decode cX9_setTide 0 = .ok (.iload_n 1, 1) := by decide +kernel
theorem dX9_setTide_1 : decode cX9_setTide 1 = .ok (.invokestatic 142, 3) := by decide +kernel
theorem dX9_setTide_4 : decode cX9_setTide 4 = .ok (.ifCond .eq 10, 3) := by decide +kernel
theorem dX9_setTide_7 : decode cX9_setTide 7 = .ok (.lload_n 2, 1) := by decide +kernel
theorem dX9_setTide_8 : decode cX9_setTide 8 = .ok (.invokestatic 131, 3) := by decide +kernel
theorem dX9_setTide_11 : decode cX9_setTide 11 = .ok (.ifCond .ne 6, 3) := by decide +kernel
theorem dX9_setTide_14 : decode cX9_setTide 14 = .ok (.bipush (-2), 2) := by decide +kernel
theorem dX9_setTide_16 : decode cX9_setTide 16 = .ok (.ireturn, 1) := by decide +kernel
theorem dX9_setTide_17 : decode cX9_setTide 17 = .ok (.lload_n 2, 1) := by decide +kernel
theorem dX9_setTide_18 : decode cX9_setTide 18 = .ok (.aload_n 0, 1) := by decide +kernel
theorem dX9_setTide_19 : decode cX9_setTide 19 = .ok (.getfield 10, 3) := by decide +kernel
theorem dX9_setTide_22 : decode cX9_setTide 22 = .ok (.getfield 145, 3) := by decide +kernel
theorem dX9_setTide_25 : decode cX9_setTide 25 = .ok (.iload_n 1, 1) := by decide +kernel
theorem dX9_setTide_26 : decode cX9_setTide 26 = .ok (.laload, 1) := by decide +kernel
theorem dX9_setTide_27 : decode cX9_setTide 27 = .ok (.invokestatic 138, 3) := by decide +kernel
theorem dX9_setTide_30 : decode cX9_setTide 30 = .ok (.ifCond .eq 6, 3) := by decide +kernel
theorem dX9_setTide_33 : decode cX9_setTide 33 = .ok (.bipush (-5), 2) := by decide +kernel
theorem dX9_setTide_35 : decode cX9_setTide 35 = .ok (.ireturn, 1) := by decide +kernel
theorem dX9_setTide_36 : decode cX9_setTide 36 = .ok (.aload_n 0, 1) := by decide +kernel
theorem dX9_setTide_37 : decode cX9_setTide 37 = .ok (.getfield 22, 3) := by decide +kernel
theorem dX9_setTide_40 : decode cX9_setTide 40 = .ok (.aload_n 0, 1) := by decide +kernel
theorem dX9_setTide_41 : decode cX9_setTide 41 = .ok (.getfield 10, 3) := by decide +kernel
theorem dX9_setTide_44 : decode cX9_setTide 44 = .ok (.invokevirtual 53, 3) := by decide +kernel
theorem dX9_setTide_47 : decode cX9_setTide 47 = .ok (.aload_n 0, 1) := by decide +kernel
theorem dX9_setTide_48 : decode cX9_setTide 48 = .ok (.getfield 10, 3) := by decide +kernel
theorem dX9_setTide_51 : decode cX9_setTide 51 = .ok (.getfield 145, 3) := by decide +kernel
theorem dX9_setTide_54 : decode cX9_setTide 54 = .ok (.iload_n 1, 1) := by decide +kernel
theorem dX9_setTide_55 : decode cX9_setTide 55 = .ok (.lload_n 2, 1) := by decide +kernel
theorem dX9_setTide_56 : decode cX9_setTide 56 = .ok (.lastore, 1) := by decide +kernel
theorem dX9_setTide_57 : decode cX9_setTide 57 = .ok (.iconst 1, 1) := by decide +kernel
theorem dX9_setTide_58 : decode cX9_setTide 58 = .ok (.ireturn, 1) := by decide +kernel
theorem dX9_vote_0 : decode cX9_vote 0 = .ok (.aload_n 0, 1) := by decide +kernel
theorem dX9_vote_1 : decode cX9_vote 1 = .ok (.getfield 10, 3) := by decide +kernel
theorem dX9_vote_4 : decode cX9_vote 4 = .ok (.getfield 65, 3) := by decide +kernel
theorem dX9_vote_7 : decode cX9_vote 7 = .ok (.iload_n 1, 1) := by decide +kernel
theorem dX9_vote_8 : decode cX9_vote 8 = .ok (.invokevirtual 149, 3) := by decide +kernel
theorem dX9_vote_11 : decode cX9_vote 11 = .ok (.ifCond .ne 5, 3) := by decide +kernel
theorem dX9_vote_14 : decode cX9_vote 14 = .ok (.iconst (-1), 1) := by decide +kernel
theorem dX9_vote_15 : decode cX9_vote 15 = .ok (.ireturn, 1) := by decide +kernel
theorem dX9_vote_16 : decode cX9_vote 16 = .ok (.aload_n 0, 1) := by decide +kernel
theorem dX9_vote_17 : decode cX9_vote 17 = .ok (.getfield 10, 3) := by decide +kernel
theorem dX9_vote_20 : decode cX9_vote 20 = .ok (.getfield 65, 3) := by decide +kernel
theorem dX9_vote_23 : decode cX9_vote 23 = .ok (.getfield 150, 3) := by decide +kernel
theorem dX9_vote_26 : decode cX9_vote 26 = .ok (.iload_n 1, 1) := by decide +kernel
theorem dX9_vote_27 : decode cX9_vote 27 = .ok (.baload, 1) := by decide +kernel
theorem dX9_vote_28 : decode cX9_vote 28 = .ok (.iload_n 2, 1) := by decide +kernel
theorem dX9_vote_29 : decode cX9_vote 29 = .ok (.if_icmp .ne 6, 3) := by decide +kernel
theorem dX9_vote_32 : decode cX9_vote 32 = .ok (.bipush (-5), 2) := by decide +kernel
theorem dX9_vote_34 : decode cX9_vote 34 = .ok (.ireturn, 1) := by decide +kernel
theorem dX9_vote_35 : decode cX9_vote 35 = .ok (.aload_n 0, 1) := by decide +kernel
theorem dX9_vote_36 : decode cX9_vote 36 = .ok (.getfield 22, 3) := by decide +kernel
theorem dX9_vote_39 : decode cX9_vote 39 = .ok (.aload_n 0, 1) := by decide +kernel
theorem dX9_vote_40 : decode cX9_vote 40 = .ok (.getfield 10, 3) := by decide +kernel
theorem dX9_vote_43 : decode cX9_vote 43 = .ok (.invokevirtual 53, 3) := by decide +kernel
theorem dX9_vote_46 : decode cX9_vote 46 = .ok (.aload_n 0, 1) := by decide +kernel
theorem dX9_vote_47 : decode cX9_vote 47 = .ok (.getfield 10, 3) := by decide +kernel
theorem dX9_vote_50 : decode cX9_vote 50 = .ok (.getfield 65, 3) := by decide +kernel
theorem dX9_vote_53 : decode cX9_vote 53 = .ok (.getfield 150, 3) := by decide +kernel
theorem dX9_vote_56 : decode cX9_vote 56 = .ok (.iload_n 1, 1) := by decide +kernel
theorem dX9_vote_57 : decode cX9_vote 57 = .ok (.iload_n 2, 1) := by decide +kernel
theorem dX9_vote_58 : decode cX9_vote 58 = .ok (.bastore, 1) := by decide +kernel
theorem dX9_vote_59 : decode cX9_vote 59 = .ok (.aload_n 0, 1) := by decide +kernel
theorem dX9_vote_60 : decode cX9_vote 60 = .ok (.getfield 10, 3) := by decide +kernel
theorem dX9_vote_63 : decode cX9_vote 63 = .ok (.getfield 65, 3) := by decide +kernel
theorem dX9_vote_66 : decode cX9_vote 66 = .ok (.invokevirtual 153, 3) := by decide +kernel
theorem dX9_vote_69 : decode cX9_vote 69 = .ok (.ireturn, 1) := by decide +kernel
theorem dX9_close_0 : decode cX9_close 0 = .ok (.aload_n 0, 1) := by decide +kernel
theorem dX9_close_1 : decode cX9_close 1 = .ok (.getfield 10, 3) := by decide +kernel
theorem dX9_close_4 : decode cX9_close 4 = .ok (.getfield 65, 3) := by decide +kernel
theorem dX9_close_7 : decode cX9_close 7 = .ok (.invokevirtual 156, 3) := by decide +kernel
theorem dX9_close_10 : decode cX9_close 10 = .ok (.ifCond .eq 16, 3) := by decide +kernel
theorem dX9_close_13 : decode cX9_close 13 = .ok (.aload_n 0, 1) := by decide +kernel
theorem dX9_close_14 : decode cX9_close 14 = .ok (.getfield 10, 3) := by decide +kernel
theorem dX9_close_17 : decode cX9_close 17 = .ok (.getfield 43, 3) := by decide +kernel
theorem dX9_close_20 : decode cX9_close 20 = .ok (.invokevirtual 159, 3) := by decide +kernel
theorem dX9_close_23 : decode cX9_close 23 = .ok (.ifCond .eq 6, 3) := by decide +kernel
theorem dX9_close_26 : decode cX9_close 26 = .ok (.bipush (-4), 2) := by decide +kernel
theorem dX9_close_28 : decode cX9_close 28 = .ok (.ireturn, 1) := by decide +kernel
theorem dX9_close_29 : decode cX9_close 29 = .ok (.aload_n 0, 1) := by decide +kernel
theorem dX9_close_30 : decode cX9_close 30 = .ok (.getfield 10, 3) := by decide +kernel
theorem dX9_close_33 : decode cX9_close 33 = .ok (.getfield 162, 3) := by decide +kernel
theorem dX9_close_36 : decode cX9_close 36 = .ok (.iconst 1, 1) := by decide +kernel
theorem dX9_close_37 : decode cX9_close 37 = .ok (.if_icmp .ne 6, 3) := by decide +kernel
theorem dX9_close_40 : decode cX9_close 40 = .ok (.bipush (-5), 2) := by decide +kernel
theorem dX9_close_42 : decode cX9_close 42 = .ok (.ireturn, 1) := by decide +kernel
theorem dX9_close_43 : decode cX9_close 43 = .ok (.aload_n 0, 1) := by decide +kernel
theorem dX9_close_44 : decode cX9_close 44 = .ok (.getfield 22, 3) := by decide +kernel
theorem dX9_close_47 : decode cX9_close 47 = .ok (.aload_n 0, 1) := by decide +kernel
theorem dX9_close_48 : decode cX9_close 48 = .ok (.getfield 10, 3) := by decide +kernel
theorem dX9_close_51 : decode cX9_close 51 = .ok (.invokevirtual 53, 3) := by decide +kernel
theorem dX9_close_54 : decode cX9_close 54 = .ok (.aload_n 0, 1) := by decide +kernel
theorem dX9_close_55 : decode cX9_close 55 = .ok (.getfield 10, 3) := by decide +kernel
theorem dX9_close_58 : decode cX9_close 58 = .ok (.invokevirtual 165, 3) := by decide +kernel
theorem dX9_close_61 : decode cX9_close 61 = .ok (.ifCond .eq 7, 3) := by decide +kernel
theorem dX9_close_64 : decode cX9_close 64 = .ok (.iconst 1, 1) := by decide +kernel
theorem dX9_close_65 : decode cX9_close 65 = .ok (.goto 4, 3) := by decide +kernel
theorem dX9_close_68 : decode cX9_close 68 = .ok (.iconst 0, 1) := by decide +kernel
theorem dX9_close_69 : decode cX9_close 69 = .ok (.ireturn, 1) := by decide +kernel
theorem dX9_open_0 : decode cX9_open 0 = .ok (.aload_n 0, 1) := by decide +kernel
theorem dX9_open_1 : decode cX9_open 1 = .ok (.getfield 10, 3) := by decide +kernel
theorem dX9_open_4 : decode cX9_open 4 = .ok (.getfield 43, 3) := by decide +kernel
theorem dX9_open_7 : decode cX9_open 7 = .ok (.iconst 2, 1) := by decide +kernel
theorem dX9_open_8 : decode cX9_open 8 = .ok (.invokevirtual 168, 3) := by decide +kernel
theorem dX9_open_11 : decode cX9_open 11 = .ok (.istore_n 1, 1) := by decide +kernel
theorem dX9_open_12 : decode cX9_open 12 = .ok (.iload_n 1, 1) := by decide +kernel
theorem dX9_open_13 : decode cX9_open 13 = .ok (.ifCond .ne 21, 3) := by decide +kernel
theorem dX9_open_16 : decode cX9_open 16 = .ok (.aload_n 0, 1) := by decide +kernel
theorem dX9_open_17 : decode cX9_open 17 = .ok (.getfield 10, 3) := by decide +kernel
theorem dX9_open_20 : decode cX9_open 20 = .ok (.getfield 43, 3) := by decide +kernel
theorem dX9_open_23 : decode cX9_open 23 = .ok (.invokevirtual 171, 3) := by decide +kernel
theorem dX9_open_26 : decode cX9_open 26 = .ok (.bipush (-5), 2) := by decide +kernel
theorem dX9_open_28 : decode cX9_open 28 = .ok (.if_icmp .ne 6, 3) := by decide +kernel
theorem dX9_open_31 : decode cX9_open 31 = .ok (.bipush (-4), 2) := by decide +kernel
theorem dX9_open_33 : decode cX9_open 33 = .ok (.ireturn, 1) := by decide +kernel
theorem dX9_open_34 : decode cX9_open 34 = .ok (.aload_n 0, 1) := by decide +kernel
theorem dX9_open_35 : decode cX9_open 35 = .ok (.getfield 10, 3) := by decide +kernel
theorem dX9_open_38 : decode cX9_open 38 = .ok (.getfield 162, 3) := by decide +kernel
theorem dX9_open_41 : decode cX9_open 41 = .ok (.iconst 2, 1) := by decide +kernel
theorem dX9_open_42 : decode cX9_open 42 = .ok (.if_icmp .ne 6, 3) := by decide +kernel
theorem dX9_open_45 : decode cX9_open 45 = .ok (.bipush (-5), 2) := by decide +kernel
theorem dX9_open_47 : decode cX9_open 47 = .ok (.ireturn, 1) := by decide +kernel
theorem dX9_open_48 : decode cX9_open 48 = .ok (.aload_n 0, 1) := by decide +kernel
theorem dX9_open_49 : decode cX9_open 49 = .ok (.getfield 22, 3) := by decide +kernel
theorem dX9_open_52 : decode cX9_open 52 = .ok (.aload_n 0, 1) := by decide +kernel
theorem dX9_open_53 : decode cX9_open 53 = .ok (.getfield 10, 3) := by decide +kernel
theorem dX9_open_56 : decode cX9_open 56 = .ok (.invokevirtual 53, 3) := by decide +kernel
theorem dX9_open_59 : decode cX9_open 59 = .ok (.aload_n 0, 1) := by decide +kernel
theorem dX9_open_60 : decode cX9_open 60 = .ok (.getfield 10, 3) := by decide +kernel
theorem dX9_open_63 : decode cX9_open 63 = .ok (.iconst 2, 1) := by decide +kernel
theorem dX9_open_64 : decode cX9_open 64 = .ok (.putfield 162, 3) := by decide +kernel
theorem dX9_open_67 : decode cX9_open 67 = .ok (.iload_n 1, 1) := by decide +kernel
theorem dX9_open_68 : decode cX9_open 68 = .ok (.ireturn, 1) := by decide +kernel
theorem dX9_service_0 : decode cX9_service 0 = .ok (.aload_n 0, 1) := by decide +kernel
theorem dX9_service_1 : decode cX9_service 1 = .ok (.getfield 10, 3) := by decide +kernel
theorem dX9_service_4 : decode cX9_service 4 = .ok (.getfield 43, 3) := by decide +kernel
theorem dX9_service_7 : decode cX9_service 7 = .ok (.iload_n 1, 1) := by decide +kernel
theorem dX9_service_8 : decode cX9_service 8 = .ok (.invokevirtual 174, 3) := by decide +kernel
theorem dX9_service_11 : decode cX9_service 11 = .ok (.ifCond .ne 5, 3) := by decide +kernel
theorem dX9_service_14 : decode cX9_service 14 = .ok (.iconst (-1), 1) := by decide +kernel
theorem dX9_service_15 : decode cX9_service 15 = .ok (.ireturn, 1) := by decide +kernel
theorem dX9_service_16 : decode cX9_service 16 = .ok (.aload_n 0, 1) := by decide +kernel
theorem dX9_service_17 : decode cX9_service 17 = .ok (.getfield 10, 3) := by decide +kernel
theorem dX9_service_20 : decode cX9_service 20 = .ok (.getfield 43, 3) := by decide +kernel
theorem dX9_service_23 : decode cX9_service 23 = .ok (.iload_n 1, 1) := by decide +kernel
theorem dX9_service_24 : decode cX9_service 24 = .ok (.invokevirtual 175, 3) := by decide +kernel
theorem dX9_service_27 : decode cX9_service 27 = .ok (.ifCond .ne 17, 3) := by decide +kernel
theorem dX9_service_30 : decode cX9_service 30 = .ok (.aload_n 0, 1) := by decide +kernel
theorem dX9_service_31 : decode cX9_service 31 = .ok (.getfield 10, 3) := by decide +kernel
theorem dX9_service_34 : decode cX9_service 34 = .ok (.getfield 43, 3) := by decide +kernel
theorem dX9_service_37 : decode cX9_service 37 = .ok (.iload_n 1, 1) := by decide +kernel
theorem dX9_service_38 : decode cX9_service 38 = .ok (.invokevirtual 178, 3) := by decide +kernel
theorem dX9_service_41 : decode cX9_service 41 = .ok (.ifCond .eq 6, 3) := by decide +kernel
theorem dX9_service_44 : decode cX9_service 44 = .ok (.bipush (-4), 2) := by decide +kernel
theorem dX9_service_46 : decode cX9_service 46 = .ok (.ireturn, 1) := by decide +kernel
theorem dX9_service_47 : decode cX9_service 47 = .ok (.aload_n 0, 1) := by decide +kernel
theorem dX9_service_48 : decode cX9_service 48 = .ok (.getfield 10, 3) := by decide +kernel
theorem dX9_service_51 : decode cX9_service 51 = .ok (.getfield 43, 3) := by decide +kernel
theorem dX9_service_54 : decode cX9_service 54 = .ok (.getfield 181, 3) := by decide +kernel
theorem dX9_service_57 : decode cX9_service 57 = .ok (.iload_n 1, 1) := by decide +kernel
theorem dX9_service_58 : decode cX9_service 58 = .ok (.iaload, 1) := by decide +kernel
theorem dX9_service_59 : decode cX9_service 59 = .ok (.istore_n 2, 1) := by decide +kernel
theorem dX9_service_60 : decode cX9_service 60 = .ok (.aload_n 0, 1) := by decide +kernel
theorem dX9_service_61 : decode cX9_service 61 = .ok (.getfield 10, 3) := by decide +kernel
theorem dX9_service_64 : decode cX9_service 64 = .ok (.getfield 43, 3) := by decide +kernel
theorem dX9_service_67 : decode cX9_service 67 = .ok (.getfield 184, 3) := by decide +kernel
theorem dX9_service_70 : decode cX9_service 70 = .ok (.iload_n 1, 1) := by decide +kernel
theorem dX9_service_71 : decode cX9_service 71 = .ok (.iaload, 1) := by decide +kernel
theorem dX9_service_72 : decode cX9_service 72 = .ok (.ifCond .ne 10, 3) := by decide +kernel
theorem dX9_service_75 : decode cX9_service 75 = .ok (.iload_n 2, 1) := by decide +kernel
theorem dX9_service_76 : decode cX9_service 76 = .ok (.ifCond .ne 6, 3) := by decide +kernel
theorem dX9_service_79 : decode cX9_service 79 = .ok (.bipush (-5), 2) := by decide +kernel
theorem dX9_service_81 : decode cX9_service 81 = .ok (.ireturn, 1) := by decide +kernel
theorem dX9_service_82 : decode cX9_service 82 = .ok (.aload_n 0, 1) := by decide +kernel
theorem dX9_service_83 : decode cX9_service 83 = .ok (.getfield 22, 3) := by decide +kernel
theorem dX9_service_86 : decode cX9_service 86 = .ok (.aload_n 0, 1) := by decide +kernel
theorem dX9_service_87 : decode cX9_service 87 = .ok (.getfield 10, 3) := by decide +kernel
theorem dX9_service_90 : decode cX9_service 90 = .ok (.invokevirtual 53, 3) := by decide +kernel
theorem dX9_service_93 : decode cX9_service 93 = .ok (.aload_n 0, 1) := by decide +kernel
theorem dX9_service_94 : decode cX9_service 94 = .ok (.getfield 10, 3) := by decide +kernel
theorem dX9_service_97 : decode cX9_service 97 = .ok (.getfield 43, 3) := by decide +kernel
theorem dX9_service_100 : decode cX9_service 100 = .ok (.iload_n 1, 1) := by decide +kernel
theorem dX9_service_101 : decode cX9_service 101 = .ok (.invokevirtual 187, 3) := by decide +kernel
theorem dX9_service_104 : decode cX9_service 104 = .ok (.iload_n 2, 1) := by decide +kernel
theorem dX9_service_105 : decode cX9_service 105 = .ok (.ireturn, 1) := by decide +kernel
theorem dX9_pass_0 : decode cX9_pass 0 = .ok (.iload_n 1, 1) := by decide +kernel
theorem dX9_pass_1 : decode cX9_pass 1 = .ok (.iconst 1, 1) := by decide +kernel
theorem dX9_pass_2 : decode cX9_pass 2 = .ok (.bipush 48, 2) := by decide +kernel
theorem dX9_pass_4 : decode cX9_pass 4 = .ok (.invokestatic 33, 3) := by decide +kernel
theorem dX9_pass_7 : decode cX9_pass 7 = .ok (.ifCond .eq 6, 3) := by decide +kernel
theorem dX9_pass_10 : decode cX9_pass 10 = .ok (.bipush (-2), 2) := by decide +kernel
theorem dX9_pass_12 : decode cX9_pass 12 = .ok (.ireturn, 1) := by decide +kernel
theorem dX9_pass_13 : decode cX9_pass 13 = .ok (.aload_n 0, 1) := by decide +kernel
theorem dX9_pass_14 : decode cX9_pass 14 = .ok (.getfield 22, 3) := by decide +kernel
theorem dX9_pass_17 : decode cX9_pass 17 = .ok (.aload_n 0, 1) := by decide +kernel
theorem dX9_pass_18 : decode cX9_pass 18 = .ok (.getfield 10, 3) := by decide +kernel
theorem dX9_pass_21 : decode cX9_pass 21 = .ok (.invokevirtual 53, 3) := by decide +kernel
theorem dX9_pass_24 : decode cX9_pass 24 = .ok (.aload_n 0, 1) := by decide +kernel
theorem dX9_pass_25 : decode cX9_pass 25 = .ok (.getfield 10, 3) := by decide +kernel
theorem dX9_pass_28 : decode cX9_pass 28 = .ok (.iload_n 1, 1) := by decide +kernel
theorem dX9_pass_29 : decode cX9_pass 29 = .ok (.invokevirtual 191, 3) := by decide +kernel
theorem dX9_pass_32 : decode cX9_pass 32 = .ok (.ireturn, 1) := by decide +kernel
theorem dX9_readTides_0 : decode cX9_readTides 0 = .ok (.iload_n 1, 1) := by decide +kernel
theorem dX9_readTides_1 : decode cX9_readTides 1 = .ok (.invokestatic 142, 3) := by decide +kernel
theorem dX9_readTides_4 : decode cX9_readTides 4 = .ok (.ifCond .ne 6, 3) := by decide +kernel
theorem dX9_readTides_7 : decode cX9_readTides 7 = .ok (.bipush (-2), 2) := by decide +kernel
theorem dX9_readTides_9 : decode cX9_readTides 9 = .ok (.ireturn, 1) := by decide +kernel
theorem dX9_readTides_10 : decode cX9_readTides 10 = .ok (.aload_n 0, 1) := by decide +kernel
theorem dX9_readTides_11 : decode cX9_readTides 11 = .ok (.getfield 29, 3) := by decide +kernel
theorem dX9_readTides_14 : decode cX9_readTides 14 = .ok (.invokevirtual 202, 3) := by decide +kernel
theorem dX9_readTides_17 : decode cX9_readTides 17 = .ok (.istore_n 2, 1) := by decide +kernel
theorem dX9_readTides_18 : decode cX9_readTides 18 = .ok (.iload_n 2, 1) := by decide +kernel
theorem dX9_readTides_19 : decode cX9_readTides 19 = .ok (.bipush (-5), 2) := by decide +kernel
theorem dX9_readTides_21 : decode cX9_readTides 21 = .ok (.if_icmp .eq 8, 3) := by decide +kernel
theorem dX9_readTides_24 : decode cX9_readTides 24 = .ok (.bipush (-100), 2) := by decide +kernel
theorem dX9_readTides_26 : decode cX9_readTides 26 = .ok (.iload_n 2, 1) := by decide +kernel
theorem dX9_readTides_27 : decode cX9_readTides 27 = .ok (.isub, 1) := by decide +kernel
theorem dX9_readTides_28 : decode cX9_readTides 28 = .ok (.ireturn, 1) := by decide +kernel
theorem dX9_readTides_29 : decode cX9_readTides 29 = .ok (.aload_n 0, 1) := by decide +kernel
theorem dX9_readTides_30 : decode cX9_readTides 30 = .ok (.getfield 29, 3) := by decide +kernel
theorem dX9_readTides_33 : decode cX9_readTides 33 = .ok (.invokevirtual 205, 3) := by decide +kernel
theorem dX9_readTides_36 : decode cX9_readTides 36 = .ok (.istore_n 3, 1) := by decide +kernel
theorem dX9_readTides_37 : decode cX9_readTides 37 = .ok (.iload_n 1, 1) := by decide +kernel
theorem dX9_readTides_38 : decode cX9_readTides 38 = .ok (.iload_n 3, 1) := by decide +kernel
theorem dX9_readTides_39 : decode cX9_readTides 39 = .ok (.iadd, 1) := by decide +kernel
theorem dX9_readTides_40 : decode cX9_readTides 40 = .ok (.bipush 24, 2) := by decide +kernel
theorem dX9_readTides_42 : decode cX9_readTides 42 = .ok (.if_icmp .le 6, 3) := by decide +kernel
theorem dX9_readTides_45 : decode cX9_readTides 45 = .ok (.bipush (-3), 2) := by decide +kernel
theorem dX9_readTides_47 : decode cX9_readTides 47 = .ok (.ireturn, 1) := by decide +kernel
theorem dX9_readTides_48 : decode cX9_readTides 48 = .ok (.aload_n 0, 1) := by decide +kernel
theorem dX9_readTides_49 : decode cX9_readTides 49 = .ok (.getfield 29, 3) := by decide +kernel
theorem dX9_readTides_52 : decode cX9_readTides 52 = .ok (.invokevirtual 208, 3) := by decide +kernel
theorem dX9_readTides_55 : decode cX9_readTides 55 = .ok (.bipush (-50), 2) := by decide +kernel
theorem dX9_readTides_57 : decode cX9_readTides 57 = .ok (.if_icmp .ge 6, 3) := by decide +kernel
theorem dX9_readTides_60 : decode cX9_readTides 60 = .ok (.bipush (-4), 2) := by decide +kernel
theorem dX9_readTides_62 : decode cX9_readTides 62 = .ok (.ireturn, 1) := by decide +kernel
theorem dX9_readTides_63 : decode cX9_readTides 63 = .ok (.aload_n 0, 1) := by decide +kernel
theorem dX9_readTides_64 : decode cX9_readTides 64 = .ok (.getfield 22, 3) := by decide +kernel
theorem dX9_readTides_67 : decode cX9_readTides 67 = .ok (.aload_n 0, 1) := by decide +kernel
theorem dX9_readTides_68 : decode cX9_readTides 68 = .ok (.getfield 10, 3) := by decide +kernel
theorem dX9_readTides_71 : decode cX9_readTides 71 = .ok (.invokevirtual 53, 3) := by decide +kernel
theorem dX9_readTides_74 : decode cX9_readTides 74 = .ok (.iconst 0, 1) := by decide +kernel
theorem dX9_readTides_75 : decode cX9_readTides 75 = .ok (.istore 4, 2) := by decide +kernel
theorem dX9_readTides_77 : decode cX9_readTides 77 = .ok (.iload 4, 2) := by decide +kernel
theorem dX9_readTides_79 : decode cX9_readTides 79 = .ok (.iload_n 3, 1) := by decide +kernel
theorem dX9_readTides_80 : decode cX9_readTides 80 = .ok (.if_icmp .ge 43, 3) := by decide +kernel
theorem dX9_readTides_83 : decode cX9_readTides 83 = .ok (.iload_n 1, 1) := by decide +kernel
theorem dX9_readTides_84 : decode cX9_readTides 84 = .ok (.iload 4, 2) := by decide +kernel
theorem dX9_readTides_86 : decode cX9_readTides 86 = .ok (.iadd, 1) := by decide +kernel
theorem dX9_readTides_87 : decode cX9_readTides 87 = .ok (.bipush 24, 2) := by decide +kernel
theorem dX9_readTides_89 : decode cX9_readTides 89 = .ok (.if_icmp .ge 34, 3) := by decide +kernel
theorem dX9_readTides_92 : decode cX9_readTides 92 = .ok (.aload_n 0, 1) := by decide +kernel
theorem dX9_readTides_93 : decode cX9_readTides 93 = .ok (.getfield 10, 3) := by decide +kernel
theorem dX9_readTides_96 : decode cX9_readTides 96 = .ok (.getfield 145, 3) := by decide +kernel
theorem dX9_readTides_99 : decode cX9_readTides 99 = .ok (.iload_n 1, 1) := by decide +kernel
theorem dX9_readTides_100 : decode cX9_readTides 100 = .ok (.iload 4, 2) := by decide +kernel
theorem dX9_readTides_102 : decode cX9_readTides 102 = .ok (.iadd, 1) := by decide +kernel
theorem dX9_readTides_103 : decode cX9_readTides 103 = .ok (.aload_n 0, 1) := by decide +kernel
theorem dX9_readTides_104 : decode cX9_readTides 104 = .ok (.getfield 29, 3) := by decide +kernel
theorem dX9_readTides_107 : decode cX9_readTides 107 = .ok (.getfield 211, 3) := by decide +kernel
theorem dX9_readTides_110 : decode cX9_readTides 110 = .ok (.iload 4, 2) := by decide +kernel
theorem dX9_readTides_112 : decode cX9_readTides 112 = .ok (.iaload, 1) := by decide +kernel
theorem dX9_readTides_113 : decode cX9_readTides 113 = .ok (.invokestatic 214, 3) := by decide +kernel
theorem dX9_readTides_116 : decode cX9_readTides 116 = .ok (.lastore, 1) := by decide +kernel
theorem dX9_readTides_117 : decode cX9_readTides 117 = .ok (.iinc 4 1, 3) := by decide +kernel
theorem dX9_readTides_120 : decode cX9_readTides 120 = .ok (.goto (-43), 3) := by decide +kernel
theorem dX9_readTides_123 : decode cX9_readTides 123 = .ok (.iload_n 3, 1) := by decide +kernel
theorem dX9_readTides_124 : decode cX9_readTides 124 = .ok (.ireturn, 1) := by decide +kernel
theorem dX9_undo_0 : decode cX9_undo 0 = .ok (.aload_n 0, 1) := by decide +kernel
theorem dX9_undo_1 : decode cX9_undo 1 = .ok (.getfield 22, 3) := by decide +kernel
theorem dX9_undo_4 : decode cX9_undo 4 = .ok (.aload_n 0, 1) := by decide +kernel
theorem dX9_undo_5 : decode cX9_undo 5 = .ok (.getfield 10, 3) := by decide +kernel
theorem dX9_undo_8 : decode cX9_undo 8 = .ok (.invokevirtual 218, 3) := by decide +kernel
theorem dX9_undo_11 : decode cX9_undo 11 = .ok (.ifCond .ne 6, 3) := by decide +kernel
theorem dX9_undo_14 : decode cX9_undo 14 = .ok (.bipush (-5), 2) := by decide +kernel
theorem dX9_undo_16 : decode cX9_undo 16 = .ok (.ireturn, 1) := by decide +kernel
theorem dX9_undo_17 : decode cX9_undo 17 = .ok (.aload_n 0, 1) := by decide +kernel
theorem dX9_undo_18 : decode cX9_undo 18 = .ok (.getfield 22, 3) := by decide +kernel
theorem dX9_undo_21 : decode cX9_undo 21 = .ok (.getfield 222, 3) := by decide +kernel
theorem dX9_undo_24 : decode cX9_undo 24 = .ok (.ireturn, 1) := by decide +kernel
theorem dX9_keep_0 : decode cX9_keep 0 = .ok (.aload_n 0, 1) := by decide +kernel
theorem dX9_keep_1 : decode cX9_keep 1 = .ok (.getfield 225, 3) := by decide +kernel
theorem dX9_keep_4 : decode cX9_keep 4 = .ok (.ifnonnull 14, 3) := by decide +kernel
theorem dX9_keep_7 : decode cX9_keep 7 = .ok (.aload_n 0, 1) := by decide +kernel
theorem dX9_keep_8 : decode cX9_keep 8 = .ok (.new 7, 3) := by decide +kernel
theorem dX9_keep_11 : decode cX9_keep 11 = .ok (.dup, 1) := by decide +kernel
theorem dX9_keep_12 : decode cX9_keep 12 = .ok (.invokespecial 9, 3) := by decide +kernel
theorem dX9_keep_15 : decode cX9_keep 15 = .ok (.putfield 225, 3) := by decide +kernel
theorem dX9_keep_18 : decode cX9_keep 18 = .ok (.aload_n 0, 1) := by decide +kernel
theorem dX9_keep_19 : decode cX9_keep 19 = .ok (.getfield 225, 3) := by decide +kernel
theorem dX9_keep_22 : decode cX9_keep 22 = .ok (.aload_n 0, 1) := by decide +kernel
theorem dX9_keep_23 : decode cX9_keep 23 = .ok (.getfield 10, 3) := by decide +kernel
theorem dX9_keep_26 : decode cX9_keep 26 = .ok (.invokevirtual 228, 3) := by decide +kernel
theorem dX9_keep_29 : decode cX9_keep 29 = .ok (.aload_n 0, 1) := by decide +kernel
theorem dX9_keep_30 : decode cX9_keep 30 = .ok (.getfield 10, 3) := by decide +kernel
theorem dX9_keep_33 : decode cX9_keep 33 = .ok (.getfield 231, 3) := by decide +kernel
theorem dX9_keep_36 : decode cX9_keep 36 = .ok (.ireturn, 1) := by decide +kernel
theorem dX9_restore_0 : decode cX9_restore 0 = .ok (.aload_n 0, 1) := by decide +kernel
theorem dX9_restore_1 : decode cX9_restore 1 = .ok (.getfield 225, 3) := by decide +kernel
theorem dX9_restore_4 : decode cX9_restore 4 = .ok (.ifnonnull 6, 3) := by decide +kernel
theorem dX9_restore_7 : decode cX9_restore 7 = .ok (.bipush (-5), 2) := by decide +kernel
theorem dX9_restore_9 : decode cX9_restore 9 = .ok (.ireturn, 1) := by decide +kernel
theorem dX9_restore_10 : decode cX9_restore 10 = .ok (.aload_n 0, 1) := by decide +kernel
theorem dX9_restore_11 : decode cX9_restore 11 = .ok (.getfield 22, 3) := by decide +kernel
theorem dX9_restore_14 : decode cX9_restore 14 = .ok (.aload_n 0, 1) := by decide +kernel
theorem dX9_restore_15 : decode cX9_restore 15 = .ok (.getfield 10, 3) := by decide +kernel
theorem dX9_restore_18 : decode cX9_restore 18 = .ok (.invokevirtual 53, 3) := by decide +kernel
theorem dX9_restore_21 : decode cX9_restore 21 = .ok (.aload_n 0, 1) := by decide +kernel
theorem dX9_restore_22 : decode cX9_restore 22 = .ok (.getfield 10, 3) := by decide +kernel
theorem dX9_restore_25 : decode cX9_restore 25 = .ok (.aload_n 0, 1) := by decide +kernel
theorem dX9_restore_26 : decode cX9_restore 26 = .ok (.getfield 225, 3) := by decide +kernel
theorem dX9_restore_29 : decode cX9_restore 29 = .ok (.invokevirtual 228, 3) := by decide +kernel
theorem dX9_restore_32 : decode cX9_restore 32 = .ok (.aload_n 0, 1) := by decide +kernel
theorem dX9_restore_33 : decode cX9_restore 33 = .ok (.getfield 10, 3) := by decide +kernel
theorem dX9_restore_36 : decode cX9_restore 36 = .ok (.getfield 231, 3) := by decide +kernel
theorem dX9_restore_39 : decode cX9_restore 39 = .ok (.ireturn, 1) := by decide +kernel
theorem dX9_section_0 : decode cX9_section 0 = .ok (.aload_n 0, 1) := by decide +kernel
theorem dX9_section_1 : decode cX9_section 1 = .ok (.getfield 10, 3) := by decide +kernel
theorem dX9_section_4 : decode cX9_section 4 = .ok (.getfield 43, 3) := by decide +kernel
theorem dX9_section_7 : decode cX9_section 7 = .ok (.iload_n 1, 1) := by decide +kernel
theorem dX9_section_8 : decode cX9_section 8 = .ok (.invokevirtual 174, 3) := by decide +kernel
theorem dX9_section_11 : decode cX9_section 11 = .ok (.ifCond .ne 5, 3) := by decide +kernel
theorem dX9_section_14 : decode cX9_section 14 = .ok (.iconst (-1), 1) := by decide +kernel
theorem dX9_section_15 : decode cX9_section 15 = .ok (.ireturn, 1) := by decide +kernel
theorem dX9_section_16 : decode cX9_section 16 = .ok (.iload_n 2, 1) := by decide +kernel
theorem dX9_section_17 : decode cX9_section 17 = .ok (.tableswitch 136 0 5 #[39, 52, 65, 78, 91, 123], 39) := by decide +kernel
theorem dX9_section_56 : decode cX9_section 56 = .ok (.aload_n 0, 1) := by decide +kernel
theorem dX9_section_57 : decode cX9_section 57 = .ok (.getfield 10, 3) := by decide +kernel
theorem dX9_section_60 : decode cX9_section 60 = .ok (.getfield 43, 3) := by decide +kernel
theorem dX9_section_63 : decode cX9_section 63 = .ok (.getfield 234, 3) := by decide +kernel
theorem dX9_section_66 : decode cX9_section 66 = .ok (.iload_n 1, 1) := by decide +kernel
theorem dX9_section_67 : decode cX9_section 67 = .ok (.iaload, 1) := by decide +kernel
theorem dX9_section_68 : decode cX9_section 68 = .ok (.ireturn, 1) := by decide +kernel
theorem dX9_section_69 : decode cX9_section 69 = .ok (.aload_n 0, 1) := by decide +kernel
theorem dX9_section_70 : decode cX9_section 70 = .ok (.getfield 10, 3) := by decide +kernel
theorem dX9_section_73 : decode cX9_section 73 = .ok (.getfield 43, 3) := by decide +kernel
theorem dX9_section_76 : decode cX9_section 76 = .ok (.getfield 237, 3) := by decide +kernel
theorem dX9_section_79 : decode cX9_section 79 = .ok (.iload_n 1, 1) := by decide +kernel
theorem dX9_section_80 : decode cX9_section 80 = .ok (.iaload, 1) := by decide +kernel
theorem dX9_section_81 : decode cX9_section 81 = .ok (.ireturn, 1) := by decide +kernel
theorem dX9_section_82 : decode cX9_section 82 = .ok (.aload_n 0, 1) := by decide +kernel
theorem dX9_section_83 : decode cX9_section 83 = .ok (.getfield 10, 3) := by decide +kernel
theorem dX9_section_86 : decode cX9_section 86 = .ok (.getfield 43, 3) := by decide +kernel
theorem dX9_section_89 : decode cX9_section 89 = .ok (.getfield 240, 3) := by decide +kernel
theorem dX9_section_92 : decode cX9_section 92 = .ok (.iload_n 1, 1) := by decide +kernel
theorem dX9_section_93 : decode cX9_section 93 = .ok (.iaload, 1) := by decide +kernel
theorem dX9_section_94 : decode cX9_section 94 = .ok (.ireturn, 1) := by decide +kernel
theorem dX9_section_95 : decode cX9_section 95 = .ok (.aload_n 0, 1) := by decide +kernel
theorem dX9_section_96 : decode cX9_section 96 = .ok (.getfield 10, 3) := by decide +kernel
theorem dX9_section_99 : decode cX9_section 99 = .ok (.getfield 43, 3) := by decide +kernel
theorem dX9_section_102 : decode cX9_section 102 = .ok (.getfield 184, 3) := by decide +kernel
theorem dX9_section_105 : decode cX9_section 105 = .ok (.iload_n 1, 1) := by decide +kernel
theorem dX9_section_106 : decode cX9_section 106 = .ok (.iaload, 1) := by decide +kernel
theorem dX9_section_107 : decode cX9_section 107 = .ok (.ireturn, 1) := by decide +kernel
theorem dX9_section_108 : decode cX9_section 108 = .ok (.aload_n 0, 1) := by decide +kernel
theorem dX9_section_109 : decode cX9_section 109 = .ok (.getfield 10, 3) := by decide +kernel
theorem dX9_section_112 : decode cX9_section 112 = .ok (.getfield 43, 3) := by decide +kernel
theorem dX9_section_115 : decode cX9_section 115 = .ok (.iload_n 1, 1) := by decide +kernel
theorem dX9_section_116 : decode cX9_section 116 = .ok (.invokevirtual 175, 3) := by decide +kernel
theorem dX9_section_119 : decode cX9_section 119 = .ok (.ifCond .eq 18, 3) := by decide +kernel
theorem dX9_section_122 : decode cX9_section 122 = .ok (.aload_n 0, 1) := by decide +kernel
theorem dX9_section_123 : decode cX9_section 123 = .ok (.getfield 10, 3) := by decide +kernel
theorem dX9_section_126 : decode cX9_section 126 = .ok (.getfield 43, 3) := by decide +kernel
theorem dX9_section_129 : decode cX9_section 129 = .ok (.getfield 243, 3) := by decide +kernel
theorem dX9_section_132 : decode cX9_section 132 = .ok (.iload_n 1, 1) := by decide +kernel
theorem dX9_section_133 : decode cX9_section 133 = .ok (.iaload, 1) := by decide +kernel
theorem dX9_section_134 : decode cX9_section 134 = .ok (.goto 5, 3) := by decide +kernel
theorem dX9_section_137 : decode cX9_section 137 = .ok (.bipush (-5), 2) := by decide +kernel
theorem dX9_section_139 : decode cX9_section 139 = .ok (.ireturn, 1) := by decide +kernel
theorem dX9_section_140 : decode cX9_section 140 = .ok (.aload_n 0, 1) := by decide +kernel
theorem dX9_section_141 : decode cX9_section 141 = .ok (.getfield 10, 3) := by decide +kernel
theorem dX9_section_144 : decode cX9_section 144 = .ok (.getfield 43, 3) := by decide +kernel
theorem dX9_section_147 : decode cX9_section 147 = .ok (.getfield 181, 3) := by decide +kernel
theorem dX9_section_150 : decode cX9_section 150 = .ok (.iload_n 1, 1) := by decide +kernel
theorem dX9_section_151 : decode cX9_section 151 = .ok (.iaload, 1) := by decide +kernel
theorem dX9_section_152 : decode cX9_section 152 = .ok (.ireturn, 1) := by decide +kernel
theorem dX9_section_153 : decode cX9_section 153 = .ok (.bipush (-2), 2) := by decide +kernel
theorem dX9_section_155 : decode cX9_section 155 = .ok (.ireturn, 1) := by decide +kernel
theorem dX9_pump_0 : decode cX9_pump 0 = .ok (.aload_n 0, 1) := by decide +kernel
theorem dX9_pump_1 : decode cX9_pump 1 = .ok (.getfield 10, 3) := by decide +kernel
theorem dX9_pump_4 : decode cX9_pump 4 = .ok (.getfield 84, 3) := by decide +kernel
theorem dX9_pump_7 : decode cX9_pump 7 = .ok (.iload_n 1, 1) := by decide +kernel
theorem dX9_pump_8 : decode cX9_pump 8 = .ok (.invokevirtual 102, 3) := by decide +kernel
theorem dX9_pump_11 : decode cX9_pump 11 = .ok (.ifCond .ne 5, 3) := by decide +kernel
theorem dX9_pump_14 : decode cX9_pump 14 = .ok (.iconst (-1), 1) := by decide +kernel
theorem dX9_pump_15 : decode cX9_pump 15 = .ok (.ireturn, 1) := by decide +kernel
theorem dX9_pump_16 : decode cX9_pump 16 = .ok (.iload_n 2, 1) := by decide +kernel
theorem dX9_pump_17 : decode cX9_pump 17 = .ok (.tableswitch 115 0 4 #[35, 48, 61, 82, 102], 35) := by decide +kernel
theorem dX9_pump_52 : decode cX9_pump 52 = .ok (.aload_n 0, 1) := by decide +kernel
theorem dX9_pump_53 : decode cX9_pump 53 = .ok (.getfield 10, 3) := by decide +kernel
theorem dX9_pump_56 : decode cX9_pump 56 = .ok (.getfield 84, 3) := by decide +kernel
theorem dX9_pump_59 : decode cX9_pump 59 = .ok (.getfield 246, 3) := by decide +kernel
theorem dX9_pump_62 : decode cX9_pump 62 = .ok (.iload_n 1, 1) := by decide +kernel
theorem dX9_pump_63 : decode cX9_pump 63 = .ok (.iaload, 1) := by decide +kernel
theorem dX9_pump_64 : decode cX9_pump 64 = .ok (.ireturn, 1) := by decide +kernel
theorem dX9_pump_65 : decode cX9_pump 65 = .ok (.aload_n 0, 1) := by decide +kernel
theorem dX9_pump_66 : decode cX9_pump 66 = .ok (.getfield 10, 3) := by decide +kernel
theorem dX9_pump_69 : decode cX9_pump 69 = .ok (.getfield 84, 3) := by decide +kernel
theorem dX9_pump_72 : decode cX9_pump 72 = .ok (.getfield 249, 3) := by decide +kernel
theorem dX9_pump_75 : decode cX9_pump 75 = .ok (.iload_n 1, 1) := by decide +kernel
theorem dX9_pump_76 : decode cX9_pump 76 = .ok (.iaload, 1) := by decide +kernel
theorem dX9_pump_77 : decode cX9_pump 77 = .ok (.ireturn, 1) := by decide +kernel
theorem dX9_pump_78 : decode cX9_pump 78 = .ok (.aload_n 0, 1) := by decide +kernel
theorem dX9_pump_79 : decode cX9_pump 79 = .ok (.getfield 10, 3) := by decide +kernel
theorem dX9_pump_82 : decode cX9_pump 82 = .ok (.getfield 84, 3) := by decide +kernel
theorem dX9_pump_85 : decode cX9_pump 85 = .ok (.getfield 103, 3) := by decide +kernel
theorem dX9_pump_88 : decode cX9_pump 88 = .ok (.iload_n 1, 1) := by decide +kernel
theorem dX9_pump_89 : decode cX9_pump 89 = .ok (.baload, 1) := by decide +kernel
theorem dX9_pump_90 : decode cX9_pump 90 = .ok (.ifCond .eq 7, 3) := by decide +kernel
theorem dX9_pump_93 : decode cX9_pump 93 = .ok (.iconst 1, 1) := by decide +kernel
theorem dX9_pump_94 : decode cX9_pump 94 = .ok (.goto 4, 3) := by decide +kernel
theorem dX9_pump_97 : decode cX9_pump 97 = .ok (.iconst 0, 1) := by decide +kernel
theorem dX9_pump_98 : decode cX9_pump 98 = .ok (.ireturn, 1) := by decide +kernel
theorem dX9_pump_99 : decode cX9_pump 99 = .ok (.aload_n 0, 1) := by decide +kernel
theorem dX9_pump_100 : decode cX9_pump 100 = .ok (.getfield 10, 3) := by decide +kernel
theorem dX9_pump_103 : decode cX9_pump 103 = .ok (.getfield 84, 3) := by decide +kernel
theorem dX9_pump_106 : decode cX9_pump 106 = .ok (.iload_n 1, 1) := by decide +kernel
theorem dX9_pump_107 : decode cX9_pump 107 = .ok (.invokevirtual 250, 3) := by decide +kernel
theorem dX9_pump_110 : decode cX9_pump 110 = .ok (.ifCond .eq 7, 3) := by decide +kernel
theorem dX9_pump_113 : decode cX9_pump 113 = .ok (.iconst 1, 1) := by decide +kernel
theorem dX9_pump_114 : decode cX9_pump 114 = .ok (.goto 4, 3) := by decide +kernel
theorem dX9_pump_117 : decode cX9_pump 117 = .ok (.iconst 0, 1) := by decide +kernel
theorem dX9_pump_118 : decode cX9_pump 118 = .ok (.ireturn, 1) := by decide +kernel
theorem dX9_pump_119 : decode cX9_pump 119 = .ok (.aload_n 0, 1) := by decide +kernel
theorem dX9_pump_120 : decode cX9_pump 120 = .ok (.getfield 10, 3) := by decide +kernel
theorem dX9_pump_123 : decode cX9_pump 123 = .ok (.getfield 84, 3) := by decide +kernel
theorem dX9_pump_126 : decode cX9_pump 126 = .ok (.getfield 253, 3) := by decide +kernel
theorem dX9_pump_129 : decode cX9_pump 129 = .ok (.iload_n 1, 1) := by decide +kernel
theorem dX9_pump_130 : decode cX9_pump 130 = .ok (.iaload, 1) := by decide +kernel
theorem dX9_pump_131 : decode cX9_pump 131 = .ok (.ireturn, 1) := by decide +kernel
theorem dX9_pump_132 : decode cX9_pump 132 = .ok (.bipush (-2), 2) := by decide +kernel
theorem dX9_pump_134 : decode cX9_pump 134 = .ok (.ireturn, 1) := by decide +kernel
theorem dX9_level_0 : decode cX9_level 0 = .ok (.iload_n 1, 1) := by decide +kernel
theorem dX9_level_1 : decode cX9_level 1 = .ok (.tableswitch 57 0 2 #[27, 35, 46], 27) := by decide +kernel
theorem dX9_level_28 : decode cX9_level 28 = .ok (.aload_n 0, 1) := by decide +kernel
theorem dX9_level_29 : decode cX9_level 29 = .ok (.getfield 10, 3) := by decide +kernel
theorem dX9_level_32 : decode cX9_level 32 = .ok (.invokevirtual 256, 3) := by decide +kernel
theorem dX9_level_35 : decode cX9_level 35 = .ok (.dreturn, 1) := by decide +kernel
theorem dX9_level_36 : decode cX9_level 36 = .ok (.aload_n 0, 1) := by decide +kernel
theorem dX9_level_37 : decode cX9_level 37 = .ok (.getfield 10, 3) := by decide +kernel
theorem dX9_level_40 : decode cX9_level 40 = .ok (.getfield 118, 3) := by decide +kernel
theorem dX9_level_43 : decode cX9_level 43 = .ok (.invokevirtual 260, 3) := by decide +kernel
theorem dX9_level_46 : decode cX9_level 46 = .ok (.dreturn, 1) := by decide +kernel
theorem dX9_level_47 : decode cX9_level 47 = .ok (.aload_n 0, 1) := by decide +kernel
theorem dX9_level_48 : decode cX9_level 48 = .ok (.getfield 10, 3) := by decide +kernel
theorem dX9_level_51 : decode cX9_level 51 = .ok (.getfield 134, 3) := by decide +kernel
theorem dX9_level_54 : decode cX9_level 54 = .ok (.invokestatic 57, 3) := by decide +kernel
theorem dX9_level_57 : decode cX9_level 57 = .ok (.dreturn, 1) := by decide +kernel
theorem dX9_level_58 : decode cX9_level 58 = .ok (.ldc2_w 263, 3) := by decide +kernel
theorem dX9_level_61 : decode cX9_level 61 = .ok (.dreturn, 1) := by decide +kernel
theorem dX9_water_0 : decode cX9_water 0 = .ok (.iload_n 1, 1) := by decide +kernel
theorem dX9_water_1 : decode cX9_water 1 = .ok (.tableswitch 105 0 5 #[39, 50, 61, 72, 83, 94], 39) := by decide +kernel
theorem dX9_water_40 : decode cX9_water 40 = .ok (.aload_n 0, 1) := by decide +kernel
theorem dX9_water_41 : decode cX9_water 41 = .ok (.getfield 10, 3) := by decide +kernel
theorem dX9_water_44 : decode cX9_water 44 = .ok (.getfield 118, 3) := by decide +kernel
theorem dX9_water_47 : decode cX9_water 47 = .ok (.getfield 265, 3) := by decide +kernel
theorem dX9_water_50 : decode cX9_water 50 = .ok (.lreturn, 1) := by decide +kernel
theorem dX9_water_51 : decode cX9_water 51 = .ok (.aload_n 0, 1) := by decide +kernel
theorem dX9_water_52 : decode cX9_water 52 = .ok (.getfield 10, 3) := by decide +kernel
theorem dX9_water_55 : decode cX9_water 55 = .ok (.getfield 118, 3) := by decide +kernel
theorem dX9_water_58 : decode cX9_water 58 = .ok (.getfield 268, 3) := by decide +kernel
theorem dX9_water_61 : decode cX9_water 61 = .ok (.lreturn, 1) := by decide +kernel
theorem dX9_water_62 : decode cX9_water 62 = .ok (.aload_n 0, 1) := by decide +kernel
theorem dX9_water_63 : decode cX9_water 63 = .ok (.getfield 10, 3) := by decide +kernel
theorem dX9_water_66 : decode cX9_water 66 = .ok (.getfield 118, 3) := by decide +kernel
theorem dX9_water_69 : decode cX9_water 69 = .ok (.getfield 271, 3) := by decide +kernel
theorem dX9_water_72 : decode cX9_water 72 = .ok (.lreturn, 1) := by decide +kernel
theorem dX9_water_73 : decode cX9_water 73 = .ok (.aload_n 0, 1) := by decide +kernel
theorem dX9_water_74 : decode cX9_water 74 = .ok (.getfield 10, 3) := by decide +kernel
theorem dX9_water_77 : decode cX9_water 77 = .ok (.getfield 118, 3) := by decide +kernel
theorem dX9_water_80 : decode cX9_water 80 = .ok (.getfield 274, 3) := by decide +kernel
theorem dX9_water_83 : decode cX9_water 83 = .ok (.lreturn, 1) := by decide +kernel
theorem dX9_water_84 : decode cX9_water 84 = .ok (.aload_n 0, 1) := by decide +kernel
theorem dX9_water_85 : decode cX9_water 85 = .ok (.getfield 10, 3) := by decide +kernel
theorem dX9_water_88 : decode cX9_water 88 = .ok (.getfield 118, 3) := by decide +kernel
theorem dX9_water_91 : decode cX9_water 91 = .ok (.getfield 277, 3) := by decide +kernel
theorem dX9_water_94 : decode cX9_water 94 = .ok (.lreturn, 1) := by decide +kernel
theorem dX9_water_95 : decode cX9_water 95 = .ok (.aload_n 0, 1) := by decide +kernel
theorem dX9_water_96 : decode cX9_water 96 = .ok (.getfield 10, 3) := by decide +kernel
theorem dX9_water_99 : decode cX9_water 99 = .ok (.getfield 118, 3) := by decide +kernel
theorem dX9_water_102 : decode cX9_water 102 = .ok (.getfield 280, 3) := by decide +kernel
theorem dX9_water_105 : decode cX9_water 105 = .ok (.lreturn, 1) := by decide +kernel
theorem dX9_water_106 : decode cX9_water 106 = .ok (.ldc2_w 283, 3) := by decide +kernel
theorem dX9_water_109 : decode cX9_water 109 = .ok (.lreturn, 1) := by decide +kernel
theorem dX9_forecast_0 : decode cX9_forecast 0 = .ok (.iload_n 1, 1) := by decide +kernel
theorem dX9_forecast_1 : decode cX9_forecast 1 = .ok (.iconst 0, 1) := by decide +kernel
theorem dX9_forecast_2 : decode cX9_forecast 2 = .ok (.bipush 48, 2) := by decide +kernel
theorem dX9_forecast_4 : decode cX9_forecast 4 = .ok (.invokestatic 33, 3) := by decide +kernel
theorem dX9_forecast_7 : decode cX9_forecast 7 = .ok (.ifCond .eq 7, 3) := by decide +kernel
theorem dX9_forecast_10 : decode cX9_forecast 10 = .ok (.ldc2_w 263, 3) := by decide +kernel
theorem dX9_forecast_13 : decode cX9_forecast 13 = .ok (.dreturn, 1) := by decide +kernel
theorem dX9_forecast_14 : decode cX9_forecast 14 = .ok (.aload_n 0, 1) := by decide +kernel
theorem dX9_forecast_15 : decode cX9_forecast 15 = .ok (.getfield 16, 3) := by decide +kernel
theorem dX9_forecast_18 : decode cX9_forecast 18 = .ok (.aload_n 0, 1) := by decide +kernel
theorem dX9_forecast_19 : decode cX9_forecast 19 = .ok (.getfield 10, 3) := by decide +kernel
theorem dX9_forecast_22 : decode cX9_forecast 22 = .ok (.invokevirtual 228, 3) := by decide +kernel
theorem dX9_forecast_25 : decode cX9_forecast 25 = .ok (.aload_n 0, 1) := by decide +kernel
theorem dX9_forecast_26 : decode cX9_forecast 26 = .ok (.getfield 16, 3) := by decide +kernel
theorem dX9_forecast_29 : decode cX9_forecast 29 = .ok (.iload_n 1, 1) := by decide +kernel
theorem dX9_forecast_30 : decode cX9_forecast 30 = .ok (.invokevirtual 191, 3) := by decide +kernel
theorem dX9_forecast_33 : decode cX9_forecast 33 = .ok (.pop, 1) := by decide +kernel
theorem dX9_forecast_34 : decode cX9_forecast 34 = .ok (.aload_n 0, 1) := by decide +kernel
theorem dX9_forecast_35 : decode cX9_forecast 35 = .ok (.getfield 16, 3) := by decide +kernel
theorem dX9_forecast_38 : decode cX9_forecast 38 = .ok (.getfield 118, 3) := by decide +kernel
theorem dX9_forecast_41 : decode cX9_forecast 41 = .ok (.invokevirtual 260, 3) := by decide +kernel
theorem dX9_forecast_44 : decode cX9_forecast 44 = .ok (.dreturn, 1) := by decide +kernel
theorem dX9_shutIn_0 : decode cX9_shutIn 0 = .ok (.aload_n 0, 1) := by decide +kernel
theorem dX9_shutIn_1 : decode cX9_shutIn 1 = .ok (.getfield 16, 3) := by decide +kernel
theorem dX9_shutIn_4 : decode cX9_shutIn 4 = .ok (.aload_n 0, 1) := by decide +kernel
theorem dX9_shutIn_5 : decode cX9_shutIn 5 = .ok (.getfield 10, 3) := by decide +kernel
theorem dX9_shutIn_8 : decode cX9_shutIn 8 = .ok (.invokevirtual 228, 3) := by decide +kernel
theorem dX9_shutIn_11 : decode cX9_shutIn 11 = .ok (.iconst 0, 1) := by decide +kernel
theorem dX9_shutIn_12 : decode cX9_shutIn 12 = .ok (.istore_n 1, 1) := by decide +kernel
theorem dX9_shutIn_13 : decode cX9_shutIn 13 = .ok (.iload_n 1, 1) := by decide +kernel
theorem dX9_shutIn_14 : decode cX9_shutIn 14 = .ok (.bipush 48, 2) := by decide +kernel
theorem dX9_shutIn_16 : decode cX9_shutIn 16 = .ok (.if_icmp .gt 33, 3) := by decide +kernel
theorem dX9_shutIn_19 : decode cX9_shutIn 19 = .ok (.aload_n 0, 1) := by decide +kernel
theorem dX9_shutIn_20 : decode cX9_shutIn 20 = .ok (.getfield 16, 3) := by decide +kernel
theorem dX9_shutIn_23 : decode cX9_shutIn 23 = .ok (.getfield 43, 3) := by decide +kernel
theorem dX9_shutIn_26 : decode cX9_shutIn 26 = .ok (.invokevirtual 159, 3) := by decide +kernel
theorem dX9_shutIn_29 : decode cX9_shutIn 29 = .ok (.ifCond .eq 5, 3) := by decide +kernel
theorem dX9_shutIn_32 : decode cX9_shutIn 32 = .ok (.iload_n 1, 1) := by decide +kernel
theorem dX9_shutIn_33 : decode cX9_shutIn 33 = .ok (.ireturn, 1) := by decide +kernel
theorem dX9_shutIn_34 : decode cX9_shutIn 34 = .ok (.aload_n 0, 1) := by decide +kernel
theorem dX9_shutIn_35 : decode cX9_shutIn 35 = .ok (.getfield 16, 3) := by decide +kernel
theorem dX9_shutIn_38 : decode cX9_shutIn 38 = .ok (.iconst 1, 1) := by decide +kernel
theorem dX9_shutIn_39 : decode cX9_shutIn 39 = .ok (.invokevirtual 191, 3) := by decide +kernel
theorem dX9_shutIn_42 : decode cX9_shutIn 42 = .ok (.pop, 1) := by decide +kernel
theorem dX9_shutIn_43 : decode cX9_shutIn 43 = .ok (.iinc 1 1, 3) := by decide +kernel
theorem dX9_shutIn_46 : decode cX9_shutIn 46 = .ok (.goto (-33), 3) := by decide +kernel
theorem dX9_shutIn_49 : decode cX9_shutIn 49 = .ok (.bipush (-5), 2) := by decide +kernel
theorem dX9_shutIn_51 : decode cX9_shutIn 51 = .ok (.ireturn, 1) := by decide +kernel
theorem dX9_tide_0 : decode cX9_tide 0 = .ok (.iload_n 1, 1) := by decide +kernel
theorem dX9_tide_1 : decode cX9_tide 1 = .ok (.invokestatic 142, 3) := by decide +kernel
theorem dX9_tide_4 : decode cX9_tide 4 = .ok (.ifCond .eq 15, 3) := by decide +kernel
theorem dX9_tide_7 : decode cX9_tide 7 = .ok (.aload_n 0, 1) := by decide +kernel
theorem dX9_tide_8 : decode cX9_tide 8 = .ok (.getfield 10, 3) := by decide +kernel
theorem dX9_tide_11 : decode cX9_tide 11 = .ok (.getfield 145, 3) := by decide +kernel
theorem dX9_tide_14 : decode cX9_tide 14 = .ok (.iload_n 1, 1) := by decide +kernel
theorem dX9_tide_15 : decode cX9_tide 15 = .ok (.laload, 1) := by decide +kernel
theorem dX9_tide_16 : decode cX9_tide 16 = .ok (.goto 6, 3) := by decide +kernel
theorem dX9_tide_19 : decode cX9_tide 19 = .ok (.ldc2_w 283, 3) := by decide +kernel
theorem dX9_tide_22 : decode cX9_tide 22 = .ok (.lreturn, 1) := by decide +kernel
theorem dX9_count_0 : decode cX9_count 0 = .ok (.iload_n 1, 1) := by decide +kernel
theorem dX9_count_1 : decode cX9_count 1 = .ok (.tableswitch 170 0 10 #[59, 67, 75, 86, 98, 110, 121, 132, 140, 148, 159], 59) := by decide +kernel
theorem dX9_count_60 : decode cX9_count 60 = .ok (.aload_n 0, 1) := by decide +kernel
theorem dX9_count_61 : decode cX9_count 61 = .ok (.getfield 10, 3) := by decide +kernel
theorem dX9_count_64 : decode cX9_count 64 = .ok (.getfield 231, 3) := by decide +kernel
theorem dX9_count_67 : decode cX9_count 67 = .ok (.ireturn, 1) := by decide +kernel
theorem dX9_count_68 : decode cX9_count 68 = .ok (.aload_n 0, 1) := by decide +kernel
theorem dX9_count_69 : decode cX9_count 69 = .ok (.getfield 10, 3) := by decide +kernel
theorem dX9_count_72 : decode cX9_count 72 = .ok (.getfield 162, 3) := by decide +kernel
theorem dX9_count_75 : decode cX9_count 75 = .ok (.ireturn, 1) := by decide +kernel
theorem dX9_count_76 : decode cX9_count 76 = .ok (.aload_n 0, 1) := by decide +kernel
theorem dX9_count_77 : decode cX9_count 77 = .ok (.getfield 10, 3) := by decide +kernel
theorem dX9_count_80 : decode cX9_count 80 = .ok (.getfield 43, 3) := by decide +kernel
theorem dX9_count_83 : decode cX9_count 83 = .ok (.invokevirtual 171, 3) := by decide +kernel
theorem dX9_count_86 : decode cX9_count 86 = .ok (.ireturn, 1) := by decide +kernel
theorem dX9_count_87 : decode cX9_count 87 = .ok (.aload_n 0, 1) := by decide +kernel
theorem dX9_count_88 : decode cX9_count 88 = .ok (.getfield 10, 3) := by decide +kernel
theorem dX9_count_91 : decode cX9_count 91 = .ok (.getfield 43, 3) := by decide +kernel
theorem dX9_count_94 : decode cX9_count 94 = .ok (.iconst 2, 1) := by decide +kernel
theorem dX9_count_95 : decode cX9_count 95 = .ok (.invokevirtual 168, 3) := by decide +kernel
theorem dX9_count_98 : decode cX9_count 98 = .ok (.ireturn, 1) := by decide +kernel
theorem dX9_count_99 : decode cX9_count 99 = .ok (.aload_n 0, 1) := by decide +kernel
theorem dX9_count_100 : decode cX9_count 100 = .ok (.getfield 10, 3) := by decide +kernel
theorem dX9_count_103 : decode cX9_count 103 = .ok (.getfield 43, 3) := by decide +kernel
theorem dX9_count_106 : decode cX9_count 106 = .ok (.iconst 4, 1) := by decide +kernel
theorem dX9_count_107 : decode cX9_count 107 = .ok (.invokevirtual 168, 3) := by decide +kernel
theorem dX9_count_110 : decode cX9_count 110 = .ok (.ireturn, 1) := by decide +kernel
theorem dX9_count_111 : decode cX9_count 111 = .ok (.aload_n 0, 1) := by decide +kernel
theorem dX9_count_112 : decode cX9_count 112 = .ok (.getfield 10, 3) := by decide +kernel
theorem dX9_count_115 : decode cX9_count 115 = .ok (.getfield 65, 3) := by decide +kernel
theorem dX9_count_118 : decode cX9_count 118 = .ok (.invokevirtual 153, 3) := by decide +kernel
theorem dX9_count_121 : decode cX9_count 121 = .ok (.ireturn, 1) := by decide +kernel
theorem dX9_count_122 : decode cX9_count 122 = .ok (.aload_n 0, 1) := by decide +kernel
theorem dX9_count_123 : decode cX9_count 123 = .ok (.getfield 10, 3) := by decide +kernel
theorem dX9_count_126 : decode cX9_count 126 = .ok (.getfield 65, 3) := by decide +kernel
theorem dX9_count_129 : decode cX9_count 129 = .ok (.invokevirtual 285, 3) := by decide +kernel
theorem dX9_count_132 : decode cX9_count 132 = .ok (.ireturn, 1) := by decide +kernel
theorem dX9_count_133 : decode cX9_count 133 = .ok (.aload_n 0, 1) := by decide +kernel
theorem dX9_count_134 : decode cX9_count 134 = .ok (.getfield 10, 3) := by decide +kernel
theorem dX9_count_137 : decode cX9_count 137 = .ok (.getfield 288, 3) := by decide +kernel
theorem dX9_count_140 : decode cX9_count 140 = .ok (.ireturn, 1) := by decide +kernel
theorem dX9_count_141 : decode cX9_count 141 = .ok (.aload_n 0, 1) := by decide +kernel
theorem dX9_count_142 : decode cX9_count 142 = .ok (.getfield 10, 3) := by decide +kernel
theorem dX9_count_145 : decode cX9_count 145 = .ok (.getfield 291, 3) := by decide +kernel
theorem dX9_count_148 : decode cX9_count 148 = .ok (.ireturn, 1) := by decide +kernel
theorem dX9_count_149 : decode cX9_count 149 = .ok (.aload_n 0, 1) := by decide +kernel
theorem dX9_count_150 : decode cX9_count 150 = .ok (.getfield 10, 3) := by decide +kernel
theorem dX9_count_153 : decode cX9_count 153 = .ok (.getfield 118, 3) := by decide +kernel
theorem dX9_count_156 : decode cX9_count 156 = .ok (.getfield 122, 3) := by decide +kernel
theorem dX9_count_159 : decode cX9_count 159 = .ok (.ireturn, 1) := by decide +kernel
theorem dX9_count_160 : decode cX9_count 160 = .ok (.aload_n 0, 1) := by decide +kernel
theorem dX9_count_161 : decode cX9_count 161 = .ok (.getfield 10, 3) := by decide +kernel
theorem dX9_count_164 : decode cX9_count 164 = .ok (.getfield 84, 3) := by decide +kernel
theorem dX9_count_167 : decode cX9_count 167 = .ok (.getfield 128, 3) := by decide +kernel
theorem dX9_count_170 : decode cX9_count 170 = .ok (.ireturn, 1) := by decide +kernel
theorem dX9_count_171 : decode cX9_count 171 = .ok (.aload_n 0, 1) := by decide +kernel
theorem dX9_count_172 : decode cX9_count 172 = .ok (.iload_n 1, 1) := by decide +kernel
theorem dX9_count_173 : decode cX9_count 173 = .ok (.invokevirtual 294, 3) := by decide +kernel
theorem dX9_count_176 : decode cX9_count 176 = .ok (.ireturn, 1) := by decide +kernel
theorem dX9_size_0 : decode cX9_size 0 = .ok (.iload_n 1, 1) := by decide +kernel
theorem dX9_size_1 : decode cX9_size 1 = .ok (.tableswitch 114 11 17 #[43, 54, 65, 76, 87, 95, 103], 43) := by decide +kernel
theorem dX9_size_44 : decode cX9_size 44 = .ok (.aload_n 0, 1) := by decide +kernel
theorem dX9_size_45 : decode cX9_size 45 = .ok (.getfield 10, 3) := by decide +kernel
theorem dX9_size_48 : decode cX9_size 48 = .ok (.getfield 43, 3) := by decide +kernel
theorem dX9_size_51 : decode cX9_size 51 = .ok (.getfield 297, 3) := by decide +kernel
theorem dX9_size_54 : decode cX9_size 54 = .ok (.ireturn, 1) := by decide +kernel
theorem dX9_size_55 : decode cX9_size 55 = .ok (.aload_n 0, 1) := by decide +kernel
theorem dX9_size_56 : decode cX9_size 56 = .ok (.getfield 10, 3) := by decide +kernel
theorem dX9_size_59 : decode cX9_size 59 = .ok (.getfield 65, 3) := by decide +kernel
theorem dX9_size_62 : decode cX9_size 62 = .ok (.getfield 298, 3) := by decide +kernel
theorem dX9_size_65 : decode cX9_size 65 = .ok (.ireturn, 1) := by decide +kernel
theorem dX9_size_66 : decode cX9_size 66 = .ok (.aload_n 0, 1) := by decide +kernel
theorem dX9_size_67 : decode cX9_size 67 = .ok (.getfield 10, 3) := by decide +kernel
theorem dX9_size_70 : decode cX9_size 70 = .ok (.getfield 76, 3) := by decide +kernel
theorem dX9_size_73 : decode cX9_size 73 = .ok (.getfield 299, 3) := by decide +kernel
theorem dX9_size_76 : decode cX9_size 76 = .ok (.ireturn, 1) := by decide +kernel
theorem dX9_size_77 : decode cX9_size 77 = .ok (.aload_n 0, 1) := by decide +kernel
theorem dX9_size_78 : decode cX9_size 78 = .ok (.getfield 10, 3) := by decide +kernel
theorem dX9_size_81 : decode cX9_size 81 = .ok (.getfield 84, 3) := by decide +kernel
theorem dX9_size_84 : decode cX9_size 84 = .ok (.getfield 300, 3) := by decide +kernel
theorem dX9_size_87 : decode cX9_size 87 = .ok (.ireturn, 1) := by decide +kernel
theorem dX9_size_88 : decode cX9_size 88 = .ok (.aload_n 0, 1) := by decide +kernel
theorem dX9_size_89 : decode cX9_size 89 = .ok (.getfield 22, 3) := by decide +kernel
theorem dX9_size_92 : decode cX9_size 92 = .ok (.getfield 222, 3) := by decide +kernel
theorem dX9_size_95 : decode cX9_size 95 = .ok (.ireturn, 1) := by decide +kernel
theorem dX9_size_96 : decode cX9_size 96 = .ok (.aload_n 0, 1) := by decide +kernel
theorem dX9_size_97 : decode cX9_size 97 = .ok (.getfield 29, 3) := by decide +kernel
theorem dX9_size_100 : decode cX9_size 100 = .ok (.getfield 301, 3) := by decide +kernel
theorem dX9_size_103 : decode cX9_size 103 = .ok (.ireturn, 1) := by decide +kernel
theorem dX9_size_104 : decode cX9_size 104 = .ok (.aload_n 0, 1) := by decide +kernel
theorem dX9_size_105 : decode cX9_size 105 = .ok (.getfield 10, 3) := by decide +kernel
theorem dX9_size_108 : decode cX9_size 108 = .ok (.getfield 84, 3) := by decide +kernel
theorem dX9_size_111 : decode cX9_size 111 = .ok (.getfield 304, 3) := by decide +kernel
theorem dX9_size_114 : decode cX9_size 114 = .ok (.ireturn, 1) := by decide +kernel
theorem dX9_size_115 : decode cX9_size 115 = .ok (.bipush (-2), 2) := by decide +kernel
theorem dX9_size_117 : decode cX9_size 117 = .ok (.ireturn, 1) := by decide +kernel
theorem dX9_isOutside_0 : decode cX9_isOutside 0 = .ok (.iload_n 0, 1) := by decide +kernel
theorem dX9_isOutside_1 : decode cX9_isOutside 1 = .ok (.iload_n 1, 1) := by decide +kernel
theorem dX9_isOutside_2 : decode cX9_isOutside 2 = .ok (.if_icmp .lt 8, 3) := by decide +kernel
theorem dX9_isOutside_5 : decode cX9_isOutside 5 = .ok (.iload_n 0, 1) := by decide +kernel
theorem dX9_isOutside_6 : decode cX9_isOutside 6 = .ok (.iload_n 2, 1) := by decide +kernel
theorem dX9_isOutside_7 : decode cX9_isOutside 7 = .ok (.if_icmp .le 7, 3) := by decide +kernel
theorem dX9_isOutside_10 : decode cX9_isOutside 10 = .ok (.iconst 1, 1) := by decide +kernel
theorem dX9_isOutside_11 : decode cX9_isOutside 11 = .ok (.goto 4, 3) := by decide +kernel
theorem dX9_isOutside_14 : decode cX9_isOutside 14 = .ok (.iconst 0, 1) := by decide +kernel
theorem dX9_isOutside_15 : decode cX9_isOutside 15 = .ok (.ireturn, 1) := by decide +kernel
theorem dX9_isHourOfDay_0 : decode cX9_isHourOfDay 0 = .ok (.iload_n 0, 1) := by decide +kernel
theorem dX9_isHourOfDay_1 : decode cX9_isHourOfDay 1 = .ok (.ifCond .lt 13, 3) := by decide +kernel
theorem dX9_isHourOfDay_4 : decode cX9_isHourOfDay 4 = .ok (.iload_n 0, 1) := by decide +kernel
theorem dX9_isHourOfDay_5 : decode cX9_isHourOfDay 5 = .ok (.bipush 24, 2) := by decide +kernel
theorem dX9_isHourOfDay_7 : decode cX9_isHourOfDay 7 = .ok (.if_icmp .ge 7, 3) := by decide +kernel
theorem dX9_isHourOfDay_10 : decode cX9_isHourOfDay 10 = .ok (.iconst 1, 1) := by decide +kernel
theorem dX9_isHourOfDay_11 : decode cX9_isHourOfDay 11 = .ok (.goto 4, 3) := by decide +kernel
theorem dX9_isHourOfDay_14 : decode cX9_isHourOfDay 14 = .ok (.iconst 0, 1) := by decide +kernel
theorem dX9_isHourOfDay_15 : decode cX9_isHourOfDay 15 = .ok (.ireturn, 1) := by decide +kernel
theorem dJ9_floorMod_7cf53_0 : decode cJ9_floorMod_7cf53 0 = .ok (.iload_n 0, 1) := by decide +kernel
theorem dJ9_floorMod_7cf53_1 : decode cJ9_floorMod_7cf53 1 = .ok (.iload_n 1, 1) := by decide +kernel
theorem dJ9_floorMod_7cf53_2 : decode cJ9_floorMod_7cf53 2 = .ok (.irem, 1) := by decide +kernel
theorem dJ9_floorMod_7cf53_3 : decode cJ9_floorMod_7cf53 3 = .ok (.istore_n 2, 1) := by decide +kernel
theorem dJ9_floorMod_7cf53_4 : decode cJ9_floorMod_7cf53 4 = .ok (.iload_n 0, 1) := by decide +kernel
theorem dJ9_floorMod_7cf53_5 : decode cJ9_floorMod_7cf53 5 = .ok (.iload_n 1, 1) := by decide +kernel
theorem dJ9_floorMod_7cf53_6 : decode cJ9_floorMod_7cf53 6 = .ok (.ixor, 1) := by decide +kernel
theorem dJ9_floorMod_7cf53_7 : decode cJ9_floorMod_7cf53 7 = .ok (.ifCond .ge 11, 3) := by decide +kernel
theorem dJ9_floorMod_7cf53_10 : decode cJ9_floorMod_7cf53 10 = .ok (.iload_n 2, 1) := by decide +kernel
theorem dJ9_floorMod_7cf53_11 : decode cJ9_floorMod_7cf53 11 = .ok (.ifCond .eq 7, 3) := by decide +kernel
theorem dJ9_floorMod_7cf53_14 : decode cJ9_floorMod_7cf53 14 = .ok (.iload_n 2, 1) := by decide +kernel
theorem dJ9_floorMod_7cf53_15 : decode cJ9_floorMod_7cf53 15 = .ok (.iload_n 1, 1) := by decide +kernel
theorem dJ9_floorMod_7cf53_16 : decode cJ9_floorMod_7cf53 16 = .ok (.iadd, 1) := by decide +kernel
theorem dJ9_floorMod_7cf53_17 : decode cJ9_floorMod_7cf53 17 = .ok (.ireturn, 1) := by decide +kernel
theorem dJ9_floorMod_7cf53_18 : decode cJ9_floorMod_7cf53 18 = .ok (.iload_n 2, 1) := by decide +kernel
theorem dJ9_floorMod_7cf53_19 : decode cJ9_floorMod_7cf53 19 = .ok (.ireturn, 1) := by decide +kernel
theorem dJ9_abs_0f7a4_0 : decode cJ9_abs_0f7a4 0 = .ok (.iload_n 0, 1) := by decide +kernel
theorem dJ9_abs_0f7a4_1 : decode cJ9_abs_0f7a4 1 = .ok (.ifCond .ge 8, 3) := by decide +kernel
theorem dJ9_abs_0f7a4_4 : decode cJ9_abs_0f7a4 4 = .ok (.iload_n 0, 1) := by decide +kernel
theorem dJ9_abs_0f7a4_5 : decode cJ9_abs_0f7a4 5 = .ok (.ineg, 1) := by decide +kernel
theorem dJ9_abs_0f7a4_6 : decode cJ9_abs_0f7a4 6 = .ok (.goto 4, 3) := by decide +kernel
theorem dJ9_abs_0f7a4_9 : decode cJ9_abs_0f7a4 9 = .ok (.iload_n 0, 1) := by decide +kernel
theorem dJ9_abs_0f7a4_10 : decode cJ9_abs_0f7a4 10 = .ok (.ireturn, 1) := by decide +kernel
theorem dJ9_max_7cf53_0 : decode cJ9_max_7cf53 0 = .ok (.iload_n 0, 1) := by decide +kernel
theorem dJ9_max_7cf53_1 : decode cJ9_max_7cf53 1 = .ok (.iload_n 1, 1) := by decide +kernel
theorem dJ9_max_7cf53_2 : decode cJ9_max_7cf53 2 = .ok (.if_icmp .lt 7, 3) := by decide +kernel
theorem dJ9_max_7cf53_5 : decode cJ9_max_7cf53 5 = .ok (.iload_n 0, 1) := by decide +kernel
theorem dJ9_max_7cf53_6 : decode cJ9_max_7cf53 6 = .ok (.goto 4, 3) := by decide +kernel
theorem dJ9_max_7cf53_9 : decode cJ9_max_7cf53 9 = .ok (.iload_n 1, 1) := by decide +kernel
theorem dJ9_max_7cf53_10 : decode cJ9_max_7cf53 10 = .ok (.ireturn, 1) := by decide +kernel
theorem dJ9_min_7cf53_0 : decode cJ9_min_7cf53 0 = .ok (.iload_n 0, 1) := by decide +kernel
theorem dJ9_min_7cf53_1 : decode cJ9_min_7cf53 1 = .ok (.iload_n 1, 1) := by decide +kernel
theorem dJ9_min_7cf53_2 : decode cJ9_min_7cf53 2 = .ok (.if_icmp .gt 7, 3) := by decide +kernel
theorem dJ9_min_7cf53_5 : decode cJ9_min_7cf53 5 = .ok (.iload_n 0, 1) := by decide +kernel
theorem dJ9_min_7cf53_6 : decode cJ9_min_7cf53 6 = .ok (.goto 4, 3) := by decide +kernel
theorem dJ9_min_7cf53_9 : decode cJ9_min_7cf53 9 = .ok (.iload_n 1, 1) := by decide +kernel
theorem dJ9_min_7cf53_10 : decode cJ9_min_7cf53 10 = .ok (.ireturn, 1) := by decide +kernel
theorem dJ9_min_f86c9_0 : decode cJ9_min_f86c9 0 = .ok (.lload_n 0, 1) := by decide +kernel
theorem dJ9_min_f86c9_1 : decode cJ9_min_f86c9 1 = .ok (.lload_n 2, 1) := by decide +kernel
theorem dJ9_min_f86c9_2 : decode cJ9_min_f86c9 2 = .ok (.lcmp, 1) := by decide +kernel
theorem dJ9_min_f86c9_3 : decode cJ9_min_f86c9 3 = .ok (.ifCond .gt 7, 3) := by decide +kernel
theorem dJ9_min_f86c9_6 : decode cJ9_min_f86c9 6 = .ok (.lload_n 0, 1) := by decide +kernel
theorem dJ9_min_f86c9_7 : decode cJ9_min_f86c9 7 = .ok (.goto 4, 3) := by decide +kernel
theorem dJ9_min_f86c9_10 : decode cJ9_min_f86c9 10 = .ok (.lload_n 2, 1) := by decide +kernel
theorem dJ9_min_f86c9_11 : decode cJ9_min_f86c9 11 = .ok (.lreturn, 1) := by decide +kernel
